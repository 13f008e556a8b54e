theorem dX3_takesKnows_42 : decode cX3_takesKnows 42 = .ok (.getfield 73, 3) := by decide +kernel
theorem dX3_takesKnows_45 : decode cX3_takesKnows 45 = .ok (.iload_n 2, 1) := by decide +kernel
theorem dX3_takesKnows_46 : decode cX3_takesKnows 46 = .ok (.dup2, 1) := by decide +kernel
theorem dX3_takesKnows_47 : decode cX3_takesKnows 47 = .ok (.iaload, 1) := by decide +kernel
theorem dX3_takesKnows_48 : decode cX3_takesKnows 48 = .ok (.iconst 1, 1) := by decide +kernel
theorem dX3_takesKnows_49 : decode cX3_takesKnows 49 = .ok (.aload_n 0, 1) := by decide +kernel
theorem dX3_takesKnows_50 : decode cX3_takesKnows 50 = .ok (.getfield 30, 3) := by decide +kernel
theorem dX3_takesKnows_53 : decode cX3_takesKnows 53 = .ok (.ishl, 1) := by decide +kernel
theorem dX3_takesKnows_54 : decode cX3_takesKnows 54 = .ok (.ior, 1) := by decide +kernel
theorem dX3_takesKnows_55 : decode cX3_takesKnows 55 = .ok (.iastore, 1) := by decide +kernel
theorem dX3_takesKnows_56 : decode cX3_takesKnows 56 = .ok (.aload_n 0, 1) := by decide +kernel
theorem dX3_takesKnows_57 : decode cX3_takesKnows 57 = .ok (.invokevirtual 33, 3) := by decide +kernel
theorem dX3_takesKnows_60 : decode cX3_takesKnows 60 = .ok (.iconst 1, 1) := by decide +kernel
theorem dX3_takesKnows_61 : decode cX3_takesKnows 61 = .ok (.ireturn, 1) := by decide +kernel
theorem dX3_takesMove_0 : decode cX3_takesMove 0 = .ok (.aload_n 0, 1) := by decide +kernel
theorem dX3_takesMove_1 : decode cX3_takesMove 1 = .ok (.invokevirtual 33, 3) := by decide +kernel
theorem dX3_takesMove_4 : decode cX3_takesMove 4 = .ok (.aload_n 0, 1) := by decide +kernel
theorem dX3_takesMove_5 : decode cX3_takesMove 5 = .ok (.iconst 0, 1) := by decide +kernel
theorem dX3_takesMove_6 : decode cX3_takesMove 6 = .ok (.aload_n 1, 1) := by decide +kernel
theorem dX3_takesMove_7 : decode cX3_takesMove 7 = .ok (.getfield 70, 3) := by decide +kernel
theorem dX3_takesMove_10 : decode cX3_takesMove 10 = .ok (.iconst 1, 1) := by decide +kernel
theorem dX3_takesMove_11 : decode cX3_takesMove 11 = .ok (.isub, 1) := by decide +kernel
theorem dX3_takesMove_12 : decode cX3_takesMove 12 = .ok (.invokevirtual 62, 3) := by decide +kernel
theorem dX3_takesMove_15 : decode cX3_takesMove 15 = .ok (.ifCond .ne 5, 3) := by decide +kernel
theorem dX3_takesMove_18 : decode cX3_takesMove 18 = .ok (.iconst 0, 1) := by decide +kernel
theorem dX3_takesMove_19 : decode cX3_takesMove 19 = .ok (.ireturn, 1) := by decide +kernel
theorem dX3_takesMove_20 : decode cX3_takesMove 20 = .ok (.aload_n 0, 1) := by decide +kernel
theorem dX3_takesMove_21 : decode cX3_takesMove 21 = .ok (.getfield 30, 3) := by decide +kernel
theorem dX3_takesMove_24 : decode cX3_takesMove 24 = .ok (.istore_n 2, 1) := by decide +kernel
theorem dX3_takesMove_25 : decode cX3_takesMove 25 = .ok (.aload_n 0, 1) := by decide +kernel
theorem dX3_takesMove_26 : decode cX3_takesMove 26 = .ok (.invokevirtual 33, 3) := by decide +kernel
theorem dX3_takesMove_29 : decode cX3_takesMove 29 = .ok (.aload_n 0, 1) := by decide +kernel
theorem dX3_takesMove_30 : decode cX3_takesMove 30 = .ok (.aload_n 1, 1) := by decide +kernel
theorem dX3_takesMove_31 : decode cX3_takesMove 31 = .ok (.invokevirtual 59, 3) := by decide +kernel
theorem dX3_takesMove_34 : decode cX3_takesMove 34 = .ok (.ifCond .ne 5, 3) := by decide +kernel
theorem dX3_takesMove_37 : decode cX3_takesMove 37 = .ok (.iconst 0, 1) := by decide +kernel
theorem dX3_takesMove_38 : decode cX3_takesMove 38 = .ok (.ireturn, 1) := by decide +kernel
theorem dX3_takesMove_39 : decode cX3_takesMove 39 = .ok (.aload_n 1, 1) := by decide +kernel
theorem dX3_takesMove_40 : decode cX3_takesMove 40 = .ok (.iload_n 2, 1) := by decide +kernel
theorem dX3_takesMove_41 : decode cX3_takesMove 41 = .ok (.aload_n 0, 1) := by decide +kernel
theorem dX3_takesMove_42 : decode cX3_takesMove 42 = .ok (.getfield 30, 3) := by decide +kernel
theorem dX3_takesMove_45 : decode cX3_takesMove 45 = .ok (.invokevirtual 76, 3) := by decide +kernel
theorem dX3_takesMove_48 : decode cX3_takesMove 48 = .ok (.aload_n 0, 1) := by decide +kernel
theorem dX3_takesMove_49 : decode cX3_takesMove 49 = .ok (.invokevirtual 33, 3) := by decide +kernel
theorem dX3_takesMove_52 : decode cX3_takesMove 52 = .ok (.iconst 1, 1) := by decide +kernel
theorem dX3_takesMove_53 : decode cX3_takesMove 53 = .ok (.ireturn, 1) := by decide +kernel
theorem dX3_atEmptySeat_0 : decode cX3_atEmptySeat 0 = .ok (.aload_n 0, 1) := by decide +kernel
theorem dX3_atEmptySeat_1 : decode cX3_atEmptySeat 1 = .ok (.iconst 0, 1) := by decide +kernel
theorem dX3_atEmptySeat_2 : decode cX3_atEmptySeat 2 = .ok (.bipush 11, 2) := by decide +kernel
theorem dX3_atEmptySeat_4 : decode cX3_atEmptySeat 4 = .ok (.invokevirtual 62, 3) := by decide +kernel
theorem dX3_atEmptySeat_7 : decode cX3_atEmptySeat 7 = .ok (.ifCond .eq 19, 3) := by decide +kernel
theorem dX3_atEmptySeat_10 : decode cX3_atEmptySeat 10 = .ok (.aload_n 1, 1) := by decide +kernel
theorem dX3_atEmptySeat_11 : decode cX3_atEmptySeat 11 = .ok (.aload_n 0, 1) := by decide +kernel
theorem dX3_atEmptySeat_12 : decode cX3_atEmptySeat 12 = .ok (.getfield 30, 3) := by decide +kernel
theorem dX3_atEmptySeat_15 : decode cX3_atEmptySeat 15 = .ok (.invokevirtual 80, 3) := by decide +kernel
theorem dX3_atEmptySeat_18 : decode cX3_atEmptySeat 18 = .ok (.iconst (-1), 1) := by decide +kernel
theorem dX3_atEmptySeat_19 : decode cX3_atEmptySeat 19 = .ok (.if_icmp .ne 7, 3) := by decide +kernel
theorem dX3_atEmptySeat_22 : decode cX3_atEmptySeat 22 = .ok (.iconst 1, 1) := by decide +kernel
theorem dX3_atEmptySeat_23 : decode cX3_atEmptySeat 23 = .ok (.goto 4, 3) := by decide +kernel
theorem dX3_atEmptySeat_26 : decode cX3_atEmptySeat 26 = .ok (.iconst 0, 1) := by decide +kernel
theorem dX3_atEmptySeat_27 : decode cX3_atEmptySeat 27 = .ok (.ireturn, 1) := by decide +kernel
theorem dX3_atNumber_0 : decode cX3_atNumber 0 = .ok (.aload_n 0, 1) := by decide +kernel
theorem dX3_atNumber_1 : decode cX3_atNumber 1 = .ok (.getfield 27, 3) := by decide +kernel
theorem dX3_atNumber_4 : decode cX3_atNumber 4 = .ok (.iconst 2, 1) := by decide +kernel
theorem dX3_atNumber_5 : decode cX3_atNumber 5 = .ok (.if_icmp .ne 19, 3) := by decide +kernel
theorem dX3_atNumber_8 : decode cX3_atNumber 8 = .ok (.aload_n 0, 1) := by decide +kernel
theorem dX3_atNumber_9 : decode cX3_atNumber 9 = .ok (.getfield 30, 3) := by decide +kernel
theorem dX3_atNumber_12 : decode cX3_atNumber 12 = .ok (.iload_n 1, 1) := by decide +kernel
theorem dX3_atNumber_13 : decode cX3_atNumber 13 = .ok (.iload_n 2, 1) := by decide +kernel
theorem dX3_atNumber_14 : decode cX3_atNumber 14 = .ok (.invokestatic 84, 3) := by decide +kernel
theorem dX3_atNumber_17 : decode cX3_atNumber 17 = .ok (.ifCond .eq 7, 3) := by decide +kernel
theorem dX3_atNumber_20 : decode cX3_atNumber 20 = .ok (.iconst 1, 1) := by decide +kernel
theorem dX3_atNumber_21 : decode cX3_atNumber 21 = .ok (.goto 4, 3) := by decide +kernel
theorem dX3_atNumber_24 : decode cX3_atNumber 24 = .ok (.iconst 0, 1) := by decide +kernel
theorem dX3_atNumber_25 : decode cX3_atNumber 25 = .ok (.ireturn, 1) := by decide +kernel
theorem dX3_advance_0 : decode cX3_advance 0 = .ok (.aload_n 0, 1) := by decide +kernel
theorem dX3_advance_1 : decode cX3_advance 1 = .ok (.aload_n 0, 1) := by decide +kernel
theorem dX3_advance_2 : decode cX3_advance 2 = .ok (.getfield 24, 3) := by decide +kernel
theorem dX3_advance_5 : decode cX3_advance 5 = .ok (.putfield 21, 3) := by decide +kernel
theorem dX3_advance_8 : decode cX3_advance 8 = .ok (.aload_n 0, 1) := by decide +kernel
theorem dX3_advance_9 : decode cX3_advance 9 = .ok (.getfield 21, 3) := by decide +kernel
theorem dX3_advance_12 : decode cX3_advance 12 = .ok (.aload_n 0, 1) := by decide +kernel
theorem dX3_advance_13 : decode cX3_advance 13 = .ok (.getfield 11, 3) := by decide +kernel
theorem dX3_advance_16 : decode cX3_advance 16 = .ok (.if_icmp .ge 30, 3) := by decide +kernel
theorem dX3_advance_19 : decode cX3_advance 19 = .ok (.aload_n 0, 1) := by decide +kernel
theorem dX3_advance_20 : decode cX3_advance 20 = .ok (.getfield 17, 3) := by decide +kernel
theorem dX3_advance_23 : decode cX3_advance 23 = .ok (.aload_n 0, 1) := by decide +kernel
theorem dX3_advance_24 : decode cX3_advance 24 = .ok (.getfield 21, 3) := by decide +kernel
theorem dX3_advance_27 : decode cX3_advance 27 = .ok (.iaload, 1) := by decide +kernel
theorem dX3_advance_28 : decode cX3_advance 28 = .ok (.bipush 32, 2) := by decide +kernel
theorem dX3_advance_30 : decode cX3_advance 30 = .ok (.if_icmp .ne 16, 3) := by decide +kernel
theorem dX3_advance_33 : decode cX3_advance 33 = .ok (.aload_n 0, 1) := by decide +kernel
theorem dX3_advance_34 : decode cX3_advance 34 = .ok (.dup, 1) := by decide +kernel
theorem dX3_advance_35 : decode cX3_advance 35 = .ok (.getfield 21, 3) := by decide +kernel
theorem dX3_advance_38 : decode cX3_advance 38 = .ok (.iconst 1, 1) := by decide +kernel
theorem dX3_advance_39 : decode cX3_advance 39 = .ok (.iadd, 1) := by decide +kernel
theorem dX3_advance_40 : decode cX3_advance 40 = .ok (.putfield 21, 3) := by decide +kernel
theorem dX3_advance_43 : decode cX3_advance 43 = .ok (.goto (-35), 3) := by decide +kernel
theorem dX3_advance_46 : decode cX3_advance 46 = .ok (.aload_n 0, 1) := by decide +kernel
theorem dX3_advance_47 : decode cX3_advance 47 = .ok (.aload_n 0, 1) := by decide +kernel
theorem dX3_advance_48 : decode cX3_advance 48 = .ok (.getfield 21, 3) := by decide +kernel
theorem dX3_advance_51 : decode cX3_advance 51 = .ok (.putfield 24, 3) := by decide +kernel
theorem dX3_advance_54 : decode cX3_advance 54 = .ok (.aload_n 0, 1) := by decide +kernel
theorem dX3_advance_55 : decode cX3_advance 55 = .ok (.getfield 21, 3) := by decide +kernel
theorem dX3_advance_58 : decode cX3_advance 58 = .ok (.aload_n 0, 1) := by decide +kernel
theorem dX3_advance_59 : decode cX3_advance 59 = .ok (.getfield 11, 3) := by decide +kernel
theorem dX3_advance_62 : decode cX3_advance 62 = .ok (.if_icmp .lt 11, 3) := by decide +kernel
theorem dX3_advance_65 : decode cX3_advance 65 = .ok (.aload_n 0, 1) := by decide +kernel
theorem dX3_advance_66 : decode cX3_advance 66 = .ok (.iconst 0, 1) := by decide +kernel
theorem dX3_advance_67 : decode cX3_advance 67 = .ok (.putfield 27, 3) := by decide +kernel
theorem dX3_advance_70 : decode cX3_advance 70 = .ok (.goto 80, 3) := by decide +kernel
theorem dX3_advance_73 : decode cX3_advance 73 = .ok (.aload_n 0, 1) := by decide +kernel
theorem dX3_advance_74 : decode cX3_advance 74 = .ok (.getfield 17, 3) := by decide +kernel
theorem dX3_advance_77 : decode cX3_advance 77 = .ok (.aload_n 0, 1) := by decide +kernel
theorem dX3_advance_78 : decode cX3_advance 78 = .ok (.getfield 21, 3) := by decide +kernel
theorem dX3_advance_81 : decode cX3_advance 81 = .ok (.iaload, 1) := by decide +kernel
theorem dX3_advance_82 : decode cX3_advance 82 = .ok (.invokestatic 88, 3) := by decide +kernel
theorem dX3_advance_85 : decode cX3_advance 85 = .ok (.ifCond .eq 10, 3) := by decide +kernel
theorem dX3_advance_88 : decode cX3_advance 88 = .ok (.aload_n 0, 1) := by decide +kernel
theorem dX3_advance_89 : decode cX3_advance 89 = .ok (.invokevirtual 91, 3) := by decide +kernel
theorem dX3_advance_92 : decode cX3_advance 92 = .ok (.goto 58, 3) := by decide +kernel
theorem dX3_advance_95 : decode cX3_advance 95 = .ok (.aload_n 0, 1) := by decide +kernel
theorem dX3_advance_96 : decode cX3_advance 96 = .ok (.getfield 17, 3) := by decide +kernel
theorem dX3_advance_99 : decode cX3_advance 99 = .ok (.aload_n 0, 1) := by decide +kernel
theorem dX3_advance_100 : decode cX3_advance 100 = .ok (.getfield 21, 3) := by decide +kernel
theorem dX3_advance_103 : decode cX3_advance 103 = .ok (.iaload, 1) := by decide +kernel
theorem dX3_advance_104 : decode cX3_advance 104 = .ok (.invokestatic 94, 3) := by decide +kernel
theorem dX3_advance_107 : decode cX3_advance 107 = .ok (.ifCond .eq 10, 3) := by decide +kernel
theorem dX3_advance_110 : decode cX3_advance 110 = .ok (.aload_n 0, 1) := by decide +kernel
theorem dX3_advance_111 : decode cX3_advance 111 = .ok (.invokevirtual 97, 3) := by decide +kernel
theorem dX3_advance_114 : decode cX3_advance 114 = .ok (.goto 36, 3) := by decide +kernel
theorem dX3_advance_117 : decode cX3_advance 117 = .ok (.aload_n 0, 1) := by decide +kernel
theorem dX3_advance_118 : decode cX3_advance 118 = .ok (.aload_n 0, 1) := by decide +kernel
theorem dX3_advance_119 : decode cX3_advance 119 = .ok (.getfield 17, 3) := by decide +kernel
theorem dX3_advance_122 : decode cX3_advance 122 = .ok (.aload_n 0, 1) := by decide +kernel
theorem dX3_advance_123 : decode cX3_advance 123 = .ok (.getfield 21, 3) := by decide +kernel
theorem dX3_advance_126 : decode cX3_advance 126 = .ok (.iaload, 1) := by decide +kernel
theorem dX3_advance_127 : decode cX3_advance 127 = .ok (.bipush 59, 2) := by decide +kernel
theorem dX3_advance_129 : decode cX3_advance 129 = .ok (.if_icmp .ne 7, 3) := by decide +kernel
theorem dX3_advance_132 : decode cX3_advance 132 = .ok (.iconst 3, 1) := by decide +kernel
theorem dX3_advance_133 : decode cX3_advance 133 = .ok (.goto 4, 3) := by decide +kernel
theorem dX3_advance_136 : decode cX3_advance 136 = .ok (.iconst 4, 1) := by decide +kernel
theorem dX3_advance_137 : decode cX3_advance 137 = .ok (.putfield 27, 3) := by decide +kernel
theorem dX3_advance_140 : decode cX3_advance 140 = .ok (.aload_n 0, 1) := by decide +kernel
theorem dX3_advance_141 : decode cX3_advance 141 = .ok (.dup, 1) := by decide +kernel
theorem dX3_advance_142 : decode cX3_advance 142 = .ok (.getfield 24, 3) := by decide +kernel
theorem dX3_advance_145 : decode cX3_advance 145 = .ok (.iconst 1, 1) := by decide +kernel
theorem dX3_advance_146 : decode cX3_advance 146 = .ok (.iadd, 1) := by decide +kernel
theorem dX3_advance_147 : decode cX3_advance 147 = .ok (.putfield 24, 3) := by decide +kernel
theorem dX3_advance_150 : decode cX3_advance 150 = .ok (.return_, 1) := by decide +kernel
theorem dX3_takeWord_0 : decode cX3_takeWord 0 = .ok (.aload_n 0, 1) := by decide +kernel
theorem dX3_takeWord_1 : decode cX3_takeWord 1 = .ok (.iconst 1, 1) := by decide +kernel
theorem dX3_takeWord_2 : decode cX3_takeWord 2 = .ok (.putfield 27, 3) := by decide +kernel
theorem dX3_takeWord_5 : decode cX3_takeWord 5 = .ok (.aload_n 0, 1) := by decide +kernel
theorem dX3_takeWord_6 : decode cX3_takeWord 6 = .ok (.getfield 24, 3) := by decide +kernel
theorem dX3_takeWord_9 : decode cX3_takeWord 9 = .ok (.aload_n 0, 1) := by decide +kernel
theorem dX3_takeWord_10 : decode cX3_takeWord 10 = .ok (.getfield 11, 3) := by decide +kernel
theorem dX3_takeWord_13 : decode cX3_takeWord 13 = .ok (.if_icmp .ge 31, 3) := by decide +kernel
theorem dX3_takeWord_16 : decode cX3_takeWord 16 = .ok (.aload_n 0, 1) := by decide +kernel
theorem dX3_takeWord_17 : decode cX3_takeWord 17 = .ok (.getfield 17, 3) := by decide +kernel
theorem dX3_takeWord_20 : decode cX3_takeWord 20 = .ok (.aload_n 0, 1) := by decide +kernel
theorem dX3_takeWord_21 : decode cX3_takeWord 21 = .ok (.getfield 24, 3) := by decide +kernel
theorem dX3_takeWord_24 : decode cX3_takeWord 24 = .ok (.iaload, 1) := by decide +kernel
theorem dX3_takeWord_25 : decode cX3_takeWord 25 = .ok (.invokestatic 88, 3) := by decide +kernel
theorem dX3_takeWord_28 : decode cX3_takeWord 28 = .ok (.ifCond .eq 16, 3) := by decide +kernel
theorem dX3_takeWord_31 : decode cX3_takeWord 31 = .ok (.aload_n 0, 1) := by decide +kernel
theorem dX3_takeWord_32 : decode cX3_takeWord 32 = .ok (.dup, 1) := by decide +kernel
theorem dX3_takeWord_33 : decode cX3_takeWord 33 = .ok (.getfield 24, 3) := by decide +kernel
theorem dX3_takeWord_36 : decode cX3_takeWord 36 = .ok (.iconst 1, 1) := by decide +kernel
theorem dX3_takeWord_37 : decode cX3_takeWord 37 = .ok (.iadd, 1) := by decide +kernel
theorem dX3_takeWord_38 : decode cX3_takeWord 38 = .ok (.putfield 24, 3) := by decide +kernel
theorem dX3_takeWord_41 : decode cX3_takeWord 41 = .ok (.goto (-36), 3) := by decide +kernel
theorem dX3_takeWord_44 : decode cX3_takeWord 44 = .ok (.aload_n 0, 1) := by decide +kernel
theorem dX3_takeWord_45 : decode cX3_takeWord 45 = .ok (.iconst (-1), 1) := by decide +kernel
theorem dX3_takeWord_46 : decode cX3_takeWord 46 = .ok (.putfield 30, 3) := by decide +kernel
theorem dX3_takeWord_49 : decode cX3_takeWord 49 = .ok (.iconst 0, 1) := by decide +kernel
theorem dX3_takeWord_50 : decode cX3_takeWord 50 = .ok (.istore_n 1, 1) := by decide +kernel
theorem dX3_takeWord_51 : decode cX3_takeWord 51 = .ok (.iload_n 1, 1) := by decide +kernel
theorem dX3_takeWord_52 : decode cX3_takeWord 52 = .ok (.bipush 9, 2) := by decide +kernel
theorem dX3_takeWord_54 : decode cX3_takeWord 54 = .ok (.if_icmp .ge 25, 3) := by decide +kernel
theorem dX3_takeWord_57 : decode cX3_takeWord 57 = .ok (.aload_n 0, 1) := by decide +kernel
theorem dX3_takeWord_58 : decode cX3_takeWord 58 = .ok (.iload_n 1, 1) := by decide +kernel
theorem dX3_takeWord_59 : decode cX3_takeWord 59 = .ok (.invokestatic 100, 3) := by decide +kernel
theorem dX3_takeWord_62 : decode cX3_takeWord 62 = .ok (.invokevirtual 104, 3) := by decide +kernel
theorem dX3_takeWord_65 : decode cX3_takeWord 65 = .ok (.ifCond .eq 8, 3) := by decide +kernel
theorem dX3_takeWord_68 : decode cX3_takeWord 68 = .ok (.aload_n 0, 1) := by decide +kernel
theorem dX3_takeWord_69 : decode cX3_takeWord 69 = .ok (.iload_n 1, 1) := by decide +kernel
theorem dX3_takeWord_70 : decode cX3_takeWord 70 = .ok (.putfield 30, 3) := by decide +kernel
theorem dX3_takeWord_73 : decode cX3_takeWord 73 = .ok (.iinc 1 1, 3) := by decide +kernel
theorem dX3_takeWord_76 : decode cX3_takeWord 76 = .ok (.goto (-25), 3) := by decide +kernel
theorem dX3_takeWord_79 : decode cX3_takeWord 79 = .ok (.return_, 1) := by decide +kernel
theorem dX3_takeNumber_0 : decode cX3_takeNumber 0 = .ok (.aload_n 0, 1) := by decide +kernel
theorem dX3_takeNumber_1 : decode cX3_takeNumber 1 = .ok (.iconst 2, 1) := by decide +kernel
theorem dX3_takeNumber_2 : decode cX3_takeNumber 2 = .ok (.putfield 27, 3) := by decide +kernel
theorem dX3_takeNumber_5 : decode cX3_takeNumber 5 = .ok (.aload_n 0, 1) := by decide +kernel
theorem dX3_takeNumber_6 : decode cX3_takeNumber 6 = .ok (.iconst 0, 1) := by decide +kernel
theorem dX3_takeNumber_7 : decode cX3_takeNumber 7 = .ok (.putfield 30, 3) := by decide +kernel
theorem dX3_takeNumber_10 : decode cX3_takeNumber 10 = .ok (.aload_n 0, 1) := by decide +kernel
theorem dX3_takeNumber_11 : decode cX3_takeNumber 11 = .ok (.getfield 24, 3) := by decide +kernel
theorem dX3_takeNumber_14 : decode cX3_takeNumber 14 = .ok (.aload_n 0, 1) := by decide +kernel
theorem dX3_takeNumber_15 : decode cX3_takeNumber 15 = .ok (.getfield 11, 3) := by decide +kernel
theorem dX3_takeNumber_18 : decode cX3_takeNumber 18 = .ok (.if_icmp .ge 61, 3) := by decide +kernel
theorem dX3_takeNumber_21 : decode cX3_takeNumber 21 = .ok (.aload_n 0, 1) := by decide +kernel
theorem dX3_takeNumber_22 : decode cX3_takeNumber 22 = .ok (.getfield 17, 3) := by decide +kernel
theorem dX3_takeNumber_25 : decode cX3_takeNumber 25 = .ok (.aload_n 0, 1) := by decide +kernel
theorem dX3_takeNumber_26 : decode cX3_takeNumber 26 = .ok (.getfield 24, 3) := by decide +kernel
theorem dX3_takeNumber_29 : decode cX3_takeNumber 29 = .ok (.iaload, 1) := by decide +kernel
theorem dX3_takeNumber_30 : decode cX3_takeNumber 30 = .ok (.invokestatic 94, 3) := by decide +kernel
theorem dX3_takeNumber_33 : decode cX3_takeNumber 33 = .ok (.ifCond .eq 46, 3) := by decide +kernel
theorem dX3_takeNumber_36 : decode cX3_takeNumber 36 = .ok (.aload_n 0, 1) := by decide +kernel
theorem dX3_takeNumber_37 : decode cX3_takeNumber 37 = .ok (.sipush 1000, 3) := by decide +kernel
theorem dX3_takeNumber_40 : decode cX3_takeNumber 40 = .ok (.bipush 10, 2) := by decide +kernel
theorem dX3_takeNumber_42 : decode cX3_takeNumber 42 = .ok (.aload_n 0, 1) := by decide +kernel
theorem dX3_takeNumber_43 : decode cX3_takeNumber 43 = .ok (.getfield 30, 3) := by decide +kernel
theorem dX3_takeNumber_46 : decode cX3_takeNumber 46 = .ok (.imul, 1) := by decide +kernel
theorem dX3_takeNumber_47 : decode cX3_takeNumber 47 = .ok (.aload_n 0, 1) := by decide +kernel
theorem dX3_takeNumber_48 : decode cX3_takeNumber 48 = .ok (.getfield 17, 3) := by decide +kernel
theorem dX3_takeNumber_51 : decode cX3_takeNumber 51 = .ok (.aload_n 0, 1) := by decide +kernel
theorem dX3_takeNumber_52 : decode cX3_takeNumber 52 = .ok (.getfield 24, 3) := by decide +kernel
theorem dX3_takeNumber_55 : decode cX3_takeNumber 55 = .ok (.iaload, 1) := by decide +kernel
theorem dX3_takeNumber_56 : decode cX3_takeNumber 56 = .ok (.iadd, 1) := by decide +kernel
theorem dX3_takeNumber_57 : decode cX3_takeNumber 57 = .ok (.bipush 48, 2) := by decide +kernel
theorem dX3_takeNumber_59 : decode cX3_takeNumber 59 = .ok (.isub, 1) := by decide +kernel
theorem dX3_takeNumber_60 : decode cX3_takeNumber 60 = .ok (.invokestatic 108, 3) := by decide +kernel
theorem dX3_takeNumber_63 : decode cX3_takeNumber 63 = .ok (.putfield 30, 3) := by decide +kernel
theorem dX3_takeNumber_66 : decode cX3_takeNumber 66 = .ok (.aload_n 0, 1) := by decide +kernel
theorem dX3_takeNumber_67 : decode cX3_takeNumber 67 = .ok (.dup, 1) := by decide +kernel
theorem dX3_takeNumber_68 : decode cX3_takeNumber 68 = .ok (.getfield 24, 3) := by decide +kernel
theorem dX3_takeNumber_71 : decode cX3_takeNumber 71 = .ok (.iconst 1, 1) := by decide +kernel
theorem dX3_takeNumber_72 : decode cX3_takeNumber 72 = .ok (.iadd, 1) := by decide +kernel
theorem dX3_takeNumber_73 : decode cX3_takeNumber 73 = .ok (.putfield 24, 3) := by decide +kernel
theorem dX3_takeNumber_76 : decode cX3_takeNumber 76 = .ok (.goto (-66), 3) := by decide +kernel
theorem dX3_takeNumber_79 : decode cX3_takeNumber 79 = .ok (.return_, 1) := by decide +kernel
theorem dX3_isWord_0 : decode cX3_isWord 0 = .ok (.aload_n 1, 1) := by decide +kernel
theorem dX3_isWord_1 : decode cX3_isWord 1 = .ok (.invokevirtual 114, 3) := by decide +kernel
theorem dX3_isWord_4 : decode cX3_isWord 4 = .ok (.aload_n 0, 1) := by decide +kernel
theorem dX3_isWord_5 : decode cX3_isWord 5 = .ok (.getfield 24, 3) := by decide +kernel
theorem dX3_isWord_8 : decode cX3_isWord 8 = .ok (.aload_n 0, 1) := by decide +kernel
theorem dX3_isWord_9 : decode cX3_isWord 9 = .ok (.getfield 21, 3) := by decide +kernel
theorem dX3_isWord_12 : decode cX3_isWord 12 = .ok (.isub, 1) := by decide +kernel
theorem dX3_isWord_13 : decode cX3_isWord 13 = .ok (.if_icmp .eq 5, 3) := by decide +kernel
theorem dX3_isWord_16 : decode cX3_isWord 16 = .ok (.iconst 0, 1) := by decide +kernel
theorem dX3_isWord_17 : decode cX3_isWord 17 = .ok (.ireturn, 1) := by decide +kernel
theorem dX3_isWord_18 : decode cX3_isWord 18 = .ok (.iconst 0, 1) := by decide +kernel
theorem dX3_isWord_19 : decode cX3_isWord 19 = .ok (.istore_n 2, 1) := by decide +kernel
theorem dX3_isWord_20 : decode cX3_isWord 20 = .ok (.iload_n 2, 1) := by decide +kernel
theorem dX3_isWord_21 : decode cX3_isWord 21 = .ok (.aload_n 1, 1) := by decide +kernel
theorem dX3_isWord_22 : decode cX3_isWord 22 = .ok (.invokevirtual 114, 3) := by decide +kernel
theorem dX3_isWord_25 : decode cX3_isWord 25 = .ok (.if_icmp .ge 30, 3) := by decide +kernel
theorem dX3_isWord_28 : decode cX3_isWord 28 = .ok (.aload_n 0, 1) := by decide +kernel
theorem dX3_isWord_29 : decode cX3_isWord 29 = .ok (.getfield 17, 3) := by decide +kernel
theorem dX3_isWord_32 : decode cX3_isWord 32 = .ok (.aload_n 0, 1) := by decide +kernel
theorem dX3_isWord_33 : decode cX3_isWord 33 = .ok (.getfield 21, 3) := by decide +kernel
theorem dX3_isWord_36 : decode cX3_isWord 36 = .ok (.iload_n 2, 1) := by decide +kernel
theorem dX3_isWord_37 : decode cX3_isWord 37 = .ok (.iadd, 1) := by decide +kernel
theorem dX3_isWord_38 : decode cX3_isWord 38 = .ok (.iaload, 1) := by decide +kernel
theorem dX3_isWord_39 : decode cX3_isWord 39 = .ok (.aload_n 1, 1) := by decide +kernel
theorem dX3_isWord_40 : decode cX3_isWord 40 = .ok (.iload_n 2, 1) := by decide +kernel
theorem dX3_isWord_41 : decode cX3_isWord 41 = .ok (.invokevirtual 119, 3) := by decide +kernel
theorem dX3_isWord_44 : decode cX3_isWord 44 = .ok (.if_icmp .eq 5, 3) := by decide +kernel
theorem dX3_isWord_47 : decode cX3_isWord 47 = .ok (.iconst 0, 1) := by decide +kernel
theorem dX3_isWord_48 : decode cX3_isWord 48 = .ok (.ireturn, 1) := by decide +kernel
theorem dX3_isWord_49 : decode cX3_isWord 49 = .ok (.iinc 2 1, 3) := by decide +kernel
theorem dX3_isWord_52 : decode cX3_isWord 52 = .ok (.goto (-32), 3) := by decide +kernel
theorem dX3_isWord_55 : decode cX3_isWord 55 = .ok (.iconst 1, 1) := by decide +kernel
theorem dX3_isWord_56 : decode cX3_isWord 56 = .ok (.ireturn, 1) := by decide +kernel
theorem dX3_spelling_0 : decode cX3_spelling 0 = .ok (.iload_n 0, 1) := by decide +kernel
theorem dX3_spelling_1 : decode cX3_spelling 1 = .ok (.tableswitch 71 0 7 #[47, 50, 53, 56, 59, 62, 65, 68], 47) := by decide +kernel
theorem dX3_spelling_48 : decode cX3_spelling 48 = .ok (.ldc 123, 2) := by decide +kernel
theorem dX3_spelling_50 : decode cX3_spelling 50 = .ok (.areturn, 1) := by decide +kernel
theorem dX3_spelling_51 : decode cX3_spelling 51 = .ok (.ldc 125, 2) := by decide +kernel
theorem dX3_spelling_53 : decode cX3_spelling 53 = .ok (.areturn, 1) := by decide +kernel
theorem dX3_spelling_54 : decode cX3_spelling 54 = .ok (.ldc 127, 2) := by decide +kernel
theorem dX3_spelling_56 : decode cX3_spelling 56 = .ok (.areturn, 1) := by decide +kernel
theorem dX3_spelling_57 : decode cX3_spelling 57 = .ok (.ldc 129, 2) := by decide +kernel
theorem dX3_spelling_59 : decode cX3_spelling 59 = .ok (.areturn, 1) := by decide +kernel
theorem dX3_spelling_60 : decode cX3_spelling 60 = .ok (.ldc 131, 2) := by decide +kernel
theorem dX3_spelling_62 : decode cX3_spelling 62 = .ok (.areturn, 1) := by decide +kernel
theorem dX3_spelling_63 : decode cX3_spelling 63 = .ok (.ldc 133, 2) := by decide +kernel
theorem dX3_spelling_65 : decode cX3_spelling 65 = .ok (.areturn, 1) := by decide +kernel
theorem dX3_spelling_66 : decode cX3_spelling 66 = .ok (.ldc 135, 2) := by decide +kernel
theorem dX3_spelling_68 : decode cX3_spelling 68 = .ok (.areturn, 1) := by decide +kernel
theorem dX3_spelling_69 : decode cX3_spelling 69 = .ok (.ldc 136, 2) := by decide +kernel
theorem dX3_spelling_71 : decode cX3_spelling 71 = .ok (.areturn, 1) := by decide +kernel
theorem dX3_spelling_72 : decode cX3_spelling 72 = .ok (.ldc 138, 2) := by decide +kernel
theorem dX3_spelling_74 : decode cX3_spelling 74 = .ok (.areturn, 1) := by decide +kernel
theorem dX3_isLetter_0 : decode cX3_isLetter 0 = .ok (.iload_n 0, 1) := by decide +kernel
theorem dX3_isLetter_1 : decode cX3_isLetter 1 = .ok (.bipush 97, 2) := by decide +kernel
theorem dX3_isLetter_3 : decode cX3_isLetter 3 = .ok (.if_icmp .lt 13, 3) := by decide +kernel
theorem dX3_isLetter_6 : decode cX3_isLetter 6 = .ok (.iload_n 0, 1) := by decide +kernel
theorem dX3_isLetter_7 : decode cX3_isLetter 7 = .ok (.bipush 122, 2) := by decide +kernel
theorem dX3_isLetter_9 : decode cX3_isLetter 9 = .ok (.if_icmp .gt 7, 3) := by decide +kernel
theorem dX3_isLetter_12 : decode cX3_isLetter 12 = .ok (.iconst 1, 1) := by decide +kernel
theorem dX3_isLetter_13 : decode cX3_isLetter 13 = .ok (.goto 4, 3) := by decide +kernel
theorem dX3_isLetter_16 : decode cX3_isLetter 16 = .ok (.iconst 0, 1) := by decide +kernel
theorem dX3_isLetter_17 : decode cX3_isLetter 17 = .ok (.ireturn, 1) := by decide +kernel
theorem dX3_isDigit_0 : decode cX3_isDigit 0 = .ok (.iload_n 0, 1) := by decide +kernel
theorem dX3_isDigit_1 : decode cX3_isDigit 1 = .ok (.bipush 48, 2) := by decide +kernel
theorem dX3_isDigit_3 : decode cX3_isDigit 3 = .ok (.if_icmp .lt 13, 3) := by decide +kernel
theorem dX3_isDigit_6 : decode cX3_isDigit 6 = .ok (.iload_n 0, 1) := by decide +kernel
theorem dX3_isDigit_7 : decode cX3_isDigit 7 = .ok (.bipush 57, 2) := by decide +kernel
theorem dX3_isDigit_9 : decode cX3_isDigit 9 = .ok (.if_icmp .gt 7, 3) := by decide +kernel
theorem dX3_isDigit_12 : decode cX3_isDigit 12 = .ok (.iconst 1, 1) := by decide +kernel
theorem dX3_isDigit_13 : decode cX3_isDigit 13 = .ok (.goto 4, 3) := by decide +kernel
theorem dX3_isDigit_16 : decode cX3_isDigit 16 = .ok (.iconst 0, 1) := by decide +kernel
theorem dX3_isDigit_17 : decode cX3_isDigit 17 = .ok (.ireturn, 1) := by decide +kernel
theorem dJ0_length_8abf5_0 : decode cJ0_length_8abf5 0 = .ok (.aload_n 0, 1) := by decide +kernel
theorem dJ0_length_8abf5_1 : decode cJ0_length_8abf5 1 = .ok (.getfield 9, 3) := by decide +kernel
theorem dJ0_length_8abf5_4 : decode cJ0_length_8abf5 4 = .ok (.arraylength, 1) := by decide +kernel
theorem dJ0_length_8abf5_5 : decode cJ0_length_8abf5 5 = .ok (.aload_n 0, 1) := by decide +kernel
theorem dJ0_length_8abf5_6 : decode cJ0_length_8abf5 6 = .ok (.invokevirtual 335, 3) := by decide +kernel
theorem dJ0_length_8abf5_9 : decode cJ0_length_8abf5 9 = .ok (.ishr, 1) := by decide +kernel
theorem dJ0_length_8abf5_10 : decode cJ0_length_8abf5 10 = .ok (.ireturn, 1) := by decide +kernel
theorem dJ0_charAt_5068e_0 : decode cJ0_charAt_5068e 0 = .ok (.aload_n 0, 1) := by decide +kernel
theorem dJ0_charAt_5068e_1 : decode cJ0_charAt_5068e 1 = .ok (.invokevirtual 492, 3) := by decide +kernel
theorem dJ0_charAt_5068e_4 : decode cJ0_charAt_5068e 4 = .ok (.ifCond .eq 12, 3) := by decide +kernel
theorem dJ0_charAt_5068e_7 : decode cJ0_charAt_5068e 7 = .ok (.aload_n 0, 1) := by decide +kernel
theorem dJ0_charAt_5068e_8 : decode cJ0_charAt_5068e 8 = .ok (.getfield 9, 3) := by decide +kernel
theorem dJ0_charAt_5068e_11 : decode cJ0_charAt_5068e 11 = .ok (.iload_n 1, 1) := by decide +kernel
theorem dJ0_charAt_5068e_12 : decode cJ0_charAt_5068e 12 = .ok (.invokestatic 495, 3) := by decide +kernel
theorem dJ0_charAt_5068e_15 : decode cJ0_charAt_5068e 15 = .ok (.ireturn, 1) := by decide +kernel
theorem dJ0_charAt_5068e_16 : decode cJ0_charAt_5068e 16 = .ok (.aload_n 0, 1) := by decide +kernel
theorem dJ0_charAt_5068e_17 : decode cJ0_charAt_5068e 17 = .ok (.getfield 9, 3) := by decide +kernel
theorem dJ0_charAt_5068e_20 : decode cJ0_charAt_5068e 20 = .ok (.iload_n 1, 1) := by decide +kernel
theorem dJ0_charAt_5068e_21 : decode cJ0_charAt_5068e 21 = .ok (.invokestatic 498, 3) := by decide +kernel
theorem dJ0_charAt_5068e_24 : decode cJ0_charAt_5068e 24 = .ok (.ireturn, 1) := by decide +kernel
theorem dJ0_coder_7d493_0 : decode cJ0_coder_7d493 0 = .ok (.getstatic 38, 3) := by decide +kernel
theorem dJ0_coder_7d493_3 : decode cJ0_coder_7d493 3 = .ok (.ifCond .eq 10, 3) := by decide +kernel
theorem dJ0_coder_7d493_6 : decode cJ0_coder_7d493 6 = .ok (.aload_n 0, 1) := by decide +kernel
theorem dJ0_coder_7d493_7 : decode cJ0_coder_7d493 7 = .ok (.getfield 15, 3) := by decide +kernel
theorem dJ0_coder_7d493_10 : decode cJ0_coder_7d493 10 = .ok (.goto 4, 3) := by decide +kernel
theorem dJ0_coder_7d493_13 : decode cJ0_coder_7d493 13 = .ok (.iconst 1, 1) := by decide +kernel
theorem dJ0_coder_7d493_14 : decode cJ0_coder_7d493 14 = .ok (.ireturn, 1) := by decide +kernel
theorem dJ0_isLatin1_aae02_0 : decode cJ0_isLatin1_aae02 0 = .ok (.getstatic 38, 3) := by decide +kernel
theorem dJ0_isLatin1_aae02_3 : decode cJ0_isLatin1_aae02 3 = .ok (.ifCond .eq 14, 3) := by decide +kernel
theorem dJ0_isLatin1_aae02_6 : decode cJ0_isLatin1_aae02 6 = .ok (.aload_n 0, 1) := by decide +kernel
theorem dJ0_isLatin1_aae02_7 : decode cJ0_isLatin1_aae02 7 = .ok (.getfield 15, 3) := by decide +kernel
theorem dJ0_isLatin1_aae02_10 : decode cJ0_isLatin1_aae02 10 = .ok (.ifCond .ne 7, 3) := by decide +kernel
theorem dJ0_isLatin1_aae02_13 : decode cJ0_isLatin1_aae02 13 = .ok (.iconst 1, 1) := by decide +kernel
theorem dJ0_isLatin1_aae02_14 : decode cJ0_isLatin1_aae02 14 = .ok (.goto 4, 3) := by decide +kernel
theorem dJ0_isLatin1_aae02_17 : decode cJ0_isLatin1_aae02 17 = .ok (.iconst 0, 1) := by decide +kernel
theorem dJ0_isLatin1_aae02_18 : decode cJ0_isLatin1_aae02 18 = .ok (.ireturn, 1) := by decide +kernel
theorem dJ0_checkIndex_df160_0 : decode cJ0_checkIndex_df160 0 = .ok (.iload_n 0, 1) := by decide +kernel
theorem dJ0_checkIndex_df160_1 : decode cJ0_checkIndex_df160 1 = .ok (.iload_n 1, 1) := by decide +kernel
theorem dJ0_checkIndex_df160_2 : decode cJ0_checkIndex_df160 2 = .ok (.getstatic 1053, 3) := by decide +kernel
theorem dJ0_checkIndex_df160_5 : decode cJ0_checkIndex_df160 5 = .ok (.invokestatic 1059, 3) := by decide +kernel
theorem dJ0_checkIndex_df160_8 : decode cJ0_checkIndex_df160 8 = .ok (.pop, 1) := by decide +kernel
theorem dJ0_checkIndex_df160_9 : decode cJ0_checkIndex_df160 9 = .ok (.return_, 1) := by decide +kernel
theorem dJ1_charAt_3b067_0 : decode cJ1_charAt_3b067 0 = .ok (.iload_n 1, 1) := by decide +kernel
theorem dJ1_charAt_3b067_1 : decode cJ1_charAt_3b067 1 = .ok (.aload_n 0, 1) := by decide +kernel
theorem dJ1_charAt_3b067_2 : decode cJ1_charAt_3b067 2 = .ok (.arraylength, 1) := by decide +kernel
theorem dJ1_charAt_3b067_3 : decode cJ1_charAt_3b067 3 = .ok (.invokestatic 9, 3) := by decide +kernel
theorem dJ1_charAt_3b067_6 : decode cJ1_charAt_3b067 6 = .ok (.aload_n 0, 1) := by decide +kernel
theorem dJ1_charAt_3b067_7 : decode cJ1_charAt_3b067 7 = .ok (.iload_n 1, 1) := by decide +kernel
theorem dJ1_charAt_3b067_8 : decode cJ1_charAt_3b067 8 = .ok (.baload, 1) := by decide +kernel
theorem dJ1_charAt_3b067_9 : decode cJ1_charAt_3b067 9 = .ok (.sipush 255, 3) := by decide +kernel
theorem dJ1_charAt_3b067_12 : decode cJ1_charAt_3b067 12 = .ok (.iand, 1) := by decide +kernel
theorem dJ1_charAt_3b067_13 : decode cJ1_charAt_3b067 13 = .ok (.i2c, 1) := by decide +kernel
theorem dJ1_charAt_3b067_14 : decode cJ1_charAt_3b067 14 = .ok (.ireturn, 1) := by decide +kernel
theorem dJ2_getChar_3b067_0 : decode cJ2_getChar_3b067 0 = .ok (.getstatic 44, 3) := by decide +kernel
theorem dJ2_getChar_3b067_3 : decode cJ2_getChar_3b067 3 = .ok (.ifCond .ne 25, 3) := by decide +kernel
theorem dJ2_getChar_3b067_6 : decode cJ2_getChar_3b067 6 = .ok (.iload_n 1, 1) := by decide +kernel
theorem dJ2_getChar_3b067_7 : decode cJ2_getChar_3b067 7 = .ok (.ifCond .lt 11, 3) := by decide +kernel
theorem dJ2_getChar_3b067_10 : decode cJ2_getChar_3b067 10 = .ok (.iload_n 1, 1) := by decide +kernel
theorem dJ2_getChar_3b067_11 : decode cJ2_getChar_3b067 11 = .ok (.aload_n 0, 1) := by decide +kernel
theorem dJ2_getChar_3b067_12 : decode cJ2_getChar_3b067 12 = .ok (.invokestatic 48, 3) := by decide +kernel
theorem dJ2_getChar_3b067_15 : decode cJ2_getChar_3b067 15 = .ok (.if_icmp .lt 13, 3) := by decide +kernel
theorem dJ2_getChar_3b067_18 : decode cJ2_getChar_3b067 18 = .ok (.new 52, 3) := by decide +kernel
theorem dJ2_getChar_3b067_21 : decode cJ2_getChar_3b067 21 = .ok (.dup, 1) := by decide +kernel
theorem dJ2_getChar_3b067_22 : decode cJ2_getChar_3b067 22 = .ok (.ldc 54, 2) := by decide +kernel
theorem dJ2_getChar_3b067_24 : decode cJ2_getChar_3b067 24 = .ok (.invokespecial 56, 3) := by decide +kernel
theorem dJ2_getChar_3b067_27 : decode cJ2_getChar_3b067 27 = .ok (.athrow, 1) := by decide +kernel
theorem dJ2_getChar_3b067_28 : decode cJ2_getChar_3b067 28 = .ok (.iload_n 1, 1) := by decide +kernel
theorem dJ2_getChar_3b067_29 : decode cJ2_getChar_3b067 29 = .ok (.iconst 1, 1) := by decide +kernel
theorem dJ2_getChar_3b067_30 : decode cJ2_getChar_3b067 30 = .ok (.ishl, 1) := by decide +kernel
theorem dJ2_getChar_3b067_31 : decode cJ2_getChar_3b067 31 = .ok (.istore_n 1, 1) := by decide +kernel
theorem dJ2_getChar_3b067_32 : decode cJ2_getChar_3b067 32 = .ok (.aload_n 0, 1) := by decide +kernel
theorem dJ2_getChar_3b067_33 : decode cJ2_getChar_3b067 33 = .ok (.iload_n 1, 1) := by decide +kernel
theorem dJ2_getChar_3b067_34 : decode cJ2_getChar_3b067 34 = .ok (.iinc 1 1, 3) := by decide +kernel
theorem dJ2_getChar_3b067_37 : decode cJ2_getChar_3b067 37 = .ok (.baload, 1) := by decide +kernel
theorem dJ2_getChar_3b067_38 : decode cJ2_getChar_3b067 38 = .ok (.sipush 255, 3) := by decide +kernel
theorem dJ2_getChar_3b067_41 : decode cJ2_getChar_3b067 41 = .ok (.iand, 1) := by decide +kernel
theorem dJ2_getChar_3b067_42 : decode cJ2_getChar_3b067 42 = .ok (.getstatic 59, 3) := by decide +kernel
theorem dJ2_getChar_3b067_45 : decode cJ2_getChar_3b067 45 = .ok (.ishl, 1) := by decide +kernel
theorem dJ2_getChar_3b067_46 : decode cJ2_getChar_3b067 46 = .ok (.aload_n 0, 1) := by decide +kernel
theorem dJ2_getChar_3b067_47 : decode cJ2_getChar_3b067 47 = .ok (.iload_n 1, 1) := by decide +kernel
theorem dJ2_getChar_3b067_48 : decode cJ2_getChar_3b067 48 = .ok (.baload, 1) := by decide +kernel
theorem dJ2_getChar_3b067_49 : decode cJ2_getChar_3b067 49 = .ok (.sipush 255, 3) := by decide +kernel
theorem dJ2_getChar_3b067_52 : decode cJ2_getChar_3b067 52 = .ok (.iand, 1) := by decide +kernel
theorem dJ2_getChar_3b067_53 : decode cJ2_getChar_3b067 53 = .ok (.getstatic 63, 3) := by decide +kernel
theorem dJ2_getChar_3b067_56 : decode cJ2_getChar_3b067 56 = .ok (.ishl, 1) := by decide +kernel
theorem dJ2_getChar_3b067_57 : decode cJ2_getChar_3b067 57 = .ok (.ior, 1) := by decide +kernel
theorem dJ2_getChar_3b067_58 : decode cJ2_getChar_3b067 58 = .ok (.i2c, 1) := by decide +kernel
theorem dJ2_getChar_3b067_59 : decode cJ2_getChar_3b067 59 = .ok (.ireturn, 1) := by decide +kernel
theorem dJ2_length_9d52b_0 : decode cJ2_length_9d52b 0 = .ok (.aload_n 0, 1) := by decide +kernel
theorem dJ2_length_9d52b_1 : decode cJ2_length_9d52b 1 = .ok (.arraylength, 1) := by decide +kernel
theorem dJ2_length_9d52b_2 : decode cJ2_length_9d52b 2 = .ok (.iconst 1, 1) := by decide +kernel
theorem dJ2_length_9d52b_3 : decode cJ2_length_9d52b 3 = .ok (.ishr, 1) := by decide +kernel
theorem dJ2_length_9d52b_4 : decode cJ2_length_9d52b 4 = .ok (.ireturn, 1) := by decide +kernel
theorem dJ2_charAt_3b067_0 : decode cJ2_charAt_3b067 0 = .ok (.iload_n 1, 1) := by decide +kernel
theorem dJ2_charAt_3b067_1 : decode cJ2_charAt_3b067 1 = .ok (.aload_n 0, 1) := by decide +kernel
theorem dJ2_charAt_3b067_2 : decode cJ2_charAt_3b067 2 = .ok (.invokestatic 67, 3) := by decide +kernel
theorem dJ2_charAt_3b067_5 : decode cJ2_charAt_3b067 5 = .ok (.aload_n 0, 1) := by decide +kernel
theorem dJ2_charAt_3b067_6 : decode cJ2_charAt_3b067 6 = .ok (.iload_n 1, 1) := by decide +kernel
theorem dJ2_charAt_3b067_7 : decode cJ2_charAt_3b067 7 = .ok (.invokestatic 71, 3) := by decide +kernel
theorem dJ2_charAt_3b067_10 : decode cJ2_charAt_3b067 10 = .ok (.ireturn, 1) := by decide +kernel
theorem dJ2_checkIndex_2214a_0 : decode cJ2_checkIndex_2214a 0 = .ok (.iload_n 0, 1) := by decide +kernel
theorem dJ2_checkIndex_2214a_1 : decode cJ2_checkIndex_2214a 1 = .ok (.aload_n 1, 1) := by decide +kernel
theorem dJ2_checkIndex_2214a_2 : decode cJ2_checkIndex_2214a 2 = .ok (.invokestatic 48, 3) := by decide +kernel
theorem dJ2_checkIndex_2214a_5 : decode cJ2_checkIndex_2214a 5 = .ok (.invokestatic 414, 3) := by decide +kernel
theorem dJ2_checkIndex_2214a_8 : decode cJ2_checkIndex_2214a 8 = .ok (.return_, 1) := by decide +kernel
theorem dJ3_checkIndex_8e157_0 : decode cJ3_checkIndex_8e157 0 = .ok (.iload_n 0, 1) := by decide +kernel
theorem dJ3_checkIndex_8e157_1 : decode cJ3_checkIndex_8e157 1 = .ok (.ifCond .lt 8, 3) := by decide +kernel
theorem dJ3_checkIndex_8e157_4 : decode cJ3_checkIndex_8e157 4 = .ok (.iload_n 0, 1) := by decide +kernel
theorem dJ3_checkIndex_8e157_5 : decode cJ3_checkIndex_8e157 5 = .ok (.iload_n 1, 1) := by decide +kernel
theorem dJ3_checkIndex_8e157_6 : decode cJ3_checkIndex_8e157 6 = .ok (.if_icmp .lt 10, 3) := by decide +kernel
theorem dJ3_checkIndex_8e157_9 : decode cJ3_checkIndex_8e157 9 = .ok (.aload_n 2, 1) := by decide +kernel
theorem dJ3_checkIndex_8e157_10 : decode cJ3_checkIndex_8e157 10 = .ok (.iload_n 0, 1) := by decide +kernel
theorem dJ3_checkIndex_8e157_11 : decode cJ3_checkIndex_8e157 11 = .ok (.iload_n 1, 1) := by decide +kernel
theorem dJ3_checkIndex_8e157_12 : decode cJ3_checkIndex_8e157 12 = .ok (.invokestatic 95, 3) := by decide +kernel
theorem dJ3_checkIndex_8e157_15 : decode cJ3_checkIndex_8e157 15 = .ok (.athrow, 1) := by decide +kernel
theorem dJ3_checkIndex_8e157_16 : decode cJ3_checkIndex_8e157 16 = .ok (.iload_n 0, 1) := by decide +kernel
theorem dJ3_checkIndex_8e157_17 : decode cJ3_checkIndex_8e157 17 = .ok (.ireturn, 1) := by decide +kernel
theorem dJ6_bitCount_0f7a4_0 : decode cJ6_bitCount_0f7a4 0 = .ok (.iload_n 0, 1) := by decide +kernel
theorem dJ6_bitCount_0f7a4_1 : decode cJ6_bitCount_0f7a4 1 = .ok (.iload_n 0, 1) := by decide +kernel
theorem dJ6_bitCount_0f7a4_2 : decode cJ6_bitCount_0f7a4 2 = .ok (.iconst 1, 1) := by decide +kernel
theorem dJ6_bitCount_0f7a4_3 : decode cJ6_bitCount_0f7a4 3 = .ok (.iushr, 1) := by decide +kernel
theorem dJ6_bitCount_0f7a4_4 : decode cJ6_bitCount_0f7a4 4 = .ok (.ldc_w 265, 3) := by decide +kernel
theorem dJ6_bitCount_0f7a4_7 : decode cJ6_bitCount_0f7a4 7 = .ok (.iand, 1) := by decide +kernel
theorem dJ6_bitCount_0f7a4_8 : decode cJ6_bitCount_0f7a4 8 = .ok (.isub, 1) := by decide +kernel
theorem dJ6_bitCount_0f7a4_9 : decode cJ6_bitCount_0f7a4 9 = .ok (.istore_n 0, 1) := by decide +kernel
theorem dJ6_bitCount_0f7a4_10 : decode cJ6_bitCount_0f7a4 10 = .ok (.iload_n 0, 1) := by decide +kernel
theorem dJ6_bitCount_0f7a4_11 : decode cJ6_bitCount_0f7a4 11 = .ok (.ldc_w 266, 3) := by decide +kernel
theorem dJ6_bitCount_0f7a4_14 : decode cJ6_bitCount_0f7a4 14 = .ok (.iand, 1) := by decide +kernel
theorem dJ6_bitCount_0f7a4_15 : decode cJ6_bitCount_0f7a4 15 = .ok (.iload_n 0, 1) := by decide +kernel
theorem dJ6_bitCount_0f7a4_16 : decode cJ6_bitCount_0f7a4 16 = .ok (.iconst 2, 1) := by decide +kernel
theorem dJ6_bitCount_0f7a4_17 : decode cJ6_bitCount_0f7a4 17 = .ok (.iushr, 1) := by decide +kernel
theorem dJ6_bitCount_0f7a4_18 : decode cJ6_bitCount_0f7a4 18 = .ok (.ldc_w 266, 3) := by decide +kernel
theorem dJ6_bitCount_0f7a4_21 : decode cJ6_bitCount_0f7a4 21 = .ok (.iand, 1) := by decide +kernel
theorem dJ6_bitCount_0f7a4_22 : decode cJ6_bitCount_0f7a4 22 = .ok (.iadd, 1) := by decide +kernel
theorem dJ6_bitCount_0f7a4_23 : decode cJ6_bitCount_0f7a4 23 = .ok (.istore_n 0, 1) := by decide +kernel
theorem dJ6_bitCount_0f7a4_24 : decode cJ6_bitCount_0f7a4 24 = .ok (.iload_n 0, 1) := by decide +kernel
theorem dJ6_bitCount_0f7a4_25 : decode cJ6_bitCount_0f7a4 25 = .ok (.iload_n 0, 1) := by decide +kernel
theorem dJ6_bitCount_0f7a4_26 : decode cJ6_bitCount_0f7a4 26 = .ok (.iconst 4, 1) := by decide +kernel
theorem dJ6_bitCount_0f7a4_27 : decode cJ6_bitCount_0f7a4 27 = .ok (.iushr, 1) := by decide +kernel
theorem dJ6_bitCount_0f7a4_28 : decode cJ6_bitCount_0f7a4 28 = .ok (.iadd, 1) := by decide +kernel
theorem dJ6_bitCount_0f7a4_29 : decode cJ6_bitCount_0f7a4 29 = .ok (.ldc_w 267, 3) := by decide +kernel
theorem dJ6_bitCount_0f7a4_32 : decode cJ6_bitCount_0f7a4 32 = .ok (.iand, 1) := by decide +kernel
theorem dJ6_bitCount_0f7a4_33 : decode cJ6_bitCount_0f7a4 33 = .ok (.istore_n 0, 1) := by decide +kernel
theorem dJ6_bitCount_0f7a4_34 : decode cJ6_bitCount_0f7a4 34 = .ok (.iload_n 0, 1) := by decide +kernel
theorem dJ6_bitCount_0f7a4_35 : decode cJ6_bitCount_0f7a4 35 = .ok (.iload_n 0, 1) := by decide +kernel
theorem dJ6_bitCount_0f7a4_36 : decode cJ6_bitCount_0f7a4 36 = .ok (.bipush 8, 2) := by decide +kernel
theorem dJ6_bitCount_0f7a4_38 : decode cJ6_bitCount_0f7a4 38 = .ok (.iushr, 1) := by decide +kernel
theorem dJ6_bitCount_0f7a4_39 : decode cJ6_bitCount_0f7a4 39 = .ok (.iadd, 1) := by decide +kernel
theorem dJ6_bitCount_0f7a4_40 : decode cJ6_bitCount_0f7a4 40 = .ok (.istore_n 0, 1) := by decide +kernel
theorem dJ6_bitCount_0f7a4_41 : decode cJ6_bitCount_0f7a4 41 = .ok (.iload_n 0, 1) := by decide +kernel
theorem dJ6_bitCount_0f7a4_42 : decode cJ6_bitCount_0f7a4 42 = .ok (.iload_n 0, 1) := by decide +kernel
theorem dJ6_bitCount_0f7a4_43 : decode cJ6_bitCount_0f7a4 43 = .ok (.bipush 16, 2) := by decide +kernel
theorem dJ6_bitCount_0f7a4_45 : decode cJ6_bitCount_0f7a4 45 = .ok (.iushr, 1) := by decide +kernel
theorem dJ6_bitCount_0f7a4_46 : decode cJ6_bitCount_0f7a4 46 = .ok (.iadd, 1) := by decide +kernel
theorem dJ6_bitCount_0f7a4_47 : decode cJ6_bitCount_0f7a4 47 = .ok (.istore_n 0, 1) := by decide +kernel
theorem dJ6_bitCount_0f7a4_48 : decode cJ6_bitCount_0f7a4 48 = .ok (.iload_n 0, 1) := by decide +kernel
theorem dJ6_bitCount_0f7a4_49 : decode cJ6_bitCount_0f7a4 49 = .ok (.bipush 63, 2) := by decide +kernel
theorem dJ6_bitCount_0f7a4_51 : decode cJ6_bitCount_0f7a4 51 = .ok (.iand, 1) := by decide +kernel
theorem dJ6_bitCount_0f7a4_52 : decode cJ6_bitCount_0f7a4 52 = .ok (.ireturn, 1) := by decide +kernel
theorem dJ7_fill_d0a16_0 : decode cJ7_fill_d0a16 0 = .ok (.iconst 0, 1) := by decide +kernel
theorem dJ7_fill_d0a16_1 : decode cJ7_fill_d0a16 1 = .ok (.istore_n 3, 1) := by decide +kernel
theorem dJ7_fill_d0a16_2 : decode cJ7_fill_d0a16 2 = .ok (.aload_n 0, 1) := by decide +kernel
theorem dJ7_fill_d0a16_3 : decode cJ7_fill_d0a16 3 = .ok (.arraylength, 1) := by decide +kernel
theorem dJ7_fill_d0a16_4 : decode cJ7_fill_d0a16 4 = .ok (.istore 4, 2) := by decide +kernel
theorem dJ7_fill_d0a16_6 : decode cJ7_fill_d0a16 6 = .ok (.iload_n 3, 1) := by decide +kernel
theorem dJ7_fill_d0a16_7 : decode cJ7_fill_d0a16 7 = .ok (.iload 4, 2) := by decide +kernel
theorem dJ7_fill_d0a16_9 : decode cJ7_fill_d0a16 9 = .ok (.if_icmp .ge 13, 3) := by decide +kernel
theorem dJ7_fill_d0a16_12 : decode cJ7_fill_d0a16 12 = .ok (.aload_n 0, 1) := by decide +kernel
theorem dJ7_fill_d0a16_13 : decode cJ7_fill_d0a16 13 = .ok (.iload_n 3, 1) := by decide +kernel
theorem dJ7_fill_d0a16_14 : decode cJ7_fill_d0a16 14 = .ok (.lload_n 1, 1) := by decide +kernel
theorem dJ7_fill_d0a16_15 : decode cJ7_fill_d0a16 15 = .ok (.lastore, 1) := by decide +kernel
theorem dJ7_fill_d0a16_16 : decode cJ7_fill_d0a16 16 = .ok (.iinc 3 1, 3) := by decide +kernel
theorem dJ7_fill_d0a16_19 : decode cJ7_fill_d0a16 19 = .ok (.goto (-13), 3) := by decide +kernel
theorem dJ7_fill_d0a16_22 : decode cJ7_fill_d0a16 22 = .ok (.return_, 1) := by decide +kernel
theorem dJ7_fill_53178_0 : decode cJ7_fill_53178 0 = .ok (.iconst 0, 1) := by decide +kernel
theorem dJ7_fill_53178_1 : decode cJ7_fill_53178 1 = .ok (.istore_n 2, 1) := by decide +kernel
theorem dJ7_fill_53178_2 : decode cJ7_fill_53178 2 = .ok (.aload_n 0, 1) := by decide +kernel
theorem dJ7_fill_53178_3 : decode cJ7_fill_53178 3 = .ok (.arraylength, 1) := by decide +kernel
theorem dJ7_fill_53178_4 : decode cJ7_fill_53178 4 = .ok (.istore_n 3, 1) := by decide +kernel
theorem dJ7_fill_53178_5 : decode cJ7_fill_53178 5 = .ok (.iload_n 2, 1) := by decide +kernel
theorem dJ7_fill_53178_6 : decode cJ7_fill_53178 6 = .ok (.iload_n 3, 1) := by decide +kernel
theorem dJ7_fill_53178_7 : decode cJ7_fill_53178 7 = .ok (.if_icmp .ge 13, 3) := by decide +kernel
theorem dJ7_fill_53178_10 : decode cJ7_fill_53178 10 = .ok (.aload_n 0, 1) := by decide +kernel
theorem dJ7_fill_53178_11 : decode cJ7_fill_53178 11 = .ok (.iload_n 2, 1) := by decide +kernel
theorem dJ7_fill_53178_12 : decode cJ7_fill_53178 12 = .ok (.iload_n 1, 1) := by decide +kernel
theorem dJ7_fill_53178_13 : decode cJ7_fill_53178 13 = .ok (.iastore, 1) := by decide +kernel
theorem dJ7_fill_53178_14 : decode cJ7_fill_53178 14 = .ok (.iinc 2 1, 3) := by decide +kernel
theorem dJ7_fill_53178_17 : decode cJ7_fill_53178 17 = .ok (.goto (-12), 3) := by decide +kernel
theorem dJ7_fill_53178_20 : decode cJ7_fill_53178 20 = .ok (.return_, 1) := by decide +kernel
theorem dJ9_max_7cf53_0 : decode cJ9_max_7cf53 0 = .ok (.iload_n 0, 1) := by decide +kernel
theorem dJ9_max_7cf53_1 : decode cJ9_max_7cf53 1 = .ok (.iload_n 1, 1) := by decide +kernel
theorem dJ9_max_7cf53_2 : decode cJ9_max_7cf53 2 = .ok (.if_icmp .lt 7, 3) := by decide +kernel
theorem dJ9_max_7cf53_5 : decode cJ9_max_7cf53 5 = .ok (.iload_n 0, 1) := by decide +kernel
theorem dJ9_max_7cf53_6 : decode cJ9_max_7cf53 6 = .ok (.goto 4, 3) := by decide +kernel
theorem dJ9_max_7cf53_9 : decode cJ9_max_7cf53 9 = .ok (.iload_n 1, 1) := by decide +kernel
theorem dJ9_max_7cf53_10 : decode cJ9_max_7cf53 10 = .ok (.ireturn, 1) := by decide +kernel
theorem dJ9_min_7cf53_0 : decode cJ9_min_7cf53 0 = .ok (.iload_n 0, 1) := by decide +kernel
theorem dJ9_min_7cf53_1 : decode cJ9_min_7cf53 1 = .ok (.iload_n 1, 1) := by decide +kernel
theorem dJ9_min_7cf53_2 : decode cJ9_min_7cf53 2 = .ok (.if_icmp .gt 7, 3) := by decide +kernel
theorem dJ9_min_7cf53_5 : decode cJ9_min_7cf53 5 = .ok (.iload_n 0, 1) := by decide +kernel
theorem dJ9_min_7cf53_6 : decode cJ9_min_7cf53 6 = .ok (.goto 4, 3) := by decide +kernel
theorem dJ9_min_7cf53_9 : decode cJ9_min_7cf53 9 = .ok (.iload_n 1, 1) := by decide +kernel
theorem dJ9_min_7cf53_10 : decode cJ9_min_7cf53 10 = .ok (.ireturn, 1) := by decide +kernel
theorem dX4_init_0 : decode cX4_init 0 = .ok (.aload_n 0, 1) := by decide +kernel
theorem dX4_init_1 : decode cX4_init 1 = .ok (.invokespecial 1, 3) := by decide +kernel
theorem dX4_init_4 : decode cX4_init 4 = .ok (.aload_n 0, 1) := by decide +kernel
theorem dX4_init_5 : decode cX4_init 5 = .ok (.new 7, 3) := by decide +kernel
theorem dX4_init_8 : decode cX4_init 8 = .ok (.dup, 1) := by decide +kernel
theorem dX4_init_9 : decode cX4_init 9 = .ok (.invokespecial 9, 3) := by decide +kernel
theorem dX4_init_12 : decode cX4_init 12 = .ok (.putfield 10, 3) := by decide +kernel
theorem dX4_init_15 : decode cX4_init 15 = .ok (.aload_n 0, 1) := by decide +kernel
theorem dX4_init_16 : decode cX4_init 16 = .ok (.new 7, 3) := by decide +kernel
theorem dX4_init_19 : decode cX4_init 19 = .ok (.dup, 1) := by decide +kernel
theorem dX4_init_20 : decode cX4_init 20 = .ok (.invokespecial 9, 3) := by decide +kernel
theorem dX4_init_23 : decode cX4_init 23 = .ok (.putfield 16, 3) := by decide +kernel
theorem dX4_init_26 : decode cX4_init 26 = .ok (.aload_n 0, 1) := by decide +kernel
theorem dX4_init_27 : decode cX4_init 27 = .ok (.new 7, 3) := by decide +kernel
theorem dX4_init_30 : decode cX4_init 30 = .ok (.dup, 1) := by decide +kernel
theorem dX4_init_31 : decode cX4_init 31 = .ok (.invokespecial 9, 3) := by decide +kernel
theorem dX4_init_34 : decode cX4_init 34 = .ok (.putfield 19, 3) := by decide +kernel
theorem dX4_init_37 : decode cX4_init 37 = .ok (.aload_n 0, 1) := by decide +kernel
theorem dX4_init_38 : decode cX4_init 38 = .ok (.iconst 0, 1) := by decide +kernel
theorem dX4_init_39 : decode cX4_init 39 = .ok (.putfield 22, 3) := by decide +kernel
theorem dX4_init_42 : decode cX4_init 42 = .ok (.aload_n 0, 1) := by decide +kernel
theorem dX4_init_43 : decode cX4_init 43 = .ok (.new 26, 3) := by decide +kernel
theorem dX4_init_46 : decode cX4_init 46 = .ok (.dup, 1) := by decide +kernel
theorem dX4_init_47 : decode cX4_init 47 = .ok (.invokespecial 28, 3) := by decide +kernel
theorem dX4_init_50 : decode cX4_init 50 = .ok (.putfield 29, 3) := by decide +kernel
theorem dX4_init_53 : decode cX4_init 53 = .ok (.aload_n 0, 1) := by decide +kernel
theorem dX4_init_54 : decode cX4_init 54 = .ok (.iconst 4, 1) := by decide +kernel
theorem dX4_init_55 : decode cX4_init 55 = .ok (.anewarray 33, 3) := by decide +kernel
theorem dX4_init_58 : decode cX4_init 58 = .ok (.putfield 35, 3) := by decide +kernel
theorem dX4_init_61 : decode cX4_init 61 = .ok (.aload_n 0, 1) := by decide +kernel
theorem dX4_init_62 : decode cX4_init 62 = .ok (.bipush 7, 2) := by decide +kernel
theorem dX4_init_64 : decode cX4_init 64 = .ok (.newarray .int, 2) := by decide +kernel
theorem dX4_init_66 : decode cX4_init 66 = .ok (.putfield 39, 3) := by decide +kernel
theorem dX4_init_69 : decode cX4_init 69 = .ok (.iconst 0, 1) := by decide +kernel
theorem dX4_init_70 : decode cX4_init 70 = .ok (.istore_n 1, 1) := by decide +kernel
theorem dX4_init_71 : decode cX4_init 71 = .ok (.iload_n 1, 1) := by decide +kernel
theorem dX4_init_72 : decode cX4_init 72 = .ok (.iconst 4, 1) := by decide +kernel
theorem dX4_init_73 : decode cX4_init 73 = .ok (.if_icmp .ge 22, 3) := by decide +kernel
theorem dX4_init_76 : decode cX4_init 76 = .ok (.aload_n 0, 1) := by decide +kernel
theorem dX4_init_77 : decode cX4_init 77 = .ok (.getfield 35, 3) := by decide +kernel
theorem dX4_init_80 : decode cX4_init 80 = .ok (.iload_n 1, 1) := by decide +kernel
theorem dX4_init_81 : decode cX4_init 81 = .ok (.new 33, 3) := by decide +kernel
theorem dX4_init_84 : decode cX4_init 84 = .ok (.dup, 1) := by decide +kernel
theorem dX4_init_85 : decode cX4_init 85 = .ok (.invokespecial 43, 3) := by decide +kernel
theorem dX4_init_88 : decode cX4_init 88 = .ok (.aastore, 1) := by decide +kernel
theorem dX4_init_89 : decode cX4_init 89 = .ok (.iinc 1 1, 3) := by decide +kernel
theorem dX4_init_92 : decode cX4_init 92 = .ok (.goto (-21), 3) := by decide +kernel
theorem dX4_init_95 : decode cX4_init 95 = .ok (.return_, 1) := by decide +kernel
theorem dX4_seat_0 : decode cX4_seat 0 = .ok (.iload_n 1, 1) := by decide +kernel
theorem dX4_seat_1 : decode cX4_seat 1 = .ok (.iconst 0, 1) := by decide +kernel
theorem dX4_seat_2 : decode cX4_seat 2 = .ok (.bipush 11, 2) := by decide +kernel
theorem dX4_seat_4 : decode cX4_seat 4 = .ok (.invokestatic 44, 3) := by decide +kernel
theorem dX4_seat_7 : decode cX4_seat 7 = .ok (.ifCond .ne 10, 3) := by decide +kernel
theorem dX4_seat_10 : decode cX4_seat 10 = .ok (.aload_n 0, 1) := by decide +kernel
theorem dX4_seat_11 : decode cX4_seat 11 = .ok (.ldc 48, 2) := by decide +kernel
theorem dX4_seat_13 : decode cX4_seat 13 = .ok (.invokevirtual 49, 3) := by decide +kernel
theorem dX4_seat_16 : decode cX4_seat 16 = .ok (.ireturn, 1) := by decide +kernel
theorem dX4_seat_17 : decode cX4_seat 17 = .ok (.aload_n 0, 1) := by decide +kernel
theorem dX4_seat_18 : decode cX4_seat 18 = .ok (.getfield 10, 3) := by decide +kernel
theorem dX4_seat_21 : decode cX4_seat 21 = .ok (.iload_n 1, 1) := by decide +kernel
theorem dX4_seat_22 : decode cX4_seat 22 = .ok (.invokevirtual 53, 3) := by decide +kernel
theorem dX4_seat_25 : decode cX4_seat 25 = .ok (.ireturn, 1) := by decide +kernel
theorem dX4_now_0 : decode cX4_now 0 = .ok (.iload_n 1, 1) := by decide +kernel
theorem dX4_now_1 : decode cX4_now 1 = .ok (.tableswitch 94 0 5 #[39, 47, 55, 63, 71, 79], 39) := by decide +kernel
theorem dX4_now_40 : decode cX4_now 40 = .ok (.aload_n 0, 1) := by decide +kernel
theorem dX4_now_41 : decode cX4_now 41 = .ok (.getfield 10, 3) := by decide +kernel
theorem dX4_now_44 : decode cX4_now 44 = .ok (.getfield 56, 3) := by decide +kernel
theorem dX4_now_47 : decode cX4_now 47 = .ok (.ireturn, 1) := by decide +kernel
theorem dX4_now_48 : decode cX4_now 48 = .ok (.aload_n 0, 1) := by decide +kernel
theorem dX4_now_49 : decode cX4_now 49 = .ok (.getfield 10, 3) := by decide +kernel
theorem dX4_now_52 : decode cX4_now 52 = .ok (.invokevirtual 60, 3) := by decide +kernel
theorem dX4_now_55 : decode cX4_now 55 = .ok (.ireturn, 1) := by decide +kernel
theorem dX4_now_56 : decode cX4_now 56 = .ok (.aload_n 0, 1) := by decide +kernel
theorem dX4_now_57 : decode cX4_now 57 = .ok (.getfield 10, 3) := by decide +kernel
theorem dX4_now_60 : decode cX4_now 60 = .ok (.invokevirtual 64, 3) := by decide +kernel
theorem dX4_now_63 : decode cX4_now 63 = .ok (.ireturn, 1) := by decide +kernel
theorem dX4_now_64 : decode cX4_now 64 = .ok (.aload_n 0, 1) := by decide +kernel
theorem dX4_now_65 : decode cX4_now 65 = .ok (.getfield 10, 3) := by decide +kernel
theorem dX4_now_68 : decode cX4_now 68 = .ok (.invokevirtual 67, 3) := by decide +kernel
theorem dX4_now_71 : decode cX4_now 71 = .ok (.ireturn, 1) := by decide +kernel
theorem dX4_now_72 : decode cX4_now 72 = .ok (.aload_n 0, 1) := by decide +kernel
theorem dX4_now_73 : decode cX4_now 73 = .ok (.getfield 10, 3) := by decide +kernel
theorem dX4_now_76 : decode cX4_now 76 = .ok (.invokevirtual 70, 3) := by decide +kernel
theorem dX4_now_79 : decode cX4_now 79 = .ok (.ireturn, 1) := by decide +kernel
theorem dX4_now_80 : decode cX4_now 80 = .ok (.aload_n 0, 1) := by decide +kernel
theorem dX4_now_81 : decode cX4_now 81 = .ok (.getfield 10, 3) := by decide +kernel
theorem dX4_now_84 : decode cX4_now 84 = .ok (.aload_n 0, 1) := by decide +kernel
theorem dX4_now_85 : decode cX4_now 85 = .ok (.getfield 10, 3) := by decide +kernel
theorem dX4_now_88 : decode cX4_now 88 = .ok (.getfield 73, 3) := by decide +kernel
theorem dX4_now_91 : decode cX4_now 91 = .ok (.invokevirtual 76, 3) := by decide +kernel
theorem dX4_now_94 : decode cX4_now 94 = .ok (.ireturn, 1) := by decide +kernel
theorem dX4_now_95 : decode cX4_now 95 = .ok (.aload_n 0, 1) := by decide +kernel
theorem dX4_now_96 : decode cX4_now 96 = .ok (.ldc 48, 2) := by decide +kernel
theorem dX4_now_98 : decode cX4_now 98 = .ok (.invokevirtual 49, 3) := by decide +kernel
theorem dX4_now_101 : decode cX4_now 101 = .ok (.ireturn, 1) := by decide +kernel
theorem dX4_verse_0 : decode cX4_verse 0 = .ok (.iload_n 1, 1) := by decide +kernel
theorem dX4_verse_1 : decode cX4_verse 1 = .ok (.ifCond .ge 10, 3) := by decide +kernel
theorem dX4_verse_4 : decode cX4_verse 4 = .ok (.aload_n 0, 1) := by decide +kernel
theorem dX4_verse_5 : decode cX4_verse 5 = .ok (.ldc 48, 2) := by decide +kernel
theorem dX4_verse_7 : decode cX4_verse 7 = .ok (.invokevirtual 49, 3) := by decide +kernel
theorem dX4_verse_10 : decode cX4_verse 10 = .ok (.ireturn, 1) := by decide +kernel
theorem dX4_verse_11 : decode cX4_verse 11 = .ok (.aload_n 0, 1) := by decide +kernel
theorem dX4_verse_12 : decode cX4_verse 12 = .ok (.getfield 10, 3) := by decide +kernel
theorem dX4_verse_15 : decode cX4_verse 15 = .ok (.iload_n 1, 1) := by decide +kernel
theorem dX4_verse_16 : decode cX4_verse 16 = .ok (.invokevirtual 80, 3) := by decide +kernel
theorem dX4_verse_19 : decode cX4_verse 19 = .ok (.istore_n 2, 1) := by decide +kernel
theorem dX4_verse_20 : decode cX4_verse 20 = .ok (.iload_n 2, 1) := by decide +kernel
theorem dX4_verse_21 : decode cX4_verse 21 = .ok (.iconst (-1), 1) := by decide +kernel
theorem dX4_verse_22 : decode cX4_verse 22 = .ok (.if_icmp .ne 12, 3) := by decide +kernel
theorem dX4_verse_25 : decode cX4_verse 25 = .ok (.aload_n 0, 1) := by decide +kernel
theorem dX4_verse_26 : decode cX4_verse 26 = .ok (.ldc 83, 2) := by decide +kernel
theorem dX4_verse_28 : decode cX4_verse 28 = .ok (.invokevirtual 49, 3) := by decide +kernel
theorem dX4_verse_31 : decode cX4_verse 31 = .ok (.goto 12, 3) := by decide +kernel
theorem dX4_verse_34 : decode cX4_verse 34 = .ok (.aload_n 0, 1) := by decide +kernel
theorem dX4_verse_35 : decode cX4_verse 35 = .ok (.getfield 10, 3) := by decide +kernel
theorem dX4_verse_38 : decode cX4_verse 38 = .ok (.getfield 84, 3) := by decide +kernel
theorem dX4_verse_41 : decode cX4_verse 41 = .ok (.iload_n 2, 1) := by decide +kernel
theorem dX4_verse_42 : decode cX4_verse 42 = .ok (.iaload, 1) := by decide +kernel
theorem dX4_verse_43 : decode cX4_verse 43 = .ok (.ireturn, 1) := by decide +kernel
theorem dX4_member_0 : decode cX4_member 0 = .ok (.iload_n 1, 1) := by decide +kernel
theorem dX4_member_1 : decode cX4_member 1 = .ok (.invokestatic 87, 3) := by decide +kernel
theorem dX4_member_4 : decode cX4_member 4 = .ok (.ifCond .eq 23, 3) := by decide +kernel
theorem dX4_member_7 : decode cX4_member 7 = .ok (.iload_n 2, 1) := by decide +kernel
theorem dX4_member_8 : decode cX4_member 8 = .ok (.iconst 0, 1) := by decide +kernel
theorem dX4_member_9 : decode cX4_member 9 = .ok (.bipush 11, 2) := by decide +kernel
theorem dX4_member_11 : decode cX4_member 11 = .ok (.invokestatic 44, 3) := by decide +kernel
theorem dX4_member_14 : decode cX4_member 14 = .ok (.ifCond .eq 13, 3) := by decide +kernel
theorem dX4_member_17 : decode cX4_member 17 = .ok (.iload_n 3, 1) := by decide +kernel
theorem dX4_member_18 : decode cX4_member 18 = .ok (.iconst 0, 1) := by decide +kernel
theorem dX4_member_19 : decode cX4_member 19 = .ok (.bipush 9, 2) := by decide +kernel
theorem dX4_member_21 : decode cX4_member 21 = .ok (.invokestatic 44, 3) := by decide +kernel
theorem dX4_member_24 : decode cX4_member 24 = .ok (.ifCond .ne 10, 3) := by decide +kernel
theorem dX4_member_27 : decode cX4_member 27 = .ok (.aload_n 0, 1) := by decide +kernel
theorem dX4_member_28 : decode cX4_member 28 = .ok (.ldc 48, 2) := by decide +kernel
theorem dX4_member_30 : decode cX4_member 30 = .ok (.invokevirtual 49, 3) := by decide +kernel
theorem dX4_member_33 : decode cX4_member 33 = .ok (.ireturn, 1) := by decide +kernel
theorem dX4_member_34 : decode cX4_member 34 = .ok (.aload_n 0, 1) := by decide +kernel
theorem dX4_member_35 : decode cX4_member 35 = .ok (.getfield 10, 3) := by decide +kernel
theorem dX4_member_38 : decode cX4_member 38 = .ok (.invokevirtual 93, 3) := by decide +kernel
theorem dX4_member_41 : decode cX4_member 41 = .ok (.ifCond .eq 10, 3) := by decide +kernel
theorem dX4_member_44 : decode cX4_member 44 = .ok (.aload_n 0, 1) := by decide +kernel
theorem dX4_member_45 : decode cX4_member 45 = .ok (.ldc 97, 2) := by decide +kernel
theorem dX4_member_47 : decode cX4_member 47 = .ok (.invokevirtual 49, 3) := by decide +kernel
theorem dX4_member_50 : decode cX4_member 50 = .ok (.ireturn, 1) := by decide +kernel
theorem dX4_member_51 : decode cX4_member 51 = .ok (.aload_n 0, 1) := by decide +kernel
theorem dX4_member_52 : decode cX4_member 52 = .ok (.getfield 10, 3) := by decide +kernel
theorem dX4_member_55 : decode cX4_member 55 = .ok (.iload_n 2, 1) := by decide +kernel
theorem dX4_member_56 : decode cX4_member 56 = .ok (.invokevirtual 53, 3) := by decide +kernel
theorem dX4_member_59 : decode cX4_member 59 = .ok (.iconst (-1), 1) := by decide +kernel
theorem dX4_member_60 : decode cX4_member 60 = .ok (.if_icmp .eq 10, 3) := by decide +kernel
theorem dX4_member_63 : decode cX4_member 63 = .ok (.aload_n 0, 1) := by decide +kernel
theorem dX4_member_64 : decode cX4_member 64 = .ok (.ldc 98, 2) := by decide +kernel
theorem dX4_member_66 : decode cX4_member 66 = .ok (.invokevirtual 49, 3) := by decide +kernel
theorem dX4_member_69 : decode cX4_member 69 = .ok (.ireturn, 1) := by decide +kernel
theorem dX4_member_70 : decode cX4_member 70 = .ok (.aload_n 0, 1) := by decide +kernel
theorem dX4_member_71 : decode cX4_member 71 = .ok (.getfield 10, 3) := by decide +kernel
theorem dX4_member_74 : decode cX4_member 74 = .ok (.iload_n 1, 1) := by decide +kernel
theorem dX4_member_75 : decode cX4_member 75 = .ok (.iload_n 2, 1) := by decide +kernel
theorem dX4_member_76 : decode cX4_member 76 = .ok (.iload_n 3, 1) := by decide +kernel
theorem dX4_member_77 : decode cX4_member 77 = .ok (.iconst 5, 1) := by decide +kernel
theorem dX4_member_78 : decode cX4_member 78 = .ok (.invokevirtual 99, 3) := by decide +kernel
theorem dX4_member_81 : decode cX4_member 81 = .ok (.ireturn, 1) := by decide +kernel
theorem dX4_of_0 : decode cX4_of 0 = .ok (.aload_n 0, 1) := by decide +kernel
theorem dX4_of_1 : decode cX4_of 1 = .ok (.getfield 10, 3) := by decide +kernel
theorem dX4_of_4 : decode cX4_of 4 = .ok (.iload_n 1, 1) := by decide +kernel
theorem dX4_of_5 : decode cX4_of 5 = .ok (.invokevirtual 103, 3) := by decide +kernel
theorem dX4_of_8 : decode cX4_of 8 = .ok (.ifCond .ne 10, 3) := by decide +kernel
theorem dX4_of_11 : decode cX4_of 11 = .ok (.aload_n 0, 1) := by decide +kernel
theorem dX4_of_12 : decode cX4_of 12 = .ok (.ldc 48, 2) := by decide +kernel
theorem dX4_of_14 : decode cX4_of 14 = .ok (.invokevirtual 49, 3) := by decide +kernel
theorem dX4_of_17 : decode cX4_of 17 = .ok (.ireturn, 1) := by decide +kernel
theorem dX4_of_18 : decode cX4_of 18 = .ok (.iload_n 2, 1) := by decide +kernel
theorem dX4_of_19 : decode cX4_of 19 = .ok (.tableswitch 178 0 9 #[53, 63, 73, 83, 93, 103, 113, 135, 144, 169], 53) := by decide +kernel
theorem dX4_of_72 : decode cX4_of 72 = .ok (.aload_n 0, 1) := by decide +kernel
theorem dX4_of_73 : decode cX4_of 73 = .ok (.getfield 10, 3) := by decide +kernel
theorem dX4_of_76 : decode cX4_of 76 = .ok (.getfield 106, 3) := by decide +kernel
theorem dX4_of_79 : decode cX4_of 79 = .ok (.iload_n 1, 1) := by decide +kernel
theorem dX4_of_80 : decode cX4_of 80 = .ok (.iaload, 1) := by decide +kernel
theorem dX4_of_81 : decode cX4_of 81 = .ok (.ireturn, 1) := by decide +kernel
theorem dX4_of_82 : decode cX4_of 82 = .ok (.aload_n 0, 1) := by decide +kernel
theorem dX4_of_83 : decode cX4_of 83 = .ok (.getfield 10, 3) := by decide +kernel
theorem dX4_of_86 : decode cX4_of 86 = .ok (.getfield 109, 3) := by decide +kernel
theorem dX4_of_89 : decode cX4_of 89 = .ok (.iload_n 1, 1) := by decide +kernel
theorem dX4_of_90 : decode cX4_of 90 = .ok (.iaload, 1) := by decide +kernel
theorem dX4_of_91 : decode cX4_of 91 = .ok (.ireturn, 1) := by decide +kernel
theorem dX4_of_92 : decode cX4_of 92 = .ok (.aload_n 0, 1) := by decide +kernel
theorem dX4_of_93 : decode cX4_of 93 = .ok (.getfield 10, 3) := by decide +kernel
theorem dX4_of_96 : decode cX4_of 96 = .ok (.getfield 84, 3) := by decide +kernel
theorem dX4_of_99 : decode cX4_of 99 = .ok (.iload_n 1, 1) := by decide +kernel
theorem dX4_of_100 : decode cX4_of 100 = .ok (.iaload, 1) := by decide +kernel
theorem dX4_of_101 : decode cX4_of 101 = .ok (.ireturn, 1) := by decide +kernel
theorem dX4_of_102 : decode cX4_of 102 = .ok (.aload_n 0, 1) := by decide +kernel
theorem dX4_of_103 : decode cX4_of 103 = .ok (.getfield 10, 3) := by decide +kernel
theorem dX4_of_106 : decode cX4_of 106 = .ok (.getfield 112, 3) := by decide +kernel
theorem dX4_of_109 : decode cX4_of 109 = .ok (.iload_n 1, 1) := by decide +kernel
theorem dX4_of_110 : decode cX4_of 110 = .ok (.iaload, 1) := by decide +kernel
theorem dX4_of_111 : decode cX4_of 111 = .ok (.ireturn, 1) := by decide +kernel
theorem dX4_of_112 : decode cX4_of 112 = .ok (.aload_n 0, 1) := by decide +kernel
theorem dX4_of_113 : decode cX4_of 113 = .ok (.getfield 10, 3) := by decide +kernel
theorem dX4_of_116 : decode cX4_of 116 = .ok (.getfield 115, 3) := by decide +kernel
theorem dX4_of_119 : decode cX4_of 119 = .ok (.iload_n 1, 1) := by decide +kernel
theorem dX4_of_120 : decode cX4_of 120 = .ok (.iaload, 1) := by decide +kernel
theorem dX4_of_121 : decode cX4_of 121 = .ok (.ireturn, 1) := by decide +kernel
theorem dX4_of_122 : decode cX4_of 122 = .ok (.aload_n 0, 1) := by decide +kernel
theorem dX4_of_123 : decode cX4_of 123 = .ok (.getfield 10, 3) := by decide +kernel
theorem dX4_of_126 : decode cX4_of 126 = .ok (.getfield 73, 3) := by decide +kernel
theorem dX4_of_129 : decode cX4_of 129 = .ok (.iload_n 1, 1) := by decide +kernel
theorem dX4_of_130 : decode cX4_of 130 = .ok (.iaload, 1) := by decide +kernel
theorem dX4_of_131 : decode cX4_of 131 = .ok (.ireturn, 1) := by decide +kernel
theorem dX4_of_132 : decode cX4_of 132 = .ok (.aload_n 0, 1) := by decide +kernel
theorem dX4_of_133 : decode cX4_of 133 = .ok (.getfield 10, 3) := by decide +kernel
theorem dX4_of_136 : decode cX4_of 136 = .ok (.getfield 106, 3) := by decide +kernel
theorem dX4_of_139 : decode cX4_of 139 = .ok (.iload_n 1, 1) := by decide +kernel
theorem dX4_of_140 : decode cX4_of 140 = .ok (.iaload, 1) := by decide +kernel
theorem dX4_of_141 : decode cX4_of 141 = .ok (.aload_n 0, 1) := by decide +kernel
theorem dX4_of_142 : decode cX4_of 142 = .ok (.getfield 10, 3) := by decide +kernel
theorem dX4_of_145 : decode cX4_of 145 = .ok (.getfield 73, 3) := by decide +kernel
theorem dX4_of_148 : decode cX4_of 148 = .ok (.iload_n 1, 1) := by decide +kernel
theorem dX4_of_149 : decode cX4_of 149 = .ok (.iaload, 1) := by decide +kernel
theorem dX4_of_150 : decode cX4_of 150 = .ok (.invokestatic 118, 3) := by decide +kernel
theorem dX4_of_153 : decode cX4_of 153 = .ok (.ireturn, 1) := by decide +kernel
theorem dX4_of_154 : decode cX4_of 154 = .ok (.aload_n 0, 1) := by decide +kernel
theorem dX4_of_155 : decode cX4_of 155 = .ok (.getfield 10, 3) := by decide +kernel
theorem dX4_of_158 : decode cX4_of 158 = .ok (.iload_n 1, 1) := by decide +kernel
theorem dX4_of_159 : decode cX4_of 159 = .ok (.invokevirtual 122, 3) := by decide +kernel
theorem dX4_of_162 : decode cX4_of 162 = .ok (.ireturn, 1) := by decide +kernel
theorem dX4_of_163 : decode cX4_of 163 = .ok (.aload_n 0, 1) := by decide +kernel
theorem dX4_of_164 : decode cX4_of 164 = .ok (.getfield 10, 3) := by decide +kernel
theorem dX4_of_167 : decode cX4_of 167 = .ok (.iload_n 1, 1) := by decide +kernel
theorem dX4_of_168 : decode cX4_of 168 = .ok (.aload_n 0, 1) := by decide +kernel
theorem dX4_of_169 : decode cX4_of 169 = .ok (.getfield 10, 3) := by decide +kernel
theorem dX4_of_172 : decode cX4_of 172 = .ok (.iload_n 1, 1) := by decide +kernel
theorem dX4_of_173 : decode cX4_of 173 = .ok (.invokevirtual 122, 3) := by decide +kernel
theorem dX4_of_176 : decode cX4_of 176 = .ok (.invokevirtual 125, 3) := by decide +kernel
theorem dX4_of_179 : decode cX4_of 179 = .ok (.ifCond .eq 7, 3) := by decide +kernel
theorem dX4_of_182 : decode cX4_of 182 = .ok (.iconst 1, 1) := by decide +kernel
theorem dX4_of_183 : decode cX4_of 183 = .ok (.goto 4, 3) := by decide +kernel
theorem dX4_of_186 : decode cX4_of 186 = .ok (.iconst 0, 1) := by decide +kernel
theorem dX4_of_187 : decode cX4_of 187 = .ok (.ireturn, 1) := by decide +kernel
theorem dX4_of_188 : decode cX4_of 188 = .ok (.aload_n 0, 1) := by decide +kernel
theorem dX4_of_189 : decode cX4_of 189 = .ok (.getfield 10, 3) := by decide +kernel
theorem dX4_of_192 : decode cX4_of 192 = .ok (.iload_n 1, 1) := by decide +kernel
theorem dX4_of_193 : decode cX4_of 193 = .ok (.invokevirtual 129, 3) := by decide +kernel
theorem dX4_of_196 : decode cX4_of 196 = .ok (.ireturn, 1) := by decide +kernel
theorem dX4_of_197 : decode cX4_of 197 = .ok (.aload_n 0, 1) := by decide +kernel
theorem dX4_of_198 : decode cX4_of 198 = .ok (.ldc 48, 2) := by decide +kernel
theorem dX4_of_200 : decode cX4_of 200 = .ok (.invokevirtual 49, 3) := by decide +kernel
theorem dX4_of_203 : decode cX4_of 203 = .ok (.ireturn, 1) := by decide +kernel
theorem dX4_set_0 : decode cX4_set 0 = .ok (.aload_n 0, 1) := by decide +kernel
theorem dX4_set_1 : decode cX4_set 1 = .ok (.getfield 10, 3) := by decide +kernel
theorem dX4_set_4 : decode cX4_set 4 = .ok (.iload_n 1, 1) := by decide +kernel
theorem dX4_set_5 : decode cX4_set 5 = .ok (.invokevirtual 103, 3) := by decide +kernel
theorem dX4_set_8 : decode cX4_set 8 = .ok (.ifCond .eq 11, 3) := by decide +kernel
theorem dX4_set_11 : decode cX4_set 11 = .ok (.iload_n 2, 1) := by decide +kernel
theorem dX4_set_12 : decode cX4_set 12 = .ok (.iload_n 3, 1) := by decide +kernel
theorem dX4_set_13 : decode cX4_set 13 = .ok (.invokestatic 132, 3) := by decide +kernel
theorem dX4_set_16 : decode cX4_set 16 = .ok (.ifCond .ne 10, 3) := by decide +kernel
theorem dX4_set_19 : decode cX4_set 19 = .ok (.aload_n 0, 1) := by decide +kernel
theorem dX4_set_20 : decode cX4_set 20 = .ok (.ldc 48, 2) := by decide +kernel
theorem dX4_set_22 : decode cX4_set 22 = .ok (.invokevirtual 49, 3) := by decide +kernel
theorem dX4_set_25 : decode cX4_set 25 = .ok (.ireturn, 1) := by decide +kernel
theorem dX4_set_26 : decode cX4_set 26 = .ok (.aload_n 0, 1) := by decide +kernel
theorem dX4_set_27 : decode cX4_set 27 = .ok (.iload_n 2, 1) := by decide +kernel
theorem dX4_set_28 : decode cX4_set 28 = .ok (.invokevirtual 135, 3) := by decide +kernel
theorem dX4_set_31 : decode cX4_set 31 = .ok (.astore 4, 2) := by decide +kernel
theorem dX4_set_33 : decode cX4_set 33 = .ok (.aload 4, 2) := by decide +kernel
theorem dX4_set_35 : decode cX4_set 35 = .ok (.iload_n 1, 1) := by decide +kernel
theorem dX4_set_36 : decode cX4_set 36 = .ok (.iaload, 1) := by decide +kernel
theorem dX4_set_37 : decode cX4_set 37 = .ok (.istore 5, 2) := by decide +kernel
theorem dX4_set_39 : decode cX4_set 39 = .ok (.aload 4, 2) := by decide +kernel
theorem dX4_set_41 : decode cX4_set 41 = .ok (.iload_n 1, 1) := by decide +kernel
theorem dX4_set_42 : decode cX4_set 42 = .ok (.iload_n 3, 1) := by decide +kernel
theorem dX4_set_43 : decode cX4_set 43 = .ok (.iastore, 1) := by decide +kernel
theorem dX4_set_44 : decode cX4_set 44 = .ok (.iload 5, 2) := by decide +kernel
theorem dX4_set_46 : decode cX4_set 46 = .ok (.ireturn, 1) := by decide +kernel
theorem dX4_maySet_0 : decode cX4_maySet 0 = .ok (.iload_n 0, 1) := by decide +kernel
theorem dX4_maySet_1 : decode cX4_maySet 1 = .ok (.tableswitch 64 2 5 #[31, 39, 47, 56], 31) := by decide +kernel
theorem dX4_maySet_32 : decode cX4_maySet 32 = .ok (.iload_n 1, 1) := by decide +kernel
theorem dX4_maySet_33 : decode cX4_maySet 33 = .ok (.iconst 0, 1) := by decide +kernel
theorem dX4_maySet_34 : decode cX4_maySet 34 = .ok (.bipush 9, 2) := by decide +kernel
theorem dX4_maySet_36 : decode cX4_maySet 36 = .ok (.invokestatic 44, 3) := by decide +kernel
theorem dX4_maySet_39 : decode cX4_maySet 39 = .ok (.ireturn, 1) := by decide +kernel
theorem dX4_maySet_40 : decode cX4_maySet 40 = .ok (.iload_n 1, 1) := by decide +kernel
theorem dX4_maySet_41 : decode cX4_maySet 41 = .ok (.iconst 1, 1) := by decide +kernel
theorem dX4_maySet_42 : decode cX4_maySet 42 = .ok (.bipush 9, 2) := by decide +kernel
theorem dX4_maySet_44 : decode cX4_maySet 44 = .ok (.invokestatic 44, 3) := by decide +kernel
theorem dX4_maySet_47 : decode cX4_maySet 47 = .ok (.ireturn, 1) := by decide +kernel
theorem dX4_maySet_48 : decode cX4_maySet 48 = .ok (.iload_n 1, 1) := by decide +kernel
theorem dX4_maySet_49 : decode cX4_maySet 49 = .ok (.iconst 0, 1) := by decide +kernel
theorem dX4_maySet_50 : decode cX4_maySet 50 = .ok (.sipush 1023, 3) := by decide +kernel
theorem dX4_maySet_53 : decode cX4_maySet 53 = .ok (.invokestatic 44, 3) := by decide +kernel
theorem dX4_maySet_56 : decode cX4_maySet 56 = .ok (.ireturn, 1) := by decide +kernel
theorem dX4_maySet_57 : decode cX4_maySet 57 = .ok (.iload_n 1, 1) := by decide +kernel
theorem dX4_maySet_58 : decode cX4_maySet 58 = .ok (.iconst 0, 1) := by decide +kernel
theorem dX4_maySet_59 : decode cX4_maySet 59 = .ok (.bipush 99, 2) := by decide +kernel
theorem dX4_maySet_61 : decode cX4_maySet 61 = .ok (.invokestatic 44, 3) := by decide +kernel
theorem dX4_maySet_64 : decode cX4_maySet 64 = .ok (.ireturn, 1) := by decide +kernel
theorem dX4_maySet_65 : decode cX4_maySet 65 = .ok (.iconst 0, 1) := by decide +kernel
theorem dX4_maySet_66 : decode cX4_maySet 66 = .ok (.ireturn, 1) := by decide +kernel
theorem dX4_rowOf_0 : decode cX4_rowOf 0 = .ok (.iload_n 1, 1) := by decide +kernel
theorem dX4_rowOf_1 : decode cX4_rowOf 1 = .ok (.tableswitch 51 2 4 #[27, 35, 43], 27) := by decide +kernel
theorem dX4_rowOf_28 : decode cX4_rowOf 28 = .ok (.aload_n 0, 1) := by decide +kernel
theorem dX4_rowOf_29 : decode cX4_rowOf 29 = .ok (.getfield 10, 3) := by decide +kernel
theorem dX4_rowOf_32 : decode cX4_rowOf 32 = .ok (.getfield 84, 3) := by decide +kernel
theorem dX4_rowOf_35 : decode cX4_rowOf 35 = .ok (.areturn, 1) := by decide +kernel
theorem dX4_rowOf_36 : decode cX4_rowOf 36 = .ok (.aload_n 0, 1) := by decide +kernel
theorem dX4_rowOf_37 : decode cX4_rowOf 37 = .ok (.getfield 10, 3) := by decide +kernel
theorem dX4_rowOf_40 : decode cX4_rowOf 40 = .ok (.getfield 112, 3) := by decide +kernel
theorem dX4_rowOf_43 : decode cX4_rowOf 43 = .ok (.areturn, 1) := by decide +kernel
theorem dX4_rowOf_44 : decode cX4_rowOf 44 = .ok (.aload_n 0, 1) := by decide +kernel
theorem dX4_rowOf_45 : decode cX4_rowOf 45 = .ok (.getfield 10, 3) := by decide +kernel
theorem dX4_rowOf_48 : decode cX4_rowOf 48 = .ok (.getfield 115, 3) := by decide +kernel
theorem dX4_rowOf_51 : decode cX4_rowOf 51 = .ok (.areturn, 1) := by decide +kernel
theorem dX4_rowOf_52 : decode cX4_rowOf 52 = .ok (.aload_n 0, 1) := by decide +kernel
theorem dX4_rowOf_53 : decode cX4_rowOf 53 = .ok (.getfield 10, 3) := by decide +kernel
theorem dX4_rowOf_56 : decode cX4_rowOf 56 = .ok (.getfield 73, 3) := by decide +kernel
theorem dX4_rowOf_59 : decode cX4_rowOf 59 = .ok (.areturn, 1) := by decide +kernel
theorem dX4_move_0 : decode cX4_move 0 = .ok (.aload_n 0, 1) := by decide +kernel
theorem dX4_move_1 : decode cX4_move 1 = .ok (.getfield 10, 3) := by decide +kernel
theorem dX4_move_4 : decode cX4_move 4 = .ok (.iload_n 1, 1) := by decide +kernel
theorem dX4_move_5 : decode cX4_move 5 = .ok (.invokevirtual 103, 3) := by decide +kernel
theorem dX4_move_8 : decode cX4_move 8 = .ok (.ifCond .eq 13, 3) := by decide +kernel
theorem dX4_move_11 : decode cX4_move 11 = .ok (.iload_n 2, 1) := by decide +kernel
theorem dX4_move_12 : decode cX4_move 12 = .ok (.iconst 0, 1) := by decide +kernel
theorem dX4_move_13 : decode cX4_move 13 = .ok (.bipush 11, 2) := by decide +kernel
theorem dX4_move_15 : decode cX4_move 15 = .ok (.invokestatic 44, 3) := by decide +kernel
theorem dX4_move_18 : decode cX4_move 18 = .ok (.ifCond .ne 10, 3) := by decide +kernel
theorem dX4_move_21 : decode cX4_move 21 = .ok (.aload_n 0, 1) := by decide +kernel
theorem dX4_move_22 : decode cX4_move 22 = .ok (.ldc 48, 2) := by decide +kernel
theorem dX4_move_24 : decode cX4_move 24 = .ok (.invokevirtual 49, 3) := by decide +kernel
theorem dX4_move_27 : decode cX4_move 27 = .ok (.ireturn, 1) := by decide +kernel
theorem dX4_move_28 : decode cX4_move 28 = .ok (.aload_n 0, 1) := by decide +kernel
theorem dX4_move_29 : decode cX4_move 29 = .ok (.getfield 10, 3) := by decide +kernel
theorem dX4_move_32 : decode cX4_move 32 = .ok (.iload_n 1, 1) := by decide +kernel
theorem dX4_move_33 : decode cX4_move 33 = .ok (.iload_n 2, 1) := by decide +kernel
theorem dX4_move_34 : decode cX4_move 34 = .ok (.invokevirtual 139, 3) := by decide +kernel
theorem dX4_move_37 : decode cX4_move 37 = .ok (.ifCond .ne 10, 3) := by decide +kernel
theorem dX4_move_40 : decode cX4_move 40 = .ok (.aload_n 0, 1) := by decide +kernel
theorem dX4_move_41 : decode cX4_move 41 = .ok (.ldc 98, 2) := by decide +kernel
theorem dX4_move_43 : decode cX4_move 43 = .ok (.invokevirtual 49, 3) := by decide +kernel
theorem dX4_move_46 : decode cX4_move 46 = .ok (.ireturn, 1) := by decide +kernel
theorem dX4_move_47 : decode cX4_move 47 = .ok (.aload_n 0, 1) := by decide +kernel
theorem dX4_move_48 : decode cX4_move 48 = .ok (.getfield 10, 3) := by decide +kernel
theorem dX4_move_51 : decode cX4_move 51 = .ok (.getfield 109, 3) := by decide +kernel
theorem dX4_move_54 : decode cX4_move 54 = .ok (.iload_n 1, 1) := by decide +kernel
theorem dX4_move_55 : decode cX4_move 55 = .ok (.iaload, 1) := by decide +kernel
theorem dX4_move_56 : decode cX4_move 56 = .ok (.istore_n 3, 1) := by decide +kernel
theorem dX4_move_57 : decode cX4_move 57 = .ok (.aload_n 0, 1) := by decide +kernel
theorem dX4_move_58 : decode cX4_move 58 = .ok (.getfield 10, 3) := by decide +kernel
theorem dX4_move_61 : decode cX4_move 61 = .ok (.iload_n 1, 1) := by decide +kernel
theorem dX4_move_62 : decode cX4_move 62 = .ok (.iload_n 2, 1) := by decide +kernel
theorem dX4_move_63 : decode cX4_move 63 = .ok (.invokevirtual 142, 3) := by decide +kernel
theorem dX4_move_66 : decode cX4_move 66 = .ok (.iload_n 3, 1) := by decide +kernel
theorem dX4_move_67 : decode cX4_move 67 = .ok (.ireturn, 1) := by decide +kernel
theorem dX4_turn_0 : decode cX4_turn 0 = .ok (.aload_n 0, 1) := by decide +kernel
theorem dX4_turn_1 : decode cX4_turn 1 = .ok (.getfield 10, 3) := by decide +kernel
theorem dX4_turn_4 : decode cX4_turn 4 = .ok (.iload_n 1, 1) := by decide +kernel
theorem dX4_turn_5 : decode cX4_turn 5 = .ok (.invokevirtual 103, 3) := by decide +kernel
theorem dX4_turn_8 : decode cX4_turn 8 = .ok (.ifCond .eq 10, 3) := by decide +kernel
theorem dX4_turn_11 : decode cX4_turn 11 = .ok (.iload_n 2, 1) := by decide +kernel
theorem dX4_turn_12 : decode cX4_turn 12 = .ok (.invokestatic 87, 3) := by decide +kernel
theorem dX4_turn_15 : decode cX4_turn 15 = .ok (.ifCond .ne 10, 3) := by decide +kernel
theorem dX4_turn_18 : decode cX4_turn 18 = .ok (.aload_n 0, 1) := by decide +kernel
theorem dX4_turn_19 : decode cX4_turn 19 = .ok (.ldc 48, 2) := by decide +kernel
theorem dX4_turn_21 : decode cX4_turn 21 = .ok (.invokevirtual 49, 3) := by decide +kernel
theorem dX4_turn_24 : decode cX4_turn 24 = .ok (.ireturn, 1) := by decide +kernel
theorem dX4_turn_25 : decode cX4_turn 25 = .ok (.aload_n 0, 1) := by decide +kernel
theorem dX4_turn_26 : decode cX4_turn 26 = .ok (.getfield 10, 3) := by decide +kernel
theorem dX4_turn_29 : decode cX4_turn 29 = .ok (.getfield 106, 3) := by decide +kernel
theorem dX4_turn_32 : decode cX4_turn 32 = .ok (.iload_n 1, 1) := by decide +kernel
theorem dX4_turn_33 : decode cX4_turn 33 = .ok (.iaload, 1) := by decide +kernel
theorem dX4_turn_34 : decode cX4_turn 34 = .ok (.istore_n 3, 1) := by decide +kernel
theorem dX4_turn_35 : decode cX4_turn 35 = .ok (.aload_n 0, 1) := by decide +kernel
theorem dX4_turn_36 : decode cX4_turn 36 = .ok (.getfield 10, 3) := by decide +kernel
theorem dX4_turn_39 : decode cX4_turn 39 = .ok (.getfield 106, 3) := by decide +kernel
theorem dX4_turn_42 : decode cX4_turn 42 = .ok (.iload_n 1, 1) := by decide +kernel
theorem dX4_turn_43 : decode cX4_turn 43 = .ok (.iload_n 2, 1) := by decide +kernel
theorem dX4_turn_44 : decode cX4_turn 44 = .ok (.iastore, 1) := by decide +kernel
theorem dX4_turn_45 : decode cX4_turn 45 = .ok (.iload_n 3, 1) := by decide +kernel
theorem dX4_turn_46 : decode cX4_turn 46 = .ok (.ireturn, 1) := by decide +kernel
theorem dX4_as_0 : decode cX4_as 0 = .ok (.aload_n 0, 1) := by decide +kernel
theorem dX4_as_1 : decode cX4_as 1 = .ok (.getfield 10, 3) := by decide +kernel
theorem dX4_as_4 : decode cX4_as 4 = .ok (.iload_n 1, 1) := by decide +kernel
theorem dX4_as_5 : decode cX4_as 5 = .ok (.invokevirtual 103, 3) := by decide +kernel
theorem dX4_as_8 : decode cX4_as 8 = .ok (.ifCond .eq 10, 3) := by decide +kernel
theorem dX4_as_11 : decode cX4_as 11 = .ok (.iload_n 2, 1) := by decide +kernel
theorem dX4_as_12 : decode cX4_as 12 = .ok (.invokestatic 87, 3) := by decide +kernel
theorem dX4_as_15 : decode cX4_as 15 = .ok (.ifCond .ne 10, 3) := by decide +kernel
theorem dX4_as_18 : decode cX4_as 18 = .ok (.aload_n 0, 1) := by decide +kernel
theorem dX4_as_19 : decode cX4_as 19 = .ok (.ldc 48, 2) := by decide +kernel
theorem dX4_as_21 : decode cX4_as 21 = .ok (.invokevirtual 49, 3) := by decide +kernel
theorem dX4_as_24 : decode cX4_as 24 = .ok (.ireturn, 1) := by decide +kernel
theorem dX4_as_25 : decode cX4_as 25 = .ok (.aload_n 0, 1) := by decide +kernel
theorem dX4_as_26 : decode cX4_as 26 = .ok (.getfield 10, 3) := by decide +kernel
theorem dX4_as_29 : decode cX4_as 29 = .ok (.getfield 106, 3) := by decide +kernel
theorem dX4_as_32 : decode cX4_as 32 = .ok (.iload_n 1, 1) := by decide +kernel
theorem dX4_as_33 : decode cX4_as 33 = .ok (.iaload, 1) := by decide +kernel
theorem dX4_as_34 : decode cX4_as 34 = .ok (.iload_n 2, 1) := by decide +kernel
theorem dX4_as_35 : decode cX4_as 35 = .ok (.invokestatic 146, 3) := by decide +kernel
theorem dX4_as_38 : decode cX4_as 38 = .ok (.ifCond .ne 10, 3) := by decide +kernel
theorem dX4_as_41 : decode cX4_as 41 = .ok (.aload_n 0, 1) := by decide +kernel
theorem dX4_as_42 : decode cX4_as 42 = .ok (.ldc 149, 2) := by decide +kernel
theorem dX4_as_44 : decode cX4_as 44 = .ok (.invokevirtual 49, 3) := by decide +kernel
theorem dX4_as_47 : decode cX4_as 47 = .ok (.ireturn, 1) := by decide +kernel
theorem dX4_as_48 : decode cX4_as 48 = .ok (.aload_n 0, 1) := by decide +kernel
theorem dX4_as_49 : decode cX4_as 49 = .ok (.getfield 10, 3) := by decide +kernel
theorem dX4_as_52 : decode cX4_as 52 = .ok (.getfield 115, 3) := by decide +kernel
theorem dX4_as_55 : decode cX4_as 55 = .ok (.iload_n 1, 1) := by decide +kernel
theorem dX4_as_56 : decode cX4_as 56 = .ok (.iaload, 1) := by decide +kernel
theorem dX4_as_57 : decode cX4_as 57 = .ok (.ireturn, 1) := by decide +kernel
theorem dX4_nights_0 : decode cX4_nights 0 = .ok (.iload_n 1, 1) := by decide +kernel
theorem dX4_nights_1 : decode cX4_nights 1 = .ok (.iconst 1, 1) := by decide +kernel
theorem dX4_nights_2 : decode cX4_nights 2 = .ok (.bipush 60, 2) := by decide +kernel
theorem dX4_nights_4 : decode cX4_nights 4 = .ok (.invokestatic 44, 3) := by decide +kernel
theorem dX4_nights_7 : decode cX4_nights 7 = .ok (.ifCond .ne 10, 3) := by decide +kernel
theorem dX4_nights_10 : decode cX4_nights 10 = .ok (.aload_n 0, 1) := by decide +kernel
theorem dX4_nights_11 : decode cX4_nights 11 = .ok (.ldc 48, 2) := by decide +kernel
theorem dX4_nights_13 : decode cX4_nights 13 = .ok (.invokevirtual 49, 3) := by decide +kernel
theorem dX4_nights_16 : decode cX4_nights 16 = .ok (.ireturn, 1) := by decide +kernel
theorem dX4_nights_17 : decode cX4_nights 17 = .ok (.aload_n 0, 1) := by decide +kernel
theorem dX4_nights_18 : decode cX4_nights 18 = .ok (.getfield 10, 3) := by decide +kernel
theorem dX4_nights_21 : decode cX4_nights 21 = .ok (.getfield 56, 3) := by decide +kernel
theorem dX4_nights_24 : decode cX4_nights 24 = .ok (.ldc 150, 2) := by decide +kernel
theorem dX4_nights_26 : decode cX4_nights 26 = .ok (.iload_n 1, 1) := by decide +kernel
theorem dX4_nights_27 : decode cX4_nights 27 = .ok (.isub, 1) := by decide +kernel
theorem dX4_nights_28 : decode cX4_nights 28 = .ok (.if_icmp .le 10, 3) := by decide +kernel
theorem dX4_nights_31 : decode cX4_nights 31 = .ok (.aload_n 0, 1) := by decide +kernel
theorem dX4_nights_32 : decode cX4_nights 32 = .ok (.ldc 98, 2) := by decide +kernel
theorem dX4_nights_34 : decode cX4_nights 34 = .ok (.invokevirtual 49, 3) := by decide +kernel
theorem dX4_nights_37 : decode cX4_nights 37 = .ok (.ireturn, 1) := by decide +kernel
theorem dX4_nights_38 : decode cX4_nights 38 = .ok (.aload_n 0, 1) := by decide +kernel
theorem dX4_nights_39 : decode cX4_nights 39 = .ok (.getfield 10, 3) := by decide +kernel
theorem dX4_nights_42 : decode cX4_nights 42 = .ok (.iload_n 1, 1) := by decide +kernel
theorem dX4_nights_43 : decode cX4_nights 43 = .ok (.invokevirtual 151, 3) := by decide +kernel
theorem dX4_nights_46 : decode cX4_nights 46 = .ok (.aload_n 0, 1) := by decide +kernel
theorem dX4_nights_47 : decode cX4_nights 47 = .ok (.getfield 10, 3) := by decide +kernel
theorem dX4_nights_50 : decode cX4_nights 50 = .ok (.invokevirtual 67, 3) := by decide +kernel
theorem dX4_nights_53 : decode cX4_nights 53 = .ok (.ireturn, 1) := by decide +kernel
theorem dX4_on_0 : decode cX4_on 0 = .ok (.aload_n 0, 1) := by decide +kernel
theorem dX4_on_1 : decode cX4_on 1 = .ok (.getfield 10, 3) := by decide +kernel
theorem dX4_on_4 : decode cX4_on 4 = .ok (.iload_n 1, 1) := by decide +kernel
theorem dX4_on_5 : decode cX4_on 5 = .ok (.invokevirtual 103, 3) := by decide +kernel
theorem dX4_on_8 : decode cX4_on 8 = .ok (.ifCond .eq 22, 3) := by decide +kernel
theorem dX4_on_11 : decode cX4_on 11 = .ok (.iload_n 2, 1) := by decide +kernel
theorem dX4_on_12 : decode cX4_on 12 = .ok (.iconst 0, 1) := by decide +kernel
theorem dX4_on_13 : decode cX4_on 13 = .ok (.bipush 100, 2) := by decide +kernel
theorem dX4_on_15 : decode cX4_on 15 = .ok (.invokestatic 44, 3) := by decide +kernel
theorem dX4_on_18 : decode cX4_on 18 = .ok (.ifCond .eq 12, 3) := by decide +kernel
theorem dX4_on_21 : decode cX4_on 21 = .ok (.iload_n 3, 1) := by decide +kernel
theorem dX4_on_22 : decode cX4_on 22 = .ok (.iconst 0, 1) := by decide +kernel
theorem dX4_on_23 : decode cX4_on 23 = .ok (.iconst 1, 1) := by decide +kernel
theorem dX4_on_24 : decode cX4_on 24 = .ok (.invokestatic 44, 3) := by decide +kernel
theorem dX4_on_27 : decode cX4_on 27 = .ok (.ifCond .ne 10, 3) := by decide +kernel
theorem dX4_on_30 : decode cX4_on 30 = .ok (.aload_n 0, 1) := by decide +kernel
theorem dX4_on_31 : decode cX4_on 31 = .ok (.ldc 48, 2) := by decide +kernel
theorem dX4_on_33 : decode cX4_on 33 = .ok (.invokevirtual 49, 3) := by decide +kernel
theorem dX4_on_36 : decode cX4_on 36 = .ok (.ireturn, 1) := by decide +kernel
theorem dX4_on_37 : decode cX4_on 37 = .ok (.aload_n 0, 1) := by decide +kernel
theorem dX4_on_38 : decode cX4_on 38 = .ok (.getfield 16, 3) := by decide +kernel
theorem dX4_on_41 : decode cX4_on 41 = .ok (.aload_n 0, 1) := by decide +kernel
theorem dX4_on_42 : decode cX4_on 42 = .ok (.getfield 10, 3) := by decide +kernel
theorem dX4_on_45 : decode cX4_on 45 = .ok (.invokevirtual 155, 3) := by decide +kernel
theorem dX4_on_48 : decode cX4_on 48 = .ok (.aload_n 0, 1) := by decide +kernel
theorem dX4_on_49 : decode cX4_on 49 = .ok (.getfield 16, 3) := by decide +kernel
theorem dX4_on_52 : decode cX4_on 52 = .ok (.iload_n 2, 1) := by decide +kernel
theorem dX4_on_53 : decode cX4_on 53 = .ok (.invokevirtual 151, 3) := by decide +kernel
theorem dX4_on_56 : decode cX4_on 56 = .ok (.iload_n 3, 1) := by decide +kernel
theorem dX4_on_57 : decode cX4_on 57 = .ok (.ifCond .ne 15, 3) := by decide +kernel
theorem dX4_on_60 : decode cX4_on 60 = .ok (.aload_n 0, 1) := by decide +kernel
theorem dX4_on_61 : decode cX4_on 61 = .ok (.getfield 16, 3) := by decide +kernel
theorem dX4_on_64 : decode cX4_on 64 = .ok (.getfield 115, 3) := by decide +kernel
theorem dX4_on_67 : decode cX4_on 67 = .ok (.iload_n 1, 1) := by decide +kernel
theorem dX4_on_68 : decode cX4_on 68 = .ok (.iaload, 1) := by decide +kernel
theorem dX4_on_69 : decode cX4_on 69 = .ok (.goto 12, 3) := by decide +kernel
theorem dX4_on_72 : decode cX4_on 72 = .ok (.aload_n 0, 1) := by decide +kernel
theorem dX4_on_73 : decode cX4_on 73 = .ok (.getfield 16, 3) := by decide +kernel
theorem dX4_on_76 : decode cX4_on 76 = .ok (.getfield 73, 3) := by decide +kernel
theorem dX4_on_79 : decode cX4_on 79 = .ok (.iload_n 1, 1) := by decide +kernel
theorem dX4_on_80 : decode cX4_on 80 = .ok (.iaload, 1) := by decide +kernel
theorem dX4_on_81 : decode cX4_on 81 = .ok (.ireturn, 1) := by decide +kernel
theorem dX4_learns_0 : decode cX4_learns 0 = .ok (.aload_n 0, 1) := by decide +kernel
theorem dX4_learns_1 : decode cX4_learns 1 = .ok (.getfield 10, 3) := by decide +kernel
theorem dX4_learns_4 : decode cX4_learns 4 = .ok (.iload_n 1, 1) := by decide +kernel
theorem dX4_learns_5 : decode cX4_learns 5 = .ok (.invokevirtual 103, 3) := by decide +kernel
theorem dX4_learns_8 : decode cX4_learns 8 = .ok (.ifCond .eq 13, 3) := by decide +kernel
theorem dX4_learns_11 : decode cX4_learns 11 = .ok (.iload_n 2, 1) := by decide +kernel
theorem dX4_learns_12 : decode cX4_learns 12 = .ok (.iconst 0, 1) := by decide +kernel
theorem dX4_learns_13 : decode cX4_learns 13 = .ok (.bipush 9, 2) := by decide +kernel
theorem dX4_learns_15 : decode cX4_learns 15 = .ok (.invokestatic 44, 3) := by decide +kernel
theorem dX4_learns_18 : decode cX4_learns 18 = .ok (.ifCond .ne 10, 3) := by decide +kernel
theorem dX4_learns_21 : decode cX4_learns 21 = .ok (.aload_n 0, 1) := by decide +kernel
theorem dX4_learns_22 : decode cX4_learns 22 = .ok (.ldc 48, 2) := by decide +kernel
theorem dX4_learns_24 : decode cX4_learns 24 = .ok (.invokevirtual 49, 3) := by decide +kernel
theorem dX4_learns_27 : decode cX4_learns 27 = .ok (.ireturn, 1) := by decide +kernel
theorem dX4_learns_28 : decode cX4_learns 28 = .ok (.aload_n 0, 1) := by decide +kernel
theorem dX4_learns_29 : decode cX4_learns 29 = .ok (.getfield 16, 3) := by decide +kernel
theorem dX4_learns_32 : decode cX4_learns 32 = .ok (.aload_n 0, 1) := by decide +kernel
theorem dX4_learns_33 : decode cX4_learns 33 = .ok (.getfield 10, 3) := by decide +kernel
theorem dX4_learns_36 : decode cX4_learns 36 = .ok (.invokevirtual 155, 3) := by decide +kernel
theorem dX4_learns_39 : decode cX4_learns 39 = .ok (.iconst 0, 1) := by decide +kernel
theorem dX4_learns_40 : decode cX4_learns 40 = .ok (.istore_n 3, 1) := by decide +kernel
theorem dX4_learns_41 : decode cX4_learns 41 = .ok (.iload_n 3, 1) := by decide +kernel
theorem dX4_learns_42 : decode cX4_learns 42 = .ok (.bipush 100, 2) := by decide +kernel
theorem dX4_learns_44 : decode cX4_learns 44 = .ok (.if_icmp .gt 30, 3) := by decide +kernel
theorem dX4_learns_47 : decode cX4_learns 47 = .ok (.aload_n 0, 1) := by decide +kernel
theorem dX4_learns_48 : decode cX4_learns 48 = .ok (.getfield 16, 3) := by decide +kernel
theorem dX4_learns_51 : decode cX4_learns 51 = .ok (.iload_n 1, 1) := by decide +kernel
theorem dX4_learns_52 : decode cX4_learns 52 = .ok (.iload_n 2, 1) := by decide +kernel
theorem dX4_learns_53 : decode cX4_learns 53 = .ok (.invokevirtual 159, 3) := by decide +kernel
theorem dX4_learns_56 : decode cX4_learns 56 = .ok (.ifCond .eq 5, 3) := by decide +kernel
theorem dX4_learns_59 : decode cX4_learns 59 = .ok (.iload_n 3, 1) := by decide +kernel
theorem dX4_learns_60 : decode cX4_learns 60 = .ok (.ireturn, 1) := by decide +kernel
theorem dX4_learns_61 : decode cX4_learns 61 = .ok (.aload_n 0, 1) := by decide +kernel
theorem dX4_learns_62 : decode cX4_learns 62 = .ok (.getfield 16, 3) := by decide +kernel
theorem dX4_learns_65 : decode cX4_learns 65 = .ok (.invokevirtual 162, 3) := by decide +kernel
theorem dX4_learns_68 : decode cX4_learns 68 = .ok (.iinc 3 1, 3) := by decide +kernel
theorem dX4_learns_71 : decode cX4_learns 71 = .ok (.goto (-30), 3) := by decide +kernel
theorem dX4_learns_74 : decode cX4_learns 74 = .ok (.aload_n 0, 1) := by decide +kernel
theorem dX4_learns_75 : decode cX4_learns 75 = .ok (.ldc 83, 2) := by decide +kernel
theorem dX4_learns_77 : decode cX4_learns 77 = .ok (.invokevirtual 49, 3) := by decide +kernel
theorem dX4_learns_80 : decode cX4_learns 80 = .ok (.ireturn, 1) := by decide +kernel
theorem dX4_spreads_0 : decode cX4_spreads 0 = .ok (.iload_n 1, 1) := by decide +kernel
theorem dX4_spreads_1 : decode cX4_spreads 1 = .ok (.iconst 0, 1) := by decide +kernel
theorem dX4_spreads_2 : decode cX4_spreads 2 = .ok (.bipush 9, 2) := by decide +kernel
theorem dX4_spreads_4 : decode cX4_spreads 4 = .ok (.invokestatic 44, 3) := by decide +kernel
theorem dX4_spreads_7 : decode cX4_spreads 7 = .ok (.ifCond .ne 10, 3) := by decide +kernel
theorem dX4_spreads_10 : decode cX4_spreads 10 = .ok (.aload_n 0, 1) := by decide +kernel
theorem dX4_spreads_11 : decode cX4_spreads 11 = .ok (.ldc 48, 2) := by decide +kernel
theorem dX4_spreads_13 : decode cX4_spreads 13 = .ok (.invokevirtual 49, 3) := by decide +kernel
theorem dX4_spreads_16 : decode cX4_spreads 16 = .ok (.ireturn, 1) := by decide +kernel
theorem dX4_spreads_17 : decode cX4_spreads 17 = .ok (.aload_n 0, 1) := by decide +kernel
theorem dX4_spreads_18 : decode cX4_spreads 18 = .ok (.getfield 16, 3) := by decide +kernel
theorem dX4_spreads_21 : decode cX4_spreads 21 = .ok (.aload_n 0, 1) := by decide +kernel
theorem dX4_spreads_22 : decode cX4_spreads 22 = .ok (.getfield 10, 3) := by decide +kernel
theorem dX4_spreads_25 : decode cX4_spreads 25 = .ok (.invokevirtual 155, 3) := by decide +kernel
theorem dX4_spreads_28 : decode cX4_spreads 28 = .ok (.iconst 0, 1) := by decide +kernel
theorem dX4_spreads_29 : decode cX4_spreads 29 = .ok (.istore_n 2, 1) := by decide +kernel
theorem dX4_spreads_30 : decode cX4_spreads 30 = .ok (.iload_n 2, 1) := by decide +kernel
theorem dX4_spreads_31 : decode cX4_spreads 31 = .ok (.bipush 100, 2) := by decide +kernel
theorem dX4_spreads_33 : decode cX4_spreads 33 = .ok (.if_icmp .gt 29, 3) := by decide +kernel
theorem dX4_spreads_36 : decode cX4_spreads 36 = .ok (.aload_n 0, 1) := by decide +kernel
theorem dX4_spreads_37 : decode cX4_spreads 37 = .ok (.getfield 16, 3) := by decide +kernel
theorem dX4_spreads_40 : decode cX4_spreads 40 = .ok (.iload_n 1, 1) := by decide +kernel
theorem dX4_spreads_41 : decode cX4_spreads 41 = .ok (.invokevirtual 165, 3) := by decide +kernel
theorem dX4_spreads_44 : decode cX4_spreads 44 = .ok (.ifCond .eq 5, 3) := by decide +kernel
theorem dX4_spreads_47 : decode cX4_spreads 47 = .ok (.iload_n 2, 1) := by decide +kernel
theorem dX4_spreads_48 : decode cX4_spreads 48 = .ok (.ireturn, 1) := by decide +kernel
theorem dX4_spreads_49 : decode cX4_spreads 49 = .ok (.aload_n 0, 1) := by decide +kernel
theorem dX4_spreads_50 : decode cX4_spreads 50 = .ok (.getfield 16, 3) := by decide +kernel
theorem dX4_spreads_53 : decode cX4_spreads 53 = .ok (.invokevirtual 162, 3) := by decide +kernel
theorem dX4_spreads_56 : decode cX4_spreads 56 = .ok (.iinc 2 1, 3) := by decide +kernel
theorem dX4_spreads_59 : decode cX4_spreads 59 = .ok (.goto (-29), 3) := by decide +kernel
theorem dX4_spreads_62 : decode cX4_spreads 62 = .ok (.aload_n 0, 1) := by decide +kernel
theorem dX4_spreads_63 : decode cX4_spreads 63 = .ok (.ldc 83, 2) := by decide +kernel
theorem dX4_spreads_65 : decode cX4_spreads 65 = .ok (.invokevirtual 49, 3) := by decide +kernel
theorem dX4_spreads_68 : decode cX4_spreads 68 = .ok (.ireturn, 1) := by decide +kernel
theorem dX4_heresy_0 : decode cX4_heresy 0 = .ok (.aload_n 0, 1) := by decide +kernel
theorem dX4_heresy_1 : decode cX4_heresy 1 = .ok (.getfield 16, 3) := by decide +kernel
theorem dX4_heresy_4 : decode cX4_heresy 4 = .ok (.aload_n 0, 1) := by decide +kernel
theorem dX4_heresy_5 : decode cX4_heresy 5 = .ok (.getfield 10, 3) := by decide +kernel
theorem dX4_heresy_8 : decode cX4_heresy 8 = .ok (.invokevirtual 155, 3) := by decide +kernel
theorem dX4_heresy_11 : decode cX4_heresy 11 = .ok (.iconst 0, 1) := by decide +kernel
theorem dX4_heresy_12 : decode cX4_heresy 12 = .ok (.istore_n 1, 1) := by decide +kernel
theorem dX4_heresy_13 : decode cX4_heresy 13 = .ok (.iload_n 1, 1) := by decide +kernel
theorem dX4_heresy_14 : decode cX4_heresy 14 = .ok (.bipush 100, 2) := by decide +kernel
theorem dX4_heresy_16 : decode cX4_heresy 16 = .ok (.if_icmp .gt 28, 3) := by decide +kernel
theorem dX4_heresy_19 : decode cX4_heresy 19 = .ok (.aload_n 0, 1) := by decide +kernel
theorem dX4_heresy_20 : decode cX4_heresy 20 = .ok (.getfield 16, 3) := by decide +kernel
theorem dX4_heresy_23 : decode cX4_heresy 23 = .ok (.invokevirtual 168, 3) := by decide +kernel
theorem dX4_heresy_26 : decode cX4_heresy 26 = .ok (.ifCond .eq 5, 3) := by decide +kernel
theorem dX4_heresy_29 : decode cX4_heresy 29 = .ok (.iload_n 1, 1) := by decide +kernel
theorem dX4_heresy_30 : decode cX4_heresy 30 = .ok (.ireturn, 1) := by decide +kernel
theorem dX4_heresy_31 : decode cX4_heresy 31 = .ok (.aload_n 0, 1) := by decide +kernel
theorem dX4_heresy_32 : decode cX4_heresy 32 = .ok (.getfield 16, 3) := by decide +kernel
theorem dX4_heresy_35 : decode cX4_heresy 35 = .ok (.invokevirtual 162, 3) := by decide +kernel
theorem dX4_heresy_38 : decode cX4_heresy 38 = .ok (.iinc 1 1, 3) := by decide +kernel
theorem dX4_heresy_41 : decode cX4_heresy 41 = .ok (.goto (-28), 3) := by decide +kernel
theorem dX4_heresy_44 : decode cX4_heresy 44 = .ok (.aload_n 0, 1) := by decide +kernel
theorem dX4_heresy_45 : decode cX4_heresy 45 = .ok (.ldc 83, 2) := by decide +kernel
theorem dX4_heresy_47 : decode cX4_heresy 47 = .ok (.invokevirtual 49, 3) := by decide +kernel
theorem dX4_heresy_50 : decode cX4_heresy 50 = .ok (.ireturn, 1) := by decide +kernel
theorem dX4_best_0 : decode cX4_best 0 = .ok (.aload_n 0, 1) := by decide +kernel
theorem dX4_best_1 : decode cX4_best 1 = .ok (.getfield 10, 3) := by decide +kernel
theorem dX4_best_4 : decode cX4_best 4 = .ok (.iload_n 1, 1) := by decide +kernel
theorem dX4_best_5 : decode cX4_best 5 = .ok (.invokevirtual 103, 3) := by decide +kernel
theorem dX4_best_8 : decode cX4_best 8 = .ok (.ifCond .eq 13, 3) := by decide +kernel
theorem dX4_best_11 : decode cX4_best 11 = .ok (.iload_n 2, 1) := by decide +kernel
theorem dX4_best_12 : decode cX4_best 12 = .ok (.iconst 1, 1) := by decide +kernel
theorem dX4_best_13 : decode cX4_best 13 = .ok (.bipush 40, 2) := by decide +kernel
theorem dX4_best_15 : decode cX4_best 15 = .ok (.invokestatic 44, 3) := by decide +kernel
theorem dX4_best_18 : decode cX4_best 18 = .ok (.ifCond .ne 10, 3) := by decide +kernel
