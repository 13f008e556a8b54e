theorem dX0_init_0 : decode cX0_init 0 = .ok (.aload_n 0, 1) := by decide +kernel
theorem dX0_init_1 : decode cX0_init 1 = .ok (.invokespecial 3, 3) := by decide +kernel
theorem dX0_init_4 : decode cX0_init 4 = .ok (.aload_n 0, 1) := by decide +kernel
theorem dX0_init_5 : decode cX0_init 5 = .ok (.iconst 0, 1) := by decide +kernel
theorem dX0_init_6 : decode cX0_init 6 = .ok (.putfield 9, 3) := by decide +kernel
theorem dX0_init_9 : decode cX0_init 9 = .ok (.aload_n 0, 1) := by decide +kernel
theorem dX0_init_10 : decode cX0_init 10 = .ok (.iconst 0, 1) := by decide +kernel
theorem dX0_init_11 : decode cX0_init 11 = .ok (.putfield 15, 3) := by decide +kernel
theorem dX0_init_14 : decode cX0_init 14 = .ok (.aload_n 0, 1) := by decide +kernel
theorem dX0_init_15 : decode cX0_init 15 = .ok (.bipush 10, 2) := by decide +kernel
theorem dX0_init_17 : decode cX0_init 17 = .ok (.newarray .int, 2) := by decide +kernel
theorem dX0_init_19 : decode cX0_init 19 = .ok (.putfield 18, 3) := by decide +kernel
theorem dX0_init_22 : decode cX0_init 22 = .ok (.aload_n 0, 1) := by decide +kernel
theorem dX0_init_23 : decode cX0_init 23 = .ok (.bipush 10, 2) := by decide +kernel
theorem dX0_init_25 : decode cX0_init 25 = .ok (.newarray .int, 2) := by decide +kernel
theorem dX0_init_27 : decode cX0_init 27 = .ok (.putfield 22, 3) := by decide +kernel
theorem dX0_init_30 : decode cX0_init 30 = .ok (.aload_n 0, 1) := by decide +kernel
theorem dX0_init_31 : decode cX0_init 31 = .ok (.bipush 10, 2) := by decide +kernel
theorem dX0_init_33 : decode cX0_init 33 = .ok (.newarray .int, 2) := by decide +kernel
theorem dX0_init_35 : decode cX0_init 35 = .ok (.putfield 25, 3) := by decide +kernel
theorem dX0_init_38 : decode cX0_init 38 = .ok (.aload_n 0, 1) := by decide +kernel
theorem dX0_init_39 : decode cX0_init 39 = .ok (.bipush 10, 2) := by decide +kernel
theorem dX0_init_41 : decode cX0_init 41 = .ok (.newarray .int, 2) := by decide +kernel
theorem dX0_init_43 : decode cX0_init 43 = .ok (.putfield 28, 3) := by decide +kernel
theorem dX0_init_46 : decode cX0_init 46 = .ok (.aload_n 0, 1) := by decide +kernel
theorem dX0_init_47 : decode cX0_init 47 = .ok (.bipush 10, 2) := by decide +kernel
theorem dX0_init_49 : decode cX0_init 49 = .ok (.newarray .int, 2) := by decide +kernel
theorem dX0_init_51 : decode cX0_init 51 = .ok (.putfield 31, 3) := by decide +kernel
theorem dX0_init_54 : decode cX0_init 54 = .ok (.aload_n 0, 1) := by decide +kernel
theorem dX0_init_55 : decode cX0_init 55 = .ok (.bipush 10, 2) := by decide +kernel
theorem dX0_init_57 : decode cX0_init 57 = .ok (.newarray .int, 2) := by decide +kernel
theorem dX0_init_59 : decode cX0_init 59 = .ok (.putfield 34, 3) := by decide +kernel
theorem dX0_init_62 : decode cX0_init 62 = .ok (.aload_n 0, 1) := by decide +kernel
theorem dX0_init_63 : decode cX0_init 63 = .ok (.bipush 12, 2) := by decide +kernel
theorem dX0_init_65 : decode cX0_init 65 = .ok (.newarray .int, 2) := by decide +kernel
theorem dX0_init_67 : decode cX0_init 67 = .ok (.putfield 37, 3) := by decide +kernel
theorem dX0_init_70 : decode cX0_init 70 = .ok (.aload_n 0, 1) := by decide +kernel
theorem dX0_init_71 : decode cX0_init 71 = .ok (.bipush 10, 2) := by decide +kernel
theorem dX0_init_73 : decode cX0_init 73 = .ok (.newarray .int, 2) := by decide +kernel
theorem dX0_init_75 : decode cX0_init 75 = .ok (.putfield 40, 3) := by decide +kernel
theorem dX0_init_78 : decode cX0_init 78 = .ok (.aload_n 0, 1) := by decide +kernel
theorem dX0_init_79 : decode cX0_init 79 = .ok (.bipush 10, 2) := by decide +kernel
theorem dX0_init_81 : decode cX0_init 81 = .ok (.newarray .int, 2) := by decide +kernel
theorem dX0_init_83 : decode cX0_init 83 = .ok (.putfield 43, 3) := by decide +kernel
theorem dX0_init_86 : decode cX0_init 86 = .ok (.aload_n 0, 1) := by decide +kernel
theorem dX0_init_87 : decode cX0_init 87 = .ok (.getfield 37, 3) := by decide +kernel
theorem dX0_init_90 : decode cX0_init 90 = .ok (.iconst (-1), 1) := by decide +kernel
theorem dX0_init_91 : decode cX0_init 91 = .ok (.invokestatic 46, 3) := by decide +kernel
theorem dX0_init_94 : decode cX0_init 94 = .ok (.return_, 1) := by decide +kernel
theorem dX0_become_0 : decode cX0_become 0 = .ok (.aload_n 0, 1) := by decide +kernel
theorem dX0_become_1 : decode cX0_become 1 = .ok (.aload_n 1, 1) := by decide +kernel
theorem dX0_become_2 : decode cX0_become 2 = .ok (.getfield 9, 3) := by decide +kernel
theorem dX0_become_5 : decode cX0_become 5 = .ok (.putfield 9, 3) := by decide +kernel
theorem dX0_become_8 : decode cX0_become 8 = .ok (.aload_n 0, 1) := by decide +kernel
theorem dX0_become_9 : decode cX0_become 9 = .ok (.aload_n 1, 1) := by decide +kernel
theorem dX0_become_10 : decode cX0_become 10 = .ok (.getfield 15, 3) := by decide +kernel
theorem dX0_become_13 : decode cX0_become 13 = .ok (.putfield 15, 3) := by decide +kernel
theorem dX0_become_16 : decode cX0_become 16 = .ok (.aload_n 1, 1) := by decide +kernel
theorem dX0_become_17 : decode cX0_become 17 = .ok (.getfield 18, 3) := by decide +kernel
theorem dX0_become_20 : decode cX0_become 20 = .ok (.iconst 0, 1) := by decide +kernel
theorem dX0_become_21 : decode cX0_become 21 = .ok (.aload_n 0, 1) := by decide +kernel
theorem dX0_become_22 : decode cX0_become 22 = .ok (.getfield 18, 3) := by decide +kernel
theorem dX0_become_25 : decode cX0_become 25 = .ok (.iconst 0, 1) := by decide +kernel
theorem dX0_become_26 : decode cX0_become 26 = .ok (.bipush 10, 2) := by decide +kernel
theorem dX0_become_28 : decode cX0_become 28 = .ok (.invokestatic 52, 3) := by decide +kernel
theorem dX0_become_31 : decode cX0_become 31 = .ok (.aload_n 1, 1) := by decide +kernel
theorem dX0_become_32 : decode cX0_become 32 = .ok (.getfield 22, 3) := by decide +kernel
theorem dX0_become_35 : decode cX0_become 35 = .ok (.iconst 0, 1) := by decide +kernel
theorem dX0_become_36 : decode cX0_become 36 = .ok (.aload_n 0, 1) := by decide +kernel
theorem dX0_become_37 : decode cX0_become 37 = .ok (.getfield 22, 3) := by decide +kernel
theorem dX0_become_40 : decode cX0_become 40 = .ok (.iconst 0, 1) := by decide +kernel
theorem dX0_become_41 : decode cX0_become 41 = .ok (.bipush 10, 2) := by decide +kernel
theorem dX0_become_43 : decode cX0_become 43 = .ok (.invokestatic 52, 3) := by decide +kernel
theorem dX0_become_46 : decode cX0_become 46 = .ok (.aload_n 1, 1) := by decide +kernel
theorem dX0_become_47 : decode cX0_become 47 = .ok (.getfield 25, 3) := by decide +kernel
theorem dX0_become_50 : decode cX0_become 50 = .ok (.iconst 0, 1) := by decide +kernel
theorem dX0_become_51 : decode cX0_become 51 = .ok (.aload_n 0, 1) := by decide +kernel
theorem dX0_become_52 : decode cX0_become 52 = .ok (.getfield 25, 3) := by decide +kernel
theorem dX0_become_55 : decode cX0_become 55 = .ok (.iconst 0, 1) := by decide +kernel
theorem dX0_become_56 : decode cX0_become 56 = .ok (.bipush 10, 2) := by decide +kernel
theorem dX0_become_58 : decode cX0_become 58 = .ok (.invokestatic 52, 3) := by decide +kernel
theorem dX0_become_61 : decode cX0_become 61 = .ok (.aload_n 1, 1) := by decide +kernel
theorem dX0_become_62 : decode cX0_become 62 = .ok (.getfield 28, 3) := by decide +kernel
theorem dX0_become_65 : decode cX0_become 65 = .ok (.iconst 0, 1) := by decide +kernel
theorem dX0_become_66 : decode cX0_become 66 = .ok (.aload_n 0, 1) := by decide +kernel
theorem dX0_become_67 : decode cX0_become 67 = .ok (.getfield 28, 3) := by decide +kernel
theorem dX0_become_70 : decode cX0_become 70 = .ok (.iconst 0, 1) := by decide +kernel
theorem dX0_become_71 : decode cX0_become 71 = .ok (.bipush 10, 2) := by decide +kernel
theorem dX0_become_73 : decode cX0_become 73 = .ok (.invokestatic 52, 3) := by decide +kernel
theorem dX0_become_76 : decode cX0_become 76 = .ok (.aload_n 1, 1) := by decide +kernel
theorem dX0_become_77 : decode cX0_become 77 = .ok (.getfield 31, 3) := by decide +kernel
theorem dX0_become_80 : decode cX0_become 80 = .ok (.iconst 0, 1) := by decide +kernel
theorem dX0_become_81 : decode cX0_become 81 = .ok (.aload_n 0, 1) := by decide +kernel
theorem dX0_become_82 : decode cX0_become 82 = .ok (.getfield 31, 3) := by decide +kernel
theorem dX0_become_85 : decode cX0_become 85 = .ok (.iconst 0, 1) := by decide +kernel
theorem dX0_become_86 : decode cX0_become 86 = .ok (.bipush 10, 2) := by decide +kernel
theorem dX0_become_88 : decode cX0_become 88 = .ok (.invokestatic 52, 3) := by decide +kernel
theorem dX0_become_91 : decode cX0_become 91 = .ok (.aload_n 1, 1) := by decide +kernel
theorem dX0_become_92 : decode cX0_become 92 = .ok (.getfield 34, 3) := by decide +kernel
theorem dX0_become_95 : decode cX0_become 95 = .ok (.iconst 0, 1) := by decide +kernel
theorem dX0_become_96 : decode cX0_become 96 = .ok (.aload_n 0, 1) := by decide +kernel
theorem dX0_become_97 : decode cX0_become 97 = .ok (.getfield 34, 3) := by decide +kernel
theorem dX0_become_100 : decode cX0_become 100 = .ok (.iconst 0, 1) := by decide +kernel
theorem dX0_become_101 : decode cX0_become 101 = .ok (.bipush 10, 2) := by decide +kernel
theorem dX0_become_103 : decode cX0_become 103 = .ok (.invokestatic 52, 3) := by decide +kernel
theorem dX0_become_106 : decode cX0_become 106 = .ok (.aload_n 1, 1) := by decide +kernel
theorem dX0_become_107 : decode cX0_become 107 = .ok (.getfield 37, 3) := by decide +kernel
theorem dX0_become_110 : decode cX0_become 110 = .ok (.iconst 0, 1) := by decide +kernel
theorem dX0_become_111 : decode cX0_become 111 = .ok (.aload_n 0, 1) := by decide +kernel
theorem dX0_become_112 : decode cX0_become 112 = .ok (.getfield 37, 3) := by decide +kernel
theorem dX0_become_115 : decode cX0_become 115 = .ok (.iconst 0, 1) := by decide +kernel
theorem dX0_become_116 : decode cX0_become 116 = .ok (.bipush 12, 2) := by decide +kernel
theorem dX0_become_118 : decode cX0_become 118 = .ok (.invokestatic 52, 3) := by decide +kernel
theorem dX0_become_121 : decode cX0_become 121 = .ok (.return_, 1) := by decide +kernel
theorem dX0_has_0 : decode cX0_has 0 = .ok (.iload_n 1, 1) := by decide +kernel
theorem dX0_has_1 : decode cX0_has 1 = .ok (.ifCond .lt 15, 3) := by decide +kernel
theorem dX0_has_4 : decode cX0_has 4 = .ok (.iload_n 1, 1) := by decide +kernel
theorem dX0_has_5 : decode cX0_has 5 = .ok (.aload_n 0, 1) := by decide +kernel
theorem dX0_has_6 : decode cX0_has 6 = .ok (.getfield 15, 3) := by decide +kernel
theorem dX0_has_9 : decode cX0_has 9 = .ok (.if_icmp .ge 7, 3) := by decide +kernel
theorem dX0_has_12 : decode cX0_has 12 = .ok (.iconst 1, 1) := by decide +kernel
theorem dX0_has_13 : decode cX0_has 13 = .ok (.goto 4, 3) := by decide +kernel
theorem dX0_has_16 : decode cX0_has 16 = .ok (.iconst 0, 1) := by decide +kernel
theorem dX0_has_17 : decode cX0_has 17 = .ok (.ireturn, 1) := by decide +kernel
theorem dX0_isFull_0 : decode cX0_isFull 0 = .ok (.aload_n 0, 1) := by decide +kernel
theorem dX0_isFull_1 : decode cX0_isFull 1 = .ok (.getfield 15, 3) := by decide +kernel
theorem dX0_isFull_4 : decode cX0_isFull 4 = .ok (.bipush 10, 2) := by decide +kernel
theorem dX0_isFull_6 : decode cX0_isFull 6 = .ok (.if_icmp .lt 7, 3) := by decide +kernel
theorem dX0_isFull_9 : decode cX0_isFull 9 = .ok (.iconst 1, 1) := by decide +kernel
theorem dX0_isFull_10 : decode cX0_isFull 10 = .ok (.goto 4, 3) := by decide +kernel
theorem dX0_isFull_13 : decode cX0_isFull 13 = .ok (.iconst 0, 1) := by decide +kernel
theorem dX0_isFull_14 : decode cX0_isFull 14 = .ok (.ireturn, 1) := by decide +kernel
theorem dX0_sitter_0 : decode cX0_sitter 0 = .ok (.iload_n 1, 1) := by decide +kernel
theorem dX0_sitter_1 : decode cX0_sitter 1 = .ok (.iconst 0, 1) := by decide +kernel
theorem dX0_sitter_2 : decode cX0_sitter 2 = .ok (.bipush 11, 2) := by decide +kernel
theorem dX0_sitter_4 : decode cX0_sitter 4 = .ok (.invokestatic 58, 3) := by decide +kernel
theorem dX0_sitter_7 : decode cX0_sitter 7 = .ok (.ifCond .eq 12, 3) := by decide +kernel
theorem dX0_sitter_10 : decode cX0_sitter 10 = .ok (.aload_n 0, 1) := by decide +kernel
theorem dX0_sitter_11 : decode cX0_sitter 11 = .ok (.getfield 37, 3) := by decide +kernel
theorem dX0_sitter_14 : decode cX0_sitter 14 = .ok (.iload_n 1, 1) := by decide +kernel
theorem dX0_sitter_15 : decode cX0_sitter 15 = .ok (.iaload, 1) := by decide +kernel
theorem dX0_sitter_16 : decode cX0_sitter 16 = .ok (.goto 4, 3) := by decide +kernel
theorem dX0_sitter_19 : decode cX0_sitter 19 = .ok (.iconst (-1), 1) := by decide +kernel
theorem dX0_sitter_20 : decode cX0_sitter 20 = .ok (.ireturn, 1) := by decide +kernel
theorem dX0_maySit_0 : decode cX0_maySit 0 = .ok (.aload_n 0, 1) := by decide +kernel
theorem dX0_maySit_1 : decode cX0_maySit 1 = .ok (.iload_n 2, 1) := by decide +kernel
theorem dX0_maySit_2 : decode cX0_maySit 2 = .ok (.invokevirtual 62, 3) := by decide +kernel
theorem dX0_maySit_5 : decode cX0_maySit 5 = .ok (.istore_n 3, 1) := by decide +kernel
theorem dX0_maySit_6 : decode cX0_maySit 6 = .ok (.iload_n 3, 1) := by decide +kernel
theorem dX0_maySit_7 : decode cX0_maySit 7 = .ok (.iconst (-1), 1) := by decide +kernel
theorem dX0_maySit_8 : decode cX0_maySit 8 = .ok (.if_icmp .eq 8, 3) := by decide +kernel
theorem dX0_maySit_11 : decode cX0_maySit 11 = .ok (.iload_n 3, 1) := by decide +kernel
theorem dX0_maySit_12 : decode cX0_maySit 12 = .ok (.iload_n 1, 1) := by decide +kernel
theorem dX0_maySit_13 : decode cX0_maySit 13 = .ok (.if_icmp .ne 7, 3) := by decide +kernel
theorem dX0_maySit_16 : decode cX0_maySit 16 = .ok (.iconst 1, 1) := by decide +kernel
theorem dX0_maySit_17 : decode cX0_maySit 17 = .ok (.goto 4, 3) := by decide +kernel
theorem dX0_maySit_20 : decode cX0_maySit 20 = .ok (.iconst 0, 1) := by decide +kernel
theorem dX0_maySit_21 : decode cX0_maySit 21 = .ok (.ireturn, 1) := by decide +kernel
theorem dX0_add_0 : decode cX0_add 0 = .ok (.aload_n 0, 1) := by decide +kernel
theorem dX0_add_1 : decode cX0_add 1 = .ok (.getfield 15, 3) := by decide +kernel
theorem dX0_add_4 : decode cX0_add 4 = .ok (.istore 5, 2) := by decide +kernel
theorem dX0_add_6 : decode cX0_add 6 = .ok (.aload_n 0, 1) := by decide +kernel
theorem dX0_add_7 : decode cX0_add 7 = .ok (.getfield 18, 3) := by decide +kernel
theorem dX0_add_10 : decode cX0_add 10 = .ok (.iload 5, 2) := by decide +kernel
theorem dX0_add_12 : decode cX0_add 12 = .ok (.iload_n 1, 1) := by decide +kernel
theorem dX0_add_13 : decode cX0_add 13 = .ok (.iastore, 1) := by decide +kernel
theorem dX0_add_14 : decode cX0_add 14 = .ok (.aload_n 0, 1) := by decide +kernel
theorem dX0_add_15 : decode cX0_add 15 = .ok (.getfield 22, 3) := by decide +kernel
theorem dX0_add_18 : decode cX0_add 18 = .ok (.iload 5, 2) := by decide +kernel
theorem dX0_add_20 : decode cX0_add 20 = .ok (.iload_n 2, 1) := by decide +kernel
theorem dX0_add_21 : decode cX0_add 21 = .ok (.iastore, 1) := by decide +kernel
theorem dX0_add_22 : decode cX0_add 22 = .ok (.aload_n 0, 1) := by decide +kernel
theorem dX0_add_23 : decode cX0_add 23 = .ok (.getfield 25, 3) := by decide +kernel
theorem dX0_add_26 : decode cX0_add 26 = .ok (.iload 5, 2) := by decide +kernel
theorem dX0_add_28 : decode cX0_add 28 = .ok (.iload_n 3, 1) := by decide +kernel
theorem dX0_add_29 : decode cX0_add 29 = .ok (.iastore, 1) := by decide +kernel
theorem dX0_add_30 : decode cX0_add 30 = .ok (.aload_n 0, 1) := by decide +kernel
theorem dX0_add_31 : decode cX0_add 31 = .ok (.getfield 28, 3) := by decide +kernel
theorem dX0_add_34 : decode cX0_add 34 = .ok (.iload 5, 2) := by decide +kernel
theorem dX0_add_36 : decode cX0_add 36 = .ok (.iload 4, 2) := by decide +kernel
theorem dX0_add_38 : decode cX0_add 38 = .ok (.iastore, 1) := by decide +kernel
theorem dX0_add_39 : decode cX0_add 39 = .ok (.aload_n 0, 1) := by decide +kernel
theorem dX0_add_40 : decode cX0_add 40 = .ok (.getfield 31, 3) := by decide +kernel
theorem dX0_add_43 : decode cX0_add 43 = .ok (.iload 5, 2) := by decide +kernel
theorem dX0_add_45 : decode cX0_add 45 = .ok (.iconst 0, 1) := by decide +kernel
theorem dX0_add_46 : decode cX0_add 46 = .ok (.iastore, 1) := by decide +kernel
theorem dX0_add_47 : decode cX0_add 47 = .ok (.aload_n 0, 1) := by decide +kernel
theorem dX0_add_48 : decode cX0_add 48 = .ok (.getfield 34, 3) := by decide +kernel
theorem dX0_add_51 : decode cX0_add 51 = .ok (.iload 5, 2) := by decide +kernel
theorem dX0_add_53 : decode cX0_add 53 = .ok (.iconst 0, 1) := by decide +kernel
theorem dX0_add_54 : decode cX0_add 54 = .ok (.iastore, 1) := by decide +kernel
theorem dX0_add_55 : decode cX0_add 55 = .ok (.aload_n 0, 1) := by decide +kernel
theorem dX0_add_56 : decode cX0_add 56 = .ok (.getfield 37, 3) := by decide +kernel
theorem dX0_add_59 : decode cX0_add 59 = .ok (.iload_n 2, 1) := by decide +kernel
theorem dX0_add_60 : decode cX0_add 60 = .ok (.iload 5, 2) := by decide +kernel
theorem dX0_add_62 : decode cX0_add 62 = .ok (.iastore, 1) := by decide +kernel
theorem dX0_add_63 : decode cX0_add 63 = .ok (.aload_n 0, 1) := by decide +kernel
theorem dX0_add_64 : decode cX0_add 64 = .ok (.dup, 1) := by decide +kernel
theorem dX0_add_65 : decode cX0_add 65 = .ok (.getfield 15, 3) := by decide +kernel
theorem dX0_add_68 : decode cX0_add 68 = .ok (.iconst 1, 1) := by decide +kernel
theorem dX0_add_69 : decode cX0_add 69 = .ok (.iadd, 1) := by decide +kernel
theorem dX0_add_70 : decode cX0_add 70 = .ok (.putfield 15, 3) := by decide +kernel
theorem dX0_add_73 : decode cX0_add 73 = .ok (.iload 5, 2) := by decide +kernel
theorem dX0_add_75 : decode cX0_add 75 = .ok (.ireturn, 1) := by decide +kernel
theorem dX0_reseat_0 : decode cX0_reseat 0 = .ok (.aload_n 0, 1) := by decide +kernel
theorem dX0_reseat_1 : decode cX0_reseat 1 = .ok (.getfield 37, 3) := by decide +kernel
theorem dX0_reseat_4 : decode cX0_reseat 4 = .ok (.aload_n 0, 1) := by decide +kernel
theorem dX0_reseat_5 : decode cX0_reseat 5 = .ok (.getfield 22, 3) := by decide +kernel
theorem dX0_reseat_8 : decode cX0_reseat 8 = .ok (.iload_n 1, 1) := by decide +kernel
theorem dX0_reseat_9 : decode cX0_reseat 9 = .ok (.iaload, 1) := by decide +kernel
theorem dX0_reseat_10 : decode cX0_reseat 10 = .ok (.iconst (-1), 1) := by decide +kernel
theorem dX0_reseat_11 : decode cX0_reseat 11 = .ok (.iastore, 1) := by decide +kernel
theorem dX0_reseat_12 : decode cX0_reseat 12 = .ok (.aload_n 0, 1) := by decide +kernel
theorem dX0_reseat_13 : decode cX0_reseat 13 = .ok (.getfield 37, 3) := by decide +kernel
theorem dX0_reseat_16 : decode cX0_reseat 16 = .ok (.iload_n 2, 1) := by decide +kernel
theorem dX0_reseat_17 : decode cX0_reseat 17 = .ok (.iload_n 1, 1) := by decide +kernel
theorem dX0_reseat_18 : decode cX0_reseat 18 = .ok (.iastore, 1) := by decide +kernel
theorem dX0_reseat_19 : decode cX0_reseat 19 = .ok (.aload_n 0, 1) := by decide +kernel
theorem dX0_reseat_20 : decode cX0_reseat 20 = .ok (.getfield 22, 3) := by decide +kernel
theorem dX0_reseat_23 : decode cX0_reseat 23 = .ok (.iload_n 1, 1) := by decide +kernel
theorem dX0_reseat_24 : decode cX0_reseat 24 = .ok (.iload_n 2, 1) := by decide +kernel
theorem dX0_reseat_25 : decode cX0_reseat 25 = .ok (.iastore, 1) := by decide +kernel
theorem dX0_reseat_26 : decode cX0_reseat 26 = .ok (.return_, 1) := by decide +kernel
theorem dX0_leastEmptySeat_0 : decode cX0_leastEmptySeat 0 = .ok (.iconst 0, 1) := by decide +kernel
theorem dX0_leastEmptySeat_1 : decode cX0_leastEmptySeat 1 = .ok (.istore_n 1, 1) := by decide +kernel
theorem dX0_leastEmptySeat_2 : decode cX0_leastEmptySeat 2 = .ok (.iload_n 1, 1) := by decide +kernel
theorem dX0_leastEmptySeat_3 : decode cX0_leastEmptySeat 3 = .ok (.bipush 12, 2) := by decide +kernel
theorem dX0_leastEmptySeat_5 : decode cX0_leastEmptySeat 5 = .ok (.if_icmp .ge 19, 3) := by decide +kernel
theorem dX0_leastEmptySeat_8 : decode cX0_leastEmptySeat 8 = .ok (.aload_n 0, 1) := by decide +kernel
theorem dX0_leastEmptySeat_9 : decode cX0_leastEmptySeat 9 = .ok (.getfield 37, 3) := by decide +kernel
theorem dX0_leastEmptySeat_12 : decode cX0_leastEmptySeat 12 = .ok (.iload_n 1, 1) := by decide +kernel
theorem dX0_leastEmptySeat_13 : decode cX0_leastEmptySeat 13 = .ok (.iaload, 1) := by decide +kernel
theorem dX0_leastEmptySeat_14 : decode cX0_leastEmptySeat 14 = .ok (.iconst (-1), 1) := by decide +kernel
theorem dX0_leastEmptySeat_15 : decode cX0_leastEmptySeat 15 = .ok (.if_icmp .eq 9, 3) := by decide +kernel
theorem dX0_leastEmptySeat_18 : decode cX0_leastEmptySeat 18 = .ok (.iinc 1 1, 3) := by decide +kernel
theorem dX0_leastEmptySeat_21 : decode cX0_leastEmptySeat 21 = .ok (.goto (-19), 3) := by decide +kernel
theorem dX0_leastEmptySeat_24 : decode cX0_leastEmptySeat 24 = .ok (.iload_n 1, 1) := by decide +kernel
theorem dX0_leastEmptySeat_25 : decode cX0_leastEmptySeat 25 = .ok (.ireturn, 1) := by decide +kernel
theorem dX0_sitterInOrder_0 : decode cX0_sitterInOrder 0 = .ok (.iconst 0, 1) := by decide +kernel
theorem dX0_sitterInOrder_1 : decode cX0_sitterInOrder 1 = .ok (.istore_n 2, 1) := by decide +kernel
theorem dX0_sitterInOrder_2 : decode cX0_sitterInOrder 2 = .ok (.iconst 0, 1) := by decide +kernel
theorem dX0_sitterInOrder_3 : decode cX0_sitterInOrder 3 = .ok (.istore_n 3, 1) := by decide +kernel
theorem dX0_sitterInOrder_4 : decode cX0_sitterInOrder 4 = .ok (.iload_n 3, 1) := by decide +kernel
theorem dX0_sitterInOrder_5 : decode cX0_sitterInOrder 5 = .ok (.bipush 12, 2) := by decide +kernel
theorem dX0_sitterInOrder_7 : decode cX0_sitterInOrder 7 = .ok (.if_icmp .ge 34, 3) := by decide +kernel
theorem dX0_sitterInOrder_10 : decode cX0_sitterInOrder 10 = .ok (.aload_n 0, 1) := by decide +kernel
theorem dX0_sitterInOrder_11 : decode cX0_sitterInOrder 11 = .ok (.getfield 37, 3) := by decide +kernel
theorem dX0_sitterInOrder_14 : decode cX0_sitterInOrder 14 = .ok (.iload_n 3, 1) := by decide +kernel
theorem dX0_sitterInOrder_15 : decode cX0_sitterInOrder 15 = .ok (.iaload, 1) := by decide +kernel
theorem dX0_sitterInOrder_16 : decode cX0_sitterInOrder 16 = .ok (.iconst (-1), 1) := by decide +kernel
theorem dX0_sitterInOrder_17 : decode cX0_sitterInOrder 17 = .ok (.if_icmp .eq 18, 3) := by decide +kernel
theorem dX0_sitterInOrder_20 : decode cX0_sitterInOrder 20 = .ok (.iload_n 2, 1) := by decide +kernel
theorem dX0_sitterInOrder_21 : decode cX0_sitterInOrder 21 = .ok (.iload_n 1, 1) := by decide +kernel
theorem dX0_sitterInOrder_22 : decode cX0_sitterInOrder 22 = .ok (.if_icmp .ne 10, 3) := by decide +kernel
theorem dX0_sitterInOrder_25 : decode cX0_sitterInOrder 25 = .ok (.aload_n 0, 1) := by decide +kernel
theorem dX0_sitterInOrder_26 : decode cX0_sitterInOrder 26 = .ok (.getfield 37, 3) := by decide +kernel
theorem dX0_sitterInOrder_29 : decode cX0_sitterInOrder 29 = .ok (.iload_n 3, 1) := by decide +kernel
theorem dX0_sitterInOrder_30 : decode cX0_sitterInOrder 30 = .ok (.iaload, 1) := by decide +kernel
theorem dX0_sitterInOrder_31 : decode cX0_sitterInOrder 31 = .ok (.ireturn, 1) := by decide +kernel
theorem dX0_sitterInOrder_32 : decode cX0_sitterInOrder 32 = .ok (.iinc 2 1, 3) := by decide +kernel
theorem dX0_sitterInOrder_35 : decode cX0_sitterInOrder 35 = .ok (.iinc 3 1, 3) := by decide +kernel
theorem dX0_sitterInOrder_38 : decode cX0_sitterInOrder 38 = .ok (.goto (-34), 3) := by decide +kernel
theorem dX0_sitterInOrder_41 : decode cX0_sitterInOrder 41 = .ok (.iconst (-1), 1) := by decide +kernel
theorem dX0_sitterInOrder_42 : decode cX0_sitterInOrder 42 = .ok (.ireturn, 1) := by decide +kernel
theorem dX0_gaps_0 : decode cX0_gaps 0 = .ok (.iconst 0, 1) := by decide +kernel
theorem dX0_gaps_1 : decode cX0_gaps 1 = .ok (.istore_n 1, 1) := by decide +kernel
theorem dX0_gaps_2 : decode cX0_gaps 2 = .ok (.iconst 0, 1) := by decide +kernel
theorem dX0_gaps_3 : decode cX0_gaps 3 = .ok (.istore_n 2, 1) := by decide +kernel
theorem dX0_gaps_4 : decode cX0_gaps 4 = .ok (.iconst 0, 1) := by decide +kernel
theorem dX0_gaps_5 : decode cX0_gaps 5 = .ok (.istore_n 3, 1) := by decide +kernel
theorem dX0_gaps_6 : decode cX0_gaps 6 = .ok (.iconst 0, 1) := by decide +kernel
theorem dX0_gaps_7 : decode cX0_gaps 7 = .ok (.istore 4, 2) := by decide +kernel
theorem dX0_gaps_9 : decode cX0_gaps 9 = .ok (.iload 4, 2) := by decide +kernel
theorem dX0_gaps_11 : decode cX0_gaps 11 = .ok (.bipush 12, 2) := by decide +kernel
theorem dX0_gaps_13 : decode cX0_gaps 13 = .ok (.if_icmp .ge 38, 3) := by decide +kernel
theorem dX0_gaps_16 : decode cX0_gaps 16 = .ok (.aload_n 0, 1) := by decide +kernel
theorem dX0_gaps_17 : decode cX0_gaps 17 = .ok (.getfield 37, 3) := by decide +kernel
theorem dX0_gaps_20 : decode cX0_gaps 20 = .ok (.iload 4, 2) := by decide +kernel
theorem dX0_gaps_22 : decode cX0_gaps 22 = .ok (.iaload, 1) := by decide +kernel
theorem dX0_gaps_23 : decode cX0_gaps 23 = .ok (.iconst (-1), 1) := by decide +kernel
theorem dX0_gaps_24 : decode cX0_gaps 24 = .ok (.if_icmp .eq 10, 3) := by decide +kernel
theorem dX0_gaps_27 : decode cX0_gaps 27 = .ok (.iload_n 2, 1) := by decide +kernel
theorem dX0_gaps_28 : decode cX0_gaps 28 = .ok (.istore_n 1, 1) := by decide +kernel
theorem dX0_gaps_29 : decode cX0_gaps 29 = .ok (.iconst 1, 1) := by decide +kernel
theorem dX0_gaps_30 : decode cX0_gaps 30 = .ok (.istore_n 3, 1) := by decide +kernel
theorem dX0_gaps_31 : decode cX0_gaps 31 = .ok (.goto 14, 3) := by decide +kernel
theorem dX0_gaps_34 : decode cX0_gaps 34 = .ok (.iload_n 3, 1) := by decide +kernel
theorem dX0_gaps_35 : decode cX0_gaps 35 = .ok (.ifCond .eq 10, 3) := by decide +kernel
theorem dX0_gaps_38 : decode cX0_gaps 38 = .ok (.iload_n 2, 1) := by decide +kernel
theorem dX0_gaps_39 : decode cX0_gaps 39 = .ok (.iconst 1, 1) := by decide +kernel
theorem dX0_gaps_40 : decode cX0_gaps 40 = .ok (.iload 4, 2) := by decide +kernel
theorem dX0_gaps_42 : decode cX0_gaps 42 = .ok (.ishl, 1) := by decide +kernel
theorem dX0_gaps_43 : decode cX0_gaps 43 = .ok (.ior, 1) := by decide +kernel
theorem dX0_gaps_44 : decode cX0_gaps 44 = .ok (.istore_n 2, 1) := by decide +kernel
theorem dX0_gaps_45 : decode cX0_gaps 45 = .ok (.iinc 4 1, 3) := by decide +kernel
theorem dX0_gaps_48 : decode cX0_gaps 48 = .ok (.goto (-39), 3) := by decide +kernel
theorem dX0_gaps_51 : decode cX0_gaps 51 = .ok (.iload_n 1, 1) := by decide +kernel
theorem dX0_gaps_52 : decode cX0_gaps 52 = .ok (.ireturn, 1) := by decide +kernel
theorem dX0_versesBorne_0 : decode cX0_versesBorne 0 = .ok (.iconst 0, 1) := by decide +kernel
theorem dX0_versesBorne_1 : decode cX0_versesBorne 1 = .ok (.istore_n 1, 1) := by decide +kernel
theorem dX0_versesBorne_2 : decode cX0_versesBorne 2 = .ok (.iconst 0, 1) := by decide +kernel
theorem dX0_versesBorne_3 : decode cX0_versesBorne 3 = .ok (.istore_n 2, 1) := by decide +kernel
theorem dX0_versesBorne_4 : decode cX0_versesBorne 4 = .ok (.iload_n 2, 1) := by decide +kernel
theorem dX0_versesBorne_5 : decode cX0_versesBorne 5 = .ok (.aload_n 0, 1) := by decide +kernel
theorem dX0_versesBorne_6 : decode cX0_versesBorne 6 = .ok (.getfield 15, 3) := by decide +kernel
theorem dX0_versesBorne_9 : decode cX0_versesBorne 9 = .ok (.if_icmp .ge 20, 3) := by decide +kernel
theorem dX0_versesBorne_12 : decode cX0_versesBorne 12 = .ok (.iload_n 1, 1) := by decide +kernel
theorem dX0_versesBorne_13 : decode cX0_versesBorne 13 = .ok (.iconst 1, 1) := by decide +kernel
theorem dX0_versesBorne_14 : decode cX0_versesBorne 14 = .ok (.aload_n 0, 1) := by decide +kernel
theorem dX0_versesBorne_15 : decode cX0_versesBorne 15 = .ok (.getfield 25, 3) := by decide +kernel
theorem dX0_versesBorne_18 : decode cX0_versesBorne 18 = .ok (.iload_n 2, 1) := by decide +kernel
theorem dX0_versesBorne_19 : decode cX0_versesBorne 19 = .ok (.iaload, 1) := by decide +kernel
theorem dX0_versesBorne_20 : decode cX0_versesBorne 20 = .ok (.ishl, 1) := by decide +kernel
theorem dX0_versesBorne_21 : decode cX0_versesBorne 21 = .ok (.ior, 1) := by decide +kernel
theorem dX0_versesBorne_22 : decode cX0_versesBorne 22 = .ok (.istore_n 1, 1) := by decide +kernel
theorem dX0_versesBorne_23 : decode cX0_versesBorne 23 = .ok (.iinc 2 1, 3) := by decide +kernel
theorem dX0_versesBorne_26 : decode cX0_versesBorne 26 = .ok (.goto (-22), 3) := by decide +kernel
theorem dX0_versesBorne_29 : decode cX0_versesBorne 29 = .ok (.iload_n 1, 1) := by decide +kernel
theorem dX0_versesBorne_30 : decode cX0_versesBorne 30 = .ok (.ireturn, 1) := by decide +kernel
theorem dX0_versesKnown_0 : decode cX0_versesKnown 0 = .ok (.iconst 0, 1) := by decide +kernel
theorem dX0_versesKnown_1 : decode cX0_versesKnown 1 = .ok (.istore_n 1, 1) := by decide +kernel
theorem dX0_versesKnown_2 : decode cX0_versesKnown 2 = .ok (.iconst 0, 1) := by decide +kernel
theorem dX0_versesKnown_3 : decode cX0_versesKnown 3 = .ok (.istore_n 2, 1) := by decide +kernel
theorem dX0_versesKnown_4 : decode cX0_versesKnown 4 = .ok (.iload_n 2, 1) := by decide +kernel
theorem dX0_versesKnown_5 : decode cX0_versesKnown 5 = .ok (.aload_n 0, 1) := by decide +kernel
theorem dX0_versesKnown_6 : decode cX0_versesKnown 6 = .ok (.getfield 15, 3) := by decide +kernel
theorem dX0_versesKnown_9 : decode cX0_versesKnown 9 = .ok (.if_icmp .ge 18, 3) := by decide +kernel
theorem dX0_versesKnown_12 : decode cX0_versesKnown 12 = .ok (.iload_n 1, 1) := by decide +kernel
theorem dX0_versesKnown_13 : decode cX0_versesKnown 13 = .ok (.aload_n 0, 1) := by decide +kernel
theorem dX0_versesKnown_14 : decode cX0_versesKnown 14 = .ok (.getfield 31, 3) := by decide +kernel
theorem dX0_versesKnown_17 : decode cX0_versesKnown 17 = .ok (.iload_n 2, 1) := by decide +kernel
theorem dX0_versesKnown_18 : decode cX0_versesKnown 18 = .ok (.iaload, 1) := by decide +kernel
theorem dX0_versesKnown_19 : decode cX0_versesKnown 19 = .ok (.ior, 1) := by decide +kernel
theorem dX0_versesKnown_20 : decode cX0_versesKnown 20 = .ok (.istore_n 1, 1) := by decide +kernel
theorem dX0_versesKnown_21 : decode cX0_versesKnown 21 = .ok (.iinc 2 1, 3) := by decide +kernel
theorem dX0_versesKnown_24 : decode cX0_versesKnown 24 = .ok (.goto (-20), 3) := by decide +kernel
theorem dX0_versesKnown_27 : decode cX0_versesKnown 27 = .ok (.iload_n 1, 1) := by decide +kernel
theorem dX0_versesKnown_28 : decode cX0_versesKnown 28 = .ok (.ireturn, 1) := by decide +kernel
theorem dX0_knownTogether_0 : decode cX0_knownTogether 0 = .ok (.iconst 0, 1) := by decide +kernel
theorem dX0_knownTogether_1 : decode cX0_knownTogether 1 = .ok (.istore_n 1, 1) := by decide +kernel
theorem dX0_knownTogether_2 : decode cX0_knownTogether 2 = .ok (.iconst 0, 1) := by decide +kernel
theorem dX0_knownTogether_3 : decode cX0_knownTogether 3 = .ok (.istore_n 2, 1) := by decide +kernel
theorem dX0_knownTogether_4 : decode cX0_knownTogether 4 = .ok (.iload_n 2, 1) := by decide +kernel
theorem dX0_knownTogether_5 : decode cX0_knownTogether 5 = .ok (.aload_n 0, 1) := by decide +kernel
theorem dX0_knownTogether_6 : decode cX0_knownTogether 6 = .ok (.getfield 15, 3) := by decide +kernel
theorem dX0_knownTogether_9 : decode cX0_knownTogether 9 = .ok (.if_icmp .ge 17, 3) := by decide +kernel
theorem dX0_knownTogether_12 : decode cX0_knownTogether 12 = .ok (.iload_n 1, 1) := by decide +kernel
theorem dX0_knownTogether_13 : decode cX0_knownTogether 13 = .ok (.aload_n 0, 1) := by decide +kernel
theorem dX0_knownTogether_14 : decode cX0_knownTogether 14 = .ok (.iload_n 2, 1) := by decide +kernel
theorem dX0_knownTogether_15 : decode cX0_knownTogether 15 = .ok (.invokevirtual 66, 3) := by decide +kernel
theorem dX0_knownTogether_18 : decode cX0_knownTogether 18 = .ok (.iadd, 1) := by decide +kernel
theorem dX0_knownTogether_19 : decode cX0_knownTogether 19 = .ok (.istore_n 1, 1) := by decide +kernel
theorem dX0_knownTogether_20 : decode cX0_knownTogether 20 = .ok (.iinc 2 1, 3) := by decide +kernel
theorem dX0_knownTogether_23 : decode cX0_knownTogether 23 = .ok (.goto (-19), 3) := by decide +kernel
theorem dX0_knownTogether_26 : decode cX0_knownTogether 26 = .ok (.iload_n 1, 1) := by decide +kernel
theorem dX0_knownTogether_27 : decode cX0_knownTogether 27 = .ok (.ireturn, 1) := by decide +kernel
theorem dX0_knownBy_0 : decode cX0_knownBy 0 = .ok (.aload_n 0, 1) := by decide +kernel
theorem dX0_knownBy_1 : decode cX0_knownBy 1 = .ok (.getfield 31, 3) := by decide +kernel
theorem dX0_knownBy_4 : decode cX0_knownBy 4 = .ok (.iload_n 1, 1) := by decide +kernel
theorem dX0_knownBy_5 : decode cX0_knownBy 5 = .ok (.iaload, 1) := by decide +kernel
theorem dX0_knownBy_6 : decode cX0_knownBy 6 = .ok (.invokestatic 69, 3) := by decide +kernel
theorem dX0_knownBy_9 : decode cX0_knownBy 9 = .ok (.ireturn, 1) := by decide +kernel
theorem dX0_doesKnow_0 : decode cX0_doesKnow 0 = .ok (.aload_n 0, 1) := by decide +kernel
theorem dX0_doesKnow_1 : decode cX0_doesKnow 1 = .ok (.getfield 31, 3) := by decide +kernel
theorem dX0_doesKnow_4 : decode cX0_doesKnow 4 = .ok (.iload_n 1, 1) := by decide +kernel
theorem dX0_doesKnow_5 : decode cX0_doesKnow 5 = .ok (.iaload, 1) := by decide +kernel
theorem dX0_doesKnow_6 : decode cX0_doesKnow 6 = .ok (.iconst 1, 1) := by decide +kernel
theorem dX0_doesKnow_7 : decode cX0_doesKnow 7 = .ok (.iload_n 2, 1) := by decide +kernel
theorem dX0_doesKnow_8 : decode cX0_doesKnow 8 = .ok (.ishl, 1) := by decide +kernel
theorem dX0_doesKnow_9 : decode cX0_doesKnow 9 = .ok (.iand, 1) := by decide +kernel
theorem dX0_doesKnow_10 : decode cX0_doesKnow 10 = .ok (.ifCond .eq 7, 3) := by decide +kernel
theorem dX0_doesKnow_13 : decode cX0_doesKnow 13 = .ok (.iconst 1, 1) := by decide +kernel
theorem dX0_doesKnow_14 : decode cX0_doesKnow 14 = .ok (.goto 4, 3) := by decide +kernel
theorem dX0_doesKnow_17 : decode cX0_doesKnow 17 = .ok (.iconst 0, 1) := by decide +kernel
theorem dX0_doesKnow_18 : decode cX0_doesKnow 18 = .ok (.ireturn, 1) := by decide +kernel
theorem dX0_isSpread_0 : decode cX0_isSpread 0 = .ok (.iconst 0, 1) := by decide +kernel
theorem dX0_isSpread_1 : decode cX0_isSpread 1 = .ok (.istore_n 2, 1) := by decide +kernel
theorem dX0_isSpread_2 : decode cX0_isSpread 2 = .ok (.iload_n 2, 1) := by decide +kernel
theorem dX0_isSpread_3 : decode cX0_isSpread 3 = .ok (.aload_n 0, 1) := by decide +kernel
theorem dX0_isSpread_4 : decode cX0_isSpread 4 = .ok (.getfield 15, 3) := by decide +kernel
theorem dX0_isSpread_7 : decode cX0_isSpread 7 = .ok (.if_icmp .ge 50, 3) := by decide +kernel
theorem dX0_isSpread_10 : decode cX0_isSpread 10 = .ok (.aload_n 0, 1) := by decide +kernel
theorem dX0_isSpread_11 : decode cX0_isSpread 11 = .ok (.getfield 18, 3) := by decide +kernel
theorem dX0_isSpread_14 : decode cX0_isSpread 14 = .ok (.iload_n 2, 1) := by decide +kernel
theorem dX0_isSpread_15 : decode cX0_isSpread 15 = .ok (.iaload, 1) := by decide +kernel
theorem dX0_isSpread_16 : decode cX0_isSpread 16 = .ok (.iconst 3, 1) := by decide +kernel
theorem dX0_isSpread_17 : decode cX0_isSpread 17 = .ok (.if_icmp .eq 17, 3) := by decide +kernel
theorem dX0_isSpread_20 : decode cX0_isSpread 20 = .ok (.aload_n 0, 1) := by decide +kernel
theorem dX0_isSpread_21 : decode cX0_isSpread 21 = .ok (.getfield 25, 3) := by decide +kernel
theorem dX0_isSpread_24 : decode cX0_isSpread 24 = .ok (.iload_n 2, 1) := by decide +kernel
theorem dX0_isSpread_25 : decode cX0_isSpread 25 = .ok (.iaload, 1) := by decide +kernel
theorem dX0_isSpread_26 : decode cX0_isSpread 26 = .ok (.iload_n 1, 1) := by decide +kernel
theorem dX0_isSpread_27 : decode cX0_isSpread 27 = .ok (.if_icmp .eq 7, 3) := by decide +kernel
theorem dX0_isSpread_30 : decode cX0_isSpread 30 = .ok (.iconst 1, 1) := by decide +kernel
theorem dX0_isSpread_31 : decode cX0_isSpread 31 = .ok (.goto 4, 3) := by decide +kernel
theorem dX0_isSpread_34 : decode cX0_isSpread 34 = .ok (.iconst 0, 1) := by decide +kernel
theorem dX0_isSpread_35 : decode cX0_isSpread 35 = .ok (.istore_n 3, 1) := by decide +kernel
theorem dX0_isSpread_36 : decode cX0_isSpread 36 = .ok (.iload_n 3, 1) := by decide +kernel
theorem dX0_isSpread_37 : decode cX0_isSpread 37 = .ok (.ifCond .eq 14, 3) := by decide +kernel
theorem dX0_isSpread_40 : decode cX0_isSpread 40 = .ok (.aload_n 0, 1) := by decide +kernel
theorem dX0_isSpread_41 : decode cX0_isSpread 41 = .ok (.iload_n 2, 1) := by decide +kernel
theorem dX0_isSpread_42 : decode cX0_isSpread 42 = .ok (.iload_n 1, 1) := by decide +kernel
theorem dX0_isSpread_43 : decode cX0_isSpread 43 = .ok (.invokevirtual 76, 3) := by decide +kernel
theorem dX0_isSpread_46 : decode cX0_isSpread 46 = .ok (.ifCond .ne 5, 3) := by decide +kernel
theorem dX0_isSpread_49 : decode cX0_isSpread 49 = .ok (.iconst 0, 1) := by decide +kernel
theorem dX0_isSpread_50 : decode cX0_isSpread 50 = .ok (.ireturn, 1) := by decide +kernel
theorem dX0_isSpread_51 : decode cX0_isSpread 51 = .ok (.iinc 2 1, 3) := by decide +kernel
theorem dX0_isSpread_54 : decode cX0_isSpread 54 = .ok (.goto (-52), 3) := by decide +kernel
theorem dX0_isSpread_57 : decode cX0_isSpread 57 = .ok (.iconst 1, 1) := by decide +kernel
theorem dX0_isSpread_58 : decode cX0_isSpread 58 = .ok (.ireturn, 1) := by decide +kernel
theorem dX0_isHeretical_0 : decode cX0_isHeretical 0 = .ok (.iconst 0, 1) := by decide +kernel
theorem dX0_isHeretical_1 : decode cX0_isHeretical 1 = .ok (.istore_n 1, 1) := by decide +kernel
theorem dX0_isHeretical_2 : decode cX0_isHeretical 2 = .ok (.iload_n 1, 1) := by decide +kernel
theorem dX0_isHeretical_3 : decode cX0_isHeretical 3 = .ok (.aload_n 0, 1) := by decide +kernel
theorem dX0_isHeretical_4 : decode cX0_isHeretical 4 = .ok (.getfield 15, 3) := by decide +kernel
theorem dX0_isHeretical_7 : decode cX0_isHeretical 7 = .ok (.if_icmp .ge 25, 3) := by decide +kernel
theorem dX0_isHeretical_10 : decode cX0_isHeretical 10 = .ok (.aload_n 0, 1) := by decide +kernel
theorem dX0_isHeretical_11 : decode cX0_isHeretical 11 = .ok (.iload_n 1, 1) := by decide +kernel
theorem dX0_isHeretical_12 : decode cX0_isHeretical 12 = .ok (.aload_n 0, 1) := by decide +kernel
theorem dX0_isHeretical_13 : decode cX0_isHeretical 13 = .ok (.getfield 25, 3) := by decide +kernel
theorem dX0_isHeretical_16 : decode cX0_isHeretical 16 = .ok (.iload_n 1, 1) := by decide +kernel
theorem dX0_isHeretical_17 : decode cX0_isHeretical 17 = .ok (.iaload, 1) := by decide +kernel
theorem dX0_isHeretical_18 : decode cX0_isHeretical 18 = .ok (.invokevirtual 76, 3) := by decide +kernel
theorem dX0_isHeretical_21 : decode cX0_isHeretical 21 = .ok (.ifCond .eq 5, 3) := by decide +kernel
theorem dX0_isHeretical_24 : decode cX0_isHeretical 24 = .ok (.iconst 1, 1) := by decide +kernel
theorem dX0_isHeretical_25 : decode cX0_isHeretical 25 = .ok (.ireturn, 1) := by decide +kernel
theorem dX0_isHeretical_26 : decode cX0_isHeretical 26 = .ok (.iinc 1 1, 3) := by decide +kernel
theorem dX0_isHeretical_29 : decode cX0_isHeretical 29 = .ok (.goto (-27), 3) := by decide +kernel
theorem dX0_isHeretical_32 : decode cX0_isHeretical 32 = .ok (.iconst 0, 1) := by decide +kernel
theorem dX0_isHeretical_33 : decode cX0_isHeretical 33 = .ok (.ireturn, 1) := by decide +kernel
theorem dX0_sum_0 : decode cX0_sum 0 = .ok (.iconst 0, 1) := by decide +kernel
theorem dX0_sum_1 : decode cX0_sum 1 = .ok (.istore_n 2, 1) := by decide +kernel
theorem dX0_sum_2 : decode cX0_sum 2 = .ok (.iconst 0, 1) := by decide +kernel
theorem dX0_sum_3 : decode cX0_sum 3 = .ok (.istore_n 3, 1) := by decide +kernel
theorem dX0_sum_4 : decode cX0_sum 4 = .ok (.iload_n 3, 1) := by decide +kernel
theorem dX0_sum_5 : decode cX0_sum 5 = .ok (.aload_n 0, 1) := by decide +kernel
theorem dX0_sum_6 : decode cX0_sum 6 = .ok (.getfield 15, 3) := by decide +kernel
theorem dX0_sum_9 : decode cX0_sum 9 = .ok (.if_icmp .ge 21, 3) := by decide +kernel
theorem dX0_sum_12 : decode cX0_sum 12 = .ok (.iload_n 3, 1) := by decide +kernel
theorem dX0_sum_13 : decode cX0_sum 13 = .ok (.aload_n 1, 1) := by decide +kernel
theorem dX0_sum_14 : decode cX0_sum 14 = .ok (.arraylength, 1) := by decide +kernel
theorem dX0_sum_15 : decode cX0_sum 15 = .ok (.if_icmp .ge 15, 3) := by decide +kernel
theorem dX0_sum_18 : decode cX0_sum 18 = .ok (.iload_n 2, 1) := by decide +kernel
theorem dX0_sum_19 : decode cX0_sum 19 = .ok (.aload_n 1, 1) := by decide +kernel
theorem dX0_sum_20 : decode cX0_sum 20 = .ok (.iload_n 3, 1) := by decide +kernel
theorem dX0_sum_21 : decode cX0_sum 21 = .ok (.iaload, 1) := by decide +kernel
theorem dX0_sum_22 : decode cX0_sum 22 = .ok (.iadd, 1) := by decide +kernel
theorem dX0_sum_23 : decode cX0_sum 23 = .ok (.istore_n 2, 1) := by decide +kernel
theorem dX0_sum_24 : decode cX0_sum 24 = .ok (.iinc 3 1, 3) := by decide +kernel
theorem dX0_sum_27 : decode cX0_sum 27 = .ok (.goto (-23), 3) := by decide +kernel
theorem dX0_sum_30 : decode cX0_sum 30 = .ok (.iload_n 2, 1) := by decide +kernel
theorem dX0_sum_31 : decode cX0_sum 31 = .ok (.ireturn, 1) := by decide +kernel
theorem dX0_felt_0 : decode cX0_felt 0 = .ok (.aload_n 0, 1) := by decide +kernel
theorem dX0_felt_1 : decode cX0_felt 1 = .ok (.getfield 18, 3) := by decide +kernel
theorem dX0_felt_4 : decode cX0_felt 4 = .ok (.iload_n 1, 1) := by decide +kernel
theorem dX0_felt_5 : decode cX0_felt 5 = .ok (.iaload, 1) := by decide +kernel
theorem dX0_felt_6 : decode cX0_felt 6 = .ok (.aload_n 0, 1) := by decide +kernel
theorem dX0_felt_7 : decode cX0_felt 7 = .ok (.getfield 34, 3) := by decide +kernel
theorem dX0_felt_10 : decode cX0_felt 10 = .ok (.iload_n 1, 1) := by decide +kernel
theorem dX0_felt_11 : decode cX0_felt 11 = .ok (.iaload, 1) := by decide +kernel
theorem dX0_felt_12 : decode cX0_felt 12 = .ok (.invokestatic 80, 3) := by decide +kernel
theorem dX0_felt_15 : decode cX0_felt 15 = .ok (.istore_n 2, 1) := by decide +kernel
theorem dX0_felt_16 : decode cX0_felt 16 = .ok (.iconst 1, 1) := by decide +kernel
theorem dX0_felt_17 : decode cX0_felt 17 = .ok (.istore_n 3, 1) := by decide +kernel
theorem dX0_felt_18 : decode cX0_felt 18 = .ok (.iload_n 3, 1) := by decide +kernel
theorem dX0_felt_19 : decode cX0_felt 19 = .ok (.iload_n 2, 1) := by decide +kernel
theorem dX0_felt_20 : decode cX0_felt 20 = .ok (.if_icmp .gt 32, 3) := by decide +kernel
theorem dX0_felt_23 : decode cX0_felt 23 = .ok (.aload_n 0, 1) := by decide +kernel
theorem dX0_felt_24 : decode cX0_felt 24 = .ok (.aload_n 0, 1) := by decide +kernel
theorem dX0_felt_25 : decode cX0_felt 25 = .ok (.getfield 22, 3) := by decide +kernel
theorem dX0_felt_28 : decode cX0_felt 28 = .ok (.iload_n 1, 1) := by decide +kernel
theorem dX0_felt_29 : decode cX0_felt 29 = .ok (.iaload, 1) := by decide +kernel
theorem dX0_felt_30 : decode cX0_felt 30 = .ok (.iload_n 3, 1) := by decide +kernel
theorem dX0_felt_31 : decode cX0_felt 31 = .ok (.iadd, 1) := by decide +kernel
theorem dX0_felt_32 : decode cX0_felt 32 = .ok (.invokevirtual 62, 3) := by decide +kernel
theorem dX0_felt_35 : decode cX0_felt 35 = .ok (.istore 4, 2) := by decide +kernel
theorem dX0_felt_37 : decode cX0_felt 37 = .ok (.iload 4, 2) := by decide +kernel
theorem dX0_felt_39 : decode cX0_felt 39 = .ok (.iconst (-1), 1) := by decide +kernel
theorem dX0_felt_40 : decode cX0_felt 40 = .ok (.if_icmp .eq 6, 3) := by decide +kernel
theorem dX0_felt_43 : decode cX0_felt 43 = .ok (.iload 4, 2) := by decide +kernel
theorem dX0_felt_45 : decode cX0_felt 45 = .ok (.ireturn, 1) := by decide +kernel
theorem dX0_felt_46 : decode cX0_felt 46 = .ok (.iinc 3 1, 3) := by decide +kernel
theorem dX0_felt_49 : decode cX0_felt 49 = .ok (.goto (-31), 3) := by decide +kernel
theorem dX0_felt_52 : decode cX0_felt 52 = .ok (.iconst (-1), 1) := by decide +kernel
theorem dX0_felt_53 : decode cX0_felt 53 = .ok (.ireturn, 1) := by decide +kernel
theorem dX0_getsFrom_0 : decode cX0_getsFrom 0 = .ok (.iload_n 2, 1) := by decide +kernel
theorem dX0_getsFrom_1 : decode cX0_getsFrom 1 = .ok (.iconst (-1), 1) := by decide +kernel
theorem dX0_getsFrom_2 : decode cX0_getsFrom 2 = .ok (.if_icmp .eq 35, 3) := by decide +kernel
theorem dX0_getsFrom_5 : decode cX0_getsFrom 5 = .ok (.aload_n 0, 1) := by decide +kernel
theorem dX0_getsFrom_6 : decode cX0_getsFrom 6 = .ok (.getfield 18, 3) := by decide +kernel
theorem dX0_getsFrom_9 : decode cX0_getsFrom 9 = .ok (.iload_n 1, 1) := by decide +kernel
theorem dX0_getsFrom_10 : decode cX0_getsFrom 10 = .ok (.iaload, 1) := by decide +kernel
theorem dX0_getsFrom_11 : decode cX0_getsFrom 11 = .ok (.aload_n 0, 1) := by decide +kernel
theorem dX0_getsFrom_12 : decode cX0_getsFrom 12 = .ok (.getfield 34, 3) := by decide +kernel
theorem dX0_getsFrom_15 : decode cX0_getsFrom 15 = .ok (.iload_n 1, 1) := by decide +kernel
theorem dX0_getsFrom_16 : decode cX0_getsFrom 16 = .ok (.iaload, 1) := by decide +kernel
theorem dX0_getsFrom_17 : decode cX0_getsFrom 17 = .ok (.aload_n 0, 1) := by decide +kernel
theorem dX0_getsFrom_18 : decode cX0_getsFrom 18 = .ok (.getfield 28, 3) := by decide +kernel
theorem dX0_getsFrom_21 : decode cX0_getsFrom 21 = .ok (.iload_n 2, 1) := by decide +kernel
theorem dX0_getsFrom_22 : decode cX0_getsFrom 22 = .ok (.iaload, 1) := by decide +kernel
theorem dX0_getsFrom_23 : decode cX0_getsFrom 23 = .ok (.aload_n 0, 1) := by decide +kernel
theorem dX0_getsFrom_24 : decode cX0_getsFrom 24 = .ok (.getfield 9, 3) := by decide +kernel
theorem dX0_getsFrom_27 : decode cX0_getsFrom 27 = .ok (.invokestatic 84, 3) := by decide +kernel
theorem dX0_getsFrom_30 : decode cX0_getsFrom 30 = .ok (.ifCond .eq 7, 3) := by decide +kernel
theorem dX0_getsFrom_33 : decode cX0_getsFrom 33 = .ok (.iconst 1, 1) := by decide +kernel
theorem dX0_getsFrom_34 : decode cX0_getsFrom 34 = .ok (.goto 4, 3) := by decide +kernel
theorem dX0_getsFrom_37 : decode cX0_getsFrom 37 = .ok (.iconst 0, 1) := by decide +kernel
theorem dX0_getsFrom_38 : decode cX0_getsFrom 38 = .ok (.ireturn, 1) := by decide +kernel
theorem dX0_told_0 : decode cX0_told 0 = .ok (.aload_n 0, 1) := by decide +kernel
theorem dX0_told_1 : decode cX0_told 1 = .ok (.getfield 18, 3) := by decide +kernel
theorem dX0_told_4 : decode cX0_told 4 = .ok (.iload_n 1, 1) := by decide +kernel
theorem dX0_told_5 : decode cX0_told 5 = .ok (.iaload, 1) := by decide +kernel
theorem dX0_told_6 : decode cX0_told 6 = .ok (.aload_n 0, 1) := by decide +kernel
theorem dX0_told_7 : decode cX0_told 7 = .ok (.getfield 31, 3) := by decide +kernel
theorem dX0_told_10 : decode cX0_told 10 = .ok (.iload_n 1, 1) := by decide +kernel
theorem dX0_told_11 : decode cX0_told 11 = .ok (.iaload, 1) := by decide +kernel
theorem dX0_told_12 : decode cX0_told 12 = .ok (.invokestatic 88, 3) := by decide +kernel
theorem dX0_told_15 : decode cX0_told 15 = .ok (.ireturn, 1) := by decide +kernel
theorem dX0_passNights_0 : decode cX0_passNights 0 = .ok (.iconst 0, 1) := by decide +kernel
theorem dX0_passNights_1 : decode cX0_passNights 1 = .ok (.istore_n 2, 1) := by decide +kernel
theorem dX0_passNights_2 : decode cX0_passNights 2 = .ok (.iload_n 2, 1) := by decide +kernel
theorem dX0_passNights_3 : decode cX0_passNights 3 = .ok (.iload_n 1, 1) := by decide +kernel
theorem dX0_passNights_4 : decode cX0_passNights 4 = .ok (.if_icmp .ge 13, 3) := by decide +kernel
theorem dX0_passNights_7 : decode cX0_passNights 7 = .ok (.aload_n 0, 1) := by decide +kernel
theorem dX0_passNights_8 : decode cX0_passNights 8 = .ok (.invokevirtual 91, 3) := by decide +kernel
theorem dX0_passNights_11 : decode cX0_passNights 11 = .ok (.iinc 2 1, 3) := by decide +kernel
theorem dX0_passNights_14 : decode cX0_passNights 14 = .ok (.goto (-12), 3) := by decide +kernel
theorem dX0_passNights_17 : decode cX0_passNights 17 = .ok (.return_, 1) := by decide +kernel
theorem dX0_passNight_0 : decode cX0_passNight 0 = .ok (.iconst 0, 1) := by decide +kernel
theorem dX0_passNight_1 : decode cX0_passNight 1 = .ok (.istore_n 1, 1) := by decide +kernel
theorem dX0_passNight_2 : decode cX0_passNight 2 = .ok (.iload_n 1, 1) := by decide +kernel
theorem dX0_passNight_3 : decode cX0_passNight 3 = .ok (.aload_n 0, 1) := by decide +kernel
theorem dX0_passNight_4 : decode cX0_passNight 4 = .ok (.getfield 15, 3) := by decide +kernel
theorem dX0_passNight_7 : decode cX0_passNight 7 = .ok (.if_icmp .ge 14, 3) := by decide +kernel
theorem dX0_passNight_10 : decode cX0_passNight 10 = .ok (.aload_n 0, 1) := by decide +kernel
theorem dX0_passNight_11 : decode cX0_passNight 11 = .ok (.iload_n 1, 1) := by decide +kernel
theorem dX0_passNight_12 : decode cX0_passNight 12 = .ok (.invokevirtual 94, 3) := by decide +kernel
theorem dX0_passNight_15 : decode cX0_passNight 15 = .ok (.iinc 1 1, 3) := by decide +kernel
theorem dX0_passNight_18 : decode cX0_passNight 18 = .ok (.goto (-16), 3) := by decide +kernel
theorem dX0_passNight_21 : decode cX0_passNight 21 = .ok (.iconst 0, 1) := by decide +kernel
theorem dX0_passNight_22 : decode cX0_passNight 22 = .ok (.istore_n 1, 1) := by decide +kernel
theorem dX0_passNight_23 : decode cX0_passNight 23 = .ok (.iload_n 1, 1) := by decide +kernel
theorem dX0_passNight_24 : decode cX0_passNight 24 = .ok (.aload_n 0, 1) := by decide +kernel
theorem dX0_passNight_25 : decode cX0_passNight 25 = .ok (.getfield 15, 3) := by decide +kernel
theorem dX0_passNight_28 : decode cX0_passNight 28 = .ok (.if_icmp .ge 52, 3) := by decide +kernel
theorem dX0_passNight_31 : decode cX0_passNight 31 = .ok (.aload_n 0, 1) := by decide +kernel
theorem dX0_passNight_32 : decode cX0_passNight 32 = .ok (.getfield 31, 3) := by decide +kernel
theorem dX0_passNight_35 : decode cX0_passNight 35 = .ok (.iload_n 1, 1) := by decide +kernel
theorem dX0_passNight_36 : decode cX0_passNight 36 = .ok (.dup2, 1) := by decide +kernel
theorem dX0_passNight_37 : decode cX0_passNight 37 = .ok (.iaload, 1) := by decide +kernel
theorem dX0_passNight_38 : decode cX0_passNight 38 = .ok (.aload_n 0, 1) := by decide +kernel
theorem dX0_passNight_39 : decode cX0_passNight 39 = .ok (.getfield 40, 3) := by decide +kernel
theorem dX0_passNight_42 : decode cX0_passNight 42 = .ok (.iload_n 1, 1) := by decide +kernel
theorem dX0_passNight_43 : decode cX0_passNight 43 = .ok (.iaload, 1) := by decide +kernel
theorem dX0_passNight_44 : decode cX0_passNight 44 = .ok (.ior, 1) := by decide +kernel
theorem dX0_passNight_45 : decode cX0_passNight 45 = .ok (.iastore, 1) := by decide +kernel
theorem dX0_passNight_46 : decode cX0_passNight 46 = .ok (.aload_n 0, 1) := by decide +kernel
theorem dX0_passNight_47 : decode cX0_passNight 47 = .ok (.getfield 34, 3) := by decide +kernel
theorem dX0_passNight_50 : decode cX0_passNight 50 = .ok (.iload_n 1, 1) := by decide +kernel
theorem dX0_passNight_51 : decode cX0_passNight 51 = .ok (.iconst 0, 1) := by decide +kernel
theorem dX0_passNight_52 : decode cX0_passNight 52 = .ok (.bipush 99, 2) := by decide +kernel
theorem dX0_passNight_54 : decode cX0_passNight 54 = .ok (.aload_n 0, 1) := by decide +kernel
theorem dX0_passNight_55 : decode cX0_passNight 55 = .ok (.getfield 34, 3) := by decide +kernel
theorem dX0_passNight_58 : decode cX0_passNight 58 = .ok (.iload_n 1, 1) := by decide +kernel
theorem dX0_passNight_59 : decode cX0_passNight 59 = .ok (.iaload, 1) := by decide +kernel
theorem dX0_passNight_60 : decode cX0_passNight 60 = .ok (.aload_n 0, 1) := by decide +kernel
theorem dX0_passNight_61 : decode cX0_passNight 61 = .ok (.getfield 43, 3) := by decide +kernel
theorem dX0_passNight_64 : decode cX0_passNight 64 = .ok (.iload_n 1, 1) := by decide +kernel
theorem dX0_passNight_65 : decode cX0_passNight 65 = .ok (.iaload, 1) := by decide +kernel
theorem dX0_passNight_66 : decode cX0_passNight 66 = .ok (.iadd, 1) := by decide +kernel
theorem dX0_passNight_67 : decode cX0_passNight 67 = .ok (.invokestatic 98, 3) := by decide +kernel
theorem dX0_passNight_70 : decode cX0_passNight 70 = .ok (.invokestatic 103, 3) := by decide +kernel
theorem dX0_passNight_73 : decode cX0_passNight 73 = .ok (.iastore, 1) := by decide +kernel
theorem dX0_passNight_74 : decode cX0_passNight 74 = .ok (.iinc 1 1, 3) := by decide +kernel
theorem dX0_passNight_77 : decode cX0_passNight 77 = .ok (.goto (-54), 3) := by decide +kernel
theorem dX0_passNight_80 : decode cX0_passNight 80 = .ok (.aload_n 0, 1) := by decide +kernel
theorem dX0_passNight_81 : decode cX0_passNight 81 = .ok (.dup, 1) := by decide +kernel
theorem dX0_passNight_82 : decode cX0_passNight 82 = .ok (.getfield 9, 3) := by decide +kernel
theorem dX0_passNight_85 : decode cX0_passNight 85 = .ok (.iconst 1, 1) := by decide +kernel
theorem dX0_passNight_86 : decode cX0_passNight 86 = .ok (.iadd, 1) := by decide +kernel
theorem dX0_passNight_87 : decode cX0_passNight 87 = .ok (.putfield 9, 3) := by decide +kernel
theorem dX0_passNight_90 : decode cX0_passNight 90 = .ok (.return_, 1) := by decide +kernel
theorem dX0_findOut_0 : decode cX0_findOut 0 = .ok (.aload_n 0, 1) := by decide +kernel
theorem dX0_findOut_1 : decode cX0_findOut 1 = .ok (.iload_n 1, 1) := by decide +kernel
theorem dX0_findOut_2 : decode cX0_findOut 2 = .ok (.invokevirtual 106, 3) := by decide +kernel
theorem dX0_findOut_5 : decode cX0_findOut 5 = .ok (.istore_n 2, 1) := by decide +kernel
theorem dX0_findOut_6 : decode cX0_findOut 6 = .ok (.aload_n 0, 1) := by decide +kernel
theorem dX0_findOut_7 : decode cX0_findOut 7 = .ok (.iload_n 1, 1) := by decide +kernel
theorem dX0_findOut_8 : decode cX0_findOut 8 = .ok (.iload_n 2, 1) := by decide +kernel
theorem dX0_findOut_9 : decode cX0_findOut 9 = .ok (.invokevirtual 109, 3) := by decide +kernel
theorem dX0_findOut_12 : decode cX0_findOut 12 = .ok (.istore_n 3, 1) := by decide +kernel
theorem dX0_findOut_13 : decode cX0_findOut 13 = .ok (.iload_n 3, 1) := by decide +kernel
theorem dX0_findOut_14 : decode cX0_findOut 14 = .ok (.ifCond .eq 14, 3) := by decide +kernel
theorem dX0_findOut_17 : decode cX0_findOut 17 = .ok (.iconst 1, 1) := by decide +kernel
theorem dX0_findOut_18 : decode cX0_findOut 18 = .ok (.aload_n 0, 1) := by decide +kernel
theorem dX0_findOut_19 : decode cX0_findOut 19 = .ok (.getfield 25, 3) := by decide +kernel
theorem dX0_findOut_22 : decode cX0_findOut 22 = .ok (.iload_n 2, 1) := by decide +kernel
theorem dX0_findOut_23 : decode cX0_findOut 23 = .ok (.iaload, 1) := by decide +kernel
theorem dX0_findOut_24 : decode cX0_findOut 24 = .ok (.ishl, 1) := by decide +kernel
theorem dX0_findOut_25 : decode cX0_findOut 25 = .ok (.goto 4, 3) := by decide +kernel
theorem dX0_findOut_28 : decode cX0_findOut 28 = .ok (.iconst 0, 1) := by decide +kernel
theorem dX0_findOut_29 : decode cX0_findOut 29 = .ok (.istore 4, 2) := by decide +kernel
theorem dX0_findOut_31 : decode cX0_findOut 31 = .ok (.aload_n 0, 1) := by decide +kernel
theorem dX0_findOut_32 : decode cX0_findOut 32 = .ok (.aload_n 0, 1) := by decide +kernel
theorem dX0_findOut_33 : decode cX0_findOut 33 = .ok (.getfield 22, 3) := by decide +kernel
theorem dX0_findOut_36 : decode cX0_findOut 36 = .ok (.iload_n 1, 1) := by decide +kernel
theorem dX0_findOut_37 : decode cX0_findOut 37 = .ok (.iaload, 1) := by decide +kernel
theorem dX0_findOut_38 : decode cX0_findOut 38 = .ok (.iconst 1, 1) := by decide +kernel
theorem dX0_findOut_39 : decode cX0_findOut 39 = .ok (.iadd, 1) := by decide +kernel
theorem dX0_findOut_40 : decode cX0_findOut 40 = .ok (.invokevirtual 62, 3) := by decide +kernel
theorem dX0_findOut_43 : decode cX0_findOut 43 = .ok (.istore 5, 2) := by decide +kernel
theorem dX0_findOut_45 : decode cX0_findOut 45 = .ok (.iload 5, 2) := by decide +kernel
theorem dX0_findOut_47 : decode cX0_findOut 47 = .ok (.iconst (-1), 1) := by decide +kernel
theorem dX0_findOut_48 : decode cX0_findOut 48 = .ok (.if_icmp .eq 14, 3) := by decide +kernel
theorem dX0_findOut_51 : decode cX0_findOut 51 = .ok (.iload 4, 2) := by decide +kernel
theorem dX0_findOut_53 : decode cX0_findOut 53 = .ok (.aload_n 0, 1) := by decide +kernel
theorem dX0_findOut_54 : decode cX0_findOut 54 = .ok (.iload 5, 2) := by decide +kernel
theorem dX0_findOut_56 : decode cX0_findOut 56 = .ok (.invokevirtual 112, 3) := by decide +kernel
theorem dX0_findOut_59 : decode cX0_findOut 59 = .ok (.ior, 1) := by decide +kernel
theorem dX0_findOut_60 : decode cX0_findOut 60 = .ok (.istore 4, 2) := by decide +kernel
theorem dX0_findOut_62 : decode cX0_findOut 62 = .ok (.aload_n 0, 1) := by decide +kernel
theorem dX0_findOut_63 : decode cX0_findOut 63 = .ok (.getfield 18, 3) := by decide +kernel
theorem dX0_findOut_66 : decode cX0_findOut 66 = .ok (.iload_n 1, 1) := by decide +kernel
theorem dX0_findOut_67 : decode cX0_findOut 67 = .ok (.iaload, 1) := by decide +kernel
theorem dX0_findOut_68 : decode cX0_findOut 68 = .ok (.iconst 4, 1) := by decide +kernel
theorem dX0_findOut_69 : decode cX0_findOut 69 = .ok (.if_icmp .eq 18, 3) := by decide +kernel
theorem dX0_findOut_72 : decode cX0_findOut 72 = .ok (.iload 4, 2) := by decide +kernel
theorem dX0_findOut_74 : decode cX0_findOut 74 = .ok (.iconst 1, 1) := by decide +kernel
theorem dX0_findOut_75 : decode cX0_findOut 75 = .ok (.aload_n 0, 1) := by decide +kernel
theorem dX0_findOut_76 : decode cX0_findOut 76 = .ok (.getfield 25, 3) := by decide +kernel
theorem dX0_findOut_79 : decode cX0_findOut 79 = .ok (.iload_n 1, 1) := by decide +kernel
theorem dX0_findOut_80 : decode cX0_findOut 80 = .ok (.iaload, 1) := by decide +kernel
theorem dX0_findOut_81 : decode cX0_findOut 81 = .ok (.ishl, 1) := by decide +kernel
theorem dX0_findOut_82 : decode cX0_findOut 82 = .ok (.iconst (-1), 1) := by decide +kernel
theorem dX0_findOut_83 : decode cX0_findOut 83 = .ok (.ixor, 1) := by decide +kernel
theorem dX0_findOut_84 : decode cX0_findOut 84 = .ok (.iand, 1) := by decide +kernel
theorem dX0_findOut_85 : decode cX0_findOut 85 = .ok (.istore 4, 2) := by decide +kernel
theorem dX0_findOut_87 : decode cX0_findOut 87 = .ok (.aload_n 0, 1) := by decide +kernel
theorem dX0_findOut_88 : decode cX0_findOut 88 = .ok (.getfield 40, 3) := by decide +kernel
theorem dX0_findOut_91 : decode cX0_findOut 91 = .ok (.iload_n 1, 1) := by decide +kernel
theorem dX0_findOut_92 : decode cX0_findOut 92 = .ok (.iload 4, 2) := by decide +kernel
theorem dX0_findOut_94 : decode cX0_findOut 94 = .ok (.iastore, 1) := by decide +kernel
theorem dX0_findOut_95 : decode cX0_findOut 95 = .ok (.aload_n 0, 1) := by decide +kernel
theorem dX0_findOut_96 : decode cX0_findOut 96 = .ok (.getfield 43, 3) := by decide +kernel
theorem dX0_findOut_99 : decode cX0_findOut 99 = .ok (.iload_n 1, 1) := by decide +kernel
theorem dX0_findOut_100 : decode cX0_findOut 100 = .ok (.aload_n 0, 1) := by decide +kernel
theorem dX0_findOut_101 : decode cX0_findOut 101 = .ok (.getfield 18, 3) := by decide +kernel
theorem dX0_findOut_104 : decode cX0_findOut 104 = .ok (.iload_n 1, 1) := by decide +kernel
theorem dX0_findOut_105 : decode cX0_findOut 105 = .ok (.iaload, 1) := by decide +kernel
theorem dX0_findOut_106 : decode cX0_findOut 106 = .ok (.iload_n 3, 1) := by decide +kernel
theorem dX0_findOut_107 : decode cX0_findOut 107 = .ok (.invokestatic 115, 3) := by decide +kernel
theorem dX0_findOut_110 : decode cX0_findOut 110 = .ok (.iastore, 1) := by decide +kernel
theorem dX0_findOut_111 : decode cX0_findOut 111 = .ok (.return_, 1) := by decide +kernel
theorem dX1_isKind_0 : decode cX1_isKind 0 = .ok (.iload_n 0, 1) := by decide +kernel
theorem dX1_isKind_1 : decode cX1_isKind 1 = .ok (.ifCond .lt 13, 3) := by decide +kernel
theorem dX1_isKind_4 : decode cX1_isKind 4 = .ok (.iload_n 0, 1) := by decide +kernel
theorem dX1_isKind_5 : decode cX1_isKind 5 = .ok (.bipush 6, 2) := by decide +kernel
theorem dX1_isKind_7 : decode cX1_isKind 7 = .ok (.if_icmp .ge 7, 3) := by decide +kernel
theorem dX1_isKind_10 : decode cX1_isKind 10 = .ok (.iconst 1, 1) := by decide +kernel
theorem dX1_isKind_11 : decode cX1_isKind 11 = .ok (.goto 4, 3) := by decide +kernel
theorem dX1_isKind_14 : decode cX1_isKind 14 = .ok (.iconst 0, 1) := by decide +kernel
theorem dX1_isKind_15 : decode cX1_isKind 15 = .ok (.ireturn, 1) := by decide +kernel
theorem dX1_isUnder_0 : decode cX1_isUnder 0 = .ok (.iload_n 0, 1) := by decide +kernel
theorem dX1_isUnder_1 : decode cX1_isUnder 1 = .ok (.istore_n 2, 1) := by decide +kernel
theorem dX1_isUnder_2 : decode cX1_isUnder 2 = .ok (.iconst 0, 1) := by decide +kernel
theorem dX1_isUnder_3 : decode cX1_isUnder 3 = .ok (.istore_n 3, 1) := by decide +kernel
theorem dX1_isUnder_4 : decode cX1_isUnder 4 = .ok (.iload_n 3, 1) := by decide +kernel
theorem dX1_isUnder_5 : decode cX1_isUnder 5 = .ok (.bipush 6, 2) := by decide +kernel
theorem dX1_isUnder_7 : decode cX1_isUnder 7 = .ok (.if_icmp .ge 29, 3) := by decide +kernel
theorem dX1_isUnder_10 : decode cX1_isUnder 10 = .ok (.iload_n 2, 1) := by decide +kernel
theorem dX1_isUnder_11 : decode cX1_isUnder 11 = .ok (.invokestatic 11, 3) := by decide +kernel
theorem dX1_isUnder_14 : decode cX1_isUnder 14 = .ok (.ifCond .eq 22, 3) := by decide +kernel
theorem dX1_isUnder_17 : decode cX1_isUnder 17 = .ok (.iload_n 2, 1) := by decide +kernel
theorem dX1_isUnder_18 : decode cX1_isUnder 18 = .ok (.iload_n 1, 1) := by decide +kernel
theorem dX1_isUnder_19 : decode cX1_isUnder 19 = .ok (.if_icmp .ne 5, 3) := by decide +kernel
theorem dX1_isUnder_22 : decode cX1_isUnder 22 = .ok (.iconst 1, 1) := by decide +kernel
theorem dX1_isUnder_23 : decode cX1_isUnder 23 = .ok (.ireturn, 1) := by decide +kernel
theorem dX1_isUnder_24 : decode cX1_isUnder 24 = .ok (.getstatic 15, 3) := by decide +kernel
theorem dX1_isUnder_27 : decode cX1_isUnder 27 = .ok (.iload_n 2, 1) := by decide +kernel
theorem dX1_isUnder_28 : decode cX1_isUnder 28 = .ok (.iaload, 1) := by decide +kernel
theorem dX1_isUnder_29 : decode cX1_isUnder 29 = .ok (.istore_n 2, 1) := by decide +kernel
theorem dX1_isUnder_30 : decode cX1_isUnder 30 = .ok (.iinc 3 1, 3) := by decide +kernel
theorem dX1_isUnder_33 : decode cX1_isUnder 33 = .ok (.goto (-29), 3) := by decide +kernel
theorem dX1_isUnder_36 : decode cX1_isUnder 36 = .ok (.iconst 0, 1) := by decide +kernel
theorem dX1_isUnder_37 : decode cX1_isUnder 37 = .ok (.ireturn, 1) := by decide +kernel
theorem dX1_reach_0 : decode cX1_reach 0 = .ok (.iload_n 0, 1) := by decide +kernel
theorem dX1_reach_1 : decode cX1_reach 1 = .ok (.tableswitch 51 1 5 #[35, 51, 37, 35, 39], 35) := by decide +kernel
theorem dX1_reach_36 : decode cX1_reach 36 = .ok (.iconst 2, 1) := by decide +kernel
theorem dX1_reach_37 : decode cX1_reach 37 = .ok (.ireturn, 1) := by decide +kernel
theorem dX1_reach_38 : decode cX1_reach 38 = .ok (.iconst 0, 1) := by decide +kernel
theorem dX1_reach_39 : decode cX1_reach 39 = .ok (.ireturn, 1) := by decide +kernel
theorem dX1_reach_40 : decode cX1_reach 40 = .ok (.iload_n 1, 1) := by decide +kernel
theorem dX1_reach_41 : decode cX1_reach 41 = .ok (.bipush 10, 2) := by decide +kernel
theorem dX1_reach_43 : decode cX1_reach 43 = .ok (.if_icmp .ge 7, 3) := by decide +kernel
theorem dX1_reach_46 : decode cX1_reach 46 = .ok (.iconst 2, 1) := by decide +kernel
theorem dX1_reach_47 : decode cX1_reach 47 = .ok (.goto 4, 3) := by decide +kernel
theorem dX1_reach_50 : decode cX1_reach 50 = .ok (.iconst 1, 1) := by decide +kernel
theorem dX1_reach_51 : decode cX1_reach 51 = .ok (.ireturn, 1) := by decide +kernel
theorem dX1_reach_52 : decode cX1_reach 52 = .ok (.iconst 1, 1) := by decide +kernel
theorem dX1_reach_53 : decode cX1_reach 53 = .ok (.ireturn, 1) := by decide +kernel
theorem dX1_gets_0 : decode cX1_gets 0 = .ok (.iload_n 1, 1) := by decide +kernel
theorem dX1_gets_1 : decode cX1_gets 1 = .ok (.bipush 60, 2) := by decide +kernel
theorem dX1_gets_3 : decode cX1_gets 3 = .ok (.if_icmp .lt 5, 3) := by decide +kernel
theorem dX1_gets_6 : decode cX1_gets 6 = .ok (.iconst 0, 1) := by decide +kernel
theorem dX1_gets_7 : decode cX1_gets 7 = .ok (.ireturn, 1) := by decide +kernel
theorem dX1_gets_8 : decode cX1_gets 8 = .ok (.iload_n 0, 1) := by decide +kernel
theorem dX1_gets_9 : decode cX1_gets 9 = .ok (.tableswitch 64 1 5 #[35, 46, 62, 35, 46], 35) := by decide +kernel
theorem dX1_gets_44 : decode cX1_gets 44 = .ok (.iload_n 2, 1) := by decide +kernel
theorem dX1_gets_45 : decode cX1_gets 45 = .ok (.iconst 3, 1) := by decide +kernel
theorem dX1_gets_46 : decode cX1_gets 46 = .ok (.if_icmp .lt 7, 3) := by decide +kernel
theorem dX1_gets_49 : decode cX1_gets 49 = .ok (.iconst 1, 1) := by decide +kernel
theorem dX1_gets_50 : decode cX1_gets 50 = .ok (.goto 4, 3) := by decide +kernel
theorem dX1_gets_53 : decode cX1_gets 53 = .ok (.iconst 0, 1) := by decide +kernel
theorem dX1_gets_54 : decode cX1_gets 54 = .ok (.ireturn, 1) := by decide +kernel
theorem dX1_gets_55 : decode cX1_gets 55 = .ok (.iload_n 2, 1) := by decide +kernel
theorem dX1_gets_56 : decode cX1_gets 56 = .ok (.iload_n 3, 1) := by decide +kernel
theorem dX1_gets_57 : decode cX1_gets 57 = .ok (.iconst 4, 1) := by decide +kernel
theorem dX1_gets_58 : decode cX1_gets 58 = .ok (.irem, 1) := by decide +kernel
theorem dX1_gets_59 : decode cX1_gets 59 = .ok (.iadd, 1) := by decide +kernel
theorem dX1_gets_60 : decode cX1_gets 60 = .ok (.bipush 7, 2) := by decide +kernel
theorem dX1_gets_62 : decode cX1_gets 62 = .ok (.if_icmp .lt 7, 3) := by decide +kernel
theorem dX1_gets_65 : decode cX1_gets 65 = .ok (.iconst 1, 1) := by decide +kernel
theorem dX1_gets_66 : decode cX1_gets 66 = .ok (.goto 4, 3) := by decide +kernel
theorem dX1_gets_69 : decode cX1_gets 69 = .ok (.iconst 0, 1) := by decide +kernel
theorem dX1_gets_70 : decode cX1_gets 70 = .ok (.ireturn, 1) := by decide +kernel
theorem dX1_gets_71 : decode cX1_gets 71 = .ok (.iconst 1, 1) := by decide +kernel
theorem dX1_gets_72 : decode cX1_gets 72 = .ok (.ireturn, 1) := by decide +kernel
theorem dX1_gets_73 : decode cX1_gets 73 = .ok (.iload_n 2, 1) := by decide +kernel
theorem dX1_gets_74 : decode cX1_gets 74 = .ok (.iconst 5, 1) := by decide +kernel
theorem dX1_gets_75 : decode cX1_gets 75 = .ok (.if_icmp .lt 7, 3) := by decide +kernel
theorem dX1_gets_78 : decode cX1_gets 78 = .ok (.iconst 1, 1) := by decide +kernel
theorem dX1_gets_79 : decode cX1_gets 79 = .ok (.goto 4, 3) := by decide +kernel
theorem dX1_gets_82 : decode cX1_gets 82 = .ok (.iconst 0, 1) := by decide +kernel
theorem dX1_gets_83 : decode cX1_gets 83 = .ok (.ireturn, 1) := by decide +kernel
theorem dX1_tells_0 : decode cX1_tells 0 = .ok (.iload_n 0, 1) := by decide +kernel
theorem dX1_tells_1 : decode cX1_tells 1 = .ok (.tableswitch 71 1 5 #[35, 40, 49, 51, 40], 35) := by decide +kernel
theorem dX1_tells_36 : decode cX1_tells 36 = .ok (.iload_n 1, 1) := by decide +kernel
theorem dX1_tells_37 : decode cX1_tells 37 = .ok (.invokestatic 19, 3) := by decide +kernel
theorem dX1_tells_40 : decode cX1_tells 40 = .ok (.ireturn, 1) := by decide +kernel
theorem dX1_tells_41 : decode cX1_tells 41 = .ok (.iload_n 1, 1) := by decide +kernel
theorem dX1_tells_42 : decode cX1_tells 42 = .ok (.iload_n 1, 1) := by decide +kernel
theorem dX1_tells_43 : decode cX1_tells 43 = .ok (.invokestatic 23, 3) := by decide +kernel
theorem dX1_tells_46 : decode cX1_tells 46 = .ok (.iconst (-1), 1) := by decide +kernel
theorem dX1_tells_47 : decode cX1_tells 47 = .ok (.ixor, 1) := by decide +kernel
theorem dX1_tells_48 : decode cX1_tells 48 = .ok (.iand, 1) := by decide +kernel
theorem dX1_tells_49 : decode cX1_tells 49 = .ok (.ireturn, 1) := by decide +kernel
theorem dX1_tells_50 : decode cX1_tells 50 = .ok (.iload_n 1, 1) := by decide +kernel
theorem dX1_tells_51 : decode cX1_tells 51 = .ok (.ireturn, 1) := by decide +kernel
theorem dX1_tells_52 : decode cX1_tells 52 = .ok (.iload_n 1, 1) := by decide +kernel
theorem dX1_tells_53 : decode cX1_tells 53 = .ok (.invokestatic 26, 3) := by decide +kernel
theorem dX1_tells_56 : decode cX1_tells 56 = .ok (.iconst 4, 1) := by decide +kernel
theorem dX1_tells_57 : decode cX1_tells 57 = .ok (.if_icmp .lt 10, 3) := by decide +kernel
theorem dX1_tells_60 : decode cX1_tells 60 = .ok (.iload_n 1, 1) := by decide +kernel
theorem dX1_tells_61 : decode cX1_tells 61 = .ok (.invokestatic 23, 3) := by decide +kernel
theorem dX1_tells_64 : decode cX1_tells 64 = .ok (.goto 7, 3) := by decide +kernel
theorem dX1_tells_67 : decode cX1_tells 67 = .ok (.iload_n 1, 1) := by decide +kernel
theorem dX1_tells_68 : decode cX1_tells 68 = .ok (.invokestatic 19, 3) := by decide +kernel
theorem dX1_tells_71 : decode cX1_tells 71 = .ok (.ireturn, 1) := by decide +kernel
theorem dX1_tells_72 : decode cX1_tells 72 = .ok (.iconst 0, 1) := by decide +kernel
theorem dX1_tells_73 : decode cX1_tells 73 = .ok (.ireturn, 1) := by decide +kernel
theorem dX1_tires_0 : decode cX1_tires 0 = .ok (.iload_n 1, 1) := by decide +kernel
theorem dX1_tires_1 : decode cX1_tires 1 = .ok (.ifCond .eq 7, 3) := by decide +kernel
theorem dX1_tires_4 : decode cX1_tires 4 = .ok (.iconst 3, 1) := by decide +kernel
theorem dX1_tires_5 : decode cX1_tires 5 = .ok (.goto 5, 3) := by decide +kernel
theorem dX1_tires_8 : decode cX1_tires 8 = .ok (.bipush (-5), 2) := by decide +kernel
theorem dX1_tires_10 : decode cX1_tires 10 = .ok (.istore_n 2, 1) := by decide +kernel
theorem dX1_tires_11 : decode cX1_tires 11 = .ok (.iload_n 0, 1) := by decide +kernel
theorem dX1_tires_12 : decode cX1_tires 12 = .ok (.tableswitch 52 1 5 #[36, 40, 44, 46, 40], 36) := by decide +kernel
theorem dX1_tires_48 : decode cX1_tires 48 = .ok (.iload_n 2, 1) := by decide +kernel
theorem dX1_tires_49 : decode cX1_tires 49 = .ok (.iconst 2, 1) := by decide +kernel
theorem dX1_tires_50 : decode cX1_tires 50 = .ok (.iadd, 1) := by decide +kernel
theorem dX1_tires_51 : decode cX1_tires 51 = .ok (.ireturn, 1) := by decide +kernel
theorem dX1_tires_52 : decode cX1_tires 52 = .ok (.iconst 2, 1) := by decide +kernel
theorem dX1_tires_53 : decode cX1_tires 53 = .ok (.iload_n 2, 1) := by decide +kernel
theorem dX1_tires_54 : decode cX1_tires 54 = .ok (.imul, 1) := by decide +kernel
theorem dX1_tires_55 : decode cX1_tires 55 = .ok (.ireturn, 1) := by decide +kernel
theorem dX1_tires_56 : decode cX1_tires 56 = .ok (.iconst 0, 1) := by decide +kernel
theorem dX1_tires_57 : decode cX1_tires 57 = .ok (.ireturn, 1) := by decide +kernel
theorem dX1_tires_58 : decode cX1_tires 58 = .ok (.iload_n 2, 1) := by decide +kernel
theorem dX1_tires_59 : decode cX1_tires 59 = .ok (.iconst 2, 1) := by decide +kernel
theorem dX1_tires_60 : decode cX1_tires 60 = .ok (.iadd, 1) := by decide +kernel
theorem dX1_tires_61 : decode cX1_tires 61 = .ok (.iconst 3, 1) := by decide +kernel
theorem dX1_tires_62 : decode cX1_tires 62 = .ok (.iadd, 1) := by decide +kernel
theorem dX1_tires_63 : decode cX1_tires 63 = .ok (.ireturn, 1) := by decide +kernel
theorem dX1_tires_64 : decode cX1_tires 64 = .ok (.iload_n 2, 1) := by decide +kernel
theorem dX1_tires_65 : decode cX1_tires 65 = .ok (.ireturn, 1) := by decide +kernel
theorem dX1_least_0 : decode cX1_least 0 = .ok (.iload_n 0, 1) := by decide +kernel
theorem dX1_least_1 : decode cX1_least 1 = .ok (.iload_n 0, 1) := by decide +kernel
theorem dX1_least_2 : decode cX1_least 2 = .ok (.ineg, 1) := by decide +kernel
theorem dX1_least_3 : decode cX1_least 3 = .ok (.iand, 1) := by decide +kernel
theorem dX1_least_4 : decode cX1_least 4 = .ok (.ireturn, 1) := by decide +kernel
theorem dX1_greatest_0 : decode cX1_greatest 0 = .ok (.bipush 9, 2) := by decide +kernel
theorem dX1_greatest_2 : decode cX1_greatest 2 = .ok (.istore_n 1, 1) := by decide +kernel
theorem dX1_greatest_3 : decode cX1_greatest 3 = .ok (.iload_n 1, 1) := by decide +kernel
theorem dX1_greatest_4 : decode cX1_greatest 4 = .ok (.ifCond .lt 21, 3) := by decide +kernel
theorem dX1_greatest_7 : decode cX1_greatest 7 = .ok (.iconst 1, 1) := by decide +kernel
theorem dX1_greatest_8 : decode cX1_greatest 8 = .ok (.iload_n 1, 1) := by decide +kernel
theorem dX1_greatest_9 : decode cX1_greatest 9 = .ok (.ishl, 1) := by decide +kernel
theorem dX1_greatest_10 : decode cX1_greatest 10 = .ok (.istore_n 2, 1) := by decide +kernel
theorem dX1_greatest_11 : decode cX1_greatest 11 = .ok (.iload_n 0, 1) := by decide +kernel
theorem dX1_greatest_12 : decode cX1_greatest 12 = .ok (.iload_n 2, 1) := by decide +kernel
theorem dX1_greatest_13 : decode cX1_greatest 13 = .ok (.iand, 1) := by decide +kernel
theorem dX1_greatest_14 : decode cX1_greatest 14 = .ok (.ifCond .eq 5, 3) := by decide +kernel
theorem dX1_greatest_17 : decode cX1_greatest 17 = .ok (.iload_n 2, 1) := by decide +kernel
theorem dX1_greatest_18 : decode cX1_greatest 18 = .ok (.ireturn, 1) := by decide +kernel
theorem dX1_greatest_19 : decode cX1_greatest 19 = .ok (.iinc 1 (-1), 3) := by decide +kernel
theorem dX1_greatest_22 : decode cX1_greatest 22 = .ok (.goto (-19), 3) := by decide +kernel
theorem dX1_greatest_25 : decode cX1_greatest 25 = .ok (.iconst 0, 1) := by decide +kernel
theorem dX1_greatest_26 : decode cX1_greatest 26 = .ok (.ireturn, 1) := by decide +kernel
theorem dX2_init_0 : decode cX2_init 0 = .ok (.aload_n 0, 1) := by decide +kernel
theorem dX2_init_1 : decode cX2_init 1 = .ok (.invokespecial 3, 3) := by decide +kernel
theorem dX2_init_4 : decode cX2_init 4 = .ok (.aload_n 0, 1) := by decide +kernel
theorem dX2_init_5 : decode cX2_init 5 = .ok (.iconst 0, 1) := by decide +kernel
theorem dX2_init_6 : decode cX2_init 6 = .ok (.putfield 9, 3) := by decide +kernel
theorem dX2_init_9 : decode cX2_init 9 = .ok (.aload_n 0, 1) := by decide +kernel
theorem dX2_init_10 : decode cX2_init 10 = .ok (.iconst 0, 1) := by decide +kernel
theorem dX2_init_11 : decode cX2_init 11 = .ok (.putfield 15, 3) := by decide +kernel
theorem dX2_init_14 : decode cX2_init 14 = .ok (.aload_n 0, 1) := by decide +kernel
theorem dX2_init_15 : decode cX2_init 15 = .ok (.bipush 40, 2) := by decide +kernel
theorem dX2_init_17 : decode cX2_init 17 = .ok (.newarray .long, 2) := by decide +kernel
theorem dX2_init_19 : decode cX2_init 19 = .ok (.putfield 18, 3) := by decide +kernel
theorem dX2_init_22 : decode cX2_init 22 = .ok (.return_, 1) := by decide +kernel
theorem dX2_isMissing_0 : decode cX2_isMissing 0 = .ok (.aload_n 0, 1) := by decide +kernel
theorem dX2_isMissing_1 : decode cX2_isMissing 1 = .ok (.getfield 9, 3) := by decide +kernel
theorem dX2_isMissing_4 : decode cX2_isMissing 4 = .ok (.ifCond .ne 7, 3) := by decide +kernel
theorem dX2_isMissing_7 : decode cX2_isMissing 7 = .ok (.iconst 1, 1) := by decide +kernel
theorem dX2_isMissing_8 : decode cX2_isMissing 8 = .ok (.goto 4, 3) := by decide +kernel
theorem dX2_isMissing_11 : decode cX2_isMissing 11 = .ok (.iconst 0, 1) := by decide +kernel
theorem dX2_isMissing_12 : decode cX2_isMissing 12 = .ok (.ireturn, 1) := by decide +kernel
theorem dX2_lay_0 : decode cX2_lay 0 = .ok (.aload_n 0, 1) := by decide +kernel
theorem dX2_lay_1 : decode cX2_lay 1 = .ok (.iload_n 1, 1) := by decide +kernel
theorem dX2_lay_2 : decode cX2_lay 2 = .ok (.putfield 9, 3) := by decide +kernel
theorem dX2_lay_5 : decode cX2_lay 5 = .ok (.aload_n 0, 1) := by decide +kernel
theorem dX2_lay_6 : decode cX2_lay 6 = .ok (.iload_n 1, 1) := by decide +kernel
theorem dX2_lay_7 : decode cX2_lay 7 = .ok (.ifCond .ne 7, 3) := by decide +kernel
theorem dX2_lay_10 : decode cX2_lay 10 = .ok (.iconst 0, 1) := by decide +kernel
theorem dX2_lay_11 : decode cX2_lay 11 = .ok (.goto 4, 3) := by decide +kernel
theorem dX2_lay_14 : decode cX2_lay 14 = .ok (.iload_n 2, 1) := by decide +kernel
theorem dX2_lay_15 : decode cX2_lay 15 = .ok (.putfield 15, 3) := by decide +kernel
theorem dX2_lay_18 : decode cX2_lay 18 = .ok (.aload_n 0, 1) := by decide +kernel
theorem dX2_lay_19 : decode cX2_lay 19 = .ok (.getfield 18, 3) := by decide +kernel
theorem dX2_lay_22 : decode cX2_lay 22 = .ok (.lconst 0, 1) := by decide +kernel
theorem dX2_lay_23 : decode cX2_lay 23 = .ok (.invokestatic 22, 3) := by decide +kernel
theorem dX2_lay_26 : decode cX2_lay 26 = .ok (.return_, 1) := by decide +kernel
theorem dX2_put_0 : decode cX2_put 0 = .ok (.aload_n 0, 1) := by decide +kernel
theorem dX2_put_1 : decode cX2_put 1 = .ok (.getfield 9, 3) := by decide +kernel
theorem dX2_put_4 : decode cX2_put 4 = .ok (.bipush 8, 2) := by decide +kernel
theorem dX2_put_6 : decode cX2_put 6 = .ok (.if_icmp .ne 16, 3) := by decide +kernel
theorem dX2_put_9 : decode cX2_put 9 = .ok (.aload_n 0, 1) := by decide +kernel
theorem dX2_put_10 : decode cX2_put 10 = .ok (.getfield 18, 3) := by decide +kernel
theorem dX2_put_13 : decode cX2_put 13 = .ok (.iload_n 1, 1) := by decide +kernel
theorem dX2_put_14 : decode cX2_put 14 = .ok (.lload_n 2, 1) := by decide +kernel
theorem dX2_put_15 : decode cX2_put 15 = .ok (.l2i, 1) := by decide +kernel
theorem dX2_put_16 : decode cX2_put 16 = .ok (.i2b, 1) := by decide +kernel
theorem dX2_put_17 : decode cX2_put 17 = .ok (.i2l, 1) := by decide +kernel
theorem dX2_put_18 : decode cX2_put 18 = .ok (.lastore, 1) := by decide +kernel
theorem dX2_put_19 : decode cX2_put 19 = .ok (.goto 32, 3) := by decide +kernel
theorem dX2_put_22 : decode cX2_put 22 = .ok (.aload_n 0, 1) := by decide +kernel
theorem dX2_put_23 : decode cX2_put 23 = .ok (.getfield 9, 3) := by decide +kernel
theorem dX2_put_26 : decode cX2_put 26 = .ok (.bipush 16, 2) := by decide +kernel
theorem dX2_put_28 : decode cX2_put 28 = .ok (.if_icmp .ne 16, 3) := by decide +kernel
theorem dX2_put_31 : decode cX2_put 31 = .ok (.aload_n 0, 1) := by decide +kernel
theorem dX2_put_32 : decode cX2_put 32 = .ok (.getfield 18, 3) := by decide +kernel
theorem dX2_put_35 : decode cX2_put 35 = .ok (.iload_n 1, 1) := by decide +kernel
theorem dX2_put_36 : decode cX2_put 36 = .ok (.lload_n 2, 1) := by decide +kernel
theorem dX2_put_37 : decode cX2_put 37 = .ok (.l2i, 1) := by decide +kernel
theorem dX2_put_38 : decode cX2_put 38 = .ok (.i2s, 1) := by decide +kernel
theorem dX2_put_39 : decode cX2_put 39 = .ok (.i2l, 1) := by decide +kernel
theorem dX2_put_40 : decode cX2_put 40 = .ok (.lastore, 1) := by decide +kernel
theorem dX2_put_41 : decode cX2_put 41 = .ok (.goto 10, 3) := by decide +kernel
theorem dX2_put_44 : decode cX2_put 44 = .ok (.aload_n 0, 1) := by decide +kernel
theorem dX2_put_45 : decode cX2_put 45 = .ok (.getfield 18, 3) := by decide +kernel
theorem dX2_put_48 : decode cX2_put 48 = .ok (.iload_n 1, 1) := by decide +kernel
theorem dX2_put_49 : decode cX2_put 49 = .ok (.lload_n 2, 1) := by decide +kernel
theorem dX2_put_50 : decode cX2_put 50 = .ok (.lastore, 1) := by decide +kernel
theorem dX2_put_51 : decode cX2_put 51 = .ok (.return_, 1) := by decide +kernel
theorem dX2_hasPart_0 : decode cX2_hasPart 0 = .ok (.iload_n 1, 1) := by decide +kernel
theorem dX2_hasPart_1 : decode cX2_hasPart 1 = .ok (.ifCond .lt 29, 3) := by decide +kernel
theorem dX2_hasPart_4 : decode cX2_hasPart 4 = .ok (.iload_n 2, 1) := by decide +kernel
theorem dX2_hasPart_5 : decode cX2_hasPart 5 = .ok (.ifCond .lt 25, 3) := by decide +kernel
theorem dX2_hasPart_8 : decode cX2_hasPart 8 = .ok (.iload_n 2, 1) := by decide +kernel
theorem dX2_hasPart_9 : decode cX2_hasPart 9 = .ok (.aload_n 0, 1) := by decide +kernel
theorem dX2_hasPart_10 : decode cX2_hasPart 10 = .ok (.getfield 15, 3) := by decide +kernel
theorem dX2_hasPart_13 : decode cX2_hasPart 13 = .ok (.if_icmp .gt 17, 3) := by decide +kernel
theorem dX2_hasPart_16 : decode cX2_hasPart 16 = .ok (.iload_n 1, 1) := by decide +kernel
theorem dX2_hasPart_17 : decode cX2_hasPart 17 = .ok (.aload_n 0, 1) := by decide +kernel
theorem dX2_hasPart_18 : decode cX2_hasPart 18 = .ok (.getfield 15, 3) := by decide +kernel
theorem dX2_hasPart_21 : decode cX2_hasPart 21 = .ok (.iload_n 2, 1) := by decide +kernel
theorem dX2_hasPart_22 : decode cX2_hasPart 22 = .ok (.isub, 1) := by decide +kernel
theorem dX2_hasPart_23 : decode cX2_hasPart 23 = .ok (.if_icmp .gt 7, 3) := by decide +kernel
theorem dX2_hasPart_26 : decode cX2_hasPart 26 = .ok (.iconst 1, 1) := by decide +kernel
theorem dX2_hasPart_27 : decode cX2_hasPart 27 = .ok (.goto 4, 3) := by decide +kernel
theorem dX2_hasPart_30 : decode cX2_hasPart 30 = .ok (.iconst 0, 1) := by decide +kernel
theorem dX2_hasPart_31 : decode cX2_hasPart 31 = .ok (.ireturn, 1) := by decide +kernel
theorem dX3_init_0 : decode cX3_init 0 = .ok (.aload_n 0, 1) := by decide +kernel
theorem dX3_init_1 : decode cX3_init 1 = .ok (.invokespecial 5, 3) := by decide +kernel
theorem dX3_init_4 : decode cX3_init 4 = .ok (.aload_n 0, 1) := by decide +kernel
theorem dX3_init_5 : decode cX3_init 5 = .ok (.iconst 0, 1) := by decide +kernel
theorem dX3_init_6 : decode cX3_init 6 = .ok (.putfield 11, 3) := by decide +kernel
theorem dX3_init_9 : decode cX3_init 9 = .ok (.aload_n 0, 1) := by decide +kernel
theorem dX3_init_10 : decode cX3_init 10 = .ok (.bipush 120, 2) := by decide +kernel
theorem dX3_init_12 : decode cX3_init 12 = .ok (.newarray .int, 2) := by decide +kernel
theorem dX3_init_14 : decode cX3_init 14 = .ok (.putfield 17, 3) := by decide +kernel
theorem dX3_init_17 : decode cX3_init 17 = .ok (.aload_n 0, 1) := by decide +kernel
theorem dX3_init_18 : decode cX3_init 18 = .ok (.iconst 0, 1) := by decide +kernel
theorem dX3_init_19 : decode cX3_init 19 = .ok (.putfield 21, 3) := by decide +kernel
theorem dX3_init_22 : decode cX3_init 22 = .ok (.aload_n 0, 1) := by decide +kernel
theorem dX3_init_23 : decode cX3_init 23 = .ok (.iconst 0, 1) := by decide +kernel
theorem dX3_init_24 : decode cX3_init 24 = .ok (.putfield 24, 3) := by decide +kernel
theorem dX3_init_27 : decode cX3_init 27 = .ok (.aload_n 0, 1) := by decide +kernel
theorem dX3_init_28 : decode cX3_init 28 = .ok (.iconst 0, 1) := by decide +kernel
theorem dX3_init_29 : decode cX3_init 29 = .ok (.putfield 27, 3) := by decide +kernel
theorem dX3_init_32 : decode cX3_init 32 = .ok (.aload_n 0, 1) := by decide +kernel
theorem dX3_init_33 : decode cX3_init 33 = .ok (.iconst 0, 1) := by decide +kernel
theorem dX3_init_34 : decode cX3_init 34 = .ok (.putfield 30, 3) := by decide +kernel
theorem dX3_init_37 : decode cX3_init 37 = .ok (.return_, 1) := by decide +kernel
theorem dX3_append_0 : decode cX3_append 0 = .ok (.aload_n 0, 1) := by decide +kernel
theorem dX3_append_1 : decode cX3_append 1 = .ok (.getfield 11, 3) := by decide +kernel
theorem dX3_append_4 : decode cX3_append 4 = .ok (.bipush 120, 2) := by decide +kernel
theorem dX3_append_6 : decode cX3_append 6 = .ok (.if_icmp .ge 23, 3) := by decide +kernel
theorem dX3_append_9 : decode cX3_append 9 = .ok (.aload_n 0, 1) := by decide +kernel
theorem dX3_append_10 : decode cX3_append 10 = .ok (.getfield 17, 3) := by decide +kernel
theorem dX3_append_13 : decode cX3_append 13 = .ok (.aload_n 0, 1) := by decide +kernel
theorem dX3_append_14 : decode cX3_append 14 = .ok (.getfield 11, 3) := by decide +kernel
theorem dX3_append_17 : decode cX3_append 17 = .ok (.iload_n 1, 1) := by decide +kernel
theorem dX3_append_18 : decode cX3_append 18 = .ok (.iastore, 1) := by decide +kernel
theorem dX3_append_19 : decode cX3_append 19 = .ok (.aload_n 0, 1) := by decide +kernel
theorem dX3_append_20 : decode cX3_append 20 = .ok (.dup, 1) := by decide +kernel
theorem dX3_append_21 : decode cX3_append 21 = .ok (.getfield 11, 3) := by decide +kernel
theorem dX3_append_24 : decode cX3_append 24 = .ok (.iconst 1, 1) := by decide +kernel
theorem dX3_append_25 : decode cX3_append 25 = .ok (.iadd, 1) := by decide +kernel
theorem dX3_append_26 : decode cX3_append 26 = .ok (.putfield 11, 3) := by decide +kernel
theorem dX3_append_29 : decode cX3_append 29 = .ok (.return_, 1) := by decide +kernel
theorem dX3_parse_0 : decode cX3_parse 0 = .ok (.aload_n 0, 1) := by decide +kernel
theorem dX3_parse_1 : decode cX3_parse 1 = .ok (.iconst 0, 1) := by decide +kernel
theorem dX3_parse_2 : decode cX3_parse 2 = .ok (.putfield 24, 3) := by decide +kernel
theorem dX3_parse_5 : decode cX3_parse 5 = .ok (.aload_n 0, 1) := by decide +kernel
theorem dX3_parse_6 : decode cX3_parse 6 = .ok (.invokevirtual 33, 3) := by decide +kernel
theorem dX3_parse_9 : decode cX3_parse 9 = .ok (.iconst 1, 1) := by decide +kernel
theorem dX3_parse_10 : decode cX3_parse 10 = .ok (.istore_n 2, 1) := by decide +kernel
theorem dX3_parse_11 : decode cX3_parse 11 = .ok (.iload_n 2, 1) := by decide +kernel
theorem dX3_parse_12 : decode cX3_parse 12 = .ok (.bipush 120, 2) := by decide +kernel
theorem dX3_parse_14 : decode cX3_parse 14 = .ok (.if_icmp .gt 52, 3) := by decide +kernel
theorem dX3_parse_17 : decode cX3_parse 17 = .ok (.aload_n 0, 1) := by decide +kernel
theorem dX3_parse_18 : decode cX3_parse 18 = .ok (.aload_n 1, 1) := by decide +kernel
theorem dX3_parse_19 : decode cX3_parse 19 = .ok (.invokevirtual 36, 3) := by decide +kernel
theorem dX3_parse_22 : decode cX3_parse 22 = .ok (.ifCond .ne 10, 3) := by decide +kernel
theorem dX3_parse_25 : decode cX3_parse 25 = .ok (.iconst (-1), 1) := by decide +kernel
theorem dX3_parse_26 : decode cX3_parse 26 = .ok (.aload_n 0, 1) := by decide +kernel
theorem dX3_parse_27 : decode cX3_parse 27 = .ok (.getfield 21, 3) := by decide +kernel
theorem dX3_parse_30 : decode cX3_parse 30 = .ok (.isub, 1) := by decide +kernel
theorem dX3_parse_31 : decode cX3_parse 31 = .ok (.ireturn, 1) := by decide +kernel
theorem dX3_parse_32 : decode cX3_parse 32 = .ok (.aload_n 0, 1) := by decide +kernel
theorem dX3_parse_33 : decode cX3_parse 33 = .ok (.getfield 27, 3) := by decide +kernel
theorem dX3_parse_36 : decode cX3_parse 36 = .ok (.ifCond .ne 5, 3) := by decide +kernel
theorem dX3_parse_39 : decode cX3_parse 39 = .ok (.iload_n 2, 1) := by decide +kernel
theorem dX3_parse_40 : decode cX3_parse 40 = .ok (.ireturn, 1) := by decide +kernel
theorem dX3_parse_41 : decode cX3_parse 41 = .ok (.aload_n 0, 1) := by decide +kernel
theorem dX3_parse_42 : decode cX3_parse 42 = .ok (.getfield 27, 3) := by decide +kernel
theorem dX3_parse_45 : decode cX3_parse 45 = .ok (.iconst 3, 1) := by decide +kernel
theorem dX3_parse_46 : decode cX3_parse 46 = .ok (.if_icmp .eq 10, 3) := by decide +kernel
theorem dX3_parse_49 : decode cX3_parse 49 = .ok (.iconst (-1), 1) := by decide +kernel
theorem dX3_parse_50 : decode cX3_parse 50 = .ok (.aload_n 0, 1) := by decide +kernel
theorem dX3_parse_51 : decode cX3_parse 51 = .ok (.getfield 21, 3) := by decide +kernel
theorem dX3_parse_54 : decode cX3_parse 54 = .ok (.isub, 1) := by decide +kernel
theorem dX3_parse_55 : decode cX3_parse 55 = .ok (.ireturn, 1) := by decide +kernel
theorem dX3_parse_56 : decode cX3_parse 56 = .ok (.aload_n 0, 1) := by decide +kernel
theorem dX3_parse_57 : decode cX3_parse 57 = .ok (.invokevirtual 33, 3) := by decide +kernel
theorem dX3_parse_60 : decode cX3_parse 60 = .ok (.iinc 2 1, 3) := by decide +kernel
theorem dX3_parse_63 : decode cX3_parse 63 = .ok (.goto (-52), 3) := by decide +kernel
theorem dX3_parse_66 : decode cX3_parse 66 = .ok (.iconst (-1), 1) := by decide +kernel
theorem dX3_parse_67 : decode cX3_parse 67 = .ok (.aload_n 0, 1) := by decide +kernel
theorem dX3_parse_68 : decode cX3_parse 68 = .ok (.getfield 21, 3) := by decide +kernel
theorem dX3_parse_71 : decode cX3_parse 71 = .ok (.isub, 1) := by decide +kernel
theorem dX3_parse_72 : decode cX3_parse 72 = .ok (.ireturn, 1) := by decide +kernel
theorem dX3_takesItem_0 : decode cX3_takesItem 0 = .ok (.aload_n 0, 1) := by decide +kernel
theorem dX3_takesItem_1 : decode cX3_takesItem 1 = .ok (.getfield 27, 3) := by decide +kernel
theorem dX3_takesItem_4 : decode cX3_takesItem 4 = .ok (.iconst 1, 1) := by decide +kernel
theorem dX3_takesItem_5 : decode cX3_takesItem 5 = .ok (.if_icmp .eq 5, 3) := by decide +kernel
theorem dX3_takesItem_8 : decode cX3_takesItem 8 = .ok (.iconst 0, 1) := by decide +kernel
theorem dX3_takesItem_9 : decode cX3_takesItem 9 = .ok (.ireturn, 1) := by decide +kernel
theorem dX3_takesItem_10 : decode cX3_takesItem 10 = .ok (.aload_n 0, 1) := by decide +kernel
theorem dX3_takesItem_11 : decode cX3_takesItem 11 = .ok (.getfield 30, 3) := by decide +kernel
theorem dX3_takesItem_14 : decode cX3_takesItem 14 = .ok (.bipush 6, 2) := by decide +kernel
theorem dX3_takesItem_16 : decode cX3_takesItem 16 = .ok (.if_icmp .ne 9, 3) := by decide +kernel
theorem dX3_takesItem_19 : decode cX3_takesItem 19 = .ok (.aload_n 0, 1) := by decide +kernel
theorem dX3_takesItem_20 : decode cX3_takesItem 20 = .ok (.aload_n 1, 1) := by decide +kernel
theorem dX3_takesItem_21 : decode cX3_takesItem 21 = .ok (.invokevirtual 40, 3) := by decide +kernel
theorem dX3_takesItem_24 : decode cX3_takesItem 24 = .ok (.ireturn, 1) := by decide +kernel
theorem dX3_takesItem_25 : decode cX3_takesItem 25 = .ok (.aload_n 0, 1) := by decide +kernel
theorem dX3_takesItem_26 : decode cX3_takesItem 26 = .ok (.getfield 30, 3) := by decide +kernel
theorem dX3_takesItem_29 : decode cX3_takesItem 29 = .ok (.bipush 7, 2) := by decide +kernel
theorem dX3_takesItem_31 : decode cX3_takesItem 31 = .ok (.if_icmp .ne 9, 3) := by decide +kernel
theorem dX3_takesItem_34 : decode cX3_takesItem 34 = .ok (.aload_n 0, 1) := by decide +kernel
theorem dX3_takesItem_35 : decode cX3_takesItem 35 = .ok (.aload_n 1, 1) := by decide +kernel
theorem dX3_takesItem_36 : decode cX3_takesItem 36 = .ok (.invokevirtual 43, 3) := by decide +kernel
theorem dX3_takesItem_39 : decode cX3_takesItem 39 = .ok (.ireturn, 1) := by decide +kernel
theorem dX3_takesItem_40 : decode cX3_takesItem 40 = .ok (.aload_n 0, 1) := by decide +kernel
theorem dX3_takesItem_41 : decode cX3_takesItem 41 = .ok (.getfield 30, 3) := by decide +kernel
theorem dX3_takesItem_44 : decode cX3_takesItem 44 = .ok (.invokestatic 46, 3) := by decide +kernel
theorem dX3_takesItem_47 : decode cX3_takesItem 47 = .ok (.ifCond .eq 15, 3) := by decide +kernel
theorem dX3_takesItem_50 : decode cX3_takesItem 50 = .ok (.aload_n 0, 1) := by decide +kernel
theorem dX3_takesItem_51 : decode cX3_takesItem 51 = .ok (.aload_n 1, 1) := by decide +kernel
theorem dX3_takesItem_52 : decode cX3_takesItem 52 = .ok (.invokevirtual 50, 3) := by decide +kernel
theorem dX3_takesItem_55 : decode cX3_takesItem 55 = .ok (.ifCond .eq 7, 3) := by decide +kernel
theorem dX3_takesItem_58 : decode cX3_takesItem 58 = .ok (.iconst 1, 1) := by decide +kernel
theorem dX3_takesItem_59 : decode cX3_takesItem 59 = .ok (.goto 4, 3) := by decide +kernel
theorem dX3_takesItem_62 : decode cX3_takesItem 62 = .ok (.iconst 0, 1) := by decide +kernel
theorem dX3_takesItem_63 : decode cX3_takesItem 63 = .ok (.ireturn, 1) := by decide +kernel
theorem dX3_takesMember_0 : decode cX3_takesMember 0 = .ok (.aload_n 1, 1) := by decide +kernel
theorem dX3_takesMember_1 : decode cX3_takesMember 1 = .ok (.invokevirtual 53, 3) := by decide +kernel
theorem dX3_takesMember_4 : decode cX3_takesMember 4 = .ok (.ifCond .eq 5, 3) := by decide +kernel
theorem dX3_takesMember_7 : decode cX3_takesMember 7 = .ok (.iconst 0, 1) := by decide +kernel
theorem dX3_takesMember_8 : decode cX3_takesMember 8 = .ok (.ireturn, 1) := by decide +kernel
theorem dX3_takesMember_9 : decode cX3_takesMember 9 = .ok (.aload_n 0, 1) := by decide +kernel
theorem dX3_takesMember_10 : decode cX3_takesMember 10 = .ok (.getfield 30, 3) := by decide +kernel
theorem dX3_takesMember_13 : decode cX3_takesMember 13 = .ok (.istore_n 2, 1) := by decide +kernel
theorem dX3_takesMember_14 : decode cX3_takesMember 14 = .ok (.aload_n 0, 1) := by decide +kernel
theorem dX3_takesMember_15 : decode cX3_takesMember 15 = .ok (.invokevirtual 33, 3) := by decide +kernel
theorem dX3_takesMember_18 : decode cX3_takesMember 18 = .ok (.aload_n 0, 1) := by decide +kernel
theorem dX3_takesMember_19 : decode cX3_takesMember 19 = .ok (.aload_n 1, 1) := by decide +kernel
theorem dX3_takesMember_20 : decode cX3_takesMember 20 = .ok (.invokevirtual 59, 3) := by decide +kernel
theorem dX3_takesMember_23 : decode cX3_takesMember 23 = .ok (.ifCond .ne 5, 3) := by decide +kernel
theorem dX3_takesMember_26 : decode cX3_takesMember 26 = .ok (.iconst 0, 1) := by decide +kernel
theorem dX3_takesMember_27 : decode cX3_takesMember 27 = .ok (.ireturn, 1) := by decide +kernel
theorem dX3_takesMember_28 : decode cX3_takesMember 28 = .ok (.aload_n 0, 1) := by decide +kernel
theorem dX3_takesMember_29 : decode cX3_takesMember 29 = .ok (.getfield 30, 3) := by decide +kernel
theorem dX3_takesMember_32 : decode cX3_takesMember 32 = .ok (.istore_n 3, 1) := by decide +kernel
theorem dX3_takesMember_33 : decode cX3_takesMember 33 = .ok (.aload_n 0, 1) := by decide +kernel
theorem dX3_takesMember_34 : decode cX3_takesMember 34 = .ok (.invokevirtual 33, 3) := by decide +kernel
theorem dX3_takesMember_37 : decode cX3_takesMember 37 = .ok (.aload_n 0, 1) := by decide +kernel
theorem dX3_takesMember_38 : decode cX3_takesMember 38 = .ok (.iconst 0, 1) := by decide +kernel
theorem dX3_takesMember_39 : decode cX3_takesMember 39 = .ok (.bipush 9, 2) := by decide +kernel
theorem dX3_takesMember_41 : decode cX3_takesMember 41 = .ok (.invokevirtual 62, 3) := by decide +kernel
theorem dX3_takesMember_44 : decode cX3_takesMember 44 = .ok (.ifCond .ne 5, 3) := by decide +kernel
theorem dX3_takesMember_47 : decode cX3_takesMember 47 = .ok (.iconst 0, 1) := by decide +kernel
theorem dX3_takesMember_48 : decode cX3_takesMember 48 = .ok (.ireturn, 1) := by decide +kernel
theorem dX3_takesMember_49 : decode cX3_takesMember 49 = .ok (.aload_n 0, 1) := by decide +kernel
theorem dX3_takesMember_50 : decode cX3_takesMember 50 = .ok (.getfield 30, 3) := by decide +kernel
theorem dX3_takesMember_53 : decode cX3_takesMember 53 = .ok (.istore 4, 2) := by decide +kernel
theorem dX3_takesMember_55 : decode cX3_takesMember 55 = .ok (.aload_n 0, 1) := by decide +kernel
theorem dX3_takesMember_56 : decode cX3_takesMember 56 = .ok (.invokevirtual 33, 3) := by decide +kernel
theorem dX3_takesMember_59 : decode cX3_takesMember 59 = .ok (.iconst 5, 1) := by decide +kernel
theorem dX3_takesMember_60 : decode cX3_takesMember 60 = .ok (.istore 5, 2) := by decide +kernel
theorem dX3_takesMember_62 : decode cX3_takesMember 62 = .ok (.aload_n 0, 1) := by decide +kernel
theorem dX3_takesMember_63 : decode cX3_takesMember 63 = .ok (.getfield 27, 3) := by decide +kernel
theorem dX3_takesMember_66 : decode cX3_takesMember 66 = .ok (.iconst 1, 1) := by decide +kernel
theorem dX3_takesMember_67 : decode cX3_takesMember 67 = .ok (.if_icmp .ne 38, 3) := by decide +kernel
theorem dX3_takesMember_70 : decode cX3_takesMember 70 = .ok (.aload_n 0, 1) := by decide +kernel
theorem dX3_takesMember_71 : decode cX3_takesMember 71 = .ok (.getfield 30, 3) := by decide +kernel
theorem dX3_takesMember_74 : decode cX3_takesMember 74 = .ok (.bipush 8, 2) := by decide +kernel
theorem dX3_takesMember_76 : decode cX3_takesMember 76 = .ok (.if_icmp .ne 29, 3) := by decide +kernel
theorem dX3_takesMember_79 : decode cX3_takesMember 79 = .ok (.aload_n 0, 1) := by decide +kernel
theorem dX3_takesMember_80 : decode cX3_takesMember 80 = .ok (.invokevirtual 33, 3) := by decide +kernel
theorem dX3_takesMember_83 : decode cX3_takesMember 83 = .ok (.aload_n 0, 1) := by decide +kernel
theorem dX3_takesMember_84 : decode cX3_takesMember 84 = .ok (.iconst 1, 1) := by decide +kernel
theorem dX3_takesMember_85 : decode cX3_takesMember 85 = .ok (.bipush 9, 2) := by decide +kernel
theorem dX3_takesMember_87 : decode cX3_takesMember 87 = .ok (.invokevirtual 62, 3) := by decide +kernel
theorem dX3_takesMember_90 : decode cX3_takesMember 90 = .ok (.ifCond .ne 5, 3) := by decide +kernel
theorem dX3_takesMember_93 : decode cX3_takesMember 93 = .ok (.iconst 0, 1) := by decide +kernel
theorem dX3_takesMember_94 : decode cX3_takesMember 94 = .ok (.ireturn, 1) := by decide +kernel
theorem dX3_takesMember_95 : decode cX3_takesMember 95 = .ok (.aload_n 0, 1) := by decide +kernel
theorem dX3_takesMember_96 : decode cX3_takesMember 96 = .ok (.getfield 30, 3) := by decide +kernel
theorem dX3_takesMember_99 : decode cX3_takesMember 99 = .ok (.istore 5, 2) := by decide +kernel
theorem dX3_takesMember_101 : decode cX3_takesMember 101 = .ok (.aload_n 0, 1) := by decide +kernel
theorem dX3_takesMember_102 : decode cX3_takesMember 102 = .ok (.invokevirtual 33, 3) := by decide +kernel
theorem dX3_takesMember_105 : decode cX3_takesMember 105 = .ok (.aload_n 1, 1) := by decide +kernel
theorem dX3_takesMember_106 : decode cX3_takesMember 106 = .ok (.iload_n 2, 1) := by decide +kernel
theorem dX3_takesMember_107 : decode cX3_takesMember 107 = .ok (.iload_n 3, 1) := by decide +kernel
theorem dX3_takesMember_108 : decode cX3_takesMember 108 = .ok (.iload 4, 2) := by decide +kernel
theorem dX3_takesMember_110 : decode cX3_takesMember 110 = .ok (.iload 5, 2) := by decide +kernel
theorem dX3_takesMember_112 : decode cX3_takesMember 112 = .ok (.invokevirtual 66, 3) := by decide +kernel
theorem dX3_takesMember_115 : decode cX3_takesMember 115 = .ok (.pop, 1) := by decide +kernel
theorem dX3_takesMember_116 : decode cX3_takesMember 116 = .ok (.iconst 1, 1) := by decide +kernel
theorem dX3_takesMember_117 : decode cX3_takesMember 117 = .ok (.ireturn, 1) := by decide +kernel
theorem dX3_takesKnows_0 : decode cX3_takesKnows 0 = .ok (.aload_n 0, 1) := by decide +kernel
theorem dX3_takesKnows_1 : decode cX3_takesKnows 1 = .ok (.invokevirtual 33, 3) := by decide +kernel
theorem dX3_takesKnows_4 : decode cX3_takesKnows 4 = .ok (.aload_n 0, 1) := by decide +kernel
theorem dX3_takesKnows_5 : decode cX3_takesKnows 5 = .ok (.iconst 0, 1) := by decide +kernel
theorem dX3_takesKnows_6 : decode cX3_takesKnows 6 = .ok (.aload_n 1, 1) := by decide +kernel
theorem dX3_takesKnows_7 : decode cX3_takesKnows 7 = .ok (.getfield 70, 3) := by decide +kernel
theorem dX3_takesKnows_10 : decode cX3_takesKnows 10 = .ok (.iconst 1, 1) := by decide +kernel
theorem dX3_takesKnows_11 : decode cX3_takesKnows 11 = .ok (.isub, 1) := by decide +kernel
theorem dX3_takesKnows_12 : decode cX3_takesKnows 12 = .ok (.invokevirtual 62, 3) := by decide +kernel
theorem dX3_takesKnows_15 : decode cX3_takesKnows 15 = .ok (.ifCond .ne 5, 3) := by decide +kernel
theorem dX3_takesKnows_18 : decode cX3_takesKnows 18 = .ok (.iconst 0, 1) := by decide +kernel
theorem dX3_takesKnows_19 : decode cX3_takesKnows 19 = .ok (.ireturn, 1) := by decide +kernel
theorem dX3_takesKnows_20 : decode cX3_takesKnows 20 = .ok (.aload_n 0, 1) := by decide +kernel
theorem dX3_takesKnows_21 : decode cX3_takesKnows 21 = .ok (.getfield 30, 3) := by decide +kernel
theorem dX3_takesKnows_24 : decode cX3_takesKnows 24 = .ok (.istore_n 2, 1) := by decide +kernel
theorem dX3_takesKnows_25 : decode cX3_takesKnows 25 = .ok (.aload_n 0, 1) := by decide +kernel
theorem dX3_takesKnows_26 : decode cX3_takesKnows 26 = .ok (.invokevirtual 33, 3) := by decide +kernel
theorem dX3_takesKnows_29 : decode cX3_takesKnows 29 = .ok (.aload_n 0, 1) := by decide +kernel
theorem dX3_takesKnows_30 : decode cX3_takesKnows 30 = .ok (.iconst 0, 1) := by decide +kernel
theorem dX3_takesKnows_31 : decode cX3_takesKnows 31 = .ok (.bipush 9, 2) := by decide +kernel
theorem dX3_takesKnows_33 : decode cX3_takesKnows 33 = .ok (.invokevirtual 62, 3) := by decide +kernel
theorem dX3_takesKnows_36 : decode cX3_takesKnows 36 = .ok (.ifCond .ne 5, 3) := by decide +kernel
theorem dX3_takesKnows_39 : decode cX3_takesKnows 39 = .ok (.iconst 0, 1) := by decide +kernel
theorem dX3_takesKnows_40 : decode cX3_takesKnows 40 = .ok (.ireturn, 1) := by decide +kernel
theorem dX3_takesKnows_41 : decode cX3_takesKnows 41 = .ok (.aload_n 1, 1) := by decide +kernel
