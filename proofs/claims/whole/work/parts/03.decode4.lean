theorem dX0_init_0 : decode cX0_init 0 = .ok (.aload_n 0, 1) := by decide +kernel
theorem dX0_init_1 : decode cX0_init 1 = .ok (.invokespecial 3, 3) := by decide +kernel
theorem dX0_init_4 : decode cX0_init 4 = .ok (.return_, 1) := by decide +kernel
theorem dX0_live_0 : decode cX0_live 0 = .ok (.aload_n 0, 1) := by decide +kernel
theorem dX0_live_1 : decode cX0_live 1 = .ok (.iconst 0, 1) := by decide +kernel
theorem dX0_live_2 : decode cX0_live 2 = .ok (.putfield 9, 3) := by decide +kernel
theorem dX0_live_5 : decode cX0_live 5 = .ok (.aload_n 0, 1) := by decide +kernel
theorem dX0_live_6 : decode cX0_live 6 = .ok (.iconst 0, 1) := by decide +kernel
theorem dX0_live_7 : decode cX0_live 7 = .ok (.putfield 15, 3) := by decide +kernel
theorem dX0_live_10 : decode cX0_live 10 = .ok (.aload_n 0, 1) := by decide +kernel
theorem dX0_live_11 : decode cX0_live 11 = .ok (.iconst 0, 1) := by decide +kernel
theorem dX0_live_12 : decode cX0_live 12 = .ok (.putfield 18, 3) := by decide +kernel
theorem dX0_live_15 : decode cX0_live 15 = .ok (.aload_n 0, 1) := by decide +kernel
theorem dX0_live_16 : decode cX0_live 16 = .ok (.iconst 0, 1) := by decide +kernel
theorem dX0_live_17 : decode cX0_live 17 = .ok (.putfield 21, 3) := by decide +kernel
theorem dX0_live_20 : decode cX0_live 20 = .ok (.aload_n 0, 1) := by decide +kernel
theorem dX0_live_21 : decode cX0_live 21 = .ok (.iconst 0, 1) := by decide +kernel
theorem dX0_live_22 : decode cX0_live 22 = .ok (.putfield 24, 3) := by decide +kernel
theorem dX0_live_25 : decode cX0_live 25 = .ok (.aload_n 0, 1) := by decide +kernel
theorem dX0_live_26 : decode cX0_live 26 = .ok (.aload_n 1, 1) := by decide +kernel
theorem dX0_live_27 : decode cX0_live 27 = .ok (.invokevirtual 27, 3) := by decide +kernel
theorem dX0_live_30 : decode cX0_live 30 = .ok (.bipush (-6), 2) := by decide +kernel
theorem dX0_live_32 : decode cX0_live 32 = .ok (.if_icmp .ne 7, 3) := by decide +kernel
theorem dX0_live_35 : decode cX0_live 35 = .ok (.iconst 0, 1) := by decide +kernel
theorem dX0_live_36 : decode cX0_live 36 = .ok (.goto 5, 3) := by decide +kernel
theorem dX0_live_39 : decode cX0_live 39 = .ok (.bipush (-5), 2) := by decide +kernel
theorem dX0_live_41 : decode cX0_live 41 = .ok (.putfield 33, 3) := by decide +kernel
theorem dX0_live_44 : decode cX0_live 44 = .ok (.aload_n 3, 1) := by decide +kernel
theorem dX0_live_45 : decode cX0_live 45 = .ok (.aload_n 2, 1) := by decide +kernel
theorem dX0_live_46 : decode cX0_live 46 = .ok (.invokevirtual 36, 3) := by decide +kernel
theorem dX0_live_49 : decode cX0_live 49 = .ok (.iconst 0, 1) := by decide +kernel
theorem dX0_live_50 : decode cX0_live 50 = .ok (.istore 4, 2) := by decide +kernel
theorem dX0_live_52 : decode cX0_live 52 = .ok (.iconst 0, 1) := by decide +kernel
theorem dX0_live_53 : decode cX0_live 53 = .ok (.istore 5, 2) := by decide +kernel
theorem dX0_live_55 : decode cX0_live 55 = .ok (.iload 5, 2) := by decide +kernel
theorem dX0_live_57 : decode cX0_live 57 = .ok (.bipush 60, 2) := by decide +kernel
theorem dX0_live_59 : decode cX0_live 59 = .ok (.if_icmp .ge 61, 3) := by decide +kernel
theorem dX0_live_62 : decode cX0_live 62 = .ok (.iload 4, 2) := by decide +kernel
theorem dX0_live_64 : decode cX0_live 64 = .ok (.aload_n 1, 1) := by decide +kernel
theorem dX0_live_65 : decode cX0_live 65 = .ok (.getfield 42, 3) := by decide +kernel
theorem dX0_live_68 : decode cX0_live 68 = .ok (.if_icmp .ge 52, 3) := by decide +kernel
theorem dX0_live_71 : decode cX0_live 71 = .ok (.aload_n 0, 1) := by decide +kernel
theorem dX0_live_72 : decode cX0_live 72 = .ok (.getfield 33, 3) := by decide +kernel
theorem dX0_live_75 : decode cX0_live 75 = .ok (.ifCond .ne 45, 3) := by decide +kernel
theorem dX0_live_78 : decode cX0_live 78 = .ok (.aload_n 0, 1) := by decide +kernel
theorem dX0_live_79 : decode cX0_live 79 = .ok (.aload_n 1, 1) := by decide +kernel
theorem dX0_live_80 : decode cX0_live 80 = .ok (.iload 4, 2) := by decide +kernel
theorem dX0_live_82 : decode cX0_live 82 = .ok (.aload_n 3, 1) := by decide +kernel
theorem dX0_live_83 : decode cX0_live 83 = .ok (.invokevirtual 45, 3) := by decide +kernel
theorem dX0_live_86 : decode cX0_live 86 = .ok (.istore 4, 2) := by decide +kernel
theorem dX0_live_88 : decode cX0_live 88 = .ok (.aload_n 0, 1) := by decide +kernel
theorem dX0_live_89 : decode cX0_live 89 = .ok (.getfield 9, 3) := by decide +kernel
theorem dX0_live_92 : decode cX0_live 92 = .ok (.ifCond .ne 16, 3) := by decide +kernel
theorem dX0_live_95 : decode cX0_live 95 = .ok (.aload_n 0, 1) := by decide +kernel
theorem dX0_live_96 : decode cX0_live 96 = .ok (.dup, 1) := by decide +kernel
theorem dX0_live_97 : decode cX0_live 97 = .ok (.getfield 15, 3) := by decide +kernel
theorem dX0_live_100 : decode cX0_live 100 = .ok (.iconst 1, 1) := by decide +kernel
theorem dX0_live_101 : decode cX0_live 101 = .ok (.iadd, 1) := by decide +kernel
theorem dX0_live_102 : decode cX0_live 102 = .ok (.putfield 15, 3) := by decide +kernel
theorem dX0_live_105 : decode cX0_live 105 = .ok (.goto 9, 3) := by decide +kernel
theorem dX0_live_108 : decode cX0_live 108 = .ok (.aload_n 0, 1) := by decide +kernel
theorem dX0_live_109 : decode cX0_live 109 = .ok (.bipush (-3), 2) := by decide +kernel
theorem dX0_live_111 : decode cX0_live 111 = .ok (.putfield 33, 3) := by decide +kernel
theorem dX0_live_114 : decode cX0_live 114 = .ok (.iinc 5 1, 3) := by decide +kernel
theorem dX0_live_117 : decode cX0_live 117 = .ok (.goto (-62), 3) := by decide +kernel
theorem dX0_live_120 : decode cX0_live 120 = .ok (.return_, 1) := by decide +kernel
theorem dX0_takeStep_0 : decode cX0_takeStep 0 = .ok (.aload_n 1, 1) := by decide +kernel
theorem dX0_takeStep_1 : decode cX0_takeStep 1 = .ok (.iload_n 2, 1) := by decide +kernel
theorem dX0_takeStep_2 : decode cX0_takeStep 2 = .ok (.invokevirtual 49, 3) := by decide +kernel
theorem dX0_takeStep_5 : decode cX0_takeStep 5 = .ok (.istore 4, 2) := by decide +kernel
theorem dX0_takeStep_7 : decode cX0_takeStep 7 = .ok (.aload_n 1, 1) := by decide +kernel
theorem dX0_takeStep_8 : decode cX0_takeStep 8 = .ok (.iload_n 2, 1) := by decide +kernel
theorem dX0_takeStep_9 : decode cX0_takeStep 9 = .ok (.iconst 1, 1) := by decide +kernel
theorem dX0_takeStep_10 : decode cX0_takeStep 10 = .ok (.iadd, 1) := by decide +kernel
theorem dX0_takeStep_11 : decode cX0_takeStep 11 = .ok (.invokevirtual 49, 3) := by decide +kernel
theorem dX0_takeStep_14 : decode cX0_takeStep 14 = .ok (.istore 5, 2) := by decide +kernel
theorem dX0_takeStep_16 : decode cX0_takeStep 16 = .ok (.iload 4, 2) := by decide +kernel
theorem dX0_takeStep_18 : decode cX0_takeStep 18 = .ok (.bipush 46, 2) := by decide +kernel
theorem dX0_takeStep_20 : decode cX0_takeStep 20 = .ok (.if_icmp .ne 21, 3) := by decide +kernel
theorem dX0_takeStep_23 : decode cX0_takeStep 23 = .ok (.aload_n 3, 1) := by decide +kernel
theorem dX0_takeStep_24 : decode cX0_takeStep 24 = .ok (.invokevirtual 53, 3) := by decide +kernel
theorem dX0_takeStep_27 : decode cX0_takeStep 27 = .ok (.aload_n 0, 1) := by decide +kernel
theorem dX0_takeStep_28 : decode cX0_takeStep 28 = .ok (.dup, 1) := by decide +kernel
theorem dX0_takeStep_29 : decode cX0_takeStep 29 = .ok (.getfield 24, 3) := by decide +kernel
theorem dX0_takeStep_32 : decode cX0_takeStep 32 = .ok (.iconst 1, 1) := by decide +kernel
theorem dX0_takeStep_33 : decode cX0_takeStep 33 = .ok (.iadd, 1) := by decide +kernel
theorem dX0_takeStep_34 : decode cX0_takeStep 34 = .ok (.putfield 24, 3) := by decide +kernel
theorem dX0_takeStep_37 : decode cX0_takeStep 37 = .ok (.iload_n 2, 1) := by decide +kernel
theorem dX0_takeStep_38 : decode cX0_takeStep 38 = .ok (.iconst 1, 1) := by decide +kernel
theorem dX0_takeStep_39 : decode cX0_takeStep 39 = .ok (.iadd, 1) := by decide +kernel
theorem dX0_takeStep_40 : decode cX0_takeStep 40 = .ok (.ireturn, 1) := by decide +kernel
theorem dX0_takeStep_41 : decode cX0_takeStep 41 = .ok (.iload 4, 2) := by decide +kernel
theorem dX0_takeStep_43 : decode cX0_takeStep 43 = .ok (.bipush 33, 2) := by decide +kernel
theorem dX0_takeStep_45 : decode cX0_takeStep 45 = .ok (.if_icmp .ne 20, 3) := by decide +kernel
theorem dX0_takeStep_48 : decode cX0_takeStep 48 = .ok (.aload_n 0, 1) := by decide +kernel
theorem dX0_takeStep_49 : decode cX0_takeStep 49 = .ok (.aload_n 3, 1) := by decide +kernel
theorem dX0_takeStep_50 : decode cX0_takeStep 50 = .ok (.iload 5, 2) := by decide +kernel
theorem dX0_takeStep_52 : decode cX0_takeStep 52 = .ok (.bipush 97, 2) := by decide +kernel
theorem dX0_takeStep_54 : decode cX0_takeStep 54 = .ok (.isub, 1) := by decide +kernel
theorem dX0_takeStep_55 : decode cX0_takeStep 55 = .ok (.invokevirtual 56, 3) := by decide +kernel
theorem dX0_takeStep_58 : decode cX0_takeStep 58 = .ok (.putfield 9, 3) := by decide +kernel
theorem dX0_takeStep_61 : decode cX0_takeStep 61 = .ok (.iload_n 2, 1) := by decide +kernel
theorem dX0_takeStep_62 : decode cX0_takeStep 62 = .ok (.iconst 2, 1) := by decide +kernel
theorem dX0_takeStep_63 : decode cX0_takeStep 63 = .ok (.iadd, 1) := by decide +kernel
theorem dX0_takeStep_64 : decode cX0_takeStep 64 = .ok (.ireturn, 1) := by decide +kernel
theorem dX0_takeStep_65 : decode cX0_takeStep 65 = .ok (.iload 5, 2) := by decide +kernel
theorem dX0_takeStep_67 : decode cX0_takeStep 67 = .ok (.invokestatic 59, 3) := by decide +kernel
theorem dX0_takeStep_70 : decode cX0_takeStep 70 = .ok (.ifCond .eq 45, 3) := by decide +kernel
theorem dX0_takeStep_73 : decode cX0_takeStep 73 = .ok (.aload_n 0, 1) := by decide +kernel
theorem dX0_takeStep_74 : decode cX0_takeStep 74 = .ok (.aload_n 3, 1) := by decide +kernel
theorem dX0_takeStep_75 : decode cX0_takeStep 75 = .ok (.iload 4, 2) := by decide +kernel
theorem dX0_takeStep_77 : decode cX0_takeStep 77 = .ok (.bipush 65, 2) := by decide +kernel
theorem dX0_takeStep_79 : decode cX0_takeStep 79 = .ok (.isub, 1) := by decide +kernel
theorem dX0_takeStep_80 : decode cX0_takeStep 80 = .ok (.iload 5, 2) := by decide +kernel
theorem dX0_takeStep_82 : decode cX0_takeStep 82 = .ok (.bipush 65, 2) := by decide +kernel
theorem dX0_takeStep_84 : decode cX0_takeStep 84 = .ok (.isub, 1) := by decide +kernel
theorem dX0_takeStep_85 : decode cX0_takeStep 85 = .ok (.aload_n 1, 1) := by decide +kernel
theorem dX0_takeStep_86 : decode cX0_takeStep 86 = .ok (.iload_n 2, 1) := by decide +kernel
theorem dX0_takeStep_87 : decode cX0_takeStep 87 = .ok (.iconst 2, 1) := by decide +kernel
theorem dX0_takeStep_88 : decode cX0_takeStep 88 = .ok (.iadd, 1) := by decide +kernel
theorem dX0_takeStep_89 : decode cX0_takeStep 89 = .ok (.invokevirtual 49, 3) := by decide +kernel
theorem dX0_takeStep_92 : decode cX0_takeStep 92 = .ok (.bipush 97, 2) := by decide +kernel
theorem dX0_takeStep_94 : decode cX0_takeStep 94 = .ok (.isub, 1) := by decide +kernel
theorem dX0_takeStep_95 : decode cX0_takeStep 95 = .ok (.invokevirtual 63, 3) := by decide +kernel
theorem dX0_takeStep_98 : decode cX0_takeStep 98 = .ok (.putfield 9, 3) := by decide +kernel
theorem dX0_takeStep_101 : decode cX0_takeStep 101 = .ok (.aload_n 0, 1) := by decide +kernel
theorem dX0_takeStep_102 : decode cX0_takeStep 102 = .ok (.dup, 1) := by decide +kernel
theorem dX0_takeStep_103 : decode cX0_takeStep 103 = .ok (.getfield 18, 3) := by decide +kernel
theorem dX0_takeStep_106 : decode cX0_takeStep 106 = .ok (.iconst 1, 1) := by decide +kernel
theorem dX0_takeStep_107 : decode cX0_takeStep 107 = .ok (.iadd, 1) := by decide +kernel
theorem dX0_takeStep_108 : decode cX0_takeStep 108 = .ok (.putfield 18, 3) := by decide +kernel
theorem dX0_takeStep_111 : decode cX0_takeStep 111 = .ok (.iload_n 2, 1) := by decide +kernel
theorem dX0_takeStep_112 : decode cX0_takeStep 112 = .ok (.iconst 3, 1) := by decide +kernel
theorem dX0_takeStep_113 : decode cX0_takeStep 113 = .ok (.iadd, 1) := by decide +kernel
theorem dX0_takeStep_114 : decode cX0_takeStep 114 = .ok (.ireturn, 1) := by decide +kernel
theorem dX0_takeStep_115 : decode cX0_takeStep 115 = .ok (.aload_n 0, 1) := by decide +kernel
theorem dX0_takeStep_116 : decode cX0_takeStep 116 = .ok (.aload_n 3, 1) := by decide +kernel
theorem dX0_takeStep_117 : decode cX0_takeStep 117 = .ok (.iload 4, 2) := by decide +kernel
theorem dX0_takeStep_119 : decode cX0_takeStep 119 = .ok (.bipush 65, 2) := by decide +kernel
theorem dX0_takeStep_121 : decode cX0_takeStep 121 = .ok (.isub, 1) := by decide +kernel
theorem dX0_takeStep_122 : decode cX0_takeStep 122 = .ok (.iload 5, 2) := by decide +kernel
theorem dX0_takeStep_124 : decode cX0_takeStep 124 = .ok (.bipush 48, 2) := by decide +kernel
theorem dX0_takeStep_126 : decode cX0_takeStep 126 = .ok (.isub, 1) := by decide +kernel
theorem dX0_takeStep_127 : decode cX0_takeStep 127 = .ok (.invokevirtual 67, 3) := by decide +kernel
theorem dX0_takeStep_130 : decode cX0_takeStep 130 = .ok (.putfield 9, 3) := by decide +kernel
theorem dX0_takeStep_133 : decode cX0_takeStep 133 = .ok (.aload_n 0, 1) := by decide +kernel
theorem dX0_takeStep_134 : decode cX0_takeStep 134 = .ok (.dup, 1) := by decide +kernel
theorem dX0_takeStep_135 : decode cX0_takeStep 135 = .ok (.getfield 21, 3) := by decide +kernel
theorem dX0_takeStep_138 : decode cX0_takeStep 138 = .ok (.iconst 1, 1) := by decide +kernel
theorem dX0_takeStep_139 : decode cX0_takeStep 139 = .ok (.iadd, 1) := by decide +kernel
theorem dX0_takeStep_140 : decode cX0_takeStep 140 = .ok (.putfield 21, 3) := by decide +kernel
theorem dX0_takeStep_143 : decode cX0_takeStep 143 = .ok (.iload_n 2, 1) := by decide +kernel
theorem dX0_takeStep_144 : decode cX0_takeStep 144 = .ok (.iconst 2, 1) := by decide +kernel
theorem dX0_takeStep_145 : decode cX0_takeStep 145 = .ok (.iadd, 1) := by decide +kernel
theorem dX0_takeStep_146 : decode cX0_takeStep 146 = .ok (.ireturn, 1) := by decide +kernel
theorem dX1_init_0 : decode cX1_init 0 = .ok (.aload_n 0, 1) := by decide +kernel
theorem dX1_init_1 : decode cX1_init 1 = .ok (.invokespecial 3, 3) := by decide +kernel
theorem dX1_init_4 : decode cX1_init 4 = .ok (.aload_n 0, 1) := by decide +kernel
theorem dX1_init_5 : decode cX1_init 5 = .ok (.bipush 6, 2) := by decide +kernel
theorem dX1_init_7 : decode cX1_init 7 = .ok (.newarray .int, 2) := by decide +kernel
theorem dX1_init_9 : decode cX1_init 9 = .ok (.putfield 9, 3) := by decide +kernel
theorem dX1_init_12 : decode cX1_init 12 = .ok (.aload_n 0, 1) := by decide +kernel
theorem dX1_init_13 : decode cX1_init 13 = .ok (.bipush 6, 2) := by decide +kernel
theorem dX1_init_15 : decode cX1_init 15 = .ok (.newarray .int, 2) := by decide +kernel
theorem dX1_init_17 : decode cX1_init 17 = .ok (.putfield 15, 3) := by decide +kernel
theorem dX1_init_20 : decode cX1_init 20 = .ok (.aload_n 0, 1) := by decide +kernel
theorem dX1_init_21 : decode cX1_init 21 = .ok (.bipush 36, 2) := by decide +kernel
theorem dX1_init_23 : decode cX1_init 23 = .ok (.newarray .int, 2) := by decide +kernel
theorem dX1_init_25 : decode cX1_init 25 = .ok (.putfield 18, 3) := by decide +kernel
theorem dX1_init_28 : decode cX1_init 28 = .ok (.return_, 1) := by decide +kernel
theorem dX1_readGoals_0 : decode cX1_readGoals 0 = .ok (.iload_n 2, 1) := by decide +kernel
theorem dX1_readGoals_1 : decode cX1_readGoals 1 = .ok (.istore 4, 2) := by decide +kernel
theorem dX1_readGoals_3 : decode cX1_readGoals 3 = .ok (.iconst 5, 1) := by decide +kernel
theorem dX1_readGoals_4 : decode cX1_readGoals 4 = .ok (.istore 5, 2) := by decide +kernel
theorem dX1_readGoals_6 : decode cX1_readGoals 6 = .ok (.iload 5, 2) := by decide +kernel
theorem dX1_readGoals_8 : decode cX1_readGoals 8 = .ok (.ifCond .lt 56, 3) := by decide +kernel
theorem dX1_readGoals_11 : decode cX1_readGoals 11 = .ok (.iload_n 1, 1) := by decide +kernel
theorem dX1_readGoals_12 : decode cX1_readGoals 12 = .ok (.iload 5, 2) := by decide +kernel
theorem dX1_readGoals_14 : decode cX1_readGoals 14 = .ok (.invokestatic 21, 3) := by decide +kernel
theorem dX1_readGoals_17 : decode cX1_readGoals 17 = .ok (.ifCond .eq 41, 3) := by decide +kernel
theorem dX1_readGoals_20 : decode cX1_readGoals 20 = .ok (.aload_n 0, 1) := by decide +kernel
theorem dX1_readGoals_21 : decode cX1_readGoals 21 = .ok (.getfield 15, 3) := by decide +kernel
theorem dX1_readGoals_24 : decode cX1_readGoals 24 = .ok (.iload 5, 2) := by decide +kernel
theorem dX1_readGoals_26 : decode cX1_readGoals 26 = .ok (.iload 4, 2) := by decide +kernel
theorem dX1_readGoals_28 : decode cX1_readGoals 28 = .ok (.bipush 10, 2) := by decide +kernel
theorem dX1_readGoals_30 : decode cX1_readGoals 30 = .ok (.irem, 1) := by decide +kernel
theorem dX1_readGoals_31 : decode cX1_readGoals 31 = .ok (.iastore, 1) := by decide +kernel
theorem dX1_readGoals_32 : decode cX1_readGoals 32 = .ok (.iload 4, 2) := by decide +kernel
theorem dX1_readGoals_34 : decode cX1_readGoals 34 = .ok (.bipush 10, 2) := by decide +kernel
theorem dX1_readGoals_36 : decode cX1_readGoals 36 = .ok (.idiv, 1) := by decide +kernel
theorem dX1_readGoals_37 : decode cX1_readGoals 37 = .ok (.istore 4, 2) := by decide +kernel
theorem dX1_readGoals_39 : decode cX1_readGoals 39 = .ok (.aload_n 0, 1) := by decide +kernel
theorem dX1_readGoals_40 : decode cX1_readGoals 40 = .ok (.getfield 15, 3) := by decide +kernel
theorem dX1_readGoals_43 : decode cX1_readGoals 43 = .ok (.iload 5, 2) := by decide +kernel
theorem dX1_readGoals_45 : decode cX1_readGoals 45 = .ok (.iaload, 1) := by decide +kernel
theorem dX1_readGoals_46 : decode cX1_readGoals 46 = .ok (.iconst 0, 1) := by decide +kernel
theorem dX1_readGoals_47 : decode cX1_readGoals 47 = .ok (.iload_n 3, 1) := by decide +kernel
theorem dX1_readGoals_48 : decode cX1_readGoals 48 = .ok (.iconst 1, 1) := by decide +kernel
theorem dX1_readGoals_49 : decode cX1_readGoals 49 = .ok (.isub, 1) := by decide +kernel
theorem dX1_readGoals_50 : decode cX1_readGoals 50 = .ok (.invokestatic 25, 3) := by decide +kernel
theorem dX1_readGoals_53 : decode cX1_readGoals 53 = .ok (.ifCond .ne 5, 3) := by decide +kernel
theorem dX1_readGoals_56 : decode cX1_readGoals 56 = .ok (.iconst 0, 1) := by decide +kernel
theorem dX1_readGoals_57 : decode cX1_readGoals 57 = .ok (.ireturn, 1) := by decide +kernel
theorem dX1_readGoals_58 : decode cX1_readGoals 58 = .ok (.iinc 5 (-1), 3) := by decide +kernel
theorem dX1_readGoals_61 : decode cX1_readGoals 61 = .ok (.goto (-55), 3) := by decide +kernel
theorem dX1_readGoals_64 : decode cX1_readGoals 64 = .ok (.iload 4, 2) := by decide +kernel
theorem dX1_readGoals_66 : decode cX1_readGoals 66 = .ok (.ifCond .ne 7, 3) := by decide +kernel
theorem dX1_readGoals_69 : decode cX1_readGoals 69 = .ok (.iconst 1, 1) := by decide +kernel
theorem dX1_readGoals_70 : decode cX1_readGoals 70 = .ok (.goto 4, 3) := by decide +kernel
theorem dX1_readGoals_73 : decode cX1_readGoals 73 = .ok (.iconst 0, 1) := by decide +kernel
theorem dX1_readGoals_74 : decode cX1_readGoals 74 = .ok (.ireturn, 1) := by decide +kernel
theorem dX2_init_0 : decode cX2_init 0 = .ok (.aload_n 0, 1) := by decide +kernel
theorem dX2_init_1 : decode cX2_init 1 = .ok (.invokespecial 3, 3) := by decide +kernel
theorem dX2_init_4 : decode cX2_init 4 = .ok (.aload_n 0, 1) := by decide +kernel
theorem dX2_init_5 : decode cX2_init 5 = .ok (.bipush 60, 2) := by decide +kernel
theorem dX2_init_7 : decode cX2_init 7 = .ok (.newarray .int, 2) := by decide +kernel
theorem dX2_init_9 : decode cX2_init 9 = .ok (.putfield 9, 3) := by decide +kernel
theorem dX2_init_12 : decode cX2_init 12 = .ok (.return_, 1) := by decide +kernel
theorem dX2_signAt_0 : decode cX2_signAt 0 = .ok (.iload_n 1, 1) := by decide +kernel
theorem dX2_signAt_1 : decode cX2_signAt 1 = .ok (.iconst 0, 1) := by decide +kernel
theorem dX2_signAt_2 : decode cX2_signAt 2 = .ok (.aload_n 0, 1) := by decide +kernel
theorem dX2_signAt_3 : decode cX2_signAt 3 = .ok (.getfield 15, 3) := by decide +kernel
theorem dX2_signAt_6 : decode cX2_signAt 6 = .ok (.iconst 1, 1) := by decide +kernel
theorem dX2_signAt_7 : decode cX2_signAt 7 = .ok (.isub, 1) := by decide +kernel
theorem dX2_signAt_8 : decode cX2_signAt 8 = .ok (.invokestatic 19, 3) := by decide +kernel
theorem dX2_signAt_11 : decode cX2_signAt 11 = .ok (.ifCond .eq 12, 3) := by decide +kernel
theorem dX2_signAt_14 : decode cX2_signAt 14 = .ok (.aload_n 0, 1) := by decide +kernel
theorem dX2_signAt_15 : decode cX2_signAt 15 = .ok (.getfield 9, 3) := by decide +kernel
theorem dX2_signAt_18 : decode cX2_signAt 18 = .ok (.iload_n 1, 1) := by decide +kernel
theorem dX2_signAt_19 : decode cX2_signAt 19 = .ok (.iaload, 1) := by decide +kernel
theorem dX2_signAt_20 : decode cX2_signAt 20 = .ok (.goto 4, 3) := by decide +kernel
theorem dX2_signAt_23 : decode cX2_signAt 23 = .ok (.iconst 0, 1) := by decide +kernel
theorem dX2_signAt_24 : decode cX2_signAt 24 = .ok (.ireturn, 1) := by decide +kernel
theorem dX2_faultPlace_0 : decode cX2_faultPlace 0 = .ok (.iconst 0, 1) := by decide +kernel
theorem dX2_faultPlace_1 : decode cX2_faultPlace 1 = .ok (.istore_n 1, 1) := by decide +kernel
theorem dX2_faultPlace_2 : decode cX2_faultPlace 2 = .ok (.iconst 0, 1) := by decide +kernel
theorem dX2_faultPlace_3 : decode cX2_faultPlace 3 = .ok (.istore_n 2, 1) := by decide +kernel
theorem dX2_faultPlace_4 : decode cX2_faultPlace 4 = .ok (.iload_n 2, 1) := by decide +kernel
theorem dX2_faultPlace_5 : decode cX2_faultPlace 5 = .ok (.aload_n 0, 1) := by decide +kernel
theorem dX2_faultPlace_6 : decode cX2_faultPlace 6 = .ok (.getfield 15, 3) := by decide +kernel
theorem dX2_faultPlace_9 : decode cX2_faultPlace 9 = .ok (.if_icmp .ge 26, 3) := by decide +kernel
theorem dX2_faultPlace_12 : decode cX2_faultPlace 12 = .ok (.iload_n 1, 1) := by decide +kernel
theorem dX2_faultPlace_13 : decode cX2_faultPlace 13 = .ok (.aload_n 0, 1) := by decide +kernel
theorem dX2_faultPlace_14 : decode cX2_faultPlace 14 = .ok (.iload_n 2, 1) := by decide +kernel
theorem dX2_faultPlace_15 : decode cX2_faultPlace 15 = .ok (.invokevirtual 23, 3) := by decide +kernel
theorem dX2_faultPlace_18 : decode cX2_faultPlace 18 = .ok (.invokestatic 27, 3) := by decide +kernel
theorem dX2_faultPlace_21 : decode cX2_faultPlace 21 = .ok (.istore_n 1, 1) := by decide +kernel
theorem dX2_faultPlace_22 : decode cX2_faultPlace 22 = .ok (.iload_n 1, 1) := by decide +kernel
theorem dX2_faultPlace_23 : decode cX2_faultPlace 23 = .ok (.iconst 4, 1) := by decide +kernel
theorem dX2_faultPlace_24 : decode cX2_faultPlace 24 = .ok (.if_icmp .ne 5, 3) := by decide +kernel
theorem dX2_faultPlace_27 : decode cX2_faultPlace 27 = .ok (.iload_n 2, 1) := by decide +kernel
theorem dX2_faultPlace_28 : decode cX2_faultPlace 28 = .ok (.ireturn, 1) := by decide +kernel
theorem dX2_faultPlace_29 : decode cX2_faultPlace 29 = .ok (.iinc 2 1, 3) := by decide +kernel
theorem dX2_faultPlace_32 : decode cX2_faultPlace 32 = .ok (.goto (-28), 3) := by decide +kernel
theorem dX2_faultPlace_35 : decode cX2_faultPlace 35 = .ok (.iload_n 1, 1) := by decide +kernel
theorem dX2_faultPlace_36 : decode cX2_faultPlace 36 = .ok (.ifCond .ne 8, 3) := by decide +kernel
theorem dX2_faultPlace_39 : decode cX2_faultPlace 39 = .ok (.bipush (-6), 2) := by decide +kernel
theorem dX2_faultPlace_41 : decode cX2_faultPlace 41 = .ok (.goto 7, 3) := by decide +kernel
theorem dX2_faultPlace_44 : decode cX2_faultPlace 44 = .ok (.aload_n 0, 1) := by decide +kernel
theorem dX2_faultPlace_45 : decode cX2_faultPlace 45 = .ok (.getfield 15, 3) := by decide +kernel
theorem dX2_faultPlace_48 : decode cX2_faultPlace 48 = .ok (.ireturn, 1) := by decide +kernel
theorem dX2_readOn_0 : decode cX2_readOn 0 = .ok (.iload_n 0, 1) := by decide +kernel
theorem dX2_readOn_1 : decode cX2_readOn 1 = .ok (.lookupswitch 84 #[(0, 27), (1, 58)], 27) := by decide +kernel
theorem dX2_readOn_28 : decode cX2_readOn 28 = .ok (.iload_n 1, 1) := by decide +kernel
theorem dX2_readOn_29 : decode cX2_readOn 29 = .ok (.invokestatic 31, 3) := by decide +kernel
theorem dX2_readOn_32 : decode cX2_readOn 32 = .ok (.ifCond .eq 5, 3) := by decide +kernel
theorem dX2_readOn_35 : decode cX2_readOn 35 = .ok (.iconst 1, 1) := by decide +kernel
theorem dX2_readOn_36 : decode cX2_readOn 36 = .ok (.ireturn, 1) := by decide +kernel
theorem dX2_readOn_37 : decode cX2_readOn 37 = .ok (.iload_n 1, 1) := by decide +kernel
theorem dX2_readOn_38 : decode cX2_readOn 38 = .ok (.bipush 33, 2) := by decide +kernel
theorem dX2_readOn_40 : decode cX2_readOn 40 = .ok (.if_icmp .ne 7, 3) := by decide +kernel
theorem dX2_readOn_43 : decode cX2_readOn 43 = .ok (.iconst 3, 1) := by decide +kernel
theorem dX2_readOn_44 : decode cX2_readOn 44 = .ok (.goto 14, 3) := by decide +kernel
theorem dX2_readOn_47 : decode cX2_readOn 47 = .ok (.iload_n 1, 1) := by decide +kernel
theorem dX2_readOn_48 : decode cX2_readOn 48 = .ok (.bipush 46, 2) := by decide +kernel
theorem dX2_readOn_50 : decode cX2_readOn 50 = .ok (.if_icmp .ne 7, 3) := by decide +kernel
theorem dX2_readOn_53 : decode cX2_readOn 53 = .ok (.iconst 0, 1) := by decide +kernel
theorem dX2_readOn_54 : decode cX2_readOn 54 = .ok (.goto 4, 3) := by decide +kernel
theorem dX2_readOn_57 : decode cX2_readOn 57 = .ok (.iconst 4, 1) := by decide +kernel
theorem dX2_readOn_58 : decode cX2_readOn 58 = .ok (.ireturn, 1) := by decide +kernel
theorem dX2_readOn_59 : decode cX2_readOn 59 = .ok (.iload_n 1, 1) := by decide +kernel
theorem dX2_readOn_60 : decode cX2_readOn 60 = .ok (.invokestatic 31, 3) := by decide +kernel
theorem dX2_readOn_63 : decode cX2_readOn 63 = .ok (.ifCond .eq 5, 3) := by decide +kernel
theorem dX2_readOn_66 : decode cX2_readOn 66 = .ok (.iconst 2, 1) := by decide +kernel
theorem dX2_readOn_67 : decode cX2_readOn 67 = .ok (.ireturn, 1) := by decide +kernel
theorem dX2_readOn_68 : decode cX2_readOn 68 = .ok (.iload_n 1, 1) := by decide +kernel
theorem dX2_readOn_69 : decode cX2_readOn 69 = .ok (.bipush 48, 2) := by decide +kernel
theorem dX2_readOn_71 : decode cX2_readOn 71 = .ok (.bipush 55, 2) := by decide +kernel
theorem dX2_readOn_73 : decode cX2_readOn 73 = .ok (.invokestatic 19, 3) := by decide +kernel
theorem dX2_readOn_76 : decode cX2_readOn 76 = .ok (.ifCond .eq 7, 3) := by decide +kernel
theorem dX2_readOn_79 : decode cX2_readOn 79 = .ok (.iconst 0, 1) := by decide +kernel
theorem dX2_readOn_80 : decode cX2_readOn 80 = .ok (.goto 4, 3) := by decide +kernel
theorem dX2_readOn_83 : decode cX2_readOn 83 = .ok (.iconst 4, 1) := by decide +kernel
theorem dX2_readOn_84 : decode cX2_readOn 84 = .ok (.ireturn, 1) := by decide +kernel
theorem dX2_readOn_85 : decode cX2_readOn 85 = .ok (.iload_n 1, 1) := by decide +kernel
theorem dX2_readOn_86 : decode cX2_readOn 86 = .ok (.bipush 97, 2) := by decide +kernel
theorem dX2_readOn_88 : decode cX2_readOn 88 = .ok (.bipush 104, 2) := by decide +kernel
theorem dX2_readOn_90 : decode cX2_readOn 90 = .ok (.invokestatic 19, 3) := by decide +kernel
theorem dX2_readOn_93 : decode cX2_readOn 93 = .ok (.ifCond .eq 7, 3) := by decide +kernel
theorem dX2_readOn_96 : decode cX2_readOn 96 = .ok (.iconst 0, 1) := by decide +kernel
theorem dX2_readOn_97 : decode cX2_readOn 97 = .ok (.goto 4, 3) := by decide +kernel
theorem dX2_readOn_100 : decode cX2_readOn 100 = .ok (.iconst 4, 1) := by decide +kernel
theorem dX2_readOn_101 : decode cX2_readOn 101 = .ok (.ireturn, 1) := by decide +kernel
theorem dX2_isPersonSign_0 : decode cX2_isPersonSign 0 = .ok (.iload_n 0, 1) := by decide +kernel
theorem dX2_isPersonSign_1 : decode cX2_isPersonSign 1 = .ok (.bipush 65, 2) := by decide +kernel
theorem dX2_isPersonSign_3 : decode cX2_isPersonSign 3 = .ok (.bipush 70, 2) := by decide +kernel
theorem dX2_isPersonSign_5 : decode cX2_isPersonSign 5 = .ok (.invokestatic 19, 3) := by decide +kernel
theorem dX2_isPersonSign_8 : decode cX2_isPersonSign 8 = .ok (.ireturn, 1) := by decide +kernel
theorem dX3_init_0 : decode cX3_init 0 = .ok (.aload_n 0, 1) := by decide +kernel
theorem dX3_init_1 : decode cX3_init 1 = .ok (.invokespecial 3, 3) := by decide +kernel
theorem dX3_init_4 : decode cX3_init 4 = .ok (.aload_n 0, 1) := by decide +kernel
theorem dX3_init_5 : decode cX3_init 5 = .ok (.bipush 8, 2) := by decide +kernel
theorem dX3_init_7 : decode cX3_init 7 = .ok (.newarray .int, 2) := by decide +kernel
theorem dX3_init_9 : decode cX3_init 9 = .ok (.putfield 9, 3) := by decide +kernel
theorem dX3_init_12 : decode cX3_init 12 = .ok (.aload_n 0, 1) := by decide +kernel
theorem dX3_init_13 : decode cX3_init 13 = .ok (.bipush 8, 2) := by decide +kernel
theorem dX3_init_15 : decode cX3_init 15 = .ok (.newarray .int, 2) := by decide +kernel
theorem dX3_init_17 : decode cX3_init 17 = .ok (.putfield 15, 3) := by decide +kernel
theorem dX3_init_20 : decode cX3_init 20 = .ok (.aload_n 0, 1) := by decide +kernel
theorem dX3_init_21 : decode cX3_init 21 = .ok (.bipush 8, 2) := by decide +kernel
theorem dX3_init_23 : decode cX3_init 23 = .ok (.newarray .int, 2) := by decide +kernel
theorem dX3_init_25 : decode cX3_init 25 = .ok (.putfield 18, 3) := by decide +kernel
theorem dX3_init_28 : decode cX3_init 28 = .ok (.aload_n 0, 1) := by decide +kernel
theorem dX3_init_29 : decode cX3_init 29 = .ok (.bipush 8, 2) := by decide +kernel
theorem dX3_init_31 : decode cX3_init 31 = .ok (.newarray .int, 2) := by decide +kernel
theorem dX3_init_33 : decode cX3_init 33 = .ok (.putfield 21, 3) := by decide +kernel
theorem dX3_init_36 : decode cX3_init 36 = .ok (.aload_n 0, 1) := by decide +kernel
theorem dX3_init_37 : decode cX3_init 37 = .ok (.bipush 6, 2) := by decide +kernel
theorem dX3_init_39 : decode cX3_init 39 = .ok (.newarray .int, 2) := by decide +kernel
theorem dX3_init_41 : decode cX3_init 41 = .ok (.putfield 24, 3) := by decide +kernel
theorem dX3_init_44 : decode cX3_init 44 = .ok (.aload_n 0, 1) := by decide +kernel
theorem dX3_init_45 : decode cX3_init 45 = .ok (.bipush 6, 2) := by decide +kernel
theorem dX3_init_47 : decode cX3_init 47 = .ok (.newarray .int, 2) := by decide +kernel
theorem dX3_init_49 : decode cX3_init 49 = .ok (.putfield 27, 3) := by decide +kernel
theorem dX3_init_52 : decode cX3_init 52 = .ok (.aload_n 0, 1) := by decide +kernel
theorem dX3_init_53 : decode cX3_init 53 = .ok (.bipush 6, 2) := by decide +kernel
theorem dX3_init_55 : decode cX3_init 55 = .ok (.newarray .int, 2) := by decide +kernel
theorem dX3_init_57 : decode cX3_init 57 = .ok (.putfield 30, 3) := by decide +kernel
theorem dX3_init_60 : decode cX3_init 60 = .ok (.aload_n 0, 1) := by decide +kernel
theorem dX3_init_61 : decode cX3_init 61 = .ok (.bipush 8, 2) := by decide +kernel
theorem dX3_init_63 : decode cX3_init 63 = .ok (.newarray .int, 2) := by decide +kernel
theorem dX3_init_65 : decode cX3_init 65 = .ok (.putfield 33, 3) := by decide +kernel
theorem dX3_init_68 : decode cX3_init 68 = .ok (.aload_n 0, 1) := by decide +kernel
theorem dX3_init_69 : decode cX3_init 69 = .ok (.bipush 8, 2) := by decide +kernel
theorem dX3_init_71 : decode cX3_init 71 = .ok (.newarray .int, 2) := by decide +kernel
theorem dX3_init_73 : decode cX3_init 73 = .ok (.putfield 36, 3) := by decide +kernel
theorem dX3_init_76 : decode cX3_init 76 = .ok (.aload_n 0, 1) := by decide +kernel
theorem dX3_init_77 : decode cX3_init 77 = .ok (.bipush 6, 2) := by decide +kernel
theorem dX3_init_79 : decode cX3_init 79 = .ok (.newarray .int, 2) := by decide +kernel
theorem dX3_init_81 : decode cX3_init 81 = .ok (.putfield 39, 3) := by decide +kernel
theorem dX3_init_84 : decode cX3_init 84 = .ok (.aload_n 0, 1) := by decide +kernel
theorem dX3_init_85 : decode cX3_init 85 = .ok (.bipush 6, 2) := by decide +kernel
theorem dX3_init_87 : decode cX3_init 87 = .ok (.newarray .int, 2) := by decide +kernel
theorem dX3_init_89 : decode cX3_init 89 = .ok (.putfield 42, 3) := by decide +kernel
theorem dX3_init_92 : decode cX3_init 92 = .ok (.aload_n 0, 1) := by decide +kernel
theorem dX3_init_93 : decode cX3_init 93 = .ok (.iconst 1, 1) := by decide +kernel
theorem dX3_init_94 : decode cX3_init 94 = .ok (.putfield 45, 3) := by decide +kernel
theorem dX3_init_97 : decode cX3_init 97 = .ok (.aload_n 0, 1) := by decide +kernel
theorem dX3_init_98 : decode cX3_init 98 = .ok (.iconst 4, 1) := by decide +kernel
theorem dX3_init_99 : decode cX3_init 99 = .ok (.invokevirtual 49, 3) := by decide +kernel
theorem dX3_init_102 : decode cX3_init 102 = .ok (.return_, 1) := by decide +kernel
theorem dX3_settle_0 : decode cX3_settle 0 = .ok (.aload_n 0, 1) := by decide +kernel
theorem dX3_settle_1 : decode cX3_settle 1 = .ok (.iload_n 1, 1) := by decide +kernel
theorem dX3_settle_2 : decode cX3_settle 2 = .ok (.putfield 53, 3) := by decide +kernel
theorem dX3_settle_5 : decode cX3_settle 5 = .ok (.aload_n 0, 1) := by decide +kernel
theorem dX3_settle_6 : decode cX3_settle 6 = .ok (.iconst 0, 1) := by decide +kernel
theorem dX3_settle_7 : decode cX3_settle 7 = .ok (.putfield 56, 3) := by decide +kernel
theorem dX3_settle_10 : decode cX3_settle 10 = .ok (.aload_n 0, 1) := by decide +kernel
theorem dX3_settle_11 : decode cX3_settle 11 = .ok (.iconst 0, 1) := by decide +kernel
theorem dX3_settle_12 : decode cX3_settle 12 = .ok (.putfield 59, 3) := by decide +kernel
theorem dX3_settle_15 : decode cX3_settle 15 = .ok (.aload_n 0, 1) := by decide +kernel
theorem dX3_settle_16 : decode cX3_settle 16 = .ok (.iconst 0, 1) := by decide +kernel
theorem dX3_settle_17 : decode cX3_settle 17 = .ok (.putfield 62, 3) := by decide +kernel
theorem dX3_settle_20 : decode cX3_settle 20 = .ok (.aload_n 0, 1) := by decide +kernel
theorem dX3_settle_21 : decode cX3_settle 21 = .ok (.iconst 0, 1) := by decide +kernel
theorem dX3_settle_22 : decode cX3_settle 22 = .ok (.putfield 65, 3) := by decide +kernel
theorem dX3_settle_25 : decode cX3_settle 25 = .ok (.aload_n 0, 1) := by decide +kernel
theorem dX3_settle_26 : decode cX3_settle 26 = .ok (.getfield 30, 3) := by decide +kernel
theorem dX3_settle_29 : decode cX3_settle 29 = .ok (.iconst 0, 1) := by decide +kernel
theorem dX3_settle_30 : decode cX3_settle 30 = .ok (.invokestatic 68, 3) := by decide +kernel
theorem dX3_settle_33 : decode cX3_settle 33 = .ok (.aload_n 0, 1) := by decide +kernel
theorem dX3_settle_34 : decode cX3_settle 34 = .ok (.getfield 33, 3) := by decide +kernel
theorem dX3_settle_37 : decode cX3_settle 37 = .ok (.iconst 0, 1) := by decide +kernel
theorem dX3_settle_38 : decode cX3_settle 38 = .ok (.invokestatic 68, 3) := by decide +kernel
theorem dX3_settle_41 : decode cX3_settle 41 = .ok (.aload_n 0, 1) := by decide +kernel
theorem dX3_settle_42 : decode cX3_settle 42 = .ok (.getfield 36, 3) := by decide +kernel
theorem dX3_settle_45 : decode cX3_settle 45 = .ok (.iconst 3, 1) := by decide +kernel
theorem dX3_settle_46 : decode cX3_settle 46 = .ok (.invokestatic 68, 3) := by decide +kernel
theorem dX3_settle_49 : decode cX3_settle 49 = .ok (.return_, 1) := by decide +kernel
theorem dX3_copy_0 : decode cX3_copy 0 = .ok (.aload_n 0, 1) := by decide +kernel
theorem dX3_copy_1 : decode cX3_copy 1 = .ok (.aload_n 1, 1) := by decide +kernel
theorem dX3_copy_2 : decode cX3_copy 2 = .ok (.getfield 53, 3) := by decide +kernel
theorem dX3_copy_5 : decode cX3_copy 5 = .ok (.putfield 53, 3) := by decide +kernel
theorem dX3_copy_8 : decode cX3_copy 8 = .ok (.aload_n 0, 1) := by decide +kernel
theorem dX3_copy_9 : decode cX3_copy 9 = .ok (.aload_n 1, 1) := by decide +kernel
theorem dX3_copy_10 : decode cX3_copy 10 = .ok (.getfield 56, 3) := by decide +kernel
theorem dX3_copy_13 : decode cX3_copy 13 = .ok (.putfield 56, 3) := by decide +kernel
theorem dX3_copy_16 : decode cX3_copy 16 = .ok (.aload_n 0, 1) := by decide +kernel
theorem dX3_copy_17 : decode cX3_copy 17 = .ok (.aload_n 1, 1) := by decide +kernel
theorem dX3_copy_18 : decode cX3_copy 18 = .ok (.getfield 59, 3) := by decide +kernel
theorem dX3_copy_21 : decode cX3_copy 21 = .ok (.putfield 59, 3) := by decide +kernel
theorem dX3_copy_24 : decode cX3_copy 24 = .ok (.aload_n 0, 1) := by decide +kernel
theorem dX3_copy_25 : decode cX3_copy 25 = .ok (.aload_n 1, 1) := by decide +kernel
theorem dX3_copy_26 : decode cX3_copy 26 = .ok (.getfield 65, 3) := by decide +kernel
theorem dX3_copy_29 : decode cX3_copy 29 = .ok (.putfield 65, 3) := by decide +kernel
theorem dX3_copy_32 : decode cX3_copy 32 = .ok (.aload_n 0, 1) := by decide +kernel
theorem dX3_copy_33 : decode cX3_copy 33 = .ok (.aload_n 1, 1) := by decide +kernel
theorem dX3_copy_34 : decode cX3_copy 34 = .ok (.getfield 45, 3) := by decide +kernel
theorem dX3_copy_37 : decode cX3_copy 37 = .ok (.putfield 45, 3) := by decide +kernel
theorem dX3_copy_40 : decode cX3_copy 40 = .ok (.aload_n 0, 1) := by decide +kernel
theorem dX3_copy_41 : decode cX3_copy 41 = .ok (.aload_n 1, 1) := by decide +kernel
theorem dX3_copy_42 : decode cX3_copy 42 = .ok (.getfield 62, 3) := by decide +kernel
theorem dX3_copy_45 : decode cX3_copy 45 = .ok (.putfield 62, 3) := by decide +kernel
theorem dX3_copy_48 : decode cX3_copy 48 = .ok (.aload_n 1, 1) := by decide +kernel
theorem dX3_copy_49 : decode cX3_copy 49 = .ok (.getfield 9, 3) := by decide +kernel
theorem dX3_copy_52 : decode cX3_copy 52 = .ok (.iconst 0, 1) := by decide +kernel
theorem dX3_copy_53 : decode cX3_copy 53 = .ok (.aload_n 0, 1) := by decide +kernel
theorem dX3_copy_54 : decode cX3_copy 54 = .ok (.getfield 9, 3) := by decide +kernel
theorem dX3_copy_57 : decode cX3_copy 57 = .ok (.iconst 0, 1) := by decide +kernel
theorem dX3_copy_58 : decode cX3_copy 58 = .ok (.bipush 8, 2) := by decide +kernel
theorem dX3_copy_60 : decode cX3_copy 60 = .ok (.invokestatic 74, 3) := by decide +kernel
theorem dX3_copy_63 : decode cX3_copy 63 = .ok (.aload_n 1, 1) := by decide +kernel
theorem dX3_copy_64 : decode cX3_copy 64 = .ok (.getfield 15, 3) := by decide +kernel
theorem dX3_copy_67 : decode cX3_copy 67 = .ok (.iconst 0, 1) := by decide +kernel
theorem dX3_copy_68 : decode cX3_copy 68 = .ok (.aload_n 0, 1) := by decide +kernel
theorem dX3_copy_69 : decode cX3_copy 69 = .ok (.getfield 15, 3) := by decide +kernel
theorem dX3_copy_72 : decode cX3_copy 72 = .ok (.iconst 0, 1) := by decide +kernel
theorem dX3_copy_73 : decode cX3_copy 73 = .ok (.bipush 8, 2) := by decide +kernel
theorem dX3_copy_75 : decode cX3_copy 75 = .ok (.invokestatic 74, 3) := by decide +kernel
theorem dX3_copy_78 : decode cX3_copy 78 = .ok (.aload_n 1, 1) := by decide +kernel
theorem dX3_copy_79 : decode cX3_copy 79 = .ok (.getfield 18, 3) := by decide +kernel
theorem dX3_copy_82 : decode cX3_copy 82 = .ok (.iconst 0, 1) := by decide +kernel
theorem dX3_copy_83 : decode cX3_copy 83 = .ok (.aload_n 0, 1) := by decide +kernel
theorem dX3_copy_84 : decode cX3_copy 84 = .ok (.getfield 18, 3) := by decide +kernel
theorem dX3_copy_87 : decode cX3_copy 87 = .ok (.iconst 0, 1) := by decide +kernel
theorem dX3_copy_88 : decode cX3_copy 88 = .ok (.bipush 8, 2) := by decide +kernel
theorem dX3_copy_90 : decode cX3_copy 90 = .ok (.invokestatic 74, 3) := by decide +kernel
theorem dX3_copy_93 : decode cX3_copy 93 = .ok (.aload_n 1, 1) := by decide +kernel
theorem dX3_copy_94 : decode cX3_copy 94 = .ok (.getfield 21, 3) := by decide +kernel
theorem dX3_copy_97 : decode cX3_copy 97 = .ok (.iconst 0, 1) := by decide +kernel
theorem dX3_copy_98 : decode cX3_copy 98 = .ok (.aload_n 0, 1) := by decide +kernel
theorem dX3_copy_99 : decode cX3_copy 99 = .ok (.getfield 21, 3) := by decide +kernel
theorem dX3_copy_102 : decode cX3_copy 102 = .ok (.iconst 0, 1) := by decide +kernel
theorem dX3_copy_103 : decode cX3_copy 103 = .ok (.bipush 8, 2) := by decide +kernel
theorem dX3_copy_105 : decode cX3_copy 105 = .ok (.invokestatic 74, 3) := by decide +kernel
theorem dX3_copy_108 : decode cX3_copy 108 = .ok (.aload_n 1, 1) := by decide +kernel
theorem dX3_copy_109 : decode cX3_copy 109 = .ok (.getfield 24, 3) := by decide +kernel
theorem dX3_copy_112 : decode cX3_copy 112 = .ok (.iconst 0, 1) := by decide +kernel
theorem dX3_copy_113 : decode cX3_copy 113 = .ok (.aload_n 0, 1) := by decide +kernel
theorem dX3_copy_114 : decode cX3_copy 114 = .ok (.getfield 24, 3) := by decide +kernel
theorem dX3_copy_117 : decode cX3_copy 117 = .ok (.iconst 0, 1) := by decide +kernel
theorem dX3_copy_118 : decode cX3_copy 118 = .ok (.bipush 6, 2) := by decide +kernel
theorem dX3_copy_120 : decode cX3_copy 120 = .ok (.invokestatic 74, 3) := by decide +kernel
theorem dX3_copy_123 : decode cX3_copy 123 = .ok (.aload_n 1, 1) := by decide +kernel
theorem dX3_copy_124 : decode cX3_copy 124 = .ok (.getfield 27, 3) := by decide +kernel
theorem dX3_copy_127 : decode cX3_copy 127 = .ok (.iconst 0, 1) := by decide +kernel
theorem dX3_copy_128 : decode cX3_copy 128 = .ok (.aload_n 0, 1) := by decide +kernel
theorem dX3_copy_129 : decode cX3_copy 129 = .ok (.getfield 27, 3) := by decide +kernel
theorem dX3_copy_132 : decode cX3_copy 132 = .ok (.iconst 0, 1) := by decide +kernel
theorem dX3_copy_133 : decode cX3_copy 133 = .ok (.bipush 6, 2) := by decide +kernel
theorem dX3_copy_135 : decode cX3_copy 135 = .ok (.invokestatic 74, 3) := by decide +kernel
theorem dX3_copy_138 : decode cX3_copy 138 = .ok (.aload_n 1, 1) := by decide +kernel
theorem dX3_copy_139 : decode cX3_copy 139 = .ok (.getfield 30, 3) := by decide +kernel
theorem dX3_copy_142 : decode cX3_copy 142 = .ok (.iconst 0, 1) := by decide +kernel
theorem dX3_copy_143 : decode cX3_copy 143 = .ok (.aload_n 0, 1) := by decide +kernel
theorem dX3_copy_144 : decode cX3_copy 144 = .ok (.getfield 30, 3) := by decide +kernel
theorem dX3_copy_147 : decode cX3_copy 147 = .ok (.iconst 0, 1) := by decide +kernel
theorem dX3_copy_148 : decode cX3_copy 148 = .ok (.bipush 6, 2) := by decide +kernel
theorem dX3_copy_150 : decode cX3_copy 150 = .ok (.invokestatic 74, 3) := by decide +kernel
theorem dX3_copy_153 : decode cX3_copy 153 = .ok (.aload_n 1, 1) := by decide +kernel
theorem dX3_copy_154 : decode cX3_copy 154 = .ok (.getfield 33, 3) := by decide +kernel
theorem dX3_copy_157 : decode cX3_copy 157 = .ok (.iconst 0, 1) := by decide +kernel
theorem dX3_copy_158 : decode cX3_copy 158 = .ok (.aload_n 0, 1) := by decide +kernel
theorem dX3_copy_159 : decode cX3_copy 159 = .ok (.getfield 33, 3) := by decide +kernel
theorem dX3_copy_162 : decode cX3_copy 162 = .ok (.iconst 0, 1) := by decide +kernel
theorem dX3_copy_163 : decode cX3_copy 163 = .ok (.bipush 8, 2) := by decide +kernel
theorem dX3_copy_165 : decode cX3_copy 165 = .ok (.invokestatic 74, 3) := by decide +kernel
theorem dX3_copy_168 : decode cX3_copy 168 = .ok (.aload_n 1, 1) := by decide +kernel
theorem dX3_copy_169 : decode cX3_copy 169 = .ok (.getfield 36, 3) := by decide +kernel
theorem dX3_copy_172 : decode cX3_copy 172 = .ok (.iconst 0, 1) := by decide +kernel
theorem dX3_copy_173 : decode cX3_copy 173 = .ok (.aload_n 0, 1) := by decide +kernel
theorem dX3_copy_174 : decode cX3_copy 174 = .ok (.getfield 36, 3) := by decide +kernel
theorem dX3_copy_177 : decode cX3_copy 177 = .ok (.iconst 0, 1) := by decide +kernel
theorem dX3_copy_178 : decode cX3_copy 178 = .ok (.bipush 8, 2) := by decide +kernel
theorem dX3_copy_180 : decode cX3_copy 180 = .ok (.invokestatic 74, 3) := by decide +kernel
theorem dX3_copy_183 : decode cX3_copy 183 = .ok (.aload_n 1, 1) := by decide +kernel
theorem dX3_copy_184 : decode cX3_copy 184 = .ok (.getfield 39, 3) := by decide +kernel
theorem dX3_copy_187 : decode cX3_copy 187 = .ok (.iconst 0, 1) := by decide +kernel
theorem dX3_copy_188 : decode cX3_copy 188 = .ok (.aload_n 0, 1) := by decide +kernel
theorem dX3_copy_189 : decode cX3_copy 189 = .ok (.getfield 39, 3) := by decide +kernel
theorem dX3_copy_192 : decode cX3_copy 192 = .ok (.iconst 0, 1) := by decide +kernel
theorem dX3_copy_193 : decode cX3_copy 193 = .ok (.bipush 6, 2) := by decide +kernel
theorem dX3_copy_195 : decode cX3_copy 195 = .ok (.invokestatic 74, 3) := by decide +kernel
theorem dX3_copy_198 : decode cX3_copy 198 = .ok (.aload_n 1, 1) := by decide +kernel
theorem dX3_copy_199 : decode cX3_copy 199 = .ok (.getfield 42, 3) := by decide +kernel
theorem dX3_copy_202 : decode cX3_copy 202 = .ok (.iconst 0, 1) := by decide +kernel
theorem dX3_copy_203 : decode cX3_copy 203 = .ok (.aload_n 0, 1) := by decide +kernel
theorem dX3_copy_204 : decode cX3_copy 204 = .ok (.getfield 42, 3) := by decide +kernel
theorem dX3_copy_207 : decode cX3_copy 207 = .ok (.iconst 0, 1) := by decide +kernel
theorem dX3_copy_208 : decode cX3_copy 208 = .ok (.bipush 6, 2) := by decide +kernel
theorem dX3_copy_210 : decode cX3_copy 210 = .ok (.invokestatic 74, 3) := by decide +kernel
theorem dX3_copy_213 : decode cX3_copy 213 = .ok (.return_, 1) := by decide +kernel
theorem dX3_hasTerrace_0 : decode cX3_hasTerrace 0 = .ok (.iload_n 1, 1) := by decide +kernel
theorem dX3_hasTerrace_1 : decode cX3_hasTerrace 1 = .ok (.iconst 0, 1) := by decide +kernel
theorem dX3_hasTerrace_2 : decode cX3_hasTerrace 2 = .ok (.aload_n 0, 1) := by decide +kernel
theorem dX3_hasTerrace_3 : decode cX3_hasTerrace 3 = .ok (.getfield 53, 3) := by decide +kernel
theorem dX3_hasTerrace_6 : decode cX3_hasTerrace 6 = .ok (.iconst 1, 1) := by decide +kernel
theorem dX3_hasTerrace_7 : decode cX3_hasTerrace 7 = .ok (.isub, 1) := by decide +kernel
theorem dX3_hasTerrace_8 : decode cX3_hasTerrace 8 = .ok (.invokestatic 80, 3) := by decide +kernel
theorem dX3_hasTerrace_11 : decode cX3_hasTerrace 11 = .ok (.ireturn, 1) := by decide +kernel
theorem dX3_hasBridge_0 : decode cX3_hasBridge 0 = .ok (.iload_n 1, 1) := by decide +kernel
theorem dX3_hasBridge_1 : decode cX3_hasBridge 1 = .ok (.iconst 0, 1) := by decide +kernel
theorem dX3_hasBridge_2 : decode cX3_hasBridge 2 = .ok (.bipush 7, 2) := by decide +kernel
theorem dX3_hasBridge_4 : decode cX3_hasBridge 4 = .ok (.invokestatic 80, 3) := by decide +kernel
theorem dX3_hasBridge_7 : decode cX3_hasBridge 7 = .ok (.ifCond .eq 18, 3) := by decide +kernel
theorem dX3_hasBridge_10 : decode cX3_hasBridge 10 = .ok (.aload_n 0, 1) := by decide +kernel
theorem dX3_hasBridge_11 : decode cX3_hasBridge 11 = .ok (.getfield 56, 3) := by decide +kernel
theorem dX3_hasBridge_14 : decode cX3_hasBridge 14 = .ok (.iload_n 1, 1) := by decide +kernel
theorem dX3_hasBridge_15 : decode cX3_hasBridge 15 = .ok (.invokestatic 84, 3) := by decide +kernel
theorem dX3_hasBridge_18 : decode cX3_hasBridge 18 = .ok (.ifCond .eq 7, 3) := by decide +kernel
theorem dX3_hasBridge_21 : decode cX3_hasBridge 21 = .ok (.iconst 1, 1) := by decide +kernel
theorem dX3_hasBridge_22 : decode cX3_hasBridge 22 = .ok (.goto 4, 3) := by decide +kernel
theorem dX3_hasBridge_25 : decode cX3_hasBridge 25 = .ok (.iconst 0, 1) := by decide +kernel
theorem dX3_hasBridge_26 : decode cX3_hasBridge 26 = .ok (.ireturn, 1) := by decide +kernel
theorem dX3_hasPerson_0 : decode cX3_hasPerson 0 = .ok (.iload_n 1, 1) := by decide +kernel
theorem dX3_hasPerson_1 : decode cX3_hasPerson 1 = .ok (.iconst 0, 1) := by decide +kernel
theorem dX3_hasPerson_2 : decode cX3_hasPerson 2 = .ok (.iconst 5, 1) := by decide +kernel
theorem dX3_hasPerson_3 : decode cX3_hasPerson 3 = .ok (.invokestatic 80, 3) := by decide +kernel
theorem dX3_hasPerson_6 : decode cX3_hasPerson 6 = .ok (.ifCond .eq 18, 3) := by decide +kernel
theorem dX3_hasPerson_9 : decode cX3_hasPerson 9 = .ok (.aload_n 0, 1) := by decide +kernel
theorem dX3_hasPerson_10 : decode cX3_hasPerson 10 = .ok (.getfield 59, 3) := by decide +kernel
theorem dX3_hasPerson_13 : decode cX3_hasPerson 13 = .ok (.iload_n 1, 1) := by decide +kernel
theorem dX3_hasPerson_14 : decode cX3_hasPerson 14 = .ok (.invokestatic 84, 3) := by decide +kernel
theorem dX3_hasPerson_17 : decode cX3_hasPerson 17 = .ok (.ifCond .eq 7, 3) := by decide +kernel
theorem dX3_hasPerson_20 : decode cX3_hasPerson 20 = .ok (.iconst 1, 1) := by decide +kernel
theorem dX3_hasPerson_21 : decode cX3_hasPerson 21 = .ok (.goto 4, 3) := by decide +kernel
theorem dX3_hasPerson_24 : decode cX3_hasPerson 24 = .ok (.iconst 0, 1) := by decide +kernel
theorem dX3_hasPerson_25 : decode cX3_hasPerson 25 = .ok (.ireturn, 1) := by decide +kernel
theorem dX3_knowersOf_0 : decode cX3_knowersOf 0 = .ok (.iconst 0, 1) := by decide +kernel
theorem dX3_knowersOf_1 : decode cX3_knowersOf 1 = .ok (.istore_n 2, 1) := by decide +kernel
theorem dX3_knowersOf_2 : decode cX3_knowersOf 2 = .ok (.iconst 0, 1) := by decide +kernel
theorem dX3_knowersOf_3 : decode cX3_knowersOf 3 = .ok (.istore_n 3, 1) := by decide +kernel
theorem dX3_knowersOf_4 : decode cX3_knowersOf 4 = .ok (.iload_n 3, 1) := by decide +kernel
theorem dX3_knowersOf_5 : decode cX3_knowersOf 5 = .ok (.bipush 6, 2) := by decide +kernel
theorem dX3_knowersOf_7 : decode cX3_knowersOf 7 = .ok (.if_icmp .ge 28, 3) := by decide +kernel
theorem dX3_knowersOf_10 : decode cX3_knowersOf 10 = .ok (.aload_n 0, 1) := by decide +kernel
theorem dX3_knowersOf_11 : decode cX3_knowersOf 11 = .ok (.getfield 30, 3) := by decide +kernel
theorem dX3_knowersOf_14 : decode cX3_knowersOf 14 = .ok (.iload_n 3, 1) := by decide +kernel
theorem dX3_knowersOf_15 : decode cX3_knowersOf 15 = .ok (.iaload, 1) := by decide +kernel
theorem dX3_knowersOf_16 : decode cX3_knowersOf 16 = .ok (.iload_n 1, 1) := by decide +kernel
theorem dX3_knowersOf_17 : decode cX3_knowersOf 17 = .ok (.invokestatic 84, 3) := by decide +kernel
theorem dX3_knowersOf_20 : decode cX3_knowersOf 20 = .ok (.ifCond .eq 9, 3) := by decide +kernel
theorem dX3_knowersOf_23 : decode cX3_knowersOf 23 = .ok (.iload_n 2, 1) := by decide +kernel
theorem dX3_knowersOf_24 : decode cX3_knowersOf 24 = .ok (.iconst 1, 1) := by decide +kernel
theorem dX3_knowersOf_25 : decode cX3_knowersOf 25 = .ok (.iload_n 3, 1) := by decide +kernel
theorem dX3_knowersOf_26 : decode cX3_knowersOf 26 = .ok (.ishl, 1) := by decide +kernel
theorem dX3_knowersOf_27 : decode cX3_knowersOf 27 = .ok (.ior, 1) := by decide +kernel
theorem dX3_knowersOf_28 : decode cX3_knowersOf 28 = .ok (.istore_n 2, 1) := by decide +kernel
theorem dX3_knowersOf_29 : decode cX3_knowersOf 29 = .ok (.iinc 3 1, 3) := by decide +kernel
theorem dX3_knowersOf_32 : decode cX3_knowersOf 32 = .ok (.goto (-28), 3) := by decide +kernel
theorem dX3_knowersOf_35 : decode cX3_knowersOf 35 = .ok (.iload_n 2, 1) := by decide +kernel
theorem dX3_knowersOf_36 : decode cX3_knowersOf 36 = .ok (.ireturn, 1) := by decide +kernel
theorem dX3_weightFor_0 : decode cX3_weightFor 0 = .ok (.iconst 1, 1) := by decide +kernel
theorem dX3_weightFor_1 : decode cX3_weightFor 1 = .ok (.iload_n 2, 1) := by decide +kernel
theorem dX3_weightFor_2 : decode cX3_weightFor 2 = .ok (.ishl, 1) := by decide +kernel
theorem dX3_weightFor_3 : decode cX3_weightFor 3 = .ok (.istore_n 3, 1) := by decide +kernel
theorem dX3_weightFor_4 : decode cX3_weightFor 4 = .ok (.aload_n 0, 1) := by decide +kernel
theorem dX3_weightFor_5 : decode cX3_weightFor 5 = .ok (.getfield 65, 3) := by decide +kernel
theorem dX3_weightFor_8 : decode cX3_weightFor 8 = .ok (.iload_n 3, 1) := by decide +kernel
theorem dX3_weightFor_9 : decode cX3_weightFor 9 = .ok (.iand, 1) := by decide +kernel
theorem dX3_weightFor_10 : decode cX3_weightFor 10 = .ok (.ifCond .eq 5, 3) := by decide +kernel
theorem dX3_weightFor_13 : decode cX3_weightFor 13 = .ok (.iconst 0, 1) := by decide +kernel
theorem dX3_weightFor_14 : decode cX3_weightFor 14 = .ok (.ireturn, 1) := by decide +kernel
theorem dX3_weightFor_15 : decode cX3_weightFor 15 = .ok (.iconst 1, 1) := by decide +kernel
theorem dX3_weightFor_16 : decode cX3_weightFor 16 = .ok (.istore 4, 2) := by decide +kernel
theorem dX3_weightFor_18 : decode cX3_weightFor 18 = .ok (.iconst 0, 1) := by decide +kernel
theorem dX3_weightFor_19 : decode cX3_weightFor 19 = .ok (.istore 5, 2) := by decide +kernel
theorem dX3_weightFor_21 : decode cX3_weightFor 21 = .ok (.iload 5, 2) := by decide +kernel
theorem dX3_weightFor_23 : decode cX3_weightFor 23 = .ok (.bipush 6, 2) := by decide +kernel
theorem dX3_weightFor_25 : decode cX3_weightFor 25 = .ok (.if_icmp .ge 30, 3) := by decide +kernel
theorem dX3_weightFor_28 : decode cX3_weightFor 28 = .ok (.iload 5, 2) := by decide +kernel
theorem dX3_weightFor_30 : decode cX3_weightFor 30 = .ok (.iload_n 1, 1) := by decide +kernel
theorem dX3_weightFor_31 : decode cX3_weightFor 31 = .ok (.if_icmp .eq 18, 3) := by decide +kernel
theorem dX3_weightFor_34 : decode cX3_weightFor 34 = .ok (.aload_n 0, 1) := by decide +kernel
theorem dX3_weightFor_35 : decode cX3_weightFor 35 = .ok (.getfield 30, 3) := by decide +kernel
theorem dX3_weightFor_38 : decode cX3_weightFor 38 = .ok (.iload 5, 2) := by decide +kernel
theorem dX3_weightFor_40 : decode cX3_weightFor 40 = .ok (.iaload, 1) := by decide +kernel
theorem dX3_weightFor_41 : decode cX3_weightFor 41 = .ok (.iload_n 3, 1) := by decide +kernel
theorem dX3_weightFor_42 : decode cX3_weightFor 42 = .ok (.iand, 1) := by decide +kernel
theorem dX3_weightFor_43 : decode cX3_weightFor 43 = .ok (.ifCond .eq 6, 3) := by decide +kernel
theorem dX3_weightFor_46 : decode cX3_weightFor 46 = .ok (.iinc 4 1, 3) := by decide +kernel
theorem dX3_weightFor_49 : decode cX3_weightFor 49 = .ok (.iinc 5 1, 3) := by decide +kernel
theorem dX3_weightFor_52 : decode cX3_weightFor 52 = .ok (.goto (-31), 3) := by decide +kernel
theorem dX3_weightFor_55 : decode cX3_weightFor 55 = .ok (.aload_n 0, 1) := by decide +kernel
theorem dX3_weightFor_56 : decode cX3_weightFor 56 = .ok (.getfield 36, 3) := by decide +kernel
theorem dX3_weightFor_59 : decode cX3_weightFor 59 = .ok (.iload_n 2, 1) := by decide +kernel
theorem dX3_weightFor_60 : decode cX3_weightFor 60 = .ok (.iaload, 1) := by decide +kernel
theorem dX3_weightFor_61 : decode cX3_weightFor 61 = .ok (.aload_n 0, 1) := by decide +kernel
theorem dX3_weightFor_62 : decode cX3_weightFor 62 = .ok (.getfield 27, 3) := by decide +kernel
theorem dX3_weightFor_65 : decode cX3_weightFor 65 = .ok (.iload_n 1, 1) := by decide +kernel
theorem dX3_weightFor_66 : decode cX3_weightFor 66 = .ok (.iaload, 1) := by decide +kernel
theorem dX3_weightFor_67 : decode cX3_weightFor 67 = .ok (.if_icmp .ne 14, 3) := by decide +kernel
theorem dX3_weightFor_70 : decode cX3_weightFor 70 = .ok (.iconst 2, 1) := by decide +kernel
theorem dX3_weightFor_71 : decode cX3_weightFor 71 = .ok (.aload_n 0, 1) := by decide +kernel
theorem dX3_weightFor_72 : decode cX3_weightFor 72 = .ok (.getfield 33, 3) := by decide +kernel
theorem dX3_weightFor_75 : decode cX3_weightFor 75 = .ok (.iload_n 2, 1) := by decide +kernel
theorem dX3_weightFor_76 : decode cX3_weightFor 76 = .ok (.iaload, 1) := by decide +kernel
theorem dX3_weightFor_77 : decode cX3_weightFor 77 = .ok (.imul, 1) := by decide +kernel
theorem dX3_weightFor_78 : decode cX3_weightFor 78 = .ok (.goto 9, 3) := by decide +kernel
theorem dX3_weightFor_81 : decode cX3_weightFor 81 = .ok (.aload_n 0, 1) := by decide +kernel
theorem dX3_weightFor_82 : decode cX3_weightFor 82 = .ok (.getfield 33, 3) := by decide +kernel
theorem dX3_weightFor_85 : decode cX3_weightFor 85 = .ok (.iload_n 2, 1) := by decide +kernel
theorem dX3_weightFor_86 : decode cX3_weightFor 86 = .ok (.iaload, 1) := by decide +kernel
theorem dX3_weightFor_87 : decode cX3_weightFor 87 = .ok (.iload 4, 2) := by decide +kernel
theorem dX3_weightFor_89 : decode cX3_weightFor 89 = .ok (.idiv, 1) := by decide +kernel
theorem dX3_weightFor_90 : decode cX3_weightFor 90 = .ok (.ireturn, 1) := by decide +kernel
theorem dX3_sum_0 : decode cX3_sum 0 = .ok (.iconst 0, 1) := by decide +kernel
theorem dX3_sum_1 : decode cX3_sum 1 = .ok (.istore_n 3, 1) := by decide +kernel
theorem dX3_sum_2 : decode cX3_sum 2 = .ok (.iconst 0, 1) := by decide +kernel
theorem dX3_sum_3 : decode cX3_sum 3 = .ok (.istore 4, 2) := by decide +kernel
theorem dX3_sum_5 : decode cX3_sum 5 = .ok (.iload 4, 2) := by decide +kernel
theorem dX3_sum_7 : decode cX3_sum 7 = .ok (.bipush 8, 2) := by decide +kernel
theorem dX3_sum_9 : decode cX3_sum 9 = .ok (.if_icmp .ge 28, 3) := by decide +kernel
theorem dX3_sum_12 : decode cX3_sum 12 = .ok (.iload_n 2, 1) := by decide +kernel
theorem dX3_sum_13 : decode cX3_sum 13 = .ok (.iload 4, 2) := by decide +kernel
theorem dX3_sum_15 : decode cX3_sum 15 = .ok (.invokestatic 84, 3) := by decide +kernel
theorem dX3_sum_18 : decode cX3_sum 18 = .ok (.ifCond .eq 13, 3) := by decide +kernel
theorem dX3_sum_21 : decode cX3_sum 21 = .ok (.iload_n 3, 1) := by decide +kernel
theorem dX3_sum_22 : decode cX3_sum 22 = .ok (.aload_n 0, 1) := by decide +kernel
theorem dX3_sum_23 : decode cX3_sum 23 = .ok (.iload_n 1, 1) := by decide +kernel
theorem dX3_sum_24 : decode cX3_sum 24 = .ok (.iload 4, 2) := by decide +kernel
theorem dX3_sum_26 : decode cX3_sum 26 = .ok (.invokevirtual 88, 3) := by decide +kernel
theorem dX3_sum_29 : decode cX3_sum 29 = .ok (.iadd, 1) := by decide +kernel
theorem dX3_sum_30 : decode cX3_sum 30 = .ok (.istore_n 3, 1) := by decide +kernel
theorem dX3_sum_31 : decode cX3_sum 31 = .ok (.iinc 4 1, 3) := by decide +kernel
theorem dX3_sum_34 : decode cX3_sum 34 = .ok (.goto (-29), 3) := by decide +kernel
theorem dX3_sum_37 : decode cX3_sum 37 = .ok (.iload_n 3, 1) := by decide +kernel
theorem dX3_sum_38 : decode cX3_sum 38 = .ok (.ireturn, 1) := by decide +kernel
theorem dX3_burden_0 : decode cX3_burden 0 = .ok (.iconst 0, 1) := by decide +kernel
theorem dX3_burden_1 : decode cX3_burden 1 = .ok (.aload_n 0, 1) := by decide +kernel
theorem dX3_burden_2 : decode cX3_burden 2 = .ok (.iload_n 1, 1) := by decide +kernel
theorem dX3_burden_3 : decode cX3_burden 3 = .ok (.aload_n 0, 1) := by decide +kernel
theorem dX3_burden_4 : decode cX3_burden 4 = .ok (.getfield 30, 3) := by decide +kernel
theorem dX3_burden_7 : decode cX3_burden 7 = .ok (.iload_n 1, 1) := by decide +kernel
theorem dX3_burden_8 : decode cX3_burden 8 = .ok (.iaload, 1) := by decide +kernel
theorem dX3_burden_9 : decode cX3_burden 9 = .ok (.invokevirtual 92, 3) := by decide +kernel
theorem dX3_burden_12 : decode cX3_burden 12 = .ok (.invokestatic 95, 3) := by decide +kernel
theorem dX3_burden_15 : decode cX3_burden 15 = .ok (.ireturn, 1) := by decide +kernel
theorem dX3_mostBurden_0 : decode cX3_mostBurden 0 = .ok (.iconst 0, 1) := by decide +kernel
theorem dX3_mostBurden_1 : decode cX3_mostBurden 1 = .ok (.istore_n 1, 1) := by decide +kernel
theorem dX3_mostBurden_2 : decode cX3_mostBurden 2 = .ok (.iconst 0, 1) := by decide +kernel
theorem dX3_mostBurden_3 : decode cX3_mostBurden 3 = .ok (.istore_n 2, 1) := by decide +kernel
theorem dX3_mostBurden_4 : decode cX3_mostBurden 4 = .ok (.iload_n 2, 1) := by decide +kernel
theorem dX3_mostBurden_5 : decode cX3_mostBurden 5 = .ok (.bipush 6, 2) := by decide +kernel
theorem dX3_mostBurden_7 : decode cX3_mostBurden 7 = .ok (.if_icmp .ge 30, 3) := by decide +kernel
theorem dX3_mostBurden_10 : decode cX3_mostBurden 10 = .ok (.aload_n 0, 1) := by decide +kernel
theorem dX3_mostBurden_11 : decode cX3_mostBurden 11 = .ok (.getfield 59, 3) := by decide +kernel
theorem dX3_mostBurden_14 : decode cX3_mostBurden 14 = .ok (.iload_n 2, 1) := by decide +kernel
theorem dX3_mostBurden_15 : decode cX3_mostBurden 15 = .ok (.invokestatic 84, 3) := by decide +kernel
theorem dX3_mostBurden_18 : decode cX3_mostBurden 18 = .ok (.ifCond .eq 13, 3) := by decide +kernel
theorem dX3_mostBurden_21 : decode cX3_mostBurden 21 = .ok (.iload_n 1, 1) := by decide +kernel
theorem dX3_mostBurden_22 : decode cX3_mostBurden 22 = .ok (.aload_n 0, 1) := by decide +kernel
theorem dX3_mostBurden_23 : decode cX3_mostBurden 23 = .ok (.iload_n 2, 1) := by decide +kernel
theorem dX3_mostBurden_24 : decode cX3_mostBurden 24 = .ok (.invokevirtual 100, 3) := by decide +kernel
theorem dX3_mostBurden_27 : decode cX3_mostBurden 27 = .ok (.invokestatic 95, 3) := by decide +kernel
theorem dX3_mostBurden_30 : decode cX3_mostBurden 30 = .ok (.istore_n 1, 1) := by decide +kernel
theorem dX3_mostBurden_31 : decode cX3_mostBurden 31 = .ok (.iinc 2 1, 3) := by decide +kernel
theorem dX3_mostBurden_34 : decode cX3_mostBurden 34 = .ok (.goto (-30), 3) := by decide +kernel
theorem dX3_mostBurden_37 : decode cX3_mostBurden 37 = .ok (.iload_n 1, 1) := by decide +kernel
theorem dX3_mostBurden_38 : decode cX3_mostBurden 38 = .ok (.ireturn, 1) := by decide +kernel
theorem dX3_mostKnowers_0 : decode cX3_mostKnowers 0 = .ok (.iconst 0, 1) := by decide +kernel
theorem dX3_mostKnowers_1 : decode cX3_mostKnowers 1 = .ok (.istore_n 1, 1) := by decide +kernel
theorem dX3_mostKnowers_2 : decode cX3_mostKnowers 2 = .ok (.iconst 0, 1) := by decide +kernel
theorem dX3_mostKnowers_3 : decode cX3_mostKnowers 3 = .ok (.istore_n 2, 1) := by decide +kernel
theorem dX3_mostKnowers_4 : decode cX3_mostKnowers 4 = .ok (.iload_n 2, 1) := by decide +kernel
theorem dX3_mostKnowers_5 : decode cX3_mostKnowers 5 = .ok (.bipush 8, 2) := by decide +kernel
theorem dX3_mostKnowers_7 : decode cX3_mostKnowers 7 = .ok (.if_icmp .ge 22, 3) := by decide +kernel
theorem dX3_mostKnowers_10 : decode cX3_mostKnowers 10 = .ok (.iload_n 1, 1) := by decide +kernel
theorem dX3_mostKnowers_11 : decode cX3_mostKnowers 11 = .ok (.aload_n 0, 1) := by decide +kernel
theorem dX3_mostKnowers_12 : decode cX3_mostKnowers 12 = .ok (.iload_n 2, 1) := by decide +kernel
theorem dX3_mostKnowers_13 : decode cX3_mostKnowers 13 = .ok (.invokevirtual 104, 3) := by decide +kernel
theorem dX3_mostKnowers_16 : decode cX3_mostKnowers 16 = .ok (.invokestatic 107, 3) := by decide +kernel
theorem dX3_mostKnowers_19 : decode cX3_mostKnowers 19 = .ok (.invokestatic 95, 3) := by decide +kernel
theorem dX3_mostKnowers_22 : decode cX3_mostKnowers 22 = .ok (.istore_n 1, 1) := by decide +kernel
theorem dX3_mostKnowers_23 : decode cX3_mostKnowers 23 = .ok (.iinc 2 1, 3) := by decide +kernel
theorem dX3_mostKnowers_26 : decode cX3_mostKnowers 26 = .ok (.goto (-22), 3) := by decide +kernel
theorem dX3_mostKnowers_29 : decode cX3_mostKnowers 29 = .ok (.iload_n 1, 1) := by decide +kernel
theorem dX3_mostKnowers_30 : decode cX3_mostKnowers 30 = .ok (.ireturn, 1) := by decide +kernel
theorem dX3_lies_0 : decode cX3_lies 0 = .ok (.iconst 0, 1) := by decide +kernel
theorem dX3_lies_1 : decode cX3_lies 1 = .ok (.istore_n 1, 1) := by decide +kernel
theorem dX3_lies_2 : decode cX3_lies 2 = .ok (.iconst 0, 1) := by decide +kernel
theorem dX3_lies_3 : decode cX3_lies 3 = .ok (.istore_n 2, 1) := by decide +kernel
theorem dX3_lies_4 : decode cX3_lies 4 = .ok (.iload_n 2, 1) := by decide +kernel
theorem dX3_lies_5 : decode cX3_lies 5 = .ok (.bipush 8, 2) := by decide +kernel
theorem dX3_lies_7 : decode cX3_lies 7 = .ok (.if_icmp .ge 24, 3) := by decide +kernel
theorem dX3_lies_10 : decode cX3_lies 10 = .ok (.aload_n 0, 1) := by decide +kernel
theorem dX3_lies_11 : decode cX3_lies 11 = .ok (.getfield 33, 3) := by decide +kernel
theorem dX3_lies_14 : decode cX3_lies 14 = .ok (.iload_n 2, 1) := by decide +kernel
theorem dX3_lies_15 : decode cX3_lies 15 = .ok (.iaload, 1) := by decide +kernel
theorem dX3_lies_16 : decode cX3_lies 16 = .ok (.ifCond .ge 9, 3) := by decide +kernel
theorem dX3_lies_19 : decode cX3_lies 19 = .ok (.iload_n 1, 1) := by decide +kernel
theorem dX3_lies_20 : decode cX3_lies 20 = .ok (.iconst 1, 1) := by decide +kernel
theorem dX3_lies_21 : decode cX3_lies 21 = .ok (.iload_n 2, 1) := by decide +kernel
theorem dX3_lies_22 : decode cX3_lies 22 = .ok (.ishl, 1) := by decide +kernel
theorem dX3_lies_23 : decode cX3_lies 23 = .ok (.ior, 1) := by decide +kernel
theorem dX3_lies_24 : decode cX3_lies 24 = .ok (.istore_n 1, 1) := by decide +kernel
theorem dX3_lies_25 : decode cX3_lies 25 = .ok (.iinc 2 1, 3) := by decide +kernel
theorem dX3_lies_28 : decode cX3_lies 28 = .ok (.goto (-24), 3) := by decide +kernel
theorem dX3_lies_31 : decode cX3_lies 31 = .ok (.iload_n 1, 1) := by decide +kernel
theorem dX3_lies_32 : decode cX3_lies 32 = .ok (.ireturn, 1) := by decide +kernel
theorem dX3_carriersOf_0 : decode cX3_carriersOf 0 = .ok (.iconst 0, 1) := by decide +kernel
theorem dX3_carriersOf_1 : decode cX3_carriersOf 1 = .ok (.istore_n 2, 1) := by decide +kernel
theorem dX3_carriersOf_2 : decode cX3_carriersOf 2 = .ok (.iconst 0, 1) := by decide +kernel
theorem dX3_carriersOf_3 : decode cX3_carriersOf 3 = .ok (.istore_n 3, 1) := by decide +kernel
theorem dX3_carriersOf_4 : decode cX3_carriersOf 4 = .ok (.iload_n 3, 1) := by decide +kernel
theorem dX3_carriersOf_5 : decode cX3_carriersOf 5 = .ok (.bipush 6, 2) := by decide +kernel
theorem dX3_carriersOf_7 : decode cX3_carriersOf 7 = .ok (.if_icmp .ge 35, 3) := by decide +kernel
theorem dX3_carriersOf_10 : decode cX3_carriersOf 10 = .ok (.aload_n 0, 1) := by decide +kernel
theorem dX3_carriersOf_11 : decode cX3_carriersOf 11 = .ok (.getfield 59, 3) := by decide +kernel
theorem dX3_carriersOf_14 : decode cX3_carriersOf 14 = .ok (.iload_n 3, 1) := by decide +kernel
theorem dX3_carriersOf_15 : decode cX3_carriersOf 15 = .ok (.invokestatic 84, 3) := by decide +kernel
theorem dX3_carriersOf_18 : decode cX3_carriersOf 18 = .ok (.ifCond .eq 18, 3) := by decide +kernel
theorem dX3_carriersOf_21 : decode cX3_carriersOf 21 = .ok (.aload_n 0, 1) := by decide +kernel
theorem dX3_carriersOf_22 : decode cX3_carriersOf 22 = .ok (.iload_n 3, 1) := by decide +kernel
theorem dX3_carriersOf_23 : decode cX3_carriersOf 23 = .ok (.invokevirtual 100, 3) := by decide +kernel
theorem dX3_carriersOf_26 : decode cX3_carriersOf 26 = .ok (.iload_n 1, 1) := by decide +kernel
theorem dX3_carriersOf_27 : decode cX3_carriersOf 27 = .ok (.if_icmp .ne 9, 3) := by decide +kernel
theorem dX3_carriersOf_30 : decode cX3_carriersOf 30 = .ok (.iload_n 2, 1) := by decide +kernel
theorem dX3_carriersOf_31 : decode cX3_carriersOf 31 = .ok (.iconst 1, 1) := by decide +kernel
theorem dX3_carriersOf_32 : decode cX3_carriersOf 32 = .ok (.iload_n 3, 1) := by decide +kernel
theorem dX3_carriersOf_33 : decode cX3_carriersOf 33 = .ok (.ishl, 1) := by decide +kernel
theorem dX3_carriersOf_34 : decode cX3_carriersOf 34 = .ok (.ior, 1) := by decide +kernel
theorem dX3_carriersOf_35 : decode cX3_carriersOf 35 = .ok (.istore_n 2, 1) := by decide +kernel
theorem dX3_carriersOf_36 : decode cX3_carriersOf 36 = .ok (.iinc 3 1, 3) := by decide +kernel
theorem dX3_carriersOf_39 : decode cX3_carriersOf 39 = .ok (.goto (-35), 3) := by decide +kernel
theorem dX3_carriersOf_42 : decode cX3_carriersOf 42 = .ok (.iload_n 2, 1) := by decide +kernel
theorem dX3_carriersOf_43 : decode cX3_carriersOf 43 = .ok (.ireturn, 1) := by decide +kernel
theorem dX3_likeSightsBefore_0 : decode cX3_likeSightsBefore 0 = .ok (.iconst 0, 1) := by decide +kernel
theorem dX3_likeSightsBefore_1 : decode cX3_likeSightsBefore 1 = .ok (.istore_n 2, 1) := by decide +kernel
theorem dX3_likeSightsBefore_2 : decode cX3_likeSightsBefore 2 = .ok (.iconst 0, 1) := by decide +kernel
theorem dX3_likeSightsBefore_3 : decode cX3_likeSightsBefore 3 = .ok (.istore_n 3, 1) := by decide +kernel
theorem dX3_likeSightsBefore_4 : decode cX3_likeSightsBefore 4 = .ok (.iload_n 3, 1) := by decide +kernel
theorem dX3_likeSightsBefore_5 : decode cX3_likeSightsBefore 5 = .ok (.iload_n 1, 1) := by decide +kernel
theorem dX3_likeSightsBefore_6 : decode cX3_likeSightsBefore 6 = .ok (.if_icmp .ge 42, 3) := by decide +kernel
theorem dX3_likeSightsBefore_9 : decode cX3_likeSightsBefore 9 = .ok (.aload_n 0, 1) := by decide +kernel
theorem dX3_likeSightsBefore_10 : decode cX3_likeSightsBefore 10 = .ok (.getfield 39, 3) := by decide +kernel
theorem dX3_likeSightsBefore_13 : decode cX3_likeSightsBefore 13 = .ok (.iload_n 3, 1) := by decide +kernel
theorem dX3_likeSightsBefore_14 : decode cX3_likeSightsBefore 14 = .ok (.iaload, 1) := by decide +kernel
theorem dX3_likeSightsBefore_15 : decode cX3_likeSightsBefore 15 = .ok (.aload_n 0, 1) := by decide +kernel
theorem dX3_likeSightsBefore_16 : decode cX3_likeSightsBefore 16 = .ok (.getfield 39, 3) := by decide +kernel
theorem dX3_likeSightsBefore_19 : decode cX3_likeSightsBefore 19 = .ok (.iload_n 1, 1) := by decide +kernel
theorem dX3_likeSightsBefore_20 : decode cX3_likeSightsBefore 20 = .ok (.iaload, 1) := by decide +kernel
theorem dX3_likeSightsBefore_21 : decode cX3_likeSightsBefore 21 = .ok (.if_icmp .ne 21, 3) := by decide +kernel
theorem dX3_likeSightsBefore_24 : decode cX3_likeSightsBefore 24 = .ok (.aload_n 0, 1) := by decide +kernel
theorem dX3_likeSightsBefore_25 : decode cX3_likeSightsBefore 25 = .ok (.getfield 42, 3) := by decide +kernel
theorem dX3_likeSightsBefore_28 : decode cX3_likeSightsBefore 28 = .ok (.iload_n 3, 1) := by decide +kernel
theorem dX3_likeSightsBefore_29 : decode cX3_likeSightsBefore 29 = .ok (.iaload, 1) := by decide +kernel
theorem dX3_likeSightsBefore_30 : decode cX3_likeSightsBefore 30 = .ok (.aload_n 0, 1) := by decide +kernel
theorem dX3_likeSightsBefore_31 : decode cX3_likeSightsBefore 31 = .ok (.getfield 42, 3) := by decide +kernel
theorem dX3_likeSightsBefore_34 : decode cX3_likeSightsBefore 34 = .ok (.iload_n 1, 1) := by decide +kernel
theorem dX3_likeSightsBefore_35 : decode cX3_likeSightsBefore 35 = .ok (.iaload, 1) := by decide +kernel
theorem dX3_likeSightsBefore_36 : decode cX3_likeSightsBefore 36 = .ok (.if_icmp .ne 6, 3) := by decide +kernel
theorem dX3_likeSightsBefore_39 : decode cX3_likeSightsBefore 39 = .ok (.iinc 2 1, 3) := by decide +kernel
theorem dX3_likeSightsBefore_42 : decode cX3_likeSightsBefore 42 = .ok (.iinc 3 1, 3) := by decide +kernel
theorem dX3_likeSightsBefore_45 : decode cX3_likeSightsBefore 45 = .ok (.goto (-41), 3) := by decide +kernel
theorem dX3_likeSightsBefore_48 : decode cX3_likeSightsBefore 48 = .ok (.iload_n 2, 1) := by decide +kernel
theorem dX3_likeSightsBefore_49 : decode cX3_likeSightsBefore 49 = .ok (.ireturn, 1) := by decide +kernel
theorem dX3_bearing_0 : decode cX3_bearing 0 = .ok (.iconst 0, 1) := by decide +kernel
theorem dX3_bearing_1 : decode cX3_bearing 1 = .ok (.istore_n 2, 1) := by decide +kernel
theorem dX3_bearing_2 : decode cX3_bearing 2 = .ok (.iconst 0, 1) := by decide +kernel
theorem dX3_bearing_3 : decode cX3_bearing 3 = .ok (.istore_n 3, 1) := by decide +kernel
theorem dX3_bearing_4 : decode cX3_bearing 4 = .ok (.iload_n 3, 1) := by decide +kernel
theorem dX3_bearing_5 : decode cX3_bearing 5 = .ok (.bipush 8, 2) := by decide +kernel
theorem dX3_bearing_7 : decode cX3_bearing 7 = .ok (.if_icmp .ge 36, 3) := by decide +kernel
theorem dX3_bearing_10 : decode cX3_bearing 10 = .ok (.aload_n 0, 1) := by decide +kernel
theorem dX3_bearing_11 : decode cX3_bearing 11 = .ok (.getfield 56, 3) := by decide +kernel
theorem dX3_bearing_14 : decode cX3_bearing 14 = .ok (.iload_n 3, 1) := by decide +kernel
theorem dX3_bearing_15 : decode cX3_bearing 15 = .ok (.invokestatic 84, 3) := by decide +kernel
theorem dX3_bearing_18 : decode cX3_bearing 18 = .ok (.ifCond .eq 19, 3) := by decide +kernel
theorem dX3_bearing_21 : decode cX3_bearing 21 = .ok (.aload_n 0, 1) := by decide +kernel
theorem dX3_bearing_22 : decode cX3_bearing 22 = .ok (.getfield 18, 3) := by decide +kernel
theorem dX3_bearing_25 : decode cX3_bearing 25 = .ok (.iload_n 3, 1) := by decide +kernel
theorem dX3_bearing_26 : decode cX3_bearing 26 = .ok (.iaload, 1) := by decide +kernel
theorem dX3_bearing_27 : decode cX3_bearing 27 = .ok (.iload_n 1, 1) := by decide +kernel
theorem dX3_bearing_28 : decode cX3_bearing 28 = .ok (.if_icmp .lt 9, 3) := by decide +kernel
theorem dX3_bearing_31 : decode cX3_bearing 31 = .ok (.iload_n 2, 1) := by decide +kernel
theorem dX3_bearing_32 : decode cX3_bearing 32 = .ok (.iconst 1, 1) := by decide +kernel
theorem dX3_bearing_33 : decode cX3_bearing 33 = .ok (.iload_n 3, 1) := by decide +kernel
theorem dX3_bearing_34 : decode cX3_bearing 34 = .ok (.ishl, 1) := by decide +kernel
theorem dX3_bearing_35 : decode cX3_bearing 35 = .ok (.ior, 1) := by decide +kernel
theorem dX3_bearing_36 : decode cX3_bearing 36 = .ok (.istore_n 2, 1) := by decide +kernel
theorem dX3_bearing_37 : decode cX3_bearing 37 = .ok (.iinc 3 1, 3) := by decide +kernel
theorem dX3_bearing_40 : decode cX3_bearing 40 = .ok (.goto (-36), 3) := by decide +kernel
theorem dX3_bearing_43 : decode cX3_bearing 43 = .ok (.iload_n 2, 1) := by decide +kernel
theorem dX3_bearing_44 : decode cX3_bearing 44 = .ok (.ireturn, 1) := by decide +kernel
theorem dX3_spread_0 : decode cX3_spread 0 = .ok (.iload_n 1, 1) := by decide +kernel
theorem dX3_spread_1 : decode cX3_spread 1 = .ok (.istore_n 3, 1) := by decide +kernel
theorem dX3_spread_2 : decode cX3_spread 2 = .ok (.iconst 0, 1) := by decide +kernel
theorem dX3_spread_3 : decode cX3_spread 3 = .ok (.istore 4, 2) := by decide +kernel
theorem dX3_spread_5 : decode cX3_spread 5 = .ok (.iload 4, 2) := by decide +kernel
theorem dX3_spread_7 : decode cX3_spread 7 = .ok (.bipush 8, 2) := by decide +kernel
theorem dX3_spread_9 : decode cX3_spread 9 = .ok (.if_icmp .ge 70, 3) := by decide +kernel
theorem dX3_spread_12 : decode cX3_spread 12 = .ok (.iload_n 2, 1) := by decide +kernel
theorem dX3_spread_13 : decode cX3_spread 13 = .ok (.iload 4, 2) := by decide +kernel
theorem dX3_spread_15 : decode cX3_spread 15 = .ok (.invokestatic 84, 3) := by decide +kernel
theorem dX3_spread_18 : decode cX3_spread 18 = .ok (.ifCond .eq 55, 3) := by decide +kernel
theorem dX3_spread_21 : decode cX3_spread 21 = .ok (.iload_n 1, 1) := by decide +kernel
theorem dX3_spread_22 : decode cX3_spread 22 = .ok (.aload_n 0, 1) := by decide +kernel
theorem dX3_spread_23 : decode cX3_spread 23 = .ok (.getfield 9, 3) := by decide +kernel
theorem dX3_spread_26 : decode cX3_spread 26 = .ok (.iload 4, 2) := by decide +kernel
theorem dX3_spread_28 : decode cX3_spread 28 = .ok (.iaload, 1) := by decide +kernel
theorem dX3_spread_29 : decode cX3_spread 29 = .ok (.invokestatic 84, 3) := by decide +kernel
theorem dX3_spread_32 : decode cX3_spread 32 = .ok (.ifCond .eq 15, 3) := by decide +kernel
theorem dX3_spread_35 : decode cX3_spread 35 = .ok (.iload_n 3, 1) := by decide +kernel
theorem dX3_spread_36 : decode cX3_spread 36 = .ok (.iconst 1, 1) := by decide +kernel
theorem dX3_spread_37 : decode cX3_spread 37 = .ok (.aload_n 0, 1) := by decide +kernel
theorem dX3_spread_38 : decode cX3_spread 38 = .ok (.getfield 15, 3) := by decide +kernel
theorem dX3_spread_41 : decode cX3_spread 41 = .ok (.iload 4, 2) := by decide +kernel
theorem dX3_spread_43 : decode cX3_spread 43 = .ok (.iaload, 1) := by decide +kernel
theorem dX3_spread_44 : decode cX3_spread 44 = .ok (.ishl, 1) := by decide +kernel
theorem dX3_spread_45 : decode cX3_spread 45 = .ok (.ior, 1) := by decide +kernel
theorem dX3_spread_46 : decode cX3_spread 46 = .ok (.istore_n 3, 1) := by decide +kernel
theorem dX3_spread_47 : decode cX3_spread 47 = .ok (.iload_n 1, 1) := by decide +kernel
theorem dX3_spread_48 : decode cX3_spread 48 = .ok (.aload_n 0, 1) := by decide +kernel
theorem dX3_spread_49 : decode cX3_spread 49 = .ok (.getfield 15, 3) := by decide +kernel
theorem dX3_spread_52 : decode cX3_spread 52 = .ok (.iload 4, 2) := by decide +kernel
theorem dX3_spread_54 : decode cX3_spread 54 = .ok (.iaload, 1) := by decide +kernel
theorem dX3_spread_55 : decode cX3_spread 55 = .ok (.invokestatic 84, 3) := by decide +kernel
theorem dX3_spread_58 : decode cX3_spread 58 = .ok (.ifCond .eq 15, 3) := by decide +kernel
theorem dX3_spread_61 : decode cX3_spread 61 = .ok (.iload_n 3, 1) := by decide +kernel
theorem dX3_spread_62 : decode cX3_spread 62 = .ok (.iconst 1, 1) := by decide +kernel
theorem dX3_spread_63 : decode cX3_spread 63 = .ok (.aload_n 0, 1) := by decide +kernel
theorem dX3_spread_64 : decode cX3_spread 64 = .ok (.getfield 9, 3) := by decide +kernel
theorem dX3_spread_67 : decode cX3_spread 67 = .ok (.iload 4, 2) := by decide +kernel
theorem dX3_spread_69 : decode cX3_spread 69 = .ok (.iaload, 1) := by decide +kernel
theorem dX3_spread_70 : decode cX3_spread 70 = .ok (.ishl, 1) := by decide +kernel
theorem dX3_spread_71 : decode cX3_spread 71 = .ok (.ior, 1) := by decide +kernel
theorem dX3_spread_72 : decode cX3_spread 72 = .ok (.istore_n 3, 1) := by decide +kernel
theorem dX3_spread_73 : decode cX3_spread 73 = .ok (.iinc 4 1, 3) := by decide +kernel
theorem dX3_spread_76 : decode cX3_spread 76 = .ok (.goto (-71), 3) := by decide +kernel
theorem dX3_spread_79 : decode cX3_spread 79 = .ok (.iload_n 3, 1) := by decide +kernel
theorem dX3_spread_80 : decode cX3_spread 80 = .ok (.ireturn, 1) := by decide +kernel
theorem dX3_distance_0 : decode cX3_distance 0 = .ok (.iconst 1, 1) := by decide +kernel
theorem dX3_distance_1 : decode cX3_distance 1 = .ok (.iload_n 1, 1) := by decide +kernel
theorem dX3_distance_2 : decode cX3_distance 2 = .ok (.ishl, 1) := by decide +kernel
theorem dX3_distance_3 : decode cX3_distance 3 = .ok (.istore 4, 2) := by decide +kernel
theorem dX3_distance_5 : decode cX3_distance 5 = .ok (.iconst 0, 1) := by decide +kernel
theorem dX3_distance_6 : decode cX3_distance 6 = .ok (.istore 5, 2) := by decide +kernel
theorem dX3_distance_8 : decode cX3_distance 8 = .ok (.iload 5, 2) := by decide +kernel
theorem dX3_distance_10 : decode cX3_distance 10 = .ok (.bipush 6, 2) := by decide +kernel
theorem dX3_distance_12 : decode cX3_distance 12 = .ok (.if_icmp .ge 44, 3) := by decide +kernel
theorem dX3_distance_15 : decode cX3_distance 15 = .ok (.iload 4, 2) := by decide +kernel
theorem dX3_distance_17 : decode cX3_distance 17 = .ok (.iload_n 2, 1) := by decide +kernel
theorem dX3_distance_18 : decode cX3_distance 18 = .ok (.invokestatic 84, 3) := by decide +kernel
theorem dX3_distance_21 : decode cX3_distance 21 = .ok (.ifCond .eq 6, 3) := by decide +kernel
theorem dX3_distance_24 : decode cX3_distance 24 = .ok (.iload 5, 2) := by decide +kernel
theorem dX3_distance_26 : decode cX3_distance 26 = .ok (.ireturn, 1) := by decide +kernel
theorem dX3_distance_27 : decode cX3_distance 27 = .ok (.aload_n 0, 1) := by decide +kernel
theorem dX3_distance_28 : decode cX3_distance 28 = .ok (.iload 4, 2) := by decide +kernel
theorem dX3_distance_30 : decode cX3_distance 30 = .ok (.iload_n 3, 1) := by decide +kernel
theorem dX3_distance_31 : decode cX3_distance 31 = .ok (.invokevirtual 112, 3) := by decide +kernel
theorem dX3_distance_34 : decode cX3_distance 34 = .ok (.istore 6, 2) := by decide +kernel
theorem dX3_distance_36 : decode cX3_distance 36 = .ok (.iload 6, 2) := by decide +kernel
theorem dX3_distance_38 : decode cX3_distance 38 = .ok (.iload 4, 2) := by decide +kernel
theorem dX3_distance_40 : decode cX3_distance 40 = .ok (.if_icmp .ne 6, 3) := by decide +kernel
theorem dX3_distance_43 : decode cX3_distance 43 = .ok (.bipush (-6), 2) := by decide +kernel
theorem dX3_distance_45 : decode cX3_distance 45 = .ok (.ireturn, 1) := by decide +kernel
theorem dX3_distance_46 : decode cX3_distance 46 = .ok (.iload 6, 2) := by decide +kernel
theorem dX3_distance_48 : decode cX3_distance 48 = .ok (.istore 4, 2) := by decide +kernel
theorem dX3_distance_50 : decode cX3_distance 50 = .ok (.iinc 5 1, 3) := by decide +kernel
theorem dX3_distance_53 : decode cX3_distance 53 = .ok (.goto (-45), 3) := by decide +kernel
theorem dX3_distance_56 : decode cX3_distance 56 = .ok (.bipush (-6), 2) := by decide +kernel
theorem dX3_distance_58 : decode cX3_distance 58 = .ok (.ireturn, 1) := by decide +kernel
theorem dX3_hasWay_0 : decode cX3_hasWay 0 = .ok (.aload_n 0, 1) := by decide +kernel
theorem dX3_hasWay_1 : decode cX3_hasWay 1 = .ok (.aload_n 0, 1) := by decide +kernel
theorem dX3_hasWay_2 : decode cX3_hasWay 2 = .ok (.getfield 24, 3) := by decide +kernel
theorem dX3_hasWay_5 : decode cX3_hasWay 5 = .ok (.iload_n 1, 1) := by decide +kernel
theorem dX3_hasWay_6 : decode cX3_hasWay 6 = .ok (.iaload, 1) := by decide +kernel
theorem dX3_hasWay_7 : decode cX3_hasWay 7 = .ok (.iload_n 2, 1) := by decide +kernel
theorem dX3_hasWay_8 : decode cX3_hasWay 8 = .ok (.aload_n 0, 1) := by decide +kernel
theorem dX3_hasWay_9 : decode cX3_hasWay 9 = .ok (.aload_n 0, 1) := by decide +kernel
theorem dX3_hasWay_10 : decode cX3_hasWay 10 = .ok (.iload_n 1, 1) := by decide +kernel
theorem dX3_hasWay_11 : decode cX3_hasWay 11 = .ok (.invokevirtual 100, 3) := by decide +kernel
theorem dX3_hasWay_14 : decode cX3_hasWay 14 = .ok (.invokevirtual 115, 3) := by decide +kernel
theorem dX3_hasWay_17 : decode cX3_hasWay 17 = .ok (.invokevirtual 118, 3) := by decide +kernel
theorem dX3_hasWay_20 : decode cX3_hasWay 20 = .ok (.bipush (-6), 2) := by decide +kernel
theorem dX3_hasWay_22 : decode cX3_hasWay 22 = .ok (.if_icmp .eq 7, 3) := by decide +kernel
theorem dX3_hasWay_25 : decode cX3_hasWay 25 = .ok (.iconst 1, 1) := by decide +kernel
theorem dX3_hasWay_26 : decode cX3_hasWay 26 = .ok (.goto 4, 3) := by decide +kernel
theorem dX3_hasWay_29 : decode cX3_hasWay 29 = .ok (.iconst 0, 1) := by decide +kernel
theorem dX3_hasWay_30 : decode cX3_hasWay 30 = .ok (.ireturn, 1) := by decide +kernel
theorem dX3_otherEnd_0 : decode cX3_otherEnd 0 = .ok (.aload_n 0, 1) := by decide +kernel
theorem dX3_otherEnd_1 : decode cX3_otherEnd 1 = .ok (.getfield 9, 3) := by decide +kernel
theorem dX3_otherEnd_4 : decode cX3_otherEnd 4 = .ok (.iload_n 1, 1) := by decide +kernel
theorem dX3_otherEnd_5 : decode cX3_otherEnd 5 = .ok (.iaload, 1) := by decide +kernel
theorem dX3_otherEnd_6 : decode cX3_otherEnd 6 = .ok (.iload_n 2, 1) := by decide +kernel
theorem dX3_otherEnd_7 : decode cX3_otherEnd 7 = .ok (.if_icmp .ne 12, 3) := by decide +kernel
theorem dX3_otherEnd_10 : decode cX3_otherEnd 10 = .ok (.aload_n 0, 1) := by decide +kernel
theorem dX3_otherEnd_11 : decode cX3_otherEnd 11 = .ok (.getfield 15, 3) := by decide +kernel
theorem dX3_otherEnd_14 : decode cX3_otherEnd 14 = .ok (.iload_n 1, 1) := by decide +kernel
theorem dX3_otherEnd_15 : decode cX3_otherEnd 15 = .ok (.iaload, 1) := by decide +kernel
theorem dX3_otherEnd_16 : decode cX3_otherEnd 16 = .ok (.goto 9, 3) := by decide +kernel
theorem dX3_otherEnd_19 : decode cX3_otherEnd 19 = .ok (.aload_n 0, 1) := by decide +kernel
theorem dX3_otherEnd_20 : decode cX3_otherEnd 20 = .ok (.getfield 9, 3) := by decide +kernel
theorem dX3_otherEnd_23 : decode cX3_otherEnd 23 = .ok (.iload_n 1, 1) := by decide +kernel
theorem dX3_otherEnd_24 : decode cX3_otherEnd 24 = .ok (.iaload, 1) := by decide +kernel
theorem dX3_otherEnd_25 : decode cX3_otherEnd 25 = .ok (.ireturn, 1) := by decide +kernel
theorem dX3_isAtEnd_0 : decode cX3_isAtEnd 0 = .ok (.aload_n 0, 1) := by decide +kernel
theorem dX3_isAtEnd_1 : decode cX3_isAtEnd 1 = .ok (.getfield 9, 3) := by decide +kernel
theorem dX3_isAtEnd_4 : decode cX3_isAtEnd 4 = .ok (.iload_n 1, 1) := by decide +kernel
theorem dX3_isAtEnd_5 : decode cX3_isAtEnd 5 = .ok (.iaload, 1) := by decide +kernel
theorem dX3_isAtEnd_6 : decode cX3_isAtEnd 6 = .ok (.iload_n 2, 1) := by decide +kernel
theorem dX3_isAtEnd_7 : decode cX3_isAtEnd 7 = .ok (.if_icmp .eq 13, 3) := by decide +kernel
theorem dX3_isAtEnd_10 : decode cX3_isAtEnd 10 = .ok (.aload_n 0, 1) := by decide +kernel
theorem dX3_isAtEnd_11 : decode cX3_isAtEnd 11 = .ok (.getfield 15, 3) := by decide +kernel
theorem dX3_isAtEnd_14 : decode cX3_isAtEnd 14 = .ok (.iload_n 1, 1) := by decide +kernel
theorem dX3_isAtEnd_15 : decode cX3_isAtEnd 15 = .ok (.iaload, 1) := by decide +kernel
theorem dX3_isAtEnd_16 : decode cX3_isAtEnd 16 = .ok (.iload_n 2, 1) := by decide +kernel
theorem dX3_isAtEnd_17 : decode cX3_isAtEnd 17 = .ok (.if_icmp .ne 7, 3) := by decide +kernel
theorem dX3_isAtEnd_20 : decode cX3_isAtEnd 20 = .ok (.iconst 1, 1) := by decide +kernel
theorem dX3_isAtEnd_21 : decode cX3_isAtEnd 21 = .ok (.goto 4, 3) := by decide +kernel
theorem dX3_isAtEnd_24 : decode cX3_isAtEnd 24 = .ok (.iconst 0, 1) := by decide +kernel
theorem dX3_isAtEnd_25 : decode cX3_isAtEnd 25 = .ok (.ireturn, 1) := by decide +kernel
theorem dX3_bridgeOfWay_0 : decode cX3_bridgeOfWay 0 = .ok (.iload_n 1, 1) := by decide +kernel
theorem dX3_bridgeOfWay_1 : decode cX3_bridgeOfWay 1 = .ok (.istore 5, 2) := by decide +kernel
theorem dX3_bridgeOfWay_3 : decode cX3_bridgeOfWay 3 = .ok (.bipush (-6), 2) := by decide +kernel
theorem dX3_bridgeOfWay_5 : decode cX3_bridgeOfWay 5 = .ok (.istore 6, 2) := by decide +kernel
theorem dX3_bridgeOfWay_7 : decode cX3_bridgeOfWay 7 = .ok (.iconst 0, 1) := by decide +kernel
theorem dX3_bridgeOfWay_8 : decode cX3_bridgeOfWay 8 = .ok (.istore 7, 2) := by decide +kernel
theorem dX3_bridgeOfWay_10 : decode cX3_bridgeOfWay 10 = .ok (.iload 7, 2) := by decide +kernel
theorem dX3_bridgeOfWay_12 : decode cX3_bridgeOfWay 12 = .ok (.iload 4, 2) := by decide +kernel
theorem dX3_bridgeOfWay_14 : decode cX3_bridgeOfWay 14 = .ok (.if_icmp .gt 46, 3) := by decide +kernel
theorem dX3_bridgeOfWay_17 : decode cX3_bridgeOfWay 17 = .ok (.iload 7, 2) := by decide +kernel
theorem dX3_bridgeOfWay_19 : decode cX3_bridgeOfWay 19 = .ok (.bipush 6, 2) := by decide +kernel
theorem dX3_bridgeOfWay_21 : decode cX3_bridgeOfWay 21 = .ok (.if_icmp .ge 39, 3) := by decide +kernel
theorem dX3_bridgeOfWay_24 : decode cX3_bridgeOfWay 24 = .ok (.aload_n 0, 1) := by decide +kernel
theorem dX3_bridgeOfWay_25 : decode cX3_bridgeOfWay 25 = .ok (.iload 5, 2) := by decide +kernel
theorem dX3_bridgeOfWay_27 : decode cX3_bridgeOfWay 27 = .ok (.iload_n 2, 1) := by decide +kernel
theorem dX3_bridgeOfWay_28 : decode cX3_bridgeOfWay 28 = .ok (.iload_n 3, 1) := by decide +kernel
theorem dX3_bridgeOfWay_29 : decode cX3_bridgeOfWay 29 = .ok (.invokevirtual 122, 3) := by decide +kernel
theorem dX3_bridgeOfWay_32 : decode cX3_bridgeOfWay 32 = .ok (.istore 6, 2) := by decide +kernel
theorem dX3_bridgeOfWay_34 : decode cX3_bridgeOfWay 34 = .ok (.iload 6, 2) := by decide +kernel
theorem dX3_bridgeOfWay_36 : decode cX3_bridgeOfWay 36 = .ok (.bipush (-6), 2) := by decide +kernel
theorem dX3_bridgeOfWay_38 : decode cX3_bridgeOfWay 38 = .ok (.if_icmp .ne 6, 3) := by decide +kernel
theorem dX3_bridgeOfWay_41 : decode cX3_bridgeOfWay 41 = .ok (.bipush (-6), 2) := by decide +kernel
theorem dX3_bridgeOfWay_43 : decode cX3_bridgeOfWay 43 = .ok (.ireturn, 1) := by decide +kernel
theorem dX3_bridgeOfWay_44 : decode cX3_bridgeOfWay 44 = .ok (.aload_n 0, 1) := by decide +kernel
theorem dX3_bridgeOfWay_45 : decode cX3_bridgeOfWay 45 = .ok (.iload 6, 2) := by decide +kernel
theorem dX3_bridgeOfWay_47 : decode cX3_bridgeOfWay 47 = .ok (.iload 5, 2) := by decide +kernel
theorem dX3_bridgeOfWay_49 : decode cX3_bridgeOfWay 49 = .ok (.invokevirtual 125, 3) := by decide +kernel
theorem dX3_bridgeOfWay_52 : decode cX3_bridgeOfWay 52 = .ok (.istore 5, 2) := by decide +kernel
theorem dX3_bridgeOfWay_54 : decode cX3_bridgeOfWay 54 = .ok (.iinc 7 1, 3) := by decide +kernel
theorem dX3_bridgeOfWay_57 : decode cX3_bridgeOfWay 57 = .ok (.goto (-47), 3) := by decide +kernel
theorem dX3_bridgeOfWay_60 : decode cX3_bridgeOfWay 60 = .ok (.iload 6, 2) := by decide +kernel
theorem dX3_bridgeOfWay_62 : decode cX3_bridgeOfWay 62 = .ok (.ireturn, 1) := by decide +kernel
theorem dX3_nextBridge_0 : decode cX3_nextBridge 0 = .ok (.aload_n 0, 1) := by decide +kernel
theorem dX3_nextBridge_1 : decode cX3_nextBridge 1 = .ok (.iload_n 1, 1) := by decide +kernel
theorem dX3_nextBridge_2 : decode cX3_nextBridge 2 = .ok (.iload_n 2, 1) := by decide +kernel
theorem dX3_nextBridge_3 : decode cX3_nextBridge 3 = .ok (.iload_n 3, 1) := by decide +kernel
theorem dX3_nextBridge_4 : decode cX3_nextBridge 4 = .ok (.invokevirtual 118, 3) := by decide +kernel
theorem dX3_nextBridge_7 : decode cX3_nextBridge 7 = .ok (.istore 4, 2) := by decide +kernel
theorem dX3_nextBridge_9 : decode cX3_nextBridge 9 = .ok (.iconst 0, 1) := by decide +kernel
theorem dX3_nextBridge_10 : decode cX3_nextBridge 10 = .ok (.istore 5, 2) := by decide +kernel
theorem dX3_nextBridge_12 : decode cX3_nextBridge 12 = .ok (.iload 5, 2) := by decide +kernel
theorem dX3_nextBridge_14 : decode cX3_nextBridge 14 = .ok (.bipush 8, 2) := by decide +kernel
theorem dX3_nextBridge_16 : decode cX3_nextBridge 16 = .ok (.if_icmp .ge 51, 3) := by decide +kernel
theorem dX3_nextBridge_19 : decode cX3_nextBridge 19 = .ok (.iload_n 3, 1) := by decide +kernel
theorem dX3_nextBridge_20 : decode cX3_nextBridge 20 = .ok (.iload 5, 2) := by decide +kernel
theorem dX3_nextBridge_22 : decode cX3_nextBridge 22 = .ok (.invokestatic 84, 3) := by decide +kernel
theorem dX3_nextBridge_25 : decode cX3_nextBridge 25 = .ok (.ifCond .eq 36, 3) := by decide +kernel
theorem dX3_nextBridge_28 : decode cX3_nextBridge 28 = .ok (.aload_n 0, 1) := by decide +kernel
theorem dX3_nextBridge_29 : decode cX3_nextBridge 29 = .ok (.iload 5, 2) := by decide +kernel
theorem dX3_nextBridge_31 : decode cX3_nextBridge 31 = .ok (.iload_n 1, 1) := by decide +kernel
theorem dX3_nextBridge_32 : decode cX3_nextBridge 32 = .ok (.invokevirtual 128, 3) := by decide +kernel
theorem dX3_nextBridge_35 : decode cX3_nextBridge 35 = .ok (.ifCond .eq 26, 3) := by decide +kernel
theorem dX3_nextBridge_38 : decode cX3_nextBridge 38 = .ok (.aload_n 0, 1) := by decide +kernel
theorem dX3_nextBridge_39 : decode cX3_nextBridge 39 = .ok (.aload_n 0, 1) := by decide +kernel
theorem dX3_nextBridge_40 : decode cX3_nextBridge 40 = .ok (.iload 5, 2) := by decide +kernel
theorem dX3_nextBridge_42 : decode cX3_nextBridge 42 = .ok (.iload_n 1, 1) := by decide +kernel
theorem dX3_nextBridge_43 : decode cX3_nextBridge 43 = .ok (.invokevirtual 125, 3) := by decide +kernel
theorem dX3_nextBridge_46 : decode cX3_nextBridge 46 = .ok (.iload_n 2, 1) := by decide +kernel
theorem dX3_nextBridge_47 : decode cX3_nextBridge 47 = .ok (.iload_n 3, 1) := by decide +kernel
theorem dX3_nextBridge_48 : decode cX3_nextBridge 48 = .ok (.invokevirtual 118, 3) := by decide +kernel
theorem dX3_nextBridge_51 : decode cX3_nextBridge 51 = .ok (.iload 4, 2) := by decide +kernel
theorem dX3_nextBridge_53 : decode cX3_nextBridge 53 = .ok (.iconst 1, 1) := by decide +kernel
theorem dX3_nextBridge_54 : decode cX3_nextBridge 54 = .ok (.isub, 1) := by decide +kernel
theorem dX3_nextBridge_55 : decode cX3_nextBridge 55 = .ok (.if_icmp .ne 6, 3) := by decide +kernel
theorem dX3_nextBridge_58 : decode cX3_nextBridge 58 = .ok (.iload 5, 2) := by decide +kernel
theorem dX3_nextBridge_60 : decode cX3_nextBridge 60 = .ok (.ireturn, 1) := by decide +kernel
theorem dX3_nextBridge_61 : decode cX3_nextBridge 61 = .ok (.iinc 5 1, 3) := by decide +kernel
theorem dX3_nextBridge_64 : decode cX3_nextBridge 64 = .ok (.goto (-52), 3) := by decide +kernel
theorem dX3_nextBridge_67 : decode cX3_nextBridge 67 = .ok (.bipush (-6), 2) := by decide +kernel
theorem dX3_nextBridge_69 : decode cX3_nextBridge 69 = .ok (.ireturn, 1) := by decide +kernel
theorem dX3_tellIfItCanBe_0 : decode cX3_tellIfItCanBe 0 = .ok (.aload_n 0, 1) := by decide +kernel
theorem dX3_tellIfItCanBe_1 : decode cX3_tellIfItCanBe 1 = .ok (.iload_n 1, 1) := by decide +kernel
theorem dX3_tellIfItCanBe_2 : decode cX3_tellIfItCanBe 2 = .ok (.invokevirtual 131, 3) := by decide +kernel
theorem dX3_tellIfItCanBe_5 : decode cX3_tellIfItCanBe 5 = .ok (.ifCond .eq 11, 3) := by decide +kernel
theorem dX3_tellIfItCanBe_8 : decode cX3_tellIfItCanBe 8 = .ok (.aload_n 0, 1) := by decide +kernel
theorem dX3_tellIfItCanBe_9 : decode cX3_tellIfItCanBe 9 = .ok (.iload_n 2, 1) := by decide +kernel
theorem dX3_tellIfItCanBe_10 : decode cX3_tellIfItCanBe 10 = .ok (.invokevirtual 131, 3) := by decide +kernel
theorem dX3_tellIfItCanBe_13 : decode cX3_tellIfItCanBe 13 = .ok (.ifCond .ne 5, 3) := by decide +kernel
theorem dX3_tellIfItCanBe_16 : decode cX3_tellIfItCanBe 16 = .ok (.iconst 1, 1) := by decide +kernel
theorem dX3_tellIfItCanBe_17 : decode cX3_tellIfItCanBe 17 = .ok (.ireturn, 1) := by decide +kernel
theorem dX3_tellIfItCanBe_18 : decode cX3_tellIfItCanBe 18 = .ok (.iload_n 1, 1) := by decide +kernel
theorem dX3_tellIfItCanBe_19 : decode cX3_tellIfItCanBe 19 = .ok (.iload_n 2, 1) := by decide +kernel
theorem dX3_tellIfItCanBe_20 : decode cX3_tellIfItCanBe 20 = .ok (.if_icmp .eq 18, 3) := by decide +kernel
theorem dX3_tellIfItCanBe_23 : decode cX3_tellIfItCanBe 23 = .ok (.aload_n 0, 1) := by decide +kernel
theorem dX3_tellIfItCanBe_24 : decode cX3_tellIfItCanBe 24 = .ok (.getfield 24, 3) := by decide +kernel
theorem dX3_tellIfItCanBe_27 : decode cX3_tellIfItCanBe 27 = .ok (.iload_n 1, 1) := by decide +kernel
theorem dX3_tellIfItCanBe_28 : decode cX3_tellIfItCanBe 28 = .ok (.iaload, 1) := by decide +kernel
theorem dX3_tellIfItCanBe_29 : decode cX3_tellIfItCanBe 29 = .ok (.aload_n 0, 1) := by decide +kernel
theorem dX3_tellIfItCanBe_30 : decode cX3_tellIfItCanBe 30 = .ok (.getfield 24, 3) := by decide +kernel
theorem dX3_tellIfItCanBe_33 : decode cX3_tellIfItCanBe 33 = .ok (.iload_n 2, 1) := by decide +kernel
theorem dX3_tellIfItCanBe_34 : decode cX3_tellIfItCanBe 34 = .ok (.iaload, 1) := by decide +kernel
theorem dX3_tellIfItCanBe_35 : decode cX3_tellIfItCanBe 35 = .ok (.if_icmp .eq 5, 3) := by decide +kernel
theorem dX3_tellIfItCanBe_38 : decode cX3_tellIfItCanBe 38 = .ok (.iconst 2, 1) := by decide +kernel
theorem dX3_tellIfItCanBe_39 : decode cX3_tellIfItCanBe 39 = .ok (.ireturn, 1) := by decide +kernel
theorem dX3_tellIfItCanBe_40 : decode cX3_tellIfItCanBe 40 = .ok (.aload_n 0, 1) := by decide +kernel
theorem dX3_tellIfItCanBe_41 : decode cX3_tellIfItCanBe 41 = .ok (.getfield 30, 3) := by decide +kernel
theorem dX3_tellIfItCanBe_44 : decode cX3_tellIfItCanBe 44 = .ok (.iload_n 1, 1) := by decide +kernel
theorem dX3_tellIfItCanBe_45 : decode cX3_tellIfItCanBe 45 = .ok (.iaload, 1) := by decide +kernel
theorem dX3_tellIfItCanBe_46 : decode cX3_tellIfItCanBe 46 = .ok (.iload_n 3, 1) := by decide +kernel
theorem dX3_tellIfItCanBe_47 : decode cX3_tellIfItCanBe 47 = .ok (.invokestatic 84, 3) := by decide +kernel
theorem dX3_tellIfItCanBe_50 : decode cX3_tellIfItCanBe 50 = .ok (.ifCond .ne 5, 3) := by decide +kernel
theorem dX3_tellIfItCanBe_53 : decode cX3_tellIfItCanBe 53 = .ok (.iconst 3, 1) := by decide +kernel
theorem dX3_tellIfItCanBe_54 : decode cX3_tellIfItCanBe 54 = .ok (.ireturn, 1) := by decide +kernel
theorem dX3_tellIfItCanBe_55 : decode cX3_tellIfItCanBe 55 = .ok (.aload_n 0, 1) := by decide +kernel
theorem dX3_tellIfItCanBe_56 : decode cX3_tellIfItCanBe 56 = .ok (.getfield 30, 3) := by decide +kernel
theorem dX3_tellIfItCanBe_59 : decode cX3_tellIfItCanBe 59 = .ok (.iload_n 2, 1) := by decide +kernel
theorem dX3_tellIfItCanBe_60 : decode cX3_tellIfItCanBe 60 = .ok (.iaload, 1) := by decide +kernel
theorem dX3_tellIfItCanBe_61 : decode cX3_tellIfItCanBe 61 = .ok (.iload_n 3, 1) := by decide +kernel
theorem dX3_tellIfItCanBe_62 : decode cX3_tellIfItCanBe 62 = .ok (.invokestatic 84, 3) := by decide +kernel
theorem dX3_tellIfItCanBe_65 : decode cX3_tellIfItCanBe 65 = .ok (.ifCond .eq 5, 3) := by decide +kernel
theorem dX3_tellIfItCanBe_68 : decode cX3_tellIfItCanBe 68 = .ok (.iconst 4, 1) := by decide +kernel
theorem dX3_tellIfItCanBe_69 : decode cX3_tellIfItCanBe 69 = .ok (.ireturn, 1) := by decide +kernel
theorem dX3_tellIfItCanBe_70 : decode cX3_tellIfItCanBe 70 = .ok (.aload_n 0, 1) := by decide +kernel
theorem dX3_tellIfItCanBe_71 : decode cX3_tellIfItCanBe 71 = .ok (.getfield 30, 3) := by decide +kernel
theorem dX3_tellIfItCanBe_74 : decode cX3_tellIfItCanBe 74 = .ok (.iload_n 2, 1) := by decide +kernel
theorem dX3_tellIfItCanBe_75 : decode cX3_tellIfItCanBe 75 = .ok (.dup2, 1) := by decide +kernel
theorem dX3_tellIfItCanBe_76 : decode cX3_tellIfItCanBe 76 = .ok (.iaload, 1) := by decide +kernel
theorem dX3_tellIfItCanBe_77 : decode cX3_tellIfItCanBe 77 = .ok (.iconst 1, 1) := by decide +kernel
theorem dX3_tellIfItCanBe_78 : decode cX3_tellIfItCanBe 78 = .ok (.iload_n 3, 1) := by decide +kernel
theorem dX3_tellIfItCanBe_79 : decode cX3_tellIfItCanBe 79 = .ok (.ishl, 1) := by decide +kernel
theorem dX3_tellIfItCanBe_80 : decode cX3_tellIfItCanBe 80 = .ok (.ior, 1) := by decide +kernel
theorem dX3_tellIfItCanBe_81 : decode cX3_tellIfItCanBe 81 = .ok (.iastore, 1) := by decide +kernel
theorem dX3_tellIfItCanBe_82 : decode cX3_tellIfItCanBe 82 = .ok (.iconst 0, 1) := by decide +kernel
theorem dX3_tellIfItCanBe_83 : decode cX3_tellIfItCanBe 83 = .ok (.ireturn, 1) := by decide +kernel
theorem dX3_crossIfItCanBe_0 : decode cX3_crossIfItCanBe 0 = .ok (.aload_n 0, 1) := by decide +kernel
theorem dX3_crossIfItCanBe_1 : decode cX3_crossIfItCanBe 1 = .ok (.iload_n 1, 1) := by decide +kernel
theorem dX3_crossIfItCanBe_2 : decode cX3_crossIfItCanBe 2 = .ok (.invokevirtual 131, 3) := by decide +kernel
theorem dX3_crossIfItCanBe_5 : decode cX3_crossIfItCanBe 5 = .ok (.ifCond .ne 5, 3) := by decide +kernel
theorem dX3_crossIfItCanBe_8 : decode cX3_crossIfItCanBe 8 = .ok (.iconst 1, 1) := by decide +kernel
theorem dX3_crossIfItCanBe_9 : decode cX3_crossIfItCanBe 9 = .ok (.ireturn, 1) := by decide +kernel
theorem dX3_crossIfItCanBe_10 : decode cX3_crossIfItCanBe 10 = .ok (.aload_n 0, 1) := by decide +kernel
theorem dX3_crossIfItCanBe_11 : decode cX3_crossIfItCanBe 11 = .ok (.iload_n 2, 1) := by decide +kernel
theorem dX3_crossIfItCanBe_12 : decode cX3_crossIfItCanBe 12 = .ok (.invokevirtual 135, 3) := by decide +kernel
theorem dX3_crossIfItCanBe_15 : decode cX3_crossIfItCanBe 15 = .ok (.ifCond .ne 5, 3) := by decide +kernel
theorem dX3_crossIfItCanBe_18 : decode cX3_crossIfItCanBe 18 = .ok (.iconst 5, 1) := by decide +kernel
theorem dX3_crossIfItCanBe_19 : decode cX3_crossIfItCanBe 19 = .ok (.ireturn, 1) := by decide +kernel
theorem dX3_crossIfItCanBe_20 : decode cX3_crossIfItCanBe 20 = .ok (.aload_n 0, 1) := by decide +kernel
theorem dX3_crossIfItCanBe_21 : decode cX3_crossIfItCanBe 21 = .ok (.iload_n 2, 1) := by decide +kernel
theorem dX3_crossIfItCanBe_22 : decode cX3_crossIfItCanBe 22 = .ok (.aload_n 0, 1) := by decide +kernel
theorem dX3_crossIfItCanBe_23 : decode cX3_crossIfItCanBe 23 = .ok (.getfield 24, 3) := by decide +kernel
theorem dX3_crossIfItCanBe_26 : decode cX3_crossIfItCanBe 26 = .ok (.iload_n 1, 1) := by decide +kernel
theorem dX3_crossIfItCanBe_27 : decode cX3_crossIfItCanBe 27 = .ok (.iaload, 1) := by decide +kernel
theorem dX3_crossIfItCanBe_28 : decode cX3_crossIfItCanBe 28 = .ok (.invokevirtual 128, 3) := by decide +kernel
theorem dX3_crossIfItCanBe_31 : decode cX3_crossIfItCanBe 31 = .ok (.ifCond .ne 6, 3) := by decide +kernel
theorem dX3_crossIfItCanBe_34 : decode cX3_crossIfItCanBe 34 = .ok (.bipush 6, 2) := by decide +kernel
theorem dX3_crossIfItCanBe_36 : decode cX3_crossIfItCanBe 36 = .ok (.ireturn, 1) := by decide +kernel
theorem dX3_crossIfItCanBe_37 : decode cX3_crossIfItCanBe 37 = .ok (.aload_n 0, 1) := by decide +kernel
theorem dX3_crossIfItCanBe_38 : decode cX3_crossIfItCanBe 38 = .ok (.iload_n 1, 1) := by decide +kernel
theorem dX3_crossIfItCanBe_39 : decode cX3_crossIfItCanBe 39 = .ok (.invokevirtual 100, 3) := by decide +kernel
theorem dX3_crossIfItCanBe_42 : decode cX3_crossIfItCanBe 42 = .ok (.istore_n 3, 1) := by decide +kernel
theorem dX3_crossIfItCanBe_43 : decode cX3_crossIfItCanBe 43 = .ok (.iload_n 3, 1) := by decide +kernel
theorem dX3_crossIfItCanBe_44 : decode cX3_crossIfItCanBe 44 = .ok (.aload_n 0, 1) := by decide +kernel
theorem dX3_crossIfItCanBe_45 : decode cX3_crossIfItCanBe 45 = .ok (.getfield 18, 3) := by decide +kernel
theorem dX3_crossIfItCanBe_48 : decode cX3_crossIfItCanBe 48 = .ok (.iload_n 2, 1) := by decide +kernel
theorem dX3_crossIfItCanBe_49 : decode cX3_crossIfItCanBe 49 = .ok (.iaload, 1) := by decide +kernel
theorem dX3_crossIfItCanBe_50 : decode cX3_crossIfItCanBe 50 = .ok (.if_icmp .le 6, 3) := by decide +kernel
theorem dX3_crossIfItCanBe_53 : decode cX3_crossIfItCanBe 53 = .ok (.bipush 7, 2) := by decide +kernel
theorem dX3_crossIfItCanBe_55 : decode cX3_crossIfItCanBe 55 = .ok (.ireturn, 1) := by decide +kernel
theorem dX3_crossIfItCanBe_56 : decode cX3_crossIfItCanBe 56 = .ok (.aload_n 0, 1) := by decide +kernel
theorem dX3_crossIfItCanBe_57 : decode cX3_crossIfItCanBe 57 = .ok (.getfield 21, 3) := by decide +kernel
theorem dX3_crossIfItCanBe_60 : decode cX3_crossIfItCanBe 60 = .ok (.iload_n 2, 1) := by decide +kernel
theorem dX3_crossIfItCanBe_61 : decode cX3_crossIfItCanBe 61 = .ok (.aload_n 0, 1) := by decide +kernel
theorem dX3_crossIfItCanBe_62 : decode cX3_crossIfItCanBe 62 = .ok (.getfield 21, 3) := by decide +kernel
theorem dX3_crossIfItCanBe_65 : decode cX3_crossIfItCanBe 65 = .ok (.iload_n 2, 1) := by decide +kernel
theorem dX3_crossIfItCanBe_66 : decode cX3_crossIfItCanBe 66 = .ok (.iaload, 1) := by decide +kernel
theorem dX3_crossIfItCanBe_67 : decode cX3_crossIfItCanBe 67 = .ok (.iload_n 3, 1) := by decide +kernel
theorem dX3_crossIfItCanBe_68 : decode cX3_crossIfItCanBe 68 = .ok (.invokestatic 95, 3) := by decide +kernel
theorem dX3_crossIfItCanBe_71 : decode cX3_crossIfItCanBe 71 = .ok (.iastore, 1) := by decide +kernel
theorem dX3_crossIfItCanBe_72 : decode cX3_crossIfItCanBe 72 = .ok (.aload_n 0, 1) := by decide +kernel
theorem dX3_crossIfItCanBe_73 : decode cX3_crossIfItCanBe 73 = .ok (.getfield 24, 3) := by decide +kernel
theorem dX3_crossIfItCanBe_76 : decode cX3_crossIfItCanBe 76 = .ok (.iload_n 1, 1) := by decide +kernel
theorem dX3_crossIfItCanBe_77 : decode cX3_crossIfItCanBe 77 = .ok (.aload_n 0, 1) := by decide +kernel
theorem dX3_crossIfItCanBe_78 : decode cX3_crossIfItCanBe 78 = .ok (.iload_n 2, 1) := by decide +kernel
theorem dX3_crossIfItCanBe_79 : decode cX3_crossIfItCanBe 79 = .ok (.aload_n 0, 1) := by decide +kernel
theorem dX3_crossIfItCanBe_80 : decode cX3_crossIfItCanBe 80 = .ok (.getfield 24, 3) := by decide +kernel
theorem dX3_crossIfItCanBe_83 : decode cX3_crossIfItCanBe 83 = .ok (.iload_n 1, 1) := by decide +kernel
theorem dX3_crossIfItCanBe_84 : decode cX3_crossIfItCanBe 84 = .ok (.iaload, 1) := by decide +kernel
theorem dX3_crossIfItCanBe_85 : decode cX3_crossIfItCanBe 85 = .ok (.invokevirtual 125, 3) := by decide +kernel
theorem dX3_crossIfItCanBe_88 : decode cX3_crossIfItCanBe 88 = .ok (.iastore, 1) := by decide +kernel
theorem dX3_crossIfItCanBe_89 : decode cX3_crossIfItCanBe 89 = .ok (.iconst 0, 1) := by decide +kernel
theorem dX3_crossIfItCanBe_90 : decode cX3_crossIfItCanBe 90 = .ok (.ireturn, 1) := by decide +kernel
theorem dX3_publishIfItCanBe_0 : decode cX3_publishIfItCanBe 0 = .ok (.aload_n 0, 1) := by decide +kernel
theorem dX3_publishIfItCanBe_1 : decode cX3_publishIfItCanBe 1 = .ok (.getfield 65, 3) := by decide +kernel
theorem dX3_publishIfItCanBe_4 : decode cX3_publishIfItCanBe 4 = .ok (.iload_n 1, 1) := by decide +kernel
theorem dX3_publishIfItCanBe_5 : decode cX3_publishIfItCanBe 5 = .ok (.invokestatic 84, 3) := by decide +kernel
theorem dX3_publishIfItCanBe_8 : decode cX3_publishIfItCanBe 8 = .ok (.ifCond .eq 6, 3) := by decide +kernel
theorem dX3_publishIfItCanBe_11 : decode cX3_publishIfItCanBe 11 = .ok (.bipush 8, 2) := by decide +kernel
theorem dX3_publishIfItCanBe_13 : decode cX3_publishIfItCanBe 13 = .ok (.ireturn, 1) := by decide +kernel
theorem dX3_publishIfItCanBe_14 : decode cX3_publishIfItCanBe 14 = .ok (.aload_n 0, 1) := by decide +kernel
theorem dX3_publishIfItCanBe_15 : decode cX3_publishIfItCanBe 15 = .ok (.dup, 1) := by decide +kernel
theorem dX3_publishIfItCanBe_16 : decode cX3_publishIfItCanBe 16 = .ok (.getfield 65, 3) := by decide +kernel
theorem dX3_publishIfItCanBe_19 : decode cX3_publishIfItCanBe 19 = .ok (.iconst 1, 1) := by decide +kernel
theorem dX3_publishIfItCanBe_20 : decode cX3_publishIfItCanBe 20 = .ok (.iload_n 1, 1) := by decide +kernel
theorem dX3_publishIfItCanBe_21 : decode cX3_publishIfItCanBe 21 = .ok (.ishl, 1) := by decide +kernel
theorem dX3_publishIfItCanBe_22 : decode cX3_publishIfItCanBe 22 = .ok (.ior, 1) := by decide +kernel
theorem dX3_publishIfItCanBe_23 : decode cX3_publishIfItCanBe 23 = .ok (.putfield 65, 3) := by decide +kernel
theorem dX3_publishIfItCanBe_26 : decode cX3_publishIfItCanBe 26 = .ok (.iconst 0, 1) := by decide +kernel
theorem dX3_publishIfItCanBe_27 : decode cX3_publishIfItCanBe 27 = .ok (.ireturn, 1) := by decide +kernel
theorem dX3_passNight_0 : decode cX3_passNight 0 = .ok (.iconst 0, 1) := by decide +kernel
theorem dX3_passNight_1 : decode cX3_passNight 1 = .ok (.istore_n 1, 1) := by decide +kernel
theorem dX3_passNight_2 : decode cX3_passNight 2 = .ok (.iload_n 1, 1) := by decide +kernel
theorem dX3_passNight_3 : decode cX3_passNight 3 = .ok (.bipush 8, 2) := by decide +kernel
theorem dX3_passNight_5 : decode cX3_passNight 5 = .ok (.if_icmp .ge 39, 3) := by decide +kernel
theorem dX3_passNight_8 : decode cX3_passNight 8 = .ok (.aload_n 0, 1) := by decide +kernel
theorem dX3_passNight_9 : decode cX3_passNight 9 = .ok (.getfield 33, 3) := by decide +kernel
theorem dX3_passNight_12 : decode cX3_passNight 12 = .ok (.iload_n 1, 1) := by decide +kernel
theorem dX3_passNight_13 : decode cX3_passNight 13 = .ok (.iaload, 1) := by decide +kernel
theorem dX3_passNight_14 : decode cX3_passNight 14 = .ok (.ifCond .le 24, 3) := by decide +kernel
theorem dX3_passNight_17 : decode cX3_passNight 17 = .ok (.aload_n 0, 1) := by decide +kernel
theorem dX3_passNight_18 : decode cX3_passNight 18 = .ok (.getfield 33, 3) := by decide +kernel
theorem dX3_passNight_21 : decode cX3_passNight 21 = .ok (.iload_n 1, 1) := by decide +kernel
theorem dX3_passNight_22 : decode cX3_passNight 22 = .ok (.iconst 0, 1) := by decide +kernel
theorem dX3_passNight_23 : decode cX3_passNight 23 = .ok (.aload_n 0, 1) := by decide +kernel
theorem dX3_passNight_24 : decode cX3_passNight 24 = .ok (.getfield 33, 3) := by decide +kernel
theorem dX3_passNight_27 : decode cX3_passNight 27 = .ok (.iload_n 1, 1) := by decide +kernel
theorem dX3_passNight_28 : decode cX3_passNight 28 = .ok (.iaload, 1) := by decide +kernel
theorem dX3_passNight_29 : decode cX3_passNight 29 = .ok (.aload_n 0, 1) := by decide +kernel
theorem dX3_passNight_30 : decode cX3_passNight 30 = .ok (.getfield 45, 3) := by decide +kernel
theorem dX3_passNight_33 : decode cX3_passNight 33 = .ok (.isub, 1) := by decide +kernel
theorem dX3_passNight_34 : decode cX3_passNight 34 = .ok (.invokestatic 95, 3) := by decide +kernel
theorem dX3_passNight_37 : decode cX3_passNight 37 = .ok (.iastore, 1) := by decide +kernel
theorem dX3_passNight_38 : decode cX3_passNight 38 = .ok (.iinc 1 1, 3) := by decide +kernel
theorem dX3_passNight_41 : decode cX3_passNight 41 = .ok (.goto (-39), 3) := by decide +kernel
theorem dX3_passNight_44 : decode cX3_passNight 44 = .ok (.return_, 1) := by decide +kernel
theorem dX3_hearers_0 : decode cX3_hearers 0 = .ok (.iconst 0, 1) := by decide +kernel
theorem dX3_hearers_1 : decode cX3_hearers 1 = .ok (.istore_n 2, 1) := by decide +kernel
theorem dX3_hearers_2 : decode cX3_hearers 2 = .ok (.iconst 0, 1) := by decide +kernel
theorem dX3_hearers_3 : decode cX3_hearers 3 = .ok (.istore_n 3, 1) := by decide +kernel
theorem dX3_hearers_4 : decode cX3_hearers 4 = .ok (.iload_n 3, 1) := by decide +kernel
theorem dX3_hearers_5 : decode cX3_hearers 5 = .ok (.bipush 6, 2) := by decide +kernel
theorem dX3_hearers_7 : decode cX3_hearers 7 = .ok (.if_icmp .ge 44, 3) := by decide +kernel
theorem dX3_hearers_10 : decode cX3_hearers 10 = .ok (.aload_n 0, 1) := by decide +kernel
theorem dX3_hearers_11 : decode cX3_hearers 11 = .ok (.getfield 30, 3) := by decide +kernel
theorem dX3_hearers_14 : decode cX3_hearers 14 = .ok (.iload_n 3, 1) := by decide +kernel
theorem dX3_hearers_15 : decode cX3_hearers 15 = .ok (.iaload, 1) := by decide +kernel
theorem dX3_hearers_16 : decode cX3_hearers 16 = .ok (.iload_n 1, 1) := by decide +kernel
theorem dX3_hearers_17 : decode cX3_hearers 17 = .ok (.invokestatic 84, 3) := by decide +kernel
theorem dX3_hearers_20 : decode cX3_hearers 20 = .ok (.ifCond .eq 25, 3) := by decide +kernel
theorem dX3_hearers_23 : decode cX3_hearers 23 = .ok (.iload_n 2, 1) := by decide +kernel
theorem dX3_hearers_24 : decode cX3_hearers 24 = .ok (.aload_n 0, 1) := by decide +kernel
theorem dX3_hearers_25 : decode cX3_hearers 25 = .ok (.aload_n 0, 1) := by decide +kernel
theorem dX3_hearers_26 : decode cX3_hearers 26 = .ok (.getfield 24, 3) := by decide +kernel
theorem dX3_hearers_29 : decode cX3_hearers 29 = .ok (.iload_n 3, 1) := by decide +kernel
theorem dX3_hearers_30 : decode cX3_hearers 30 = .ok (.iaload, 1) := by decide +kernel
theorem dX3_hearers_31 : decode cX3_hearers 31 = .ok (.aload_n 0, 1) := by decide +kernel
theorem dX3_hearers_32 : decode cX3_hearers 32 = .ok (.aload_n 0, 1) := by decide +kernel
theorem dX3_hearers_33 : decode cX3_hearers 33 = .ok (.iload_n 3, 1) := by decide +kernel
theorem dX3_hearers_34 : decode cX3_hearers 34 = .ok (.invokevirtual 100, 3) := by decide +kernel
theorem dX3_hearers_37 : decode cX3_hearers 37 = .ok (.invokevirtual 115, 3) := by decide +kernel
theorem dX3_hearers_40 : decode cX3_hearers 40 = .ok (.invokevirtual 138, 3) := by decide +kernel
theorem dX3_hearers_43 : decode cX3_hearers 43 = .ok (.ior, 1) := by decide +kernel
theorem dX3_hearers_44 : decode cX3_hearers 44 = .ok (.istore_n 2, 1) := by decide +kernel
theorem dX3_hearers_45 : decode cX3_hearers 45 = .ok (.iinc 3 1, 3) := by decide +kernel
theorem dX3_hearers_48 : decode cX3_hearers 48 = .ok (.goto (-44), 3) := by decide +kernel
theorem dX3_hearers_51 : decode cX3_hearers 51 = .ok (.iload_n 2, 1) := by decide +kernel
theorem dX3_hearers_52 : decode cX3_hearers 52 = .ok (.aload_n 0, 1) := by decide +kernel
theorem dX3_hearers_53 : decode cX3_hearers 53 = .ok (.iload_n 1, 1) := by decide +kernel
theorem dX3_hearers_54 : decode cX3_hearers 54 = .ok (.invokevirtual 104, 3) := by decide +kernel
theorem dX3_hearers_57 : decode cX3_hearers 57 = .ok (.iconst (-1), 1) := by decide +kernel
theorem dX3_hearers_58 : decode cX3_hearers 58 = .ok (.ixor, 1) := by decide +kernel
theorem dX3_hearers_59 : decode cX3_hearers 59 = .ok (.iand, 1) := by decide +kernel
theorem dX3_hearers_60 : decode cX3_hearers 60 = .ok (.ireturn, 1) := by decide +kernel
theorem dX3_neighbours_0 : decode cX3_neighbours 0 = .ok (.iconst 0, 1) := by decide +kernel
theorem dX3_neighbours_1 : decode cX3_neighbours 1 = .ok (.istore_n 3, 1) := by decide +kernel
theorem dX3_neighbours_2 : decode cX3_neighbours 2 = .ok (.iconst 0, 1) := by decide +kernel
theorem dX3_neighbours_3 : decode cX3_neighbours 3 = .ok (.istore 4, 2) := by decide +kernel
theorem dX3_neighbours_5 : decode cX3_neighbours 5 = .ok (.iload 4, 2) := by decide +kernel
theorem dX3_neighbours_7 : decode cX3_neighbours 7 = .ok (.bipush 6, 2) := by decide +kernel
theorem dX3_neighbours_9 : decode cX3_neighbours 9 = .ok (.if_icmp .ge 46, 3) := by decide +kernel
theorem dX3_neighbours_12 : decode cX3_neighbours 12 = .ok (.aload_n 0, 1) := by decide +kernel
theorem dX3_neighbours_13 : decode cX3_neighbours 13 = .ok (.getfield 59, 3) := by decide +kernel
theorem dX3_neighbours_16 : decode cX3_neighbours 16 = .ok (.iload 4, 2) := by decide +kernel
theorem dX3_neighbours_18 : decode cX3_neighbours 18 = .ok (.invokestatic 84, 3) := by decide +kernel
theorem dX3_neighbours_21 : decode cX3_neighbours 21 = .ok (.ifCond .eq 28, 3) := by decide +kernel
theorem dX3_neighbours_24 : decode cX3_neighbours 24 = .ok (.aload_n 0, 1) := by decide +kernel
theorem dX3_neighbours_25 : decode cX3_neighbours 25 = .ok (.iload_n 1, 1) := by decide +kernel
theorem dX3_neighbours_26 : decode cX3_neighbours 26 = .ok (.aload_n 0, 1) := by decide +kernel
theorem dX3_neighbours_27 : decode cX3_neighbours 27 = .ok (.getfield 24, 3) := by decide +kernel
theorem dX3_neighbours_30 : decode cX3_neighbours 30 = .ok (.iload 4, 2) := by decide +kernel
theorem dX3_neighbours_32 : decode cX3_neighbours 32 = .ok (.iaload, 1) := by decide +kernel
theorem dX3_neighbours_33 : decode cX3_neighbours 33 = .ok (.iload_n 2, 1) := by decide +kernel
theorem dX3_neighbours_34 : decode cX3_neighbours 34 = .ok (.invokevirtual 118, 3) := by decide +kernel
theorem dX3_neighbours_37 : decode cX3_neighbours 37 = .ok (.bipush (-6), 2) := by decide +kernel
theorem dX3_neighbours_39 : decode cX3_neighbours 39 = .ok (.if_icmp .eq 10, 3) := by decide +kernel
theorem dX3_neighbours_42 : decode cX3_neighbours 42 = .ok (.iload_n 3, 1) := by decide +kernel
theorem dX3_neighbours_43 : decode cX3_neighbours 43 = .ok (.iconst 1, 1) := by decide +kernel
theorem dX3_neighbours_44 : decode cX3_neighbours 44 = .ok (.iload 4, 2) := by decide +kernel
theorem dX3_neighbours_46 : decode cX3_neighbours 46 = .ok (.ishl, 1) := by decide +kernel
theorem dX3_neighbours_47 : decode cX3_neighbours 47 = .ok (.ior, 1) := by decide +kernel
theorem dX3_neighbours_48 : decode cX3_neighbours 48 = .ok (.istore_n 3, 1) := by decide +kernel
theorem dX3_neighbours_49 : decode cX3_neighbours 49 = .ok (.iinc 4 1, 3) := by decide +kernel
theorem dX3_neighbours_52 : decode cX3_neighbours 52 = .ok (.goto (-47), 3) := by decide +kernel
theorem dX3_neighbours_55 : decode cX3_neighbours 55 = .ok (.iload_n 3, 1) := by decide +kernel
theorem dX3_neighbours_56 : decode cX3_neighbours 56 = .ok (.ireturn, 1) := by decide +kernel
theorem dX3_tellAll_0 : decode cX3_tellAll 0 = .ok (.iconst 0, 1) := by decide +kernel
theorem dX3_tellAll_1 : decode cX3_tellAll 1 = .ok (.istore_n 3, 1) := by decide +kernel
theorem dX3_tellAll_2 : decode cX3_tellAll 2 = .ok (.iload_n 3, 1) := by decide +kernel
theorem dX3_tellAll_3 : decode cX3_tellAll 3 = .ok (.bipush 6, 2) := by decide +kernel
theorem dX3_tellAll_5 : decode cX3_tellAll 5 = .ok (.if_icmp .ge 27, 3) := by decide +kernel
theorem dX3_tellAll_8 : decode cX3_tellAll 8 = .ok (.iload_n 1, 1) := by decide +kernel
theorem dX3_tellAll_9 : decode cX3_tellAll 9 = .ok (.iload_n 3, 1) := by decide +kernel
theorem dX3_tellAll_10 : decode cX3_tellAll 10 = .ok (.invokestatic 84, 3) := by decide +kernel
theorem dX3_tellAll_13 : decode cX3_tellAll 13 = .ok (.ifCond .eq 13, 3) := by decide +kernel
theorem dX3_tellAll_16 : decode cX3_tellAll 16 = .ok (.aload_n 0, 1) := by decide +kernel
theorem dX3_tellAll_17 : decode cX3_tellAll 17 = .ok (.getfield 30, 3) := by decide +kernel
theorem dX3_tellAll_20 : decode cX3_tellAll 20 = .ok (.iload_n 3, 1) := by decide +kernel
theorem dX3_tellAll_21 : decode cX3_tellAll 21 = .ok (.dup2, 1) := by decide +kernel
theorem dX3_tellAll_22 : decode cX3_tellAll 22 = .ok (.iaload, 1) := by decide +kernel
theorem dX3_tellAll_23 : decode cX3_tellAll 23 = .ok (.iload_n 2, 1) := by decide +kernel
theorem dX3_tellAll_24 : decode cX3_tellAll 24 = .ok (.ior, 1) := by decide +kernel
theorem dX3_tellAll_25 : decode cX3_tellAll 25 = .ok (.iastore, 1) := by decide +kernel
theorem dX3_tellAll_26 : decode cX3_tellAll 26 = .ok (.iinc 3 1, 3) := by decide +kernel
theorem dX3_tellAll_29 : decode cX3_tellAll 29 = .ok (.goto (-27), 3) := by decide +kernel
theorem dX3_tellAll_32 : decode cX3_tellAll 32 = .ok (.return_, 1) := by decide +kernel
theorem dX3_arrive_0 : decode cX3_arrive 0 = .ok (.aload_n 0, 1) := by decide +kernel
theorem dX3_arrive_1 : decode cX3_arrive 1 = .ok (.getfield 24, 3) := by decide +kernel
theorem dX3_arrive_4 : decode cX3_arrive 4 = .ok (.iload_n 1, 1) := by decide +kernel
theorem dX3_arrive_5 : decode cX3_arrive 5 = .ok (.iload_n 2, 1) := by decide +kernel
theorem dX3_arrive_6 : decode cX3_arrive 6 = .ok (.iastore, 1) := by decide +kernel
theorem dX3_arrive_7 : decode cX3_arrive 7 = .ok (.aload_n 0, 1) := by decide +kernel
theorem dX3_arrive_8 : decode cX3_arrive 8 = .ok (.aload_n 0, 1) := by decide +kernel
theorem dX3_arrive_9 : decode cX3_arrive 9 = .ok (.iload_n 2, 1) := by decide +kernel
theorem dX3_arrive_10 : decode cX3_arrive 10 = .ok (.iconst 0, 1) := by decide +kernel
theorem dX3_arrive_11 : decode cX3_arrive 11 = .ok (.invokevirtual 138, 3) := by decide +kernel
theorem dX3_arrive_14 : decode cX3_arrive 14 = .ok (.aload_n 0, 1) := by decide +kernel
theorem dX3_arrive_15 : decode cX3_arrive 15 = .ok (.getfield 30, 3) := by decide +kernel
theorem dX3_arrive_18 : decode cX3_arrive 18 = .ok (.iload_n 1, 1) := by decide +kernel
theorem dX3_arrive_19 : decode cX3_arrive 19 = .ok (.iaload, 1) := by decide +kernel
theorem dX3_arrive_20 : decode cX3_arrive 20 = .ok (.invokevirtual 141, 3) := by decide +kernel
theorem dX3_arrive_23 : decode cX3_arrive 23 = .ok (.return_, 1) := by decide +kernel
theorem dJ6_bitCount_0f7a4_0 : decode cJ6_bitCount_0f7a4 0 = .ok (.iload_n 0, 1) := by decide +kernel
theorem dJ6_bitCount_0f7a4_1 : decode cJ6_bitCount_0f7a4 1 = .ok (.iload_n 0, 1) := by decide +kernel
theorem dJ6_bitCount_0f7a4_2 : decode cJ6_bitCount_0f7a4 2 = .ok (.iconst 1, 1) := by decide +kernel
theorem dJ6_bitCount_0f7a4_3 : decode cJ6_bitCount_0f7a4 3 = .ok (.iushr, 1) := by decide +kernel
theorem dJ6_bitCount_0f7a4_4 : decode cJ6_bitCount_0f7a4 4 = .ok (.ldc_w 265, 3) := by decide +kernel
theorem dJ6_bitCount_0f7a4_7 : decode cJ6_bitCount_0f7a4 7 = .ok (.iand, 1) := by decide +kernel
theorem dJ6_bitCount_0f7a4_8 : decode cJ6_bitCount_0f7a4 8 = .ok (.isub, 1) := by decide +kernel
theorem dJ6_bitCount_0f7a4_9 : decode cJ6_bitCount_0f7a4 9 = .ok (.istore_n 0, 1) := by decide +kernel
theorem dJ6_bitCount_0f7a4_10 : decode cJ6_bitCount_0f7a4 10 = .ok (.iload_n 0, 1) := by decide +kernel
theorem dJ6_bitCount_0f7a4_11 : decode cJ6_bitCount_0f7a4 11 = .ok (.ldc_w 266, 3) := by decide +kernel
theorem dJ6_bitCount_0f7a4_14 : decode cJ6_bitCount_0f7a4 14 = .ok (.iand, 1) := by decide +kernel
theorem dJ6_bitCount_0f7a4_15 : decode cJ6_bitCount_0f7a4 15 = .ok (.iload_n 0, 1) := by decide +kernel
theorem dJ6_bitCount_0f7a4_16 : decode cJ6_bitCount_0f7a4 16 = .ok (.iconst 2, 1) := by decide +kernel
theorem dJ6_bitCount_0f7a4_17 : decode cJ6_bitCount_0f7a4 17 = .ok (.iushr, 1) := by decide +kernel
theorem dJ6_bitCount_0f7a4_18 : decode cJ6_bitCount_0f7a4 18 = .ok (.ldc_w 266, 3) := by decide +kernel
theorem dJ6_bitCount_0f7a4_21 : decode cJ6_bitCount_0f7a4 21 = .ok (.iand, 1) := by decide +kernel
theorem dJ6_bitCount_0f7a4_22 : decode cJ6_bitCount_0f7a4 22 = .ok (.iadd, 1) := by decide +kernel
theorem dJ6_bitCount_0f7a4_23 : decode cJ6_bitCount_0f7a4 23 = .ok (.istore_n 0, 1) := by decide +kernel
theorem dJ6_bitCount_0f7a4_24 : decode cJ6_bitCount_0f7a4 24 = .ok (.iload_n 0, 1) := by decide +kernel
theorem dJ6_bitCount_0f7a4_25 : decode cJ6_bitCount_0f7a4 25 = .ok (.iload_n 0, 1) := by decide +kernel
theorem dJ6_bitCount_0f7a4_26 : decode cJ6_bitCount_0f7a4 26 = .ok (.iconst 4, 1) := by decide +kernel
theorem dJ6_bitCount_0f7a4_27 : decode cJ6_bitCount_0f7a4 27 = .ok (.iushr, 1) := by decide +kernel
theorem dJ6_bitCount_0f7a4_28 : decode cJ6_bitCount_0f7a4 28 = .ok (.iadd, 1) := by decide +kernel
theorem dJ6_bitCount_0f7a4_29 : decode cJ6_bitCount_0f7a4 29 = .ok (.ldc_w 267, 3) := by decide +kernel
theorem dJ6_bitCount_0f7a4_32 : decode cJ6_bitCount_0f7a4 32 = .ok (.iand, 1) := by decide +kernel
theorem dJ6_bitCount_0f7a4_33 : decode cJ6_bitCount_0f7a4 33 = .ok (.istore_n 0, 1) := by decide +kernel
theorem dJ6_bitCount_0f7a4_34 : decode cJ6_bitCount_0f7a4 34 = .ok (.iload_n 0, 1) := by decide +kernel
theorem dJ6_bitCount_0f7a4_35 : decode cJ6_bitCount_0f7a4 35 = .ok (.iload_n 0, 1) := by decide +kernel
theorem dJ6_bitCount_0f7a4_36 : decode cJ6_bitCount_0f7a4 36 = .ok (.bipush 8, 2) := by decide +kernel
theorem dJ6_bitCount_0f7a4_38 : decode cJ6_bitCount_0f7a4 38 = .ok (.iushr, 1) := by decide +kernel
theorem dJ6_bitCount_0f7a4_39 : decode cJ6_bitCount_0f7a4 39 = .ok (.iadd, 1) := by decide +kernel
theorem dJ6_bitCount_0f7a4_40 : decode cJ6_bitCount_0f7a4 40 = .ok (.istore_n 0, 1) := by decide +kernel
theorem dJ6_bitCount_0f7a4_41 : decode cJ6_bitCount_0f7a4 41 = .ok (.iload_n 0, 1) := by decide +kernel
theorem dJ6_bitCount_0f7a4_42 : decode cJ6_bitCount_0f7a4 42 = .ok (.iload_n 0, 1) := by decide +kernel
theorem dJ6_bitCount_0f7a4_43 : decode cJ6_bitCount_0f7a4 43 = .ok (.bipush 16, 2) := by decide +kernel
theorem dJ6_bitCount_0f7a4_45 : decode cJ6_bitCount_0f7a4 45 = .ok (.iushr, 1) := by decide +kernel
theorem dJ6_bitCount_0f7a4_46 : decode cJ6_bitCount_0f7a4 46 = .ok (.iadd, 1) := by decide +kernel
theorem dJ6_bitCount_0f7a4_47 : decode cJ6_bitCount_0f7a4 47 = .ok (.istore_n 0, 1) := by decide +kernel
theorem dJ6_bitCount_0f7a4_48 : decode cJ6_bitCount_0f7a4 48 = .ok (.iload_n 0, 1) := by decide +kernel
theorem dJ6_bitCount_0f7a4_49 : decode cJ6_bitCount_0f7a4 49 = .ok (.bipush 63, 2) := by decide +kernel
theorem dJ6_bitCount_0f7a4_51 : decode cJ6_bitCount_0f7a4 51 = .ok (.iand, 1) := by decide +kernel
theorem dJ6_bitCount_0f7a4_52 : decode cJ6_bitCount_0f7a4 52 = .ok (.ireturn, 1) := by decide +kernel
theorem dJ9_floorDiv_7cf53_0 : decode cJ9_floorDiv_7cf53 0 = .ok (.iload_n 0, 1) := by decide +kernel
theorem dJ9_floorDiv_7cf53_1 : decode cJ9_floorDiv_7cf53 1 = .ok (.iload_n 1, 1) := by decide +kernel
theorem dJ9_floorDiv_7cf53_2 : decode cJ9_floorDiv_7cf53 2 = .ok (.idiv, 1) := by decide +kernel
theorem dJ9_floorDiv_7cf53_3 : decode cJ9_floorDiv_7cf53 3 = .ok (.istore_n 2, 1) := by decide +kernel
theorem dJ9_floorDiv_7cf53_4 : decode cJ9_floorDiv_7cf53 4 = .ok (.iload_n 0, 1) := by decide +kernel
theorem dJ9_floorDiv_7cf53_5 : decode cJ9_floorDiv_7cf53 5 = .ok (.iload_n 1, 1) := by decide +kernel
theorem dJ9_floorDiv_7cf53_6 : decode cJ9_floorDiv_7cf53 6 = .ok (.ixor, 1) := by decide +kernel
theorem dJ9_floorDiv_7cf53_7 : decode cJ9_floorDiv_7cf53 7 = .ok (.ifCond .ge 14, 3) := by decide +kernel
theorem dJ9_floorDiv_7cf53_10 : decode cJ9_floorDiv_7cf53 10 = .ok (.iload_n 2, 1) := by decide +kernel
theorem dJ9_floorDiv_7cf53_11 : decode cJ9_floorDiv_7cf53 11 = .ok (.iload_n 1, 1) := by decide +kernel
theorem dJ9_floorDiv_7cf53_12 : decode cJ9_floorDiv_7cf53 12 = .ok (.imul, 1) := by decide +kernel
theorem dJ9_floorDiv_7cf53_13 : decode cJ9_floorDiv_7cf53 13 = .ok (.iload_n 0, 1) := by decide +kernel
theorem dJ9_floorDiv_7cf53_14 : decode cJ9_floorDiv_7cf53 14 = .ok (.if_icmp .eq 7, 3) := by decide +kernel
theorem dJ9_floorDiv_7cf53_17 : decode cJ9_floorDiv_7cf53 17 = .ok (.iload_n 2, 1) := by decide +kernel
theorem dJ9_floorDiv_7cf53_18 : decode cJ9_floorDiv_7cf53 18 = .ok (.iconst 1, 1) := by decide +kernel
theorem dJ9_floorDiv_7cf53_19 : decode cJ9_floorDiv_7cf53 19 = .ok (.isub, 1) := by decide +kernel
theorem dJ9_floorDiv_7cf53_20 : decode cJ9_floorDiv_7cf53 20 = .ok (.ireturn, 1) := by decide +kernel
theorem dJ9_floorDiv_7cf53_21 : decode cJ9_floorDiv_7cf53 21 = .ok (.iload_n 2, 1) := by decide +kernel
theorem dJ9_floorDiv_7cf53_22 : decode cJ9_floorDiv_7cf53 22 = .ok (.ireturn, 1) := by decide +kernel
theorem dJ9_max_7cf53_0 : decode cJ9_max_7cf53 0 = .ok (.iload_n 0, 1) := by decide +kernel
theorem dJ9_max_7cf53_1 : decode cJ9_max_7cf53 1 = .ok (.iload_n 1, 1) := by decide +kernel
theorem dJ9_max_7cf53_2 : decode cJ9_max_7cf53 2 = .ok (.if_icmp .lt 7, 3) := by decide +kernel
theorem dJ9_max_7cf53_5 : decode cJ9_max_7cf53 5 = .ok (.iload_n 0, 1) := by decide +kernel
theorem dJ9_max_7cf53_6 : decode cJ9_max_7cf53 6 = .ok (.goto 4, 3) := by decide +kernel
theorem dJ9_max_7cf53_9 : decode cJ9_max_7cf53 9 = .ok (.iload_n 1, 1) := by decide +kernel
theorem dJ9_max_7cf53_10 : decode cJ9_max_7cf53 10 = .ok (.ireturn, 1) := by decide +kernel
theorem dJ9_max_f86c9_0 : decode cJ9_max_f86c9 0 = .ok (.lload_n 0, 1) := by decide +kernel
theorem dJ9_max_f86c9_1 : decode cJ9_max_f86c9 1 = .ok (.lload_n 2, 1) := by decide +kernel
theorem dJ9_max_f86c9_2 : decode cJ9_max_f86c9 2 = .ok (.lcmp, 1) := by decide +kernel
theorem dJ9_max_f86c9_3 : decode cJ9_max_f86c9 3 = .ok (.ifCond .lt 7, 3) := by decide +kernel
theorem dJ9_max_f86c9_6 : decode cJ9_max_f86c9 6 = .ok (.lload_n 0, 1) := by decide +kernel
theorem dJ9_max_f86c9_7 : decode cJ9_max_f86c9 7 = .ok (.goto 4, 3) := by decide +kernel
theorem dJ9_max_f86c9_10 : decode cJ9_max_f86c9 10 = .ok (.lload_n 2, 1) := by decide +kernel
theorem dJ9_max_f86c9_11 : decode cJ9_max_f86c9 11 = .ok (.lreturn, 1) := by decide +kernel
theorem dJ9_min_7cf53_0 : decode cJ9_min_7cf53 0 = .ok (.iload_n 0, 1) := by decide +kernel
theorem dJ9_min_7cf53_1 : decode cJ9_min_7cf53 1 = .ok (.iload_n 1, 1) := by decide +kernel
theorem dJ9_min_7cf53_2 : decode cJ9_min_7cf53 2 = .ok (.if_icmp .gt 7, 3) := by decide +kernel
theorem dJ9_min_7cf53_5 : decode cJ9_min_7cf53 5 = .ok (.iload_n 0, 1) := by decide +kernel
theorem dJ9_min_7cf53_6 : decode cJ9_min_7cf53 6 = .ok (.goto 4, 3) := by decide +kernel
theorem dJ9_min_7cf53_9 : decode cJ9_min_7cf53 9 = .ok (.iload_n 1, 1) := by decide +kernel
theorem dJ9_min_7cf53_10 : decode cJ9_min_7cf53 10 = .ok (.ireturn, 1) := by decide +kernel
theorem dJ7_fill_53178_0 : decode cJ7_fill_53178 0 = .ok (.iconst 0, 1) := by decide +kernel
theorem dJ7_fill_53178_1 : decode cJ7_fill_53178 1 = .ok (.istore_n 2, 1) := by decide +kernel
theorem dJ7_fill_53178_2 : decode cJ7_fill_53178 2 = .ok (.aload_n 0, 1) := by decide +kernel
theorem dJ7_fill_53178_3 : decode cJ7_fill_53178 3 = .ok (.arraylength, 1) := by decide +kernel
theorem dJ7_fill_53178_4 : decode cJ7_fill_53178 4 = .ok (.istore_n 3, 1) := by decide +kernel
theorem dJ7_fill_53178_5 : decode cJ7_fill_53178 5 = .ok (.iload_n 2, 1) := by decide +kernel
theorem dJ7_fill_53178_6 : decode cJ7_fill_53178 6 = .ok (.iload_n 3, 1) := by decide +kernel
theorem dJ7_fill_53178_7 : decode cJ7_fill_53178 7 = .ok (.if_icmp .ge 13, 3) := by decide +kernel
theorem dJ7_fill_53178_10 : decode cJ7_fill_53178 10 = .ok (.aload_n 0, 1) := by decide +kernel
theorem dJ7_fill_53178_11 : decode cJ7_fill_53178 11 = .ok (.iload_n 2, 1) := by decide +kernel
theorem dJ7_fill_53178_12 : decode cJ7_fill_53178 12 = .ok (.iload_n 1, 1) := by decide +kernel
theorem dJ7_fill_53178_13 : decode cJ7_fill_53178 13 = .ok (.iastore, 1) := by decide +kernel
theorem dJ7_fill_53178_14 : decode cJ7_fill_53178 14 = .ok (.iinc 2 1, 3) := by decide +kernel
theorem dJ7_fill_53178_17 : decode cJ7_fill_53178 17 = .ok (.goto (-12), 3) := by decide +kernel
theorem dJ7_fill_53178_20 : decode cJ7_fill_53178 20 = .ok (.return_, 1) := by decide +kernel
