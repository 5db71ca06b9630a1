theorem dX4_init_0 : decode cX4_init 0 = .ok (.aload_n 0, 1) := by decide +kernel
theorem dX4_init_1 : decode cX4_init 1 = .ok (.invokespecial 1, 3) := by decide +kernel
theorem dX4_init_4 : decode cX4_init 4 = .ok (.aload_n 0, 1) := by decide +kernel
theorem dX4_init_5 : decode cX4_init 5 = .ok (.new 7, 3) := by decide +kernel
theorem dX4_init_8 : decode cX4_init 8 = .ok (.dup, 1) := by decide +kernel
theorem dX4_init_9 : decode cX4_init 9 = .ok (.invokespecial 9, 3) := by decide +kernel
theorem dX4_init_12 : decode cX4_init 12 = .ok (.putfield 10, 3) := by decide +kernel
theorem dX4_init_15 : decode cX4_init 15 = .ok (.aload_n 0, 1) := by decide +kernel
theorem dX4_init_16 : decode cX4_init 16 = .ok (.new 7, 3) := by decide +kernel
theorem dX4_init_19 : decode cX4_init 19 = .ok (.dup, 1) := by decide +kernel
theorem dX4_init_20 : decode cX4_init 20 = .ok (.invokespecial 9, 3) := by decide +kernel
theorem dX4_init_23 : decode cX4_init 23 = .ok (.putfield 16, 3) := by decide +kernel
theorem dX4_init_26 : decode cX4_init 26 = .ok (.aload_n 0, 1) := by decide +kernel
theorem dX4_init_27 : decode cX4_init 27 = .ok (.iconst 2, 1) := by decide +kernel
theorem dX4_init_28 : decode cX4_init 28 = .ok (.anewarray 7, 3) := by decide +kernel
theorem dX4_init_31 : decode cX4_init 31 = .ok (.putfield 19, 3) := by decide +kernel
theorem dX4_init_34 : decode cX4_init 34 = .ok (.aload_n 0, 1) := by decide +kernel
theorem dX4_init_35 : decode cX4_init 35 = .ok (.new 23, 3) := by decide +kernel
theorem dX4_init_38 : decode cX4_init 38 = .ok (.dup, 1) := by decide +kernel
theorem dX4_init_39 : decode cX4_init 39 = .ok (.invokespecial 25, 3) := by decide +kernel
theorem dX4_init_42 : decode cX4_init 42 = .ok (.putfield 26, 3) := by decide +kernel
theorem dX4_init_45 : decode cX4_init 45 = .ok (.aload_n 0, 1) := by decide +kernel
theorem dX4_init_46 : decode cX4_init 46 = .ok (.new 30, 3) := by decide +kernel
theorem dX4_init_49 : decode cX4_init 49 = .ok (.dup, 1) := by decide +kernel
theorem dX4_init_50 : decode cX4_init 50 = .ok (.invokespecial 32, 3) := by decide +kernel
theorem dX4_init_53 : decode cX4_init 53 = .ok (.putfield 33, 3) := by decide +kernel
theorem dX4_init_56 : decode cX4_init 56 = .ok (.aload_n 0, 1) := by decide +kernel
theorem dX4_init_57 : decode cX4_init 57 = .ok (.new 37, 3) := by decide +kernel
theorem dX4_init_60 : decode cX4_init 60 = .ok (.dup, 1) := by decide +kernel
theorem dX4_init_61 : decode cX4_init 61 = .ok (.invokespecial 39, 3) := by decide +kernel
theorem dX4_init_64 : decode cX4_init 64 = .ok (.putfield 40, 3) := by decide +kernel
theorem dX4_init_67 : decode cX4_init 67 = .ok (.return_, 1) := by decide +kernel
theorem dX4_terraces_0 : decode cX4_terraces 0 = .ok (.iload_n 1, 1) := by decide +kernel
theorem dX4_terraces_1 : decode cX4_terraces 1 = .ok (.iconst 2, 1) := by decide +kernel
theorem dX4_terraces_2 : decode cX4_terraces 2 = .ok (.bipush 6, 2) := by decide +kernel
theorem dX4_terraces_4 : decode cX4_terraces 4 = .ok (.invokestatic 44, 3) := by decide +kernel
theorem dX4_terraces_7 : decode cX4_terraces 7 = .ok (.ifCond .ne 6, 3) := by decide +kernel
theorem dX4_terraces_10 : decode cX4_terraces 10 = .ok (.bipush (-2), 2) := by decide +kernel
theorem dX4_terraces_12 : decode cX4_terraces 12 = .ok (.ireturn, 1) := by decide +kernel
theorem dX4_terraces_13 : decode cX4_terraces 13 = .ok (.aload_n 0, 1) := by decide +kernel
theorem dX4_terraces_14 : decode cX4_terraces 14 = .ok (.getfield 10, 3) := by decide +kernel
theorem dX4_terraces_17 : decode cX4_terraces 17 = .ok (.getfield 48, 3) := by decide +kernel
theorem dX4_terraces_20 : decode cX4_terraces 20 = .ok (.istore_n 2, 1) := by decide +kernel
theorem dX4_terraces_21 : decode cX4_terraces 21 = .ok (.aload_n 0, 1) := by decide +kernel
theorem dX4_terraces_22 : decode cX4_terraces 22 = .ok (.getfield 10, 3) := by decide +kernel
theorem dX4_terraces_25 : decode cX4_terraces 25 = .ok (.iload_n 1, 1) := by decide +kernel
theorem dX4_terraces_26 : decode cX4_terraces 26 = .ok (.invokevirtual 52, 3) := by decide +kernel
theorem dX4_terraces_29 : decode cX4_terraces 29 = .ok (.iload_n 2, 1) := by decide +kernel
theorem dX4_terraces_30 : decode cX4_terraces 30 = .ok (.ireturn, 1) := by decide +kernel
theorem dX4_bridge_0 : decode cX4_bridge 0 = .ok (.iload_n 1, 1) := by decide +kernel
theorem dX4_bridge_1 : decode cX4_bridge 1 = .ok (.iconst 0, 1) := by decide +kernel
theorem dX4_bridge_2 : decode cX4_bridge 2 = .ok (.bipush 7, 2) := by decide +kernel
theorem dX4_bridge_4 : decode cX4_bridge 4 = .ok (.invokestatic 44, 3) := by decide +kernel
theorem dX4_bridge_7 : decode cX4_bridge 7 = .ok (.ifCond .eq 30, 3) := by decide +kernel
theorem dX4_bridge_10 : decode cX4_bridge 10 = .ok (.aload_n 0, 1) := by decide +kernel
theorem dX4_bridge_11 : decode cX4_bridge 11 = .ok (.getfield 10, 3) := by decide +kernel
theorem dX4_bridge_14 : decode cX4_bridge 14 = .ok (.iload_n 2, 1) := by decide +kernel
theorem dX4_bridge_15 : decode cX4_bridge 15 = .ok (.invokevirtual 56, 3) := by decide +kernel
theorem dX4_bridge_18 : decode cX4_bridge 18 = .ok (.ifCond .eq 19, 3) := by decide +kernel
theorem dX4_bridge_21 : decode cX4_bridge 21 = .ok (.aload_n 0, 1) := by decide +kernel
theorem dX4_bridge_22 : decode cX4_bridge 22 = .ok (.getfield 10, 3) := by decide +kernel
theorem dX4_bridge_25 : decode cX4_bridge 25 = .ok (.iload_n 3, 1) := by decide +kernel
theorem dX4_bridge_26 : decode cX4_bridge 26 = .ok (.invokevirtual 56, 3) := by decide +kernel
theorem dX4_bridge_29 : decode cX4_bridge 29 = .ok (.ifCond .eq 8, 3) := by decide +kernel
theorem dX4_bridge_32 : decode cX4_bridge 32 = .ok (.iload_n 2, 1) := by decide +kernel
theorem dX4_bridge_33 : decode cX4_bridge 33 = .ok (.iload_n 3, 1) := by decide +kernel
theorem dX4_bridge_34 : decode cX4_bridge 34 = .ok (.if_icmp .ne 5, 3) := by decide +kernel
theorem dX4_bridge_37 : decode cX4_bridge 37 = .ok (.iconst (-1), 1) := by decide +kernel
theorem dX4_bridge_38 : decode cX4_bridge 38 = .ok (.ireturn, 1) := by decide +kernel
theorem dX4_bridge_39 : decode cX4_bridge 39 = .ok (.iload 4, 2) := by decide +kernel
theorem dX4_bridge_41 : decode cX4_bridge 41 = .ok (.iconst 0, 1) := by decide +kernel
theorem dX4_bridge_42 : decode cX4_bridge 42 = .ok (.bipush 99, 2) := by decide +kernel
theorem dX4_bridge_44 : decode cX4_bridge 44 = .ok (.invokestatic 44, 3) := by decide +kernel
theorem dX4_bridge_47 : decode cX4_bridge 47 = .ok (.ifCond .ne 6, 3) := by decide +kernel
theorem dX4_bridge_50 : decode cX4_bridge 50 = .ok (.bipush (-2), 2) := by decide +kernel
theorem dX4_bridge_52 : decode cX4_bridge 52 = .ok (.ireturn, 1) := by decide +kernel
theorem dX4_bridge_53 : decode cX4_bridge 53 = .ok (.aload_n 0, 1) := by decide +kernel
theorem dX4_bridge_54 : decode cX4_bridge 54 = .ok (.getfield 10, 3) := by decide +kernel
theorem dX4_bridge_57 : decode cX4_bridge 57 = .ok (.dup, 1) := by decide +kernel
theorem dX4_bridge_58 : decode cX4_bridge 58 = .ok (.getfield 60, 3) := by decide +kernel
theorem dX4_bridge_61 : decode cX4_bridge 61 = .ok (.iconst 1, 1) := by decide +kernel
theorem dX4_bridge_62 : decode cX4_bridge 62 = .ok (.iload_n 1, 1) := by decide +kernel
theorem dX4_bridge_63 : decode cX4_bridge 63 = .ok (.ishl, 1) := by decide +kernel
theorem dX4_bridge_64 : decode cX4_bridge 64 = .ok (.ior, 1) := by decide +kernel
theorem dX4_bridge_65 : decode cX4_bridge 65 = .ok (.putfield 60, 3) := by decide +kernel
theorem dX4_bridge_68 : decode cX4_bridge 68 = .ok (.aload_n 0, 1) := by decide +kernel
theorem dX4_bridge_69 : decode cX4_bridge 69 = .ok (.getfield 10, 3) := by decide +kernel
theorem dX4_bridge_72 : decode cX4_bridge 72 = .ok (.getfield 63, 3) := by decide +kernel
theorem dX4_bridge_75 : decode cX4_bridge 75 = .ok (.iload_n 1, 1) := by decide +kernel
theorem dX4_bridge_76 : decode cX4_bridge 76 = .ok (.iload_n 2, 1) := by decide +kernel
theorem dX4_bridge_77 : decode cX4_bridge 77 = .ok (.iload_n 3, 1) := by decide +kernel
theorem dX4_bridge_78 : decode cX4_bridge 78 = .ok (.invokestatic 67, 3) := by decide +kernel
theorem dX4_bridge_81 : decode cX4_bridge 81 = .ok (.iastore, 1) := by decide +kernel
theorem dX4_bridge_82 : decode cX4_bridge 82 = .ok (.aload_n 0, 1) := by decide +kernel
theorem dX4_bridge_83 : decode cX4_bridge 83 = .ok (.getfield 10, 3) := by decide +kernel
theorem dX4_bridge_86 : decode cX4_bridge 86 = .ok (.getfield 73, 3) := by decide +kernel
theorem dX4_bridge_89 : decode cX4_bridge 89 = .ok (.iload_n 1, 1) := by decide +kernel
theorem dX4_bridge_90 : decode cX4_bridge 90 = .ok (.iload_n 2, 1) := by decide +kernel
theorem dX4_bridge_91 : decode cX4_bridge 91 = .ok (.iload_n 3, 1) := by decide +kernel
theorem dX4_bridge_92 : decode cX4_bridge 92 = .ok (.invokestatic 76, 3) := by decide +kernel
theorem dX4_bridge_95 : decode cX4_bridge 95 = .ok (.iastore, 1) := by decide +kernel
theorem dX4_bridge_96 : decode cX4_bridge 96 = .ok (.aload_n 0, 1) := by decide +kernel
theorem dX4_bridge_97 : decode cX4_bridge 97 = .ok (.getfield 10, 3) := by decide +kernel
theorem dX4_bridge_100 : decode cX4_bridge 100 = .ok (.getfield 79, 3) := by decide +kernel
theorem dX4_bridge_103 : decode cX4_bridge 103 = .ok (.iload_n 1, 1) := by decide +kernel
theorem dX4_bridge_104 : decode cX4_bridge 104 = .ok (.iload 4, 2) := by decide +kernel
theorem dX4_bridge_106 : decode cX4_bridge 106 = .ok (.iastore, 1) := by decide +kernel
theorem dX4_bridge_107 : decode cX4_bridge 107 = .ok (.aload_n 0, 1) := by decide +kernel
theorem dX4_bridge_108 : decode cX4_bridge 108 = .ok (.getfield 10, 3) := by decide +kernel
theorem dX4_bridge_111 : decode cX4_bridge 111 = .ok (.getfield 82, 3) := by decide +kernel
theorem dX4_bridge_114 : decode cX4_bridge 114 = .ok (.iload_n 1, 1) := by decide +kernel
theorem dX4_bridge_115 : decode cX4_bridge 115 = .ok (.iconst 0, 1) := by decide +kernel
theorem dX4_bridge_116 : decode cX4_bridge 116 = .ok (.iastore, 1) := by decide +kernel
theorem dX4_bridge_117 : decode cX4_bridge 117 = .ok (.aload_n 0, 1) := by decide +kernel
theorem dX4_bridge_118 : decode cX4_bridge 118 = .ok (.getfield 10, 3) := by decide +kernel
theorem dX4_bridge_121 : decode cX4_bridge 121 = .ok (.getfield 60, 3) := by decide +kernel
theorem dX4_bridge_124 : decode cX4_bridge 124 = .ok (.invokestatic 85, 3) := by decide +kernel
theorem dX4_bridge_127 : decode cX4_bridge 127 = .ok (.ireturn, 1) := by decide +kernel
theorem dX4_fall_0 : decode cX4_fall 0 = .ok (.aload_n 0, 1) := by decide +kernel
theorem dX4_fall_1 : decode cX4_fall 1 = .ok (.getfield 10, 3) := by decide +kernel
theorem dX4_fall_4 : decode cX4_fall 4 = .ok (.iload_n 1, 1) := by decide +kernel
theorem dX4_fall_5 : decode cX4_fall 5 = .ok (.invokevirtual 91, 3) := by decide +kernel
theorem dX4_fall_8 : decode cX4_fall 8 = .ok (.ifCond .ne 5, 3) := by decide +kernel
theorem dX4_fall_11 : decode cX4_fall 11 = .ok (.iconst (-1), 1) := by decide +kernel
theorem dX4_fall_12 : decode cX4_fall 12 = .ok (.ireturn, 1) := by decide +kernel
theorem dX4_fall_13 : decode cX4_fall 13 = .ok (.aload_n 0, 1) := by decide +kernel
theorem dX4_fall_14 : decode cX4_fall 14 = .ok (.getfield 10, 3) := by decide +kernel
theorem dX4_fall_17 : decode cX4_fall 17 = .ok (.dup, 1) := by decide +kernel
theorem dX4_fall_18 : decode cX4_fall 18 = .ok (.getfield 60, 3) := by decide +kernel
theorem dX4_fall_21 : decode cX4_fall 21 = .ok (.iconst 1, 1) := by decide +kernel
theorem dX4_fall_22 : decode cX4_fall 22 = .ok (.iload_n 1, 1) := by decide +kernel
theorem dX4_fall_23 : decode cX4_fall 23 = .ok (.ishl, 1) := by decide +kernel
theorem dX4_fall_24 : decode cX4_fall 24 = .ok (.iconst (-1), 1) := by decide +kernel
theorem dX4_fall_25 : decode cX4_fall 25 = .ok (.ixor, 1) := by decide +kernel
theorem dX4_fall_26 : decode cX4_fall 26 = .ok (.iand, 1) := by decide +kernel
theorem dX4_fall_27 : decode cX4_fall 27 = .ok (.putfield 60, 3) := by decide +kernel
theorem dX4_fall_30 : decode cX4_fall 30 = .ok (.aload_n 0, 1) := by decide +kernel
theorem dX4_fall_31 : decode cX4_fall 31 = .ok (.getfield 10, 3) := by decide +kernel
theorem dX4_fall_34 : decode cX4_fall 34 = .ok (.getfield 60, 3) := by decide +kernel
theorem dX4_fall_37 : decode cX4_fall 37 = .ok (.invokestatic 85, 3) := by decide +kernel
theorem dX4_fall_40 : decode cX4_fall 40 = .ok (.ireturn, 1) := by decide +kernel
theorem dX4_person_0 : decode cX4_person 0 = .ok (.iload_n 1, 1) := by decide +kernel
theorem dX4_person_1 : decode cX4_person 1 = .ok (.iconst 0, 1) := by decide +kernel
theorem dX4_person_2 : decode cX4_person 2 = .ok (.iconst 5, 1) := by decide +kernel
theorem dX4_person_3 : decode cX4_person 3 = .ok (.invokestatic 44, 3) := by decide +kernel
theorem dX4_person_6 : decode cX4_person 6 = .ok (.ifCond .eq 14, 3) := by decide +kernel
theorem dX4_person_9 : decode cX4_person 9 = .ok (.aload_n 0, 1) := by decide +kernel
theorem dX4_person_10 : decode cX4_person 10 = .ok (.getfield 10, 3) := by decide +kernel
theorem dX4_person_13 : decode cX4_person 13 = .ok (.iload_n 2, 1) := by decide +kernel
theorem dX4_person_14 : decode cX4_person 14 = .ok (.invokevirtual 56, 3) := by decide +kernel
theorem dX4_person_17 : decode cX4_person 17 = .ok (.ifCond .ne 5, 3) := by decide +kernel
theorem dX4_person_20 : decode cX4_person 20 = .ok (.iconst (-1), 1) := by decide +kernel
theorem dX4_person_21 : decode cX4_person 21 = .ok (.ireturn, 1) := by decide +kernel
theorem dX4_person_22 : decode cX4_person 22 = .ok (.iload_n 3, 1) := by decide +kernel
theorem dX4_person_23 : decode cX4_person 23 = .ok (.iconst 0, 1) := by decide +kernel
theorem dX4_person_24 : decode cX4_person 24 = .ok (.iconst 2, 1) := by decide +kernel
theorem dX4_person_25 : decode cX4_person 25 = .ok (.invokestatic 44, 3) := by decide +kernel
theorem dX4_person_28 : decode cX4_person 28 = .ok (.ifCond .ne 6, 3) := by decide +kernel
theorem dX4_person_31 : decode cX4_person 31 = .ok (.bipush (-2), 2) := by decide +kernel
theorem dX4_person_33 : decode cX4_person 33 = .ok (.ireturn, 1) := by decide +kernel
theorem dX4_person_34 : decode cX4_person 34 = .ok (.aload_n 0, 1) := by decide +kernel
theorem dX4_person_35 : decode cX4_person 35 = .ok (.getfield 10, 3) := by decide +kernel
theorem dX4_person_38 : decode cX4_person 38 = .ok (.dup, 1) := by decide +kernel
theorem dX4_person_39 : decode cX4_person 39 = .ok (.getfield 94, 3) := by decide +kernel
theorem dX4_person_42 : decode cX4_person 42 = .ok (.iconst 1, 1) := by decide +kernel
theorem dX4_person_43 : decode cX4_person 43 = .ok (.iload_n 1, 1) := by decide +kernel
theorem dX4_person_44 : decode cX4_person 44 = .ok (.ishl, 1) := by decide +kernel
theorem dX4_person_45 : decode cX4_person 45 = .ok (.ior, 1) := by decide +kernel
theorem dX4_person_46 : decode cX4_person 46 = .ok (.putfield 94, 3) := by decide +kernel
theorem dX4_person_49 : decode cX4_person 49 = .ok (.aload_n 0, 1) := by decide +kernel
theorem dX4_person_50 : decode cX4_person 50 = .ok (.getfield 10, 3) := by decide +kernel
theorem dX4_person_53 : decode cX4_person 53 = .ok (.getfield 97, 3) := by decide +kernel
theorem dX4_person_56 : decode cX4_person 56 = .ok (.iload_n 1, 1) := by decide +kernel
theorem dX4_person_57 : decode cX4_person 57 = .ok (.iload_n 2, 1) := by decide +kernel
theorem dX4_person_58 : decode cX4_person 58 = .ok (.iastore, 1) := by decide +kernel
theorem dX4_person_59 : decode cX4_person 59 = .ok (.aload_n 0, 1) := by decide +kernel
theorem dX4_person_60 : decode cX4_person 60 = .ok (.getfield 10, 3) := by decide +kernel
theorem dX4_person_63 : decode cX4_person 63 = .ok (.getfield 100, 3) := by decide +kernel
theorem dX4_person_66 : decode cX4_person 66 = .ok (.iload_n 1, 1) := by decide +kernel
theorem dX4_person_67 : decode cX4_person 67 = .ok (.iload_n 3, 1) := by decide +kernel
theorem dX4_person_68 : decode cX4_person 68 = .ok (.iastore, 1) := by decide +kernel
theorem dX4_person_69 : decode cX4_person 69 = .ok (.aload_n 0, 1) := by decide +kernel
theorem dX4_person_70 : decode cX4_person 70 = .ok (.getfield 10, 3) := by decide +kernel
theorem dX4_person_73 : decode cX4_person 73 = .ok (.getfield 103, 3) := by decide +kernel
theorem dX4_person_76 : decode cX4_person 76 = .ok (.iload_n 1, 1) := by decide +kernel
theorem dX4_person_77 : decode cX4_person 77 = .ok (.iconst 0, 1) := by decide +kernel
theorem dX4_person_78 : decode cX4_person 78 = .ok (.iastore, 1) := by decide +kernel
theorem dX4_person_79 : decode cX4_person 79 = .ok (.aload_n 0, 1) := by decide +kernel
theorem dX4_person_80 : decode cX4_person 80 = .ok (.getfield 10, 3) := by decide +kernel
theorem dX4_person_83 : decode cX4_person 83 = .ok (.getfield 94, 3) := by decide +kernel
theorem dX4_person_86 : decode cX4_person 86 = .ok (.invokestatic 85, 3) := by decide +kernel
theorem dX4_person_89 : decode cX4_person 89 = .ok (.ireturn, 1) := by decide +kernel
theorem dX4_leave_0 : decode cX4_leave 0 = .ok (.aload_n 0, 1) := by decide +kernel
theorem dX4_leave_1 : decode cX4_leave 1 = .ok (.getfield 10, 3) := by decide +kernel
theorem dX4_leave_4 : decode cX4_leave 4 = .ok (.iload_n 1, 1) := by decide +kernel
theorem dX4_leave_5 : decode cX4_leave 5 = .ok (.invokevirtual 106, 3) := by decide +kernel
theorem dX4_leave_8 : decode cX4_leave 8 = .ok (.ifCond .ne 5, 3) := by decide +kernel
theorem dX4_leave_11 : decode cX4_leave 11 = .ok (.iconst (-1), 1) := by decide +kernel
theorem dX4_leave_12 : decode cX4_leave 12 = .ok (.ireturn, 1) := by decide +kernel
theorem dX4_leave_13 : decode cX4_leave 13 = .ok (.aload_n 0, 1) := by decide +kernel
theorem dX4_leave_14 : decode cX4_leave 14 = .ok (.getfield 10, 3) := by decide +kernel
theorem dX4_leave_17 : decode cX4_leave 17 = .ok (.dup, 1) := by decide +kernel
theorem dX4_leave_18 : decode cX4_leave 18 = .ok (.getfield 94, 3) := by decide +kernel
theorem dX4_leave_21 : decode cX4_leave 21 = .ok (.iconst 1, 1) := by decide +kernel
theorem dX4_leave_22 : decode cX4_leave 22 = .ok (.iload_n 1, 1) := by decide +kernel
theorem dX4_leave_23 : decode cX4_leave 23 = .ok (.ishl, 1) := by decide +kernel
theorem dX4_leave_24 : decode cX4_leave 24 = .ok (.iconst (-1), 1) := by decide +kernel
theorem dX4_leave_25 : decode cX4_leave 25 = .ok (.ixor, 1) := by decide +kernel
theorem dX4_leave_26 : decode cX4_leave 26 = .ok (.iand, 1) := by decide +kernel
theorem dX4_leave_27 : decode cX4_leave 27 = .ok (.putfield 94, 3) := by decide +kernel
theorem dX4_leave_30 : decode cX4_leave 30 = .ok (.aload_n 0, 1) := by decide +kernel
theorem dX4_leave_31 : decode cX4_leave 31 = .ok (.getfield 10, 3) := by decide +kernel
theorem dX4_leave_34 : decode cX4_leave 34 = .ok (.getfield 103, 3) := by decide +kernel
theorem dX4_leave_37 : decode cX4_leave 37 = .ok (.iload_n 1, 1) := by decide +kernel
theorem dX4_leave_38 : decode cX4_leave 38 = .ok (.iconst 0, 1) := by decide +kernel
theorem dX4_leave_39 : decode cX4_leave 39 = .ok (.iastore, 1) := by decide +kernel
theorem dX4_leave_40 : decode cX4_leave 40 = .ok (.aload_n 0, 1) := by decide +kernel
theorem dX4_leave_41 : decode cX4_leave 41 = .ok (.getfield 10, 3) := by decide +kernel
theorem dX4_leave_44 : decode cX4_leave 44 = .ok (.getfield 94, 3) := by decide +kernel
theorem dX4_leave_47 : decode cX4_leave 47 = .ok (.invokestatic 85, 3) := by decide +kernel
theorem dX4_leave_50 : decode cX4_leave 50 = .ok (.ireturn, 1) := by decide +kernel
theorem dX4_news_0 : decode cX4_news 0 = .ok (.iload_n 1, 1) := by decide +kernel
theorem dX4_news_1 : decode cX4_news 1 = .ok (.invokestatic 109, 3) := by decide +kernel
theorem dX4_news_4 : decode cX4_news 4 = .ok (.ifCond .ne 5, 3) := by decide +kernel
theorem dX4_news_7 : decode cX4_news 7 = .ok (.iconst (-1), 1) := by decide +kernel
theorem dX4_news_8 : decode cX4_news 8 = .ok (.ireturn, 1) := by decide +kernel
theorem dX4_news_9 : decode cX4_news 9 = .ok (.iload_n 2, 1) := by decide +kernel
theorem dX4_news_10 : decode cX4_news 10 = .ok (.bipush (-20), 2) := by decide +kernel
theorem dX4_news_12 : decode cX4_news 12 = .ok (.bipush 99, 2) := by decide +kernel
theorem dX4_news_14 : decode cX4_news 14 = .ok (.invokestatic 44, 3) := by decide +kernel
theorem dX4_news_17 : decode cX4_news 17 = .ok (.ifCond .eq 12, 3) := by decide +kernel
theorem dX4_news_20 : decode cX4_news 20 = .ok (.iload_n 3, 1) := by decide +kernel
theorem dX4_news_21 : decode cX4_news 21 = .ok (.iconst 0, 1) := by decide +kernel
theorem dX4_news_22 : decode cX4_news 22 = .ok (.iconst 3, 1) := by decide +kernel
theorem dX4_news_23 : decode cX4_news 23 = .ok (.invokestatic 44, 3) := by decide +kernel
theorem dX4_news_26 : decode cX4_news 26 = .ok (.ifCond .ne 6, 3) := by decide +kernel
theorem dX4_news_29 : decode cX4_news 29 = .ok (.bipush (-2), 2) := by decide +kernel
theorem dX4_news_31 : decode cX4_news 31 = .ok (.ireturn, 1) := by decide +kernel
theorem dX4_news_32 : decode cX4_news 32 = .ok (.aload_n 0, 1) := by decide +kernel
theorem dX4_news_33 : decode cX4_news 33 = .ok (.getfield 10, 3) := by decide +kernel
theorem dX4_news_36 : decode cX4_news 36 = .ok (.getfield 112, 3) := by decide +kernel
theorem dX4_news_39 : decode cX4_news 39 = .ok (.iload_n 1, 1) := by decide +kernel
theorem dX4_news_40 : decode cX4_news 40 = .ok (.iaload, 1) := by decide +kernel
theorem dX4_news_41 : decode cX4_news 41 = .ok (.istore 4, 2) := by decide +kernel
theorem dX4_news_43 : decode cX4_news 43 = .ok (.aload_n 0, 1) := by decide +kernel
theorem dX4_news_44 : decode cX4_news 44 = .ok (.getfield 10, 3) := by decide +kernel
theorem dX4_news_47 : decode cX4_news 47 = .ok (.getfield 112, 3) := by decide +kernel
theorem dX4_news_50 : decode cX4_news 50 = .ok (.iload_n 1, 1) := by decide +kernel
theorem dX4_news_51 : decode cX4_news 51 = .ok (.iload_n 2, 1) := by decide +kernel
theorem dX4_news_52 : decode cX4_news 52 = .ok (.iastore, 1) := by decide +kernel
theorem dX4_news_53 : decode cX4_news 53 = .ok (.aload_n 0, 1) := by decide +kernel
theorem dX4_news_54 : decode cX4_news 54 = .ok (.getfield 10, 3) := by decide +kernel
theorem dX4_news_57 : decode cX4_news 57 = .ok (.getfield 115, 3) := by decide +kernel
theorem dX4_news_60 : decode cX4_news 60 = .ok (.iload_n 1, 1) := by decide +kernel
theorem dX4_news_61 : decode cX4_news 61 = .ok (.iload_n 3, 1) := by decide +kernel
theorem dX4_news_62 : decode cX4_news 62 = .ok (.iastore, 1) := by decide +kernel
theorem dX4_news_63 : decode cX4_news 63 = .ok (.aload_n 0, 1) := by decide +kernel
theorem dX4_news_64 : decode cX4_news 64 = .ok (.getfield 10, 3) := by decide +kernel
theorem dX4_news_67 : decode cX4_news 67 = .ok (.dup, 1) := by decide +kernel
theorem dX4_news_68 : decode cX4_news 68 = .ok (.getfield 118, 3) := by decide +kernel
theorem dX4_news_71 : decode cX4_news 71 = .ok (.iconst 1, 1) := by decide +kernel
theorem dX4_news_72 : decode cX4_news 72 = .ok (.iload_n 1, 1) := by decide +kernel
theorem dX4_news_73 : decode cX4_news 73 = .ok (.ishl, 1) := by decide +kernel
theorem dX4_news_74 : decode cX4_news 74 = .ok (.iconst (-1), 1) := by decide +kernel
theorem dX4_news_75 : decode cX4_news 75 = .ok (.ixor, 1) := by decide +kernel
theorem dX4_news_76 : decode cX4_news 76 = .ok (.iand, 1) := by decide +kernel
theorem dX4_news_77 : decode cX4_news 77 = .ok (.putfield 118, 3) := by decide +kernel
theorem dX4_news_80 : decode cX4_news 80 = .ok (.iload 4, 2) := by decide +kernel
theorem dX4_news_82 : decode cX4_news 82 = .ok (.sipush 1000, 3) := by decide +kernel
theorem dX4_news_85 : decode cX4_news 85 = .ok (.iadd, 1) := by decide +kernel
theorem dX4_news_86 : decode cX4_news 86 = .ok (.ireturn, 1) := by decide +kernel
theorem dX4_learn_0 : decode cX4_learn 0 = .ok (.aload_n 0, 1) := by decide +kernel
theorem dX4_learn_1 : decode cX4_learn 1 = .ok (.getfield 10, 3) := by decide +kernel
theorem dX4_learn_4 : decode cX4_learn 4 = .ok (.iload_n 1, 1) := by decide +kernel
theorem dX4_learn_5 : decode cX4_learn 5 = .ok (.invokevirtual 106, 3) := by decide +kernel
theorem dX4_learn_8 : decode cX4_learn 8 = .ok (.ifCond .eq 10, 3) := by decide +kernel
theorem dX4_learn_11 : decode cX4_learn 11 = .ok (.iload_n 2, 1) := by decide +kernel
theorem dX4_learn_12 : decode cX4_learn 12 = .ok (.invokestatic 109, 3) := by decide +kernel
theorem dX4_learn_15 : decode cX4_learn 15 = .ok (.ifCond .ne 5, 3) := by decide +kernel
theorem dX4_learn_18 : decode cX4_learn 18 = .ok (.iconst (-1), 1) := by decide +kernel
theorem dX4_learn_19 : decode cX4_learn 19 = .ok (.ireturn, 1) := by decide +kernel
theorem dX4_learn_20 : decode cX4_learn 20 = .ok (.iload_n 3, 1) := by decide +kernel
theorem dX4_learn_21 : decode cX4_learn 21 = .ok (.ifCond .eq 21, 3) := by decide +kernel
theorem dX4_learn_24 : decode cX4_learn 24 = .ok (.aload_n 0, 1) := by decide +kernel
theorem dX4_learn_25 : decode cX4_learn 25 = .ok (.getfield 10, 3) := by decide +kernel
theorem dX4_learn_28 : decode cX4_learn 28 = .ok (.getfield 103, 3) := by decide +kernel
theorem dX4_learn_31 : decode cX4_learn 31 = .ok (.iload_n 1, 1) := by decide +kernel
theorem dX4_learn_32 : decode cX4_learn 32 = .ok (.dup2, 1) := by decide +kernel
theorem dX4_learn_33 : decode cX4_learn 33 = .ok (.iaload, 1) := by decide +kernel
theorem dX4_learn_34 : decode cX4_learn 34 = .ok (.iconst 1, 1) := by decide +kernel
theorem dX4_learn_35 : decode cX4_learn 35 = .ok (.iload_n 2, 1) := by decide +kernel
theorem dX4_learn_36 : decode cX4_learn 36 = .ok (.ishl, 1) := by decide +kernel
theorem dX4_learn_37 : decode cX4_learn 37 = .ok (.ior, 1) := by decide +kernel
theorem dX4_learn_38 : decode cX4_learn 38 = .ok (.iastore, 1) := by decide +kernel
theorem dX4_learn_39 : decode cX4_learn 39 = .ok (.goto 20, 3) := by decide +kernel
theorem dX4_learn_42 : decode cX4_learn 42 = .ok (.aload_n 0, 1) := by decide +kernel
theorem dX4_learn_43 : decode cX4_learn 43 = .ok (.getfield 10, 3) := by decide +kernel
theorem dX4_learn_46 : decode cX4_learn 46 = .ok (.getfield 103, 3) := by decide +kernel
theorem dX4_learn_49 : decode cX4_learn 49 = .ok (.iload_n 1, 1) := by decide +kernel
theorem dX4_learn_50 : decode cX4_learn 50 = .ok (.dup2, 1) := by decide +kernel
theorem dX4_learn_51 : decode cX4_learn 51 = .ok (.iaload, 1) := by decide +kernel
theorem dX4_learn_52 : decode cX4_learn 52 = .ok (.iconst 1, 1) := by decide +kernel
theorem dX4_learn_53 : decode cX4_learn 53 = .ok (.iload_n 2, 1) := by decide +kernel
theorem dX4_learn_54 : decode cX4_learn 54 = .ok (.ishl, 1) := by decide +kernel
theorem dX4_learn_55 : decode cX4_learn 55 = .ok (.iconst (-1), 1) := by decide +kernel
theorem dX4_learn_56 : decode cX4_learn 56 = .ok (.ixor, 1) := by decide +kernel
theorem dX4_learn_57 : decode cX4_learn 57 = .ok (.iand, 1) := by decide +kernel
theorem dX4_learn_58 : decode cX4_learn 58 = .ok (.iastore, 1) := by decide +kernel
theorem dX4_learn_59 : decode cX4_learn 59 = .ok (.aload_n 0, 1) := by decide +kernel
theorem dX4_learn_60 : decode cX4_learn 60 = .ok (.getfield 10, 3) := by decide +kernel
theorem dX4_learn_63 : decode cX4_learn 63 = .ok (.getfield 103, 3) := by decide +kernel
theorem dX4_learn_66 : decode cX4_learn 66 = .ok (.iload_n 1, 1) := by decide +kernel
theorem dX4_learn_67 : decode cX4_learn 67 = .ok (.iaload, 1) := by decide +kernel
theorem dX4_learn_68 : decode cX4_learn 68 = .ok (.ireturn, 1) := by decide +kernel
theorem dX4_fade_0 : decode cX4_fade 0 = .ok (.iload_n 1, 1) := by decide +kernel
theorem dX4_fade_1 : decode cX4_fade 1 = .ok (.iconst 0, 1) := by decide +kernel
theorem dX4_fade_2 : decode cX4_fade 2 = .ok (.bipush 9, 2) := by decide +kernel
theorem dX4_fade_4 : decode cX4_fade 4 = .ok (.invokestatic 44, 3) := by decide +kernel
theorem dX4_fade_7 : decode cX4_fade 7 = .ok (.ifCond .ne 6, 3) := by decide +kernel
theorem dX4_fade_10 : decode cX4_fade 10 = .ok (.bipush (-2), 2) := by decide +kernel
theorem dX4_fade_12 : decode cX4_fade 12 = .ok (.ireturn, 1) := by decide +kernel
theorem dX4_fade_13 : decode cX4_fade 13 = .ok (.aload_n 0, 1) := by decide +kernel
theorem dX4_fade_14 : decode cX4_fade 14 = .ok (.getfield 10, 3) := by decide +kernel
theorem dX4_fade_17 : decode cX4_fade 17 = .ok (.getfield 121, 3) := by decide +kernel
theorem dX4_fade_20 : decode cX4_fade 20 = .ok (.istore_n 2, 1) := by decide +kernel
theorem dX4_fade_21 : decode cX4_fade 21 = .ok (.aload_n 0, 1) := by decide +kernel
theorem dX4_fade_22 : decode cX4_fade 22 = .ok (.getfield 10, 3) := by decide +kernel
theorem dX4_fade_25 : decode cX4_fade 25 = .ok (.iload_n 1, 1) := by decide +kernel
theorem dX4_fade_26 : decode cX4_fade 26 = .ok (.putfield 121, 3) := by decide +kernel
theorem dX4_fade_29 : decode cX4_fade 29 = .ok (.iload_n 2, 1) := by decide +kernel
theorem dX4_fade_30 : decode cX4_fade 30 = .ok (.ireturn, 1) := by decide +kernel
theorem dX4_say_0 : decode cX4_say 0 = .ok (.iload_n 1, 1) := by decide +kernel
theorem dX4_say_1 : decode cX4_say 1 = .ok (.bipush 33, 2) := by decide +kernel
theorem dX4_say_3 : decode cX4_say 3 = .ok (.bipush 126, 2) := by decide +kernel
theorem dX4_say_5 : decode cX4_say 5 = .ok (.invokestatic 44, 3) := by decide +kernel
theorem dX4_say_8 : decode cX4_say 8 = .ok (.ifCond .ne 6, 3) := by decide +kernel
theorem dX4_say_11 : decode cX4_say 11 = .ok (.bipush (-2), 2) := by decide +kernel
theorem dX4_say_13 : decode cX4_say 13 = .ok (.ireturn, 1) := by decide +kernel
theorem dX4_say_14 : decode cX4_say 14 = .ok (.aload_n 0, 1) := by decide +kernel
theorem dX4_say_15 : decode cX4_say 15 = .ok (.getfield 26, 3) := by decide +kernel
theorem dX4_say_18 : decode cX4_say 18 = .ok (.getfield 124, 3) := by decide +kernel
theorem dX4_say_21 : decode cX4_say 21 = .ok (.bipush 60, 2) := by decide +kernel
theorem dX4_say_23 : decode cX4_say 23 = .ok (.if_icmp .lt 6, 3) := by decide +kernel
theorem dX4_say_26 : decode cX4_say 26 = .ok (.bipush (-4), 2) := by decide +kernel
theorem dX4_say_28 : decode cX4_say 28 = .ok (.ireturn, 1) := by decide +kernel
theorem dX4_say_29 : decode cX4_say 29 = .ok (.aload_n 0, 1) := by decide +kernel
theorem dX4_say_30 : decode cX4_say 30 = .ok (.getfield 26, 3) := by decide +kernel
theorem dX4_say_33 : decode cX4_say 33 = .ok (.getfield 127, 3) := by decide +kernel
theorem dX4_say_36 : decode cX4_say 36 = .ok (.aload_n 0, 1) := by decide +kernel
theorem dX4_say_37 : decode cX4_say 37 = .ok (.getfield 26, 3) := by decide +kernel
theorem dX4_say_40 : decode cX4_say 40 = .ok (.getfield 124, 3) := by decide +kernel
theorem dX4_say_43 : decode cX4_say 43 = .ok (.iload_n 1, 1) := by decide +kernel
theorem dX4_say_44 : decode cX4_say 44 = .ok (.iastore, 1) := by decide +kernel
theorem dX4_say_45 : decode cX4_say 45 = .ok (.aload_n 0, 1) := by decide +kernel
theorem dX4_say_46 : decode cX4_say 46 = .ok (.getfield 26, 3) := by decide +kernel
theorem dX4_say_49 : decode cX4_say 49 = .ok (.dup, 1) := by decide +kernel
theorem dX4_say_50 : decode cX4_say 50 = .ok (.getfield 124, 3) := by decide +kernel
theorem dX4_say_53 : decode cX4_say 53 = .ok (.iconst 1, 1) := by decide +kernel
theorem dX4_say_54 : decode cX4_say 54 = .ok (.iadd, 1) := by decide +kernel
theorem dX4_say_55 : decode cX4_say 55 = .ok (.putfield 124, 3) := by decide +kernel
theorem dX4_say_58 : decode cX4_say 58 = .ok (.aload_n 0, 1) := by decide +kernel
theorem dX4_say_59 : decode cX4_say 59 = .ok (.getfield 26, 3) := by decide +kernel
theorem dX4_say_62 : decode cX4_say 62 = .ok (.getfield 124, 3) := by decide +kernel
theorem dX4_say_65 : decode cX4_say 65 = .ok (.ireturn, 1) := by decide +kernel
theorem dX4_wipe_0 : decode cX4_wipe 0 = .ok (.aload_n 0, 1) := by decide +kernel
theorem dX4_wipe_1 : decode cX4_wipe 1 = .ok (.getfield 26, 3) := by decide +kernel
theorem dX4_wipe_4 : decode cX4_wipe 4 = .ok (.getfield 124, 3) := by decide +kernel
theorem dX4_wipe_7 : decode cX4_wipe 7 = .ok (.istore_n 1, 1) := by decide +kernel
theorem dX4_wipe_8 : decode cX4_wipe 8 = .ok (.aload_n 0, 1) := by decide +kernel
theorem dX4_wipe_9 : decode cX4_wipe 9 = .ok (.getfield 26, 3) := by decide +kernel
theorem dX4_wipe_12 : decode cX4_wipe 12 = .ok (.iconst 0, 1) := by decide +kernel
theorem dX4_wipe_13 : decode cX4_wipe 13 = .ok (.putfield 124, 3) := by decide +kernel
theorem dX4_wipe_16 : decode cX4_wipe 16 = .ok (.iload_n 1, 1) := by decide +kernel
theorem dX4_wipe_17 : decode cX4_wipe 17 = .ok (.ireturn, 1) := by decide +kernel
theorem dX4_fault_0 : decode cX4_fault 0 = .ok (.aload_n 0, 1) := by decide +kernel
theorem dX4_fault_1 : decode cX4_fault 1 = .ok (.getfield 26, 3) := by decide +kernel
theorem dX4_fault_4 : decode cX4_fault 4 = .ok (.invokevirtual 130, 3) := by decide +kernel
theorem dX4_fault_7 : decode cX4_fault 7 = .ok (.ireturn, 1) := by decide +kernel
theorem dX4_judge_0 : decode cX4_judge 0 = .ok (.iload_n 1, 1) := by decide +kernel
theorem dX4_judge_1 : decode cX4_judge 1 = .ok (.iconst 0, 1) := by decide +kernel
theorem dX4_judge_2 : decode cX4_judge 2 = .ok (.iconst 4, 1) := by decide +kernel
theorem dX4_judge_3 : decode cX4_judge 3 = .ok (.invokestatic 44, 3) := by decide +kernel
theorem dX4_judge_6 : decode cX4_judge 6 = .ok (.ifCond .ne 6, 3) := by decide +kernel
theorem dX4_judge_9 : decode cX4_judge 9 = .ok (.bipush (-2), 2) := by decide +kernel
theorem dX4_judge_11 : decode cX4_judge 11 = .ok (.ireturn, 1) := by decide +kernel
theorem dX4_judge_12 : decode cX4_judge 12 = .ok (.aload_n 0, 1) := by decide +kernel
theorem dX4_judge_13 : decode cX4_judge 13 = .ok (.getfield 33, 3) := by decide +kernel
theorem dX4_judge_16 : decode cX4_judge 16 = .ok (.aload_n 0, 1) := by decide +kernel
theorem dX4_judge_17 : decode cX4_judge 17 = .ok (.getfield 26, 3) := by decide +kernel
theorem dX4_judge_20 : decode cX4_judge 20 = .ok (.aload_n 0, 1) := by decide +kernel
theorem dX4_judge_21 : decode cX4_judge 21 = .ok (.getfield 10, 3) := by decide +kernel
theorem dX4_judge_24 : decode cX4_judge 24 = .ok (.aload_n 0, 1) := by decide +kernel
theorem dX4_judge_25 : decode cX4_judge 25 = .ok (.getfield 16, 3) := by decide +kernel
theorem dX4_judge_28 : decode cX4_judge 28 = .ok (.invokevirtual 134, 3) := by decide +kernel
theorem dX4_judge_31 : decode cX4_judge 31 = .ok (.aload_n 0, 1) := by decide +kernel
theorem dX4_judge_32 : decode cX4_judge 32 = .ok (.getfield 33, 3) := by decide +kernel
theorem dX4_judge_35 : decode cX4_judge 35 = .ok (.getfield 138, 3) := by decide +kernel
theorem dX4_judge_38 : decode cX4_judge 38 = .ok (.bipush (-5), 2) := by decide +kernel
theorem dX4_judge_40 : decode cX4_judge 40 = .ok (.if_icmp .eq 20, 3) := by decide +kernel
theorem dX4_judge_43 : decode cX4_judge 43 = .ok (.aload_n 0, 1) := by decide +kernel
theorem dX4_judge_44 : decode cX4_judge 44 = .ok (.getfield 33, 3) := by decide +kernel
theorem dX4_judge_47 : decode cX4_judge 47 = .ok (.getfield 138, 3) := by decide +kernel
theorem dX4_judge_50 : decode cX4_judge 50 = .ok (.bipush (-3), 2) := by decide +kernel
theorem dX4_judge_52 : decode cX4_judge 52 = .ok (.if_icmp .ne 16, 3) := by decide +kernel
theorem dX4_judge_55 : decode cX4_judge 55 = .ok (.iload_n 1, 1) := by decide +kernel
theorem dX4_judge_56 : decode cX4_judge 56 = .ok (.iconst 2, 1) := by decide +kernel
theorem dX4_judge_57 : decode cX4_judge 57 = .ok (.if_icmp .lt 11, 3) := by decide +kernel
theorem dX4_judge_60 : decode cX4_judge 60 = .ok (.aload_n 0, 1) := by decide +kernel
theorem dX4_judge_61 : decode cX4_judge 61 = .ok (.getfield 33, 3) := by decide +kernel
theorem dX4_judge_64 : decode cX4_judge 64 = .ok (.getfield 138, 3) := by decide +kernel
theorem dX4_judge_67 : decode cX4_judge 67 = .ok (.ireturn, 1) := by decide +kernel
theorem dX4_judge_68 : decode cX4_judge 68 = .ok (.iload_n 1, 1) := by decide +kernel
theorem dX4_judge_69 : decode cX4_judge 69 = .ok (.tableswitch 97 0 3 #[31, 56, 81, 89], 31) := by decide +kernel
theorem dX4_judge_100 : decode cX4_judge 100 = .ok (.aload_n 0, 1) := by decide +kernel
theorem dX4_judge_101 : decode cX4_judge 101 = .ok (.getfield 33, 3) := by decide +kernel
theorem dX4_judge_104 : decode cX4_judge 104 = .ok (.getfield 138, 3) := by decide +kernel
theorem dX4_judge_107 : decode cX4_judge 107 = .ok (.bipush (-3), 2) := by decide +kernel
theorem dX4_judge_109 : decode cX4_judge 109 = .ok (.if_icmp .ne 13, 3) := by decide +kernel
theorem dX4_judge_112 : decode cX4_judge 112 = .ok (.aload_n 0, 1) := by decide +kernel
theorem dX4_judge_113 : decode cX4_judge 113 = .ok (.getfield 33, 3) := by decide +kernel
theorem dX4_judge_116 : decode cX4_judge 116 = .ok (.getfield 141, 3) := by decide +kernel
theorem dX4_judge_119 : decode cX4_judge 119 = .ok (.goto 5, 3) := by decide +kernel
theorem dX4_judge_122 : decode cX4_judge 122 = .ok (.bipush (-6), 2) := by decide +kernel
theorem dX4_judge_124 : decode cX4_judge 124 = .ok (.ireturn, 1) := by decide +kernel
theorem dX4_judge_125 : decode cX4_judge 125 = .ok (.aload_n 0, 1) := by decide +kernel
theorem dX4_judge_126 : decode cX4_judge 126 = .ok (.getfield 33, 3) := by decide +kernel
theorem dX4_judge_129 : decode cX4_judge 129 = .ok (.getfield 138, 3) := by decide +kernel
theorem dX4_judge_132 : decode cX4_judge 132 = .ok (.bipush (-3), 2) := by decide +kernel
theorem dX4_judge_134 : decode cX4_judge 134 = .ok (.if_icmp .ne 13, 3) := by decide +kernel
theorem dX4_judge_137 : decode cX4_judge 137 = .ok (.aload_n 0, 1) := by decide +kernel
theorem dX4_judge_138 : decode cX4_judge 138 = .ok (.getfield 33, 3) := by decide +kernel
theorem dX4_judge_141 : decode cX4_judge 141 = .ok (.getfield 144, 3) := by decide +kernel
theorem dX4_judge_144 : decode cX4_judge 144 = .ok (.goto 5, 3) := by decide +kernel
theorem dX4_judge_147 : decode cX4_judge 147 = .ok (.bipush (-6), 2) := by decide +kernel
theorem dX4_judge_149 : decode cX4_judge 149 = .ok (.ireturn, 1) := by decide +kernel
theorem dX4_judge_150 : decode cX4_judge 150 = .ok (.aload_n 0, 1) := by decide +kernel
theorem dX4_judge_151 : decode cX4_judge 151 = .ok (.getfield 33, 3) := by decide +kernel
theorem dX4_judge_154 : decode cX4_judge 154 = .ok (.getfield 147, 3) := by decide +kernel
theorem dX4_judge_157 : decode cX4_judge 157 = .ok (.ireturn, 1) := by decide +kernel
theorem dX4_judge_158 : decode cX4_judge 158 = .ok (.aload_n 0, 1) := by decide +kernel
theorem dX4_judge_159 : decode cX4_judge 159 = .ok (.getfield 33, 3) := by decide +kernel
theorem dX4_judge_162 : decode cX4_judge 162 = .ok (.getfield 150, 3) := by decide +kernel
theorem dX4_judge_165 : decode cX4_judge 165 = .ok (.ireturn, 1) := by decide +kernel
theorem dX4_judge_166 : decode cX4_judge 166 = .ok (.aload_n 0, 1) := by decide +kernel
theorem dX4_judge_167 : decode cX4_judge 167 = .ok (.getfield 33, 3) := by decide +kernel
theorem dX4_judge_170 : decode cX4_judge 170 = .ok (.getfield 153, 3) := by decide +kernel
theorem dX4_judge_173 : decode cX4_judge 173 = .ok (.ireturn, 1) := by decide +kernel
theorem dX4_behind_0 : decode cX4_behind 0 = .ok (.aload_n 0, 1) := by decide +kernel
theorem dX4_behind_1 : decode cX4_behind 1 = .ok (.getfield 10, 3) := by decide +kernel
theorem dX4_behind_4 : decode cX4_behind 4 = .ok (.iload_n 1, 1) := by decide +kernel
theorem dX4_behind_5 : decode cX4_behind 5 = .ok (.invokevirtual 106, 3) := by decide +kernel
theorem dX4_behind_8 : decode cX4_behind 8 = .ok (.ifCond .ne 5, 3) := by decide +kernel
theorem dX4_behind_11 : decode cX4_behind 11 = .ok (.iconst (-1), 1) := by decide +kernel
theorem dX4_behind_12 : decode cX4_behind 12 = .ok (.ireturn, 1) := by decide +kernel
theorem dX4_behind_13 : decode cX4_behind 13 = .ok (.iload_n 2, 1) := by decide +kernel
theorem dX4_behind_14 : decode cX4_behind 14 = .ok (.iconst 0, 1) := by decide +kernel
theorem dX4_behind_15 : decode cX4_behind 15 = .ok (.iconst 2, 1) := by decide +kernel
theorem dX4_behind_16 : decode cX4_behind 16 = .ok (.invokestatic 44, 3) := by decide +kernel
theorem dX4_behind_19 : decode cX4_behind 19 = .ok (.ifCond .ne 6, 3) := by decide +kernel
theorem dX4_behind_22 : decode cX4_behind 22 = .ok (.bipush (-2), 2) := by decide +kernel
theorem dX4_behind_24 : decode cX4_behind 24 = .ok (.ireturn, 1) := by decide +kernel
theorem dX4_behind_25 : decode cX4_behind 25 = .ok (.aload_n 0, 1) := by decide +kernel
theorem dX4_behind_26 : decode cX4_behind 26 = .ok (.getfield 33, 3) := by decide +kernel
theorem dX4_behind_29 : decode cX4_behind 29 = .ok (.aload_n 0, 1) := by decide +kernel
theorem dX4_behind_30 : decode cX4_behind 30 = .ok (.getfield 26, 3) := by decide +kernel
theorem dX4_behind_33 : decode cX4_behind 33 = .ok (.aload_n 0, 1) := by decide +kernel
theorem dX4_behind_34 : decode cX4_behind 34 = .ok (.getfield 10, 3) := by decide +kernel
theorem dX4_behind_37 : decode cX4_behind 37 = .ok (.aload_n 0, 1) := by decide +kernel
theorem dX4_behind_38 : decode cX4_behind 38 = .ok (.getfield 16, 3) := by decide +kernel
theorem dX4_behind_41 : decode cX4_behind 41 = .ok (.invokevirtual 134, 3) := by decide +kernel
theorem dX4_behind_44 : decode cX4_behind 44 = .ok (.aload_n 0, 1) := by decide +kernel
theorem dX4_behind_45 : decode cX4_behind 45 = .ok (.getfield 33, 3) := by decide +kernel
theorem dX4_behind_48 : decode cX4_behind 48 = .ok (.getfield 138, 3) := by decide +kernel
theorem dX4_behind_51 : decode cX4_behind 51 = .ok (.ifCond .eq 11, 3) := by decide +kernel
theorem dX4_behind_54 : decode cX4_behind 54 = .ok (.aload_n 0, 1) := by decide +kernel
theorem dX4_behind_55 : decode cX4_behind 55 = .ok (.getfield 33, 3) := by decide +kernel
theorem dX4_behind_58 : decode cX4_behind 58 = .ok (.getfield 138, 3) := by decide +kernel
theorem dX4_behind_61 : decode cX4_behind 61 = .ok (.ireturn, 1) := by decide +kernel
theorem dX4_behind_62 : decode cX4_behind 62 = .ok (.iload_n 2, 1) := by decide +kernel
theorem dX4_behind_63 : decode cX4_behind 63 = .ok (.lookupswitch 44 #[(0, 25), (1, 35)], 25) := by decide +kernel
theorem dX4_behind_88 : decode cX4_behind 88 = .ok (.aload_n 0, 1) := by decide +kernel
theorem dX4_behind_89 : decode cX4_behind 89 = .ok (.getfield 16, 3) := by decide +kernel
theorem dX4_behind_92 : decode cX4_behind 92 = .ok (.getfield 97, 3) := by decide +kernel
theorem dX4_behind_95 : decode cX4_behind 95 = .ok (.iload_n 1, 1) := by decide +kernel
theorem dX4_behind_96 : decode cX4_behind 96 = .ok (.iaload, 1) := by decide +kernel
theorem dX4_behind_97 : decode cX4_behind 97 = .ok (.ireturn, 1) := by decide +kernel
theorem dX4_behind_98 : decode cX4_behind 98 = .ok (.aload_n 0, 1) := by decide +kernel
theorem dX4_behind_99 : decode cX4_behind 99 = .ok (.getfield 16, 3) := by decide +kernel
theorem dX4_behind_102 : decode cX4_behind 102 = .ok (.iload_n 1, 1) := by decide +kernel
theorem dX4_behind_103 : decode cX4_behind 103 = .ok (.invokevirtual 156, 3) := by decide +kernel
theorem dX4_behind_106 : decode cX4_behind 106 = .ok (.ireturn, 1) := by decide +kernel
theorem dX4_behind_107 : decode cX4_behind 107 = .ok (.aload_n 0, 1) := by decide +kernel
theorem dX4_behind_108 : decode cX4_behind 108 = .ok (.getfield 16, 3) := by decide +kernel
theorem dX4_behind_111 : decode cX4_behind 111 = .ok (.getfield 103, 3) := by decide +kernel
theorem dX4_behind_114 : decode cX4_behind 114 = .ok (.iload_n 1, 1) := by decide +kernel
theorem dX4_behind_115 : decode cX4_behind 115 = .ok (.iaload, 1) := by decide +kernel
theorem dX4_behind_116 : decode cX4_behind 116 = .ok (.ireturn, 1) := by decide +kernel
theorem dX4_done_0 : decode cX4_done 0 = .ok (.aload_n 0, 1) := by decide +kernel
theorem dX4_done_1 : decode cX4_done 1 = .ok (.getfield 33, 3) := by decide +kernel
theorem dX4_done_4 : decode cX4_done 4 = .ok (.aload_n 0, 1) := by decide +kernel
theorem dX4_done_5 : decode cX4_done 5 = .ok (.getfield 26, 3) := by decide +kernel
theorem dX4_done_8 : decode cX4_done 8 = .ok (.aload_n 0, 1) := by decide +kernel
theorem dX4_done_9 : decode cX4_done 9 = .ok (.getfield 10, 3) := by decide +kernel
theorem dX4_done_12 : decode cX4_done 12 = .ok (.aload_n 0, 1) := by decide +kernel
theorem dX4_done_13 : decode cX4_done 13 = .ok (.getfield 16, 3) := by decide +kernel
theorem dX4_done_16 : decode cX4_done 16 = .ok (.invokevirtual 134, 3) := by decide +kernel
theorem dX4_done_19 : decode cX4_done 19 = .ok (.aload_n 0, 1) := by decide +kernel
theorem dX4_done_20 : decode cX4_done 20 = .ok (.getfield 33, 3) := by decide +kernel
theorem dX4_done_23 : decode cX4_done 23 = .ok (.getfield 138, 3) := by decide +kernel
theorem dX4_done_26 : decode cX4_done 26 = .ok (.ifCond .eq 11, 3) := by decide +kernel
theorem dX4_done_29 : decode cX4_done 29 = .ok (.aload_n 0, 1) := by decide +kernel
theorem dX4_done_30 : decode cX4_done 30 = .ok (.getfield 33, 3) := by decide +kernel
theorem dX4_done_33 : decode cX4_done 33 = .ok (.getfield 138, 3) := by decide +kernel
theorem dX4_done_36 : decode cX4_done 36 = .ok (.ireturn, 1) := by decide +kernel
theorem dX4_done_37 : decode cX4_done 37 = .ok (.aload_n 0, 1) := by decide +kernel
theorem dX4_done_38 : decode cX4_done 38 = .ok (.getfield 10, 3) := by decide +kernel
theorem dX4_done_41 : decode cX4_done 41 = .ok (.aload_n 0, 1) := by decide +kernel
theorem dX4_done_42 : decode cX4_done 42 = .ok (.getfield 16, 3) := by decide +kernel
theorem dX4_done_45 : decode cX4_done 45 = .ok (.invokevirtual 159, 3) := by decide +kernel
theorem dX4_done_48 : decode cX4_done 48 = .ok (.aload_n 0, 1) := by decide +kernel
theorem dX4_done_49 : decode cX4_done 49 = .ok (.getfield 26, 3) := by decide +kernel
theorem dX4_done_52 : decode cX4_done 52 = .ok (.iconst 0, 1) := by decide +kernel
theorem dX4_done_53 : decode cX4_done 53 = .ok (.putfield 124, 3) := by decide +kernel
theorem dX4_done_56 : decode cX4_done 56 = .ok (.aload_n 0, 1) := by decide +kernel
theorem dX4_done_57 : decode cX4_done 57 = .ok (.getfield 33, 3) := by decide +kernel
theorem dX4_done_60 : decode cX4_done 60 = .ok (.getfield 141, 3) := by decide +kernel
theorem dX4_done_63 : decode cX4_done 63 = .ok (.ireturn, 1) := by decide +kernel
theorem dX4_heavy_0 : decode cX4_heavy 0 = .ok (.aload_n 0, 1) := by decide +kernel
theorem dX4_heavy_1 : decode cX4_heavy 1 = .ok (.getfield 10, 3) := by decide +kernel
theorem dX4_heavy_4 : decode cX4_heavy 4 = .ok (.iload_n 1, 1) := by decide +kernel
theorem dX4_heavy_5 : decode cX4_heavy 5 = .ok (.invokevirtual 106, 3) := by decide +kernel
theorem dX4_heavy_8 : decode cX4_heavy 8 = .ok (.ifCond .eq 10, 3) := by decide +kernel
theorem dX4_heavy_11 : decode cX4_heavy 11 = .ok (.iload_n 2, 1) := by decide +kernel
theorem dX4_heavy_12 : decode cX4_heavy 12 = .ok (.invokestatic 109, 3) := by decide +kernel
theorem dX4_heavy_15 : decode cX4_heavy 15 = .ok (.ifCond .ne 5, 3) := by decide +kernel
theorem dX4_heavy_18 : decode cX4_heavy 18 = .ok (.iconst (-1), 1) := by decide +kernel
theorem dX4_heavy_19 : decode cX4_heavy 19 = .ok (.ireturn, 1) := by decide +kernel
theorem dX4_heavy_20 : decode cX4_heavy 20 = .ok (.aload_n 0, 1) := by decide +kernel
theorem dX4_heavy_21 : decode cX4_heavy 21 = .ok (.getfield 10, 3) := by decide +kernel
theorem dX4_heavy_24 : decode cX4_heavy 24 = .ok (.getfield 103, 3) := by decide +kernel
theorem dX4_heavy_27 : decode cX4_heavy 27 = .ok (.iload_n 1, 1) := by decide +kernel
theorem dX4_heavy_28 : decode cX4_heavy 28 = .ok (.iaload, 1) := by decide +kernel
theorem dX4_heavy_29 : decode cX4_heavy 29 = .ok (.iload_n 2, 1) := by decide +kernel
theorem dX4_heavy_30 : decode cX4_heavy 30 = .ok (.invokestatic 163, 3) := by decide +kernel
theorem dX4_heavy_33 : decode cX4_heavy 33 = .ok (.ifCond .eq 19, 3) := by decide +kernel
theorem dX4_heavy_36 : decode cX4_heavy 36 = .ok (.aload_n 0, 1) := by decide +kernel
theorem dX4_heavy_37 : decode cX4_heavy 37 = .ok (.getfield 10, 3) := by decide +kernel
theorem dX4_heavy_40 : decode cX4_heavy 40 = .ok (.iload_n 1, 1) := by decide +kernel
theorem dX4_heavy_41 : decode cX4_heavy 41 = .ok (.iload_n 2, 1) := by decide +kernel
theorem dX4_heavy_42 : decode cX4_heavy 42 = .ok (.invokevirtual 167, 3) := by decide +kernel
theorem dX4_heavy_45 : decode cX4_heavy 45 = .ok (.sipush 1000, 3) := by decide +kernel
theorem dX4_heavy_48 : decode cX4_heavy 48 = .ok (.iadd, 1) := by decide +kernel
theorem dX4_heavy_49 : decode cX4_heavy 49 = .ok (.goto 5, 3) := by decide +kernel
theorem dX4_heavy_52 : decode cX4_heavy 52 = .ok (.bipush (-6), 2) := by decide +kernel
theorem dX4_heavy_54 : decode cX4_heavy 54 = .ok (.ireturn, 1) := by decide +kernel
theorem dX4_carries_0 : decode cX4_carries 0 = .ok (.aload_n 0, 1) := by decide +kernel
theorem dX4_carries_1 : decode cX4_carries 1 = .ok (.getfield 10, 3) := by decide +kernel
theorem dX4_carries_4 : decode cX4_carries 4 = .ok (.iload_n 1, 1) := by decide +kernel
theorem dX4_carries_5 : decode cX4_carries 5 = .ok (.invokevirtual 106, 3) := by decide +kernel
theorem dX4_carries_8 : decode cX4_carries 8 = .ok (.ifCond .eq 14, 3) := by decide +kernel
theorem dX4_carries_11 : decode cX4_carries 11 = .ok (.aload_n 0, 1) := by decide +kernel
theorem dX4_carries_12 : decode cX4_carries 12 = .ok (.getfield 10, 3) := by decide +kernel
theorem dX4_carries_15 : decode cX4_carries 15 = .ok (.iload_n 1, 1) := by decide +kernel
theorem dX4_carries_16 : decode cX4_carries 16 = .ok (.invokevirtual 156, 3) := by decide +kernel
theorem dX4_carries_19 : decode cX4_carries 19 = .ok (.goto 4, 3) := by decide +kernel
theorem dX4_carries_22 : decode cX4_carries 22 = .ok (.iconst (-1), 1) := by decide +kernel
theorem dX4_carries_23 : decode cX4_carries 23 = .ok (.ireturn, 1) := by decide +kernel
theorem dX4_bent_0 : decode cX4_bent 0 = .ok (.aload_n 0, 1) := by decide +kernel
theorem dX4_bent_1 : decode cX4_bent 1 = .ok (.getfield 10, 3) := by decide +kernel
theorem dX4_bent_4 : decode cX4_bent 4 = .ok (.iload_n 1, 1) := by decide +kernel
theorem dX4_bent_5 : decode cX4_bent 5 = .ok (.invokevirtual 91, 3) := by decide +kernel
theorem dX4_bent_8 : decode cX4_bent 8 = .ok (.ifCond .eq 15, 3) := by decide +kernel
theorem dX4_bent_11 : decode cX4_bent 11 = .ok (.aload_n 0, 1) := by decide +kernel
theorem dX4_bent_12 : decode cX4_bent 12 = .ok (.getfield 10, 3) := by decide +kernel
theorem dX4_bent_15 : decode cX4_bent 15 = .ok (.getfield 82, 3) := by decide +kernel
theorem dX4_bent_18 : decode cX4_bent 18 = .ok (.iload_n 1, 1) := by decide +kernel
theorem dX4_bent_19 : decode cX4_bent 19 = .ok (.iaload, 1) := by decide +kernel
theorem dX4_bent_20 : decode cX4_bent 20 = .ok (.goto 4, 3) := by decide +kernel
theorem dX4_bent_23 : decode cX4_bent 23 = .ok (.iconst (-1), 1) := by decide +kernel
theorem dX4_bent_24 : decode cX4_bent 24 = .ok (.ireturn, 1) := by decide +kernel
theorem dX4_way_0 : decode cX4_way 0 = .ok (.aload_n 0, 1) := by decide +kernel
theorem dX4_way_1 : decode cX4_way 1 = .ok (.getfield 10, 3) := by decide +kernel
theorem dX4_way_4 : decode cX4_way 4 = .ok (.iload_n 1, 1) := by decide +kernel
theorem dX4_way_5 : decode cX4_way 5 = .ok (.invokevirtual 106, 3) := by decide +kernel
theorem dX4_way_8 : decode cX4_way 8 = .ok (.ifCond .eq 14, 3) := by decide +kernel
theorem dX4_way_11 : decode cX4_way 11 = .ok (.aload_n 0, 1) := by decide +kernel
theorem dX4_way_12 : decode cX4_way 12 = .ok (.getfield 10, 3) := by decide +kernel
theorem dX4_way_15 : decode cX4_way 15 = .ok (.iload_n 2, 1) := by decide +kernel
theorem dX4_way_16 : decode cX4_way 16 = .ok (.invokevirtual 56, 3) := by decide +kernel
theorem dX4_way_19 : decode cX4_way 19 = .ok (.ifCond .ne 5, 3) := by decide +kernel
theorem dX4_way_22 : decode cX4_way 22 = .ok (.iconst (-1), 1) := by decide +kernel
theorem dX4_way_23 : decode cX4_way 23 = .ok (.ireturn, 1) := by decide +kernel
theorem dX4_way_24 : decode cX4_way 24 = .ok (.aload_n 0, 1) := by decide +kernel
theorem dX4_way_25 : decode cX4_way 25 = .ok (.getfield 10, 3) := by decide +kernel
theorem dX4_way_28 : decode cX4_way 28 = .ok (.aload_n 0, 1) := by decide +kernel
theorem dX4_way_29 : decode cX4_way 29 = .ok (.getfield 10, 3) := by decide +kernel
theorem dX4_way_32 : decode cX4_way 32 = .ok (.iload_n 1, 1) := by decide +kernel
theorem dX4_way_33 : decode cX4_way 33 = .ok (.invokevirtual 156, 3) := by decide +kernel
theorem dX4_way_36 : decode cX4_way 36 = .ok (.invokevirtual 170, 3) := by decide +kernel
theorem dX4_way_39 : decode cX4_way 39 = .ok (.istore 4, 2) := by decide +kernel
theorem dX4_way_41 : decode cX4_way 41 = .ok (.aload_n 0, 1) := by decide +kernel
theorem dX4_way_42 : decode cX4_way 42 = .ok (.getfield 10, 3) := by decide +kernel
theorem dX4_way_45 : decode cX4_way 45 = .ok (.getfield 97, 3) := by decide +kernel
theorem dX4_way_48 : decode cX4_way 48 = .ok (.iload_n 1, 1) := by decide +kernel
theorem dX4_way_49 : decode cX4_way 49 = .ok (.iaload, 1) := by decide +kernel
theorem dX4_way_50 : decode cX4_way 50 = .ok (.istore 5, 2) := by decide +kernel
theorem dX4_way_52 : decode cX4_way 52 = .ok (.iload_n 3, 1) := by decide +kernel
theorem dX4_way_53 : decode cX4_way 53 = .ok (.iconst (-1), 1) := by decide +kernel
theorem dX4_way_54 : decode cX4_way 54 = .ok (.if_icmp .ne 18, 3) := by decide +kernel
theorem dX4_way_57 : decode cX4_way 57 = .ok (.aload_n 0, 1) := by decide +kernel
theorem dX4_way_58 : decode cX4_way 58 = .ok (.getfield 10, 3) := by decide +kernel
theorem dX4_way_61 : decode cX4_way 61 = .ok (.iload 5, 2) := by decide +kernel
theorem dX4_way_63 : decode cX4_way 63 = .ok (.iload_n 2, 1) := by decide +kernel
theorem dX4_way_64 : decode cX4_way 64 = .ok (.iload 4, 2) := by decide +kernel
theorem dX4_way_66 : decode cX4_way 66 = .ok (.invokevirtual 173, 3) := by decide +kernel
theorem dX4_way_69 : decode cX4_way 69 = .ok (.goto 16, 3) := by decide +kernel
theorem dX4_way_72 : decode cX4_way 72 = .ok (.aload_n 0, 1) := by decide +kernel
theorem dX4_way_73 : decode cX4_way 73 = .ok (.getfield 10, 3) := by decide +kernel
theorem dX4_way_76 : decode cX4_way 76 = .ok (.iload 5, 2) := by decide +kernel
theorem dX4_way_78 : decode cX4_way 78 = .ok (.iload_n 2, 1) := by decide +kernel
theorem dX4_way_79 : decode cX4_way 79 = .ok (.iload 4, 2) := by decide +kernel
theorem dX4_way_81 : decode cX4_way 81 = .ok (.iload_n 3, 1) := by decide +kernel
theorem dX4_way_82 : decode cX4_way 82 = .ok (.invokevirtual 177, 3) := by decide +kernel
theorem dX4_way_85 : decode cX4_way 85 = .ok (.ireturn, 1) := by decide +kernel
theorem dX4_left_0 : decode cX4_left 0 = .ok (.aload_n 0, 1) := by decide +kernel
theorem dX4_left_1 : decode cX4_left 1 = .ok (.iload_n 1, 1) := by decide +kernel
theorem dX4_left_2 : decode cX4_left 2 = .ok (.iload_n 2, 1) := by decide +kernel
theorem dX4_left_3 : decode cX4_left 3 = .ok (.iload_n 3, 1) := by decide +kernel
theorem dX4_left_4 : decode cX4_left 4 = .ok (.invokevirtual 181, 3) := by decide +kernel
theorem dX4_left_7 : decode cX4_left 7 = .ok (.istore 4, 2) := by decide +kernel
theorem dX4_left_9 : decode cX4_left 9 = .ok (.iload 4, 2) := by decide +kernel
theorem dX4_left_11 : decode cX4_left 11 = .ok (.ifCond .eq 8, 3) := by decide +kernel
theorem dX4_left_14 : decode cX4_left 14 = .ok (.iload 4, 2) := by decide +kernel
theorem dX4_left_16 : decode cX4_left 16 = .ok (.goto 22, 3) := by decide +kernel
theorem dX4_left_19 : decode cX4_left 19 = .ok (.aload_n 0, 1) := by decide +kernel
theorem dX4_left_20 : decode cX4_left 20 = .ok (.iload_n 1, 1) := by decide +kernel
theorem dX4_left_21 : decode cX4_left 21 = .ok (.iload_n 2, 1) := by decide +kernel
theorem dX4_left_22 : decode cX4_left 22 = .ok (.aload_n 0, 1) := by decide +kernel
theorem dX4_left_23 : decode cX4_left 23 = .ok (.getfield 10, 3) := by decide +kernel
theorem dX4_left_26 : decode cX4_left 26 = .ok (.getfield 103, 3) := by decide +kernel
theorem dX4_left_29 : decode cX4_left 29 = .ok (.iload_n 1, 1) := by decide +kernel
theorem dX4_left_30 : decode cX4_left 30 = .ok (.iaload, 1) := by decide +kernel
theorem dX4_left_31 : decode cX4_left 31 = .ok (.invokevirtual 184, 3) := by decide +kernel
theorem dX4_left_34 : decode cX4_left 34 = .ok (.iload_n 3, 1) := by decide +kernel
theorem dX4_left_35 : decode cX4_left 35 = .ok (.invokestatic 187, 3) := by decide +kernel
theorem dX4_left_38 : decode cX4_left 38 = .ok (.ireturn, 1) := by decide +kernel
theorem dX4_cried_0 : decode cX4_cried 0 = .ok (.aload_n 0, 1) := by decide +kernel
theorem dX4_cried_1 : decode cX4_cried 1 = .ok (.iload_n 1, 1) := by decide +kernel
theorem dX4_cried_2 : decode cX4_cried 2 = .ok (.iload_n 2, 1) := by decide +kernel
theorem dX4_cried_3 : decode cX4_cried 3 = .ok (.iload_n 3, 1) := by decide +kernel
theorem dX4_cried_4 : decode cX4_cried 4 = .ok (.invokevirtual 181, 3) := by decide +kernel
theorem dX4_cried_7 : decode cX4_cried 7 = .ok (.istore 4, 2) := by decide +kernel
theorem dX4_cried_9 : decode cX4_cried 9 = .ok (.iload 4, 2) := by decide +kernel
theorem dX4_cried_11 : decode cX4_cried 11 = .ok (.ifCond .eq 8, 3) := by decide +kernel
theorem dX4_cried_14 : decode cX4_cried 14 = .ok (.iload 4, 2) := by decide +kernel
theorem dX4_cried_16 : decode cX4_cried 16 = .ok (.goto 22, 3) := by decide +kernel
theorem dX4_cried_19 : decode cX4_cried 19 = .ok (.aload_n 0, 1) := by decide +kernel
theorem dX4_cried_20 : decode cX4_cried 20 = .ok (.iload_n 1, 1) := by decide +kernel
theorem dX4_cried_21 : decode cX4_cried 21 = .ok (.iload_n 2, 1) := by decide +kernel
theorem dX4_cried_22 : decode cX4_cried 22 = .ok (.aload_n 0, 1) := by decide +kernel
theorem dX4_cried_23 : decode cX4_cried 23 = .ok (.getfield 10, 3) := by decide +kernel
theorem dX4_cried_26 : decode cX4_cried 26 = .ok (.getfield 103, 3) := by decide +kernel
theorem dX4_cried_29 : decode cX4_cried 29 = .ok (.iload_n 1, 1) := by decide +kernel
theorem dX4_cried_30 : decode cX4_cried 30 = .ok (.iaload, 1) := by decide +kernel
theorem dX4_cried_31 : decode cX4_cried 31 = .ok (.invokevirtual 184, 3) := by decide +kernel
theorem dX4_cried_34 : decode cX4_cried 34 = .ok (.iload_n 3, 1) := by decide +kernel
theorem dX4_cried_35 : decode cX4_cried 35 = .ok (.invokestatic 187, 3) := by decide +kernel
theorem dX4_cried_38 : decode cX4_cried 38 = .ok (.ireturn, 1) := by decide +kernel
theorem dX4_floated_0 : decode cX4_floated 0 = .ok (.aload_n 0, 1) := by decide +kernel
theorem dX4_floated_1 : decode cX4_floated 1 = .ok (.iload_n 1, 1) := by decide +kernel
theorem dX4_floated_2 : decode cX4_floated 2 = .ok (.iload_n 2, 1) := by decide +kernel
theorem dX4_floated_3 : decode cX4_floated 3 = .ok (.iload_n 3, 1) := by decide +kernel
theorem dX4_floated_4 : decode cX4_floated 4 = .ok (.invokevirtual 181, 3) := by decide +kernel
theorem dX4_floated_7 : decode cX4_floated 7 = .ok (.istore 4, 2) := by decide +kernel
theorem dX4_floated_9 : decode cX4_floated 9 = .ok (.iload 4, 2) := by decide +kernel
theorem dX4_floated_11 : decode cX4_floated 11 = .ok (.ifCond .eq 6, 3) := by decide +kernel
theorem dX4_floated_14 : decode cX4_floated 14 = .ok (.iload 4, 2) := by decide +kernel
theorem dX4_floated_16 : decode cX4_floated 16 = .ok (.ireturn, 1) := by decide +kernel
theorem dX4_floated_17 : decode cX4_floated 17 = .ok (.aload_n 0, 1) := by decide +kernel
theorem dX4_floated_18 : decode cX4_floated 18 = .ok (.getfield 10, 3) := by decide +kernel
theorem dX4_floated_21 : decode cX4_floated 21 = .ok (.invokevirtual 190, 3) := by decide +kernel
theorem dX4_floated_24 : decode cX4_floated 24 = .ok (.aload_n 0, 1) := by decide +kernel
theorem dX4_floated_25 : decode cX4_floated 25 = .ok (.getfield 10, 3) := by decide +kernel
theorem dX4_floated_28 : decode cX4_floated 28 = .ok (.getfield 118, 3) := by decide +kernel
theorem dX4_floated_31 : decode cX4_floated 31 = .ok (.iconst (-1), 1) := by decide +kernel
theorem dX4_floated_32 : decode cX4_floated 32 = .ok (.ixor, 1) := by decide +kernel
theorem dX4_floated_33 : decode cX4_floated 33 = .ok (.iand, 1) := by decide +kernel
theorem dX4_floated_34 : decode cX4_floated 34 = .ok (.aload_n 0, 1) := by decide +kernel
theorem dX4_floated_35 : decode cX4_floated 35 = .ok (.getfield 10, 3) := by decide +kernel
theorem dX4_floated_38 : decode cX4_floated 38 = .ok (.getfield 103, 3) := by decide +kernel
theorem dX4_floated_41 : decode cX4_floated 41 = .ok (.iload_n 1, 1) := by decide +kernel
theorem dX4_floated_42 : decode cX4_floated 42 = .ok (.iaload, 1) := by decide +kernel
theorem dX4_floated_43 : decode cX4_floated 43 = .ok (.iconst (-1), 1) := by decide +kernel
theorem dX4_floated_44 : decode cX4_floated 44 = .ok (.ixor, 1) := by decide +kernel
theorem dX4_floated_45 : decode cX4_floated 45 = .ok (.iand, 1) := by decide +kernel
theorem dX4_floated_46 : decode cX4_floated 46 = .ok (.istore 5, 2) := by decide +kernel
theorem dX4_floated_48 : decode cX4_floated 48 = .ok (.aload_n 0, 1) := by decide +kernel
theorem dX4_floated_49 : decode cX4_floated 49 = .ok (.iload_n 1, 1) := by decide +kernel
theorem dX4_floated_50 : decode cX4_floated 50 = .ok (.iload_n 2, 1) := by decide +kernel
theorem dX4_floated_51 : decode cX4_floated 51 = .ok (.iload 5, 2) := by decide +kernel
theorem dX4_floated_53 : decode cX4_floated 53 = .ok (.invokevirtual 184, 3) := by decide +kernel
theorem dX4_floated_56 : decode cX4_floated 56 = .ok (.iload_n 3, 1) := by decide +kernel
theorem dX4_floated_57 : decode cX4_floated 57 = .ok (.invokestatic 187, 3) := by decide +kernel
theorem dX4_floated_60 : decode cX4_floated 60 = .ok (.ireturn, 1) := by decide +kernel
theorem dX4_mended_0 : decode cX4_mended 0 = .ok (.aload_n 0, 1) := by decide +kernel
theorem dX4_mended_1 : decode cX4_mended 1 = .ok (.iload_n 1, 1) := by decide +kernel
theorem dX4_mended_2 : decode cX4_mended 2 = .ok (.iload_n 2, 1) := by decide +kernel
theorem dX4_mended_3 : decode cX4_mended 3 = .ok (.iload_n 3, 1) := by decide +kernel
theorem dX4_mended_4 : decode cX4_mended 4 = .ok (.invokevirtual 181, 3) := by decide +kernel
theorem dX4_mended_7 : decode cX4_mended 7 = .ok (.istore 4, 2) := by decide +kernel
theorem dX4_mended_9 : decode cX4_mended 9 = .ok (.iload 4, 2) := by decide +kernel
theorem dX4_mended_11 : decode cX4_mended 11 = .ok (.ifCond .eq 6, 3) := by decide +kernel
theorem dX4_mended_14 : decode cX4_mended 14 = .ok (.iload 4, 2) := by decide +kernel
theorem dX4_mended_16 : decode cX4_mended 16 = .ok (.ireturn, 1) := by decide +kernel
theorem dX4_mended_17 : decode cX4_mended 17 = .ok (.aload_n 0, 1) := by decide +kernel
theorem dX4_mended_18 : decode cX4_mended 18 = .ok (.getfield 10, 3) := by decide +kernel
theorem dX4_mended_21 : decode cX4_mended 21 = .ok (.iload_n 1, 1) := by decide +kernel
theorem dX4_mended_22 : decode cX4_mended 22 = .ok (.invokevirtual 156, 3) := by decide +kernel
theorem dX4_mended_25 : decode cX4_mended 25 = .ok (.istore 5, 2) := by decide +kernel
theorem dX4_mended_27 : decode cX4_mended 27 = .ok (.aload_n 0, 1) := by decide +kernel
theorem dX4_mended_28 : decode cX4_mended 28 = .ok (.aload_n 0, 1) := by decide +kernel
theorem dX4_mended_29 : decode cX4_mended 29 = .ok (.getfield 10, 3) := by decide +kernel
theorem dX4_mended_32 : decode cX4_mended 32 = .ok (.getfield 97, 3) := by decide +kernel
theorem dX4_mended_35 : decode cX4_mended 35 = .ok (.iload_n 1, 1) := by decide +kernel
theorem dX4_mended_36 : decode cX4_mended 36 = .ok (.iaload, 1) := by decide +kernel
theorem dX4_mended_37 : decode cX4_mended 37 = .ok (.iload_n 2, 1) := by decide +kernel
theorem dX4_mended_38 : decode cX4_mended 38 = .ok (.iload 5, 2) := by decide +kernel
theorem dX4_mended_40 : decode cX4_mended 40 = .ok (.invokevirtual 193, 3) := by decide +kernel
theorem dX4_mended_43 : decode cX4_mended 43 = .ok (.istore 6, 2) := by decide +kernel
theorem dX4_mended_45 : decode cX4_mended 45 = .ok (.iload 6, 2) := by decide +kernel
theorem dX4_mended_47 : decode cX4_mended 47 = .ok (.bipush (-6), 2) := by decide +kernel
theorem dX4_mended_49 : decode cX4_mended 49 = .ok (.if_icmp .ne 6, 3) := by decide +kernel
theorem dX4_mended_52 : decode cX4_mended 52 = .ok (.bipush (-6), 2) := by decide +kernel
theorem dX4_mended_54 : decode cX4_mended 54 = .ok (.ireturn, 1) := by decide +kernel
theorem dX4_mended_55 : decode cX4_mended 55 = .ok (.iload_n 3, 1) := by decide +kernel
theorem dX4_mended_56 : decode cX4_mended 56 = .ok (.ifCond .ne 8, 3) := by decide +kernel
theorem dX4_mended_59 : decode cX4_mended 59 = .ok (.iload 6, 2) := by decide +kernel
theorem dX4_mended_61 : decode cX4_mended 61 = .ok (.goto 16, 3) := by decide +kernel
theorem dX4_mended_64 : decode cX4_mended 64 = .ok (.iload 5, 2) := by decide +kernel
theorem dX4_mended_66 : decode cX4_mended 66 = .ok (.aload_n 0, 1) := by decide +kernel
theorem dX4_mended_67 : decode cX4_mended 67 = .ok (.getfield 10, 3) := by decide +kernel
theorem dX4_mended_70 : decode cX4_mended 70 = .ok (.getfield 79, 3) := by decide +kernel
theorem dX4_mended_73 : decode cX4_mended 73 = .ok (.iload 6, 2) := by decide +kernel
theorem dX4_mended_75 : decode cX4_mended 75 = .ok (.iaload, 1) := by decide +kernel
theorem dX4_mended_76 : decode cX4_mended 76 = .ok (.isub, 1) := by decide +kernel
theorem dX4_mended_77 : decode cX4_mended 77 = .ok (.ireturn, 1) := by decide +kernel
theorem dX4_rumour_0 : decode cX4_rumour 0 = .ok (.iload_n 1, 1) := by decide +kernel
theorem dX4_rumour_1 : decode cX4_rumour 1 = .ok (.invokestatic 109, 3) := by decide +kernel
theorem dX4_rumour_4 : decode cX4_rumour 4 = .ok (.ifCond .ne 5, 3) := by decide +kernel
theorem dX4_rumour_7 : decode cX4_rumour 7 = .ok (.iconst (-1), 1) := by decide +kernel
theorem dX4_rumour_8 : decode cX4_rumour 8 = .ok (.ireturn, 1) := by decide +kernel
theorem dX4_rumour_9 : decode cX4_rumour 9 = .ok (.aload_n 0, 1) := by decide +kernel
theorem dX4_rumour_10 : decode cX4_rumour 10 = .ok (.getfield 16, 3) := by decide +kernel
theorem dX4_rumour_13 : decode cX4_rumour 13 = .ok (.aload_n 0, 1) := by decide +kernel
theorem dX4_rumour_14 : decode cX4_rumour 14 = .ok (.getfield 10, 3) := by decide +kernel
theorem dX4_rumour_17 : decode cX4_rumour 17 = .ok (.invokevirtual 159, 3) := by decide +kernel
theorem dX4_rumour_20 : decode cX4_rumour 20 = .ok (.iconst 0, 1) := by decide +kernel
theorem dX4_rumour_21 : decode cX4_rumour 21 = .ok (.istore_n 2, 1) := by decide +kernel
theorem dX4_rumour_22 : decode cX4_rumour 22 = .ok (.iload_n 2, 1) := by decide +kernel
theorem dX4_rumour_23 : decode cX4_rumour 23 = .ok (.bipush 6, 2) := by decide +kernel
theorem dX4_rumour_25 : decode cX4_rumour 25 = .ok (.if_icmp .gt 36, 3) := by decide +kernel
theorem dX4_rumour_28 : decode cX4_rumour 28 = .ok (.aload_n 0, 1) := by decide +kernel
theorem dX4_rumour_29 : decode cX4_rumour 29 = .ok (.getfield 16, 3) := by decide +kernel
theorem dX4_rumour_32 : decode cX4_rumour 32 = .ok (.iload_n 1, 1) := by decide +kernel
theorem dX4_rumour_33 : decode cX4_rumour 33 = .ok (.invokevirtual 196, 3) := by decide +kernel
theorem dX4_rumour_36 : decode cX4_rumour 36 = .ok (.istore_n 3, 1) := by decide +kernel
theorem dX4_rumour_37 : decode cX4_rumour 37 = .ok (.iload_n 3, 1) := by decide +kernel
theorem dX4_rumour_38 : decode cX4_rumour 38 = .ok (.ifCond .ne 6, 3) := by decide +kernel
theorem dX4_rumour_41 : decode cX4_rumour 41 = .ok (.goto 20, 3) := by decide +kernel
theorem dX4_rumour_44 : decode cX4_rumour 44 = .ok (.aload_n 0, 1) := by decide +kernel
theorem dX4_rumour_45 : decode cX4_rumour 45 = .ok (.getfield 16, 3) := by decide +kernel
theorem dX4_rumour_48 : decode cX4_rumour 48 = .ok (.iload_n 3, 1) := by decide +kernel
theorem dX4_rumour_49 : decode cX4_rumour 49 = .ok (.iconst 1, 1) := by decide +kernel
theorem dX4_rumour_50 : decode cX4_rumour 50 = .ok (.iload_n 1, 1) := by decide +kernel
theorem dX4_rumour_51 : decode cX4_rumour 51 = .ok (.ishl, 1) := by decide +kernel
theorem dX4_rumour_52 : decode cX4_rumour 52 = .ok (.invokevirtual 199, 3) := by decide +kernel
theorem dX4_rumour_55 : decode cX4_rumour 55 = .ok (.iinc 2 1, 3) := by decide +kernel
theorem dX4_rumour_58 : decode cX4_rumour 58 = .ok (.goto (-36), 3) := by decide +kernel
theorem dX4_rumour_61 : decode cX4_rumour 61 = .ok (.aload_n 0, 1) := by decide +kernel
theorem dX4_rumour_62 : decode cX4_rumour 62 = .ok (.getfield 16, 3) := by decide +kernel
theorem dX4_rumour_65 : decode cX4_rumour 65 = .ok (.iload_n 1, 1) := by decide +kernel
theorem dX4_rumour_66 : decode cX4_rumour 66 = .ok (.invokevirtual 203, 3) := by decide +kernel
theorem dX4_rumour_69 : decode cX4_rumour 69 = .ok (.ireturn, 1) := by decide +kernel
theorem dX4_errands_0 : decode cX4_errands 0 = .ok (.iload_n 1, 1) := by decide +kernel
theorem dX4_errands_1 : decode cX4_errands 1 = .ok (.aload_n 0, 1) := by decide +kernel
theorem dX4_errands_2 : decode cX4_errands 2 = .ok (.getfield 10, 3) := by decide +kernel
theorem dX4_errands_5 : decode cX4_errands 5 = .ok (.getfield 94, 3) := by decide +kernel
theorem dX4_errands_8 : decode cX4_errands 8 = .ok (.iconst (-1), 1) := by decide +kernel
theorem dX4_errands_9 : decode cX4_errands 9 = .ok (.ixor, 1) := by decide +kernel
theorem dX4_errands_10 : decode cX4_errands 10 = .ok (.iand, 1) := by decide +kernel
theorem dX4_errands_11 : decode cX4_errands 11 = .ok (.ifCond .ne 22, 3) := by decide +kernel
theorem dX4_errands_14 : decode cX4_errands 14 = .ok (.aload_n 0, 1) := by decide +kernel
theorem dX4_errands_15 : decode cX4_errands 15 = .ok (.getfield 40, 3) := by decide +kernel
theorem dX4_errands_18 : decode cX4_errands 18 = .ok (.iload_n 1, 1) := by decide +kernel
theorem dX4_errands_19 : decode cX4_errands 19 = .ok (.iload_n 2, 1) := by decide +kernel
theorem dX4_errands_20 : decode cX4_errands 20 = .ok (.aload_n 0, 1) := by decide +kernel
theorem dX4_errands_21 : decode cX4_errands 21 = .ok (.getfield 10, 3) := by decide +kernel
theorem dX4_errands_24 : decode cX4_errands 24 = .ok (.getfield 48, 3) := by decide +kernel
theorem dX4_errands_27 : decode cX4_errands 27 = .ok (.invokevirtual 206, 3) := by decide +kernel
theorem dX4_errands_30 : decode cX4_errands 30 = .ok (.ifCond .ne 6, 3) := by decide +kernel
theorem dX4_errands_33 : decode cX4_errands 33 = .ok (.bipush (-2), 2) := by decide +kernel
theorem dX4_errands_35 : decode cX4_errands 35 = .ok (.ireturn, 1) := by decide +kernel
theorem dX4_errands_36 : decode cX4_errands 36 = .ok (.iload_n 3, 1) := by decide +kernel
theorem dX4_errands_37 : decode cX4_errands 37 = .ok (.iconst 0, 1) := by decide +kernel
theorem dX4_errands_38 : decode cX4_errands 38 = .ok (.iload_n 1, 1) := by decide +kernel
theorem dX4_errands_39 : decode cX4_errands 39 = .ok (.invokestatic 85, 3) := by decide +kernel
theorem dX4_errands_42 : decode cX4_errands 42 = .ok (.iconst 1, 1) := by decide +kernel
theorem dX4_errands_43 : decode cX4_errands 43 = .ok (.isub, 1) := by decide +kernel
theorem dX4_errands_44 : decode cX4_errands 44 = .ok (.invokestatic 44, 3) := by decide +kernel
theorem dX4_errands_47 : decode cX4_errands 47 = .ok (.ifCond .ne 6, 3) := by decide +kernel
theorem dX4_errands_50 : decode cX4_errands 50 = .ok (.bipush (-6), 2) := by decide +kernel
theorem dX4_errands_52 : decode cX4_errands 52 = .ok (.ireturn, 1) := by decide +kernel
theorem dX4_errands_53 : decode cX4_errands 53 = .ok (.aload_n 0, 1) := by decide +kernel
theorem dX4_errands_54 : decode cX4_errands 54 = .ok (.getfield 16, 3) := by decide +kernel
theorem dX4_errands_57 : decode cX4_errands 57 = .ok (.aload_n 0, 1) := by decide +kernel
theorem dX4_errands_58 : decode cX4_errands 58 = .ok (.getfield 10, 3) := by decide +kernel
theorem dX4_errands_61 : decode cX4_errands 61 = .ok (.invokevirtual 159, 3) := by decide +kernel
theorem dX4_errands_64 : decode cX4_errands 64 = .ok (.aload_n 0, 1) := by decide +kernel
theorem dX4_errands_65 : decode cX4_errands 65 = .ok (.getfield 40, 3) := by decide +kernel
theorem dX4_errands_68 : decode cX4_errands 68 = .ok (.aload_n 0, 1) := by decide +kernel
theorem dX4_errands_69 : decode cX4_errands 69 = .ok (.getfield 16, 3) := by decide +kernel
theorem dX4_errands_72 : decode cX4_errands 72 = .ok (.iload_n 1, 1) := by decide +kernel
theorem dX4_errands_73 : decode cX4_errands 73 = .ok (.iconst 0, 1) := by decide +kernel
theorem dX4_errands_74 : decode cX4_errands 74 = .ok (.invokestatic 209, 3) := by decide +kernel
theorem dX4_errands_77 : decode cX4_errands 77 = .ok (.ifCond .eq 15, 3) := by decide +kernel
theorem dX4_errands_80 : decode cX4_errands 80 = .ok (.aload_n 0, 1) := by decide +kernel
theorem dX4_errands_81 : decode cX4_errands 81 = .ok (.getfield 40, 3) := by decide +kernel
theorem dX4_errands_84 : decode cX4_errands 84 = .ok (.getfield 213, 3) := by decide +kernel
theorem dX4_errands_87 : decode cX4_errands 87 = .ok (.iload_n 3, 1) := by decide +kernel
theorem dX4_errands_88 : decode cX4_errands 88 = .ok (.iaload, 1) := by decide +kernel
theorem dX4_errands_89 : decode cX4_errands 89 = .ok (.goto 5, 3) := by decide +kernel
theorem dX4_errands_92 : decode cX4_errands 92 = .ok (.bipush (-6), 2) := by decide +kernel
theorem dX4_errands_94 : decode cX4_errands 94 = .ok (.ireturn, 1) := by decide +kernel
theorem dX4_two_0 : decode cX4_two 0 = .ok (.iload_n 1, 1) := by decide +kernel
theorem dX4_two_1 : decode cX4_two 1 = .ok (.invokestatic 109, 3) := by decide +kernel
theorem dX4_two_4 : decode cX4_two 4 = .ok (.ifCond .eq 14, 3) := by decide +kernel
theorem dX4_two_7 : decode cX4_two 7 = .ok (.aload_n 0, 1) := by decide +kernel
theorem dX4_two_8 : decode cX4_two 8 = .ok (.getfield 10, 3) := by decide +kernel
theorem dX4_two_11 : decode cX4_two 11 = .ok (.iload_n 2, 1) := by decide +kernel
theorem dX4_two_12 : decode cX4_two 12 = .ok (.invokevirtual 56, 3) := by decide +kernel
theorem dX4_two_15 : decode cX4_two 15 = .ok (.ifCond .ne 5, 3) := by decide +kernel
theorem dX4_two_18 : decode cX4_two 18 = .ok (.iconst (-1), 1) := by decide +kernel
theorem dX4_two_19 : decode cX4_two 19 = .ok (.ireturn, 1) := by decide +kernel
theorem dX4_two_20 : decode cX4_two 20 = .ok (.aload_n 0, 1) := by decide +kernel
theorem dX4_two_21 : decode cX4_two 21 = .ok (.getfield 10, 3) := by decide +kernel
theorem dX4_two_24 : decode cX4_two 24 = .ok (.getfield 112, 3) := by decide +kernel
theorem dX4_two_27 : decode cX4_two 27 = .ok (.iload_n 1, 1) := by decide +kernel
theorem dX4_two_28 : decode cX4_two 28 = .ok (.iaload, 1) := by decide +kernel
theorem dX4_two_29 : decode cX4_two 29 = .ok (.iconst 2, 1) := by decide +kernel
theorem dX4_two_30 : decode cX4_two 30 = .ok (.invokestatic 216, 3) := by decide +kernel
theorem dX4_two_33 : decode cX4_two 33 = .ok (.istore 4, 2) := by decide +kernel
theorem dX4_two_35 : decode cX4_two 35 = .ok (.aload_n 0, 1) := by decide +kernel
theorem dX4_two_36 : decode cX4_two 36 = .ok (.iload_n 2, 1) := by decide +kernel
theorem dX4_two_37 : decode cX4_two 37 = .ok (.iload 4, 2) := by decide +kernel
theorem dX4_two_39 : decode cX4_two 39 = .ok (.invokevirtual 219, 3) := by decide +kernel
theorem dX4_two_42 : decode cX4_two 42 = .ok (.istore 5, 2) := by decide +kernel
theorem dX4_two_44 : decode cX4_two 44 = .ok (.aload_n 0, 1) := by decide +kernel
theorem dX4_two_45 : decode cX4_two 45 = .ok (.iload_n 2, 1) := by decide +kernel
theorem dX4_two_46 : decode cX4_two 46 = .ok (.aload_n 0, 1) := by decide +kernel
theorem dX4_two_47 : decode cX4_two 47 = .ok (.getfield 10, 3) := by decide +kernel
theorem dX4_two_50 : decode cX4_two 50 = .ok (.getfield 112, 3) := by decide +kernel
theorem dX4_two_53 : decode cX4_two 53 = .ok (.iload_n 1, 1) := by decide +kernel
theorem dX4_two_54 : decode cX4_two 54 = .ok (.iaload, 1) := by decide +kernel
theorem dX4_two_55 : decode cX4_two 55 = .ok (.iload 4, 2) := by decide +kernel
theorem dX4_two_57 : decode cX4_two 57 = .ok (.isub, 1) := by decide +kernel
theorem dX4_two_58 : decode cX4_two 58 = .ok (.invokevirtual 219, 3) := by decide +kernel
theorem dX4_two_61 : decode cX4_two 61 = .ok (.istore 6, 2) := by decide +kernel
theorem dX4_two_63 : decode cX4_two 63 = .ok (.iconst 0, 1) := by decide +kernel
theorem dX4_two_64 : decode cX4_two 64 = .ok (.istore 7, 2) := by decide +kernel
theorem dX4_two_66 : decode cX4_two 66 = .ok (.iconst 0, 1) := by decide +kernel
theorem dX4_two_67 : decode cX4_two 67 = .ok (.istore 8, 2) := by decide +kernel
theorem dX4_two_69 : decode cX4_two 69 = .ok (.iload 8, 2) := by decide +kernel
theorem dX4_two_71 : decode cX4_two 71 = .ok (.bipush 6, 2) := by decide +kernel
theorem dX4_two_73 : decode cX4_two 73 = .ok (.if_icmp .ge 66, 3) := by decide +kernel
theorem dX4_two_76 : decode cX4_two 76 = .ok (.iload 8, 2) := by decide +kernel
theorem dX4_two_78 : decode cX4_two 78 = .ok (.iconst 1, 1) := by decide +kernel
theorem dX4_two_79 : decode cX4_two 79 = .ok (.iadd, 1) := by decide +kernel
theorem dX4_two_80 : decode cX4_two 80 = .ok (.istore 9, 2) := by decide +kernel
theorem dX4_two_82 : decode cX4_two 82 = .ok (.iload 9, 2) := by decide +kernel
theorem dX4_two_84 : decode cX4_two 84 = .ok (.bipush 6, 2) := by decide +kernel
theorem dX4_two_86 : decode cX4_two 86 = .ok (.if_icmp .ge 47, 3) := by decide +kernel
theorem dX4_two_89 : decode cX4_two 89 = .ok (.iload 5, 2) := by decide +kernel
theorem dX4_two_91 : decode cX4_two 91 = .ok (.iload 8, 2) := by decide +kernel
theorem dX4_two_93 : decode cX4_two 93 = .ok (.invokestatic 163, 3) := by decide +kernel
theorem dX4_two_96 : decode cX4_two 96 = .ok (.ifCond .eq 31, 3) := by decide +kernel
theorem dX4_two_99 : decode cX4_two 99 = .ok (.iload 6, 2) := by decide +kernel
theorem dX4_two_101 : decode cX4_two 101 = .ok (.iload 9, 2) := by decide +kernel
theorem dX4_two_103 : decode cX4_two 103 = .ok (.invokestatic 163, 3) := by decide +kernel
theorem dX4_two_106 : decode cX4_two 106 = .ok (.ifCond .eq 21, 3) := by decide +kernel
theorem dX4_two_109 : decode cX4_two 109 = .ok (.iload 7, 2) := by decide +kernel
theorem dX4_two_111 : decode cX4_two 111 = .ok (.iload_n 3, 1) := by decide +kernel
theorem dX4_two_112 : decode cX4_two 112 = .ok (.if_icmp .ne 12, 3) := by decide +kernel
theorem dX4_two_115 : decode cX4_two 115 = .ok (.bipush 10, 2) := by decide +kernel
theorem dX4_two_117 : decode cX4_two 117 = .ok (.iload 8, 2) := by decide +kernel
theorem dX4_two_119 : decode cX4_two 119 = .ok (.imul, 1) := by decide +kernel
theorem dX4_two_120 : decode cX4_two 120 = .ok (.iload 9, 2) := by decide +kernel
theorem dX4_two_122 : decode cX4_two 122 = .ok (.iadd, 1) := by decide +kernel
theorem dX4_two_123 : decode cX4_two 123 = .ok (.ireturn, 1) := by decide +kernel
theorem dX4_two_124 : decode cX4_two 124 = .ok (.iinc 7 1, 3) := by decide +kernel
theorem dX4_two_127 : decode cX4_two 127 = .ok (.iinc 9 1, 3) := by decide +kernel
theorem dX4_two_130 : decode cX4_two 130 = .ok (.goto (-48), 3) := by decide +kernel
theorem dX4_two_133 : decode cX4_two 133 = .ok (.iinc 8 1, 3) := by decide +kernel
theorem dX4_two_136 : decode cX4_two 136 = .ok (.goto (-67), 3) := by decide +kernel
theorem dX4_two_139 : decode cX4_two 139 = .ok (.iload_n 3, 1) := by decide +kernel
theorem dX4_two_140 : decode cX4_two 140 = .ok (.iconst (-1), 1) := by decide +kernel
theorem dX4_two_141 : decode cX4_two 141 = .ok (.if_icmp .ne 8, 3) := by decide +kernel
theorem dX4_two_144 : decode cX4_two 144 = .ok (.iload 7, 2) := by decide +kernel
theorem dX4_two_146 : decode cX4_two 146 = .ok (.goto 5, 3) := by decide +kernel
theorem dX4_two_149 : decode cX4_two 149 = .ok (.bipush (-6), 2) := by decide +kernel
theorem dX4_two_151 : decode cX4_two 151 = .ok (.ireturn, 1) := by decide +kernel
theorem dX4_fee_0 : decode cX4_fee 0 = .ok (.aload_n 0, 1) := by decide +kernel
theorem dX4_fee_1 : decode cX4_fee 1 = .ok (.getfield 10, 3) := by decide +kernel
theorem dX4_fee_4 : decode cX4_fee 4 = .ok (.iload_n 1, 1) := by decide +kernel
theorem dX4_fee_5 : decode cX4_fee 5 = .ok (.invokevirtual 106, 3) := by decide +kernel
theorem dX4_fee_8 : decode cX4_fee 8 = .ok (.ifCond .eq 14, 3) := by decide +kernel
theorem dX4_fee_11 : decode cX4_fee 11 = .ok (.aload_n 0, 1) := by decide +kernel
theorem dX4_fee_12 : decode cX4_fee 12 = .ok (.getfield 10, 3) := by decide +kernel
theorem dX4_fee_15 : decode cX4_fee 15 = .ok (.iload_n 2, 1) := by decide +kernel
theorem dX4_fee_16 : decode cX4_fee 16 = .ok (.invokevirtual 56, 3) := by decide +kernel
theorem dX4_fee_19 : decode cX4_fee 19 = .ok (.ifCond .ne 5, 3) := by decide +kernel
theorem dX4_fee_22 : decode cX4_fee 22 = .ok (.iconst (-1), 1) := by decide +kernel
theorem dX4_fee_23 : decode cX4_fee 23 = .ok (.ireturn, 1) := by decide +kernel
theorem dX4_fee_24 : decode cX4_fee 24 = .ok (.aload_n 0, 1) := by decide +kernel
theorem dX4_fee_25 : decode cX4_fee 25 = .ok (.iload_n 1, 1) := by decide +kernel
theorem dX4_fee_26 : decode cX4_fee 26 = .ok (.iload_n 2, 1) := by decide +kernel
theorem dX4_fee_27 : decode cX4_fee 27 = .ok (.invokevirtual 222, 3) := by decide +kernel
theorem dX4_fee_30 : decode cX4_fee 30 = .ok (.ireturn, 1) := by decide +kernel
theorem dX4_fees_0 : decode cX4_fees 0 = .ok (.aload_n 0, 1) := by decide +kernel
theorem dX4_fees_1 : decode cX4_fees 1 = .ok (.getfield 10, 3) := by decide +kernel
theorem dX4_fees_4 : decode cX4_fees 4 = .ok (.iload_n 1, 1) := by decide +kernel
theorem dX4_fees_5 : decode cX4_fees 5 = .ok (.invokevirtual 56, 3) := by decide +kernel
theorem dX4_fees_8 : decode cX4_fees 8 = .ok (.ifCond .ne 5, 3) := by decide +kernel
theorem dX4_fees_11 : decode cX4_fees 11 = .ok (.iconst (-1), 1) := by decide +kernel
theorem dX4_fees_12 : decode cX4_fees 12 = .ok (.ireturn, 1) := by decide +kernel
theorem dX4_fees_13 : decode cX4_fees 13 = .ok (.iload_n 2, 1) := by decide +kernel
theorem dX4_fees_14 : decode cX4_fees 14 = .ok (.iconst 0, 1) := by decide +kernel
theorem dX4_fees_15 : decode cX4_fees 15 = .ok (.iconst 1, 1) := by decide +kernel
theorem dX4_fees_16 : decode cX4_fees 16 = .ok (.invokestatic 44, 3) := by decide +kernel
theorem dX4_fees_19 : decode cX4_fees 19 = .ok (.ifCond .ne 6, 3) := by decide +kernel
theorem dX4_fees_22 : decode cX4_fees 22 = .ok (.bipush (-2), 2) := by decide +kernel
theorem dX4_fees_24 : decode cX4_fees 24 = .ok (.ireturn, 1) := by decide +kernel
theorem dX4_fees_25 : decode cX4_fees 25 = .ok (.iconst 0, 1) := by decide +kernel
theorem dX4_fees_26 : decode cX4_fees 26 = .ok (.istore_n 3, 1) := by decide +kernel
theorem dX4_fees_27 : decode cX4_fees 27 = .ok (.iconst 0, 1) := by decide +kernel
theorem dX4_fees_28 : decode cX4_fees 28 = .ok (.istore 4, 2) := by decide +kernel
theorem dX4_fees_30 : decode cX4_fees 30 = .ok (.iconst 0, 1) := by decide +kernel
theorem dX4_fees_31 : decode cX4_fees 31 = .ok (.istore 5, 2) := by decide +kernel
theorem dX4_fees_33 : decode cX4_fees 33 = .ok (.iload 5, 2) := by decide +kernel
theorem dX4_fees_35 : decode cX4_fees 35 = .ok (.bipush 6, 2) := by decide +kernel
theorem dX4_fees_37 : decode cX4_fees 37 = .ok (.if_icmp .ge 50, 3) := by decide +kernel
theorem dX4_fees_40 : decode cX4_fees 40 = .ok (.aload_n 0, 1) := by decide +kernel
theorem dX4_fees_41 : decode cX4_fees 41 = .ok (.getfield 10, 3) := by decide +kernel
theorem dX4_fees_44 : decode cX4_fees 44 = .ok (.iload 5, 2) := by decide +kernel
theorem dX4_fees_46 : decode cX4_fees 46 = .ok (.invokevirtual 106, 3) := by decide +kernel
theorem dX4_fees_49 : decode cX4_fees 49 = .ok (.ifCond .eq 13, 3) := by decide +kernel
theorem dX4_fees_52 : decode cX4_fees 52 = .ok (.aload_n 0, 1) := by decide +kernel
theorem dX4_fees_53 : decode cX4_fees 53 = .ok (.iload 5, 2) := by decide +kernel
theorem dX4_fees_55 : decode cX4_fees 55 = .ok (.iload_n 1, 1) := by decide +kernel
theorem dX4_fees_56 : decode cX4_fees 56 = .ok (.invokevirtual 222, 3) := by decide +kernel
theorem dX4_fees_59 : decode cX4_fees 59 = .ok (.goto 5, 3) := by decide +kernel
theorem dX4_fees_62 : decode cX4_fees 62 = .ok (.bipush (-6), 2) := by decide +kernel
theorem dX4_fees_64 : decode cX4_fees 64 = .ok (.istore 6, 2) := by decide +kernel
theorem dX4_fees_66 : decode cX4_fees 66 = .ok (.iload 6, 2) := by decide +kernel
theorem dX4_fees_68 : decode cX4_fees 68 = .ok (.bipush (-6), 2) := by decide +kernel
theorem dX4_fees_70 : decode cX4_fees 70 = .ok (.if_icmp .eq 11, 3) := by decide +kernel
theorem dX4_fees_73 : decode cX4_fees 73 = .ok (.iload_n 3, 1) := by decide +kernel
theorem dX4_fees_74 : decode cX4_fees 74 = .ok (.iload 6, 2) := by decide +kernel
theorem dX4_fees_76 : decode cX4_fees 76 = .ok (.iadd, 1) := by decide +kernel
theorem dX4_fees_77 : decode cX4_fees 77 = .ok (.istore_n 3, 1) := by decide +kernel
theorem dX4_fees_78 : decode cX4_fees 78 = .ok (.iinc 4 1, 3) := by decide +kernel
theorem dX4_fees_81 : decode cX4_fees 81 = .ok (.iinc 5 1, 3) := by decide +kernel
theorem dX4_fees_84 : decode cX4_fees 84 = .ok (.goto (-51), 3) := by decide +kernel
theorem dX4_fees_87 : decode cX4_fees 87 = .ok (.iload_n 2, 1) := by decide +kernel
theorem dX4_fees_88 : decode cX4_fees 88 = .ok (.ifCond .ne 7, 3) := by decide +kernel
theorem dX4_fees_91 : decode cX4_fees 91 = .ok (.iload_n 3, 1) := by decide +kernel
theorem dX4_fees_92 : decode cX4_fees 92 = .ok (.goto 5, 3) := by decide +kernel
theorem dX4_fees_95 : decode cX4_fees 95 = .ok (.iload 4, 2) := by decide +kernel
theorem dX4_fees_97 : decode cX4_fees 97 = .ok (.ireturn, 1) := by decide +kernel
theorem dX4_seen_0 : decode cX4_seen 0 = .ok (.iload_n 1, 1) := by decide +kernel
theorem dX4_seen_1 : decode cX4_seen 1 = .ok (.iconst 0, 1) := by decide +kernel
theorem dX4_seen_2 : decode cX4_seen 2 = .ok (.bipush 7, 2) := by decide +kernel
theorem dX4_seen_4 : decode cX4_seen 4 = .ok (.invokestatic 44, 3) := by decide +kernel
theorem dX4_seen_7 : decode cX4_seen 7 = .ok (.ifCond .ne 5, 3) := by decide +kernel
theorem dX4_seen_10 : decode cX4_seen 10 = .ok (.iconst (-1), 1) := by decide +kernel
theorem dX4_seen_11 : decode cX4_seen 11 = .ok (.ireturn, 1) := by decide +kernel
theorem dX4_seen_12 : decode cX4_seen 12 = .ok (.iload_n 2, 1) := by decide +kernel
theorem dX4_seen_13 : decode cX4_seen 13 = .ok (.iconst 0, 1) := by decide +kernel
theorem dX4_seen_14 : decode cX4_seen 14 = .ok (.sipush 999, 3) := by decide +kernel
theorem dX4_seen_17 : decode cX4_seen 17 = .ok (.invokestatic 44, 3) := by decide +kernel
theorem dX4_seen_20 : decode cX4_seen 20 = .ok (.ifCond .ne 6, 3) := by decide +kernel
theorem dX4_seen_23 : decode cX4_seen 23 = .ok (.bipush (-2), 2) := by decide +kernel
theorem dX4_seen_25 : decode cX4_seen 25 = .ok (.ireturn, 1) := by decide +kernel
theorem dX4_seen_26 : decode cX4_seen 26 = .ok (.aload_n 0, 1) := by decide +kernel
theorem dX4_seen_27 : decode cX4_seen 27 = .ok (.getfield 10, 3) := by decide +kernel
theorem dX4_seen_30 : decode cX4_seen 30 = .ok (.getfield 225, 3) := by decide +kernel
theorem dX4_seen_33 : decode cX4_seen 33 = .ok (.bipush 6, 2) := by decide +kernel
theorem dX4_seen_35 : decode cX4_seen 35 = .ok (.if_icmp .lt 6, 3) := by decide +kernel
theorem dX4_seen_38 : decode cX4_seen 38 = .ok (.bipush (-4), 2) := by decide +kernel
theorem dX4_seen_40 : decode cX4_seen 40 = .ok (.ireturn, 1) := by decide +kernel
theorem dX4_seen_41 : decode cX4_seen 41 = .ok (.aload_n 0, 1) := by decide +kernel
theorem dX4_seen_42 : decode cX4_seen 42 = .ok (.getfield 10, 3) := by decide +kernel
theorem dX4_seen_45 : decode cX4_seen 45 = .ok (.getfield 228, 3) := by decide +kernel
theorem dX4_seen_48 : decode cX4_seen 48 = .ok (.aload_n 0, 1) := by decide +kernel
theorem dX4_seen_49 : decode cX4_seen 49 = .ok (.getfield 10, 3) := by decide +kernel
theorem dX4_seen_52 : decode cX4_seen 52 = .ok (.getfield 225, 3) := by decide +kernel
theorem dX4_seen_55 : decode cX4_seen 55 = .ok (.iload_n 1, 1) := by decide +kernel
theorem dX4_seen_56 : decode cX4_seen 56 = .ok (.iastore, 1) := by decide +kernel
theorem dX4_seen_57 : decode cX4_seen 57 = .ok (.aload_n 0, 1) := by decide +kernel
theorem dX4_seen_58 : decode cX4_seen 58 = .ok (.getfield 10, 3) := by decide +kernel
theorem dX4_seen_61 : decode cX4_seen 61 = .ok (.getfield 231, 3) := by decide +kernel
theorem dX4_seen_64 : decode cX4_seen 64 = .ok (.aload_n 0, 1) := by decide +kernel
theorem dX4_seen_65 : decode cX4_seen 65 = .ok (.getfield 10, 3) := by decide +kernel
theorem dX4_seen_68 : decode cX4_seen 68 = .ok (.getfield 225, 3) := by decide +kernel
theorem dX4_seen_71 : decode cX4_seen 71 = .ok (.iload_n 2, 1) := by decide +kernel
theorem dX4_seen_72 : decode cX4_seen 72 = .ok (.iastore, 1) := by decide +kernel
theorem dX4_seen_73 : decode cX4_seen 73 = .ok (.aload_n 0, 1) := by decide +kernel
theorem dX4_seen_74 : decode cX4_seen 74 = .ok (.getfield 10, 3) := by decide +kernel
theorem dX4_seen_77 : decode cX4_seen 77 = .ok (.dup, 1) := by decide +kernel
theorem dX4_seen_78 : decode cX4_seen 78 = .ok (.getfield 225, 3) := by decide +kernel
theorem dX4_seen_81 : decode cX4_seen 81 = .ok (.iconst 1, 1) := by decide +kernel
theorem dX4_seen_82 : decode cX4_seen 82 = .ok (.iadd, 1) := by decide +kernel
theorem dX4_seen_83 : decode cX4_seen 83 = .ok (.putfield 225, 3) := by decide +kernel
theorem dX4_seen_86 : decode cX4_seen 86 = .ok (.aload_n 0, 1) := by decide +kernel
theorem dX4_seen_87 : decode cX4_seen 87 = .ok (.getfield 10, 3) := by decide +kernel
theorem dX4_seen_90 : decode cX4_seen 90 = .ok (.getfield 225, 3) := by decide +kernel
theorem dX4_seen_93 : decode cX4_seen 93 = .ok (.ireturn, 1) := by decide +kernel
theorem dX4_forget_0 : decode cX4_forget 0 = .ok (.aload_n 0, 1) := by decide +kernel
theorem dX4_forget_1 : decode cX4_forget 1 = .ok (.getfield 10, 3) := by decide +kernel
theorem dX4_forget_4 : decode cX4_forget 4 = .ok (.getfield 225, 3) := by decide +kernel
theorem dX4_forget_7 : decode cX4_forget 7 = .ok (.istore_n 1, 1) := by decide +kernel
theorem dX4_forget_8 : decode cX4_forget 8 = .ok (.aload_n 0, 1) := by decide +kernel
theorem dX4_forget_9 : decode cX4_forget 9 = .ok (.getfield 10, 3) := by decide +kernel
theorem dX4_forget_12 : decode cX4_forget 12 = .ok (.iconst 0, 1) := by decide +kernel
theorem dX4_forget_13 : decode cX4_forget 13 = .ok (.putfield 225, 3) := by decide +kernel
theorem dX4_forget_16 : decode cX4_forget 16 = .ok (.iload_n 1, 1) := by decide +kernel
theorem dX4_forget_17 : decode cX4_forget 17 = .ok (.ireturn, 1) := by decide +kernel
theorem dX4_who_0 : decode cX4_who 0 = .ok (.iload_n 1, 1) := by decide +kernel
theorem dX4_who_1 : decode cX4_who 1 = .ok (.iconst 0, 1) := by decide +kernel
theorem dX4_who_2 : decode cX4_who 2 = .ok (.aload_n 0, 1) := by decide +kernel
theorem dX4_who_3 : decode cX4_who 3 = .ok (.getfield 10, 3) := by decide +kernel
theorem dX4_who_6 : decode cX4_who 6 = .ok (.getfield 225, 3) := by decide +kernel
theorem dX4_who_9 : decode cX4_who 9 = .ok (.iconst 1, 1) := by decide +kernel
theorem dX4_who_10 : decode cX4_who 10 = .ok (.isub, 1) := by decide +kernel
theorem dX4_who_11 : decode cX4_who 11 = .ok (.invokestatic 44, 3) := by decide +kernel
theorem dX4_who_14 : decode cX4_who 14 = .ok (.ifCond .eq 22, 3) := by decide +kernel
theorem dX4_who_17 : decode cX4_who 17 = .ok (.aload_n 0, 1) := by decide +kernel
theorem dX4_who_18 : decode cX4_who 18 = .ok (.getfield 10, 3) := by decide +kernel
theorem dX4_who_21 : decode cX4_who 21 = .ok (.aload_n 0, 1) := by decide +kernel
theorem dX4_who_22 : decode cX4_who 22 = .ok (.getfield 10, 3) := by decide +kernel
theorem dX4_who_25 : decode cX4_who 25 = .ok (.getfield 231, 3) := by decide +kernel
theorem dX4_who_28 : decode cX4_who 28 = .ok (.iload_n 1, 1) := by decide +kernel
theorem dX4_who_29 : decode cX4_who 29 = .ok (.iaload, 1) := by decide +kernel
theorem dX4_who_30 : decode cX4_who 30 = .ok (.invokevirtual 234, 3) := by decide +kernel
theorem dX4_who_33 : decode cX4_who 33 = .ok (.goto 5, 3) := by decide +kernel
theorem dX4_who_36 : decode cX4_who 36 = .ok (.bipush (-2), 2) := by decide +kernel
theorem dX4_who_38 : decode cX4_who 38 = .ok (.ireturn, 1) := by decide +kernel
theorem dX4_fit_0 : decode cX4_fit 0 = .ok (.iconst 1, 1) := by decide +kernel
theorem dX4_fit_1 : decode cX4_fit 1 = .ok (.istore_n 1, 1) := by decide +kernel
theorem dX4_fit_2 : decode cX4_fit 2 = .ok (.iconst 0, 1) := by decide +kernel
theorem dX4_fit_3 : decode cX4_fit 3 = .ok (.istore_n 2, 1) := by decide +kernel
theorem dX4_fit_4 : decode cX4_fit 4 = .ok (.iload_n 2, 1) := by decide +kernel
theorem dX4_fit_5 : decode cX4_fit 5 = .ok (.aload_n 0, 1) := by decide +kernel
theorem dX4_fit_6 : decode cX4_fit 6 = .ok (.getfield 10, 3) := by decide +kernel
theorem dX4_fit_9 : decode cX4_fit 9 = .ok (.getfield 225, 3) := by decide +kernel
theorem dX4_fit_12 : decode cX4_fit 12 = .ok (.if_icmp .ge 46, 3) := by decide +kernel
theorem dX4_fit_15 : decode cX4_fit 15 = .ok (.aload_n 0, 1) := by decide +kernel
theorem dX4_fit_16 : decode cX4_fit 16 = .ok (.getfield 10, 3) := by decide +kernel
theorem dX4_fit_19 : decode cX4_fit 19 = .ok (.aload_n 0, 1) := by decide +kernel
theorem dX4_fit_20 : decode cX4_fit 20 = .ok (.getfield 10, 3) := by decide +kernel
theorem dX4_fit_23 : decode cX4_fit 23 = .ok (.getfield 231, 3) := by decide +kernel
theorem dX4_fit_26 : decode cX4_fit 26 = .ok (.iload_n 2, 1) := by decide +kernel
theorem dX4_fit_27 : decode cX4_fit 27 = .ok (.iaload, 1) := by decide +kernel
theorem dX4_fit_28 : decode cX4_fit 28 = .ok (.invokevirtual 234, 3) := by decide +kernel
theorem dX4_fit_31 : decode cX4_fit 31 = .ok (.invokestatic 85, 3) := by decide +kernel
theorem dX4_fit_34 : decode cX4_fit 34 = .ok (.aload_n 0, 1) := by decide +kernel
theorem dX4_fit_35 : decode cX4_fit 35 = .ok (.getfield 10, 3) := by decide +kernel
theorem dX4_fit_38 : decode cX4_fit 38 = .ok (.iload_n 2, 1) := by decide +kernel
theorem dX4_fit_39 : decode cX4_fit 39 = .ok (.invokevirtual 237, 3) := by decide +kernel
theorem dX4_fit_42 : decode cX4_fit 42 = .ok (.isub, 1) := by decide +kernel
theorem dX4_fit_43 : decode cX4_fit 43 = .ok (.istore_n 3, 1) := by decide +kernel
theorem dX4_fit_44 : decode cX4_fit 44 = .ok (.iload_n 1, 1) := by decide +kernel
theorem dX4_fit_45 : decode cX4_fit 45 = .ok (.iconst 0, 1) := by decide +kernel
theorem dX4_fit_46 : decode cX4_fit 46 = .ok (.iload_n 3, 1) := by decide +kernel
theorem dX4_fit_47 : decode cX4_fit 47 = .ok (.invokestatic 76, 3) := by decide +kernel
theorem dX4_fit_50 : decode cX4_fit 50 = .ok (.imul, 1) := by decide +kernel
theorem dX4_fit_51 : decode cX4_fit 51 = .ok (.istore_n 1, 1) := by decide +kernel
theorem dX4_fit_52 : decode cX4_fit 52 = .ok (.iinc 2 1, 3) := by decide +kernel
theorem dX4_fit_55 : decode cX4_fit 55 = .ok (.goto (-51), 3) := by decide +kernel
theorem dX4_fit_58 : decode cX4_fit 58 = .ok (.iload_n 1, 1) := by decide +kernel
theorem dX4_fit_59 : decode cX4_fit 59 = .ok (.ireturn, 1) := by decide +kernel
theorem dX4_chance_0 : decode cX4_chance 0 = .ok (.aload_n 0, 1) := by decide +kernel
theorem dX4_chance_1 : decode cX4_chance 1 = .ok (.getfield 10, 3) := by decide +kernel
theorem dX4_chance_4 : decode cX4_chance 4 = .ok (.iload_n 1, 1) := by decide +kernel
theorem dX4_chance_5 : decode cX4_chance 5 = .ok (.invokevirtual 106, 3) := by decide +kernel
theorem dX4_chance_8 : decode cX4_chance 8 = .ok (.ifCond .eq 14, 3) := by decide +kernel
theorem dX4_chance_11 : decode cX4_chance 11 = .ok (.aload_n 0, 1) := by decide +kernel
theorem dX4_chance_12 : decode cX4_chance 12 = .ok (.getfield 10, 3) := by decide +kernel
theorem dX4_chance_15 : decode cX4_chance 15 = .ok (.iload_n 2, 1) := by decide +kernel
theorem dX4_chance_16 : decode cX4_chance 16 = .ok (.invokevirtual 56, 3) := by decide +kernel
theorem dX4_chance_19 : decode cX4_chance 19 = .ok (.ifCond .ne 7, 3) := by decide +kernel
theorem dX4_chance_22 : decode cX4_chance 22 = .ok (.ldc2_w 240, 3) := by decide +kernel
theorem dX4_chance_25 : decode cX4_chance 25 = .ok (.lreturn, 1) := by decide +kernel
theorem dX4_chance_26 : decode cX4_chance 26 = .ok (.iload_n 3, 1) := by decide +kernel
theorem dX4_chance_27 : decode cX4_chance 27 = .ok (.iconst 0, 1) := by decide +kernel
theorem dX4_chance_28 : decode cX4_chance 28 = .ok (.bipush 10, 2) := by decide +kernel
theorem dX4_chance_30 : decode cX4_chance 30 = .ok (.invokestatic 44, 3) := by decide +kernel
theorem dX4_chance_33 : decode cX4_chance 33 = .ok (.ifCond .eq 13, 3) := by decide +kernel
theorem dX4_chance_36 : decode cX4_chance 36 = .ok (.iload 4, 2) := by decide +kernel
theorem dX4_chance_38 : decode cX4_chance 38 = .ok (.iconst 0, 1) := by decide +kernel
theorem dX4_chance_39 : decode cX4_chance 39 = .ok (.iconst 1, 1) := by decide +kernel
theorem dX4_chance_40 : decode cX4_chance 40 = .ok (.invokestatic 44, 3) := by decide +kernel
theorem dX4_chance_43 : decode cX4_chance 43 = .ok (.ifCond .ne 7, 3) := by decide +kernel
theorem dX4_chance_46 : decode cX4_chance 46 = .ok (.ldc2_w 242, 3) := by decide +kernel
theorem dX4_chance_49 : decode cX4_chance 49 = .ok (.lreturn, 1) := by decide +kernel
theorem dX4_chance_50 : decode cX4_chance 50 = .ok (.aload_n 0, 1) := by decide +kernel
theorem dX4_chance_51 : decode cX4_chance 51 = .ok (.getfield 10, 3) := by decide +kernel
theorem dX4_chance_54 : decode cX4_chance 54 = .ok (.aload_n 0, 1) := by decide +kernel
theorem dX4_chance_55 : decode cX4_chance 55 = .ok (.getfield 10, 3) := by decide +kernel
theorem dX4_chance_58 : decode cX4_chance 58 = .ok (.iload_n 1, 1) := by decide +kernel
theorem dX4_chance_59 : decode cX4_chance 59 = .ok (.invokevirtual 156, 3) := by decide +kernel
theorem dX4_chance_62 : decode cX4_chance 62 = .ok (.invokevirtual 170, 3) := by decide +kernel
theorem dX4_chance_65 : decode cX4_chance 65 = .ok (.istore 5, 2) := by decide +kernel
theorem dX4_chance_67 : decode cX4_chance 67 = .ok (.lconst 0, 1) := by decide +kernel
theorem dX4_chance_68 : decode cX4_chance 68 = .ok (.lstore 6, 2) := by decide +kernel
theorem dX4_chance_70 : decode cX4_chance 70 = .ok (.iconst 0, 1) := by decide +kernel
theorem dX4_chance_71 : decode cX4_chance 71 = .ok (.istore 8, 2) := by decide +kernel
theorem dX4_chance_73 : decode cX4_chance 73 = .ok (.iload 8, 2) := by decide +kernel
theorem dX4_chance_75 : decode cX4_chance 75 = .ok (.sipush 256, 3) := by decide +kernel
theorem dX4_chance_78 : decode cX4_chance 78 = .ok (.if_icmp .ge 77, 3) := by decide +kernel
theorem dX4_chance_81 : decode cX4_chance 81 = .ok (.iload 8, 2) := by decide +kernel
theorem dX4_chance_83 : decode cX4_chance 83 = .ok (.iload 5, 2) := by decide +kernel
theorem dX4_chance_85 : decode cX4_chance 85 = .ok (.iconst (-1), 1) := by decide +kernel
theorem dX4_chance_86 : decode cX4_chance 86 = .ok (.ixor, 1) := by decide +kernel
theorem dX4_chance_87 : decode cX4_chance 87 = .ok (.iand, 1) := by decide +kernel
theorem dX4_chance_88 : decode cX4_chance 88 = .ok (.ifCond .ne 61, 3) := by decide +kernel
theorem dX4_chance_91 : decode cX4_chance 91 = .ok (.aload_n 0, 1) := by decide +kernel
theorem dX4_chance_92 : decode cX4_chance 92 = .ok (.getfield 10, 3) := by decide +kernel
theorem dX4_chance_95 : decode cX4_chance 95 = .ok (.aload_n 0, 1) := by decide +kernel
theorem dX4_chance_96 : decode cX4_chance 96 = .ok (.getfield 10, 3) := by decide +kernel
theorem dX4_chance_99 : decode cX4_chance 99 = .ok (.getfield 97, 3) := by decide +kernel
theorem dX4_chance_102 : decode cX4_chance 102 = .ok (.iload_n 1, 1) := by decide +kernel
theorem dX4_chance_103 : decode cX4_chance 103 = .ok (.iaload, 1) := by decide +kernel
theorem dX4_chance_104 : decode cX4_chance 104 = .ok (.iload_n 2, 1) := by decide +kernel
theorem dX4_chance_105 : decode cX4_chance 105 = .ok (.iload 8, 2) := by decide +kernel
theorem dX4_chance_107 : decode cX4_chance 107 = .ok (.invokevirtual 173, 3) := by decide +kernel
theorem dX4_chance_110 : decode cX4_chance 110 = .ok (.bipush (-6), 2) := by decide +kernel
theorem dX4_chance_112 : decode cX4_chance 112 = .ok (.if_icmp .eq 37, 3) := by decide +kernel
theorem dX4_chance_115 : decode cX4_chance 115 = .ok (.iload 8, 2) := by decide +kernel
theorem dX4_chance_117 : decode cX4_chance 117 = .ok (.invokestatic 85, 3) := by decide +kernel
theorem dX4_chance_120 : decode cX4_chance 120 = .ok (.istore 9, 2) := by decide +kernel
theorem dX4_chance_122 : decode cX4_chance 122 = .ok (.lload 6, 2) := by decide +kernel
theorem dX4_chance_124 : decode cX4_chance 124 = .ok (.iload_n 3, 1) := by decide +kernel
theorem dX4_chance_125 : decode cX4_chance 125 = .ok (.iload 9, 2) := by decide +kernel
theorem dX4_chance_127 : decode cX4_chance 127 = .ok (.invokestatic 244, 3) := by decide +kernel
theorem dX4_chance_130 : decode cX4_chance 130 = .ok (.bipush 10, 2) := by decide +kernel
theorem dX4_chance_132 : decode cX4_chance 132 = .ok (.iload_n 3, 1) := by decide +kernel
theorem dX4_chance_133 : decode cX4_chance 133 = .ok (.isub, 1) := by decide +kernel
theorem dX4_chance_134 : decode cX4_chance 134 = .ok (.iload 5, 2) := by decide +kernel
theorem dX4_chance_136 : decode cX4_chance 136 = .ok (.invokestatic 85, 3) := by decide +kernel
theorem dX4_chance_139 : decode cX4_chance 139 = .ok (.iload 9, 2) := by decide +kernel
theorem dX4_chance_141 : decode cX4_chance 141 = .ok (.isub, 1) := by decide +kernel
theorem dX4_chance_142 : decode cX4_chance 142 = .ok (.invokestatic 244, 3) := by decide +kernel
theorem dX4_chance_145 : decode cX4_chance 145 = .ok (.lmul, 1) := by decide +kernel
theorem dX4_chance_146 : decode cX4_chance 146 = .ok (.ladd, 1) := by decide +kernel
theorem dX4_chance_147 : decode cX4_chance 147 = .ok (.lstore 6, 2) := by decide +kernel
theorem dX4_chance_149 : decode cX4_chance 149 = .ok (.iinc 8 1, 3) := by decide +kernel
theorem dX4_chance_152 : decode cX4_chance 152 = .ok (.goto (-79), 3) := by decide +kernel
theorem dX4_chance_155 : decode cX4_chance 155 = .ok (.bipush 10, 2) := by decide +kernel
theorem dX4_chance_157 : decode cX4_chance 157 = .ok (.iload 5, 2) := by decide +kernel
theorem dX4_chance_159 : decode cX4_chance 159 = .ok (.invokestatic 85, 3) := by decide +kernel
theorem dX4_chance_162 : decode cX4_chance 162 = .ok (.invokestatic 244, 3) := by decide +kernel
theorem dX4_chance_165 : decode cX4_chance 165 = .ok (.lstore 8, 2) := by decide +kernel
theorem dX4_chance_167 : decode cX4_chance 167 = .ok (.lload 6, 2) := by decide +kernel
theorem dX4_chance_169 : decode cX4_chance 169 = .ok (.lload 8, 2) := by decide +kernel
theorem dX4_chance_171 : decode cX4_chance 171 = .ok (.invokestatic 248, 3) := by decide +kernel
theorem dX4_chance_174 : decode cX4_chance 174 = .ok (.lstore 10, 2) := by decide +kernel
theorem dX4_chance_176 : decode cX4_chance 176 = .ok (.iload 4, 2) := by decide +kernel
theorem dX4_chance_178 : decode cX4_chance 178 = .ok (.ifCond .ne 8, 3) := by decide +kernel
theorem dX4_chance_181 : decode cX4_chance 181 = .ok (.lload 6, 2) := by decide +kernel
theorem dX4_chance_183 : decode cX4_chance 183 = .ok (.goto 5, 3) := by decide +kernel
theorem dX4_chance_186 : decode cX4_chance 186 = .ok (.lload 8, 2) := by decide +kernel
theorem dX4_chance_188 : decode cX4_chance 188 = .ok (.lconst 1, 1) := by decide +kernel
theorem dX4_chance_189 : decode cX4_chance 189 = .ok (.lload 10, 2) := by decide +kernel
theorem dX4_chance_191 : decode cX4_chance 191 = .ok (.invokestatic 252, 3) := by decide +kernel
theorem dX4_chance_194 : decode cX4_chance 194 = .ok (.ldiv, 1) := by decide +kernel
theorem dX4_chance_195 : decode cX4_chance 195 = .ok (.lreturn, 1) := by decide +kernel
theorem dX4_year_0 : decode cX4_year 0 = .ok (.iload_n 1, 1) := by decide +kernel
theorem dX4_year_1 : decode cX4_year 1 = .ok (.iconst 0, 1) := by decide +kernel
theorem dX4_year_2 : decode cX4_year 2 = .ok (.sipush 9999, 3) := by decide +kernel
theorem dX4_year_5 : decode cX4_year 5 = .ok (.invokestatic 44, 3) := by decide +kernel
theorem dX4_year_8 : decode cX4_year 8 = .ok (.ifCond .eq 22, 3) := by decide +kernel
theorem dX4_year_11 : decode cX4_year 11 = .ok (.iload_n 2, 1) := by decide +kernel
theorem dX4_year_12 : decode cX4_year 12 = .ok (.iconst 1, 1) := by decide +kernel
theorem dX4_year_13 : decode cX4_year 13 = .ok (.bipush 99, 2) := by decide +kernel
theorem dX4_year_15 : decode cX4_year 15 = .ok (.invokestatic 44, 3) := by decide +kernel
theorem dX4_year_18 : decode cX4_year 18 = .ok (.ifCond .eq 12, 3) := by decide +kernel
theorem dX4_year_21 : decode cX4_year 21 = .ok (.iload_n 3, 1) := by decide +kernel
theorem dX4_year_22 : decode cX4_year 22 = .ok (.iconst 0, 1) := by decide +kernel
theorem dX4_year_23 : decode cX4_year 23 = .ok (.iconst 2, 1) := by decide +kernel
theorem dX4_year_24 : decode cX4_year 24 = .ok (.invokestatic 44, 3) := by decide +kernel
theorem dX4_year_27 : decode cX4_year 27 = .ok (.ifCond .ne 6, 3) := by decide +kernel
theorem dX4_year_30 : decode cX4_year 30 = .ok (.bipush (-2), 2) := by decide +kernel
theorem dX4_year_32 : decode cX4_year 32 = .ok (.ireturn, 1) := by decide +kernel
theorem dX4_year_33 : decode cX4_year 33 = .ok (.aload_n 0, 1) := by decide +kernel
theorem dX4_year_34 : decode cX4_year 34 = .ok (.getfield 16, 3) := by decide +kernel
theorem dX4_year_37 : decode cX4_year 37 = .ok (.aload_n 0, 1) := by decide +kernel
theorem dX4_year_38 : decode cX4_year 38 = .ok (.getfield 10, 3) := by decide +kernel
theorem dX4_year_41 : decode cX4_year 41 = .ok (.invokevirtual 159, 3) := by decide +kernel
theorem dX4_year_44 : decode cX4_year 44 = .ok (.iconst 0, 1) := by decide +kernel
theorem dX4_year_45 : decode cX4_year 45 = .ok (.istore 4, 2) := by decide +kernel
theorem dX4_year_47 : decode cX4_year 47 = .ok (.iload_n 1, 1) := by decide +kernel
theorem dX4_year_48 : decode cX4_year 48 = .ok (.istore 5, 2) := by decide +kernel
theorem dX4_year_50 : decode cX4_year 50 = .ok (.iconst 1, 1) := by decide +kernel
theorem dX4_year_51 : decode cX4_year 51 = .ok (.istore 6, 2) := by decide +kernel
theorem dX4_year_53 : decode cX4_year 53 = .ok (.iload 6, 2) := by decide +kernel
theorem dX4_year_55 : decode cX4_year 55 = .ok (.iload_n 2, 1) := by decide +kernel
theorem dX4_year_56 : decode cX4_year 56 = .ok (.if_icmp .gt 71, 3) := by decide +kernel
theorem dX4_year_59 : decode cX4_year 59 = .ok (.bipush 75, 2) := by decide +kernel
theorem dX4_year_61 : decode cX4_year 61 = .ok (.iload 5, 2) := by decide +kernel
theorem dX4_year_63 : decode cX4_year 63 = .ok (.imul, 1) := by decide +kernel
theorem dX4_year_64 : decode cX4_year 64 = .ok (.bipush 74, 2) := by decide +kernel
theorem dX4_year_66 : decode cX4_year 66 = .ok (.iadd, 1) := by decide +kernel
theorem dX4_year_67 : decode cX4_year 67 = .ok (.ldc 254, 2) := by decide +kernel
theorem dX4_year_69 : decode cX4_year 69 = .ok (.irem, 1) := by decide +kernel
theorem dX4_year_70 : decode cX4_year 70 = .ok (.istore 5, 2) := by decide +kernel
theorem dX4_year_72 : decode cX4_year 72 = .ok (.aload_n 0, 1) := by decide +kernel
theorem dX4_year_73 : decode cX4_year 73 = .ok (.getfield 16, 3) := by decide +kernel
theorem dX4_year_76 : decode cX4_year 76 = .ok (.iload 5, 2) := by decide +kernel
theorem dX4_year_78 : decode cX4_year 78 = .ok (.bipush 6, 2) := by decide +kernel
theorem dX4_year_80 : decode cX4_year 80 = .ok (.irem, 1) := by decide +kernel
theorem dX4_year_81 : decode cX4_year 81 = .ok (.iload 5, 2) := by decide +kernel
theorem dX4_year_83 : decode cX4_year 83 = .ok (.bipush 6, 2) := by decide +kernel
theorem dX4_year_85 : decode cX4_year 85 = .ok (.idiv, 1) := by decide +kernel
theorem dX4_year_86 : decode cX4_year 86 = .ok (.bipush 6, 2) := by decide +kernel
theorem dX4_year_88 : decode cX4_year 88 = .ok (.irem, 1) := by decide +kernel
theorem dX4_year_89 : decode cX4_year 89 = .ok (.iload 5, 2) := by decide +kernel
theorem dX4_year_91 : decode cX4_year 91 = .ok (.bipush 36, 2) := by decide +kernel
theorem dX4_year_93 : decode cX4_year 93 = .ok (.idiv, 1) := by decide +kernel
theorem dX4_year_94 : decode cX4_year 94 = .ok (.bipush 8, 2) := by decide +kernel
theorem dX4_year_96 : decode cX4_year 96 = .ok (.irem, 1) := by decide +kernel
theorem dX4_year_97 : decode cX4_year 97 = .ok (.invokevirtual 255, 3) := by decide +kernel
theorem dX4_year_100 : decode cX4_year 100 = .ok (.ifCond .ne 6, 3) := by decide +kernel
theorem dX4_year_103 : decode cX4_year 103 = .ok (.iinc 4 1, 3) := by decide +kernel
theorem dX4_year_106 : decode cX4_year 106 = .ok (.iload 6, 2) := by decide +kernel
theorem dX4_year_108 : decode cX4_year 108 = .ok (.bipush 7, 2) := by decide +kernel
theorem dX4_year_110 : decode cX4_year 110 = .ok (.irem, 1) := by decide +kernel
theorem dX4_year_111 : decode cX4_year 111 = .ok (.ifCond .ne 10, 3) := by decide +kernel
theorem dX4_year_114 : decode cX4_year 114 = .ok (.aload_n 0, 1) := by decide +kernel
theorem dX4_year_115 : decode cX4_year 115 = .ok (.getfield 16, 3) := by decide +kernel
theorem dX4_year_118 : decode cX4_year 118 = .ok (.invokevirtual 258, 3) := by decide +kernel
theorem dX4_year_121 : decode cX4_year 121 = .ok (.iinc 6 1, 3) := by decide +kernel
theorem dX4_year_124 : decode cX4_year 124 = .ok (.goto (-71), 3) := by decide +kernel
theorem dX4_year_127 : decode cX4_year 127 = .ok (.iload_n 3, 1) := by decide +kernel
theorem dX4_year_128 : decode cX4_year 128 = .ok (.lookupswitch 39 #[(0, 28), (1, 31)], 28) := by decide +kernel
theorem dX4_year_156 : decode cX4_year 156 = .ok (.iload 4, 2) := by decide +kernel
theorem dX4_year_158 : decode cX4_year 158 = .ok (.ireturn, 1) := by decide +kernel
theorem dX4_year_159 : decode cX4_year 159 = .ok (.aload_n 0, 1) := by decide +kernel
theorem dX4_year_160 : decode cX4_year 160 = .ok (.getfield 16, 3) := by decide +kernel
theorem dX4_year_163 : decode cX4_year 163 = .ok (.invokevirtual 261, 3) := by decide +kernel
theorem dX4_year_166 : decode cX4_year 166 = .ok (.ireturn, 1) := by decide +kernel
theorem dX4_year_167 : decode cX4_year 167 = .ok (.aload_n 0, 1) := by decide +kernel
theorem dX4_year_168 : decode cX4_year 168 = .ok (.getfield 16, 3) := by decide +kernel
theorem dX4_year_171 : decode cX4_year 171 = .ok (.invokevirtual 264, 3) := by decide +kernel
theorem dX4_year_174 : decode cX4_year 174 = .ok (.ireturn, 1) := by decide +kernel
theorem dX4_image_0 : decode cX4_image 0 = .ok (.iload_n 1, 1) := by decide +kernel
theorem dX4_image_1 : decode cX4_image 1 = .ok (.iconst 0, 1) := by decide +kernel
theorem dX4_image_2 : decode cX4_image 2 = .ok (.iconst 1, 1) := by decide +kernel
theorem dX4_image_3 : decode cX4_image 3 = .ok (.invokestatic 44, 3) := by decide +kernel
theorem dX4_image_6 : decode cX4_image 6 = .ok (.ifCond .ne 6, 3) := by decide +kernel
theorem dX4_image_9 : decode cX4_image 9 = .ok (.bipush (-2), 2) := by decide +kernel
theorem dX4_image_11 : decode cX4_image 11 = .ok (.ireturn, 1) := by decide +kernel
theorem dX4_image_12 : decode cX4_image 12 = .ok (.aload_n 0, 1) := by decide +kernel
theorem dX4_image_13 : decode cX4_image 13 = .ok (.getfield 19, 3) := by decide +kernel
theorem dX4_image_16 : decode cX4_image 16 = .ok (.iload_n 1, 1) := by decide +kernel
theorem dX4_image_17 : decode cX4_image 17 = .ok (.aaload, 1) := by decide +kernel
theorem dX4_image_18 : decode cX4_image 18 = .ok (.ifnonnull 16, 3) := by decide +kernel
theorem dX4_image_21 : decode cX4_image 21 = .ok (.aload_n 0, 1) := by decide +kernel
theorem dX4_image_22 : decode cX4_image 22 = .ok (.getfield 19, 3) := by decide +kernel
theorem dX4_image_25 : decode cX4_image 25 = .ok (.iload_n 1, 1) := by decide +kernel
theorem dX4_image_26 : decode cX4_image 26 = .ok (.new 7, 3) := by decide +kernel
theorem dX4_image_29 : decode cX4_image 29 = .ok (.dup, 1) := by decide +kernel
theorem dX4_image_30 : decode cX4_image 30 = .ok (.invokespecial 9, 3) := by decide +kernel
theorem dX4_image_33 : decode cX4_image 33 = .ok (.aastore, 1) := by decide +kernel
theorem dX4_image_34 : decode cX4_image 34 = .ok (.aload_n 0, 1) := by decide +kernel
theorem dX4_image_35 : decode cX4_image 35 = .ok (.getfield 19, 3) := by decide +kernel
theorem dX4_image_38 : decode cX4_image 38 = .ok (.iload_n 1, 1) := by decide +kernel
theorem dX4_image_39 : decode cX4_image 39 = .ok (.aaload, 1) := by decide +kernel
theorem dX4_image_40 : decode cX4_image 40 = .ok (.aload_n 0, 1) := by decide +kernel
theorem dX4_image_41 : decode cX4_image 41 = .ok (.getfield 10, 3) := by decide +kernel
theorem dX4_image_44 : decode cX4_image 44 = .ok (.invokevirtual 159, 3) := by decide +kernel
theorem dX4_image_47 : decode cX4_image 47 = .ok (.iconst 1, 1) := by decide +kernel
theorem dX4_image_48 : decode cX4_image 48 = .ok (.ireturn, 1) := by decide +kernel
theorem dX4_restore_0 : decode cX4_restore 0 = .ok (.iload_n 1, 1) := by decide +kernel
theorem dX4_restore_1 : decode cX4_restore 1 = .ok (.iconst 0, 1) := by decide +kernel
theorem dX4_restore_2 : decode cX4_restore 2 = .ok (.iconst 1, 1) := by decide +kernel
theorem dX4_restore_3 : decode cX4_restore 3 = .ok (.invokestatic 44, 3) := by decide +kernel
theorem dX4_restore_6 : decode cX4_restore 6 = .ok (.ifCond .ne 6, 3) := by decide +kernel
theorem dX4_restore_9 : decode cX4_restore 9 = .ok (.bipush (-2), 2) := by decide +kernel
theorem dX4_restore_11 : decode cX4_restore 11 = .ok (.ireturn, 1) := by decide +kernel
theorem dX4_restore_12 : decode cX4_restore 12 = .ok (.aload_n 0, 1) := by decide +kernel
theorem dX4_restore_13 : decode cX4_restore 13 = .ok (.getfield 19, 3) := by decide +kernel
theorem dX4_restore_16 : decode cX4_restore 16 = .ok (.iload_n 1, 1) := by decide +kernel
theorem dX4_restore_17 : decode cX4_restore 17 = .ok (.aaload, 1) := by decide +kernel
theorem dX4_restore_18 : decode cX4_restore 18 = .ok (.ifnonnull 6, 3) := by decide +kernel
theorem dX4_restore_21 : decode cX4_restore 21 = .ok (.bipush (-3), 2) := by decide +kernel
theorem dX4_restore_23 : decode cX4_restore 23 = .ok (.ireturn, 1) := by decide +kernel
theorem dX4_restore_24 : decode cX4_restore 24 = .ok (.aload_n 0, 1) := by decide +kernel
theorem dX4_restore_25 : decode cX4_restore 25 = .ok (.getfield 10, 3) := by decide +kernel
theorem dX4_restore_28 : decode cX4_restore 28 = .ok (.aload_n 0, 1) := by decide +kernel
theorem dX4_restore_29 : decode cX4_restore 29 = .ok (.getfield 19, 3) := by decide +kernel
theorem dX4_restore_32 : decode cX4_restore 32 = .ok (.iload_n 1, 1) := by decide +kernel
theorem dX4_restore_33 : decode cX4_restore 33 = .ok (.aaload, 1) := by decide +kernel
theorem dX4_restore_34 : decode cX4_restore 34 = .ok (.invokevirtual 159, 3) := by decide +kernel
theorem dX4_restore_37 : decode cX4_restore 37 = .ok (.iconst 1, 1) := by decide +kernel
theorem dX4_restore_38 : decode cX4_restore 38 = .ok (.ireturn, 1) := by decide +kernel
theorem dX4_told_0 : decode cX4_told 0 = .ok (.iload_n 1, 1) := by decide +kernel
theorem dX4_told_1 : decode cX4_told 1 = .ok (.bipush 10, 2) := by decide +kernel
theorem dX4_told_3 : decode cX4_told 3 = .ok (.bipush 17, 2) := by decide +kernel
theorem dX4_told_5 : decode cX4_told 5 = .ok (.invokestatic 44, 3) := by decide +kernel
theorem dX4_told_8 : decode cX4_told 8 = .ok (.ifCond .eq 20, 3) := by decide +kernel
theorem dX4_told_11 : decode cX4_told 11 = .ok (.aload_n 0, 1) := by decide +kernel
theorem dX4_told_12 : decode cX4_told 12 = .ok (.getfield 10, 3) := by decide +kernel
theorem dX4_told_15 : decode cX4_told 15 = .ok (.getfield 112, 3) := by decide +kernel
theorem dX4_told_18 : decode cX4_told 18 = .ok (.iload_n 1, 1) := by decide +kernel
theorem dX4_told_19 : decode cX4_told 19 = .ok (.bipush 10, 2) := by decide +kernel
theorem dX4_told_21 : decode cX4_told 21 = .ok (.isub, 1) := by decide +kernel
theorem dX4_told_22 : decode cX4_told 22 = .ok (.iaload, 1) := by decide +kernel
theorem dX4_told_23 : decode cX4_told 23 = .ok (.sipush 1000, 3) := by decide +kernel
theorem dX4_told_26 : decode cX4_told 26 = .ok (.iadd, 1) := by decide +kernel
theorem dX4_told_27 : decode cX4_told 27 = .ok (.ireturn, 1) := by decide +kernel
theorem dX4_told_28 : decode cX4_told 28 = .ok (.iload_n 1, 1) := by decide +kernel
theorem dX4_told_29 : decode cX4_told 29 = .ok (.bipush 20, 2) := by decide +kernel
theorem dX4_told_31 : decode cX4_told 31 = .ok (.bipush 27, 2) := by decide +kernel
theorem dX4_told_33 : decode cX4_told 33 = .ok (.invokestatic 44, 3) := by decide +kernel
theorem dX4_told_36 : decode cX4_told 36 = .ok (.ifCond .eq 16, 3) := by decide +kernel
theorem dX4_told_39 : decode cX4_told 39 = .ok (.aload_n 0, 1) := by decide +kernel
theorem dX4_told_40 : decode cX4_told 40 = .ok (.getfield 10, 3) := by decide +kernel
theorem dX4_told_43 : decode cX4_told 43 = .ok (.getfield 115, 3) := by decide +kernel
theorem dX4_told_46 : decode cX4_told 46 = .ok (.iload_n 1, 1) := by decide +kernel
theorem dX4_told_47 : decode cX4_told 47 = .ok (.bipush 20, 2) := by decide +kernel
theorem dX4_told_49 : decode cX4_told 49 = .ok (.isub, 1) := by decide +kernel
theorem dX4_told_50 : decode cX4_told 50 = .ok (.iaload, 1) := by decide +kernel
theorem dX4_told_51 : decode cX4_told 51 = .ok (.ireturn, 1) := by decide +kernel
theorem dX4_told_52 : decode cX4_told 52 = .ok (.iload_n 1, 1) := by decide +kernel
theorem dX4_told_53 : decode cX4_told 53 = .ok (.sipush 1000, 3) := by decide +kernel
theorem dX4_told_56 : decode cX4_told 56 = .ok (.if_icmp .lt 20, 3) := by decide +kernel
theorem dX4_told_59 : decode cX4_told 59 = .ok (.aload_n 0, 1) := by decide +kernel
theorem dX4_told_60 : decode cX4_told 60 = .ok (.iload_n 1, 1) := by decide +kernel
theorem dX4_told_61 : decode cX4_told 61 = .ok (.sipush 1000, 3) := by decide +kernel
theorem dX4_told_64 : decode cX4_told 64 = .ok (.idiv, 1) := by decide +kernel
theorem dX4_told_65 : decode cX4_told 65 = .ok (.iconst 1, 1) := by decide +kernel
theorem dX4_told_66 : decode cX4_told 66 = .ok (.isub, 1) := by decide +kernel
theorem dX4_told_67 : decode cX4_told 67 = .ok (.iload_n 1, 1) := by decide +kernel
theorem dX4_told_68 : decode cX4_told 68 = .ok (.sipush 1000, 3) := by decide +kernel
theorem dX4_told_71 : decode cX4_told 71 = .ok (.irem, 1) := by decide +kernel
theorem dX4_told_72 : decode cX4_told 72 = .ok (.invokevirtual 267, 3) := by decide +kernel
theorem dX4_told_75 : decode cX4_told 75 = .ok (.ireturn, 1) := by decide +kernel
theorem dX4_told_76 : decode cX4_told 76 = .ok (.iload_n 1, 1) := by decide +kernel
theorem dX4_told_77 : decode cX4_told 77 = .ok (.bipush 100, 2) := by decide +kernel
theorem dX4_told_79 : decode cX4_told 79 = .ok (.if_icmp .lt 18, 3) := by decide +kernel
theorem dX4_told_82 : decode cX4_told 82 = .ok (.aload_n 0, 1) := by decide +kernel
theorem dX4_told_83 : decode cX4_told 83 = .ok (.iload_n 1, 1) := by decide +kernel
theorem dX4_told_84 : decode cX4_told 84 = .ok (.bipush 100, 2) := by decide +kernel
theorem dX4_told_86 : decode cX4_told 86 = .ok (.idiv, 1) := by decide +kernel
theorem dX4_told_87 : decode cX4_told 87 = .ok (.iconst 1, 1) := by decide +kernel
theorem dX4_told_88 : decode cX4_told 88 = .ok (.isub, 1) := by decide +kernel
theorem dX4_told_89 : decode cX4_told 89 = .ok (.iload_n 1, 1) := by decide +kernel
theorem dX4_told_90 : decode cX4_told 90 = .ok (.bipush 100, 2) := by decide +kernel
theorem dX4_told_92 : decode cX4_told 92 = .ok (.irem, 1) := by decide +kernel
theorem dX4_told_93 : decode cX4_told 93 = .ok (.invokevirtual 270, 3) := by decide +kernel
theorem dX4_told_96 : decode cX4_told 96 = .ok (.ireturn, 1) := by decide +kernel
theorem dX4_told_97 : decode cX4_told 97 = .ok (.iload_n 1, 1) := by decide +kernel
theorem dX4_told_98 : decode cX4_told 98 = .ok (.tableswitch 98 0 6 #[42, 50, 58, 66, 74, 82, 90], 42) := by decide +kernel
theorem dX4_told_140 : decode cX4_told 140 = .ok (.aload_n 0, 1) := by decide +kernel
theorem dX4_told_141 : decode cX4_told 141 = .ok (.getfield 26, 3) := by decide +kernel
theorem dX4_told_144 : decode cX4_told 144 = .ok (.getfield 124, 3) := by decide +kernel
theorem dX4_told_147 : decode cX4_told 147 = .ok (.ireturn, 1) := by decide +kernel
theorem dX4_told_148 : decode cX4_told 148 = .ok (.aload_n 0, 1) := by decide +kernel
theorem dX4_told_149 : decode cX4_told 149 = .ok (.getfield 10, 3) := by decide +kernel
theorem dX4_told_152 : decode cX4_told 152 = .ok (.getfield 48, 3) := by decide +kernel
theorem dX4_told_155 : decode cX4_told 155 = .ok (.ireturn, 1) := by decide +kernel
theorem dX4_told_156 : decode cX4_told 156 = .ok (.aload_n 0, 1) := by decide +kernel
theorem dX4_told_157 : decode cX4_told 157 = .ok (.getfield 10, 3) := by decide +kernel
theorem dX4_told_160 : decode cX4_told 160 = .ok (.getfield 60, 3) := by decide +kernel
theorem dX4_told_163 : decode cX4_told 163 = .ok (.ireturn, 1) := by decide +kernel
theorem dX4_told_164 : decode cX4_told 164 = .ok (.aload_n 0, 1) := by decide +kernel
theorem dX4_told_165 : decode cX4_told 165 = .ok (.getfield 10, 3) := by decide +kernel
theorem dX4_told_168 : decode cX4_told 168 = .ok (.getfield 94, 3) := by decide +kernel
theorem dX4_told_171 : decode cX4_told 171 = .ok (.ireturn, 1) := by decide +kernel
theorem dX4_told_172 : decode cX4_told 172 = .ok (.aload_n 0, 1) := by decide +kernel
theorem dX4_told_173 : decode cX4_told 173 = .ok (.getfield 10, 3) := by decide +kernel
theorem dX4_told_176 : decode cX4_told 176 = .ok (.getfield 121, 3) := by decide +kernel
theorem dX4_told_179 : decode cX4_told 179 = .ok (.ireturn, 1) := by decide +kernel
theorem dX4_told_180 : decode cX4_told 180 = .ok (.aload_n 0, 1) := by decide +kernel
theorem dX4_told_181 : decode cX4_told 181 = .ok (.getfield 10, 3) := by decide +kernel
theorem dX4_told_184 : decode cX4_told 184 = .ok (.getfield 225, 3) := by decide +kernel
theorem dX4_told_187 : decode cX4_told 187 = .ok (.ireturn, 1) := by decide +kernel
theorem dX4_told_188 : decode cX4_told 188 = .ok (.aload_n 0, 1) := by decide +kernel
theorem dX4_told_189 : decode cX4_told 189 = .ok (.getfield 10, 3) := by decide +kernel
theorem dX4_told_192 : decode cX4_told 192 = .ok (.getfield 118, 3) := by decide +kernel
theorem dX4_told_195 : decode cX4_told 195 = .ok (.ireturn, 1) := by decide +kernel
theorem dX4_told_196 : decode cX4_told 196 = .ok (.bipush (-2), 2) := by decide +kernel
theorem dX4_told_198 : decode cX4_told 198 = .ok (.ireturn, 1) := by decide +kernel
theorem dX4_within_0 : decode cX4_within 0 = .ok (.iload_n 0, 1) := by decide +kernel
theorem dX4_within_1 : decode cX4_within 1 = .ok (.iload_n 1, 1) := by decide +kernel
theorem dX4_within_2 : decode cX4_within 2 = .ok (.if_icmp .lt 12, 3) := by decide +kernel
theorem dX4_within_5 : decode cX4_within 5 = .ok (.iload_n 0, 1) := by decide +kernel
theorem dX4_within_6 : decode cX4_within 6 = .ok (.iload_n 2, 1) := by decide +kernel
theorem dX4_within_7 : decode cX4_within 7 = .ok (.if_icmp .gt 7, 3) := by decide +kernel
theorem dX4_within_10 : decode cX4_within 10 = .ok (.iconst 1, 1) := by decide +kernel
theorem dX4_within_11 : decode cX4_within 11 = .ok (.goto 4, 3) := by decide +kernel
theorem dX4_within_14 : decode cX4_within 14 = .ok (.iconst 0, 1) := by decide +kernel
theorem dX4_within_15 : decode cX4_within 15 = .ok (.ireturn, 1) := by decide +kernel
theorem dX4_has_0 : decode cX4_has 0 = .ok (.iload_n 0, 1) := by decide +kernel
theorem dX4_has_1 : decode cX4_has 1 = .ok (.iload_n 1, 1) := by decide +kernel
theorem dX4_has_2 : decode cX4_has 2 = .ok (.ishr, 1) := by decide +kernel
theorem dX4_has_3 : decode cX4_has 3 = .ok (.iconst 1, 1) := by decide +kernel
theorem dX4_has_4 : decode cX4_has 4 = .ok (.iand, 1) := by decide +kernel
theorem dX4_has_5 : decode cX4_has 5 = .ok (.iconst 1, 1) := by decide +kernel
theorem dX4_has_6 : decode cX4_has 6 = .ok (.if_icmp .ne 7, 3) := by decide +kernel
theorem dX4_has_9 : decode cX4_has 9 = .ok (.iconst 1, 1) := by decide +kernel
theorem dX4_has_10 : decode cX4_has 10 = .ok (.goto 4, 3) := by decide +kernel
theorem dX4_has_13 : decode cX4_has 13 = .ok (.iconst 0, 1) := by decide +kernel
theorem dX4_has_14 : decode cX4_has 14 = .ok (.ireturn, 1) := by decide +kernel
theorem dX4_isNews_0 : decode cX4_isNews 0 = .ok (.iload_n 0, 1) := by decide +kernel
theorem dX4_isNews_1 : decode cX4_isNews 1 = .ok (.iconst 0, 1) := by decide +kernel
theorem dX4_isNews_2 : decode cX4_isNews 2 = .ok (.bipush 7, 2) := by decide +kernel
theorem dX4_isNews_4 : decode cX4_isNews 4 = .ok (.invokestatic 44, 3) := by decide +kernel
theorem dX4_isNews_7 : decode cX4_isNews 7 = .ok (.ireturn, 1) := by decide +kernel
theorem dX4_refuseTrip_0 : decode cX4_refuseTrip 0 = .ok (.aload_n 0, 1) := by decide +kernel
theorem dX4_refuseTrip_1 : decode cX4_refuseTrip 1 = .ok (.getfield 10, 3) := by decide +kernel
theorem dX4_refuseTrip_4 : decode cX4_refuseTrip 4 = .ok (.iload_n 1, 1) := by decide +kernel
theorem dX4_refuseTrip_5 : decode cX4_refuseTrip 5 = .ok (.invokevirtual 106, 3) := by decide +kernel
theorem dX4_refuseTrip_8 : decode cX4_refuseTrip 8 = .ok (.ifCond .eq 14, 3) := by decide +kernel
theorem dX4_refuseTrip_11 : decode cX4_refuseTrip 11 = .ok (.aload_n 0, 1) := by decide +kernel
theorem dX4_refuseTrip_12 : decode cX4_refuseTrip 12 = .ok (.getfield 10, 3) := by decide +kernel
theorem dX4_refuseTrip_15 : decode cX4_refuseTrip 15 = .ok (.iload_n 2, 1) := by decide +kernel
theorem dX4_refuseTrip_16 : decode cX4_refuseTrip 16 = .ok (.invokevirtual 56, 3) := by decide +kernel
theorem dX4_refuseTrip_19 : decode cX4_refuseTrip 19 = .ok (.ifCond .ne 5, 3) := by decide +kernel
theorem dX4_refuseTrip_22 : decode cX4_refuseTrip 22 = .ok (.iconst (-1), 1) := by decide +kernel
theorem dX4_refuseTrip_23 : decode cX4_refuseTrip 23 = .ok (.ireturn, 1) := by decide +kernel
theorem dX4_refuseTrip_24 : decode cX4_refuseTrip 24 = .ok (.iload_n 3, 1) := by decide +kernel
theorem dX4_refuseTrip_25 : decode cX4_refuseTrip 25 = .ok (.iconst 0, 1) := by decide +kernel
theorem dX4_refuseTrip_26 : decode cX4_refuseTrip 26 = .ok (.iconst 1, 1) := by decide +kernel
theorem dX4_refuseTrip_27 : decode cX4_refuseTrip 27 = .ok (.invokestatic 44, 3) := by decide +kernel
theorem dX4_refuseTrip_30 : decode cX4_refuseTrip 30 = .ok (.ifCond .eq 7, 3) := by decide +kernel
theorem dX4_refuseTrip_33 : decode cX4_refuseTrip 33 = .ok (.iconst 0, 1) := by decide +kernel
theorem dX4_refuseTrip_34 : decode cX4_refuseTrip 34 = .ok (.goto 5, 3) := by decide +kernel
theorem dX4_refuseTrip_37 : decode cX4_refuseTrip 37 = .ok (.bipush (-2), 2) := by decide +kernel
theorem dX4_refuseTrip_39 : decode cX4_refuseTrip 39 = .ok (.ireturn, 1) := by decide +kernel
theorem dX4_countOrBits_0 : decode cX4_countOrBits 0 = .ok (.iload_n 0, 1) := by decide +kernel
theorem dX4_countOrBits_1 : decode cX4_countOrBits 1 = .ok (.bipush (-6), 2) := by decide +kernel
theorem dX4_countOrBits_3 : decode cX4_countOrBits 3 = .ok (.if_icmp .eq 8, 3) := by decide +kernel
theorem dX4_countOrBits_6 : decode cX4_countOrBits 6 = .ok (.iload_n 1, 1) := by decide +kernel
theorem dX4_countOrBits_7 : decode cX4_countOrBits 7 = .ok (.iconst 1, 1) := by decide +kernel
theorem dX4_countOrBits_8 : decode cX4_countOrBits 8 = .ok (.if_icmp .ne 7, 3) := by decide +kernel
theorem dX4_countOrBits_11 : decode cX4_countOrBits 11 = .ok (.iload_n 0, 1) := by decide +kernel
theorem dX4_countOrBits_12 : decode cX4_countOrBits 12 = .ok (.goto 7, 3) := by decide +kernel
theorem dX4_countOrBits_15 : decode cX4_countOrBits 15 = .ok (.iload_n 0, 1) := by decide +kernel
theorem dX4_countOrBits_16 : decode cX4_countOrBits 16 = .ok (.invokestatic 85, 3) := by decide +kernel
theorem dX4_countOrBits_19 : decode cX4_countOrBits 19 = .ok (.ireturn, 1) := by decide +kernel
theorem dX4_fewest_0 : decode cX4_fewest 0 = .ok (.bipush (-6), 2) := by decide +kernel
theorem dX4_fewest_2 : decode cX4_fewest 2 = .ok (.istore 4, 2) := by decide +kernel
theorem dX4_fewest_4 : decode cX4_fewest 4 = .ok (.iconst 0, 1) := by decide +kernel
theorem dX4_fewest_5 : decode cX4_fewest 5 = .ok (.istore 5, 2) := by decide +kernel
theorem dX4_fewest_7 : decode cX4_fewest 7 = .ok (.iload 5, 2) := by decide +kernel
theorem dX4_fewest_9 : decode cX4_fewest 9 = .ok (.sipush 256, 3) := by decide +kernel
theorem dX4_fewest_12 : decode cX4_fewest 12 = .ok (.if_icmp .ge 111, 3) := by decide +kernel
theorem dX4_fewest_15 : decode cX4_fewest 15 = .ok (.iload 4, 2) := by decide +kernel
theorem dX4_fewest_17 : decode cX4_fewest 17 = .ok (.bipush (-6), 2) := by decide +kernel
theorem dX4_fewest_19 : decode cX4_fewest 19 = .ok (.if_icmp .eq 16, 3) := by decide +kernel
theorem dX4_fewest_22 : decode cX4_fewest 22 = .ok (.iload 5, 2) := by decide +kernel
theorem dX4_fewest_24 : decode cX4_fewest 24 = .ok (.invokestatic 85, 3) := by decide +kernel
theorem dX4_fewest_27 : decode cX4_fewest 27 = .ok (.iload 4, 2) := by decide +kernel
theorem dX4_fewest_29 : decode cX4_fewest 29 = .ok (.invokestatic 85, 3) := by decide +kernel
theorem dX4_fewest_32 : decode cX4_fewest 32 = .ok (.if_icmp .ge 7, 3) := by decide +kernel
theorem dX4_fewest_35 : decode cX4_fewest 35 = .ok (.iconst 1, 1) := by decide +kernel
theorem dX4_fewest_36 : decode cX4_fewest 36 = .ok (.goto 4, 3) := by decide +kernel
theorem dX4_fewest_39 : decode cX4_fewest 39 = .ok (.iconst 0, 1) := by decide +kernel
theorem dX4_fewest_40 : decode cX4_fewest 40 = .ok (.istore 6, 2) := by decide +kernel
theorem dX4_fewest_42 : decode cX4_fewest 42 = .ok (.iload 6, 2) := by decide +kernel
theorem dX4_fewest_44 : decode cX4_fewest 44 = .ok (.ifCond .eq 73, 3) := by decide +kernel
theorem dX4_fewest_47 : decode cX4_fewest 47 = .ok (.iload 5, 2) := by decide +kernel
theorem dX4_fewest_49 : decode cX4_fewest 49 = .ok (.iload_n 3, 1) := by decide +kernel
theorem dX4_fewest_50 : decode cX4_fewest 50 = .ok (.iconst (-1), 1) := by decide +kernel
theorem dX4_fewest_51 : decode cX4_fewest 51 = .ok (.ixor, 1) := by decide +kernel
theorem dX4_fewest_52 : decode cX4_fewest 52 = .ok (.iand, 1) := by decide +kernel
theorem dX4_fewest_53 : decode cX4_fewest 53 = .ok (.ifCond .ne 64, 3) := by decide +kernel
theorem dX4_fewest_56 : decode cX4_fewest 56 = .ok (.iconst 0, 1) := by decide +kernel
theorem dX4_fewest_57 : decode cX4_fewest 57 = .ok (.aload_n 0, 1) := by decide +kernel
theorem dX4_fewest_58 : decode cX4_fewest 58 = .ok (.getfield 10, 3) := by decide +kernel
theorem dX4_fewest_61 : decode cX4_fewest 61 = .ok (.iload_n 1, 1) := by decide +kernel
theorem dX4_fewest_62 : decode cX4_fewest 62 = .ok (.aload_n 0, 1) := by decide +kernel
theorem dX4_fewest_63 : decode cX4_fewest 63 = .ok (.getfield 10, 3) := by decide +kernel
theorem dX4_fewest_66 : decode cX4_fewest 66 = .ok (.getfield 103, 3) := by decide +kernel
theorem dX4_fewest_69 : decode cX4_fewest 69 = .ok (.iload_n 1, 1) := by decide +kernel
theorem dX4_fewest_70 : decode cX4_fewest 70 = .ok (.iaload, 1) := by decide +kernel
theorem dX4_fewest_71 : decode cX4_fewest 71 = .ok (.iload 5, 2) := by decide +kernel
theorem dX4_fewest_73 : decode cX4_fewest 73 = .ok (.ixor, 1) := by decide +kernel
theorem dX4_fewest_74 : decode cX4_fewest 74 = .ok (.invokevirtual 273, 3) := by decide +kernel
theorem dX4_fewest_77 : decode cX4_fewest 77 = .ok (.invokestatic 76, 3) := by decide +kernel
theorem dX4_fewest_80 : decode cX4_fewest 80 = .ok (.istore 7, 2) := by decide +kernel
theorem dX4_fewest_82 : decode cX4_fewest 82 = .ok (.aload_n 0, 1) := by decide +kernel
theorem dX4_fewest_83 : decode cX4_fewest 83 = .ok (.getfield 10, 3) := by decide +kernel
theorem dX4_fewest_86 : decode cX4_fewest 86 = .ok (.aload_n 0, 1) := by decide +kernel
theorem dX4_fewest_87 : decode cX4_fewest 87 = .ok (.getfield 10, 3) := by decide +kernel
theorem dX4_fewest_90 : decode cX4_fewest 90 = .ok (.getfield 97, 3) := by decide +kernel
theorem dX4_fewest_93 : decode cX4_fewest 93 = .ok (.iload_n 1, 1) := by decide +kernel
theorem dX4_fewest_94 : decode cX4_fewest 94 = .ok (.iaload, 1) := by decide +kernel
theorem dX4_fewest_95 : decode cX4_fewest 95 = .ok (.iload_n 2, 1) := by decide +kernel
theorem dX4_fewest_96 : decode cX4_fewest 96 = .ok (.aload_n 0, 1) := by decide +kernel
theorem dX4_fewest_97 : decode cX4_fewest 97 = .ok (.getfield 10, 3) := by decide +kernel
theorem dX4_fewest_100 : decode cX4_fewest 100 = .ok (.iload 7, 2) := by decide +kernel
theorem dX4_fewest_102 : decode cX4_fewest 102 = .ok (.invokevirtual 170, 3) := by decide +kernel
theorem dX4_fewest_105 : decode cX4_fewest 105 = .ok (.invokevirtual 173, 3) := by decide +kernel
theorem dX4_fewest_108 : decode cX4_fewest 108 = .ok (.bipush (-6), 2) := by decide +kernel
theorem dX4_fewest_110 : decode cX4_fewest 110 = .ok (.if_icmp .eq 7, 3) := by decide +kernel
theorem dX4_fewest_113 : decode cX4_fewest 113 = .ok (.iload 5, 2) := by decide +kernel
theorem dX4_fewest_115 : decode cX4_fewest 115 = .ok (.istore 4, 2) := by decide +kernel
theorem dX4_fewest_117 : decode cX4_fewest 117 = .ok (.iinc 5 1, 3) := by decide +kernel
theorem dX4_fewest_120 : decode cX4_fewest 120 = .ok (.goto (-113), 3) := by decide +kernel
theorem dX4_fewest_123 : decode cX4_fewest 123 = .ok (.iload 4, 2) := by decide +kernel
theorem dX4_fewest_125 : decode cX4_fewest 125 = .ok (.ireturn, 1) := by decide +kernel
theorem dX4_weakestBridge_0 : decode cX4_weakestBridge 0 = .ok (.aload_n 0, 1) := by decide +kernel
theorem dX4_weakestBridge_1 : decode cX4_weakestBridge 1 = .ok (.getfield 10, 3) := by decide +kernel
theorem dX4_weakestBridge_4 : decode cX4_weakestBridge 4 = .ok (.iload_n 3, 1) := by decide +kernel
theorem dX4_weakestBridge_5 : decode cX4_weakestBridge 5 = .ok (.invokevirtual 170, 3) := by decide +kernel
theorem dX4_weakestBridge_8 : decode cX4_weakestBridge 8 = .ok (.istore 4, 2) := by decide +kernel
theorem dX4_weakestBridge_10 : decode cX4_weakestBridge 10 = .ok (.aload_n 0, 1) := by decide +kernel
theorem dX4_weakestBridge_11 : decode cX4_weakestBridge 11 = .ok (.getfield 10, 3) := by decide +kernel
theorem dX4_weakestBridge_14 : decode cX4_weakestBridge 14 = .ok (.iload_n 1, 1) := by decide +kernel
theorem dX4_weakestBridge_15 : decode cX4_weakestBridge 15 = .ok (.iload_n 2, 1) := by decide +kernel
theorem dX4_weakestBridge_16 : decode cX4_weakestBridge 16 = .ok (.iload 4, 2) := by decide +kernel
theorem dX4_weakestBridge_18 : decode cX4_weakestBridge 18 = .ok (.invokevirtual 173, 3) := by decide +kernel
theorem dX4_weakestBridge_21 : decode cX4_weakestBridge 21 = .ok (.bipush (-6), 2) := by decide +kernel
theorem dX4_weakestBridge_23 : decode cX4_weakestBridge 23 = .ok (.if_icmp .eq 6, 3) := by decide +kernel
theorem dX4_weakestBridge_26 : decode cX4_weakestBridge 26 = .ok (.bipush (-6), 2) := by decide +kernel
theorem dX4_weakestBridge_28 : decode cX4_weakestBridge 28 = .ok (.ireturn, 1) := by decide +kernel
theorem dX4_weakestBridge_29 : decode cX4_weakestBridge 29 = .ok (.bipush (-6), 2) := by decide +kernel
theorem dX4_weakestBridge_31 : decode cX4_weakestBridge 31 = .ok (.istore 5, 2) := by decide +kernel
theorem dX4_weakestBridge_33 : decode cX4_weakestBridge 33 = .ok (.iconst 0, 1) := by decide +kernel
theorem dX4_weakestBridge_34 : decode cX4_weakestBridge 34 = .ok (.istore 6, 2) := by decide +kernel
theorem dX4_weakestBridge_36 : decode cX4_weakestBridge 36 = .ok (.iload 6, 2) := by decide +kernel
theorem dX4_weakestBridge_38 : decode cX4_weakestBridge 38 = .ok (.bipush 8, 2) := by decide +kernel
theorem dX4_weakestBridge_40 : decode cX4_weakestBridge 40 = .ok (.if_icmp .ge 88, 3) := by decide +kernel
theorem dX4_weakestBridge_43 : decode cX4_weakestBridge 43 = .ok (.iload 5, 2) := by decide +kernel
theorem dX4_weakestBridge_45 : decode cX4_weakestBridge 45 = .ok (.bipush (-6), 2) := by decide +kernel
theorem dX4_weakestBridge_47 : decode cX4_weakestBridge 47 = .ok (.if_icmp .eq 26, 3) := by decide +kernel
theorem dX4_weakestBridge_50 : decode cX4_weakestBridge 50 = .ok (.aload_n 0, 1) := by decide +kernel
theorem dX4_weakestBridge_51 : decode cX4_weakestBridge 51 = .ok (.getfield 10, 3) := by decide +kernel
theorem dX4_weakestBridge_54 : decode cX4_weakestBridge 54 = .ok (.getfield 79, 3) := by decide +kernel
theorem dX4_weakestBridge_57 : decode cX4_weakestBridge 57 = .ok (.iload 6, 2) := by decide +kernel
theorem dX4_weakestBridge_59 : decode cX4_weakestBridge 59 = .ok (.iaload, 1) := by decide +kernel
theorem dX4_weakestBridge_60 : decode cX4_weakestBridge 60 = .ok (.aload_n 0, 1) := by decide +kernel
theorem dX4_weakestBridge_61 : decode cX4_weakestBridge 61 = .ok (.getfield 10, 3) := by decide +kernel
theorem dX4_weakestBridge_64 : decode cX4_weakestBridge 64 = .ok (.getfield 79, 3) := by decide +kernel
theorem dX4_weakestBridge_67 : decode cX4_weakestBridge 67 = .ok (.iload 5, 2) := by decide +kernel
theorem dX4_weakestBridge_69 : decode cX4_weakestBridge 69 = .ok (.iaload, 1) := by decide +kernel
theorem dX4_weakestBridge_70 : decode cX4_weakestBridge 70 = .ok (.if_icmp .le 7, 3) := by decide +kernel
theorem dX4_weakestBridge_73 : decode cX4_weakestBridge 73 = .ok (.iconst 1, 1) := by decide +kernel
theorem dX4_weakestBridge_74 : decode cX4_weakestBridge 74 = .ok (.goto 4, 3) := by decide +kernel
theorem dX4_weakestBridge_77 : decode cX4_weakestBridge 77 = .ok (.iconst 0, 1) := by decide +kernel
theorem dX4_weakestBridge_78 : decode cX4_weakestBridge 78 = .ok (.istore 7, 2) := by decide +kernel
theorem dX4_weakestBridge_80 : decode cX4_weakestBridge 80 = .ok (.aload_n 0, 1) := by decide +kernel
theorem dX4_weakestBridge_81 : decode cX4_weakestBridge 81 = .ok (.getfield 10, 3) := by decide +kernel
theorem dX4_weakestBridge_84 : decode cX4_weakestBridge 84 = .ok (.iload 6, 2) := by decide +kernel
theorem dX4_weakestBridge_86 : decode cX4_weakestBridge 86 = .ok (.invokevirtual 91, 3) := by decide +kernel
theorem dX4_weakestBridge_89 : decode cX4_weakestBridge 89 = .ok (.ifCond .eq 33, 3) := by decide +kernel
theorem dX4_weakestBridge_92 : decode cX4_weakestBridge 92 = .ok (.iload 7, 2) := by decide +kernel
theorem dX4_weakestBridge_94 : decode cX4_weakestBridge 94 = .ok (.ifCond .eq 28, 3) := by decide +kernel
theorem dX4_weakestBridge_97 : decode cX4_weakestBridge 97 = .ok (.aload_n 0, 1) := by decide +kernel
theorem dX4_weakestBridge_98 : decode cX4_weakestBridge 98 = .ok (.getfield 10, 3) := by decide +kernel
theorem dX4_weakestBridge_101 : decode cX4_weakestBridge 101 = .ok (.iload_n 1, 1) := by decide +kernel
theorem dX4_weakestBridge_102 : decode cX4_weakestBridge 102 = .ok (.iload_n 2, 1) := by decide +kernel
theorem dX4_weakestBridge_103 : decode cX4_weakestBridge 103 = .ok (.iload 4, 2) := by decide +kernel
theorem dX4_weakestBridge_105 : decode cX4_weakestBridge 105 = .ok (.iconst 1, 1) := by decide +kernel
theorem dX4_weakestBridge_106 : decode cX4_weakestBridge 106 = .ok (.iload 6, 2) := by decide +kernel
theorem dX4_weakestBridge_108 : decode cX4_weakestBridge 108 = .ok (.ishl, 1) := by decide +kernel
theorem dX4_weakestBridge_109 : decode cX4_weakestBridge 109 = .ok (.ior, 1) := by decide +kernel
theorem dX4_weakestBridge_110 : decode cX4_weakestBridge 110 = .ok (.invokevirtual 173, 3) := by decide +kernel
theorem dX4_weakestBridge_113 : decode cX4_weakestBridge 113 = .ok (.bipush (-6), 2) := by decide +kernel
theorem dX4_weakestBridge_115 : decode cX4_weakestBridge 115 = .ok (.if_icmp .eq 7, 3) := by decide +kernel
theorem dX4_weakestBridge_118 : decode cX4_weakestBridge 118 = .ok (.iload 6, 2) := by decide +kernel
theorem dX4_weakestBridge_120 : decode cX4_weakestBridge 120 = .ok (.istore 5, 2) := by decide +kernel
theorem dX4_weakestBridge_122 : decode cX4_weakestBridge 122 = .ok (.iinc 6 1, 3) := by decide +kernel
theorem dX4_weakestBridge_125 : decode cX4_weakestBridge 125 = .ok (.goto (-89), 3) := by decide +kernel
theorem dX4_weakestBridge_128 : decode cX4_weakestBridge 128 = .ok (.iload 5, 2) := by decide +kernel
theorem dX4_weakestBridge_130 : decode cX4_weakestBridge 130 = .ok (.ireturn, 1) := by decide +kernel
theorem dX4_arrivers_0 : decode cX4_arrivers 0 = .ok (.iconst 0, 1) := by decide +kernel
theorem dX4_arrivers_1 : decode cX4_arrivers 1 = .ok (.istore_n 3, 1) := by decide +kernel
theorem dX4_arrivers_2 : decode cX4_arrivers 2 = .ok (.iconst 0, 1) := by decide +kernel
theorem dX4_arrivers_3 : decode cX4_arrivers 3 = .ok (.istore 4, 2) := by decide +kernel
theorem dX4_arrivers_5 : decode cX4_arrivers 5 = .ok (.iload 4, 2) := by decide +kernel
theorem dX4_arrivers_7 : decode cX4_arrivers 7 = .ok (.bipush 6, 2) := by decide +kernel
theorem dX4_arrivers_9 : decode cX4_arrivers 9 = .ok (.if_icmp .ge 77, 3) := by decide +kernel
theorem dX4_arrivers_12 : decode cX4_arrivers 12 = .ok (.aload_n 0, 1) := by decide +kernel
theorem dX4_arrivers_13 : decode cX4_arrivers 13 = .ok (.getfield 10, 3) := by decide +kernel
theorem dX4_arrivers_16 : decode cX4_arrivers 16 = .ok (.iload 4, 2) := by decide +kernel
theorem dX4_arrivers_18 : decode cX4_arrivers 18 = .ok (.invokevirtual 106, 3) := by decide +kernel
theorem dX4_arrivers_21 : decode cX4_arrivers 21 = .ok (.ifCond .eq 59, 3) := by decide +kernel
theorem dX4_arrivers_24 : decode cX4_arrivers 24 = .ok (.iconst 0, 1) := by decide +kernel
theorem dX4_arrivers_25 : decode cX4_arrivers 25 = .ok (.aload_n 0, 1) := by decide +kernel
theorem dX4_arrivers_26 : decode cX4_arrivers 26 = .ok (.getfield 10, 3) := by decide +kernel
theorem dX4_arrivers_29 : decode cX4_arrivers 29 = .ok (.iload 4, 2) := by decide +kernel
theorem dX4_arrivers_31 : decode cX4_arrivers 31 = .ok (.invokevirtual 156, 3) := by decide +kernel
theorem dX4_arrivers_34 : decode cX4_arrivers 34 = .ok (.iload_n 2, 1) := by decide +kernel
theorem dX4_arrivers_35 : decode cX4_arrivers 35 = .ok (.iadd, 1) := by decide +kernel
theorem dX4_arrivers_36 : decode cX4_arrivers 36 = .ok (.invokestatic 76, 3) := by decide +kernel
theorem dX4_arrivers_39 : decode cX4_arrivers 39 = .ok (.istore 5, 2) := by decide +kernel
theorem dX4_arrivers_41 : decode cX4_arrivers 41 = .ok (.aload_n 0, 1) := by decide +kernel
theorem dX4_arrivers_42 : decode cX4_arrivers 42 = .ok (.getfield 10, 3) := by decide +kernel
theorem dX4_arrivers_45 : decode cX4_arrivers 45 = .ok (.aload_n 0, 1) := by decide +kernel
theorem dX4_arrivers_46 : decode cX4_arrivers 46 = .ok (.getfield 10, 3) := by decide +kernel
theorem dX4_arrivers_49 : decode cX4_arrivers 49 = .ok (.getfield 97, 3) := by decide +kernel
theorem dX4_arrivers_52 : decode cX4_arrivers 52 = .ok (.iload 4, 2) := by decide +kernel
theorem dX4_arrivers_54 : decode cX4_arrivers 54 = .ok (.iaload, 1) := by decide +kernel
theorem dX4_arrivers_55 : decode cX4_arrivers 55 = .ok (.iload_n 1, 1) := by decide +kernel
theorem dX4_arrivers_56 : decode cX4_arrivers 56 = .ok (.aload_n 0, 1) := by decide +kernel
theorem dX4_arrivers_57 : decode cX4_arrivers 57 = .ok (.getfield 10, 3) := by decide +kernel
theorem dX4_arrivers_60 : decode cX4_arrivers 60 = .ok (.iload 5, 2) := by decide +kernel
theorem dX4_arrivers_62 : decode cX4_arrivers 62 = .ok (.invokevirtual 170, 3) := by decide +kernel
theorem dX4_arrivers_65 : decode cX4_arrivers 65 = .ok (.invokevirtual 173, 3) := by decide +kernel
theorem dX4_arrivers_68 : decode cX4_arrivers 68 = .ok (.bipush (-6), 2) := by decide +kernel
theorem dX4_arrivers_70 : decode cX4_arrivers 70 = .ok (.if_icmp .eq 10, 3) := by decide +kernel
theorem dX4_arrivers_73 : decode cX4_arrivers 73 = .ok (.iload_n 3, 1) := by decide +kernel
theorem dX4_arrivers_74 : decode cX4_arrivers 74 = .ok (.iconst 1, 1) := by decide +kernel
theorem dX4_arrivers_75 : decode cX4_arrivers 75 = .ok (.iload 4, 2) := by decide +kernel
theorem dX4_arrivers_77 : decode cX4_arrivers 77 = .ok (.ishl, 1) := by decide +kernel
theorem dX4_arrivers_78 : decode cX4_arrivers 78 = .ok (.ior, 1) := by decide +kernel
theorem dX4_arrivers_79 : decode cX4_arrivers 79 = .ok (.istore_n 3, 1) := by decide +kernel
theorem dX4_arrivers_80 : decode cX4_arrivers 80 = .ok (.iinc 4 1, 3) := by decide +kernel
theorem dX4_arrivers_83 : decode cX4_arrivers 83 = .ok (.goto (-78), 3) := by decide +kernel
theorem dX4_arrivers_86 : decode cX4_arrivers 86 = .ok (.iload_n 3, 1) := by decide +kernel
theorem dX4_arrivers_87 : decode cX4_arrivers 87 = .ok (.ireturn, 1) := by decide +kernel
theorem dX4_feeOf_0 : decode cX4_feeOf 0 = .ok (.aload_n 0, 1) := by decide +kernel
theorem dX4_feeOf_1 : decode cX4_feeOf 1 = .ok (.getfield 10, 3) := by decide +kernel
theorem dX4_feeOf_4 : decode cX4_feeOf 4 = .ok (.iload_n 1, 1) := by decide +kernel
theorem dX4_feeOf_5 : decode cX4_feeOf 5 = .ok (.invokevirtual 156, 3) := by decide +kernel
theorem dX4_feeOf_8 : decode cX4_feeOf 8 = .ok (.istore_n 3, 1) := by decide +kernel
theorem dX4_feeOf_9 : decode cX4_feeOf 9 = .ok (.aload_n 0, 1) := by decide +kernel
theorem dX4_feeOf_10 : decode cX4_feeOf 10 = .ok (.getfield 10, 3) := by decide +kernel
theorem dX4_feeOf_13 : decode cX4_feeOf 13 = .ok (.aload_n 0, 1) := by decide +kernel
theorem dX4_feeOf_14 : decode cX4_feeOf 14 = .ok (.getfield 10, 3) := by decide +kernel
theorem dX4_feeOf_17 : decode cX4_feeOf 17 = .ok (.getfield 97, 3) := by decide +kernel
theorem dX4_feeOf_20 : decode cX4_feeOf 20 = .ok (.iload_n 1, 1) := by decide +kernel
theorem dX4_feeOf_21 : decode cX4_feeOf 21 = .ok (.iaload, 1) := by decide +kernel
theorem dX4_feeOf_22 : decode cX4_feeOf 22 = .ok (.iload_n 2, 1) := by decide +kernel
theorem dX4_feeOf_23 : decode cX4_feeOf 23 = .ok (.aload_n 0, 1) := by decide +kernel
theorem dX4_feeOf_24 : decode cX4_feeOf 24 = .ok (.getfield 10, 3) := by decide +kernel
theorem dX4_feeOf_27 : decode cX4_feeOf 27 = .ok (.iload_n 3, 1) := by decide +kernel
theorem dX4_feeOf_28 : decode cX4_feeOf 28 = .ok (.invokevirtual 170, 3) := by decide +kernel
theorem dX4_feeOf_31 : decode cX4_feeOf 31 = .ok (.invokevirtual 173, 3) := by decide +kernel
theorem dX4_feeOf_34 : decode cX4_feeOf 34 = .ok (.istore 4, 2) := by decide +kernel
theorem dX4_feeOf_36 : decode cX4_feeOf 36 = .ok (.iload 4, 2) := by decide +kernel
theorem dX4_feeOf_38 : decode cX4_feeOf 38 = .ok (.bipush (-6), 2) := by decide +kernel
theorem dX4_feeOf_40 : decode cX4_feeOf 40 = .ok (.if_icmp .ne 8, 3) := by decide +kernel
theorem dX4_feeOf_43 : decode cX4_feeOf 43 = .ok (.bipush (-6), 2) := by decide +kernel
theorem dX4_feeOf_45 : decode cX4_feeOf 45 = .ok (.goto 7, 3) := by decide +kernel
theorem dX4_feeOf_48 : decode cX4_feeOf 48 = .ok (.iload_n 3, 1) := by decide +kernel
theorem dX4_feeOf_49 : decode cX4_feeOf 49 = .ok (.iload 4, 2) := by decide +kernel
theorem dX4_feeOf_51 : decode cX4_feeOf 51 = .ok (.imul, 1) := by decide +kernel
theorem dX4_feeOf_52 : decode cX4_feeOf 52 = .ok (.ireturn, 1) := by decide +kernel
theorem dX4_tellBridge_0 : decode cX4_tellBridge 0 = .ok (.aload_n 0, 1) := by decide +kernel
theorem dX4_tellBridge_1 : decode cX4_tellBridge 1 = .ok (.getfield 10, 3) := by decide +kernel
theorem dX4_tellBridge_4 : decode cX4_tellBridge 4 = .ok (.iload_n 1, 1) := by decide +kernel
theorem dX4_tellBridge_5 : decode cX4_tellBridge 5 = .ok (.invokevirtual 91, 3) := by decide +kernel
theorem dX4_tellBridge_8 : decode cX4_tellBridge 8 = .ok (.ifCond .ne 6, 3) := by decide +kernel
theorem dX4_tellBridge_11 : decode cX4_tellBridge 11 = .ok (.bipush (-2), 2) := by decide +kernel
theorem dX4_tellBridge_13 : decode cX4_tellBridge 13 = .ok (.ireturn, 1) := by decide +kernel
theorem dX4_tellBridge_14 : decode cX4_tellBridge 14 = .ok (.iload_n 2, 1) := by decide +kernel
theorem dX4_tellBridge_15 : decode cX4_tellBridge 15 = .ok (.tableswitch 55 0 2 #[25, 35, 45], 25) := by decide +kernel
theorem dX4_tellBridge_40 : decode cX4_tellBridge 40 = .ok (.aload_n 0, 1) := by decide +kernel
theorem dX4_tellBridge_41 : decode cX4_tellBridge 41 = .ok (.getfield 10, 3) := by decide +kernel
theorem dX4_tellBridge_44 : decode cX4_tellBridge 44 = .ok (.getfield 79, 3) := by decide +kernel
theorem dX4_tellBridge_47 : decode cX4_tellBridge 47 = .ok (.iload_n 1, 1) := by decide +kernel
theorem dX4_tellBridge_48 : decode cX4_tellBridge 48 = .ok (.iaload, 1) := by decide +kernel
theorem dX4_tellBridge_49 : decode cX4_tellBridge 49 = .ok (.ireturn, 1) := by decide +kernel
theorem dX4_tellBridge_50 : decode cX4_tellBridge 50 = .ok (.aload_n 0, 1) := by decide +kernel
theorem dX4_tellBridge_51 : decode cX4_tellBridge 51 = .ok (.getfield 10, 3) := by decide +kernel
theorem dX4_tellBridge_54 : decode cX4_tellBridge 54 = .ok (.getfield 63, 3) := by decide +kernel
theorem dX4_tellBridge_57 : decode cX4_tellBridge 57 = .ok (.iload_n 1, 1) := by decide +kernel
theorem dX4_tellBridge_58 : decode cX4_tellBridge 58 = .ok (.iaload, 1) := by decide +kernel
theorem dX4_tellBridge_59 : decode cX4_tellBridge 59 = .ok (.ireturn, 1) := by decide +kernel
theorem dX4_tellBridge_60 : decode cX4_tellBridge 60 = .ok (.aload_n 0, 1) := by decide +kernel
theorem dX4_tellBridge_61 : decode cX4_tellBridge 61 = .ok (.getfield 10, 3) := by decide +kernel
theorem dX4_tellBridge_64 : decode cX4_tellBridge 64 = .ok (.getfield 73, 3) := by decide +kernel
theorem dX4_tellBridge_67 : decode cX4_tellBridge 67 = .ok (.iload_n 1, 1) := by decide +kernel
theorem dX4_tellBridge_68 : decode cX4_tellBridge 68 = .ok (.iaload, 1) := by decide +kernel
theorem dX4_tellBridge_69 : decode cX4_tellBridge 69 = .ok (.ireturn, 1) := by decide +kernel
theorem dX4_tellBridge_70 : decode cX4_tellBridge 70 = .ok (.bipush (-2), 2) := by decide +kernel
theorem dX4_tellBridge_72 : decode cX4_tellBridge 72 = .ok (.ireturn, 1) := by decide +kernel
theorem dX4_tellPerson_0 : decode cX4_tellPerson 0 = .ok (.aload_n 0, 1) := by decide +kernel
theorem dX4_tellPerson_1 : decode cX4_tellPerson 1 = .ok (.getfield 10, 3) := by decide +kernel
theorem dX4_tellPerson_4 : decode cX4_tellPerson 4 = .ok (.iload_n 1, 1) := by decide +kernel
theorem dX4_tellPerson_5 : decode cX4_tellPerson 5 = .ok (.invokevirtual 106, 3) := by decide +kernel
theorem dX4_tellPerson_8 : decode cX4_tellPerson 8 = .ok (.ifCond .ne 6, 3) := by decide +kernel
theorem dX4_tellPerson_11 : decode cX4_tellPerson 11 = .ok (.bipush (-2), 2) := by decide +kernel
theorem dX4_tellPerson_13 : decode cX4_tellPerson 13 = .ok (.ireturn, 1) := by decide +kernel
theorem dX4_tellPerson_14 : decode cX4_tellPerson 14 = .ok (.iload_n 2, 1) := by decide +kernel
theorem dX4_tellPerson_15 : decode cX4_tellPerson 15 = .ok (.tableswitch 55 0 2 #[25, 35, 45], 25) := by decide +kernel
theorem dX4_tellPerson_40 : decode cX4_tellPerson 40 = .ok (.aload_n 0, 1) := by decide +kernel
theorem dX4_tellPerson_41 : decode cX4_tellPerson 41 = .ok (.getfield 10, 3) := by decide +kernel
theorem dX4_tellPerson_44 : decode cX4_tellPerson 44 = .ok (.getfield 97, 3) := by decide +kernel
theorem dX4_tellPerson_47 : decode cX4_tellPerson 47 = .ok (.iload_n 1, 1) := by decide +kernel
theorem dX4_tellPerson_48 : decode cX4_tellPerson 48 = .ok (.iaload, 1) := by decide +kernel
theorem dX4_tellPerson_49 : decode cX4_tellPerson 49 = .ok (.ireturn, 1) := by decide +kernel
theorem dX4_tellPerson_50 : decode cX4_tellPerson 50 = .ok (.aload_n 0, 1) := by decide +kernel
theorem dX4_tellPerson_51 : decode cX4_tellPerson 51 = .ok (.getfield 10, 3) := by decide +kernel
theorem dX4_tellPerson_54 : decode cX4_tellPerson 54 = .ok (.getfield 100, 3) := by decide +kernel
theorem dX4_tellPerson_57 : decode cX4_tellPerson 57 = .ok (.iload_n 1, 1) := by decide +kernel
theorem dX4_tellPerson_58 : decode cX4_tellPerson 58 = .ok (.iaload, 1) := by decide +kernel
theorem dX4_tellPerson_59 : decode cX4_tellPerson 59 = .ok (.ireturn, 1) := by decide +kernel
theorem dX4_tellPerson_60 : decode cX4_tellPerson 60 = .ok (.aload_n 0, 1) := by decide +kernel
theorem dX4_tellPerson_61 : decode cX4_tellPerson 61 = .ok (.getfield 10, 3) := by decide +kernel
theorem dX4_tellPerson_64 : decode cX4_tellPerson 64 = .ok (.getfield 103, 3) := by decide +kernel
theorem dX4_tellPerson_67 : decode cX4_tellPerson 67 = .ok (.iload_n 1, 1) := by decide +kernel
theorem dX4_tellPerson_68 : decode cX4_tellPerson 68 = .ok (.iaload, 1) := by decide +kernel
theorem dX4_tellPerson_69 : decode cX4_tellPerson 69 = .ok (.ireturn, 1) := by decide +kernel
theorem dX4_tellPerson_70 : decode cX4_tellPerson 70 = .ok (.bipush (-2), 2) := by decide +kernel
theorem dX4_tellPerson_72 : decode cX4_tellPerson 72 = .ok (.ireturn, 1) := by decide +kernel
theorem dX4_power_0 : decode cX4_power 0 = .ok (.lconst 1, 1) := by decide +kernel
theorem dX4_power_1 : decode cX4_power 1 = .ok (.lstore_n 2, 1) := by decide +kernel
theorem dX4_power_2 : decode cX4_power 2 = .ok (.iconst 0, 1) := by decide +kernel
theorem dX4_power_3 : decode cX4_power 3 = .ok (.istore 4, 2) := by decide +kernel
theorem dX4_power_5 : decode cX4_power 5 = .ok (.iload 4, 2) := by decide +kernel
theorem dX4_power_7 : decode cX4_power 7 = .ok (.iload_n 1, 1) := by decide +kernel
theorem dX4_power_8 : decode cX4_power 8 = .ok (.if_icmp .ge 14, 3) := by decide +kernel
theorem dX4_power_11 : decode cX4_power 11 = .ok (.lload_n 2, 1) := by decide +kernel
theorem dX4_power_12 : decode cX4_power 12 = .ok (.iload_n 0, 1) := by decide +kernel
theorem dX4_power_13 : decode cX4_power 13 = .ok (.i2l, 1) := by decide +kernel
theorem dX4_power_14 : decode cX4_power 14 = .ok (.lmul, 1) := by decide +kernel
theorem dX4_power_15 : decode cX4_power 15 = .ok (.lstore_n 2, 1) := by decide +kernel
theorem dX4_power_16 : decode cX4_power 16 = .ok (.iinc 4 1, 3) := by decide +kernel
theorem dX4_power_19 : decode cX4_power 19 = .ok (.goto (-14), 3) := by decide +kernel
theorem dX4_power_22 : decode cX4_power 22 = .ok (.lload_n 2, 1) := by decide +kernel
theorem dX4_power_23 : decode cX4_power 23 = .ok (.lreturn, 1) := by decide +kernel
theorem dX4_commonDivisor_0 : decode cX4_commonDivisor 0 = .ok (.lload_n 0, 1) := by decide +kernel
theorem dX4_commonDivisor_1 : decode cX4_commonDivisor 1 = .ok (.lstore 4, 2) := by decide +kernel
theorem dX4_commonDivisor_3 : decode cX4_commonDivisor 3 = .ok (.lload_n 2, 1) := by decide +kernel
theorem dX4_commonDivisor_4 : decode cX4_commonDivisor 4 = .ok (.lstore 6, 2) := by decide +kernel
theorem dX4_commonDivisor_6 : decode cX4_commonDivisor 6 = .ok (.iconst 0, 1) := by decide +kernel
theorem dX4_commonDivisor_7 : decode cX4_commonDivisor 7 = .ok (.istore 8, 2) := by decide +kernel
theorem dX4_commonDivisor_9 : decode cX4_commonDivisor 9 = .ok (.iload 8, 2) := by decide +kernel
theorem dX4_commonDivisor_11 : decode cX4_commonDivisor 11 = .ok (.sipush 200, 3) := by decide +kernel
theorem dX4_commonDivisor_14 : decode cX4_commonDivisor 14 = .ok (.if_icmp .ge 31, 3) := by decide +kernel
theorem dX4_commonDivisor_17 : decode cX4_commonDivisor 17 = .ok (.lload 6, 2) := by decide +kernel
theorem dX4_commonDivisor_19 : decode cX4_commonDivisor 19 = .ok (.lconst 0, 1) := by decide +kernel
theorem dX4_commonDivisor_20 : decode cX4_commonDivisor 20 = .ok (.lcmp, 1) := by decide +kernel
theorem dX4_commonDivisor_21 : decode cX4_commonDivisor 21 = .ok (.ifCond .eq 24, 3) := by decide +kernel
theorem dX4_commonDivisor_24 : decode cX4_commonDivisor 24 = .ok (.lload 4, 2) := by decide +kernel
theorem dX4_commonDivisor_26 : decode cX4_commonDivisor 26 = .ok (.lload 6, 2) := by decide +kernel
theorem dX4_commonDivisor_28 : decode cX4_commonDivisor 28 = .ok (.lrem, 1) := by decide +kernel
theorem dX4_commonDivisor_29 : decode cX4_commonDivisor 29 = .ok (.lstore 9, 2) := by decide +kernel
theorem dX4_commonDivisor_31 : decode cX4_commonDivisor 31 = .ok (.lload 6, 2) := by decide +kernel
theorem dX4_commonDivisor_33 : decode cX4_commonDivisor 33 = .ok (.lstore 4, 2) := by decide +kernel
theorem dX4_commonDivisor_35 : decode cX4_commonDivisor 35 = .ok (.lload 9, 2) := by decide +kernel
theorem dX4_commonDivisor_37 : decode cX4_commonDivisor 37 = .ok (.lstore 6, 2) := by decide +kernel
theorem dX4_commonDivisor_39 : decode cX4_commonDivisor 39 = .ok (.iinc 8 1, 3) := by decide +kernel
theorem dX4_commonDivisor_42 : decode cX4_commonDivisor 42 = .ok (.goto (-33), 3) := by decide +kernel
theorem dX4_commonDivisor_45 : decode cX4_commonDivisor 45 = .ok (.lload 4, 2) := by decide +kernel
theorem dX4_commonDivisor_47 : decode cX4_commonDivisor 47 = .ok (.lreturn, 1) := by decide +kernel
theorem dX4_findOrder_0 : decode cX4_findOrder 0 = .ok (.iload_n 2, 1) := by decide +kernel
theorem dX4_findOrder_1 : decode cX4_findOrder 1 = .ok (.ifCond .eq 9, 3) := by decide +kernel
theorem dX4_findOrder_4 : decode cX4_findOrder 4 = .ok (.iload_n 3, 1) := by decide +kernel
theorem dX4_findOrder_5 : decode cX4_findOrder 5 = .ok (.bipush 6, 2) := by decide +kernel
theorem dX4_findOrder_7 : decode cX4_findOrder 7 = .ok (.if_icmp .lt 13, 3) := by decide +kernel
theorem dX4_findOrder_10 : decode cX4_findOrder 10 = .ok (.iload_n 2, 1) := by decide +kernel
theorem dX4_findOrder_11 : decode cX4_findOrder 11 = .ok (.ifCond .ne 7, 3) := by decide +kernel
theorem dX4_findOrder_14 : decode cX4_findOrder 14 = .ok (.iconst 1, 1) := by decide +kernel
theorem dX4_findOrder_15 : decode cX4_findOrder 15 = .ok (.goto 4, 3) := by decide +kernel
theorem dX4_findOrder_18 : decode cX4_findOrder 18 = .ok (.iconst 0, 1) := by decide +kernel
theorem dX4_findOrder_19 : decode cX4_findOrder 19 = .ok (.ireturn, 1) := by decide +kernel
theorem dX4_findOrder_20 : decode cX4_findOrder 20 = .ok (.iconst 0, 1) := by decide +kernel
theorem dX4_findOrder_21 : decode cX4_findOrder 21 = .ok (.istore 4, 2) := by decide +kernel
theorem dX4_findOrder_23 : decode cX4_findOrder 23 = .ok (.iload 4, 2) := by decide +kernel
theorem dX4_findOrder_25 : decode cX4_findOrder 25 = .ok (.bipush 6, 2) := by decide +kernel
theorem dX4_findOrder_27 : decode cX4_findOrder 27 = .ok (.if_icmp .ge 130, 3) := by decide +kernel
theorem dX4_findOrder_30 : decode cX4_findOrder 30 = .ok (.aload_n 1, 1) := by decide +kernel
theorem dX4_findOrder_31 : decode cX4_findOrder 31 = .ok (.getfield 97, 3) := by decide +kernel
theorem dX4_findOrder_34 : decode cX4_findOrder 34 = .ok (.iload 4, 2) := by decide +kernel
theorem dX4_findOrder_36 : decode cX4_findOrder 36 = .ok (.iaload, 1) := by decide +kernel
theorem dX4_findOrder_37 : decode cX4_findOrder 37 = .ok (.istore 5, 2) := by decide +kernel
theorem dX4_findOrder_39 : decode cX4_findOrder 39 = .ok (.iload_n 2, 1) := by decide +kernel
theorem dX4_findOrder_40 : decode cX4_findOrder 40 = .ok (.iload 4, 2) := by decide +kernel
theorem dX4_findOrder_42 : decode cX4_findOrder 42 = .ok (.invokestatic 163, 3) := by decide +kernel
theorem dX4_findOrder_45 : decode cX4_findOrder 45 = .ok (.ifCond .eq 106, 3) := by decide +kernel
theorem dX4_findOrder_48 : decode cX4_findOrder 48 = .ok (.aload_n 1, 1) := by decide +kernel
theorem dX4_findOrder_49 : decode cX4_findOrder 49 = .ok (.iload 4, 2) := by decide +kernel
theorem dX4_findOrder_51 : decode cX4_findOrder 51 = .ok (.aload_n 0, 1) := by decide +kernel
theorem dX4_findOrder_52 : decode cX4_findOrder 52 = .ok (.getfield 276, 3) := by decide +kernel
theorem dX4_findOrder_55 : decode cX4_findOrder 55 = .ok (.iload 4, 2) := by decide +kernel
theorem dX4_findOrder_57 : decode cX4_findOrder 57 = .ok (.iaload, 1) := by decide +kernel
theorem dX4_findOrder_58 : decode cX4_findOrder 58 = .ok (.invokevirtual 279, 3) := by decide +kernel
theorem dX4_findOrder_61 : decode cX4_findOrder 61 = .ok (.ifCond .eq 90, 3) := by decide +kernel
theorem dX4_findOrder_64 : decode cX4_findOrder 64 = .ok (.aload_n 1, 1) := by decide +kernel
theorem dX4_findOrder_65 : decode cX4_findOrder 65 = .ok (.getfield 103, 3) := by decide +kernel
theorem dX4_findOrder_68 : decode cX4_findOrder 68 = .ok (.iconst 0, 1) := by decide +kernel
theorem dX4_findOrder_69 : decode cX4_findOrder 69 = .ok (.aload_n 0, 1) := by decide +kernel
theorem dX4_findOrder_70 : decode cX4_findOrder 70 = .ok (.getfield 282, 3) := by decide +kernel
theorem dX4_findOrder_73 : decode cX4_findOrder 73 = .ok (.iload_n 3, 1) := by decide +kernel
theorem dX4_findOrder_74 : decode cX4_findOrder 74 = .ok (.bipush 6, 2) := by decide +kernel
theorem dX4_findOrder_76 : decode cX4_findOrder 76 = .ok (.imul, 1) := by decide +kernel
theorem dX4_findOrder_77 : decode cX4_findOrder 77 = .ok (.bipush 6, 2) := by decide +kernel
theorem dX4_findOrder_79 : decode cX4_findOrder 79 = .ok (.invokestatic 285, 3) := by decide +kernel
theorem dX4_findOrder_82 : decode cX4_findOrder 82 = .ok (.aload_n 0, 1) := by decide +kernel
theorem dX4_findOrder_83 : decode cX4_findOrder 83 = .ok (.getfield 213, 3) := by decide +kernel
theorem dX4_findOrder_86 : decode cX4_findOrder 86 = .ok (.iload_n 3, 1) := by decide +kernel
theorem dX4_findOrder_87 : decode cX4_findOrder 87 = .ok (.iload 4, 2) := by decide +kernel
theorem dX4_findOrder_89 : decode cX4_findOrder 89 = .ok (.iastore, 1) := by decide +kernel
theorem dX4_findOrder_90 : decode cX4_findOrder 90 = .ok (.aload_n 1, 1) := by decide +kernel
theorem dX4_findOrder_91 : decode cX4_findOrder 91 = .ok (.iload 4, 2) := by decide +kernel
theorem dX4_findOrder_93 : decode cX4_findOrder 93 = .ok (.aload_n 0, 1) := by decide +kernel
theorem dX4_findOrder_94 : decode cX4_findOrder 94 = .ok (.getfield 276, 3) := by decide +kernel
theorem dX4_findOrder_97 : decode cX4_findOrder 97 = .ok (.iload 4, 2) := by decide +kernel
theorem dX4_findOrder_99 : decode cX4_findOrder 99 = .ok (.iaload, 1) := by decide +kernel
theorem dX4_findOrder_100 : decode cX4_findOrder 100 = .ok (.invokevirtual 291, 3) := by decide +kernel
theorem dX4_findOrder_103 : decode cX4_findOrder 103 = .ok (.aload_n 0, 1) := by decide +kernel
theorem dX4_findOrder_104 : decode cX4_findOrder 104 = .ok (.aload_n 1, 1) := by decide +kernel
theorem dX4_findOrder_105 : decode cX4_findOrder 105 = .ok (.iload_n 2, 1) := by decide +kernel
theorem dX4_findOrder_106 : decode cX4_findOrder 106 = .ok (.iconst 1, 1) := by decide +kernel
theorem dX4_findOrder_107 : decode cX4_findOrder 107 = .ok (.iload 4, 2) := by decide +kernel
theorem dX4_findOrder_109 : decode cX4_findOrder 109 = .ok (.ishl, 1) := by decide +kernel
theorem dX4_findOrder_110 : decode cX4_findOrder 110 = .ok (.iconst (-1), 1) := by decide +kernel
theorem dX4_findOrder_111 : decode cX4_findOrder 111 = .ok (.ixor, 1) := by decide +kernel
theorem dX4_findOrder_112 : decode cX4_findOrder 112 = .ok (.iand, 1) := by decide +kernel
theorem dX4_findOrder_113 : decode cX4_findOrder 113 = .ok (.iload_n 3, 1) := by decide +kernel
theorem dX4_findOrder_114 : decode cX4_findOrder 114 = .ok (.iconst 1, 1) := by decide +kernel
theorem dX4_findOrder_115 : decode cX4_findOrder 115 = .ok (.iadd, 1) := by decide +kernel
theorem dX4_findOrder_116 : decode cX4_findOrder 116 = .ok (.invokestatic 209, 3) := by decide +kernel
theorem dX4_findOrder_119 : decode cX4_findOrder 119 = .ok (.ifCond .eq 5, 3) := by decide +kernel
theorem dX4_findOrder_122 : decode cX4_findOrder 122 = .ok (.iconst 1, 1) := by decide +kernel
theorem dX4_findOrder_123 : decode cX4_findOrder 123 = .ok (.ireturn, 1) := by decide +kernel
theorem dX4_findOrder_124 : decode cX4_findOrder 124 = .ok (.aload_n 1, 1) := by decide +kernel
theorem dX4_findOrder_125 : decode cX4_findOrder 125 = .ok (.getfield 97, 3) := by decide +kernel
theorem dX4_findOrder_128 : decode cX4_findOrder 128 = .ok (.iload 4, 2) := by decide +kernel
theorem dX4_findOrder_130 : decode cX4_findOrder 130 = .ok (.iload 5, 2) := by decide +kernel
theorem dX4_findOrder_132 : decode cX4_findOrder 132 = .ok (.iastore, 1) := by decide +kernel
theorem dX4_findOrder_133 : decode cX4_findOrder 133 = .ok (.aload_n 0, 1) := by decide +kernel
theorem dX4_findOrder_134 : decode cX4_findOrder 134 = .ok (.getfield 282, 3) := by decide +kernel
theorem dX4_findOrder_137 : decode cX4_findOrder 137 = .ok (.iload_n 3, 1) := by decide +kernel
theorem dX4_findOrder_138 : decode cX4_findOrder 138 = .ok (.bipush 6, 2) := by decide +kernel
theorem dX4_findOrder_140 : decode cX4_findOrder 140 = .ok (.imul, 1) := by decide +kernel
theorem dX4_findOrder_141 : decode cX4_findOrder 141 = .ok (.aload_n 1, 1) := by decide +kernel
theorem dX4_findOrder_142 : decode cX4_findOrder 142 = .ok (.getfield 103, 3) := by decide +kernel
theorem dX4_findOrder_145 : decode cX4_findOrder 145 = .ok (.iconst 0, 1) := by decide +kernel
theorem dX4_findOrder_146 : decode cX4_findOrder 146 = .ok (.bipush 6, 2) := by decide +kernel
theorem dX4_findOrder_148 : decode cX4_findOrder 148 = .ok (.invokestatic 285, 3) := by decide +kernel
theorem dX4_findOrder_151 : decode cX4_findOrder 151 = .ok (.iinc 4 1, 3) := by decide +kernel
theorem dX4_findOrder_154 : decode cX4_findOrder 154 = .ok (.goto (-131), 3) := by decide +kernel
theorem dX4_findOrder_157 : decode cX4_findOrder 157 = .ok (.iconst 0, 1) := by decide +kernel
theorem dX4_findOrder_158 : decode cX4_findOrder 158 = .ok (.ireturn, 1) := by decide +kernel
