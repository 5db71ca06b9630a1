theorem dX5_left_62 : decode cX5_left 62 = .ok (.iload_n 1, 1) := by decide +kernel
theorem dX5_left_63 : decode cX5_left 63 = .ok (.aload_n 0, 1) := by decide +kernel
theorem dX5_left_64 : decode cX5_left 64 = .ok (.getfield 28, 3) := by decide +kernel
theorem dX5_left_67 : decode cX5_left 67 = .ok (.iload_n 1, 1) := by decide +kernel
theorem dX5_left_68 : decode cX5_left 68 = .ok (.iaload, 1) := by decide +kernel
theorem dX5_left_69 : decode cX5_left 69 = .ok (.iload 4, 2) := by decide +kernel
theorem dX5_left_71 : decode cX5_left 71 = .ok (.iconst (-1), 1) := by decide +kernel
theorem dX5_left_72 : decode cX5_left 72 = .ok (.ixor, 1) := by decide +kernel
theorem dX5_left_73 : decode cX5_left 73 = .ok (.iand, 1) := by decide +kernel
theorem dX5_left_74 : decode cX5_left 74 = .ok (.invokevirtual 202, 3) := by decide +kernel
theorem dX5_left_77 : decode cX5_left 77 = .ok (.invokestatic 278, 3) := by decide +kernel
theorem dX5_left_80 : decode cX5_left 80 = .ok (.invokevirtual 281, 3) := by decide +kernel
theorem dX5_left_83 : decode cX5_left 83 = .ok (.invokevirtual 284, 3) := by decide +kernel
theorem dX5_left_86 : decode cX5_left 86 = .ok (.iinc 4 1, 3) := by decide +kernel
theorem dX5_left_89 : decode cX5_left 89 = .ok (.goto (-56), 3) := by decide +kernel
theorem dX5_left_92 : decode cX5_left 92 = .ok (.aload_n 0, 1) := by decide +kernel
theorem dX5_left_93 : decode cX5_left 93 = .ok (.iload_n 3, 1) := by decide +kernel
theorem dX5_left_94 : decode cX5_left 94 = .ok (.invokevirtual 288, 3) := by decide +kernel
theorem dX5_left_97 : decode cX5_left 97 = .ok (.ireturn, 1) := by decide +kernel
theorem dX5_cried_0 : decode cX5_cried 0 = .ok (.aload_n 0, 1) := by decide +kernel
theorem dX5_cried_1 : decode cX5_cried 1 = .ok (.iload_n 1, 1) := by decide +kernel
theorem dX5_cried_2 : decode cX5_cried 2 = .ok (.iload_n 2, 1) := by decide +kernel
theorem dX5_cried_3 : decode cX5_cried 3 = .ok (.invokevirtual 267, 3) := by decide +kernel
theorem dX5_cried_6 : decode cX5_cried 6 = .ok (.ifCond .ne 5, 3) := by decide +kernel
theorem dX5_cried_9 : decode cX5_cried 9 = .ok (.iconst (-1), 1) := by decide +kernel
theorem dX5_cried_10 : decode cX5_cried 10 = .ok (.ireturn, 1) := by decide +kernel
theorem dX5_cried_11 : decode cX5_cried 11 = .ok (.iload_n 3, 1) := by decide +kernel
theorem dX5_cried_12 : decode cX5_cried 12 = .ok (.i2l, 1) := by decide +kernel
theorem dX5_cried_13 : decode cX5_cried 13 = .ok (.lconst 0, 1) := by decide +kernel
theorem dX5_cried_14 : decode cX5_cried 14 = .ok (.lconst 1, 1) := by decide +kernel
theorem dX5_cried_15 : decode cX5_cried 15 = .ok (.invokestatic 118, 3) := by decide +kernel
theorem dX5_cried_18 : decode cX5_cried 18 = .ok (.ifCond .ne 6, 3) := by decide +kernel
theorem dX5_cried_21 : decode cX5_cried 21 = .ok (.bipush (-2), 2) := by decide +kernel
theorem dX5_cried_23 : decode cX5_cried 23 = .ok (.ireturn, 1) := by decide +kernel
theorem dX5_cried_24 : decode cX5_cried 24 = .ok (.aload_n 0, 1) := by decide +kernel
theorem dX5_cried_25 : decode cX5_cried 25 = .ok (.getfield 112, 3) := by decide +kernel
theorem dX5_cried_28 : decode cX5_cried 28 = .ok (.istore 4, 2) := by decide +kernel
theorem dX5_cried_30 : decode cX5_cried 30 = .ok (.aload_n 0, 1) := by decide +kernel
theorem dX5_cried_31 : decode cX5_cried 31 = .ok (.bipush (-6), 2) := by decide +kernel
theorem dX5_cried_33 : decode cX5_cried 33 = .ok (.putfield 275, 3) := by decide +kernel
theorem dX5_cried_36 : decode cX5_cried 36 = .ok (.iconst 0, 1) := by decide +kernel
theorem dX5_cried_37 : decode cX5_cried 37 = .ok (.istore 5, 2) := by decide +kernel
theorem dX5_cried_39 : decode cX5_cried 39 = .ok (.iload 5, 2) := by decide +kernel
theorem dX5_cried_41 : decode cX5_cried 41 = .ok (.sipush 256, 3) := by decide +kernel
theorem dX5_cried_44 : decode cX5_cried 44 = .ok (.if_icmp .ge 35, 3) := by decide +kernel
theorem dX5_cried_47 : decode cX5_cried 47 = .ok (.aload_n 0, 1) := by decide +kernel
theorem dX5_cried_48 : decode cX5_cried 48 = .ok (.iload 4, 2) := by decide +kernel
theorem dX5_cried_50 : decode cX5_cried 50 = .ok (.iload 5, 2) := by decide +kernel
theorem dX5_cried_52 : decode cX5_cried 52 = .ok (.ior, 1) := by decide +kernel
theorem dX5_cried_53 : decode cX5_cried 53 = .ok (.putfield 112, 3) := by decide +kernel
theorem dX5_cried_56 : decode cX5_cried 56 = .ok (.aload_n 0, 1) := by decide +kernel
theorem dX5_cried_57 : decode cX5_cried 57 = .ok (.iload 5, 2) := by decide +kernel
theorem dX5_cried_59 : decode cX5_cried 59 = .ok (.aload_n 0, 1) := by decide +kernel
theorem dX5_cried_60 : decode cX5_cried 60 = .ok (.iload_n 1, 1) := by decide +kernel
theorem dX5_cried_61 : decode cX5_cried 61 = .ok (.iload_n 2, 1) := by decide +kernel
theorem dX5_cried_62 : decode cX5_cried 62 = .ok (.aload_n 0, 1) := by decide +kernel
theorem dX5_cried_63 : decode cX5_cried 63 = .ok (.iload_n 1, 1) := by decide +kernel
theorem dX5_cried_64 : decode cX5_cried 64 = .ok (.invokevirtual 206, 3) := by decide +kernel
theorem dX5_cried_67 : decode cX5_cried 67 = .ok (.invokevirtual 281, 3) := by decide +kernel
theorem dX5_cried_70 : decode cX5_cried 70 = .ok (.invokevirtual 284, 3) := by decide +kernel
theorem dX5_cried_73 : decode cX5_cried 73 = .ok (.iinc 5 1, 3) := by decide +kernel
theorem dX5_cried_76 : decode cX5_cried 76 = .ok (.goto (-37), 3) := by decide +kernel
theorem dX5_cried_79 : decode cX5_cried 79 = .ok (.aload_n 0, 1) := by decide +kernel
theorem dX5_cried_80 : decode cX5_cried 80 = .ok (.iload 4, 2) := by decide +kernel
theorem dX5_cried_82 : decode cX5_cried 82 = .ok (.putfield 112, 3) := by decide +kernel
theorem dX5_cried_85 : decode cX5_cried 85 = .ok (.aload_n 0, 1) := by decide +kernel
theorem dX5_cried_86 : decode cX5_cried 86 = .ok (.iload_n 3, 1) := by decide +kernel
theorem dX5_cried_87 : decode cX5_cried 87 = .ok (.invokevirtual 288, 3) := by decide +kernel
theorem dX5_cried_90 : decode cX5_cried 90 = .ok (.ireturn, 1) := by decide +kernel
theorem dX5_lies_0 : decode cX5_lies 0 = .ok (.iconst 0, 1) := by decide +kernel
theorem dX5_lies_1 : decode cX5_lies 1 = .ok (.istore_n 2, 1) := by decide +kernel
theorem dX5_lies_2 : decode cX5_lies 2 = .ok (.iconst 0, 1) := by decide +kernel
theorem dX5_lies_3 : decode cX5_lies 3 = .ok (.istore_n 3, 1) := by decide +kernel
theorem dX5_lies_4 : decode cX5_lies 4 = .ok (.iload_n 3, 1) := by decide +kernel
theorem dX5_lies_5 : decode cX5_lies 5 = .ok (.bipush 8, 2) := by decide +kernel
theorem dX5_lies_7 : decode cX5_lies 7 = .ok (.if_icmp .ge 64, 3) := by decide +kernel
theorem dX5_lies_10 : decode cX5_lies 10 = .ok (.aload_n 0, 1) := by decide +kernel
theorem dX5_lies_11 : decode cX5_lies 11 = .ok (.getfield 31, 3) := by decide +kernel
theorem dX5_lies_14 : decode cX5_lies 14 = .ok (.iload_n 3, 1) := by decide +kernel
theorem dX5_lies_15 : decode cX5_lies 15 = .ok (.iaload, 1) := by decide +kernel
theorem dX5_lies_16 : decode cX5_lies 16 = .ok (.ifCond .ge 31, 3) := by decide +kernel
theorem dX5_lies_19 : decode cX5_lies 19 = .ok (.aload_n 0, 1) := by decide +kernel
theorem dX5_lies_20 : decode cX5_lies 20 = .ok (.getfield 28, 3) := by decide +kernel
theorem dX5_lies_23 : decode cX5_lies 23 = .ok (.iload_n 1, 1) := by decide +kernel
theorem dX5_lies_24 : decode cX5_lies 24 = .ok (.iaload, 1) := by decide +kernel
theorem dX5_lies_25 : decode cX5_lies 25 = .ok (.iload_n 3, 1) := by decide +kernel
theorem dX5_lies_26 : decode cX5_lies 26 = .ok (.ishr, 1) := by decide +kernel
theorem dX5_lies_27 : decode cX5_lies 27 = .ok (.iconst 1, 1) := by decide +kernel
theorem dX5_lies_28 : decode cX5_lies 28 = .ok (.iand, 1) := by decide +kernel
theorem dX5_lies_29 : decode cX5_lies 29 = .ok (.ifCond .ne 18, 3) := by decide +kernel
theorem dX5_lies_32 : decode cX5_lies 32 = .ok (.aload_n 0, 1) := by decide +kernel
theorem dX5_lies_33 : decode cX5_lies 33 = .ok (.getfield 112, 3) := by decide +kernel
theorem dX5_lies_36 : decode cX5_lies 36 = .ok (.iload_n 3, 1) := by decide +kernel
theorem dX5_lies_37 : decode cX5_lies 37 = .ok (.ishr, 1) := by decide +kernel
theorem dX5_lies_38 : decode cX5_lies 38 = .ok (.iconst 1, 1) := by decide +kernel
theorem dX5_lies_39 : decode cX5_lies 39 = .ok (.iand, 1) := by decide +kernel
theorem dX5_lies_40 : decode cX5_lies 40 = .ok (.ifCond .ne 7, 3) := by decide +kernel
theorem dX5_lies_43 : decode cX5_lies 43 = .ok (.iconst 1, 1) := by decide +kernel
theorem dX5_lies_44 : decode cX5_lies 44 = .ok (.goto 4, 3) := by decide +kernel
theorem dX5_lies_47 : decode cX5_lies 47 = .ok (.iconst 0, 1) := by decide +kernel
theorem dX5_lies_48 : decode cX5_lies 48 = .ok (.istore 4, 2) := by decide +kernel
theorem dX5_lies_50 : decode cX5_lies 50 = .ok (.iload_n 2, 1) := by decide +kernel
theorem dX5_lies_51 : decode cX5_lies 51 = .ok (.iload 4, 2) := by decide +kernel
theorem dX5_lies_53 : decode cX5_lies 53 = .ok (.ifCond .eq 9, 3) := by decide +kernel
theorem dX5_lies_56 : decode cX5_lies 56 = .ok (.iconst 1, 1) := by decide +kernel
theorem dX5_lies_57 : decode cX5_lies 57 = .ok (.iload_n 3, 1) := by decide +kernel
theorem dX5_lies_58 : decode cX5_lies 58 = .ok (.ishl, 1) := by decide +kernel
theorem dX5_lies_59 : decode cX5_lies 59 = .ok (.goto 4, 3) := by decide +kernel
theorem dX5_lies_62 : decode cX5_lies 62 = .ok (.iconst 0, 1) := by decide +kernel
theorem dX5_lies_63 : decode cX5_lies 63 = .ok (.ior, 1) := by decide +kernel
theorem dX5_lies_64 : decode cX5_lies 64 = .ok (.istore_n 2, 1) := by decide +kernel
theorem dX5_lies_65 : decode cX5_lies 65 = .ok (.iinc 3 1, 3) := by decide +kernel
theorem dX5_lies_68 : decode cX5_lies 68 = .ok (.goto (-64), 3) := by decide +kernel
theorem dX5_lies_71 : decode cX5_lies 71 = .ok (.iload_n 2, 1) := by decide +kernel
theorem dX5_lies_72 : decode cX5_lies 72 = .ok (.ireturn, 1) := by decide +kernel
theorem dX5_floatedBy_0 : decode cX5_floatedBy 0 = .ok (.aload_n 0, 1) := by decide +kernel
theorem dX5_floatedBy_1 : decode cX5_floatedBy 1 = .ok (.iload_n 1, 1) := by decide +kernel
theorem dX5_floatedBy_2 : decode cX5_floatedBy 2 = .ok (.aload_n 0, 1) := by decide +kernel
theorem dX5_floatedBy_3 : decode cX5_floatedBy 3 = .ok (.getfield 28, 3) := by decide +kernel
theorem dX5_floatedBy_6 : decode cX5_floatedBy 6 = .ok (.iload_n 1, 1) := by decide +kernel
theorem dX5_floatedBy_7 : decode cX5_floatedBy 7 = .ok (.iaload, 1) := by decide +kernel
theorem dX5_floatedBy_8 : decode cX5_floatedBy 8 = .ok (.invokevirtual 202, 3) := by decide +kernel
theorem dX5_floatedBy_11 : decode cX5_floatedBy 11 = .ok (.istore_n 3, 1) := by decide +kernel
theorem dX5_floatedBy_12 : decode cX5_floatedBy 12 = .ok (.iconst 0, 1) := by decide +kernel
theorem dX5_floatedBy_13 : decode cX5_floatedBy 13 = .ok (.istore 4, 2) := by decide +kernel
theorem dX5_floatedBy_15 : decode cX5_floatedBy 15 = .ok (.iload 4, 2) := by decide +kernel
theorem dX5_floatedBy_17 : decode cX5_floatedBy 17 = .ok (.bipush 8, 2) := by decide +kernel
theorem dX5_floatedBy_19 : decode cX5_floatedBy 19 = .ok (.if_icmp .ge 41, 3) := by decide +kernel
theorem dX5_floatedBy_22 : decode cX5_floatedBy 22 = .ok (.iload_n 3, 1) := by decide +kernel
theorem dX5_floatedBy_23 : decode cX5_floatedBy 23 = .ok (.iload_n 2, 1) := by decide +kernel
theorem dX5_floatedBy_24 : decode cX5_floatedBy 24 = .ok (.iload 4, 2) := by decide +kernel
theorem dX5_floatedBy_26 : decode cX5_floatedBy 26 = .ok (.ishr, 1) := by decide +kernel
theorem dX5_floatedBy_27 : decode cX5_floatedBy 27 = .ok (.iconst 1, 1) := by decide +kernel
theorem dX5_floatedBy_28 : decode cX5_floatedBy 28 = .ok (.iand, 1) := by decide +kernel
theorem dX5_floatedBy_29 : decode cX5_floatedBy 29 = .ok (.iconst 1, 1) := by decide +kernel
theorem dX5_floatedBy_30 : decode cX5_floatedBy 30 = .ok (.if_icmp .ne 21, 3) := by decide +kernel
theorem dX5_floatedBy_33 : decode cX5_floatedBy 33 = .ok (.aload_n 0, 1) := by decide +kernel
theorem dX5_floatedBy_34 : decode cX5_floatedBy 34 = .ok (.iload_n 1, 1) := by decide +kernel
theorem dX5_floatedBy_35 : decode cX5_floatedBy 35 = .ok (.iload 4, 2) := by decide +kernel
theorem dX5_floatedBy_37 : decode cX5_floatedBy 37 = .ok (.aload_n 0, 1) := by decide +kernel
theorem dX5_floatedBy_38 : decode cX5_floatedBy 38 = .ok (.iload 4, 2) := by decide +kernel
theorem dX5_floatedBy_40 : decode cX5_floatedBy 40 = .ok (.invokevirtual 195, 3) := by decide +kernel
theorem dX5_floatedBy_43 : decode cX5_floatedBy 43 = .ok (.iconst 1, 1) := by decide +kernel
theorem dX5_floatedBy_44 : decode cX5_floatedBy 44 = .ok (.iadd, 1) := by decide +kernel
theorem dX5_floatedBy_45 : decode cX5_floatedBy 45 = .ok (.invokevirtual 198, 3) := by decide +kernel
theorem dX5_floatedBy_48 : decode cX5_floatedBy 48 = .ok (.goto 4, 3) := by decide +kernel
theorem dX5_floatedBy_51 : decode cX5_floatedBy 51 = .ok (.iconst 0, 1) := by decide +kernel
theorem dX5_floatedBy_52 : decode cX5_floatedBy 52 = .ok (.iadd, 1) := by decide +kernel
theorem dX5_floatedBy_53 : decode cX5_floatedBy 53 = .ok (.istore_n 3, 1) := by decide +kernel
theorem dX5_floatedBy_54 : decode cX5_floatedBy 54 = .ok (.iinc 4 1, 3) := by decide +kernel
theorem dX5_floatedBy_57 : decode cX5_floatedBy 57 = .ok (.goto (-42), 3) := by decide +kernel
theorem dX5_floatedBy_60 : decode cX5_floatedBy 60 = .ok (.iload_n 3, 1) := by decide +kernel
theorem dX5_floatedBy_61 : decode cX5_floatedBy 61 = .ok (.invokestatic 278, 3) := by decide +kernel
theorem dX5_floatedBy_64 : decode cX5_floatedBy 64 = .ok (.ireturn, 1) := by decide +kernel
theorem dX5_floated_0 : decode cX5_floated 0 = .ok (.aload_n 0, 1) := by decide +kernel
theorem dX5_floated_1 : decode cX5_floated 1 = .ok (.iload_n 1, 1) := by decide +kernel
theorem dX5_floated_2 : decode cX5_floated 2 = .ok (.iload_n 2, 1) := by decide +kernel
theorem dX5_floated_3 : decode cX5_floated 3 = .ok (.invokevirtual 267, 3) := by decide +kernel
theorem dX5_floated_6 : decode cX5_floated 6 = .ok (.ifCond .ne 5, 3) := by decide +kernel
theorem dX5_floated_9 : decode cX5_floated 9 = .ok (.iconst (-1), 1) := by decide +kernel
theorem dX5_floated_10 : decode cX5_floated 10 = .ok (.ireturn, 1) := by decide +kernel
theorem dX5_floated_11 : decode cX5_floated 11 = .ok (.iload_n 3, 1) := by decide +kernel
theorem dX5_floated_12 : decode cX5_floated 12 = .ok (.i2l, 1) := by decide +kernel
theorem dX5_floated_13 : decode cX5_floated 13 = .ok (.lconst 0, 1) := by decide +kernel
theorem dX5_floated_14 : decode cX5_floated 14 = .ok (.lconst 1, 1) := by decide +kernel
theorem dX5_floated_15 : decode cX5_floated 15 = .ok (.invokestatic 118, 3) := by decide +kernel
theorem dX5_floated_18 : decode cX5_floated 18 = .ok (.ifCond .ne 6, 3) := by decide +kernel
theorem dX5_floated_21 : decode cX5_floated 21 = .ok (.bipush (-2), 2) := by decide +kernel
theorem dX5_floated_23 : decode cX5_floated 23 = .ok (.ireturn, 1) := by decide +kernel
theorem dX5_floated_24 : decode cX5_floated 24 = .ok (.aload_n 0, 1) := by decide +kernel
theorem dX5_floated_25 : decode cX5_floated 25 = .ok (.iload_n 1, 1) := by decide +kernel
theorem dX5_floated_26 : decode cX5_floated 26 = .ok (.invokevirtual 291, 3) := by decide +kernel
theorem dX5_floated_29 : decode cX5_floated 29 = .ok (.istore 4, 2) := by decide +kernel
theorem dX5_floated_31 : decode cX5_floated 31 = .ok (.aload_n 0, 1) := by decide +kernel
theorem dX5_floated_32 : decode cX5_floated 32 = .ok (.bipush (-6), 2) := by decide +kernel
theorem dX5_floated_34 : decode cX5_floated 34 = .ok (.putfield 275, 3) := by decide +kernel
theorem dX5_floated_37 : decode cX5_floated 37 = .ok (.iconst 0, 1) := by decide +kernel
theorem dX5_floated_38 : decode cX5_floated 38 = .ok (.istore 5, 2) := by decide +kernel
theorem dX5_floated_40 : decode cX5_floated 40 = .ok (.iload 5, 2) := by decide +kernel
theorem dX5_floated_42 : decode cX5_floated 42 = .ok (.sipush 256, 3) := by decide +kernel
theorem dX5_floated_45 : decode cX5_floated 45 = .ok (.if_icmp .ge 38, 3) := by decide +kernel
theorem dX5_floated_48 : decode cX5_floated 48 = .ok (.iload 5, 2) := by decide +kernel
theorem dX5_floated_50 : decode cX5_floated 50 = .ok (.iload 4, 2) := by decide +kernel
theorem dX5_floated_52 : decode cX5_floated 52 = .ok (.iconst (-1), 1) := by decide +kernel
theorem dX5_floated_53 : decode cX5_floated 53 = .ok (.ixor, 1) := by decide +kernel
theorem dX5_floated_54 : decode cX5_floated 54 = .ok (.iand, 1) := by decide +kernel
theorem dX5_floated_55 : decode cX5_floated 55 = .ok (.ifCond .ne 22, 3) := by decide +kernel
theorem dX5_floated_58 : decode cX5_floated 58 = .ok (.aload_n 0, 1) := by decide +kernel
theorem dX5_floated_59 : decode cX5_floated 59 = .ok (.iload 5, 2) := by decide +kernel
theorem dX5_floated_61 : decode cX5_floated 61 = .ok (.aload_n 0, 1) := by decide +kernel
theorem dX5_floated_62 : decode cX5_floated 62 = .ok (.iload_n 1, 1) := by decide +kernel
theorem dX5_floated_63 : decode cX5_floated 63 = .ok (.iload_n 2, 1) := by decide +kernel
theorem dX5_floated_64 : decode cX5_floated 64 = .ok (.aload_n 0, 1) := by decide +kernel
theorem dX5_floated_65 : decode cX5_floated 65 = .ok (.iload_n 1, 1) := by decide +kernel
theorem dX5_floated_66 : decode cX5_floated 66 = .ok (.iload 5, 2) := by decide +kernel
theorem dX5_floated_68 : decode cX5_floated 68 = .ok (.invokevirtual 294, 3) := by decide +kernel
theorem dX5_floated_71 : decode cX5_floated 71 = .ok (.invokevirtual 281, 3) := by decide +kernel
theorem dX5_floated_74 : decode cX5_floated 74 = .ok (.invokevirtual 284, 3) := by decide +kernel
theorem dX5_floated_77 : decode cX5_floated 77 = .ok (.iinc 5 1, 3) := by decide +kernel
theorem dX5_floated_80 : decode cX5_floated 80 = .ok (.goto (-40), 3) := by decide +kernel
theorem dX5_floated_83 : decode cX5_floated 83 = .ok (.aload_n 0, 1) := by decide +kernel
theorem dX5_floated_84 : decode cX5_floated 84 = .ok (.iload_n 3, 1) := by decide +kernel
theorem dX5_floated_85 : decode cX5_floated 85 = .ok (.invokevirtual 288, 3) := by decide +kernel
theorem dX5_floated_88 : decode cX5_floated 88 = .ok (.ireturn, 1) := by decide +kernel
theorem dX5_mended_0 : decode cX5_mended 0 = .ok (.aload_n 0, 1) := by decide +kernel
theorem dX5_mended_1 : decode cX5_mended 1 = .ok (.iload_n 1, 1) := by decide +kernel
theorem dX5_mended_2 : decode cX5_mended 2 = .ok (.iload_n 2, 1) := by decide +kernel
theorem dX5_mended_3 : decode cX5_mended 3 = .ok (.invokevirtual 267, 3) := by decide +kernel
theorem dX5_mended_6 : decode cX5_mended 6 = .ok (.ifCond .ne 5, 3) := by decide +kernel
theorem dX5_mended_9 : decode cX5_mended 9 = .ok (.iconst (-1), 1) := by decide +kernel
theorem dX5_mended_10 : decode cX5_mended 10 = .ok (.ireturn, 1) := by decide +kernel
theorem dX5_mended_11 : decode cX5_mended 11 = .ok (.iload_n 3, 1) := by decide +kernel
theorem dX5_mended_12 : decode cX5_mended 12 = .ok (.i2l, 1) := by decide +kernel
theorem dX5_mended_13 : decode cX5_mended 13 = .ok (.lconst 0, 1) := by decide +kernel
theorem dX5_mended_14 : decode cX5_mended 14 = .ok (.lconst 1, 1) := by decide +kernel
theorem dX5_mended_15 : decode cX5_mended 15 = .ok (.invokestatic 118, 3) := by decide +kernel
theorem dX5_mended_18 : decode cX5_mended 18 = .ok (.ifCond .ne 6, 3) := by decide +kernel
theorem dX5_mended_21 : decode cX5_mended 21 = .ok (.bipush (-2), 2) := by decide +kernel
theorem dX5_mended_23 : decode cX5_mended 23 = .ok (.ireturn, 1) := by decide +kernel
theorem dX5_mended_24 : decode cX5_mended 24 = .ok (.aload_n 0, 1) := by decide +kernel
theorem dX5_mended_25 : decode cX5_mended 25 = .ok (.iload_n 1, 1) := by decide +kernel
theorem dX5_mended_26 : decode cX5_mended 26 = .ok (.invokevirtual 206, 3) := by decide +kernel
theorem dX5_mended_29 : decode cX5_mended 29 = .ok (.istore 4, 2) := by decide +kernel
theorem dX5_mended_31 : decode cX5_mended 31 = .ok (.aload_n 0, 1) := by decide +kernel
theorem dX5_mended_32 : decode cX5_mended 32 = .ok (.iload 4, 2) := by decide +kernel
theorem dX5_mended_34 : decode cX5_mended 34 = .ok (.invokevirtual 257, 3) := by decide +kernel
theorem dX5_mended_37 : decode cX5_mended 37 = .ok (.istore 5, 2) := by decide +kernel
theorem dX5_mended_39 : decode cX5_mended 39 = .ok (.aload_n 0, 1) := by decide +kernel
theorem dX5_mended_40 : decode cX5_mended 40 = .ok (.iload_n 2, 1) := by decide +kernel
theorem dX5_mended_41 : decode cX5_mended 41 = .ok (.iload 5, 2) := by decide +kernel
theorem dX5_mended_43 : decode cX5_mended 43 = .ok (.invokevirtual 260, 3) := by decide +kernel
theorem dX5_mended_46 : decode cX5_mended 46 = .ok (.aload_n 0, 1) := by decide +kernel
theorem dX5_mended_47 : decode cX5_mended 47 = .ok (.getfield 70, 3) := by decide +kernel
theorem dX5_mended_50 : decode cX5_mended 50 = .ok (.aload_n 0, 1) := by decide +kernel
theorem dX5_mended_51 : decode cX5_mended 51 = .ok (.getfield 22, 3) := by decide +kernel
theorem dX5_mended_54 : decode cX5_mended 54 = .ok (.iload_n 1, 1) := by decide +kernel
theorem dX5_mended_55 : decode cX5_mended 55 = .ok (.iaload, 1) := by decide +kernel
theorem dX5_mended_56 : decode cX5_mended 56 = .ok (.iaload, 1) := by decide +kernel
theorem dX5_mended_57 : decode cX5_mended 57 = .ok (.sipush 1000, 3) := by decide +kernel
theorem dX5_mended_60 : decode cX5_mended 60 = .ok (.if_icmp .ge 6, 3) := by decide +kernel
theorem dX5_mended_63 : decode cX5_mended 63 = .ok (.bipush (-6), 2) := by decide +kernel
theorem dX5_mended_65 : decode cX5_mended 65 = .ok (.ireturn, 1) := by decide +kernel
theorem dX5_mended_66 : decode cX5_mended 66 = .ok (.bipush (-6), 2) := by decide +kernel
theorem dX5_mended_68 : decode cX5_mended 68 = .ok (.istore 6, 2) := by decide +kernel
theorem dX5_mended_70 : decode cX5_mended 70 = .ok (.ldc_w 297, 3) := by decide +kernel
theorem dX5_mended_73 : decode cX5_mended 73 = .ok (.istore 7, 2) := by decide +kernel
theorem dX5_mended_75 : decode cX5_mended 75 = .ok (.iconst 0, 1) := by decide +kernel
theorem dX5_mended_76 : decode cX5_mended 76 = .ok (.istore 8, 2) := by decide +kernel
theorem dX5_mended_78 : decode cX5_mended 78 = .ok (.iload 8, 2) := by decide +kernel
theorem dX5_mended_80 : decode cX5_mended 80 = .ok (.bipush 8, 2) := by decide +kernel
theorem dX5_mended_82 : decode cX5_mended 82 = .ok (.if_icmp .ge 115, 3) := by decide +kernel
theorem dX5_mended_85 : decode cX5_mended 85 = .ok (.aload_n 0, 1) := by decide +kernel
theorem dX5_mended_86 : decode cX5_mended 86 = .ok (.iload 8, 2) := by decide +kernel
theorem dX5_mended_88 : decode cX5_mended 88 = .ok (.invokevirtual 140, 3) := by decide +kernel
theorem dX5_mended_91 : decode cX5_mended 91 = .ok (.ifCond .eq 100, 3) := by decide +kernel
theorem dX5_mended_94 : decode cX5_mended 94 = .ok (.iload 5, 2) := by decide +kernel
theorem dX5_mended_96 : decode cX5_mended 96 = .ok (.iload 8, 2) := by decide +kernel
theorem dX5_mended_98 : decode cX5_mended 98 = .ok (.ishr, 1) := by decide +kernel
theorem dX5_mended_99 : decode cX5_mended 99 = .ok (.iconst 1, 1) := by decide +kernel
theorem dX5_mended_100 : decode cX5_mended 100 = .ok (.iand, 1) := by decide +kernel
theorem dX5_mended_101 : decode cX5_mended 101 = .ok (.ifCond .ne 90, 3) := by decide +kernel
theorem dX5_mended_104 : decode cX5_mended 104 = .ok (.aload_n 0, 1) := by decide +kernel
theorem dX5_mended_105 : decode cX5_mended 105 = .ok (.iload_n 2, 1) := by decide +kernel
theorem dX5_mended_106 : decode cX5_mended 106 = .ok (.iload 5, 2) := by decide +kernel
theorem dX5_mended_108 : decode cX5_mended 108 = .ok (.iconst 1, 1) := by decide +kernel
theorem dX5_mended_109 : decode cX5_mended 109 = .ok (.iload 8, 2) := by decide +kernel
theorem dX5_mended_111 : decode cX5_mended 111 = .ok (.ishl, 1) := by decide +kernel
theorem dX5_mended_112 : decode cX5_mended 112 = .ok (.ior, 1) := by decide +kernel
theorem dX5_mended_113 : decode cX5_mended 113 = .ok (.invokevirtual 260, 3) := by decide +kernel
theorem dX5_mended_116 : decode cX5_mended 116 = .ok (.aload_n 0, 1) := by decide +kernel
theorem dX5_mended_117 : decode cX5_mended 117 = .ok (.getfield 70, 3) := by decide +kernel
theorem dX5_mended_120 : decode cX5_mended 120 = .ok (.aload_n 0, 1) := by decide +kernel
theorem dX5_mended_121 : decode cX5_mended 121 = .ok (.getfield 22, 3) := by decide +kernel
theorem dX5_mended_124 : decode cX5_mended 124 = .ok (.iload_n 1, 1) := by decide +kernel
theorem dX5_mended_125 : decode cX5_mended 125 = .ok (.iaload, 1) := by decide +kernel
theorem dX5_mended_126 : decode cX5_mended 126 = .ok (.iaload, 1) := by decide +kernel
theorem dX5_mended_127 : decode cX5_mended 127 = .ok (.sipush 1000, 3) := by decide +kernel
theorem dX5_mended_130 : decode cX5_mended 130 = .ok (.if_icmp .ge 22, 3) := by decide +kernel
theorem dX5_mended_133 : decode cX5_mended 133 = .ok (.iload 4, 2) := by decide +kernel
theorem dX5_mended_135 : decode cX5_mended 135 = .ok (.aload_n 0, 1) := by decide +kernel
theorem dX5_mended_136 : decode cX5_mended 136 = .ok (.getfield 16, 3) := by decide +kernel
theorem dX5_mended_139 : decode cX5_mended 139 = .ok (.iload 8, 2) := by decide +kernel
theorem dX5_mended_141 : decode cX5_mended 141 = .ok (.iaload, 1) := by decide +kernel
theorem dX5_mended_142 : decode cX5_mended 142 = .ok (.isub, 1) := by decide +kernel
theorem dX5_mended_143 : decode cX5_mended 143 = .ok (.iload 7, 2) := by decide +kernel
theorem dX5_mended_145 : decode cX5_mended 145 = .ok (.if_icmp .ge 7, 3) := by decide +kernel
theorem dX5_mended_148 : decode cX5_mended 148 = .ok (.iconst 1, 1) := by decide +kernel
theorem dX5_mended_149 : decode cX5_mended 149 = .ok (.goto 4, 3) := by decide +kernel
theorem dX5_mended_152 : decode cX5_mended 152 = .ok (.iconst 0, 1) := by decide +kernel
theorem dX5_mended_153 : decode cX5_mended 153 = .ok (.istore 9, 2) := by decide +kernel
theorem dX5_mended_155 : decode cX5_mended 155 = .ok (.iload 9, 2) := by decide +kernel
theorem dX5_mended_157 : decode cX5_mended 157 = .ok (.ifCond .eq 8, 3) := by decide +kernel
theorem dX5_mended_160 : decode cX5_mended 160 = .ok (.iload 8, 2) := by decide +kernel
theorem dX5_mended_162 : decode cX5_mended 162 = .ok (.goto 5, 3) := by decide +kernel
theorem dX5_mended_165 : decode cX5_mended 165 = .ok (.iload 6, 2) := by decide +kernel
theorem dX5_mended_167 : decode cX5_mended 167 = .ok (.istore 6, 2) := by decide +kernel
theorem dX5_mended_169 : decode cX5_mended 169 = .ok (.iload 9, 2) := by decide +kernel
theorem dX5_mended_171 : decode cX5_mended 171 = .ok (.ifCond .eq 16, 3) := by decide +kernel
theorem dX5_mended_174 : decode cX5_mended 174 = .ok (.iload 4, 2) := by decide +kernel
theorem dX5_mended_176 : decode cX5_mended 176 = .ok (.aload_n 0, 1) := by decide +kernel
theorem dX5_mended_177 : decode cX5_mended 177 = .ok (.getfield 16, 3) := by decide +kernel
theorem dX5_mended_180 : decode cX5_mended 180 = .ok (.iload 8, 2) := by decide +kernel
theorem dX5_mended_182 : decode cX5_mended 182 = .ok (.iaload, 1) := by decide +kernel
theorem dX5_mended_183 : decode cX5_mended 183 = .ok (.isub, 1) := by decide +kernel
theorem dX5_mended_184 : decode cX5_mended 184 = .ok (.goto 5, 3) := by decide +kernel
theorem dX5_mended_187 : decode cX5_mended 187 = .ok (.iload 7, 2) := by decide +kernel
theorem dX5_mended_189 : decode cX5_mended 189 = .ok (.istore 7, 2) := by decide +kernel
theorem dX5_mended_191 : decode cX5_mended 191 = .ok (.iinc 8 1, 3) := by decide +kernel
theorem dX5_mended_194 : decode cX5_mended 194 = .ok (.goto (-116), 3) := by decide +kernel
theorem dX5_mended_197 : decode cX5_mended 197 = .ok (.iload 6, 2) := by decide +kernel
theorem dX5_mended_199 : decode cX5_mended 199 = .ok (.ifCond .lt 7, 3) := by decide +kernel
theorem dX5_mended_202 : decode cX5_mended 202 = .ok (.iload_n 3, 1) := by decide +kernel
theorem dX5_mended_203 : decode cX5_mended 203 = .ok (.ifCond .ne 8, 3) := by decide +kernel
theorem dX5_mended_206 : decode cX5_mended 206 = .ok (.iload 6, 2) := by decide +kernel
theorem dX5_mended_208 : decode cX5_mended 208 = .ok (.goto 5, 3) := by decide +kernel
theorem dX5_mended_211 : decode cX5_mended 211 = .ok (.iload 7, 2) := by decide +kernel
theorem dX5_mended_213 : decode cX5_mended 213 = .ok (.ireturn, 1) := by decide +kernel
theorem dX5_reachedBy_0 : decode cX5_reachedBy 0 = .ok (.iconst 0, 1) := by decide +kernel
theorem dX5_reachedBy_1 : decode cX5_reachedBy 1 = .ok (.istore_n 2, 1) := by decide +kernel
theorem dX5_reachedBy_2 : decode cX5_reachedBy 2 = .ok (.iconst 0, 1) := by decide +kernel
theorem dX5_reachedBy_3 : decode cX5_reachedBy 3 = .ok (.istore_n 3, 1) := by decide +kernel
theorem dX5_reachedBy_4 : decode cX5_reachedBy 4 = .ok (.iload_n 3, 1) := by decide +kernel
theorem dX5_reachedBy_5 : decode cX5_reachedBy 5 = .ok (.bipush 6, 2) := by decide +kernel
theorem dX5_reachedBy_7 : decode cX5_reachedBy 7 = .ok (.if_icmp .ge 103, 3) := by decide +kernel
theorem dX5_reachedBy_10 : decode cX5_reachedBy 10 = .ok (.aload_n 0, 1) := by decide +kernel
theorem dX5_reachedBy_11 : decode cX5_reachedBy 11 = .ok (.iload_n 3, 1) := by decide +kernel
theorem dX5_reachedBy_12 : decode cX5_reachedBy 12 = .ok (.invokevirtual 143, 3) := by decide +kernel
theorem dX5_reachedBy_15 : decode cX5_reachedBy 15 = .ok (.ifCond .eq 89, 3) := by decide +kernel
theorem dX5_reachedBy_18 : decode cX5_reachedBy 18 = .ok (.aload_n 0, 1) := by decide +kernel
theorem dX5_reachedBy_19 : decode cX5_reachedBy 19 = .ok (.getfield 28, 3) := by decide +kernel
theorem dX5_reachedBy_22 : decode cX5_reachedBy 22 = .ok (.iload_n 3, 1) := by decide +kernel
theorem dX5_reachedBy_23 : decode cX5_reachedBy 23 = .ok (.iaload, 1) := by decide +kernel
theorem dX5_reachedBy_24 : decode cX5_reachedBy 24 = .ok (.iload_n 1, 1) := by decide +kernel
theorem dX5_reachedBy_25 : decode cX5_reachedBy 25 = .ok (.ishr, 1) := by decide +kernel
theorem dX5_reachedBy_26 : decode cX5_reachedBy 26 = .ok (.iconst 1, 1) := by decide +kernel
theorem dX5_reachedBy_27 : decode cX5_reachedBy 27 = .ok (.iand, 1) := by decide +kernel
theorem dX5_reachedBy_28 : decode cX5_reachedBy 28 = .ok (.iconst 1, 1) := by decide +kernel
theorem dX5_reachedBy_29 : decode cX5_reachedBy 29 = .ok (.if_icmp .ne 75, 3) := by decide +kernel
theorem dX5_reachedBy_32 : decode cX5_reachedBy 32 = .ok (.aload_n 0, 1) := by decide +kernel
theorem dX5_reachedBy_33 : decode cX5_reachedBy 33 = .ok (.iload_n 3, 1) := by decide +kernel
theorem dX5_reachedBy_34 : decode cX5_reachedBy 34 = .ok (.invokevirtual 206, 3) := by decide +kernel
theorem dX5_reachedBy_37 : decode cX5_reachedBy 37 = .ok (.istore 4, 2) := by decide +kernel
theorem dX5_reachedBy_39 : decode cX5_reachedBy 39 = .ok (.iconst 0, 1) := by decide +kernel
theorem dX5_reachedBy_40 : decode cX5_reachedBy 40 = .ok (.istore 5, 2) := by decide +kernel
theorem dX5_reachedBy_42 : decode cX5_reachedBy 42 = .ok (.iload 5, 2) := by decide +kernel
theorem dX5_reachedBy_44 : decode cX5_reachedBy 44 = .ok (.bipush 6, 2) := by decide +kernel
theorem dX5_reachedBy_46 : decode cX5_reachedBy 46 = .ok (.if_icmp .ge 58, 3) := by decide +kernel
theorem dX5_reachedBy_49 : decode cX5_reachedBy 49 = .ok (.aload_n 0, 1) := by decide +kernel
theorem dX5_reachedBy_50 : decode cX5_reachedBy 50 = .ok (.iload 5, 2) := by decide +kernel
theorem dX5_reachedBy_52 : decode cX5_reachedBy 52 = .ok (.invokevirtual 143, 3) := by decide +kernel
theorem dX5_reachedBy_55 : decode cX5_reachedBy 55 = .ok (.ifCond .eq 24, 3) := by decide +kernel
theorem dX5_reachedBy_58 : decode cX5_reachedBy 58 = .ok (.aload_n 0, 1) := by decide +kernel
theorem dX5_reachedBy_59 : decode cX5_reachedBy 59 = .ok (.iload_n 3, 1) := by decide +kernel
theorem dX5_reachedBy_60 : decode cX5_reachedBy 60 = .ok (.aload_n 0, 1) := by decide +kernel
theorem dX5_reachedBy_61 : decode cX5_reachedBy 61 = .ok (.getfield 22, 3) := by decide +kernel
theorem dX5_reachedBy_64 : decode cX5_reachedBy 64 = .ok (.iload 5, 2) := by decide +kernel
theorem dX5_reachedBy_66 : decode cX5_reachedBy 66 = .ok (.iaload, 1) := by decide +kernel
theorem dX5_reachedBy_67 : decode cX5_reachedBy 67 = .ok (.iload 4, 2) := by decide +kernel
theorem dX5_reachedBy_69 : decode cX5_reachedBy 69 = .ok (.invokevirtual 281, 3) := by decide +kernel
theorem dX5_reachedBy_72 : decode cX5_reachedBy 72 = .ok (.ifCond .eq 7, 3) := by decide +kernel
theorem dX5_reachedBy_75 : decode cX5_reachedBy 75 = .ok (.iconst 1, 1) := by decide +kernel
theorem dX5_reachedBy_76 : decode cX5_reachedBy 76 = .ok (.goto 4, 3) := by decide +kernel
theorem dX5_reachedBy_79 : decode cX5_reachedBy 79 = .ok (.iconst 0, 1) := by decide +kernel
theorem dX5_reachedBy_80 : decode cX5_reachedBy 80 = .ok (.istore 6, 2) := by decide +kernel
theorem dX5_reachedBy_82 : decode cX5_reachedBy 82 = .ok (.iload_n 2, 1) := by decide +kernel
theorem dX5_reachedBy_83 : decode cX5_reachedBy 83 = .ok (.iload 6, 2) := by decide +kernel
theorem dX5_reachedBy_85 : decode cX5_reachedBy 85 = .ok (.ifCond .eq 10, 3) := by decide +kernel
theorem dX5_reachedBy_88 : decode cX5_reachedBy 88 = .ok (.iconst 1, 1) := by decide +kernel
theorem dX5_reachedBy_89 : decode cX5_reachedBy 89 = .ok (.iload 5, 2) := by decide +kernel
theorem dX5_reachedBy_91 : decode cX5_reachedBy 91 = .ok (.ishl, 1) := by decide +kernel
theorem dX5_reachedBy_92 : decode cX5_reachedBy 92 = .ok (.goto 4, 3) := by decide +kernel
theorem dX5_reachedBy_95 : decode cX5_reachedBy 95 = .ok (.iconst 0, 1) := by decide +kernel
theorem dX5_reachedBy_96 : decode cX5_reachedBy 96 = .ok (.ior, 1) := by decide +kernel
theorem dX5_reachedBy_97 : decode cX5_reachedBy 97 = .ok (.istore_n 2, 1) := by decide +kernel
theorem dX5_reachedBy_98 : decode cX5_reachedBy 98 = .ok (.iinc 5 1, 3) := by decide +kernel
theorem dX5_reachedBy_101 : decode cX5_reachedBy 101 = .ok (.goto (-59), 3) := by decide +kernel
theorem dX5_reachedBy_104 : decode cX5_reachedBy 104 = .ok (.iinc 3 1, 3) := by decide +kernel
theorem dX5_reachedBy_107 : decode cX5_reachedBy 107 = .ok (.goto (-103), 3) := by decide +kernel
theorem dX5_reachedBy_110 : decode cX5_reachedBy 110 = .ok (.iload_n 2, 1) := by decide +kernel
theorem dX5_reachedBy_111 : decode cX5_reachedBy 111 = .ok (.ireturn, 1) := by decide +kernel
theorem dX5_knowersOf_0 : decode cX5_knowersOf 0 = .ok (.iconst 0, 1) := by decide +kernel
theorem dX5_knowersOf_1 : decode cX5_knowersOf 1 = .ok (.istore_n 2, 1) := by decide +kernel
theorem dX5_knowersOf_2 : decode cX5_knowersOf 2 = .ok (.iconst 0, 1) := by decide +kernel
theorem dX5_knowersOf_3 : decode cX5_knowersOf 3 = .ok (.istore_n 3, 1) := by decide +kernel
theorem dX5_knowersOf_4 : decode cX5_knowersOf 4 = .ok (.iload_n 3, 1) := by decide +kernel
theorem dX5_knowersOf_5 : decode cX5_knowersOf 5 = .ok (.bipush 6, 2) := by decide +kernel
theorem dX5_knowersOf_7 : decode cX5_knowersOf 7 = .ok (.if_icmp .ge 41, 3) := by decide +kernel
theorem dX5_knowersOf_10 : decode cX5_knowersOf 10 = .ok (.iload_n 2, 1) := by decide +kernel
theorem dX5_knowersOf_11 : decode cX5_knowersOf 11 = .ok (.aload_n 0, 1) := by decide +kernel
theorem dX5_knowersOf_12 : decode cX5_knowersOf 12 = .ok (.iload_n 3, 1) := by decide +kernel
theorem dX5_knowersOf_13 : decode cX5_knowersOf 13 = .ok (.invokevirtual 143, 3) := by decide +kernel
theorem dX5_knowersOf_16 : decode cX5_knowersOf 16 = .ok (.ifCond .eq 23, 3) := by decide +kernel
theorem dX5_knowersOf_19 : decode cX5_knowersOf 19 = .ok (.aload_n 0, 1) := by decide +kernel
theorem dX5_knowersOf_20 : decode cX5_knowersOf 20 = .ok (.getfield 28, 3) := by decide +kernel
theorem dX5_knowersOf_23 : decode cX5_knowersOf 23 = .ok (.iload_n 3, 1) := by decide +kernel
theorem dX5_knowersOf_24 : decode cX5_knowersOf 24 = .ok (.iaload, 1) := by decide +kernel
theorem dX5_knowersOf_25 : decode cX5_knowersOf 25 = .ok (.iload_n 1, 1) := by decide +kernel
theorem dX5_knowersOf_26 : decode cX5_knowersOf 26 = .ok (.ishr, 1) := by decide +kernel
theorem dX5_knowersOf_27 : decode cX5_knowersOf 27 = .ok (.iconst 1, 1) := by decide +kernel
theorem dX5_knowersOf_28 : decode cX5_knowersOf 28 = .ok (.iand, 1) := by decide +kernel
theorem dX5_knowersOf_29 : decode cX5_knowersOf 29 = .ok (.iconst 1, 1) := by decide +kernel
theorem dX5_knowersOf_30 : decode cX5_knowersOf 30 = .ok (.if_icmp .ne 9, 3) := by decide +kernel
theorem dX5_knowersOf_33 : decode cX5_knowersOf 33 = .ok (.iconst 1, 1) := by decide +kernel
theorem dX5_knowersOf_34 : decode cX5_knowersOf 34 = .ok (.iload_n 3, 1) := by decide +kernel
theorem dX5_knowersOf_35 : decode cX5_knowersOf 35 = .ok (.ishl, 1) := by decide +kernel
theorem dX5_knowersOf_36 : decode cX5_knowersOf 36 = .ok (.goto 4, 3) := by decide +kernel
theorem dX5_knowersOf_39 : decode cX5_knowersOf 39 = .ok (.iconst 0, 1) := by decide +kernel
theorem dX5_knowersOf_40 : decode cX5_knowersOf 40 = .ok (.ior, 1) := by decide +kernel
theorem dX5_knowersOf_41 : decode cX5_knowersOf 41 = .ok (.istore_n 2, 1) := by decide +kernel
theorem dX5_knowersOf_42 : decode cX5_knowersOf 42 = .ok (.iinc 3 1, 3) := by decide +kernel
theorem dX5_knowersOf_45 : decode cX5_knowersOf 45 = .ok (.goto (-41), 3) := by decide +kernel
theorem dX5_knowersOf_48 : decode cX5_knowersOf 48 = .ok (.iload_n 2, 1) := by decide +kernel
theorem dX5_knowersOf_49 : decode cX5_knowersOf 49 = .ok (.ireturn, 1) := by decide +kernel
theorem dX5_rumour_0 : decode cX5_rumour 0 = .ok (.iload_n 1, 1) := by decide +kernel
theorem dX5_rumour_1 : decode cX5_rumour 1 = .ok (.invokestatic 146, 3) := by decide +kernel
theorem dX5_rumour_4 : decode cX5_rumour 4 = .ok (.ifCond .ne 5, 3) := by decide +kernel
theorem dX5_rumour_7 : decode cX5_rumour 7 = .ok (.iconst (-1), 1) := by decide +kernel
theorem dX5_rumour_8 : decode cX5_rumour 8 = .ok (.ireturn, 1) := by decide +kernel
theorem dX5_rumour_9 : decode cX5_rumour 9 = .ok (.aload_n 0, 1) := by decide +kernel
theorem dX5_rumour_10 : decode cX5_rumour 10 = .ok (.invokevirtual 248, 3) := by decide +kernel
theorem dX5_rumour_13 : decode cX5_rumour 13 = .ok (.iconst 1, 1) := by decide +kernel
theorem dX5_rumour_14 : decode cX5_rumour 14 = .ok (.istore_n 2, 1) := by decide +kernel
theorem dX5_rumour_15 : decode cX5_rumour 15 = .ok (.iload_n 2, 1) := by decide +kernel
theorem dX5_rumour_16 : decode cX5_rumour 16 = .ok (.ifCond .eq 77, 3) := by decide +kernel
theorem dX5_rumour_19 : decode cX5_rumour 19 = .ok (.aload_n 0, 1) := by decide +kernel
theorem dX5_rumour_20 : decode cX5_rumour 20 = .ok (.iload_n 1, 1) := by decide +kernel
theorem dX5_rumour_21 : decode cX5_rumour 21 = .ok (.invokevirtual 298, 3) := by decide +kernel
theorem dX5_rumour_24 : decode cX5_rumour 24 = .ok (.istore_n 3, 1) := by decide +kernel
theorem dX5_rumour_25 : decode cX5_rumour 25 = .ok (.iload_n 3, 1) := by decide +kernel
theorem dX5_rumour_26 : decode cX5_rumour 26 = .ok (.aload_n 0, 1) := by decide +kernel
theorem dX5_rumour_27 : decode cX5_rumour 27 = .ok (.iload_n 1, 1) := by decide +kernel
theorem dX5_rumour_28 : decode cX5_rumour 28 = .ok (.invokevirtual 301, 3) := by decide +kernel
theorem dX5_rumour_31 : decode cX5_rumour 31 = .ok (.ior, 1) := by decide +kernel
theorem dX5_rumour_32 : decode cX5_rumour 32 = .ok (.istore 4, 2) := by decide +kernel
theorem dX5_rumour_34 : decode cX5_rumour 34 = .ok (.iconst 0, 1) := by decide +kernel
theorem dX5_rumour_35 : decode cX5_rumour 35 = .ok (.istore 5, 2) := by decide +kernel
theorem dX5_rumour_37 : decode cX5_rumour 37 = .ok (.iload 5, 2) := by decide +kernel
theorem dX5_rumour_39 : decode cX5_rumour 39 = .ok (.bipush 6, 2) := by decide +kernel
theorem dX5_rumour_41 : decode cX5_rumour 41 = .ok (.if_icmp .ge 37, 3) := by decide +kernel
theorem dX5_rumour_44 : decode cX5_rumour 44 = .ok (.aload_n 0, 1) := by decide +kernel
theorem dX5_rumour_45 : decode cX5_rumour 45 = .ok (.getfield 28, 3) := by decide +kernel
theorem dX5_rumour_48 : decode cX5_rumour 48 = .ok (.iload 5, 2) := by decide +kernel
theorem dX5_rumour_50 : decode cX5_rumour 50 = .ok (.dup2, 1) := by decide +kernel
theorem dX5_rumour_51 : decode cX5_rumour 51 = .ok (.iaload, 1) := by decide +kernel
theorem dX5_rumour_52 : decode cX5_rumour 52 = .ok (.iload 4, 2) := by decide +kernel
theorem dX5_rumour_54 : decode cX5_rumour 54 = .ok (.iload 5, 2) := by decide +kernel
theorem dX5_rumour_56 : decode cX5_rumour 56 = .ok (.ishr, 1) := by decide +kernel
theorem dX5_rumour_57 : decode cX5_rumour 57 = .ok (.iconst 1, 1) := by decide +kernel
theorem dX5_rumour_58 : decode cX5_rumour 58 = .ok (.iand, 1) := by decide +kernel
theorem dX5_rumour_59 : decode cX5_rumour 59 = .ok (.iconst 1, 1) := by decide +kernel
theorem dX5_rumour_60 : decode cX5_rumour 60 = .ok (.if_icmp .ne 9, 3) := by decide +kernel
theorem dX5_rumour_63 : decode cX5_rumour 63 = .ok (.iconst 1, 1) := by decide +kernel
theorem dX5_rumour_64 : decode cX5_rumour 64 = .ok (.iload_n 1, 1) := by decide +kernel
theorem dX5_rumour_65 : decode cX5_rumour 65 = .ok (.ishl, 1) := by decide +kernel
theorem dX5_rumour_66 : decode cX5_rumour 66 = .ok (.goto 4, 3) := by decide +kernel
theorem dX5_rumour_69 : decode cX5_rumour 69 = .ok (.iconst 0, 1) := by decide +kernel
theorem dX5_rumour_70 : decode cX5_rumour 70 = .ok (.ior, 1) := by decide +kernel
theorem dX5_rumour_71 : decode cX5_rumour 71 = .ok (.iastore, 1) := by decide +kernel
theorem dX5_rumour_72 : decode cX5_rumour 72 = .ok (.iinc 5 1, 3) := by decide +kernel
theorem dX5_rumour_75 : decode cX5_rumour 75 = .ok (.goto (-38), 3) := by decide +kernel
theorem dX5_rumour_78 : decode cX5_rumour 78 = .ok (.iload 4, 2) := by decide +kernel
theorem dX5_rumour_80 : decode cX5_rumour 80 = .ok (.iload_n 3, 1) := by decide +kernel
theorem dX5_rumour_81 : decode cX5_rumour 81 = .ok (.if_icmp .eq 7, 3) := by decide +kernel
theorem dX5_rumour_84 : decode cX5_rumour 84 = .ok (.iconst 1, 1) := by decide +kernel
theorem dX5_rumour_85 : decode cX5_rumour 85 = .ok (.goto 4, 3) := by decide +kernel
theorem dX5_rumour_88 : decode cX5_rumour 88 = .ok (.iconst 0, 1) := by decide +kernel
theorem dX5_rumour_89 : decode cX5_rumour 89 = .ok (.istore_n 2, 1) := by decide +kernel
theorem dX5_rumour_90 : decode cX5_rumour 90 = .ok (.goto (-75), 3) := by decide +kernel
theorem dX5_rumour_93 : decode cX5_rumour 93 = .ok (.aload_n 0, 1) := by decide +kernel
theorem dX5_rumour_94 : decode cX5_rumour 94 = .ok (.iload_n 1, 1) := by decide +kernel
theorem dX5_rumour_95 : decode cX5_rumour 95 = .ok (.invokevirtual 298, 3) := by decide +kernel
theorem dX5_rumour_98 : decode cX5_rumour 98 = .ok (.istore_n 3, 1) := by decide +kernel
theorem dX5_rumour_99 : decode cX5_rumour 99 = .ok (.aload_n 0, 1) := by decide +kernel
theorem dX5_rumour_100 : decode cX5_rumour 100 = .ok (.invokevirtual 254, 3) := by decide +kernel
theorem dX5_rumour_103 : decode cX5_rumour 103 = .ok (.iload_n 3, 1) := by decide +kernel
theorem dX5_rumour_104 : decode cX5_rumour 104 = .ok (.ireturn, 1) := by decide +kernel
theorem dX5_tens_0 : decode cX5_tens 0 = .ok (.iconst 1, 1) := by decide +kernel
theorem dX5_tens_1 : decode cX5_tens 1 = .ok (.istore_n 1, 1) := by decide +kernel
theorem dX5_tens_2 : decode cX5_tens 2 = .ok (.iconst 0, 1) := by decide +kernel
theorem dX5_tens_3 : decode cX5_tens 3 = .ok (.istore_n 2, 1) := by decide +kernel
theorem dX5_tens_4 : decode cX5_tens 4 = .ok (.iload_n 2, 1) := by decide +kernel
theorem dX5_tens_5 : decode cX5_tens 5 = .ok (.iload_n 0, 1) := by decide +kernel
theorem dX5_tens_6 : decode cX5_tens 6 = .ok (.if_icmp .ge 14, 3) := by decide +kernel
theorem dX5_tens_9 : decode cX5_tens 9 = .ok (.iload_n 1, 1) := by decide +kernel
theorem dX5_tens_10 : decode cX5_tens 10 = .ok (.bipush 10, 2) := by decide +kernel
theorem dX5_tens_12 : decode cX5_tens 12 = .ok (.imul, 1) := by decide +kernel
theorem dX5_tens_13 : decode cX5_tens 13 = .ok (.istore_n 1, 1) := by decide +kernel
theorem dX5_tens_14 : decode cX5_tens 14 = .ok (.iinc 2 1, 3) := by decide +kernel
theorem dX5_tens_17 : decode cX5_tens 17 = .ok (.goto (-13), 3) := by decide +kernel
theorem dX5_tens_20 : decode cX5_tens 20 = .ok (.iload_n 1, 1) := by decide +kernel
theorem dX5_tens_21 : decode cX5_tens 21 = .ok (.ireturn, 1) := by decide +kernel
theorem dX5_layErrands_0 : decode cX5_layErrands 0 = .ok (.aload_n 0, 1) := by decide +kernel
theorem dX5_layErrands_1 : decode cX5_layErrands 1 = .ok (.iload_n 1, 1) := by decide +kernel
theorem dX5_layErrands_2 : decode cX5_layErrands 2 = .ok (.invokestatic 136, 3) := by decide +kernel
theorem dX5_layErrands_5 : decode cX5_layErrands 5 = .ok (.putfield 304, 3) := by decide +kernel
theorem dX5_layErrands_8 : decode cX5_layErrands 8 = .ok (.iload_n 2, 1) := by decide +kernel
theorem dX5_layErrands_9 : decode cX5_layErrands 9 = .ok (.i2l, 1) := by decide +kernel
theorem dX5_layErrands_10 : decode cX5_layErrands 10 = .ok (.lconst 0, 1) := by decide +kernel
theorem dX5_layErrands_11 : decode cX5_layErrands 11 = .ok (.aload_n 0, 1) := by decide +kernel
theorem dX5_layErrands_12 : decode cX5_layErrands 12 = .ok (.getfield 304, 3) := by decide +kernel
theorem dX5_layErrands_15 : decode cX5_layErrands 15 = .ok (.invokestatic 307, 3) := by decide +kernel
theorem dX5_layErrands_18 : decode cX5_layErrands 18 = .ok (.iconst 1, 1) := by decide +kernel
theorem dX5_layErrands_19 : decode cX5_layErrands 19 = .ok (.isub, 1) := by decide +kernel
theorem dX5_layErrands_20 : decode cX5_layErrands 20 = .ok (.i2l, 1) := by decide +kernel
theorem dX5_layErrands_21 : decode cX5_layErrands 21 = .ok (.invokestatic 118, 3) := by decide +kernel
theorem dX5_layErrands_24 : decode cX5_layErrands 24 = .ok (.ifCond .ne 5, 3) := by decide +kernel
theorem dX5_layErrands_27 : decode cX5_layErrands 27 = .ok (.iconst 0, 1) := by decide +kernel
theorem dX5_layErrands_28 : decode cX5_layErrands 28 = .ok (.ireturn, 1) := by decide +kernel
theorem dX5_layErrands_29 : decode cX5_layErrands 29 = .ok (.iload_n 2, 1) := by decide +kernel
theorem dX5_layErrands_30 : decode cX5_layErrands 30 = .ok (.istore_n 3, 1) := by decide +kernel
theorem dX5_layErrands_31 : decode cX5_layErrands 31 = .ok (.aload_n 0, 1) := by decide +kernel
theorem dX5_layErrands_32 : decode cX5_layErrands 32 = .ok (.getfield 304, 3) := by decide +kernel
theorem dX5_layErrands_35 : decode cX5_layErrands 35 = .ok (.iconst 1, 1) := by decide +kernel
theorem dX5_layErrands_36 : decode cX5_layErrands 36 = .ok (.isub, 1) := by decide +kernel
theorem dX5_layErrands_37 : decode cX5_layErrands 37 = .ok (.istore 4, 2) := by decide +kernel
theorem dX5_layErrands_39 : decode cX5_layErrands 39 = .ok (.iconst 1, 1) := by decide +kernel
theorem dX5_layErrands_40 : decode cX5_layErrands 40 = .ok (.istore 5, 2) := by decide +kernel
theorem dX5_layErrands_42 : decode cX5_layErrands 42 = .ok (.iconst 5, 1) := by decide +kernel
theorem dX5_layErrands_43 : decode cX5_layErrands 43 = .ok (.istore 6, 2) := by decide +kernel
theorem dX5_layErrands_45 : decode cX5_layErrands 45 = .ok (.iload 6, 2) := by decide +kernel
theorem dX5_layErrands_47 : decode cX5_layErrands 47 = .ok (.ifCond .lt 70, 3) := by decide +kernel
theorem dX5_layErrands_50 : decode cX5_layErrands 50 = .ok (.iload_n 1, 1) := by decide +kernel
theorem dX5_layErrands_51 : decode cX5_layErrands 51 = .ok (.iload 6, 2) := by decide +kernel
theorem dX5_layErrands_53 : decode cX5_layErrands 53 = .ok (.ishr, 1) := by decide +kernel
theorem dX5_layErrands_54 : decode cX5_layErrands 54 = .ok (.iconst 1, 1) := by decide +kernel
theorem dX5_layErrands_55 : decode cX5_layErrands 55 = .ok (.iand, 1) := by decide +kernel
theorem dX5_layErrands_56 : decode cX5_layErrands 56 = .ok (.iconst 1, 1) := by decide +kernel
theorem dX5_layErrands_57 : decode cX5_layErrands 57 = .ok (.if_icmp .ne 54, 3) := by decide +kernel
theorem dX5_layErrands_60 : decode cX5_layErrands 60 = .ok (.aload_n 0, 1) := by decide +kernel
theorem dX5_layErrands_61 : decode cX5_layErrands 61 = .ok (.getfield 73, 3) := by decide +kernel
theorem dX5_layErrands_64 : decode cX5_layErrands 64 = .ok (.iload 4, 2) := by decide +kernel
theorem dX5_layErrands_66 : decode cX5_layErrands 66 = .ok (.iload 6, 2) := by decide +kernel
theorem dX5_layErrands_68 : decode cX5_layErrands 68 = .ok (.iastore, 1) := by decide +kernel
theorem dX5_layErrands_69 : decode cX5_layErrands 69 = .ok (.aload_n 0, 1) := by decide +kernel
theorem dX5_layErrands_70 : decode cX5_layErrands 70 = .ok (.getfield 76, 3) := by decide +kernel
theorem dX5_layErrands_73 : decode cX5_layErrands 73 = .ok (.iload 4, 2) := by decide +kernel
theorem dX5_layErrands_75 : decode cX5_layErrands 75 = .ok (.iload_n 3, 1) := by decide +kernel
theorem dX5_layErrands_76 : decode cX5_layErrands 76 = .ok (.bipush 10, 2) := by decide +kernel
theorem dX5_layErrands_78 : decode cX5_layErrands 78 = .ok (.irem, 1) := by decide +kernel
theorem dX5_layErrands_79 : decode cX5_layErrands 79 = .ok (.iastore, 1) := by decide +kernel
theorem dX5_layErrands_80 : decode cX5_layErrands 80 = .ok (.iload 5, 2) := by decide +kernel
theorem dX5_layErrands_82 : decode cX5_layErrands 82 = .ok (.ifCond .eq 18, 3) := by decide +kernel
theorem dX5_layErrands_85 : decode cX5_layErrands 85 = .ok (.aload_n 0, 1) := by decide +kernel
theorem dX5_layErrands_86 : decode cX5_layErrands 86 = .ok (.iload_n 3, 1) := by decide +kernel
theorem dX5_layErrands_87 : decode cX5_layErrands 87 = .ok (.bipush 10, 2) := by decide +kernel
theorem dX5_layErrands_89 : decode cX5_layErrands 89 = .ok (.irem, 1) := by decide +kernel
theorem dX5_layErrands_90 : decode cX5_layErrands 90 = .ok (.invokevirtual 130, 3) := by decide +kernel
theorem dX5_layErrands_93 : decode cX5_layErrands 93 = .ok (.ifCond .eq 7, 3) := by decide +kernel
theorem dX5_layErrands_96 : decode cX5_layErrands 96 = .ok (.iconst 1, 1) := by decide +kernel
theorem dX5_layErrands_97 : decode cX5_layErrands 97 = .ok (.goto 4, 3) := by decide +kernel
theorem dX5_layErrands_100 : decode cX5_layErrands 100 = .ok (.iconst 0, 1) := by decide +kernel
theorem dX5_layErrands_101 : decode cX5_layErrands 101 = .ok (.istore 5, 2) := by decide +kernel
theorem dX5_layErrands_103 : decode cX5_layErrands 103 = .ok (.iload_n 3, 1) := by decide +kernel
theorem dX5_layErrands_104 : decode cX5_layErrands 104 = .ok (.bipush 10, 2) := by decide +kernel
theorem dX5_layErrands_106 : decode cX5_layErrands 106 = .ok (.idiv, 1) := by decide +kernel
theorem dX5_layErrands_107 : decode cX5_layErrands 107 = .ok (.istore_n 3, 1) := by decide +kernel
theorem dX5_layErrands_108 : decode cX5_layErrands 108 = .ok (.iinc 4 (-1), 3) := by decide +kernel
theorem dX5_layErrands_111 : decode cX5_layErrands 111 = .ok (.iinc 6 (-1), 3) := by decide +kernel
theorem dX5_layErrands_114 : decode cX5_layErrands 114 = .ok (.goto (-69), 3) := by decide +kernel
theorem dX5_layErrands_117 : decode cX5_layErrands 117 = .ok (.iload 5, 2) := by decide +kernel
theorem dX5_layErrands_119 : decode cX5_layErrands 119 = .ok (.ireturn, 1) := by decide +kernel
theorem dX5_goesErrand_0 : decode cX5_goesErrand 0 = .ok (.aload_n 0, 1) := by decide +kernel
theorem dX5_goesErrand_1 : decode cX5_goesErrand 1 = .ok (.iload_n 1, 1) := by decide +kernel
theorem dX5_goesErrand_2 : decode cX5_goesErrand 2 = .ok (.iload_n 2, 1) := by decide +kernel
theorem dX5_goesErrand_3 : decode cX5_goesErrand 3 = .ok (.aload_n 0, 1) := by decide +kernel
theorem dX5_goesErrand_4 : decode cX5_goesErrand 4 = .ok (.iload_n 1, 1) := by decide +kernel
theorem dX5_goesErrand_5 : decode cX5_goesErrand 5 = .ok (.invokevirtual 206, 3) := by decide +kernel
theorem dX5_goesErrand_8 : decode cX5_goesErrand 8 = .ok (.invokevirtual 281, 3) := by decide +kernel
theorem dX5_goesErrand_11 : decode cX5_goesErrand 11 = .ok (.ifCond .ne 5, 3) := by decide +kernel
theorem dX5_goesErrand_14 : decode cX5_goesErrand 14 = .ok (.iconst 0, 1) := by decide +kernel
theorem dX5_goesErrand_15 : decode cX5_goesErrand 15 = .ok (.ireturn, 1) := by decide +kernel
theorem dX5_goesErrand_16 : decode cX5_goesErrand 16 = .ok (.aload_n 0, 1) := by decide +kernel
theorem dX5_goesErrand_17 : decode cX5_goesErrand 17 = .ok (.getfield 22, 3) := by decide +kernel
theorem dX5_goesErrand_20 : decode cX5_goesErrand 20 = .ok (.iload_n 1, 1) := by decide +kernel
theorem dX5_goesErrand_21 : decode cX5_goesErrand 21 = .ok (.iload_n 2, 1) := by decide +kernel
theorem dX5_goesErrand_22 : decode cX5_goesErrand 22 = .ok (.iastore, 1) := by decide +kernel
theorem dX5_goesErrand_23 : decode cX5_goesErrand 23 = .ok (.iconst 0, 1) := by decide +kernel
theorem dX5_goesErrand_24 : decode cX5_goesErrand 24 = .ok (.istore_n 3, 1) := by decide +kernel
theorem dX5_goesErrand_25 : decode cX5_goesErrand 25 = .ok (.iload_n 3, 1) := by decide +kernel
theorem dX5_goesErrand_26 : decode cX5_goesErrand 26 = .ok (.bipush 6, 2) := by decide +kernel
theorem dX5_goesErrand_28 : decode cX5_goesErrand 28 = .ok (.if_icmp .ge 46, 3) := by decide +kernel
theorem dX5_goesErrand_31 : decode cX5_goesErrand 31 = .ok (.aload_n 0, 1) := by decide +kernel
theorem dX5_goesErrand_32 : decode cX5_goesErrand 32 = .ok (.getfield 28, 3) := by decide +kernel
theorem dX5_goesErrand_35 : decode cX5_goesErrand 35 = .ok (.iload_n 3, 1) := by decide +kernel
theorem dX5_goesErrand_36 : decode cX5_goesErrand 36 = .ok (.dup2, 1) := by decide +kernel
theorem dX5_goesErrand_37 : decode cX5_goesErrand 37 = .ok (.iaload, 1) := by decide +kernel
theorem dX5_goesErrand_38 : decode cX5_goesErrand 38 = .ok (.aload_n 0, 1) := by decide +kernel
theorem dX5_goesErrand_39 : decode cX5_goesErrand 39 = .ok (.iload_n 3, 1) := by decide +kernel
theorem dX5_goesErrand_40 : decode cX5_goesErrand 40 = .ok (.invokevirtual 143, 3) := by decide +kernel
theorem dX5_goesErrand_43 : decode cX5_goesErrand 43 = .ok (.ifCond .eq 22, 3) := by decide +kernel
theorem dX5_goesErrand_46 : decode cX5_goesErrand 46 = .ok (.aload_n 0, 1) := by decide +kernel
theorem dX5_goesErrand_47 : decode cX5_goesErrand 47 = .ok (.getfield 22, 3) := by decide +kernel
theorem dX5_goesErrand_50 : decode cX5_goesErrand 50 = .ok (.iload_n 3, 1) := by decide +kernel
theorem dX5_goesErrand_51 : decode cX5_goesErrand 51 = .ok (.iaload, 1) := by decide +kernel
theorem dX5_goesErrand_52 : decode cX5_goesErrand 52 = .ok (.iload_n 2, 1) := by decide +kernel
theorem dX5_goesErrand_53 : decode cX5_goesErrand 53 = .ok (.if_icmp .ne 12, 3) := by decide +kernel
theorem dX5_goesErrand_56 : decode cX5_goesErrand 56 = .ok (.aload_n 0, 1) := by decide +kernel
theorem dX5_goesErrand_57 : decode cX5_goesErrand 57 = .ok (.getfield 28, 3) := by decide +kernel
theorem dX5_goesErrand_60 : decode cX5_goesErrand 60 = .ok (.iload_n 1, 1) := by decide +kernel
theorem dX5_goesErrand_61 : decode cX5_goesErrand 61 = .ok (.iaload, 1) := by decide +kernel
theorem dX5_goesErrand_62 : decode cX5_goesErrand 62 = .ok (.goto 4, 3) := by decide +kernel
theorem dX5_goesErrand_65 : decode cX5_goesErrand 65 = .ok (.iconst 0, 1) := by decide +kernel
theorem dX5_goesErrand_66 : decode cX5_goesErrand 66 = .ok (.ior, 1) := by decide +kernel
theorem dX5_goesErrand_67 : decode cX5_goesErrand 67 = .ok (.iastore, 1) := by decide +kernel
theorem dX5_goesErrand_68 : decode cX5_goesErrand 68 = .ok (.iinc 3 1, 3) := by decide +kernel
theorem dX5_goesErrand_71 : decode cX5_goesErrand 71 = .ok (.goto (-46), 3) := by decide +kernel
theorem dX5_goesErrand_74 : decode cX5_goesErrand 74 = .ok (.iconst 1, 1) := by decide +kernel
theorem dX5_goesErrand_75 : decode cX5_goesErrand 75 = .ok (.ireturn, 1) := by decide +kernel
theorem dX5_layRow_0 : decode cX5_layRow 0 = .ok (.iload_n 1, 1) := by decide +kernel
theorem dX5_layRow_1 : decode cX5_layRow 1 = .ok (.istore_n 2, 1) := by decide +kernel
theorem dX5_layRow_2 : decode cX5_layRow 2 = .ok (.iconst 0, 1) := by decide +kernel
theorem dX5_layRow_3 : decode cX5_layRow 3 = .ok (.istore_n 3, 1) := by decide +kernel
theorem dX5_layRow_4 : decode cX5_layRow 4 = .ok (.aload_n 0, 1) := by decide +kernel
theorem dX5_layRow_5 : decode cX5_layRow 5 = .ok (.getfield 304, 3) := by decide +kernel
theorem dX5_layRow_8 : decode cX5_layRow 8 = .ok (.iconst 1, 1) := by decide +kernel
theorem dX5_layRow_9 : decode cX5_layRow 9 = .ok (.isub, 1) := by decide +kernel
theorem dX5_layRow_10 : decode cX5_layRow 10 = .ok (.istore 4, 2) := by decide +kernel
theorem dX5_layRow_12 : decode cX5_layRow 12 = .ok (.iload 4, 2) := by decide +kernel
theorem dX5_layRow_14 : decode cX5_layRow 14 = .ok (.ifCond .lt 41, 3) := by decide +kernel
theorem dX5_layRow_17 : decode cX5_layRow 17 = .ok (.aload_n 0, 1) := by decide +kernel
theorem dX5_layRow_18 : decode cX5_layRow 18 = .ok (.getfield 79, 3) := by decide +kernel
theorem dX5_layRow_21 : decode cX5_layRow 21 = .ok (.iload 4, 2) := by decide +kernel
theorem dX5_layRow_23 : decode cX5_layRow 23 = .ok (.iload_n 2, 1) := by decide +kernel
theorem dX5_layRow_24 : decode cX5_layRow 24 = .ok (.aload_n 0, 1) := by decide +kernel
theorem dX5_layRow_25 : decode cX5_layRow 25 = .ok (.getfield 304, 3) := by decide +kernel
theorem dX5_layRow_28 : decode cX5_layRow 28 = .ok (.irem, 1) := by decide +kernel
theorem dX5_layRow_29 : decode cX5_layRow 29 = .ok (.iastore, 1) := by decide +kernel
theorem dX5_layRow_30 : decode cX5_layRow 30 = .ok (.iload_n 3, 1) := by decide +kernel
theorem dX5_layRow_31 : decode cX5_layRow 31 = .ok (.iconst 1, 1) := by decide +kernel
theorem dX5_layRow_32 : decode cX5_layRow 32 = .ok (.aload_n 0, 1) := by decide +kernel
theorem dX5_layRow_33 : decode cX5_layRow 33 = .ok (.getfield 79, 3) := by decide +kernel
theorem dX5_layRow_36 : decode cX5_layRow 36 = .ok (.iload 4, 2) := by decide +kernel
theorem dX5_layRow_38 : decode cX5_layRow 38 = .ok (.iaload, 1) := by decide +kernel
theorem dX5_layRow_39 : decode cX5_layRow 39 = .ok (.ishl, 1) := by decide +kernel
theorem dX5_layRow_40 : decode cX5_layRow 40 = .ok (.ior, 1) := by decide +kernel
theorem dX5_layRow_41 : decode cX5_layRow 41 = .ok (.istore_n 3, 1) := by decide +kernel
theorem dX5_layRow_42 : decode cX5_layRow 42 = .ok (.iload_n 2, 1) := by decide +kernel
theorem dX5_layRow_43 : decode cX5_layRow 43 = .ok (.aload_n 0, 1) := by decide +kernel
theorem dX5_layRow_44 : decode cX5_layRow 44 = .ok (.getfield 304, 3) := by decide +kernel
theorem dX5_layRow_47 : decode cX5_layRow 47 = .ok (.idiv, 1) := by decide +kernel
theorem dX5_layRow_48 : decode cX5_layRow 48 = .ok (.istore_n 2, 1) := by decide +kernel
theorem dX5_layRow_49 : decode cX5_layRow 49 = .ok (.iinc 4 (-1), 3) := by decide +kernel
theorem dX5_layRow_52 : decode cX5_layRow 52 = .ok (.goto (-40), 3) := by decide +kernel
theorem dX5_layRow_55 : decode cX5_layRow 55 = .ok (.iload_n 3, 1) := by decide +kernel
theorem dX5_layRow_56 : decode cX5_layRow 56 = .ok (.iconst 1, 1) := by decide +kernel
theorem dX5_layRow_57 : decode cX5_layRow 57 = .ok (.aload_n 0, 1) := by decide +kernel
theorem dX5_layRow_58 : decode cX5_layRow 58 = .ok (.getfield 304, 3) := by decide +kernel
theorem dX5_layRow_61 : decode cX5_layRow 61 = .ok (.ishl, 1) := by decide +kernel
theorem dX5_layRow_62 : decode cX5_layRow 62 = .ok (.iconst 1, 1) := by decide +kernel
theorem dX5_layRow_63 : decode cX5_layRow 63 = .ok (.isub, 1) := by decide +kernel
theorem dX5_layRow_64 : decode cX5_layRow 64 = .ok (.if_icmp .ne 7, 3) := by decide +kernel
theorem dX5_layRow_67 : decode cX5_layRow 67 = .ok (.iconst 1, 1) := by decide +kernel
theorem dX5_layRow_68 : decode cX5_layRow 68 = .ok (.goto 4, 3) := by decide +kernel
theorem dX5_layRow_71 : decode cX5_layRow 71 = .ok (.iconst 0, 1) := by decide +kernel
theorem dX5_layRow_72 : decode cX5_layRow 72 = .ok (.ireturn, 1) := by decide +kernel
theorem dX5_canAll_0 : decode cX5_canAll 0 = .ok (.aload_n 0, 1) := by decide +kernel
theorem dX5_canAll_1 : decode cX5_canAll 1 = .ok (.invokevirtual 248, 3) := by decide +kernel
theorem dX5_canAll_4 : decode cX5_canAll 4 = .ok (.iconst 1, 1) := by decide +kernel
theorem dX5_canAll_5 : decode cX5_canAll 5 = .ok (.istore_n 1, 1) := by decide +kernel
theorem dX5_canAll_6 : decode cX5_canAll 6 = .ok (.iconst 0, 1) := by decide +kernel
theorem dX5_canAll_7 : decode cX5_canAll 7 = .ok (.istore_n 2, 1) := by decide +kernel
theorem dX5_canAll_8 : decode cX5_canAll 8 = .ok (.iload_n 2, 1) := by decide +kernel
theorem dX5_canAll_9 : decode cX5_canAll 9 = .ok (.aload_n 0, 1) := by decide +kernel
theorem dX5_canAll_10 : decode cX5_canAll 10 = .ok (.getfield 304, 3) := by decide +kernel
theorem dX5_canAll_13 : decode cX5_canAll 13 = .ok (.if_icmp .ge 40, 3) := by decide +kernel
theorem dX5_canAll_16 : decode cX5_canAll 16 = .ok (.iload_n 1, 1) := by decide +kernel
theorem dX5_canAll_17 : decode cX5_canAll 17 = .ok (.ifCond .eq 36, 3) := by decide +kernel
theorem dX5_canAll_20 : decode cX5_canAll 20 = .ok (.aload_n 0, 1) := by decide +kernel
theorem dX5_canAll_21 : decode cX5_canAll 21 = .ok (.aload_n 0, 1) := by decide +kernel
theorem dX5_canAll_22 : decode cX5_canAll 22 = .ok (.getfield 73, 3) := by decide +kernel
theorem dX5_canAll_25 : decode cX5_canAll 25 = .ok (.aload_n 0, 1) := by decide +kernel
theorem dX5_canAll_26 : decode cX5_canAll 26 = .ok (.getfield 79, 3) := by decide +kernel
theorem dX5_canAll_29 : decode cX5_canAll 29 = .ok (.iload_n 2, 1) := by decide +kernel
theorem dX5_canAll_30 : decode cX5_canAll 30 = .ok (.iaload, 1) := by decide +kernel
theorem dX5_canAll_31 : decode cX5_canAll 31 = .ok (.iaload, 1) := by decide +kernel
theorem dX5_canAll_32 : decode cX5_canAll 32 = .ok (.aload_n 0, 1) := by decide +kernel
theorem dX5_canAll_33 : decode cX5_canAll 33 = .ok (.getfield 76, 3) := by decide +kernel
theorem dX5_canAll_36 : decode cX5_canAll 36 = .ok (.aload_n 0, 1) := by decide +kernel
theorem dX5_canAll_37 : decode cX5_canAll 37 = .ok (.getfield 79, 3) := by decide +kernel
theorem dX5_canAll_40 : decode cX5_canAll 40 = .ok (.iload_n 2, 1) := by decide +kernel
theorem dX5_canAll_41 : decode cX5_canAll 41 = .ok (.iaload, 1) := by decide +kernel
theorem dX5_canAll_42 : decode cX5_canAll 42 = .ok (.iaload, 1) := by decide +kernel
theorem dX5_canAll_43 : decode cX5_canAll 43 = .ok (.invokevirtual 310, 3) := by decide +kernel
theorem dX5_canAll_46 : decode cX5_canAll 46 = .ok (.istore_n 1, 1) := by decide +kernel
theorem dX5_canAll_47 : decode cX5_canAll 47 = .ok (.iinc 2 1, 3) := by decide +kernel
theorem dX5_canAll_50 : decode cX5_canAll 50 = .ok (.goto (-42), 3) := by decide +kernel
theorem dX5_canAll_53 : decode cX5_canAll 53 = .ok (.aload_n 0, 1) := by decide +kernel
theorem dX5_canAll_54 : decode cX5_canAll 54 = .ok (.invokevirtual 254, 3) := by decide +kernel
theorem dX5_canAll_57 : decode cX5_canAll 57 = .ok (.iload_n 1, 1) := by decide +kernel
theorem dX5_canAll_58 : decode cX5_canAll 58 = .ok (.ireturn, 1) := by decide +kernel
theorem dX5_errands_0 : decode cX5_errands 0 = .ok (.iload_n 1, 1) := by decide +kernel
theorem dX5_errands_1 : decode cX5_errands 1 = .ok (.i2l, 1) := by decide +kernel
theorem dX5_errands_2 : decode cX5_errands 2 = .ok (.lconst 0, 1) := by decide +kernel
theorem dX5_errands_3 : decode cX5_errands 3 = .ok (.ldc2_w 313, 3) := by decide +kernel
theorem dX5_errands_6 : decode cX5_errands 6 = .ok (.invokestatic 118, 3) := by decide +kernel
theorem dX5_errands_9 : decode cX5_errands 9 = .ok (.ifCond .eq 23, 3) := by decide +kernel
theorem dX5_errands_12 : decode cX5_errands 12 = .ok (.iload_n 1, 1) := by decide +kernel
theorem dX5_errands_13 : decode cX5_errands 13 = .ok (.aload_n 0, 1) := by decide +kernel
theorem dX5_errands_14 : decode cX5_errands 14 = .ok (.getfield 109, 3) := by decide +kernel
theorem dX5_errands_17 : decode cX5_errands 17 = .ok (.iconst (-1), 1) := by decide +kernel
theorem dX5_errands_18 : decode cX5_errands 18 = .ok (.ixor, 1) := by decide +kernel
theorem dX5_errands_19 : decode cX5_errands 19 = .ok (.iand, 1) := by decide +kernel
theorem dX5_errands_20 : decode cX5_errands 20 = .ok (.ifCond .ne 12, 3) := by decide +kernel
theorem dX5_errands_23 : decode cX5_errands 23 = .ok (.aload_n 0, 1) := by decide +kernel
theorem dX5_errands_24 : decode cX5_errands 24 = .ok (.iload_n 1, 1) := by decide +kernel
theorem dX5_errands_25 : decode cX5_errands 25 = .ok (.iload_n 2, 1) := by decide +kernel
theorem dX5_errands_26 : decode cX5_errands 26 = .ok (.invokevirtual 315, 3) := by decide +kernel
theorem dX5_errands_29 : decode cX5_errands 29 = .ok (.ifCond .ne 6, 3) := by decide +kernel
theorem dX5_errands_32 : decode cX5_errands 32 = .ok (.bipush (-2), 2) := by decide +kernel
theorem dX5_errands_34 : decode cX5_errands 34 = .ok (.ireturn, 1) := by decide +kernel
theorem dX5_errands_35 : decode cX5_errands 35 = .ok (.iconst 1, 1) := by decide +kernel
theorem dX5_errands_36 : decode cX5_errands 36 = .ok (.istore 4, 2) := by decide +kernel
theorem dX5_errands_38 : decode cX5_errands 38 = .ok (.iconst 0, 1) := by decide +kernel
theorem dX5_errands_39 : decode cX5_errands 39 = .ok (.istore 5, 2) := by decide +kernel
theorem dX5_errands_41 : decode cX5_errands 41 = .ok (.iload 5, 2) := by decide +kernel
theorem dX5_errands_43 : decode cX5_errands 43 = .ok (.aload_n 0, 1) := by decide +kernel
theorem dX5_errands_44 : decode cX5_errands 44 = .ok (.getfield 304, 3) := by decide +kernel
theorem dX5_errands_47 : decode cX5_errands 47 = .ok (.if_icmp .ge 18, 3) := by decide +kernel
theorem dX5_errands_50 : decode cX5_errands 50 = .ok (.iload 4, 2) := by decide +kernel
theorem dX5_errands_52 : decode cX5_errands 52 = .ok (.aload_n 0, 1) := by decide +kernel
theorem dX5_errands_53 : decode cX5_errands 53 = .ok (.getfield 304, 3) := by decide +kernel
theorem dX5_errands_56 : decode cX5_errands 56 = .ok (.imul, 1) := by decide +kernel
theorem dX5_errands_57 : decode cX5_errands 57 = .ok (.istore 4, 2) := by decide +kernel
theorem dX5_errands_59 : decode cX5_errands 59 = .ok (.iinc 5 1, 3) := by decide +kernel
theorem dX5_errands_62 : decode cX5_errands 62 = .ok (.goto (-21), 3) := by decide +kernel
theorem dX5_errands_65 : decode cX5_errands 65 = .ok (.iconst 0, 1) := by decide +kernel
theorem dX5_errands_66 : decode cX5_errands 66 = .ok (.istore 5, 2) := by decide +kernel
theorem dX5_errands_68 : decode cX5_errands 68 = .ok (.iload 5, 2) := by decide +kernel
theorem dX5_errands_70 : decode cX5_errands 70 = .ok (.iload 4, 2) := by decide +kernel
theorem dX5_errands_72 : decode cX5_errands 72 = .ok (.if_icmp .ge 58, 3) := by decide +kernel
theorem dX5_errands_75 : decode cX5_errands 75 = .ok (.aload_n 0, 1) := by decide +kernel
theorem dX5_errands_76 : decode cX5_errands 76 = .ok (.iload 5, 2) := by decide +kernel
theorem dX5_errands_78 : decode cX5_errands 78 = .ok (.invokevirtual 318, 3) := by decide +kernel
theorem dX5_errands_81 : decode cX5_errands 81 = .ok (.ifCond .eq 43, 3) := by decide +kernel
theorem dX5_errands_84 : decode cX5_errands 84 = .ok (.aload_n 0, 1) := by decide +kernel
theorem dX5_errands_85 : decode cX5_errands 85 = .ok (.invokevirtual 321, 3) := by decide +kernel
theorem dX5_errands_88 : decode cX5_errands 88 = .ok (.ifCond .eq 36, 3) := by decide +kernel
theorem dX5_errands_91 : decode cX5_errands 91 = .ok (.iload_n 3, 1) := by decide +kernel
theorem dX5_errands_92 : decode cX5_errands 92 = .ok (.i2l, 1) := by decide +kernel
theorem dX5_errands_93 : decode cX5_errands 93 = .ok (.lconst 0, 1) := by decide +kernel
theorem dX5_errands_94 : decode cX5_errands 94 = .ok (.aload_n 0, 1) := by decide +kernel
theorem dX5_errands_95 : decode cX5_errands 95 = .ok (.getfield 304, 3) := by decide +kernel
theorem dX5_errands_98 : decode cX5_errands 98 = .ok (.iconst 1, 1) := by decide +kernel
theorem dX5_errands_99 : decode cX5_errands 99 = .ok (.isub, 1) := by decide +kernel
theorem dX5_errands_100 : decode cX5_errands 100 = .ok (.i2l, 1) := by decide +kernel
theorem dX5_errands_101 : decode cX5_errands 101 = .ok (.invokestatic 118, 3) := by decide +kernel
theorem dX5_errands_104 : decode cX5_errands 104 = .ok (.ifCond .eq 17, 3) := by decide +kernel
theorem dX5_errands_107 : decode cX5_errands 107 = .ok (.aload_n 0, 1) := by decide +kernel
theorem dX5_errands_108 : decode cX5_errands 108 = .ok (.getfield 73, 3) := by decide +kernel
theorem dX5_errands_111 : decode cX5_errands 111 = .ok (.aload_n 0, 1) := by decide +kernel
theorem dX5_errands_112 : decode cX5_errands 112 = .ok (.getfield 79, 3) := by decide +kernel
theorem dX5_errands_115 : decode cX5_errands 115 = .ok (.iload_n 3, 1) := by decide +kernel
theorem dX5_errands_116 : decode cX5_errands 116 = .ok (.iaload, 1) := by decide +kernel
theorem dX5_errands_117 : decode cX5_errands 117 = .ok (.iaload, 1) := by decide +kernel
theorem dX5_errands_118 : decode cX5_errands 118 = .ok (.goto 5, 3) := by decide +kernel
theorem dX5_errands_121 : decode cX5_errands 121 = .ok (.bipush (-6), 2) := by decide +kernel
theorem dX5_errands_123 : decode cX5_errands 123 = .ok (.ireturn, 1) := by decide +kernel
theorem dX5_errands_124 : decode cX5_errands 124 = .ok (.iinc 5 1, 3) := by decide +kernel
theorem dX5_errands_127 : decode cX5_errands 127 = .ok (.goto (-59), 3) := by decide +kernel
theorem dX5_errands_130 : decode cX5_errands 130 = .ok (.bipush (-6), 2) := by decide +kernel
theorem dX5_errands_132 : decode cX5_errands 132 = .ok (.ireturn, 1) := by decide +kernel
theorem dX5_half_0 : decode cX5_half 0 = .ok (.iload_n 0, 1) := by decide +kernel
theorem dX5_half_1 : decode cX5_half 1 = .ok (.ifCond .ge 11, 3) := by decide +kernel
theorem dX5_half_4 : decode cX5_half 4 = .ok (.iload_n 0, 1) := by decide +kernel
theorem dX5_half_5 : decode cX5_half 5 = .ok (.iconst 1, 1) := by decide +kernel
theorem dX5_half_6 : decode cX5_half 6 = .ok (.isub, 1) := by decide +kernel
theorem dX5_half_7 : decode cX5_half 7 = .ok (.iconst 2, 1) := by decide +kernel
theorem dX5_half_8 : decode cX5_half 8 = .ok (.idiv, 1) := by decide +kernel
theorem dX5_half_9 : decode cX5_half 9 = .ok (.goto 6, 3) := by decide +kernel
theorem dX5_half_12 : decode cX5_half 12 = .ok (.iload_n 0, 1) := by decide +kernel
theorem dX5_half_13 : decode cX5_half 13 = .ok (.iconst 2, 1) := by decide +kernel
theorem dX5_half_14 : decode cX5_half 14 = .ok (.idiv, 1) := by decide +kernel
theorem dX5_half_15 : decode cX5_half 15 = .ok (.ireturn, 1) := by decide +kernel
theorem dX5_canBear_0 : decode cX5_canBear 0 = .ok (.aload_n 0, 1) := by decide +kernel
theorem dX5_canBear_1 : decode cX5_canBear 1 = .ok (.iload_n 1, 1) := by decide +kernel
theorem dX5_canBear_2 : decode cX5_canBear 2 = .ok (.iload_n 2, 1) := by decide +kernel
theorem dX5_canBear_3 : decode cX5_canBear 3 = .ok (.aload_n 0, 1) := by decide +kernel
theorem dX5_canBear_4 : decode cX5_canBear 4 = .ok (.iload_n 1, 1) := by decide +kernel
theorem dX5_canBear_5 : decode cX5_canBear 5 = .ok (.invokevirtual 206, 3) := by decide +kernel
theorem dX5_canBear_8 : decode cX5_canBear 8 = .ok (.iload_n 3, 1) := by decide +kernel
theorem dX5_canBear_9 : decode cX5_canBear 9 = .ok (.iadd, 1) := by decide +kernel
theorem dX5_canBear_10 : decode cX5_canBear 10 = .ok (.invokestatic 278, 3) := by decide +kernel
theorem dX5_canBear_13 : decode cX5_canBear 13 = .ok (.invokevirtual 281, 3) := by decide +kernel
theorem dX5_canBear_16 : decode cX5_canBear 16 = .ok (.ireturn, 1) := by decide +kernel
theorem dX5_two_0 : decode cX5_two 0 = .ok (.iload_n 1, 1) := by decide +kernel
theorem dX5_two_1 : decode cX5_two 1 = .ok (.invokestatic 146, 3) := by decide +kernel
theorem dX5_two_4 : decode cX5_two 4 = .ok (.ifCond .eq 11, 3) := by decide +kernel
theorem dX5_two_7 : decode cX5_two 7 = .ok (.aload_n 0, 1) := by decide +kernel
theorem dX5_two_8 : decode cX5_two 8 = .ok (.iload_n 2, 1) := by decide +kernel
theorem dX5_two_9 : decode cX5_two 9 = .ok (.invokevirtual 130, 3) := by decide +kernel
theorem dX5_two_12 : decode cX5_two 12 = .ok (.ifCond .ne 5, 3) := by decide +kernel
theorem dX5_two_15 : decode cX5_two 15 = .ok (.iconst (-1), 1) := by decide +kernel
theorem dX5_two_16 : decode cX5_two 16 = .ok (.ireturn, 1) := by decide +kernel
theorem dX5_two_17 : decode cX5_two 17 = .ok (.aload_n 0, 1) := by decide +kernel
theorem dX5_two_18 : decode cX5_two 18 = .ok (.getfield 31, 3) := by decide +kernel
theorem dX5_two_21 : decode cX5_two 21 = .ok (.iload_n 1, 1) := by decide +kernel
theorem dX5_two_22 : decode cX5_two 22 = .ok (.iaload, 1) := by decide +kernel
theorem dX5_two_23 : decode cX5_two 23 = .ok (.invokestatic 325, 3) := by decide +kernel
theorem dX5_two_26 : decode cX5_two 26 = .ok (.istore 4, 2) := by decide +kernel
theorem dX5_two_28 : decode cX5_two 28 = .ok (.iconst 0, 1) := by decide +kernel
theorem dX5_two_29 : decode cX5_two 29 = .ok (.istore 5, 2) := by decide +kernel
theorem dX5_two_31 : decode cX5_two 31 = .ok (.iconst 0, 1) := by decide +kernel
theorem dX5_two_32 : decode cX5_two 32 = .ok (.istore 6, 2) := by decide +kernel
theorem dX5_two_34 : decode cX5_two 34 = .ok (.iload 6, 2) := by decide +kernel
theorem dX5_two_36 : decode cX5_two 36 = .ok (.bipush 6, 2) := by decide +kernel
theorem dX5_two_38 : decode cX5_two 38 = .ok (.if_icmp .ge 95, 3) := by decide +kernel
theorem dX5_two_41 : decode cX5_two 41 = .ok (.iload 6, 2) := by decide +kernel
theorem dX5_two_43 : decode cX5_two 43 = .ok (.iconst 1, 1) := by decide +kernel
theorem dX5_two_44 : decode cX5_two 44 = .ok (.iadd, 1) := by decide +kernel
theorem dX5_two_45 : decode cX5_two 45 = .ok (.istore 7, 2) := by decide +kernel
theorem dX5_two_47 : decode cX5_two 47 = .ok (.iload 7, 2) := by decide +kernel
theorem dX5_two_49 : decode cX5_two 49 = .ok (.bipush 6, 2) := by decide +kernel
theorem dX5_two_51 : decode cX5_two 51 = .ok (.if_icmp .ge 76, 3) := by decide +kernel
theorem dX5_two_54 : decode cX5_two 54 = .ok (.aload_n 0, 1) := by decide +kernel
theorem dX5_two_55 : decode cX5_two 55 = .ok (.iload 6, 2) := by decide +kernel
theorem dX5_two_57 : decode cX5_two 57 = .ok (.invokevirtual 143, 3) := by decide +kernel
theorem dX5_two_60 : decode cX5_two 60 = .ok (.ifCond .eq 61, 3) := by decide +kernel
theorem dX5_two_63 : decode cX5_two 63 = .ok (.aload_n 0, 1) := by decide +kernel
theorem dX5_two_64 : decode cX5_two 64 = .ok (.iload 7, 2) := by decide +kernel
theorem dX5_two_66 : decode cX5_two 66 = .ok (.invokevirtual 143, 3) := by decide +kernel
theorem dX5_two_69 : decode cX5_two 69 = .ok (.ifCond .eq 52, 3) := by decide +kernel
theorem dX5_two_72 : decode cX5_two 72 = .ok (.aload_n 0, 1) := by decide +kernel
theorem dX5_two_73 : decode cX5_two 73 = .ok (.iload 6, 2) := by decide +kernel
theorem dX5_two_75 : decode cX5_two 75 = .ok (.iload_n 2, 1) := by decide +kernel
theorem dX5_two_76 : decode cX5_two 76 = .ok (.iload 4, 2) := by decide +kernel
theorem dX5_two_78 : decode cX5_two 78 = .ok (.invokevirtual 328, 3) := by decide +kernel
theorem dX5_two_81 : decode cX5_two 81 = .ok (.ifCond .eq 40, 3) := by decide +kernel
theorem dX5_two_84 : decode cX5_two 84 = .ok (.aload_n 0, 1) := by decide +kernel
theorem dX5_two_85 : decode cX5_two 85 = .ok (.iload 7, 2) := by decide +kernel
theorem dX5_two_87 : decode cX5_two 87 = .ok (.iload_n 2, 1) := by decide +kernel
theorem dX5_two_88 : decode cX5_two 88 = .ok (.aload_n 0, 1) := by decide +kernel
theorem dX5_two_89 : decode cX5_two 89 = .ok (.getfield 31, 3) := by decide +kernel
theorem dX5_two_92 : decode cX5_two 92 = .ok (.iload_n 1, 1) := by decide +kernel
theorem dX5_two_93 : decode cX5_two 93 = .ok (.iaload, 1) := by decide +kernel
theorem dX5_two_94 : decode cX5_two 94 = .ok (.iload 4, 2) := by decide +kernel
theorem dX5_two_96 : decode cX5_two 96 = .ok (.isub, 1) := by decide +kernel
theorem dX5_two_97 : decode cX5_two 97 = .ok (.invokevirtual 328, 3) := by decide +kernel
theorem dX5_two_100 : decode cX5_two 100 = .ok (.ifCond .eq 21, 3) := by decide +kernel
theorem dX5_two_103 : decode cX5_two 103 = .ok (.iload 5, 2) := by decide +kernel
theorem dX5_two_105 : decode cX5_two 105 = .ok (.iload_n 3, 1) := by decide +kernel
theorem dX5_two_106 : decode cX5_two 106 = .ok (.if_icmp .ne 12, 3) := by decide +kernel
theorem dX5_two_109 : decode cX5_two 109 = .ok (.bipush 10, 2) := by decide +kernel
theorem dX5_two_111 : decode cX5_two 111 = .ok (.iload 6, 2) := by decide +kernel
theorem dX5_two_113 : decode cX5_two 113 = .ok (.imul, 1) := by decide +kernel
theorem dX5_two_114 : decode cX5_two 114 = .ok (.iload 7, 2) := by decide +kernel
theorem dX5_two_116 : decode cX5_two 116 = .ok (.iadd, 1) := by decide +kernel
theorem dX5_two_117 : decode cX5_two 117 = .ok (.ireturn, 1) := by decide +kernel
theorem dX5_two_118 : decode cX5_two 118 = .ok (.iinc 5 1, 3) := by decide +kernel
theorem dX5_two_121 : decode cX5_two 121 = .ok (.iinc 7 1, 3) := by decide +kernel
theorem dX5_two_124 : decode cX5_two 124 = .ok (.goto (-77), 3) := by decide +kernel
theorem dX5_two_127 : decode cX5_two 127 = .ok (.iinc 6 1, 3) := by decide +kernel
theorem dX5_two_130 : decode cX5_two 130 = .ok (.goto (-96), 3) := by decide +kernel
theorem dX5_two_133 : decode cX5_two 133 = .ok (.iload_n 3, 1) := by decide +kernel
theorem dX5_two_134 : decode cX5_two 134 = .ok (.iconst (-1), 1) := by decide +kernel
theorem dX5_two_135 : decode cX5_two 135 = .ok (.if_icmp .ne 8, 3) := by decide +kernel
theorem dX5_two_138 : decode cX5_two 138 = .ok (.iload 5, 2) := by decide +kernel
theorem dX5_two_140 : decode cX5_two 140 = .ok (.goto 5, 3) := by decide +kernel
theorem dX5_two_143 : decode cX5_two 143 = .ok (.bipush (-6), 2) := by decide +kernel
theorem dX5_two_145 : decode cX5_two 145 = .ok (.ireturn, 1) := by decide +kernel
theorem dX5_feeOf_0 : decode cX5_feeOf 0 = .ok (.aload_n 0, 1) := by decide +kernel
theorem dX5_feeOf_1 : decode cX5_feeOf 1 = .ok (.iload_n 1, 1) := by decide +kernel
theorem dX5_feeOf_2 : decode cX5_feeOf 2 = .ok (.invokevirtual 206, 3) := by decide +kernel
theorem dX5_feeOf_5 : decode cX5_feeOf 5 = .ok (.istore_n 3, 1) := by decide +kernel
theorem dX5_feeOf_6 : decode cX5_feeOf 6 = .ok (.aload_n 0, 1) := by decide +kernel
theorem dX5_feeOf_7 : decode cX5_feeOf 7 = .ok (.aload_n 0, 1) := by decide +kernel
theorem dX5_feeOf_8 : decode cX5_feeOf 8 = .ok (.getfield 22, 3) := by decide +kernel
theorem dX5_feeOf_11 : decode cX5_feeOf 11 = .ok (.iload_n 1, 1) := by decide +kernel
theorem dX5_feeOf_12 : decode cX5_feeOf 12 = .ok (.iaload, 1) := by decide +kernel
theorem dX5_feeOf_13 : decode cX5_feeOf 13 = .ok (.iload_n 2, 1) := by decide +kernel
theorem dX5_feeOf_14 : decode cX5_feeOf 14 = .ok (.iload_n 3, 1) := by decide +kernel
theorem dX5_feeOf_15 : decode cX5_feeOf 15 = .ok (.invokevirtual 264, 3) := by decide +kernel
theorem dX5_feeOf_18 : decode cX5_feeOf 18 = .ok (.istore 4, 2) := by decide +kernel
theorem dX5_feeOf_20 : decode cX5_feeOf 20 = .ok (.iload 4, 2) := by decide +kernel
theorem dX5_feeOf_22 : decode cX5_feeOf 22 = .ok (.sipush 1000, 3) := by decide +kernel
theorem dX5_feeOf_25 : decode cX5_feeOf 25 = .ok (.if_icmp .ne 8, 3) := by decide +kernel
theorem dX5_feeOf_28 : decode cX5_feeOf 28 = .ok (.bipush (-6), 2) := by decide +kernel
theorem dX5_feeOf_30 : decode cX5_feeOf 30 = .ok (.goto 7, 3) := by decide +kernel
theorem dX5_feeOf_33 : decode cX5_feeOf 33 = .ok (.iload_n 3, 1) := by decide +kernel
theorem dX5_feeOf_34 : decode cX5_feeOf 34 = .ok (.iload 4, 2) := by decide +kernel
theorem dX5_feeOf_36 : decode cX5_feeOf 36 = .ok (.imul, 1) := by decide +kernel
theorem dX5_feeOf_37 : decode cX5_feeOf 37 = .ok (.ireturn, 1) := by decide +kernel
theorem dX5_fee_0 : decode cX5_fee 0 = .ok (.aload_n 0, 1) := by decide +kernel
theorem dX5_fee_1 : decode cX5_fee 1 = .ok (.iload_n 1, 1) := by decide +kernel
theorem dX5_fee_2 : decode cX5_fee 2 = .ok (.iload_n 2, 1) := by decide +kernel
theorem dX5_fee_3 : decode cX5_fee 3 = .ok (.invokevirtual 267, 3) := by decide +kernel
theorem dX5_fee_6 : decode cX5_fee 6 = .ok (.ifCond .eq 12, 3) := by decide +kernel
theorem dX5_fee_9 : decode cX5_fee 9 = .ok (.aload_n 0, 1) := by decide +kernel
theorem dX5_fee_10 : decode cX5_fee 10 = .ok (.iload_n 1, 1) := by decide +kernel
theorem dX5_fee_11 : decode cX5_fee 11 = .ok (.iload_n 2, 1) := by decide +kernel
theorem dX5_fee_12 : decode cX5_fee 12 = .ok (.invokevirtual 331, 3) := by decide +kernel
theorem dX5_fee_15 : decode cX5_fee 15 = .ok (.goto 4, 3) := by decide +kernel
theorem dX5_fee_18 : decode cX5_fee 18 = .ok (.iconst (-1), 1) := by decide +kernel
theorem dX5_fee_19 : decode cX5_fee 19 = .ok (.ireturn, 1) := by decide +kernel
theorem dX5_fees_0 : decode cX5_fees 0 = .ok (.aload_n 0, 1) := by decide +kernel
theorem dX5_fees_1 : decode cX5_fees 1 = .ok (.iload_n 1, 1) := by decide +kernel
theorem dX5_fees_2 : decode cX5_fees 2 = .ok (.invokevirtual 130, 3) := by decide +kernel
theorem dX5_fees_5 : decode cX5_fees 5 = .ok (.ifCond .ne 5, 3) := by decide +kernel
theorem dX5_fees_8 : decode cX5_fees 8 = .ok (.iconst (-1), 1) := by decide +kernel
theorem dX5_fees_9 : decode cX5_fees 9 = .ok (.ireturn, 1) := by decide +kernel
theorem dX5_fees_10 : decode cX5_fees 10 = .ok (.iload_n 2, 1) := by decide +kernel
theorem dX5_fees_11 : decode cX5_fees 11 = .ok (.i2l, 1) := by decide +kernel
theorem dX5_fees_12 : decode cX5_fees 12 = .ok (.lconst 0, 1) := by decide +kernel
theorem dX5_fees_13 : decode cX5_fees 13 = .ok (.lconst 1, 1) := by decide +kernel
theorem dX5_fees_14 : decode cX5_fees 14 = .ok (.invokestatic 118, 3) := by decide +kernel
theorem dX5_fees_17 : decode cX5_fees 17 = .ok (.ifCond .ne 6, 3) := by decide +kernel
theorem dX5_fees_20 : decode cX5_fees 20 = .ok (.bipush (-2), 2) := by decide +kernel
theorem dX5_fees_22 : decode cX5_fees 22 = .ok (.ireturn, 1) := by decide +kernel
theorem dX5_fees_23 : decode cX5_fees 23 = .ok (.iconst 0, 1) := by decide +kernel
theorem dX5_fees_24 : decode cX5_fees 24 = .ok (.istore_n 3, 1) := by decide +kernel
theorem dX5_fees_25 : decode cX5_fees 25 = .ok (.iconst 0, 1) := by decide +kernel
theorem dX5_fees_26 : decode cX5_fees 26 = .ok (.istore 4, 2) := by decide +kernel
theorem dX5_fees_28 : decode cX5_fees 28 = .ok (.iconst 0, 1) := by decide +kernel
theorem dX5_fees_29 : decode cX5_fees 29 = .ok (.istore 5, 2) := by decide +kernel
theorem dX5_fees_31 : decode cX5_fees 31 = .ok (.iload 5, 2) := by decide +kernel
theorem dX5_fees_33 : decode cX5_fees 33 = .ok (.bipush 6, 2) := by decide +kernel
theorem dX5_fees_35 : decode cX5_fees 35 = .ok (.if_icmp .ge 61, 3) := by decide +kernel
theorem dX5_fees_38 : decode cX5_fees 38 = .ok (.aload_n 0, 1) := by decide +kernel
theorem dX5_fees_39 : decode cX5_fees 39 = .ok (.iload 5, 2) := by decide +kernel
theorem dX5_fees_41 : decode cX5_fees 41 = .ok (.invokevirtual 143, 3) := by decide +kernel
theorem dX5_fees_44 : decode cX5_fees 44 = .ok (.ifCond .eq 13, 3) := by decide +kernel
theorem dX5_fees_47 : decode cX5_fees 47 = .ok (.aload_n 0, 1) := by decide +kernel
theorem dX5_fees_48 : decode cX5_fees 48 = .ok (.iload 5, 2) := by decide +kernel
theorem dX5_fees_50 : decode cX5_fees 50 = .ok (.iload_n 1, 1) := by decide +kernel
theorem dX5_fees_51 : decode cX5_fees 51 = .ok (.invokevirtual 331, 3) := by decide +kernel
theorem dX5_fees_54 : decode cX5_fees 54 = .ok (.goto 5, 3) := by decide +kernel
theorem dX5_fees_57 : decode cX5_fees 57 = .ok (.bipush (-6), 2) := by decide +kernel
theorem dX5_fees_59 : decode cX5_fees 59 = .ok (.istore 6, 2) := by decide +kernel
theorem dX5_fees_61 : decode cX5_fees 61 = .ok (.iload_n 3, 1) := by decide +kernel
theorem dX5_fees_62 : decode cX5_fees 62 = .ok (.iload 6, 2) := by decide +kernel
theorem dX5_fees_64 : decode cX5_fees 64 = .ok (.ifCond .lt 8, 3) := by decide +kernel
theorem dX5_fees_67 : decode cX5_fees 67 = .ok (.iload 6, 2) := by decide +kernel
theorem dX5_fees_69 : decode cX5_fees 69 = .ok (.goto 4, 3) := by decide +kernel
theorem dX5_fees_72 : decode cX5_fees 72 = .ok (.iconst 0, 1) := by decide +kernel
theorem dX5_fees_73 : decode cX5_fees 73 = .ok (.iadd, 1) := by decide +kernel
theorem dX5_fees_74 : decode cX5_fees 74 = .ok (.istore_n 3, 1) := by decide +kernel
theorem dX5_fees_75 : decode cX5_fees 75 = .ok (.iload 4, 2) := by decide +kernel
theorem dX5_fees_77 : decode cX5_fees 77 = .ok (.iload 6, 2) := by decide +kernel
theorem dX5_fees_79 : decode cX5_fees 79 = .ok (.ifCond .lt 7, 3) := by decide +kernel
theorem dX5_fees_82 : decode cX5_fees 82 = .ok (.iconst 1, 1) := by decide +kernel
theorem dX5_fees_83 : decode cX5_fees 83 = .ok (.goto 4, 3) := by decide +kernel
theorem dX5_fees_86 : decode cX5_fees 86 = .ok (.iconst 0, 1) := by decide +kernel
theorem dX5_fees_87 : decode cX5_fees 87 = .ok (.iadd, 1) := by decide +kernel
theorem dX5_fees_88 : decode cX5_fees 88 = .ok (.istore 4, 2) := by decide +kernel
theorem dX5_fees_90 : decode cX5_fees 90 = .ok (.iinc 5 1, 3) := by decide +kernel
theorem dX5_fees_93 : decode cX5_fees 93 = .ok (.goto (-62), 3) := by decide +kernel
theorem dX5_fees_96 : decode cX5_fees 96 = .ok (.iload_n 2, 1) := by decide +kernel
theorem dX5_fees_97 : decode cX5_fees 97 = .ok (.ifCond .ne 7, 3) := by decide +kernel
theorem dX5_fees_100 : decode cX5_fees 100 = .ok (.iload_n 3, 1) := by decide +kernel
theorem dX5_fees_101 : decode cX5_fees 101 = .ok (.goto 5, 3) := by decide +kernel
theorem dX5_fees_104 : decode cX5_fees 104 = .ok (.iload 4, 2) := by decide +kernel
theorem dX5_fees_106 : decode cX5_fees 106 = .ok (.ireturn, 1) := by decide +kernel
theorem dX5_seen_0 : decode cX5_seen 0 = .ok (.iload_n 1, 1) := by decide +kernel
theorem dX5_seen_1 : decode cX5_seen 1 = .ok (.i2l, 1) := by decide +kernel
theorem dX5_seen_2 : decode cX5_seen 2 = .ok (.lconst 0, 1) := by decide +kernel
theorem dX5_seen_3 : decode cX5_seen 3 = .ok (.ldc2_w 122, 3) := by decide +kernel
theorem dX5_seen_6 : decode cX5_seen 6 = .ok (.invokestatic 118, 3) := by decide +kernel
theorem dX5_seen_9 : decode cX5_seen 9 = .ok (.ifCond .ne 5, 3) := by decide +kernel
theorem dX5_seen_12 : decode cX5_seen 12 = .ok (.iconst (-1), 1) := by decide +kernel
theorem dX5_seen_13 : decode cX5_seen 13 = .ok (.ireturn, 1) := by decide +kernel
theorem dX5_seen_14 : decode cX5_seen 14 = .ok (.iload_n 2, 1) := by decide +kernel
theorem dX5_seen_15 : decode cX5_seen 15 = .ok (.i2l, 1) := by decide +kernel
theorem dX5_seen_16 : decode cX5_seen 16 = .ok (.lconst 0, 1) := by decide +kernel
theorem dX5_seen_17 : decode cX5_seen 17 = .ok (.ldc2_w 334, 3) := by decide +kernel
theorem dX5_seen_20 : decode cX5_seen 20 = .ok (.invokestatic 118, 3) := by decide +kernel
theorem dX5_seen_23 : decode cX5_seen 23 = .ok (.ifCond .ne 6, 3) := by decide +kernel
theorem dX5_seen_26 : decode cX5_seen 26 = .ok (.bipush (-2), 2) := by decide +kernel
theorem dX5_seen_28 : decode cX5_seen 28 = .ok (.ireturn, 1) := by decide +kernel
theorem dX5_seen_29 : decode cX5_seen 29 = .ok (.aload_n 0, 1) := by decide +kernel
theorem dX5_seen_30 : decode cX5_seen 30 = .ok (.getfield 115, 3) := by decide +kernel
theorem dX5_seen_33 : decode cX5_seen 33 = .ok (.bipush 6, 2) := by decide +kernel
theorem dX5_seen_35 : decode cX5_seen 35 = .ok (.if_icmp .ne 6, 3) := by decide +kernel
theorem dX5_seen_38 : decode cX5_seen 38 = .ok (.bipush (-4), 2) := by decide +kernel
theorem dX5_seen_40 : decode cX5_seen 40 = .ok (.ireturn, 1) := by decide +kernel
theorem dX5_seen_41 : decode cX5_seen 41 = .ok (.aload_n 0, 1) := by decide +kernel
theorem dX5_seen_42 : decode cX5_seen 42 = .ok (.getfield 37, 3) := by decide +kernel
theorem dX5_seen_45 : decode cX5_seen 45 = .ok (.aload_n 0, 1) := by decide +kernel
theorem dX5_seen_46 : decode cX5_seen 46 = .ok (.getfield 115, 3) := by decide +kernel
theorem dX5_seen_49 : decode cX5_seen 49 = .ok (.iload_n 1, 1) := by decide +kernel
theorem dX5_seen_50 : decode cX5_seen 50 = .ok (.iastore, 1) := by decide +kernel
theorem dX5_seen_51 : decode cX5_seen 51 = .ok (.aload_n 0, 1) := by decide +kernel
theorem dX5_seen_52 : decode cX5_seen 52 = .ok (.getfield 40, 3) := by decide +kernel
theorem dX5_seen_55 : decode cX5_seen 55 = .ok (.aload_n 0, 1) := by decide +kernel
theorem dX5_seen_56 : decode cX5_seen 56 = .ok (.getfield 115, 3) := by decide +kernel
theorem dX5_seen_59 : decode cX5_seen 59 = .ok (.iload_n 2, 1) := by decide +kernel
theorem dX5_seen_60 : decode cX5_seen 60 = .ok (.iastore, 1) := by decide +kernel
theorem dX5_seen_61 : decode cX5_seen 61 = .ok (.aload_n 0, 1) := by decide +kernel
theorem dX5_seen_62 : decode cX5_seen 62 = .ok (.dup, 1) := by decide +kernel
theorem dX5_seen_63 : decode cX5_seen 63 = .ok (.getfield 115, 3) := by decide +kernel
theorem dX5_seen_66 : decode cX5_seen 66 = .ok (.iconst 1, 1) := by decide +kernel
theorem dX5_seen_67 : decode cX5_seen 67 = .ok (.iadd, 1) := by decide +kernel
theorem dX5_seen_68 : decode cX5_seen 68 = .ok (.putfield 115, 3) := by decide +kernel
theorem dX5_seen_71 : decode cX5_seen 71 = .ok (.aload_n 0, 1) := by decide +kernel
theorem dX5_seen_72 : decode cX5_seen 72 = .ok (.getfield 115, 3) := by decide +kernel
theorem dX5_seen_75 : decode cX5_seen 75 = .ok (.ireturn, 1) := by decide +kernel
theorem dX5_forget_0 : decode cX5_forget 0 = .ok (.aload_n 0, 1) := by decide +kernel
theorem dX5_forget_1 : decode cX5_forget 1 = .ok (.getfield 115, 3) := by decide +kernel
theorem dX5_forget_4 : decode cX5_forget 4 = .ok (.istore_n 1, 1) := by decide +kernel
theorem dX5_forget_5 : decode cX5_forget 5 = .ok (.aload_n 0, 1) := by decide +kernel
theorem dX5_forget_6 : decode cX5_forget 6 = .ok (.iconst 0, 1) := by decide +kernel
theorem dX5_forget_7 : decode cX5_forget 7 = .ok (.putfield 115, 3) := by decide +kernel
theorem dX5_forget_10 : decode cX5_forget 10 = .ok (.iload_n 1, 1) := by decide +kernel
theorem dX5_forget_11 : decode cX5_forget 11 = .ok (.ireturn, 1) := by decide +kernel
theorem dX5_whoBent_0 : decode cX5_whoBent 0 = .ok (.iconst 0, 1) := by decide +kernel
theorem dX5_whoBent_1 : decode cX5_whoBent 1 = .ok (.istore_n 2, 1) := by decide +kernel
theorem dX5_whoBent_2 : decode cX5_whoBent 2 = .ok (.iconst 0, 1) := by decide +kernel
theorem dX5_whoBent_3 : decode cX5_whoBent 3 = .ok (.istore_n 3, 1) := by decide +kernel
theorem dX5_whoBent_4 : decode cX5_whoBent 4 = .ok (.iload_n 3, 1) := by decide +kernel
theorem dX5_whoBent_5 : decode cX5_whoBent 5 = .ok (.bipush 6, 2) := by decide +kernel
theorem dX5_whoBent_7 : decode cX5_whoBent 7 = .ok (.if_icmp .ge 41, 3) := by decide +kernel
theorem dX5_whoBent_10 : decode cX5_whoBent 10 = .ok (.iload_n 2, 1) := by decide +kernel
theorem dX5_whoBent_11 : decode cX5_whoBent 11 = .ok (.aload_n 0, 1) := by decide +kernel
theorem dX5_whoBent_12 : decode cX5_whoBent 12 = .ok (.iload_n 3, 1) := by decide +kernel
theorem dX5_whoBent_13 : decode cX5_whoBent 13 = .ok (.invokevirtual 143, 3) := by decide +kernel
theorem dX5_whoBent_16 : decode cX5_whoBent 16 = .ok (.ifCond .eq 23, 3) := by decide +kernel
theorem dX5_whoBent_19 : decode cX5_whoBent 19 = .ok (.aload_n 0, 1) := by decide +kernel
theorem dX5_whoBent_20 : decode cX5_whoBent 20 = .ok (.iload_n 3, 1) := by decide +kernel
theorem dX5_whoBent_21 : decode cX5_whoBent 21 = .ok (.invokevirtual 206, 3) := by decide +kernel
theorem dX5_whoBent_24 : decode cX5_whoBent 24 = .ok (.aload_n 0, 1) := by decide +kernel
theorem dX5_whoBent_25 : decode cX5_whoBent 25 = .ok (.getfield 40, 3) := by decide +kernel
theorem dX5_whoBent_28 : decode cX5_whoBent 28 = .ok (.iload_n 1, 1) := by decide +kernel
theorem dX5_whoBent_29 : decode cX5_whoBent 29 = .ok (.iaload, 1) := by decide +kernel
theorem dX5_whoBent_30 : decode cX5_whoBent 30 = .ok (.if_icmp .ne 9, 3) := by decide +kernel
theorem dX5_whoBent_33 : decode cX5_whoBent 33 = .ok (.iconst 1, 1) := by decide +kernel
theorem dX5_whoBent_34 : decode cX5_whoBent 34 = .ok (.iload_n 3, 1) := by decide +kernel
theorem dX5_whoBent_35 : decode cX5_whoBent 35 = .ok (.ishl, 1) := by decide +kernel
theorem dX5_whoBent_36 : decode cX5_whoBent 36 = .ok (.goto 4, 3) := by decide +kernel
theorem dX5_whoBent_39 : decode cX5_whoBent 39 = .ok (.iconst 0, 1) := by decide +kernel
theorem dX5_whoBent_40 : decode cX5_whoBent 40 = .ok (.ior, 1) := by decide +kernel
theorem dX5_whoBent_41 : decode cX5_whoBent 41 = .ok (.istore_n 2, 1) := by decide +kernel
theorem dX5_whoBent_42 : decode cX5_whoBent 42 = .ok (.iinc 3 1, 3) := by decide +kernel
theorem dX5_whoBent_45 : decode cX5_whoBent 45 = .ok (.goto (-41), 3) := by decide +kernel
theorem dX5_whoBent_48 : decode cX5_whoBent 48 = .ok (.iload_n 2, 1) := by decide +kernel
theorem dX5_whoBent_49 : decode cX5_whoBent 49 = .ok (.ireturn, 1) := by decide +kernel
theorem dX5_who_0 : decode cX5_who 0 = .ok (.iload_n 1, 1) := by decide +kernel
theorem dX5_who_1 : decode cX5_who 1 = .ok (.i2l, 1) := by decide +kernel
theorem dX5_who_2 : decode cX5_who 2 = .ok (.lconst 0, 1) := by decide +kernel
theorem dX5_who_3 : decode cX5_who 3 = .ok (.aload_n 0, 1) := by decide +kernel
theorem dX5_who_4 : decode cX5_who 4 = .ok (.getfield 115, 3) := by decide +kernel
theorem dX5_who_7 : decode cX5_who 7 = .ok (.iconst 1, 1) := by decide +kernel
theorem dX5_who_8 : decode cX5_who 8 = .ok (.isub, 1) := by decide +kernel
theorem dX5_who_9 : decode cX5_who 9 = .ok (.i2l, 1) := by decide +kernel
theorem dX5_who_10 : decode cX5_who 10 = .ok (.invokestatic 118, 3) := by decide +kernel
theorem dX5_who_13 : decode cX5_who 13 = .ok (.ifCond .eq 11, 3) := by decide +kernel
theorem dX5_who_16 : decode cX5_who 16 = .ok (.aload_n 0, 1) := by decide +kernel
theorem dX5_who_17 : decode cX5_who 17 = .ok (.iload_n 1, 1) := by decide +kernel
theorem dX5_who_18 : decode cX5_who 18 = .ok (.invokevirtual 336, 3) := by decide +kernel
theorem dX5_who_21 : decode cX5_who 21 = .ok (.goto 5, 3) := by decide +kernel
theorem dX5_who_24 : decode cX5_who 24 = .ok (.bipush (-2), 2) := by decide +kernel
theorem dX5_who_26 : decode cX5_who 26 = .ok (.ireturn, 1) := by decide +kernel
theorem dX5_fits_0 : decode cX5_fits 0 = .ok (.iload_n 1, 1) := by decide +kernel
theorem dX5_fits_1 : decode cX5_fits 1 = .ok (.istore_n 2, 1) := by decide +kernel
theorem dX5_fits_2 : decode cX5_fits 2 = .ok (.iconst 1, 1) := by decide +kernel
theorem dX5_fits_3 : decode cX5_fits 3 = .ok (.istore_n 3, 1) := by decide +kernel
theorem dX5_fits_4 : decode cX5_fits 4 = .ok (.iconst 0, 1) := by decide +kernel
theorem dX5_fits_5 : decode cX5_fits 5 = .ok (.istore 4, 2) := by decide +kernel
theorem dX5_fits_7 : decode cX5_fits 7 = .ok (.iload 4, 2) := by decide +kernel
theorem dX5_fits_9 : decode cX5_fits 9 = .ok (.aload_n 0, 1) := by decide +kernel
theorem dX5_fits_10 : decode cX5_fits 10 = .ok (.getfield 115, 3) := by decide +kernel
theorem dX5_fits_13 : decode cX5_fits 13 = .ok (.if_icmp .ge 116, 3) := by decide +kernel
theorem dX5_fits_16 : decode cX5_fits 16 = .ok (.aload_n 0, 1) := by decide +kernel
theorem dX5_fits_17 : decode cX5_fits 17 = .ok (.getfield 82, 3) := by decide +kernel
theorem dX5_fits_20 : decode cX5_fits 20 = .ok (.iload 4, 2) := by decide +kernel
theorem dX5_fits_22 : decode cX5_fits 22 = .ok (.iload_n 2, 1) := by decide +kernel
theorem dX5_fits_23 : decode cX5_fits 23 = .ok (.bipush 6, 2) := by decide +kernel
theorem dX5_fits_25 : decode cX5_fits 25 = .ok (.irem, 1) := by decide +kernel
theorem dX5_fits_26 : decode cX5_fits 26 = .ok (.iastore, 1) := by decide +kernel
theorem dX5_fits_27 : decode cX5_fits 27 = .ok (.iload_n 2, 1) := by decide +kernel
theorem dX5_fits_28 : decode cX5_fits 28 = .ok (.bipush 6, 2) := by decide +kernel
theorem dX5_fits_30 : decode cX5_fits 30 = .ok (.idiv, 1) := by decide +kernel
theorem dX5_fits_31 : decode cX5_fits 31 = .ok (.istore_n 2, 1) := by decide +kernel
theorem dX5_fits_32 : decode cX5_fits 32 = .ok (.iload_n 3, 1) := by decide +kernel
theorem dX5_fits_33 : decode cX5_fits 33 = .ok (.ifCond .eq 28, 3) := by decide +kernel
theorem dX5_fits_36 : decode cX5_fits 36 = .ok (.aload_n 0, 1) := by decide +kernel
theorem dX5_fits_37 : decode cX5_fits 37 = .ok (.getfield 85, 3) := by decide +kernel
theorem dX5_fits_40 : decode cX5_fits 40 = .ok (.iload 4, 2) := by decide +kernel
theorem dX5_fits_42 : decode cX5_fits 42 = .ok (.iaload, 1) := by decide +kernel
theorem dX5_fits_43 : decode cX5_fits 43 = .ok (.aload_n 0, 1) := by decide +kernel
theorem dX5_fits_44 : decode cX5_fits 44 = .ok (.getfield 82, 3) := by decide +kernel
theorem dX5_fits_47 : decode cX5_fits 47 = .ok (.iload 4, 2) := by decide +kernel
theorem dX5_fits_49 : decode cX5_fits 49 = .ok (.iaload, 1) := by decide +kernel
theorem dX5_fits_50 : decode cX5_fits 50 = .ok (.ishr, 1) := by decide +kernel
theorem dX5_fits_51 : decode cX5_fits 51 = .ok (.iconst 1, 1) := by decide +kernel
theorem dX5_fits_52 : decode cX5_fits 52 = .ok (.iand, 1) := by decide +kernel
theorem dX5_fits_53 : decode cX5_fits 53 = .ok (.iconst 1, 1) := by decide +kernel
theorem dX5_fits_54 : decode cX5_fits 54 = .ok (.if_icmp .ne 7, 3) := by decide +kernel
theorem dX5_fits_57 : decode cX5_fits 57 = .ok (.iconst 1, 1) := by decide +kernel
theorem dX5_fits_58 : decode cX5_fits 58 = .ok (.goto 4, 3) := by decide +kernel
theorem dX5_fits_61 : decode cX5_fits 61 = .ok (.iconst 0, 1) := by decide +kernel
theorem dX5_fits_62 : decode cX5_fits 62 = .ok (.istore_n 3, 1) := by decide +kernel
theorem dX5_fits_63 : decode cX5_fits 63 = .ok (.iconst 0, 1) := by decide +kernel
theorem dX5_fits_64 : decode cX5_fits 64 = .ok (.istore 5, 2) := by decide +kernel
theorem dX5_fits_66 : decode cX5_fits 66 = .ok (.iload 5, 2) := by decide +kernel
theorem dX5_fits_68 : decode cX5_fits 68 = .ok (.iload 4, 2) := by decide +kernel
theorem dX5_fits_70 : decode cX5_fits 70 = .ok (.if_icmp .ge 53, 3) := by decide +kernel
theorem dX5_fits_73 : decode cX5_fits 73 = .ok (.iload_n 3, 1) := by decide +kernel
theorem dX5_fits_74 : decode cX5_fits 74 = .ok (.ifCond .eq 41, 3) := by decide +kernel
theorem dX5_fits_77 : decode cX5_fits 77 = .ok (.aload_n 0, 1) := by decide +kernel
theorem dX5_fits_78 : decode cX5_fits 78 = .ok (.getfield 82, 3) := by decide +kernel
theorem dX5_fits_81 : decode cX5_fits 81 = .ok (.iload 5, 2) := by decide +kernel
theorem dX5_fits_83 : decode cX5_fits 83 = .ok (.iaload, 1) := by decide +kernel
theorem dX5_fits_84 : decode cX5_fits 84 = .ok (.aload_n 0, 1) := by decide +kernel
theorem dX5_fits_85 : decode cX5_fits 85 = .ok (.getfield 82, 3) := by decide +kernel
theorem dX5_fits_88 : decode cX5_fits 88 = .ok (.iload 4, 2) := by decide +kernel
theorem dX5_fits_90 : decode cX5_fits 90 = .ok (.iaload, 1) := by decide +kernel
theorem dX5_fits_91 : decode cX5_fits 91 = .ok (.if_icmp .ne 20, 3) := by decide +kernel
theorem dX5_fits_94 : decode cX5_fits 94 = .ok (.aload_n 0, 1) := by decide +kernel
theorem dX5_fits_95 : decode cX5_fits 95 = .ok (.getfield 37, 3) := by decide +kernel
theorem dX5_fits_98 : decode cX5_fits 98 = .ok (.iload 5, 2) := by decide +kernel
theorem dX5_fits_100 : decode cX5_fits 100 = .ok (.iaload, 1) := by decide +kernel
theorem dX5_fits_101 : decode cX5_fits 101 = .ok (.aload_n 0, 1) := by decide +kernel
theorem dX5_fits_102 : decode cX5_fits 102 = .ok (.getfield 37, 3) := by decide +kernel
theorem dX5_fits_105 : decode cX5_fits 105 = .ok (.iload 4, 2) := by decide +kernel
theorem dX5_fits_107 : decode cX5_fits 107 = .ok (.iaload, 1) := by decide +kernel
theorem dX5_fits_108 : decode cX5_fits 108 = .ok (.if_icmp .eq 7, 3) := by decide +kernel
theorem dX5_fits_111 : decode cX5_fits 111 = .ok (.iconst 1, 1) := by decide +kernel
theorem dX5_fits_112 : decode cX5_fits 112 = .ok (.goto 4, 3) := by decide +kernel
theorem dX5_fits_115 : decode cX5_fits 115 = .ok (.iconst 0, 1) := by decide +kernel
theorem dX5_fits_116 : decode cX5_fits 116 = .ok (.istore_n 3, 1) := by decide +kernel
theorem dX5_fits_117 : decode cX5_fits 117 = .ok (.iinc 5 1, 3) := by decide +kernel
theorem dX5_fits_120 : decode cX5_fits 120 = .ok (.goto (-54), 3) := by decide +kernel
theorem dX5_fits_123 : decode cX5_fits 123 = .ok (.iinc 4 1, 3) := by decide +kernel
theorem dX5_fits_126 : decode cX5_fits 126 = .ok (.goto (-119), 3) := by decide +kernel
theorem dX5_fits_129 : decode cX5_fits 129 = .ok (.iload_n 3, 1) := by decide +kernel
theorem dX5_fits_130 : decode cX5_fits 130 = .ok (.ireturn, 1) := by decide +kernel
theorem dX5_fit_0 : decode cX5_fit 0 = .ok (.iconst 1, 1) := by decide +kernel
theorem dX5_fit_1 : decode cX5_fit 1 = .ok (.istore_n 1, 1) := by decide +kernel
theorem dX5_fit_2 : decode cX5_fit 2 = .ok (.iconst 0, 1) := by decide +kernel
theorem dX5_fit_3 : decode cX5_fit 3 = .ok (.istore_n 2, 1) := by decide +kernel
theorem dX5_fit_4 : decode cX5_fit 4 = .ok (.iload_n 2, 1) := by decide +kernel
theorem dX5_fit_5 : decode cX5_fit 5 = .ok (.aload_n 0, 1) := by decide +kernel
theorem dX5_fit_6 : decode cX5_fit 6 = .ok (.getfield 115, 3) := by decide +kernel
theorem dX5_fit_9 : decode cX5_fit 9 = .ok (.if_icmp .ge 25, 3) := by decide +kernel
theorem dX5_fit_12 : decode cX5_fit 12 = .ok (.aload_n 0, 1) := by decide +kernel
theorem dX5_fit_13 : decode cX5_fit 13 = .ok (.getfield 85, 3) := by decide +kernel
theorem dX5_fit_16 : decode cX5_fit 16 = .ok (.iload_n 2, 1) := by decide +kernel
theorem dX5_fit_17 : decode cX5_fit 17 = .ok (.aload_n 0, 1) := by decide +kernel
theorem dX5_fit_18 : decode cX5_fit 18 = .ok (.iload_n 2, 1) := by decide +kernel
theorem dX5_fit_19 : decode cX5_fit 19 = .ok (.invokevirtual 336, 3) := by decide +kernel
theorem dX5_fit_22 : decode cX5_fit 22 = .ok (.iastore, 1) := by decide +kernel
theorem dX5_fit_23 : decode cX5_fit 23 = .ok (.iload_n 1, 1) := by decide +kernel
theorem dX5_fit_24 : decode cX5_fit 24 = .ok (.bipush 6, 2) := by decide +kernel
theorem dX5_fit_26 : decode cX5_fit 26 = .ok (.imul, 1) := by decide +kernel
theorem dX5_fit_27 : decode cX5_fit 27 = .ok (.istore_n 1, 1) := by decide +kernel
theorem dX5_fit_28 : decode cX5_fit 28 = .ok (.iinc 2 1, 3) := by decide +kernel
theorem dX5_fit_31 : decode cX5_fit 31 = .ok (.goto (-27), 3) := by decide +kernel
theorem dX5_fit_34 : decode cX5_fit 34 = .ok (.iconst 0, 1) := by decide +kernel
theorem dX5_fit_35 : decode cX5_fit 35 = .ok (.istore_n 2, 1) := by decide +kernel
theorem dX5_fit_36 : decode cX5_fit 36 = .ok (.iconst 0, 1) := by decide +kernel
theorem dX5_fit_37 : decode cX5_fit 37 = .ok (.istore_n 3, 1) := by decide +kernel
theorem dX5_fit_38 : decode cX5_fit 38 = .ok (.iload_n 3, 1) := by decide +kernel
theorem dX5_fit_39 : decode cX5_fit 39 = .ok (.iload_n 1, 1) := by decide +kernel
theorem dX5_fit_40 : decode cX5_fit 40 = .ok (.if_icmp .ge 25, 3) := by decide +kernel
theorem dX5_fit_43 : decode cX5_fit 43 = .ok (.iload_n 2, 1) := by decide +kernel
theorem dX5_fit_44 : decode cX5_fit 44 = .ok (.aload_n 0, 1) := by decide +kernel
theorem dX5_fit_45 : decode cX5_fit 45 = .ok (.iload_n 3, 1) := by decide +kernel
theorem dX5_fit_46 : decode cX5_fit 46 = .ok (.invokevirtual 339, 3) := by decide +kernel
theorem dX5_fit_49 : decode cX5_fit 49 = .ok (.ifCond .eq 7, 3) := by decide +kernel
theorem dX5_fit_52 : decode cX5_fit 52 = .ok (.iconst 1, 1) := by decide +kernel
theorem dX5_fit_53 : decode cX5_fit 53 = .ok (.goto 4, 3) := by decide +kernel
theorem dX5_fit_56 : decode cX5_fit 56 = .ok (.iconst 0, 1) := by decide +kernel
theorem dX5_fit_57 : decode cX5_fit 57 = .ok (.iadd, 1) := by decide +kernel
theorem dX5_fit_58 : decode cX5_fit 58 = .ok (.istore_n 2, 1) := by decide +kernel
theorem dX5_fit_59 : decode cX5_fit 59 = .ok (.iinc 3 1, 3) := by decide +kernel
theorem dX5_fit_62 : decode cX5_fit 62 = .ok (.goto (-24), 3) := by decide +kernel
theorem dX5_fit_65 : decode cX5_fit 65 = .ok (.iload_n 2, 1) := by decide +kernel
theorem dX5_fit_66 : decode cX5_fit 66 = .ok (.ireturn, 1) := by decide +kernel
theorem dX5_lowest_0 : decode cX5_lowest 0 = .ok (.lload_n 2, 1) := by decide +kernel
theorem dX5_lowest_1 : decode cX5_lowest 1 = .ok (.lstore 5, 2) := by decide +kernel
theorem dX5_lowest_3 : decode cX5_lowest 3 = .ok (.lload_n 0, 1) := by decide +kernel
theorem dX5_lowest_4 : decode cX5_lowest 4 = .ok (.lstore 7, 2) := by decide +kernel
theorem dX5_lowest_6 : decode cX5_lowest 6 = .ok (.lload 7, 2) := by decide +kernel
theorem dX5_lowest_8 : decode cX5_lowest 8 = .ok (.lconst 0, 1) := by decide +kernel
theorem dX5_lowest_9 : decode cX5_lowest 9 = .ok (.lcmp, 1) := by decide +kernel
theorem dX5_lowest_10 : decode cX5_lowest 10 = .ok (.ifCond .eq 21, 3) := by decide +kernel
theorem dX5_lowest_13 : decode cX5_lowest 13 = .ok (.lload 5, 2) := by decide +kernel
theorem dX5_lowest_15 : decode cX5_lowest 15 = .ok (.lload 7, 2) := by decide +kernel
theorem dX5_lowest_17 : decode cX5_lowest 17 = .ok (.lrem, 1) := by decide +kernel
theorem dX5_lowest_18 : decode cX5_lowest 18 = .ok (.lstore 9, 2) := by decide +kernel
theorem dX5_lowest_20 : decode cX5_lowest 20 = .ok (.lload 7, 2) := by decide +kernel
theorem dX5_lowest_22 : decode cX5_lowest 22 = .ok (.lstore 5, 2) := by decide +kernel
theorem dX5_lowest_24 : decode cX5_lowest 24 = .ok (.lload 9, 2) := by decide +kernel
theorem dX5_lowest_26 : decode cX5_lowest 26 = .ok (.lstore 7, 2) := by decide +kernel
theorem dX5_lowest_28 : decode cX5_lowest 28 = .ok (.goto (-22), 3) := by decide +kernel
theorem dX5_lowest_31 : decode cX5_lowest 31 = .ok (.iload 4, 2) := by decide +kernel
theorem dX5_lowest_33 : decode cX5_lowest 33 = .ok (.ifCond .ne 10, 3) := by decide +kernel
theorem dX5_lowest_36 : decode cX5_lowest 36 = .ok (.lload_n 0, 1) := by decide +kernel
theorem dX5_lowest_37 : decode cX5_lowest 37 = .ok (.lload 5, 2) := by decide +kernel
theorem dX5_lowest_39 : decode cX5_lowest 39 = .ok (.ldiv, 1) := by decide +kernel
theorem dX5_lowest_40 : decode cX5_lowest 40 = .ok (.goto 7, 3) := by decide +kernel
theorem dX5_lowest_43 : decode cX5_lowest 43 = .ok (.lload_n 2, 1) := by decide +kernel
theorem dX5_lowest_44 : decode cX5_lowest 44 = .ok (.lload 5, 2) := by decide +kernel
theorem dX5_lowest_46 : decode cX5_lowest 46 = .ok (.ldiv, 1) := by decide +kernel
theorem dX5_lowest_47 : decode cX5_lowest 47 = .ok (.lreturn, 1) := by decide +kernel
theorem dX5_chance_0 : decode cX5_chance 0 = .ok (.aload_n 0, 1) := by decide +kernel
theorem dX5_chance_1 : decode cX5_chance 1 = .ok (.iload_n 1, 1) := by decide +kernel
theorem dX5_chance_2 : decode cX5_chance 2 = .ok (.iload_n 2, 1) := by decide +kernel
theorem dX5_chance_3 : decode cX5_chance 3 = .ok (.invokevirtual 267, 3) := by decide +kernel
theorem dX5_chance_6 : decode cX5_chance 6 = .ok (.ifCond .ne 7, 3) := by decide +kernel
theorem dX5_chance_9 : decode cX5_chance 9 = .ok (.ldc2_w 342, 3) := by decide +kernel
theorem dX5_chance_12 : decode cX5_chance 12 = .ok (.lreturn, 1) := by decide +kernel
theorem dX5_chance_13 : decode cX5_chance 13 = .ok (.iload_n 3, 1) := by decide +kernel
theorem dX5_chance_14 : decode cX5_chance 14 = .ok (.i2l, 1) := by decide +kernel
theorem dX5_chance_15 : decode cX5_chance 15 = .ok (.lconst 0, 1) := by decide +kernel
theorem dX5_chance_16 : decode cX5_chance 16 = .ok (.ldc2_w 344, 3) := by decide +kernel
theorem dX5_chance_19 : decode cX5_chance 19 = .ok (.invokestatic 118, 3) := by decide +kernel
theorem dX5_chance_22 : decode cX5_chance 22 = .ok (.ifCond .eq 14, 3) := by decide +kernel
theorem dX5_chance_25 : decode cX5_chance 25 = .ok (.iload 4, 2) := by decide +kernel
theorem dX5_chance_27 : decode cX5_chance 27 = .ok (.i2l, 1) := by decide +kernel
theorem dX5_chance_28 : decode cX5_chance 28 = .ok (.lconst 0, 1) := by decide +kernel
theorem dX5_chance_29 : decode cX5_chance 29 = .ok (.lconst 1, 1) := by decide +kernel
theorem dX5_chance_30 : decode cX5_chance 30 = .ok (.invokestatic 118, 3) := by decide +kernel
theorem dX5_chance_33 : decode cX5_chance 33 = .ok (.ifCond .ne 7, 3) := by decide +kernel
theorem dX5_chance_36 : decode cX5_chance 36 = .ok (.ldc2_w 346, 3) := by decide +kernel
theorem dX5_chance_39 : decode cX5_chance 39 = .ok (.lreturn, 1) := by decide +kernel
theorem dX5_chance_40 : decode cX5_chance 40 = .ok (.aload_n 0, 1) := by decide +kernel
theorem dX5_chance_41 : decode cX5_chance 41 = .ok (.aload_n 0, 1) := by decide +kernel
theorem dX5_chance_42 : decode cX5_chance 42 = .ok (.iload_n 1, 1) := by decide +kernel
theorem dX5_chance_43 : decode cX5_chance 43 = .ok (.invokevirtual 206, 3) := by decide +kernel
theorem dX5_chance_46 : decode cX5_chance 46 = .ok (.invokevirtual 257, 3) := by decide +kernel
theorem dX5_chance_49 : decode cX5_chance 49 = .ok (.istore 5, 2) := by decide +kernel
theorem dX5_chance_51 : decode cX5_chance 51 = .ok (.lconst 0, 1) := by decide +kernel
theorem dX5_chance_52 : decode cX5_chance 52 = .ok (.lstore 6, 2) := by decide +kernel
theorem dX5_chance_54 : decode cX5_chance 54 = .ok (.lconst 0, 1) := by decide +kernel
theorem dX5_chance_55 : decode cX5_chance 55 = .ok (.lstore 8, 2) := by decide +kernel
theorem dX5_chance_57 : decode cX5_chance 57 = .ok (.iconst 0, 1) := by decide +kernel
theorem dX5_chance_58 : decode cX5_chance 58 = .ok (.istore 10, 2) := by decide +kernel
theorem dX5_chance_60 : decode cX5_chance 60 = .ok (.iload 10, 2) := by decide +kernel
theorem dX5_chance_62 : decode cX5_chance 62 = .ok (.sipush 256, 3) := by decide +kernel
theorem dX5_chance_65 : decode cX5_chance 65 = .ok (.if_icmp .ge 124, 3) := by decide +kernel
theorem dX5_chance_68 : decode cX5_chance 68 = .ok (.iload 10, 2) := by decide +kernel
theorem dX5_chance_70 : decode cX5_chance 70 = .ok (.aload_n 0, 1) := by decide +kernel
theorem dX5_chance_71 : decode cX5_chance 71 = .ok (.getfield 106, 3) := by decide +kernel
theorem dX5_chance_74 : decode cX5_chance 74 = .ok (.iconst (-1), 1) := by decide +kernel
theorem dX5_chance_75 : decode cX5_chance 75 = .ok (.ixor, 1) := by decide +kernel
theorem dX5_chance_76 : decode cX5_chance 76 = .ok (.iand, 1) := by decide +kernel
theorem dX5_chance_77 : decode cX5_chance 77 = .ok (.ifCond .ne 106, 3) := by decide +kernel
theorem dX5_chance_80 : decode cX5_chance 80 = .ok (.lconst 1, 1) := by decide +kernel
theorem dX5_chance_81 : decode cX5_chance 81 = .ok (.lstore 11, 2) := by decide +kernel
theorem dX5_chance_83 : decode cX5_chance 83 = .ok (.iconst 0, 1) := by decide +kernel
theorem dX5_chance_84 : decode cX5_chance 84 = .ok (.istore 13, 2) := by decide +kernel
theorem dX5_chance_86 : decode cX5_chance 86 = .ok (.iload 13, 2) := by decide +kernel
theorem dX5_chance_88 : decode cX5_chance 88 = .ok (.bipush 8, 2) := by decide +kernel
theorem dX5_chance_90 : decode cX5_chance 90 = .ok (.if_icmp .ge 48, 3) := by decide +kernel
theorem dX5_chance_93 : decode cX5_chance 93 = .ok (.lload 11, 2) := by decide +kernel
theorem dX5_chance_95 : decode cX5_chance 95 = .ok (.aload_n 0, 1) := by decide +kernel
theorem dX5_chance_96 : decode cX5_chance 96 = .ok (.iload 13, 2) := by decide +kernel
theorem dX5_chance_98 : decode cX5_chance 98 = .ok (.invokevirtual 140, 3) := by decide +kernel
theorem dX5_chance_101 : decode cX5_chance 101 = .ok (.ifCond .ne 7, 3) := by decide +kernel
theorem dX5_chance_104 : decode cX5_chance 104 = .ok (.lconst 1, 1) := by decide +kernel
theorem dX5_chance_105 : decode cX5_chance 105 = .ok (.goto 24, 3) := by decide +kernel
theorem dX5_chance_108 : decode cX5_chance 108 = .ok (.iload 10, 2) := by decide +kernel
theorem dX5_chance_110 : decode cX5_chance 110 = .ok (.iload 13, 2) := by decide +kernel
theorem dX5_chance_112 : decode cX5_chance 112 = .ok (.ishr, 1) := by decide +kernel
theorem dX5_chance_113 : decode cX5_chance 113 = .ok (.iconst 1, 1) := by decide +kernel
theorem dX5_chance_114 : decode cX5_chance 114 = .ok (.iand, 1) := by decide +kernel
theorem dX5_chance_115 : decode cX5_chance 115 = .ok (.iconst 1, 1) := by decide +kernel
theorem dX5_chance_116 : decode cX5_chance 116 = .ok (.if_icmp .ne 8, 3) := by decide +kernel
theorem dX5_chance_119 : decode cX5_chance 119 = .ok (.iload_n 3, 1) := by decide +kernel
theorem dX5_chance_120 : decode cX5_chance 120 = .ok (.i2l, 1) := by decide +kernel
theorem dX5_chance_121 : decode cX5_chance 121 = .ok (.goto 8, 3) := by decide +kernel
theorem dX5_chance_124 : decode cX5_chance 124 = .ok (.bipush 10, 2) := by decide +kernel
theorem dX5_chance_126 : decode cX5_chance 126 = .ok (.iload_n 3, 1) := by decide +kernel
theorem dX5_chance_127 : decode cX5_chance 127 = .ok (.isub, 1) := by decide +kernel
theorem dX5_chance_128 : decode cX5_chance 128 = .ok (.i2l, 1) := by decide +kernel
theorem dX5_chance_129 : decode cX5_chance 129 = .ok (.lmul, 1) := by decide +kernel
theorem dX5_chance_130 : decode cX5_chance 130 = .ok (.lstore 11, 2) := by decide +kernel
theorem dX5_chance_132 : decode cX5_chance 132 = .ok (.iinc 13 1, 3) := by decide +kernel
theorem dX5_chance_135 : decode cX5_chance 135 = .ok (.goto (-49), 3) := by decide +kernel
theorem dX5_chance_138 : decode cX5_chance 138 = .ok (.aload_n 0, 1) := by decide +kernel
theorem dX5_chance_139 : decode cX5_chance 139 = .ok (.iload_n 2, 1) := by decide +kernel
theorem dX5_chance_140 : decode cX5_chance 140 = .ok (.iload 5, 2) := by decide +kernel
theorem dX5_chance_142 : decode cX5_chance 142 = .ok (.iload 10, 2) := by decide +kernel
theorem dX5_chance_144 : decode cX5_chance 144 = .ok (.iand, 1) := by decide +kernel
theorem dX5_chance_145 : decode cX5_chance 145 = .ok (.invokevirtual 260, 3) := by decide +kernel
theorem dX5_chance_148 : decode cX5_chance 148 = .ok (.lload 8, 2) := by decide +kernel
theorem dX5_chance_150 : decode cX5_chance 150 = .ok (.lload 11, 2) := by decide +kernel
theorem dX5_chance_152 : decode cX5_chance 152 = .ok (.ladd, 1) := by decide +kernel
theorem dX5_chance_153 : decode cX5_chance 153 = .ok (.lstore 8, 2) := by decide +kernel
theorem dX5_chance_155 : decode cX5_chance 155 = .ok (.lload 6, 2) := by decide +kernel
theorem dX5_chance_157 : decode cX5_chance 157 = .ok (.aload_n 0, 1) := by decide +kernel
theorem dX5_chance_158 : decode cX5_chance 158 = .ok (.getfield 70, 3) := by decide +kernel
theorem dX5_chance_161 : decode cX5_chance 161 = .ok (.aload_n 0, 1) := by decide +kernel
theorem dX5_chance_162 : decode cX5_chance 162 = .ok (.getfield 22, 3) := by decide +kernel
theorem dX5_chance_165 : decode cX5_chance 165 = .ok (.iload_n 1, 1) := by decide +kernel
theorem dX5_chance_166 : decode cX5_chance 166 = .ok (.iaload, 1) := by decide +kernel
theorem dX5_chance_167 : decode cX5_chance 167 = .ok (.iaload, 1) := by decide +kernel
theorem dX5_chance_168 : decode cX5_chance 168 = .ok (.sipush 1000, 3) := by decide +kernel
theorem dX5_chance_171 : decode cX5_chance 171 = .ok (.if_icmp .ge 8, 3) := by decide +kernel
theorem dX5_chance_174 : decode cX5_chance 174 = .ok (.lload 11, 2) := by decide +kernel
theorem dX5_chance_176 : decode cX5_chance 176 = .ok (.goto 4, 3) := by decide +kernel
theorem dX5_chance_179 : decode cX5_chance 179 = .ok (.lconst 0, 1) := by decide +kernel
theorem dX5_chance_180 : decode cX5_chance 180 = .ok (.ladd, 1) := by decide +kernel
theorem dX5_chance_181 : decode cX5_chance 181 = .ok (.lstore 6, 2) := by decide +kernel
theorem dX5_chance_183 : decode cX5_chance 183 = .ok (.iinc 10 1, 3) := by decide +kernel
theorem dX5_chance_186 : decode cX5_chance 186 = .ok (.goto (-126), 3) := by decide +kernel
theorem dX5_chance_189 : decode cX5_chance 189 = .ok (.lload 6, 2) := by decide +kernel
theorem dX5_chance_191 : decode cX5_chance 191 = .ok (.lload 8, 2) := by decide +kernel
theorem dX5_chance_193 : decode cX5_chance 193 = .ok (.iload 4, 2) := by decide +kernel
theorem dX5_chance_195 : decode cX5_chance 195 = .ok (.invokestatic 348, 3) := by decide +kernel
theorem dX5_chance_198 : decode cX5_chance 198 = .ok (.lreturn, 1) := by decide +kernel
theorem dX5_year_0 : decode cX5_year 0 = .ok (.iload_n 1, 1) := by decide +kernel
theorem dX5_year_1 : decode cX5_year 1 = .ok (.i2l, 1) := by decide +kernel
theorem dX5_year_2 : decode cX5_year 2 = .ok (.lconst 0, 1) := by decide +kernel
theorem dX5_year_3 : decode cX5_year 3 = .ok (.ldc2_w 352, 3) := by decide +kernel
theorem dX5_year_6 : decode cX5_year 6 = .ok (.invokestatic 118, 3) := by decide +kernel
theorem dX5_year_9 : decode cX5_year 9 = .ok (.ifCond .eq 27, 3) := by decide +kernel
theorem dX5_year_12 : decode cX5_year 12 = .ok (.iload_n 2, 1) := by decide +kernel
theorem dX5_year_13 : decode cX5_year 13 = .ok (.i2l, 1) := by decide +kernel
theorem dX5_year_14 : decode cX5_year 14 = .ok (.lconst 1, 1) := by decide +kernel
theorem dX5_year_15 : decode cX5_year 15 = .ok (.ldc2_w 134, 3) := by decide +kernel
theorem dX5_year_18 : decode cX5_year 18 = .ok (.invokestatic 118, 3) := by decide +kernel
theorem dX5_year_21 : decode cX5_year 21 = .ok (.ifCond .eq 15, 3) := by decide +kernel
theorem dX5_year_24 : decode cX5_year 24 = .ok (.iload_n 3, 1) := by decide +kernel
theorem dX5_year_25 : decode cX5_year 25 = .ok (.i2l, 1) := by decide +kernel
theorem dX5_year_26 : decode cX5_year 26 = .ok (.lconst 0, 1) := by decide +kernel
theorem dX5_year_27 : decode cX5_year 27 = .ok (.ldc2_w 126, 3) := by decide +kernel
theorem dX5_year_30 : decode cX5_year 30 = .ok (.invokestatic 118, 3) := by decide +kernel
theorem dX5_year_33 : decode cX5_year 33 = .ok (.ifCond .ne 6, 3) := by decide +kernel
theorem dX5_year_36 : decode cX5_year 36 = .ok (.bipush (-2), 2) := by decide +kernel
theorem dX5_year_38 : decode cX5_year 38 = .ok (.ireturn, 1) := by decide +kernel
theorem dX5_year_39 : decode cX5_year 39 = .ok (.aload_n 0, 1) := by decide +kernel
theorem dX5_year_40 : decode cX5_year 40 = .ok (.invokevirtual 248, 3) := by decide +kernel
theorem dX5_year_43 : decode cX5_year 43 = .ok (.aload_n 0, 1) := by decide +kernel
theorem dX5_year_44 : decode cX5_year 44 = .ok (.iconst 0, 1) := by decide +kernel
theorem dX5_year_45 : decode cX5_year 45 = .ok (.putfield 209, 3) := by decide +kernel
theorem dX5_year_48 : decode cX5_year 48 = .ok (.iload_n 1, 1) := by decide +kernel
theorem dX5_year_49 : decode cX5_year 49 = .ok (.istore 4, 2) := by decide +kernel
theorem dX5_year_51 : decode cX5_year 51 = .ok (.iconst 1, 1) := by decide +kernel
theorem dX5_year_52 : decode cX5_year 52 = .ok (.istore 5, 2) := by decide +kernel
theorem dX5_year_54 : decode cX5_year 54 = .ok (.iload 5, 2) := by decide +kernel
theorem dX5_year_56 : decode cX5_year 56 = .ok (.iload_n 2, 1) := by decide +kernel
theorem dX5_year_57 : decode cX5_year 57 = .ok (.if_icmp .gt 65, 3) := by decide +kernel
theorem dX5_year_60 : decode cX5_year 60 = .ok (.ldc2_w 354, 3) := by decide +kernel
theorem dX5_year_63 : decode cX5_year 63 = .ok (.iload 4, 2) := by decide +kernel
theorem dX5_year_65 : decode cX5_year 65 = .ok (.i2l, 1) := by decide +kernel
theorem dX5_year_66 : decode cX5_year 66 = .ok (.lmul, 1) := by decide +kernel
theorem dX5_year_67 : decode cX5_year 67 = .ok (.ldc2_w 356, 3) := by decide +kernel
theorem dX5_year_70 : decode cX5_year 70 = .ok (.ladd, 1) := by decide +kernel
theorem dX5_year_71 : decode cX5_year 71 = .ok (.ldc2_w 358, 3) := by decide +kernel
theorem dX5_year_74 : decode cX5_year 74 = .ok (.lrem, 1) := by decide +kernel
theorem dX5_year_75 : decode cX5_year 75 = .ok (.l2i, 1) := by decide +kernel
theorem dX5_year_76 : decode cX5_year 76 = .ok (.istore 4, 2) := by decide +kernel
theorem dX5_year_78 : decode cX5_year 78 = .ok (.aload_n 0, 1) := by decide +kernel
theorem dX5_year_79 : decode cX5_year 79 = .ok (.iload 4, 2) := by decide +kernel
theorem dX5_year_81 : decode cX5_year 81 = .ok (.bipush 6, 2) := by decide +kernel
theorem dX5_year_83 : decode cX5_year 83 = .ok (.irem, 1) := by decide +kernel
theorem dX5_year_84 : decode cX5_year 84 = .ok (.iload 4, 2) := by decide +kernel
theorem dX5_year_86 : decode cX5_year 86 = .ok (.bipush 6, 2) := by decide +kernel
theorem dX5_year_88 : decode cX5_year 88 = .ok (.idiv, 1) := by decide +kernel
theorem dX5_year_89 : decode cX5_year 89 = .ok (.bipush 6, 2) := by decide +kernel
theorem dX5_year_91 : decode cX5_year 91 = .ok (.irem, 1) := by decide +kernel
theorem dX5_year_92 : decode cX5_year 92 = .ok (.iload 4, 2) := by decide +kernel
theorem dX5_year_94 : decode cX5_year 94 = .ok (.bipush 36, 2) := by decide +kernel
theorem dX5_year_96 : decode cX5_year 96 = .ok (.idiv, 1) := by decide +kernel
theorem dX5_year_97 : decode cX5_year 97 = .ok (.bipush 8, 2) := by decide +kernel
theorem dX5_year_99 : decode cX5_year 99 = .ok (.irem, 1) := by decide +kernel
theorem dX5_year_100 : decode cX5_year 100 = .ok (.invokevirtual 215, 3) := by decide +kernel
theorem dX5_year_103 : decode cX5_year 103 = .ok (.pop, 1) := by decide +kernel
theorem dX5_year_104 : decode cX5_year 104 = .ok (.iload 5, 2) := by decide +kernel
theorem dX5_year_106 : decode cX5_year 106 = .ok (.bipush 7, 2) := by decide +kernel
theorem dX5_year_108 : decode cX5_year 108 = .ok (.irem, 1) := by decide +kernel
theorem dX5_year_109 : decode cX5_year 109 = .ok (.ifCond .ne 7, 3) := by decide +kernel
theorem dX5_year_112 : decode cX5_year 112 = .ok (.aload_n 0, 1) := by decide +kernel
theorem dX5_year_113 : decode cX5_year 113 = .ok (.invokevirtual 224, 3) := by decide +kernel
theorem dX5_year_116 : decode cX5_year 116 = .ok (.iinc 5 1, 3) := by decide +kernel
theorem dX5_year_119 : decode cX5_year 119 = .ok (.goto (-65), 3) := by decide +kernel
theorem dX5_year_122 : decode cX5_year 122 = .ok (.iconst 0, 1) := by decide +kernel
theorem dX5_year_123 : decode cX5_year 123 = .ok (.istore 5, 2) := by decide +kernel
theorem dX5_year_125 : decode cX5_year 125 = .ok (.iconst 0, 1) := by decide +kernel
theorem dX5_year_126 : decode cX5_year 126 = .ok (.istore 6, 2) := by decide +kernel
theorem dX5_year_128 : decode cX5_year 128 = .ok (.iconst 0, 1) := by decide +kernel
theorem dX5_year_129 : decode cX5_year 129 = .ok (.istore 7, 2) := by decide +kernel
theorem dX5_year_131 : decode cX5_year 131 = .ok (.iload 7, 2) := by decide +kernel
theorem dX5_year_133 : decode cX5_year 133 = .ok (.bipush 6, 2) := by decide +kernel
theorem dX5_year_135 : decode cX5_year 135 = .ok (.if_icmp .ge 46, 3) := by decide +kernel
theorem dX5_year_138 : decode cX5_year 138 = .ok (.aload_n 0, 1) := by decide +kernel
theorem dX5_year_139 : decode cX5_year 139 = .ok (.iload 7, 2) := by decide +kernel
theorem dX5_year_141 : decode cX5_year 141 = .ok (.invokevirtual 143, 3) := by decide +kernel
theorem dX5_year_144 : decode cX5_year 144 = .ok (.ifCond .eq 12, 3) := by decide +kernel
theorem dX5_year_147 : decode cX5_year 147 = .ok (.aload_n 0, 1) := by decide +kernel
theorem dX5_year_148 : decode cX5_year 148 = .ok (.iload 7, 2) := by decide +kernel
theorem dX5_year_150 : decode cX5_year 150 = .ok (.invokevirtual 206, 3) := by decide +kernel
theorem dX5_year_153 : decode cX5_year 153 = .ok (.goto 4, 3) := by decide +kernel
theorem dX5_year_156 : decode cX5_year 156 = .ok (.iconst 0, 1) := by decide +kernel
theorem dX5_year_157 : decode cX5_year 157 = .ok (.istore 8, 2) := by decide +kernel
theorem dX5_year_159 : decode cX5_year 159 = .ok (.iload 8, 2) := by decide +kernel
theorem dX5_year_161 : decode cX5_year 161 = .ok (.iload 5, 2) := by decide +kernel
theorem dX5_year_163 : decode cX5_year 163 = .ok (.if_icmp .le 8, 3) := by decide +kernel
theorem dX5_year_166 : decode cX5_year 166 = .ok (.iload 8, 2) := by decide +kernel
theorem dX5_year_168 : decode cX5_year 168 = .ok (.goto 5, 3) := by decide +kernel
theorem dX5_year_171 : decode cX5_year 171 = .ok (.iload 5, 2) := by decide +kernel
theorem dX5_year_173 : decode cX5_year 173 = .ok (.istore 5, 2) := by decide +kernel
theorem dX5_year_175 : decode cX5_year 175 = .ok (.iinc 7 1, 3) := by decide +kernel
theorem dX5_year_178 : decode cX5_year 178 = .ok (.goto (-47), 3) := by decide +kernel
theorem dX5_year_181 : decode cX5_year 181 = .ok (.iconst 0, 1) := by decide +kernel
theorem dX5_year_182 : decode cX5_year 182 = .ok (.istore 7, 2) := by decide +kernel
theorem dX5_year_184 : decode cX5_year 184 = .ok (.iload 7, 2) := by decide +kernel
theorem dX5_year_186 : decode cX5_year 186 = .ok (.bipush 8, 2) := by decide +kernel
theorem dX5_year_188 : decode cX5_year 188 = .ok (.if_icmp .ge 33, 3) := by decide +kernel
theorem dX5_year_191 : decode cX5_year 191 = .ok (.aload_n 0, 1) := by decide +kernel
theorem dX5_year_192 : decode cX5_year 192 = .ok (.iload 7, 2) := by decide +kernel
theorem dX5_year_194 : decode cX5_year 194 = .ok (.invokevirtual 195, 3) := by decide +kernel
theorem dX5_year_197 : decode cX5_year 197 = .ok (.iload 6, 2) := by decide +kernel
theorem dX5_year_199 : decode cX5_year 199 = .ok (.if_icmp .le 12, 3) := by decide +kernel
theorem dX5_year_202 : decode cX5_year 202 = .ok (.aload_n 0, 1) := by decide +kernel
theorem dX5_year_203 : decode cX5_year 203 = .ok (.iload 7, 2) := by decide +kernel
theorem dX5_year_205 : decode cX5_year 205 = .ok (.invokevirtual 195, 3) := by decide +kernel
theorem dX5_year_208 : decode cX5_year 208 = .ok (.goto 5, 3) := by decide +kernel
theorem dX5_year_211 : decode cX5_year 211 = .ok (.iload 6, 2) := by decide +kernel
theorem dX5_year_213 : decode cX5_year 213 = .ok (.istore 6, 2) := by decide +kernel
theorem dX5_year_215 : decode cX5_year 215 = .ok (.iinc 7 1, 3) := by decide +kernel
theorem dX5_year_218 : decode cX5_year 218 = .ok (.goto (-34), 3) := by decide +kernel
theorem dX5_year_221 : decode cX5_year 221 = .ok (.aload_n 0, 1) := by decide +kernel
theorem dX5_year_222 : decode cX5_year 222 = .ok (.invokevirtual 254, 3) := by decide +kernel
theorem dX5_year_225 : decode cX5_year 225 = .ok (.iload_n 3, 1) := by decide +kernel
theorem dX5_year_226 : decode cX5_year 226 = .ok (.ifCond .ne 10, 3) := by decide +kernel
theorem dX5_year_229 : decode cX5_year 229 = .ok (.aload_n 0, 1) := by decide +kernel
theorem dX5_year_230 : decode cX5_year 230 = .ok (.getfield 209, 3) := by decide +kernel
theorem dX5_year_233 : decode cX5_year 233 = .ok (.goto 15, 3) := by decide +kernel
theorem dX5_year_236 : decode cX5_year 236 = .ok (.iload_n 3, 1) := by decide +kernel
theorem dX5_year_237 : decode cX5_year 237 = .ok (.iconst 1, 1) := by decide +kernel
theorem dX5_year_238 : decode cX5_year 238 = .ok (.if_icmp .ne 8, 3) := by decide +kernel
theorem dX5_year_241 : decode cX5_year 241 = .ok (.iload 5, 2) := by decide +kernel
theorem dX5_year_243 : decode cX5_year 243 = .ok (.goto 5, 3) := by decide +kernel
theorem dX5_year_246 : decode cX5_year 246 = .ok (.iload 6, 2) := by decide +kernel
theorem dX5_year_248 : decode cX5_year 248 = .ok (.ireturn, 1) := by decide +kernel
theorem dX5_pass_0 : decode cX5_pass 0 = .ok (.aload_n 0, 1) := by decide +kernel
theorem dX5_pass_1 : decode cX5_pass 1 = .ok (.getfield 360, 3) := by decide +kernel
theorem dX5_pass_4 : decode cX5_pass 4 = .ok (.ifCond .eq 7, 3) := by decide +kernel
theorem dX5_pass_7 : decode cX5_pass 7 = .ok (.iload_n 1, 1) := by decide +kernel
theorem dX5_pass_8 : decode cX5_pass 8 = .ok (.goto 12, 3) := by decide +kernel
theorem dX5_pass_11 : decode cX5_pass 11 = .ok (.aload_n 0, 1) := by decide +kernel
theorem dX5_pass_12 : decode cX5_pass 12 = .ok (.getfield 88, 3) := by decide +kernel
theorem dX5_pass_15 : decode cX5_pass 15 = .ok (.aload_n 0, 1) := by decide +kernel
theorem dX5_pass_16 : decode cX5_pass 16 = .ok (.getfield 364, 3) := by decide +kernel
theorem dX5_pass_19 : decode cX5_pass 19 = .ok (.iaload, 1) := by decide +kernel
theorem dX5_pass_20 : decode cX5_pass 20 = .ok (.istore_n 2, 1) := by decide +kernel
theorem dX5_pass_21 : decode cX5_pass 21 = .ok (.aload_n 0, 1) := by decide +kernel
theorem dX5_pass_22 : decode cX5_pass 22 = .ok (.getfield 88, 3) := by decide +kernel
theorem dX5_pass_25 : decode cX5_pass 25 = .ok (.aload_n 0, 1) := by decide +kernel
theorem dX5_pass_26 : decode cX5_pass 26 = .ok (.getfield 364, 3) := by decide +kernel
theorem dX5_pass_29 : decode cX5_pass 29 = .ok (.iload_n 2, 1) := by decide +kernel
theorem dX5_pass_30 : decode cX5_pass 30 = .ok (.iastore, 1) := by decide +kernel
theorem dX5_pass_31 : decode cX5_pass 31 = .ok (.aload_n 0, 1) := by decide +kernel
theorem dX5_pass_32 : decode cX5_pass 32 = .ok (.dup, 1) := by decide +kernel
theorem dX5_pass_33 : decode cX5_pass 33 = .ok (.getfield 364, 3) := by decide +kernel
theorem dX5_pass_36 : decode cX5_pass 36 = .ok (.iconst 1, 1) := by decide +kernel
theorem dX5_pass_37 : decode cX5_pass 37 = .ok (.iadd, 1) := by decide +kernel
theorem dX5_pass_38 : decode cX5_pass 38 = .ok (.putfield 364, 3) := by decide +kernel
theorem dX5_pass_41 : decode cX5_pass 41 = .ok (.iload_n 2, 1) := by decide +kernel
theorem dX5_pass_42 : decode cX5_pass 42 = .ok (.ireturn, 1) := by decide +kernel
theorem dX5_passAll_0 : decode cX5_passAll 0 = .ok (.aload_n 0, 1) := by decide +kernel
theorem dX5_passAll_1 : decode cX5_passAll 1 = .ok (.aload_n 0, 1) := by decide +kernel
theorem dX5_passAll_2 : decode cX5_passAll 2 = .ok (.aload_n 0, 1) := by decide +kernel
theorem dX5_passAll_3 : decode cX5_passAll 3 = .ok (.getfield 103, 3) := by decide +kernel
theorem dX5_passAll_6 : decode cX5_passAll 6 = .ok (.invokevirtual 367, 3) := by decide +kernel
theorem dX5_passAll_9 : decode cX5_passAll 9 = .ok (.putfield 103, 3) := by decide +kernel
theorem dX5_passAll_12 : decode cX5_passAll 12 = .ok (.aload_n 0, 1) := by decide +kernel
theorem dX5_passAll_13 : decode cX5_passAll 13 = .ok (.aload_n 0, 1) := by decide +kernel
theorem dX5_passAll_14 : decode cX5_passAll 14 = .ok (.aload_n 0, 1) := by decide +kernel
theorem dX5_passAll_15 : decode cX5_passAll 15 = .ok (.getfield 106, 3) := by decide +kernel
theorem dX5_passAll_18 : decode cX5_passAll 18 = .ok (.invokevirtual 367, 3) := by decide +kernel
theorem dX5_passAll_21 : decode cX5_passAll 21 = .ok (.putfield 106, 3) := by decide +kernel
theorem dX5_passAll_24 : decode cX5_passAll 24 = .ok (.aload_n 0, 1) := by decide +kernel
theorem dX5_passAll_25 : decode cX5_passAll 25 = .ok (.aload_n 0, 1) := by decide +kernel
theorem dX5_passAll_26 : decode cX5_passAll 26 = .ok (.aload_n 0, 1) := by decide +kernel
theorem dX5_passAll_27 : decode cX5_passAll 27 = .ok (.getfield 109, 3) := by decide +kernel
theorem dX5_passAll_30 : decode cX5_passAll 30 = .ok (.invokevirtual 367, 3) := by decide +kernel
theorem dX5_passAll_33 : decode cX5_passAll 33 = .ok (.putfield 109, 3) := by decide +kernel
theorem dX5_passAll_36 : decode cX5_passAll 36 = .ok (.aload_n 0, 1) := by decide +kernel
theorem dX5_passAll_37 : decode cX5_passAll 37 = .ok (.aload_n 0, 1) := by decide +kernel
theorem dX5_passAll_38 : decode cX5_passAll 38 = .ok (.aload_n 0, 1) := by decide +kernel
theorem dX5_passAll_39 : decode cX5_passAll 39 = .ok (.getfield 112, 3) := by decide +kernel
theorem dX5_passAll_42 : decode cX5_passAll 42 = .ok (.invokevirtual 367, 3) := by decide +kernel
theorem dX5_passAll_45 : decode cX5_passAll 45 = .ok (.putfield 112, 3) := by decide +kernel
theorem dX5_passAll_48 : decode cX5_passAll 48 = .ok (.aload_n 0, 1) := by decide +kernel
theorem dX5_passAll_49 : decode cX5_passAll 49 = .ok (.aload_n 0, 1) := by decide +kernel
theorem dX5_passAll_50 : decode cX5_passAll 50 = .ok (.aload_n 0, 1) := by decide +kernel
theorem dX5_passAll_51 : decode cX5_passAll 51 = .ok (.getfield 95, 3) := by decide +kernel
theorem dX5_passAll_54 : decode cX5_passAll 54 = .ok (.invokevirtual 367, 3) := by decide +kernel
theorem dX5_passAll_57 : decode cX5_passAll 57 = .ok (.putfield 95, 3) := by decide +kernel
theorem dX5_passAll_60 : decode cX5_passAll 60 = .ok (.aload_n 0, 1) := by decide +kernel
theorem dX5_passAll_61 : decode cX5_passAll 61 = .ok (.aload_n 0, 1) := by decide +kernel
theorem dX5_passAll_62 : decode cX5_passAll 62 = .ok (.aload_n 0, 1) := by decide +kernel
theorem dX5_passAll_63 : decode cX5_passAll 63 = .ok (.getfield 115, 3) := by decide +kernel
theorem dX5_passAll_66 : decode cX5_passAll 66 = .ok (.invokevirtual 367, 3) := by decide +kernel
theorem dX5_passAll_69 : decode cX5_passAll 69 = .ok (.putfield 115, 3) := by decide +kernel
theorem dX5_passAll_72 : decode cX5_passAll 72 = .ok (.iconst 0, 1) := by decide +kernel
theorem dX5_passAll_73 : decode cX5_passAll 73 = .ok (.istore_n 1, 1) := by decide +kernel
theorem dX5_passAll_74 : decode cX5_passAll 74 = .ok (.iload_n 1, 1) := by decide +kernel
theorem dX5_passAll_75 : decode cX5_passAll 75 = .ok (.bipush 8, 2) := by decide +kernel
theorem dX5_passAll_77 : decode cX5_passAll 77 = .ok (.if_icmp .ge 105, 3) := by decide +kernel
theorem dX5_passAll_80 : decode cX5_passAll 80 = .ok (.aload_n 0, 1) := by decide +kernel
theorem dX5_passAll_81 : decode cX5_passAll 81 = .ok (.getfield 7, 3) := by decide +kernel
theorem dX5_passAll_84 : decode cX5_passAll 84 = .ok (.iload_n 1, 1) := by decide +kernel
theorem dX5_passAll_85 : decode cX5_passAll 85 = .ok (.aload_n 0, 1) := by decide +kernel
theorem dX5_passAll_86 : decode cX5_passAll 86 = .ok (.aload_n 0, 1) := by decide +kernel
theorem dX5_passAll_87 : decode cX5_passAll 87 = .ok (.getfield 7, 3) := by decide +kernel
theorem dX5_passAll_90 : decode cX5_passAll 90 = .ok (.iload_n 1, 1) := by decide +kernel
theorem dX5_passAll_91 : decode cX5_passAll 91 = .ok (.iaload, 1) := by decide +kernel
theorem dX5_passAll_92 : decode cX5_passAll 92 = .ok (.invokevirtual 367, 3) := by decide +kernel
theorem dX5_passAll_95 : decode cX5_passAll 95 = .ok (.iastore, 1) := by decide +kernel
theorem dX5_passAll_96 : decode cX5_passAll 96 = .ok (.aload_n 0, 1) := by decide +kernel
theorem dX5_passAll_97 : decode cX5_passAll 97 = .ok (.getfield 13, 3) := by decide +kernel
theorem dX5_passAll_100 : decode cX5_passAll 100 = .ok (.iload_n 1, 1) := by decide +kernel
theorem dX5_passAll_101 : decode cX5_passAll 101 = .ok (.aload_n 0, 1) := by decide +kernel
theorem dX5_passAll_102 : decode cX5_passAll 102 = .ok (.aload_n 0, 1) := by decide +kernel
theorem dX5_passAll_103 : decode cX5_passAll 103 = .ok (.getfield 13, 3) := by decide +kernel
theorem dX5_passAll_106 : decode cX5_passAll 106 = .ok (.iload_n 1, 1) := by decide +kernel
theorem dX5_passAll_107 : decode cX5_passAll 107 = .ok (.iaload, 1) := by decide +kernel
theorem dX5_passAll_108 : decode cX5_passAll 108 = .ok (.invokevirtual 367, 3) := by decide +kernel
theorem dX5_passAll_111 : decode cX5_passAll 111 = .ok (.iastore, 1) := by decide +kernel
theorem dX5_passAll_112 : decode cX5_passAll 112 = .ok (.aload_n 0, 1) := by decide +kernel
theorem dX5_passAll_113 : decode cX5_passAll 113 = .ok (.getfield 16, 3) := by decide +kernel
theorem dX5_passAll_116 : decode cX5_passAll 116 = .ok (.iload_n 1, 1) := by decide +kernel
theorem dX5_passAll_117 : decode cX5_passAll 117 = .ok (.aload_n 0, 1) := by decide +kernel
theorem dX5_passAll_118 : decode cX5_passAll 118 = .ok (.aload_n 0, 1) := by decide +kernel
theorem dX5_passAll_119 : decode cX5_passAll 119 = .ok (.getfield 16, 3) := by decide +kernel
theorem dX5_passAll_122 : decode cX5_passAll 122 = .ok (.iload_n 1, 1) := by decide +kernel
theorem dX5_passAll_123 : decode cX5_passAll 123 = .ok (.iaload, 1) := by decide +kernel
theorem dX5_passAll_124 : decode cX5_passAll 124 = .ok (.invokevirtual 367, 3) := by decide +kernel
theorem dX5_passAll_127 : decode cX5_passAll 127 = .ok (.iastore, 1) := by decide +kernel
theorem dX5_passAll_128 : decode cX5_passAll 128 = .ok (.aload_n 0, 1) := by decide +kernel
theorem dX5_passAll_129 : decode cX5_passAll 129 = .ok (.getfield 19, 3) := by decide +kernel
theorem dX5_passAll_132 : decode cX5_passAll 132 = .ok (.iload_n 1, 1) := by decide +kernel
theorem dX5_passAll_133 : decode cX5_passAll 133 = .ok (.aload_n 0, 1) := by decide +kernel
theorem dX5_passAll_134 : decode cX5_passAll 134 = .ok (.aload_n 0, 1) := by decide +kernel
theorem dX5_passAll_135 : decode cX5_passAll 135 = .ok (.getfield 19, 3) := by decide +kernel
theorem dX5_passAll_138 : decode cX5_passAll 138 = .ok (.iload_n 1, 1) := by decide +kernel
theorem dX5_passAll_139 : decode cX5_passAll 139 = .ok (.iaload, 1) := by decide +kernel
theorem dX5_passAll_140 : decode cX5_passAll 140 = .ok (.invokevirtual 367, 3) := by decide +kernel
theorem dX5_passAll_143 : decode cX5_passAll 143 = .ok (.iastore, 1) := by decide +kernel
theorem dX5_passAll_144 : decode cX5_passAll 144 = .ok (.aload_n 0, 1) := by decide +kernel
theorem dX5_passAll_145 : decode cX5_passAll 145 = .ok (.getfield 31, 3) := by decide +kernel
theorem dX5_passAll_148 : decode cX5_passAll 148 = .ok (.iload_n 1, 1) := by decide +kernel
theorem dX5_passAll_149 : decode cX5_passAll 149 = .ok (.aload_n 0, 1) := by decide +kernel
theorem dX5_passAll_150 : decode cX5_passAll 150 = .ok (.aload_n 0, 1) := by decide +kernel
theorem dX5_passAll_151 : decode cX5_passAll 151 = .ok (.getfield 31, 3) := by decide +kernel
theorem dX5_passAll_154 : decode cX5_passAll 154 = .ok (.iload_n 1, 1) := by decide +kernel
theorem dX5_passAll_155 : decode cX5_passAll 155 = .ok (.iaload, 1) := by decide +kernel
theorem dX5_passAll_156 : decode cX5_passAll 156 = .ok (.invokevirtual 367, 3) := by decide +kernel
theorem dX5_passAll_159 : decode cX5_passAll 159 = .ok (.iastore, 1) := by decide +kernel
theorem dX5_passAll_160 : decode cX5_passAll 160 = .ok (.aload_n 0, 1) := by decide +kernel
theorem dX5_passAll_161 : decode cX5_passAll 161 = .ok (.getfield 34, 3) := by decide +kernel
theorem dX5_passAll_164 : decode cX5_passAll 164 = .ok (.iload_n 1, 1) := by decide +kernel
theorem dX5_passAll_165 : decode cX5_passAll 165 = .ok (.aload_n 0, 1) := by decide +kernel
theorem dX5_passAll_166 : decode cX5_passAll 166 = .ok (.aload_n 0, 1) := by decide +kernel
theorem dX5_passAll_167 : decode cX5_passAll 167 = .ok (.getfield 34, 3) := by decide +kernel
theorem dX5_passAll_170 : decode cX5_passAll 170 = .ok (.iload_n 1, 1) := by decide +kernel
theorem dX5_passAll_171 : decode cX5_passAll 171 = .ok (.iaload, 1) := by decide +kernel
theorem dX5_passAll_172 : decode cX5_passAll 172 = .ok (.invokevirtual 367, 3) := by decide +kernel
theorem dX5_passAll_175 : decode cX5_passAll 175 = .ok (.iastore, 1) := by decide +kernel
theorem dX5_passAll_176 : decode cX5_passAll 176 = .ok (.iinc 1 1, 3) := by decide +kernel
theorem dX5_passAll_179 : decode cX5_passAll 179 = .ok (.goto (-105), 3) := by decide +kernel
theorem dX5_passAll_182 : decode cX5_passAll 182 = .ok (.iconst 0, 1) := by decide +kernel
theorem dX5_passAll_183 : decode cX5_passAll 183 = .ok (.istore_n 1, 1) := by decide +kernel
theorem dX5_passAll_184 : decode cX5_passAll 184 = .ok (.iload_n 1, 1) := by decide +kernel
theorem dX5_passAll_185 : decode cX5_passAll 185 = .ok (.bipush 6, 2) := by decide +kernel
theorem dX5_passAll_187 : decode cX5_passAll 187 = .ok (.if_icmp .ge 89, 3) := by decide +kernel
theorem dX5_passAll_190 : decode cX5_passAll 190 = .ok (.aload_n 0, 1) := by decide +kernel
theorem dX5_passAll_191 : decode cX5_passAll 191 = .ok (.getfield 22, 3) := by decide +kernel
theorem dX5_passAll_194 : decode cX5_passAll 194 = .ok (.iload_n 1, 1) := by decide +kernel
theorem dX5_passAll_195 : decode cX5_passAll 195 = .ok (.aload_n 0, 1) := by decide +kernel
theorem dX5_passAll_196 : decode cX5_passAll 196 = .ok (.aload_n 0, 1) := by decide +kernel
theorem dX5_passAll_197 : decode cX5_passAll 197 = .ok (.getfield 22, 3) := by decide +kernel
theorem dX5_passAll_200 : decode cX5_passAll 200 = .ok (.iload_n 1, 1) := by decide +kernel
theorem dX5_passAll_201 : decode cX5_passAll 201 = .ok (.iaload, 1) := by decide +kernel
theorem dX5_passAll_202 : decode cX5_passAll 202 = .ok (.invokevirtual 367, 3) := by decide +kernel
theorem dX5_passAll_205 : decode cX5_passAll 205 = .ok (.iastore, 1) := by decide +kernel
theorem dX5_passAll_206 : decode cX5_passAll 206 = .ok (.aload_n 0, 1) := by decide +kernel
theorem dX5_passAll_207 : decode cX5_passAll 207 = .ok (.getfield 25, 3) := by decide +kernel
theorem dX5_passAll_210 : decode cX5_passAll 210 = .ok (.iload_n 1, 1) := by decide +kernel
theorem dX5_passAll_211 : decode cX5_passAll 211 = .ok (.aload_n 0, 1) := by decide +kernel
theorem dX5_passAll_212 : decode cX5_passAll 212 = .ok (.aload_n 0, 1) := by decide +kernel
theorem dX5_passAll_213 : decode cX5_passAll 213 = .ok (.getfield 25, 3) := by decide +kernel
theorem dX5_passAll_216 : decode cX5_passAll 216 = .ok (.iload_n 1, 1) := by decide +kernel
theorem dX5_passAll_217 : decode cX5_passAll 217 = .ok (.iaload, 1) := by decide +kernel
theorem dX5_passAll_218 : decode cX5_passAll 218 = .ok (.invokevirtual 367, 3) := by decide +kernel
theorem dX5_passAll_221 : decode cX5_passAll 221 = .ok (.iastore, 1) := by decide +kernel
theorem dX5_passAll_222 : decode cX5_passAll 222 = .ok (.aload_n 0, 1) := by decide +kernel
theorem dX5_passAll_223 : decode cX5_passAll 223 = .ok (.getfield 28, 3) := by decide +kernel
theorem dX5_passAll_226 : decode cX5_passAll 226 = .ok (.iload_n 1, 1) := by decide +kernel
theorem dX5_passAll_227 : decode cX5_passAll 227 = .ok (.aload_n 0, 1) := by decide +kernel
theorem dX5_passAll_228 : decode cX5_passAll 228 = .ok (.aload_n 0, 1) := by decide +kernel
theorem dX5_passAll_229 : decode cX5_passAll 229 = .ok (.getfield 28, 3) := by decide +kernel
theorem dX5_passAll_232 : decode cX5_passAll 232 = .ok (.iload_n 1, 1) := by decide +kernel
theorem dX5_passAll_233 : decode cX5_passAll 233 = .ok (.iaload, 1) := by decide +kernel
theorem dX5_passAll_234 : decode cX5_passAll 234 = .ok (.invokevirtual 367, 3) := by decide +kernel
theorem dX5_passAll_237 : decode cX5_passAll 237 = .ok (.iastore, 1) := by decide +kernel
theorem dX5_passAll_238 : decode cX5_passAll 238 = .ok (.aload_n 0, 1) := by decide +kernel
theorem dX5_passAll_239 : decode cX5_passAll 239 = .ok (.getfield 37, 3) := by decide +kernel
theorem dX5_passAll_242 : decode cX5_passAll 242 = .ok (.iload_n 1, 1) := by decide +kernel
theorem dX5_passAll_243 : decode cX5_passAll 243 = .ok (.aload_n 0, 1) := by decide +kernel
theorem dX5_passAll_244 : decode cX5_passAll 244 = .ok (.aload_n 0, 1) := by decide +kernel
theorem dX5_passAll_245 : decode cX5_passAll 245 = .ok (.getfield 37, 3) := by decide +kernel
theorem dX5_passAll_248 : decode cX5_passAll 248 = .ok (.iload_n 1, 1) := by decide +kernel
theorem dX5_passAll_249 : decode cX5_passAll 249 = .ok (.iaload, 1) := by decide +kernel
theorem dX5_passAll_250 : decode cX5_passAll 250 = .ok (.invokevirtual 367, 3) := by decide +kernel
theorem dX5_passAll_253 : decode cX5_passAll 253 = .ok (.iastore, 1) := by decide +kernel
theorem dX5_passAll_254 : decode cX5_passAll 254 = .ok (.aload_n 0, 1) := by decide +kernel
theorem dX5_passAll_255 : decode cX5_passAll 255 = .ok (.getfield 40, 3) := by decide +kernel
theorem dX5_passAll_258 : decode cX5_passAll 258 = .ok (.iload_n 1, 1) := by decide +kernel
theorem dX5_passAll_259 : decode cX5_passAll 259 = .ok (.aload_n 0, 1) := by decide +kernel
theorem dX5_passAll_260 : decode cX5_passAll 260 = .ok (.aload_n 0, 1) := by decide +kernel
theorem dX5_passAll_261 : decode cX5_passAll 261 = .ok (.getfield 40, 3) := by decide +kernel
theorem dX5_passAll_264 : decode cX5_passAll 264 = .ok (.iload_n 1, 1) := by decide +kernel
theorem dX5_passAll_265 : decode cX5_passAll 265 = .ok (.iaload, 1) := by decide +kernel
theorem dX5_passAll_266 : decode cX5_passAll 266 = .ok (.invokevirtual 367, 3) := by decide +kernel
theorem dX5_passAll_269 : decode cX5_passAll 269 = .ok (.iastore, 1) := by decide +kernel
theorem dX5_passAll_270 : decode cX5_passAll 270 = .ok (.iinc 1 1, 3) := by decide +kernel
theorem dX5_passAll_273 : decode cX5_passAll 273 = .ok (.goto (-89), 3) := by decide +kernel
theorem dX5_passAll_276 : decode cX5_passAll 276 = .ok (.return_, 1) := by decide +kernel
theorem dX5_image_0 : decode cX5_image 0 = .ok (.iload_n 1, 1) := by decide +kernel
theorem dX5_image_1 : decode cX5_image 1 = .ok (.i2l, 1) := by decide +kernel
theorem dX5_image_2 : decode cX5_image 2 = .ok (.lconst 0, 1) := by decide +kernel
theorem dX5_image_3 : decode cX5_image 3 = .ok (.lconst 1, 1) := by decide +kernel
theorem dX5_image_4 : decode cX5_image 4 = .ok (.invokestatic 118, 3) := by decide +kernel
theorem dX5_image_7 : decode cX5_image 7 = .ok (.ifCond .ne 6, 3) := by decide +kernel
theorem dX5_image_10 : decode cX5_image 10 = .ok (.bipush (-2), 2) := by decide +kernel
theorem dX5_image_12 : decode cX5_image 12 = .ok (.ireturn, 1) := by decide +kernel
theorem dX5_image_13 : decode cX5_image 13 = .ok (.aload_n 0, 1) := by decide +kernel
theorem dX5_image_14 : decode cX5_image 14 = .ok (.bipush 100, 2) := by decide +kernel
theorem dX5_image_16 : decode cX5_image 16 = .ok (.iload_n 1, 1) := by decide +kernel
theorem dX5_image_17 : decode cX5_image 17 = .ok (.imul, 1) := by decide +kernel
theorem dX5_image_18 : decode cX5_image 18 = .ok (.putfield 364, 3) := by decide +kernel
theorem dX5_image_21 : decode cX5_image 21 = .ok (.aload_n 0, 1) := by decide +kernel
theorem dX5_image_22 : decode cX5_image 22 = .ok (.iconst 1, 1) := by decide +kernel
theorem dX5_image_23 : decode cX5_image 23 = .ok (.putfield 360, 3) := by decide +kernel
theorem dX5_image_26 : decode cX5_image 26 = .ok (.aload_n 0, 1) := by decide +kernel
theorem dX5_image_27 : decode cX5_image 27 = .ok (.invokevirtual 370, 3) := by decide +kernel
theorem dX5_image_30 : decode cX5_image 30 = .ok (.aload_n 0, 1) := by decide +kernel
theorem dX5_image_31 : decode cX5_image 31 = .ok (.getfield 91, 3) := by decide +kernel
theorem dX5_image_34 : decode cX5_image 34 = .ok (.iload_n 1, 1) := by decide +kernel
theorem dX5_image_35 : decode cX5_image 35 = .ok (.iconst 1, 1) := by decide +kernel
theorem dX5_image_36 : decode cX5_image 36 = .ok (.bastore, 1) := by decide +kernel
theorem dX5_image_37 : decode cX5_image 37 = .ok (.iconst 1, 1) := by decide +kernel
theorem dX5_image_38 : decode cX5_image 38 = .ok (.ireturn, 1) := by decide +kernel
theorem dX5_restore_0 : decode cX5_restore 0 = .ok (.iload_n 1, 1) := by decide +kernel
theorem dX5_restore_1 : decode cX5_restore 1 = .ok (.i2l, 1) := by decide +kernel
theorem dX5_restore_2 : decode cX5_restore 2 = .ok (.lconst 0, 1) := by decide +kernel
theorem dX5_restore_3 : decode cX5_restore 3 = .ok (.lconst 1, 1) := by decide +kernel
theorem dX5_restore_4 : decode cX5_restore 4 = .ok (.invokestatic 118, 3) := by decide +kernel
theorem dX5_restore_7 : decode cX5_restore 7 = .ok (.ifCond .ne 6, 3) := by decide +kernel
theorem dX5_restore_10 : decode cX5_restore 10 = .ok (.bipush (-2), 2) := by decide +kernel
theorem dX5_restore_12 : decode cX5_restore 12 = .ok (.ireturn, 1) := by decide +kernel
theorem dX5_restore_13 : decode cX5_restore 13 = .ok (.aload_n 0, 1) := by decide +kernel
theorem dX5_restore_14 : decode cX5_restore 14 = .ok (.getfield 91, 3) := by decide +kernel
theorem dX5_restore_17 : decode cX5_restore 17 = .ok (.iload_n 1, 1) := by decide +kernel
theorem dX5_restore_18 : decode cX5_restore 18 = .ok (.baload, 1) := by decide +kernel
theorem dX5_restore_19 : decode cX5_restore 19 = .ok (.ifCond .ne 6, 3) := by decide +kernel
theorem dX5_restore_22 : decode cX5_restore 22 = .ok (.bipush (-3), 2) := by decide +kernel
theorem dX5_restore_24 : decode cX5_restore 24 = .ok (.ireturn, 1) := by decide +kernel
theorem dX5_restore_25 : decode cX5_restore 25 = .ok (.aload_n 0, 1) := by decide +kernel
theorem dX5_restore_26 : decode cX5_restore 26 = .ok (.bipush 100, 2) := by decide +kernel
theorem dX5_restore_28 : decode cX5_restore 28 = .ok (.iload_n 1, 1) := by decide +kernel
theorem dX5_restore_29 : decode cX5_restore 29 = .ok (.imul, 1) := by decide +kernel
theorem dX5_restore_30 : decode cX5_restore 30 = .ok (.putfield 364, 3) := by decide +kernel
theorem dX5_restore_33 : decode cX5_restore 33 = .ok (.aload_n 0, 1) := by decide +kernel
theorem dX5_restore_34 : decode cX5_restore 34 = .ok (.iconst 0, 1) := by decide +kernel
theorem dX5_restore_35 : decode cX5_restore 35 = .ok (.putfield 360, 3) := by decide +kernel
theorem dX5_restore_38 : decode cX5_restore 38 = .ok (.aload_n 0, 1) := by decide +kernel
theorem dX5_restore_39 : decode cX5_restore 39 = .ok (.invokevirtual 370, 3) := by decide +kernel
theorem dX5_restore_42 : decode cX5_restore 42 = .ok (.iconst 1, 1) := by decide +kernel
theorem dX5_restore_43 : decode cX5_restore 43 = .ok (.ireturn, 1) := by decide +kernel
theorem dX5_toldOfBridge_0 : decode cX5_toldOfBridge 0 = .ok (.aload_n 0, 1) := by decide +kernel
theorem dX5_toldOfBridge_1 : decode cX5_toldOfBridge 1 = .ok (.iload_n 1, 1) := by decide +kernel
theorem dX5_toldOfBridge_2 : decode cX5_toldOfBridge 2 = .ok (.invokevirtual 140, 3) := by decide +kernel
theorem dX5_toldOfBridge_5 : decode cX5_toldOfBridge 5 = .ok (.ifCond .ne 6, 3) := by decide +kernel
theorem dX5_toldOfBridge_8 : decode cX5_toldOfBridge 8 = .ok (.bipush (-2), 2) := by decide +kernel
theorem dX5_toldOfBridge_10 : decode cX5_toldOfBridge 10 = .ok (.ireturn, 1) := by decide +kernel
theorem dX5_toldOfBridge_11 : decode cX5_toldOfBridge 11 = .ok (.iload_n 2, 1) := by decide +kernel
theorem dX5_toldOfBridge_12 : decode cX5_toldOfBridge 12 = .ok (.ifCond .ne 12, 3) := by decide +kernel
theorem dX5_toldOfBridge_15 : decode cX5_toldOfBridge 15 = .ok (.aload_n 0, 1) := by decide +kernel
theorem dX5_toldOfBridge_16 : decode cX5_toldOfBridge 16 = .ok (.getfield 16, 3) := by decide +kernel
theorem dX5_toldOfBridge_19 : decode cX5_toldOfBridge 19 = .ok (.iload_n 1, 1) := by decide +kernel
theorem dX5_toldOfBridge_20 : decode cX5_toldOfBridge 20 = .ok (.iaload, 1) := by decide +kernel
theorem dX5_toldOfBridge_21 : decode cX5_toldOfBridge 21 = .ok (.goto 33, 3) := by decide +kernel
theorem dX5_toldOfBridge_24 : decode cX5_toldOfBridge 24 = .ok (.iload_n 2, 1) := by decide +kernel
theorem dX5_toldOfBridge_25 : decode cX5_toldOfBridge 25 = .ok (.iconst 1, 1) := by decide +kernel
theorem dX5_toldOfBridge_26 : decode cX5_toldOfBridge 26 = .ok (.if_icmp .ne 12, 3) := by decide +kernel
theorem dX5_toldOfBridge_29 : decode cX5_toldOfBridge 29 = .ok (.aload_n 0, 1) := by decide +kernel
theorem dX5_toldOfBridge_30 : decode cX5_toldOfBridge 30 = .ok (.getfield 7, 3) := by decide +kernel
theorem dX5_toldOfBridge_33 : decode cX5_toldOfBridge 33 = .ok (.iload_n 1, 1) := by decide +kernel
theorem dX5_toldOfBridge_34 : decode cX5_toldOfBridge 34 = .ok (.iaload, 1) := by decide +kernel
theorem dX5_toldOfBridge_35 : decode cX5_toldOfBridge 35 = .ok (.goto 19, 3) := by decide +kernel
theorem dX5_toldOfBridge_38 : decode cX5_toldOfBridge 38 = .ok (.iload_n 2, 1) := by decide +kernel
theorem dX5_toldOfBridge_39 : decode cX5_toldOfBridge 39 = .ok (.iconst 2, 1) := by decide +kernel
theorem dX5_toldOfBridge_40 : decode cX5_toldOfBridge 40 = .ok (.if_icmp .ne 12, 3) := by decide +kernel
theorem dX5_toldOfBridge_43 : decode cX5_toldOfBridge 43 = .ok (.aload_n 0, 1) := by decide +kernel
theorem dX5_toldOfBridge_44 : decode cX5_toldOfBridge 44 = .ok (.getfield 13, 3) := by decide +kernel
theorem dX5_toldOfBridge_47 : decode cX5_toldOfBridge 47 = .ok (.iload_n 1, 1) := by decide +kernel
theorem dX5_toldOfBridge_48 : decode cX5_toldOfBridge 48 = .ok (.iaload, 1) := by decide +kernel
theorem dX5_toldOfBridge_49 : decode cX5_toldOfBridge 49 = .ok (.goto 5, 3) := by decide +kernel
theorem dX5_toldOfBridge_52 : decode cX5_toldOfBridge 52 = .ok (.bipush (-2), 2) := by decide +kernel
theorem dX5_toldOfBridge_54 : decode cX5_toldOfBridge 54 = .ok (.ireturn, 1) := by decide +kernel
theorem dX5_toldOfPerson_0 : decode cX5_toldOfPerson 0 = .ok (.aload_n 0, 1) := by decide +kernel
theorem dX5_toldOfPerson_1 : decode cX5_toldOfPerson 1 = .ok (.iload_n 1, 1) := by decide +kernel
theorem dX5_toldOfPerson_2 : decode cX5_toldOfPerson 2 = .ok (.invokevirtual 143, 3) := by decide +kernel
theorem dX5_toldOfPerson_5 : decode cX5_toldOfPerson 5 = .ok (.ifCond .ne 6, 3) := by decide +kernel
theorem dX5_toldOfPerson_8 : decode cX5_toldOfPerson 8 = .ok (.bipush (-2), 2) := by decide +kernel
theorem dX5_toldOfPerson_10 : decode cX5_toldOfPerson 10 = .ok (.ireturn, 1) := by decide +kernel
theorem dX5_toldOfPerson_11 : decode cX5_toldOfPerson 11 = .ok (.iload_n 2, 1) := by decide +kernel
theorem dX5_toldOfPerson_12 : decode cX5_toldOfPerson 12 = .ok (.ifCond .ne 12, 3) := by decide +kernel
theorem dX5_toldOfPerson_15 : decode cX5_toldOfPerson 15 = .ok (.aload_n 0, 1) := by decide +kernel
theorem dX5_toldOfPerson_16 : decode cX5_toldOfPerson 16 = .ok (.getfield 22, 3) := by decide +kernel
theorem dX5_toldOfPerson_19 : decode cX5_toldOfPerson 19 = .ok (.iload_n 1, 1) := by decide +kernel
theorem dX5_toldOfPerson_20 : decode cX5_toldOfPerson 20 = .ok (.iaload, 1) := by decide +kernel
theorem dX5_toldOfPerson_21 : decode cX5_toldOfPerson 21 = .ok (.goto 33, 3) := by decide +kernel
theorem dX5_toldOfPerson_24 : decode cX5_toldOfPerson 24 = .ok (.iload_n 2, 1) := by decide +kernel
theorem dX5_toldOfPerson_25 : decode cX5_toldOfPerson 25 = .ok (.iconst 1, 1) := by decide +kernel
theorem dX5_toldOfPerson_26 : decode cX5_toldOfPerson 26 = .ok (.if_icmp .ne 12, 3) := by decide +kernel
theorem dX5_toldOfPerson_29 : decode cX5_toldOfPerson 29 = .ok (.aload_n 0, 1) := by decide +kernel
theorem dX5_toldOfPerson_30 : decode cX5_toldOfPerson 30 = .ok (.getfield 25, 3) := by decide +kernel
theorem dX5_toldOfPerson_33 : decode cX5_toldOfPerson 33 = .ok (.iload_n 1, 1) := by decide +kernel
theorem dX5_toldOfPerson_34 : decode cX5_toldOfPerson 34 = .ok (.iaload, 1) := by decide +kernel
theorem dX5_toldOfPerson_35 : decode cX5_toldOfPerson 35 = .ok (.goto 19, 3) := by decide +kernel
theorem dX5_toldOfPerson_38 : decode cX5_toldOfPerson 38 = .ok (.iload_n 2, 1) := by decide +kernel
theorem dX5_toldOfPerson_39 : decode cX5_toldOfPerson 39 = .ok (.iconst 2, 1) := by decide +kernel
theorem dX5_toldOfPerson_40 : decode cX5_toldOfPerson 40 = .ok (.if_icmp .ne 12, 3) := by decide +kernel
theorem dX5_toldOfPerson_43 : decode cX5_toldOfPerson 43 = .ok (.aload_n 0, 1) := by decide +kernel
theorem dX5_toldOfPerson_44 : decode cX5_toldOfPerson 44 = .ok (.getfield 28, 3) := by decide +kernel
theorem dX5_toldOfPerson_47 : decode cX5_toldOfPerson 47 = .ok (.iload_n 1, 1) := by decide +kernel
theorem dX5_toldOfPerson_48 : decode cX5_toldOfPerson 48 = .ok (.iaload, 1) := by decide +kernel
theorem dX5_toldOfPerson_49 : decode cX5_toldOfPerson 49 = .ok (.goto 5, 3) := by decide +kernel
theorem dX5_toldOfPerson_52 : decode cX5_toldOfPerson 52 = .ok (.bipush (-2), 2) := by decide +kernel
theorem dX5_toldOfPerson_54 : decode cX5_toldOfPerson 54 = .ok (.ireturn, 1) := by decide +kernel
theorem dX5_told_0 : decode cX5_told 0 = .ok (.iload_n 1, 1) := by decide +kernel
theorem dX5_told_1 : decode cX5_told 1 = .ok (.i2l, 1) := by decide +kernel
theorem dX5_told_2 : decode cX5_told 2 = .ok (.ldc2_w 373, 3) := by decide +kernel
theorem dX5_told_5 : decode cX5_told 5 = .ok (.ldc2_w 375, 3) := by decide +kernel
theorem dX5_told_8 : decode cX5_told 8 = .ok (.invokestatic 118, 3) := by decide +kernel
theorem dX5_told_11 : decode cX5_told 11 = .ok (.ifCond .eq 20, 3) := by decide +kernel
theorem dX5_told_14 : decode cX5_told 14 = .ok (.aload_n 0, 1) := by decide +kernel
theorem dX5_told_15 : decode cX5_told 15 = .ok (.iload_n 1, 1) := by decide +kernel
theorem dX5_told_16 : decode cX5_told 16 = .ok (.sipush 1000, 3) := by decide +kernel
theorem dX5_told_19 : decode cX5_told 19 = .ok (.idiv, 1) := by decide +kernel
theorem dX5_told_20 : decode cX5_told 20 = .ok (.iconst 1, 1) := by decide +kernel
theorem dX5_told_21 : decode cX5_told 21 = .ok (.isub, 1) := by decide +kernel
theorem dX5_told_22 : decode cX5_told 22 = .ok (.iload_n 1, 1) := by decide +kernel
theorem dX5_told_23 : decode cX5_told 23 = .ok (.sipush 1000, 3) := by decide +kernel
theorem dX5_told_26 : decode cX5_told 26 = .ok (.irem, 1) := by decide +kernel
theorem dX5_told_27 : decode cX5_told 27 = .ok (.invokevirtual 377, 3) := by decide +kernel
theorem dX5_told_30 : decode cX5_told 30 = .ok (.ireturn, 1) := by decide +kernel
theorem dX5_told_31 : decode cX5_told 31 = .ok (.iload_n 1, 1) := by decide +kernel
theorem dX5_told_32 : decode cX5_told 32 = .ok (.i2l, 1) := by decide +kernel
theorem dX5_told_33 : decode cX5_told 33 = .ok (.ldc2_w 380, 3) := by decide +kernel
theorem dX5_told_36 : decode cX5_told 36 = .ok (.ldc2_w 382, 3) := by decide +kernel
theorem dX5_told_39 : decode cX5_told 39 = .ok (.invokestatic 118, 3) := by decide +kernel
theorem dX5_told_42 : decode cX5_told 42 = .ok (.ifCond .eq 18, 3) := by decide +kernel
theorem dX5_told_45 : decode cX5_told 45 = .ok (.aload_n 0, 1) := by decide +kernel
theorem dX5_told_46 : decode cX5_told 46 = .ok (.iload_n 1, 1) := by decide +kernel
theorem dX5_told_47 : decode cX5_told 47 = .ok (.bipush 100, 2) := by decide +kernel
theorem dX5_told_49 : decode cX5_told 49 = .ok (.idiv, 1) := by decide +kernel
theorem dX5_told_50 : decode cX5_told 50 = .ok (.iconst 1, 1) := by decide +kernel
theorem dX5_told_51 : decode cX5_told 51 = .ok (.isub, 1) := by decide +kernel
theorem dX5_told_52 : decode cX5_told 52 = .ok (.iload_n 1, 1) := by decide +kernel
theorem dX5_told_53 : decode cX5_told 53 = .ok (.bipush 100, 2) := by decide +kernel
theorem dX5_told_55 : decode cX5_told 55 = .ok (.irem, 1) := by decide +kernel
theorem dX5_told_56 : decode cX5_told 56 = .ok (.invokevirtual 384, 3) := by decide +kernel
theorem dX5_told_59 : decode cX5_told 59 = .ok (.ireturn, 1) := by decide +kernel
theorem dX5_told_60 : decode cX5_told 60 = .ok (.iload_n 1, 1) := by decide +kernel
theorem dX5_told_61 : decode cX5_told 61 = .ok (.i2l, 1) := by decide +kernel
theorem dX5_told_62 : decode cX5_told 62 = .ok (.ldc2_w 344, 3) := by decide +kernel
theorem dX5_told_65 : decode cX5_told 65 = .ok (.ldc2_w 387, 3) := by decide +kernel
theorem dX5_told_68 : decode cX5_told 68 = .ok (.invokestatic 118, 3) := by decide +kernel
theorem dX5_told_71 : decode cX5_told 71 = .ok (.ifCond .ne 17, 3) := by decide +kernel
theorem dX5_told_74 : decode cX5_told 74 = .ok (.iload_n 1, 1) := by decide +kernel
theorem dX5_told_75 : decode cX5_told 75 = .ok (.i2l, 1) := by decide +kernel
theorem dX5_told_76 : decode cX5_told 76 = .ok (.ldc2_w 389, 3) := by decide +kernel
theorem dX5_told_79 : decode cX5_told 79 = .ok (.ldc2_w 391, 3) := by decide +kernel
theorem dX5_told_82 : decode cX5_told 82 = .ok (.invokestatic 118, 3) := by decide +kernel
theorem dX5_told_85 : decode cX5_told 85 = .ok (.ifCond .eq 35, 3) := by decide +kernel
theorem dX5_told_88 : decode cX5_told 88 = .ok (.iload_n 1, 1) := by decide +kernel
theorem dX5_told_89 : decode cX5_told 89 = .ok (.bipush 20, 2) := by decide +kernel
theorem dX5_told_91 : decode cX5_told 91 = .ok (.if_icmp .ge 19, 3) := by decide +kernel
theorem dX5_told_94 : decode cX5_told 94 = .ok (.aload_n 0, 1) := by decide +kernel
theorem dX5_told_95 : decode cX5_told 95 = .ok (.getfield 31, 3) := by decide +kernel
theorem dX5_told_98 : decode cX5_told 98 = .ok (.iload_n 1, 1) := by decide +kernel
theorem dX5_told_99 : decode cX5_told 99 = .ok (.bipush 10, 2) := by decide +kernel
theorem dX5_told_101 : decode cX5_told 101 = .ok (.isub, 1) := by decide +kernel
theorem dX5_told_102 : decode cX5_told 102 = .ok (.iaload, 1) := by decide +kernel
theorem dX5_told_103 : decode cX5_told 103 = .ok (.sipush 1000, 3) := by decide +kernel
theorem dX5_told_106 : decode cX5_told 106 = .ok (.iadd, 1) := by decide +kernel
theorem dX5_told_107 : decode cX5_told 107 = .ok (.goto 12, 3) := by decide +kernel
theorem dX5_told_110 : decode cX5_told 110 = .ok (.aload_n 0, 1) := by decide +kernel
theorem dX5_told_111 : decode cX5_told 111 = .ok (.getfield 34, 3) := by decide +kernel
theorem dX5_told_114 : decode cX5_told 114 = .ok (.iload_n 1, 1) := by decide +kernel
theorem dX5_told_115 : decode cX5_told 115 = .ok (.bipush 20, 2) := by decide +kernel
theorem dX5_told_117 : decode cX5_told 117 = .ok (.isub, 1) := by decide +kernel
theorem dX5_told_118 : decode cX5_told 118 = .ok (.iaload, 1) := by decide +kernel
theorem dX5_told_119 : decode cX5_told 119 = .ok (.ireturn, 1) := by decide +kernel
theorem dX5_told_120 : decode cX5_told 120 = .ok (.iload_n 1, 1) := by decide +kernel
theorem dX5_told_121 : decode cX5_told 121 = .ok (.tableswitch 78 0 6 #[43, 48, 53, 58, 63, 68, 73], 43) := by decide +kernel
theorem dX5_told_164 : decode cX5_told 164 = .ok (.aload_n 0, 1) := by decide +kernel
theorem dX5_told_165 : decode cX5_told 165 = .ok (.getfield 159, 3) := by decide +kernel
theorem dX5_told_168 : decode cX5_told 168 = .ok (.ireturn, 1) := by decide +kernel
theorem dX5_told_169 : decode cX5_told 169 = .ok (.aload_n 0, 1) := by decide +kernel
theorem dX5_told_170 : decode cX5_told 170 = .ok (.getfield 103, 3) := by decide +kernel
theorem dX5_told_173 : decode cX5_told 173 = .ok (.ireturn, 1) := by decide +kernel
theorem dX5_told_174 : decode cX5_told 174 = .ok (.aload_n 0, 1) := by decide +kernel
theorem dX5_told_175 : decode cX5_told 175 = .ok (.getfield 106, 3) := by decide +kernel
theorem dX5_told_178 : decode cX5_told 178 = .ok (.ireturn, 1) := by decide +kernel
theorem dX5_told_179 : decode cX5_told 179 = .ok (.aload_n 0, 1) := by decide +kernel
theorem dX5_told_180 : decode cX5_told 180 = .ok (.getfield 109, 3) := by decide +kernel
theorem dX5_told_183 : decode cX5_told 183 = .ok (.ireturn, 1) := by decide +kernel
theorem dX5_told_184 : decode cX5_told 184 = .ok (.aload_n 0, 1) := by decide +kernel
theorem dX5_told_185 : decode cX5_told 185 = .ok (.getfield 95, 3) := by decide +kernel
theorem dX5_told_188 : decode cX5_told 188 = .ok (.ireturn, 1) := by decide +kernel
theorem dX5_told_189 : decode cX5_told 189 = .ok (.aload_n 0, 1) := by decide +kernel
theorem dX5_told_190 : decode cX5_told 190 = .ok (.getfield 115, 3) := by decide +kernel
theorem dX5_told_193 : decode cX5_told 193 = .ok (.ireturn, 1) := by decide +kernel
theorem dX5_told_194 : decode cX5_told 194 = .ok (.aload_n 0, 1) := by decide +kernel
theorem dX5_told_195 : decode cX5_told 195 = .ok (.getfield 112, 3) := by decide +kernel
theorem dX5_told_198 : decode cX5_told 198 = .ok (.ireturn, 1) := by decide +kernel
theorem dX5_told_199 : decode cX5_told 199 = .ok (.bipush (-2), 2) := by decide +kernel
theorem dX5_told_201 : decode cX5_told 201 = .ok (.ireturn, 1) := by decide +kernel
