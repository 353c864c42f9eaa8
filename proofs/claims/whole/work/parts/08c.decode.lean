/-! ===== decode rows ===== -/
theorem dX7_init_0 : decode cX7_init 0 = .ok (.aload_n 0, 1) := by decide +kernel
theorem dX7_init_1 : decode cX7_init 1 = .ok (.invokespecial 1, 3) := by decide +kernel
theorem dX7_init_4 : decode cX7_init 4 = .ok (.aload_n 0, 1) := by decide +kernel
theorem dX7_init_5 : decode cX7_init 5 = .ok (.bipush 8, 2) := by decide +kernel
theorem dX7_init_7 : decode cX7_init 7 = .ok (.newarray .int, 2) := by decide +kernel
theorem dX7_init_9 : decode cX7_init 9 = .ok (.dup, 1) := by decide +kernel
theorem dX7_init_10 : decode cX7_init 10 = .ok (.iconst 0, 1) := by decide +kernel
theorem dX7_init_11 : decode cX7_init 11 = .ok (.iconst (-1), 1) := by decide +kernel
theorem dX7_init_12 : decode cX7_init 12 = .ok (.iastore, 1) := by decide +kernel
theorem dX7_init_13 : decode cX7_init 13 = .ok (.dup, 1) := by decide +kernel
theorem dX7_init_14 : decode cX7_init 14 = .ok (.iconst 1, 1) := by decide +kernel
theorem dX7_init_15 : decode cX7_init 15 = .ok (.iconst (-1), 1) := by decide +kernel
theorem dX7_init_16 : decode cX7_init 16 = .ok (.iastore, 1) := by decide +kernel
theorem dX7_init_17 : decode cX7_init 17 = .ok (.dup, 1) := by decide +kernel
theorem dX7_init_18 : decode cX7_init 18 = .ok (.iconst 2, 1) := by decide +kernel
theorem dX7_init_19 : decode cX7_init 19 = .ok (.iconst (-1), 1) := by decide +kernel
theorem dX7_init_20 : decode cX7_init 20 = .ok (.iastore, 1) := by decide +kernel
theorem dX7_init_21 : decode cX7_init 21 = .ok (.dup, 1) := by decide +kernel
theorem dX7_init_22 : decode cX7_init 22 = .ok (.iconst 3, 1) := by decide +kernel
theorem dX7_init_23 : decode cX7_init 23 = .ok (.iconst (-1), 1) := by decide +kernel
theorem dX7_init_24 : decode cX7_init 24 = .ok (.iastore, 1) := by decide +kernel
theorem dX7_init_25 : decode cX7_init 25 = .ok (.dup, 1) := by decide +kernel
theorem dX7_init_26 : decode cX7_init 26 = .ok (.iconst 4, 1) := by decide +kernel
theorem dX7_init_27 : decode cX7_init 27 = .ok (.iconst (-1), 1) := by decide +kernel
theorem dX7_init_28 : decode cX7_init 28 = .ok (.iastore, 1) := by decide +kernel
theorem dX7_init_29 : decode cX7_init 29 = .ok (.dup, 1) := by decide +kernel
theorem dX7_init_30 : decode cX7_init 30 = .ok (.iconst 5, 1) := by decide +kernel
theorem dX7_init_31 : decode cX7_init 31 = .ok (.iconst (-1), 1) := by decide +kernel
theorem dX7_init_32 : decode cX7_init 32 = .ok (.iastore, 1) := by decide +kernel
theorem dX7_init_33 : decode cX7_init 33 = .ok (.dup, 1) := by decide +kernel
theorem dX7_init_34 : decode cX7_init 34 = .ok (.bipush 6, 2) := by decide +kernel
theorem dX7_init_36 : decode cX7_init 36 = .ok (.iconst (-1), 1) := by decide +kernel
theorem dX7_init_37 : decode cX7_init 37 = .ok (.iastore, 1) := by decide +kernel
theorem dX7_init_38 : decode cX7_init 38 = .ok (.dup, 1) := by decide +kernel
theorem dX7_init_39 : decode cX7_init 39 = .ok (.bipush 7, 2) := by decide +kernel
theorem dX7_init_41 : decode cX7_init 41 = .ok (.iconst (-1), 1) := by decide +kernel
theorem dX7_init_42 : decode cX7_init 42 = .ok (.iastore, 1) := by decide +kernel
theorem dX7_init_43 : decode cX7_init 43 = .ok (.putfield 7, 3) := by decide +kernel
theorem dX7_init_46 : decode cX7_init 46 = .ok (.aload_n 0, 1) := by decide +kernel
theorem dX7_init_47 : decode cX7_init 47 = .ok (.bipush 8, 2) := by decide +kernel
theorem dX7_init_49 : decode cX7_init 49 = .ok (.newarray .int, 2) := by decide +kernel
theorem dX7_init_51 : decode cX7_init 51 = .ok (.putfield 13, 3) := by decide +kernel
theorem dX7_init_54 : decode cX7_init 54 = .ok (.aload_n 0, 1) := by decide +kernel
theorem dX7_init_55 : decode cX7_init 55 = .ok (.sipush 320, 3) := by decide +kernel
theorem dX7_init_58 : decode cX7_init 58 = .ok (.newarray .int, 2) := by decide +kernel
theorem dX7_init_60 : decode cX7_init 60 = .ok (.putfield 16, 3) := by decide +kernel
theorem dX7_init_63 : decode cX7_init 63 = .ok (.aload_n 0, 1) := by decide +kernel
theorem dX7_init_64 : decode cX7_init 64 = .ok (.bipush 36, 2) := by decide +kernel
theorem dX7_init_66 : decode cX7_init 66 = .ok (.newarray .int, 2) := by decide +kernel
theorem dX7_init_68 : decode cX7_init 68 = .ok (.putfield 19, 3) := by decide +kernel
theorem dX7_init_71 : decode cX7_init 71 = .ok (.aload_n 0, 1) := by decide +kernel
theorem dX7_init_72 : decode cX7_init 72 = .ok (.bipush 36, 2) := by decide +kernel
theorem dX7_init_74 : decode cX7_init 74 = .ok (.newarray .int, 2) := by decide +kernel
theorem dX7_init_76 : decode cX7_init 76 = .ok (.putfield 22, 3) := by decide +kernel
theorem dX7_init_79 : decode cX7_init 79 = .ok (.aload_n 0, 1) := by decide +kernel
theorem dX7_init_80 : decode cX7_init 80 = .ok (.bipush 36, 2) := by decide +kernel
theorem dX7_init_82 : decode cX7_init 82 = .ok (.newarray .int, 2) := by decide +kernel
theorem dX7_init_84 : decode cX7_init 84 = .ok (.putfield 25, 3) := by decide +kernel
theorem dX7_init_87 : decode cX7_init 87 = .ok (.aload_n 0, 1) := by decide +kernel
theorem dX7_init_88 : decode cX7_init 88 = .ok (.sipush 864, 3) := by decide +kernel
theorem dX7_init_91 : decode cX7_init 91 = .ok (.newarray .int, 2) := by decide +kernel
theorem dX7_init_93 : decode cX7_init 93 = .ok (.putfield 28, 3) := by decide +kernel
theorem dX7_init_96 : decode cX7_init 96 = .ok (.aload_n 0, 1) := by decide +kernel
theorem dX7_init_97 : decode cX7_init 97 = .ok (.bipush 90, 2) := by decide +kernel
theorem dX7_init_99 : decode cX7_init 99 = .ok (.newarray .int, 2) := by decide +kernel
theorem dX7_init_101 : decode cX7_init 101 = .ok (.putfield 31, 3) := by decide +kernel
theorem dX7_init_104 : decode cX7_init 104 = .ok (.aload_n 0, 1) := by decide +kernel
theorem dX7_init_105 : decode cX7_init 105 = .ok (.iconst 2, 1) := by decide +kernel
theorem dX7_init_106 : decode cX7_init 106 = .ok (.newarray .boolean, 2) := by decide +kernel
theorem dX7_init_108 : decode cX7_init 108 = .ok (.putfield 34, 3) := by decide +kernel
theorem dX7_init_111 : decode cX7_init 111 = .ok (.aload_n 0, 1) := by decide +kernel
theorem dX7_init_112 : decode cX7_init 112 = .ok (.bipush 72, 2) := by decide +kernel
theorem dX7_init_114 : decode cX7_init 114 = .ok (.newarray .int, 2) := by decide +kernel
theorem dX7_init_116 : decode cX7_init 116 = .ok (.putfield 38, 3) := by decide +kernel
theorem dX7_init_119 : decode cX7_init 119 = .ok (.aload_n 0, 1) := by decide +kernel
theorem dX7_init_120 : decode cX7_init 120 = .ok (.bipush 16, 2) := by decide +kernel
theorem dX7_init_122 : decode cX7_init 122 = .ok (.newarray .int, 2) := by decide +kernel
theorem dX7_init_124 : decode cX7_init 124 = .ok (.putfield 41, 3) := by decide +kernel
theorem dX7_init_127 : decode cX7_init 127 = .ok (.return_, 1) := by decide +kernel
theorem dX7_in_0 : decode cX7_in 0 = .ok (.lload_n 0, 1) := by decide +kernel
theorem dX7_in_1 : decode cX7_in 1 = .ok (.lload_n 2, 1) := by decide +kernel
theorem dX7_in_2 : decode cX7_in 2 = .ok (.lcmp, 1) := by decide +kernel
theorem dX7_in_3 : decode cX7_in 3 = .ok (.ifCond .lt 14, 3) := by decide +kernel
theorem dX7_in_6 : decode cX7_in 6 = .ok (.lload_n 0, 1) := by decide +kernel
theorem dX7_in_7 : decode cX7_in 7 = .ok (.lload 4, 2) := by decide +kernel
theorem dX7_in_9 : decode cX7_in 9 = .ok (.lcmp, 1) := by decide +kernel
theorem dX7_in_10 : decode cX7_in 10 = .ok (.ifCond .gt 7, 3) := by decide +kernel
theorem dX7_in_13 : decode cX7_in 13 = .ok (.iconst 1, 1) := by decide +kernel
theorem dX7_in_14 : decode cX7_in 14 = .ok (.goto 4, 3) := by decide +kernel
theorem dX7_in_17 : decode cX7_in 17 = .ok (.iconst 0, 1) := by decide +kernel
theorem dX7_in_18 : decode cX7_in 18 = .ok (.ireturn, 1) := by decide +kernel
theorem dX7_finding_0 : decode cX7_finding 0 = .ok (.aload_n 0, 1) := by decide +kernel
theorem dX7_finding_1 : decode cX7_finding 1 = .ok (.iload_n 1, 1) := by decide +kernel
theorem dX7_finding_2 : decode cX7_finding 2 = .ok (.putfield 48, 3) := by decide +kernel
theorem dX7_finding_5 : decode cX7_finding 5 = .ok (.ldc 51, 2) := by decide +kernel
theorem dX7_finding_7 : decode cX7_finding 7 = .ok (.iload_n 1, 1) := by decide +kernel
theorem dX7_finding_8 : decode cX7_finding 8 = .ok (.isub, 1) := by decide +kernel
theorem dX7_finding_9 : decode cX7_finding 9 = .ok (.ireturn, 1) := by decide +kernel
theorem dX7_isRow_0 : decode cX7_isRow 0 = .ok (.iload_n 0, 1) := by decide +kernel
theorem dX7_isRow_1 : decode cX7_isRow 1 = .ok (.i2l, 1) := by decide +kernel
theorem dX7_isRow_2 : decode cX7_isRow 2 = .ok (.lconst 0, 1) := by decide +kernel
theorem dX7_isRow_3 : decode cX7_isRow 3 = .ok (.ldc2_w 52, 3) := by decide +kernel
theorem dX7_isRow_6 : decode cX7_isRow 6 = .ok (.invokestatic 54, 3) := by decide +kernel
theorem dX7_isRow_9 : decode cX7_isRow 9 = .ok (.ireturn, 1) := by decide +kernel
theorem dX7_row_0 : decode cX7_row 0 = .ok (.aload_n 0, 1) := by decide +kernel
theorem dX7_row_1 : decode cX7_row 1 = .ok (.iconst 0, 1) := by decide +kernel
theorem dX7_row_2 : decode cX7_row 2 = .ok (.putfield 44, 3) := by decide +kernel
theorem dX7_row_5 : decode cX7_row 5 = .ok (.iload_n 1, 1) := by decide +kernel
theorem dX7_row_6 : decode cX7_row 6 = .ok (.invokestatic 58, 3) := by decide +kernel
theorem dX7_row_9 : decode cX7_row 9 = .ok (.ifCond .eq 21, 3) := by decide +kernel
theorem dX7_row_12 : decode cX7_row 12 = .ok (.iload_n 2, 1) := by decide +kernel
theorem dX7_row_13 : decode cX7_row 13 = .ok (.i2l, 1) := by decide +kernel
theorem dX7_row_14 : decode cX7_row 14 = .ok (.lconst 0, 1) := by decide +kernel
theorem dX7_row_15 : decode cX7_row 15 = .ok (.ldc2_w 62, 3) := by decide +kernel
theorem dX7_row_18 : decode cX7_row 18 = .ok (.invokestatic 54, 3) := by decide +kernel
theorem dX7_row_21 : decode cX7_row 21 = .ok (.ifCond .eq 9, 3) := by decide +kernel
theorem dX7_row_24 : decode cX7_row 24 = .ok (.iload_n 3, 1) := by decide +kernel
theorem dX7_row_25 : decode cX7_row 25 = .ok (.bipush 40, 2) := by decide +kernel
theorem dX7_row_27 : decode cX7_row 27 = .ok (.if_icmp .le 6, 3) := by decide +kernel
theorem dX7_row_30 : decode cX7_row 30 = .ok (.ldc 64, 2) := by decide +kernel
theorem dX7_row_32 : decode cX7_row 32 = .ok (.ireturn, 1) := by decide +kernel
theorem dX7_row_33 : decode cX7_row 33 = .ok (.aload_n 0, 1) := by decide +kernel
theorem dX7_row_34 : decode cX7_row 34 = .ok (.iconst 0, 1) := by decide +kernel
theorem dX7_row_35 : decode cX7_row 35 = .ok (.putfield 48, 3) := by decide +kernel
theorem dX7_row_38 : decode cX7_row 38 = .ok (.iload_n 3, 1) := by decide +kernel
theorem dX7_row_39 : decode cX7_row 39 = .ok (.ifCond .ge 9, 3) := by decide +kernel
theorem dX7_row_42 : decode cX7_row 42 = .ok (.aload_n 0, 1) := by decide +kernel
theorem dX7_row_43 : decode cX7_row 43 = .ok (.iconst 4, 1) := by decide +kernel
theorem dX7_row_44 : decode cX7_row 44 = .ok (.invokevirtual 65, 3) := by decide +kernel
theorem dX7_row_47 : decode cX7_row 47 = .ok (.ireturn, 1) := by decide +kernel
theorem dX7_row_48 : decode cX7_row 48 = .ok (.aload_n 0, 1) := by decide +kernel
theorem dX7_row_49 : decode cX7_row 49 = .ok (.getfield 7, 3) := by decide +kernel
theorem dX7_row_52 : decode cX7_row 52 = .ok (.iload_n 1, 1) := by decide +kernel
theorem dX7_row_53 : decode cX7_row 53 = .ok (.iload_n 2, 1) := by decide +kernel
theorem dX7_row_54 : decode cX7_row 54 = .ok (.iastore, 1) := by decide +kernel
theorem dX7_row_55 : decode cX7_row 55 = .ok (.aload_n 0, 1) := by decide +kernel
theorem dX7_row_56 : decode cX7_row 56 = .ok (.getfield 13, 3) := by decide +kernel
theorem dX7_row_59 : decode cX7_row 59 = .ok (.iload_n 1, 1) := by decide +kernel
theorem dX7_row_60 : decode cX7_row 60 = .ok (.iload_n 3, 1) := by decide +kernel
theorem dX7_row_61 : decode cX7_row 61 = .ok (.iastore, 1) := by decide +kernel
theorem dX7_row_62 : decode cX7_row 62 = .ok (.iconst 0, 1) := by decide +kernel
theorem dX7_row_63 : decode cX7_row 63 = .ok (.istore 4, 2) := by decide +kernel
theorem dX7_row_65 : decode cX7_row 65 = .ok (.iload 4, 2) := by decide +kernel
theorem dX7_row_67 : decode cX7_row 67 = .ok (.bipush 40, 2) := by decide +kernel
theorem dX7_row_69 : decode cX7_row 69 = .ok (.if_icmp .ge 22, 3) := by decide +kernel
theorem dX7_row_72 : decode cX7_row 72 = .ok (.aload_n 0, 1) := by decide +kernel
theorem dX7_row_73 : decode cX7_row 73 = .ok (.getfield 16, 3) := by decide +kernel
theorem dX7_row_76 : decode cX7_row 76 = .ok (.bipush 40, 2) := by decide +kernel
theorem dX7_row_78 : decode cX7_row 78 = .ok (.iload_n 1, 1) := by decide +kernel
theorem dX7_row_79 : decode cX7_row 79 = .ok (.imul, 1) := by decide +kernel
theorem dX7_row_80 : decode cX7_row 80 = .ok (.iload 4, 2) := by decide +kernel
theorem dX7_row_82 : decode cX7_row 82 = .ok (.iadd, 1) := by decide +kernel
theorem dX7_row_83 : decode cX7_row 83 = .ok (.iconst 0, 1) := by decide +kernel
theorem dX7_row_84 : decode cX7_row 84 = .ok (.iastore, 1) := by decide +kernel
theorem dX7_row_85 : decode cX7_row 85 = .ok (.iinc 4 1, 3) := by decide +kernel
theorem dX7_row_88 : decode cX7_row 88 = .ok (.goto (-23), 3) := by decide +kernel
theorem dX7_row_91 : decode cX7_row 91 = .ok (.iload_n 3, 1) := by decide +kernel
theorem dX7_row_92 : decode cX7_row 92 = .ok (.ireturn, 1) := by decide +kernel
theorem dX7_set_0 : decode cX7_set 0 = .ok (.aload_n 0, 1) := by decide +kernel
theorem dX7_set_1 : decode cX7_set 1 = .ok (.iconst 0, 1) := by decide +kernel
theorem dX7_set_2 : decode cX7_set 2 = .ok (.putfield 44, 3) := by decide +kernel
theorem dX7_set_5 : decode cX7_set 5 = .ok (.iload_n 1, 1) := by decide +kernel
theorem dX7_set_6 : decode cX7_set 6 = .ok (.invokestatic 58, 3) := by decide +kernel
theorem dX7_set_9 : decode cX7_set 9 = .ok (.ifCond .ne 6, 3) := by decide +kernel
theorem dX7_set_12 : decode cX7_set 12 = .ok (.ldc 64, 2) := by decide +kernel
theorem dX7_set_14 : decode cX7_set 14 = .ok (.ireturn, 1) := by decide +kernel
theorem dX7_set_15 : decode cX7_set 15 = .ok (.aload_n 0, 1) := by decide +kernel
theorem dX7_set_16 : decode cX7_set 16 = .ok (.iconst 0, 1) := by decide +kernel
theorem dX7_set_17 : decode cX7_set 17 = .ok (.putfield 48, 3) := by decide +kernel
theorem dX7_set_20 : decode cX7_set 20 = .ok (.aload_n 0, 1) := by decide +kernel
theorem dX7_set_21 : decode cX7_set 21 = .ok (.getfield 7, 3) := by decide +kernel
theorem dX7_set_24 : decode cX7_set 24 = .ok (.iload_n 1, 1) := by decide +kernel
theorem dX7_set_25 : decode cX7_set 25 = .ok (.iaload, 1) := by decide +kernel
theorem dX7_set_26 : decode cX7_set 26 = .ok (.ifCond .ge 9, 3) := by decide +kernel
theorem dX7_set_29 : decode cX7_set 29 = .ok (.aload_n 0, 1) := by decide +kernel
theorem dX7_set_30 : decode cX7_set 30 = .ok (.iconst 1, 1) := by decide +kernel
theorem dX7_set_31 : decode cX7_set 31 = .ok (.invokevirtual 65, 3) := by decide +kernel
theorem dX7_set_34 : decode cX7_set 34 = .ok (.ireturn, 1) := by decide +kernel
theorem dX7_set_35 : decode cX7_set 35 = .ok (.iload_n 2, 1) := by decide +kernel
theorem dX7_set_36 : decode cX7_set 36 = .ok (.i2l, 1) := by decide +kernel
theorem dX7_set_37 : decode cX7_set 37 = .ok (.lconst 0, 1) := by decide +kernel
theorem dX7_set_38 : decode cX7_set 38 = .ok (.aload_n 0, 1) := by decide +kernel
theorem dX7_set_39 : decode cX7_set 39 = .ok (.getfield 13, 3) := by decide +kernel
theorem dX7_set_42 : decode cX7_set 42 = .ok (.iload_n 1, 1) := by decide +kernel
theorem dX7_set_43 : decode cX7_set 43 = .ok (.iaload, 1) := by decide +kernel
theorem dX7_set_44 : decode cX7_set 44 = .ok (.iconst 1, 1) := by decide +kernel
theorem dX7_set_45 : decode cX7_set 45 = .ok (.isub, 1) := by decide +kernel
theorem dX7_set_46 : decode cX7_set 46 = .ok (.i2l, 1) := by decide +kernel
theorem dX7_set_47 : decode cX7_set 47 = .ok (.invokestatic 54, 3) := by decide +kernel
theorem dX7_set_50 : decode cX7_set 50 = .ok (.ifCond .ne 9, 3) := by decide +kernel
theorem dX7_set_53 : decode cX7_set 53 = .ok (.aload_n 0, 1) := by decide +kernel
theorem dX7_set_54 : decode cX7_set 54 = .ok (.iconst 2, 1) := by decide +kernel
theorem dX7_set_55 : decode cX7_set 55 = .ok (.invokevirtual 65, 3) := by decide +kernel
theorem dX7_set_58 : decode cX7_set 58 = .ok (.ireturn, 1) := by decide +kernel
theorem dX7_set_59 : decode cX7_set 59 = .ok (.aload_n 0, 1) := by decide +kernel
theorem dX7_set_60 : decode cX7_set 60 = .ok (.getfield 16, 3) := by decide +kernel
theorem dX7_set_63 : decode cX7_set 63 = .ok (.bipush 40, 2) := by decide +kernel
theorem dX7_set_65 : decode cX7_set 65 = .ok (.iload_n 1, 1) := by decide +kernel
theorem dX7_set_66 : decode cX7_set 66 = .ok (.imul, 1) := by decide +kernel
theorem dX7_set_67 : decode cX7_set 67 = .ok (.iload_n 2, 1) := by decide +kernel
theorem dX7_set_68 : decode cX7_set 68 = .ok (.iadd, 1) := by decide +kernel
theorem dX7_set_69 : decode cX7_set 69 = .ok (.aload_n 0, 1) := by decide +kernel
theorem dX7_set_70 : decode cX7_set 70 = .ok (.getfield 7, 3) := by decide +kernel
theorem dX7_set_73 : decode cX7_set 73 = .ok (.iload_n 1, 1) := by decide +kernel
theorem dX7_set_74 : decode cX7_set 74 = .ok (.iaload, 1) := by decide +kernel
theorem dX7_set_75 : decode cX7_set 75 = .ok (.ifCond .ne 8, 3) := by decide +kernel
theorem dX7_set_78 : decode cX7_set 78 = .ok (.iload_n 3, 1) := by decide +kernel
theorem dX7_set_79 : decode cX7_set 79 = .ok (.i2b, 1) := by decide +kernel
theorem dX7_set_80 : decode cX7_set 80 = .ok (.goto 19, 3) := by decide +kernel
theorem dX7_set_83 : decode cX7_set 83 = .ok (.aload_n 0, 1) := by decide +kernel
theorem dX7_set_84 : decode cX7_set 84 = .ok (.getfield 7, 3) := by decide +kernel
theorem dX7_set_87 : decode cX7_set 87 = .ok (.iload_n 1, 1) := by decide +kernel
theorem dX7_set_88 : decode cX7_set 88 = .ok (.iaload, 1) := by decide +kernel
theorem dX7_set_89 : decode cX7_set 89 = .ok (.iconst 1, 1) := by decide +kernel
theorem dX7_set_90 : decode cX7_set 90 = .ok (.if_icmp .ne 8, 3) := by decide +kernel
theorem dX7_set_93 : decode cX7_set 93 = .ok (.iload_n 3, 1) := by decide +kernel
theorem dX7_set_94 : decode cX7_set 94 = .ok (.i2s, 1) := by decide +kernel
theorem dX7_set_95 : decode cX7_set 95 = .ok (.goto 4, 3) := by decide +kernel
theorem dX7_set_98 : decode cX7_set 98 = .ok (.iload_n 3, 1) := by decide +kernel
theorem dX7_set_99 : decode cX7_set 99 = .ok (.iastore, 1) := by decide +kernel
theorem dX7_set_100 : decode cX7_set 100 = .ok (.aload_n 0, 1) := by decide +kernel
theorem dX7_set_101 : decode cX7_set 101 = .ok (.getfield 16, 3) := by decide +kernel
theorem dX7_set_104 : decode cX7_set 104 = .ok (.bipush 40, 2) := by decide +kernel
theorem dX7_set_106 : decode cX7_set 106 = .ok (.iload_n 1, 1) := by decide +kernel
theorem dX7_set_107 : decode cX7_set 107 = .ok (.imul, 1) := by decide +kernel
theorem dX7_set_108 : decode cX7_set 108 = .ok (.iload_n 2, 1) := by decide +kernel
theorem dX7_set_109 : decode cX7_set 109 = .ok (.iadd, 1) := by decide +kernel
theorem dX7_set_110 : decode cX7_set 110 = .ok (.iaload, 1) := by decide +kernel
theorem dX7_set_111 : decode cX7_set 111 = .ok (.ireturn, 1) := by decide +kernel
theorem dX7_copy_0 : decode cX7_copy 0 = .ok (.aload_n 0, 1) := by decide +kernel
theorem dX7_copy_1 : decode cX7_copy 1 = .ok (.iconst 0, 1) := by decide +kernel
theorem dX7_copy_2 : decode cX7_copy 2 = .ok (.putfield 44, 3) := by decide +kernel
theorem dX7_copy_5 : decode cX7_copy 5 = .ok (.iload_n 1, 1) := by decide +kernel
theorem dX7_copy_6 : decode cX7_copy 6 = .ok (.invokestatic 58, 3) := by decide +kernel
theorem dX7_copy_9 : decode cX7_copy 9 = .ok (.ifCond .eq 10, 3) := by decide +kernel
theorem dX7_copy_12 : decode cX7_copy 12 = .ok (.iload_n 3, 1) := by decide +kernel
theorem dX7_copy_13 : decode cX7_copy 13 = .ok (.invokestatic 58, 3) := by decide +kernel
theorem dX7_copy_16 : decode cX7_copy 16 = .ok (.ifCond .ne 6, 3) := by decide +kernel
theorem dX7_copy_19 : decode cX7_copy 19 = .ok (.ldc 64, 2) := by decide +kernel
theorem dX7_copy_21 : decode cX7_copy 21 = .ok (.ireturn, 1) := by decide +kernel
theorem dX7_copy_22 : decode cX7_copy 22 = .ok (.aload_n 0, 1) := by decide +kernel
theorem dX7_copy_23 : decode cX7_copy 23 = .ok (.iconst 0, 1) := by decide +kernel
theorem dX7_copy_24 : decode cX7_copy 24 = .ok (.putfield 48, 3) := by decide +kernel
theorem dX7_copy_27 : decode cX7_copy 27 = .ok (.aload_n 0, 1) := by decide +kernel
theorem dX7_copy_28 : decode cX7_copy 28 = .ok (.getfield 7, 3) := by decide +kernel
theorem dX7_copy_31 : decode cX7_copy 31 = .ok (.iload_n 1, 1) := by decide +kernel
theorem dX7_copy_32 : decode cX7_copy 32 = .ok (.iaload, 1) := by decide +kernel
theorem dX7_copy_33 : decode cX7_copy 33 = .ok (.ifCond .lt 12, 3) := by decide +kernel
theorem dX7_copy_36 : decode cX7_copy 36 = .ok (.aload_n 0, 1) := by decide +kernel
theorem dX7_copy_37 : decode cX7_copy 37 = .ok (.getfield 7, 3) := by decide +kernel
theorem dX7_copy_40 : decode cX7_copy 40 = .ok (.iload_n 3, 1) := by decide +kernel
theorem dX7_copy_41 : decode cX7_copy 41 = .ok (.iaload, 1) := by decide +kernel
theorem dX7_copy_42 : decode cX7_copy 42 = .ok (.ifCond .ge 9, 3) := by decide +kernel
theorem dX7_copy_45 : decode cX7_copy 45 = .ok (.aload_n 0, 1) := by decide +kernel
theorem dX7_copy_46 : decode cX7_copy 46 = .ok (.iconst 1, 1) := by decide +kernel
theorem dX7_copy_47 : decode cX7_copy 47 = .ok (.invokevirtual 65, 3) := by decide +kernel
theorem dX7_copy_50 : decode cX7_copy 50 = .ok (.ireturn, 1) := by decide +kernel
theorem dX7_copy_51 : decode cX7_copy 51 = .ok (.aload_n 0, 1) := by decide +kernel
theorem dX7_copy_52 : decode cX7_copy 52 = .ok (.getfield 7, 3) := by decide +kernel
theorem dX7_copy_55 : decode cX7_copy 55 = .ok (.iload_n 1, 1) := by decide +kernel
theorem dX7_copy_56 : decode cX7_copy 56 = .ok (.iaload, 1) := by decide +kernel
theorem dX7_copy_57 : decode cX7_copy 57 = .ok (.aload_n 0, 1) := by decide +kernel
theorem dX7_copy_58 : decode cX7_copy 58 = .ok (.getfield 7, 3) := by decide +kernel
theorem dX7_copy_61 : decode cX7_copy 61 = .ok (.iload_n 3, 1) := by decide +kernel
theorem dX7_copy_62 : decode cX7_copy 62 = .ok (.iaload, 1) := by decide +kernel
theorem dX7_copy_63 : decode cX7_copy 63 = .ok (.if_icmp .eq 9, 3) := by decide +kernel
theorem dX7_copy_66 : decode cX7_copy 66 = .ok (.aload_n 0, 1) := by decide +kernel
theorem dX7_copy_67 : decode cX7_copy 67 = .ok (.iconst 5, 1) := by decide +kernel
theorem dX7_copy_68 : decode cX7_copy 68 = .ok (.invokevirtual 65, 3) := by decide +kernel
theorem dX7_copy_71 : decode cX7_copy 71 = .ok (.ireturn, 1) := by decide +kernel
theorem dX7_copy_72 : decode cX7_copy 72 = .ok (.iload_n 2, 1) := by decide +kernel
theorem dX7_copy_73 : decode cX7_copy 73 = .ok (.ifCond .lt 48, 3) := by decide +kernel
theorem dX7_copy_76 : decode cX7_copy 76 = .ok (.iload 4, 2) := by decide +kernel
theorem dX7_copy_78 : decode cX7_copy 78 = .ok (.ifCond .lt 43, 3) := by decide +kernel
theorem dX7_copy_81 : decode cX7_copy 81 = .ok (.iload 5, 2) := by decide +kernel
theorem dX7_copy_83 : decode cX7_copy 83 = .ok (.ifCond .lt 38, 3) := by decide +kernel
theorem dX7_copy_86 : decode cX7_copy 86 = .ok (.iload_n 2, 1) := by decide +kernel
theorem dX7_copy_87 : decode cX7_copy 87 = .ok (.i2l, 1) := by decide +kernel
theorem dX7_copy_88 : decode cX7_copy 88 = .ok (.iload 5, 2) := by decide +kernel
theorem dX7_copy_90 : decode cX7_copy 90 = .ok (.i2l, 1) := by decide +kernel
theorem dX7_copy_91 : decode cX7_copy 91 = .ok (.ladd, 1) := by decide +kernel
theorem dX7_copy_92 : decode cX7_copy 92 = .ok (.aload_n 0, 1) := by decide +kernel
theorem dX7_copy_93 : decode cX7_copy 93 = .ok (.getfield 13, 3) := by decide +kernel
theorem dX7_copy_96 : decode cX7_copy 96 = .ok (.iload_n 1, 1) := by decide +kernel
theorem dX7_copy_97 : decode cX7_copy 97 = .ok (.iaload, 1) := by decide +kernel
theorem dX7_copy_98 : decode cX7_copy 98 = .ok (.i2l, 1) := by decide +kernel
theorem dX7_copy_99 : decode cX7_copy 99 = .ok (.lcmp, 1) := by decide +kernel
theorem dX7_copy_100 : decode cX7_copy 100 = .ok (.ifCond .gt 21, 3) := by decide +kernel
theorem dX7_copy_103 : decode cX7_copy 103 = .ok (.iload 4, 2) := by decide +kernel
theorem dX7_copy_105 : decode cX7_copy 105 = .ok (.i2l, 1) := by decide +kernel
theorem dX7_copy_106 : decode cX7_copy 106 = .ok (.iload 5, 2) := by decide +kernel
theorem dX7_copy_108 : decode cX7_copy 108 = .ok (.i2l, 1) := by decide +kernel
theorem dX7_copy_109 : decode cX7_copy 109 = .ok (.ladd, 1) := by decide +kernel
theorem dX7_copy_110 : decode cX7_copy 110 = .ok (.aload_n 0, 1) := by decide +kernel
theorem dX7_copy_111 : decode cX7_copy 111 = .ok (.getfield 13, 3) := by decide +kernel
theorem dX7_copy_114 : decode cX7_copy 114 = .ok (.iload_n 3, 1) := by decide +kernel
theorem dX7_copy_115 : decode cX7_copy 115 = .ok (.iaload, 1) := by decide +kernel
theorem dX7_copy_116 : decode cX7_copy 116 = .ok (.i2l, 1) := by decide +kernel
theorem dX7_copy_117 : decode cX7_copy 117 = .ok (.lcmp, 1) := by decide +kernel
theorem dX7_copy_118 : decode cX7_copy 118 = .ok (.ifCond .le 9, 3) := by decide +kernel
theorem dX7_copy_121 : decode cX7_copy 121 = .ok (.aload_n 0, 1) := by decide +kernel
theorem dX7_copy_122 : decode cX7_copy 122 = .ok (.iconst 2, 1) := by decide +kernel
theorem dX7_copy_123 : decode cX7_copy 123 = .ok (.invokevirtual 65, 3) := by decide +kernel
theorem dX7_copy_126 : decode cX7_copy 126 = .ok (.ireturn, 1) := by decide +kernel
theorem dX7_copy_127 : decode cX7_copy 127 = .ok (.iload_n 2, 1) := by decide +kernel
theorem dX7_copy_128 : decode cX7_copy 128 = .ok (.iload 4, 2) := by decide +kernel
theorem dX7_copy_130 : decode cX7_copy 130 = .ok (.if_icmp .lt 7, 3) := by decide +kernel
theorem dX7_copy_133 : decode cX7_copy 133 = .ok (.iconst 1, 1) := by decide +kernel
theorem dX7_copy_134 : decode cX7_copy 134 = .ok (.goto 4, 3) := by decide +kernel
theorem dX7_copy_137 : decode cX7_copy 137 = .ok (.iconst 0, 1) := by decide +kernel
theorem dX7_copy_138 : decode cX7_copy 138 = .ok (.istore 6, 2) := by decide +kernel
theorem dX7_copy_140 : decode cX7_copy 140 = .ok (.iconst 0, 1) := by decide +kernel
theorem dX7_copy_141 : decode cX7_copy 141 = .ok (.istore 7, 2) := by decide +kernel
theorem dX7_copy_143 : decode cX7_copy 143 = .ok (.iload 7, 2) := by decide +kernel
theorem dX7_copy_145 : decode cX7_copy 145 = .ok (.iload 5, 2) := by decide +kernel
theorem dX7_copy_147 : decode cX7_copy 147 = .ok (.if_icmp .ge 57, 3) := by decide +kernel
theorem dX7_copy_150 : decode cX7_copy 150 = .ok (.iload 6, 2) := by decide +kernel
theorem dX7_copy_152 : decode cX7_copy 152 = .ok (.ifCond .eq 8, 3) := by decide +kernel
theorem dX7_copy_155 : decode cX7_copy 155 = .ok (.iload 7, 2) := by decide +kernel
theorem dX7_copy_157 : decode cX7_copy 157 = .ok (.goto 10, 3) := by decide +kernel
theorem dX7_copy_160 : decode cX7_copy 160 = .ok (.iload 5, 2) := by decide +kernel
theorem dX7_copy_162 : decode cX7_copy 162 = .ok (.iconst 1, 1) := by decide +kernel
theorem dX7_copy_163 : decode cX7_copy 163 = .ok (.isub, 1) := by decide +kernel
theorem dX7_copy_164 : decode cX7_copy 164 = .ok (.iload 7, 2) := by decide +kernel
theorem dX7_copy_166 : decode cX7_copy 166 = .ok (.isub, 1) := by decide +kernel
theorem dX7_copy_167 : decode cX7_copy 167 = .ok (.istore 8, 2) := by decide +kernel
theorem dX7_copy_169 : decode cX7_copy 169 = .ok (.aload_n 0, 1) := by decide +kernel
theorem dX7_copy_170 : decode cX7_copy 170 = .ok (.getfield 16, 3) := by decide +kernel
theorem dX7_copy_173 : decode cX7_copy 173 = .ok (.bipush 40, 2) := by decide +kernel
theorem dX7_copy_175 : decode cX7_copy 175 = .ok (.iload_n 3, 1) := by decide +kernel
theorem dX7_copy_176 : decode cX7_copy 176 = .ok (.imul, 1) := by decide +kernel
theorem dX7_copy_177 : decode cX7_copy 177 = .ok (.iload 4, 2) := by decide +kernel
theorem dX7_copy_179 : decode cX7_copy 179 = .ok (.iadd, 1) := by decide +kernel
theorem dX7_copy_180 : decode cX7_copy 180 = .ok (.iload 8, 2) := by decide +kernel
theorem dX7_copy_182 : decode cX7_copy 182 = .ok (.iadd, 1) := by decide +kernel
theorem dX7_copy_183 : decode cX7_copy 183 = .ok (.aload_n 0, 1) := by decide +kernel
theorem dX7_copy_184 : decode cX7_copy 184 = .ok (.getfield 16, 3) := by decide +kernel
theorem dX7_copy_187 : decode cX7_copy 187 = .ok (.bipush 40, 2) := by decide +kernel
theorem dX7_copy_189 : decode cX7_copy 189 = .ok (.iload_n 1, 1) := by decide +kernel
theorem dX7_copy_190 : decode cX7_copy 190 = .ok (.imul, 1) := by decide +kernel
theorem dX7_copy_191 : decode cX7_copy 191 = .ok (.iload_n 2, 1) := by decide +kernel
theorem dX7_copy_192 : decode cX7_copy 192 = .ok (.iadd, 1) := by decide +kernel
theorem dX7_copy_193 : decode cX7_copy 193 = .ok (.iload 8, 2) := by decide +kernel
theorem dX7_copy_195 : decode cX7_copy 195 = .ok (.iadd, 1) := by decide +kernel
theorem dX7_copy_196 : decode cX7_copy 196 = .ok (.iaload, 1) := by decide +kernel
theorem dX7_copy_197 : decode cX7_copy 197 = .ok (.iastore, 1) := by decide +kernel
theorem dX7_copy_198 : decode cX7_copy 198 = .ok (.iinc 7 1, 3) := by decide +kernel
theorem dX7_copy_201 : decode cX7_copy 201 = .ok (.goto (-58), 3) := by decide +kernel
theorem dX7_copy_204 : decode cX7_copy 204 = .ok (.iload 5, 2) := by decide +kernel
theorem dX7_copy_206 : decode cX7_copy 206 = .ok (.ireturn, 1) := by decide +kernel
theorem dX7_drop_0 : decode cX7_drop 0 = .ok (.aload_n 0, 1) := by decide +kernel
theorem dX7_drop_1 : decode cX7_drop 1 = .ok (.iconst 0, 1) := by decide +kernel
theorem dX7_drop_2 : decode cX7_drop 2 = .ok (.putfield 44, 3) := by decide +kernel
theorem dX7_drop_5 : decode cX7_drop 5 = .ok (.iload_n 1, 1) := by decide +kernel
theorem dX7_drop_6 : decode cX7_drop 6 = .ok (.invokestatic 58, 3) := by decide +kernel
theorem dX7_drop_9 : decode cX7_drop 9 = .ok (.ifCond .ne 6, 3) := by decide +kernel
theorem dX7_drop_12 : decode cX7_drop 12 = .ok (.ldc 64, 2) := by decide +kernel
theorem dX7_drop_14 : decode cX7_drop 14 = .ok (.ireturn, 1) := by decide +kernel
theorem dX7_drop_15 : decode cX7_drop 15 = .ok (.aload_n 0, 1) := by decide +kernel
theorem dX7_drop_16 : decode cX7_drop 16 = .ok (.iconst 0, 1) := by decide +kernel
theorem dX7_drop_17 : decode cX7_drop 17 = .ok (.putfield 48, 3) := by decide +kernel
theorem dX7_drop_20 : decode cX7_drop 20 = .ok (.aload_n 0, 1) := by decide +kernel
theorem dX7_drop_21 : decode cX7_drop 21 = .ok (.getfield 7, 3) := by decide +kernel
theorem dX7_drop_24 : decode cX7_drop 24 = .ok (.iload_n 1, 1) := by decide +kernel
theorem dX7_drop_25 : decode cX7_drop 25 = .ok (.iaload, 1) := by decide +kernel
theorem dX7_drop_26 : decode cX7_drop 26 = .ok (.ifCond .ge 9, 3) := by decide +kernel
theorem dX7_drop_29 : decode cX7_drop 29 = .ok (.aload_n 0, 1) := by decide +kernel
theorem dX7_drop_30 : decode cX7_drop 30 = .ok (.iconst 1, 1) := by decide +kernel
theorem dX7_drop_31 : decode cX7_drop 31 = .ok (.invokevirtual 65, 3) := by decide +kernel
theorem dX7_drop_34 : decode cX7_drop 34 = .ok (.ireturn, 1) := by decide +kernel
theorem dX7_drop_35 : decode cX7_drop 35 = .ok (.aload_n 0, 1) := by decide +kernel
theorem dX7_drop_36 : decode cX7_drop 36 = .ok (.getfield 7, 3) := by decide +kernel
theorem dX7_drop_39 : decode cX7_drop 39 = .ok (.iload_n 1, 1) := by decide +kernel
theorem dX7_drop_40 : decode cX7_drop 40 = .ok (.iconst (-1), 1) := by decide +kernel
theorem dX7_drop_41 : decode cX7_drop 41 = .ok (.iastore, 1) := by decide +kernel
theorem dX7_drop_42 : decode cX7_drop 42 = .ok (.aload_n 0, 1) := by decide +kernel
theorem dX7_drop_43 : decode cX7_drop 43 = .ok (.getfield 13, 3) := by decide +kernel
theorem dX7_drop_46 : decode cX7_drop 46 = .ok (.iload_n 1, 1) := by decide +kernel
theorem dX7_drop_47 : decode cX7_drop 47 = .ok (.iaload, 1) := by decide +kernel
theorem dX7_drop_48 : decode cX7_drop 48 = .ok (.ireturn, 1) := by decide +kernel
theorem dX7_feed_0 : decode cX7_feed 0 = .ok (.aload_n 0, 1) := by decide +kernel
theorem dX7_feed_1 : decode cX7_feed 1 = .ok (.iconst 0, 1) := by decide +kernel
theorem dX7_feed_2 : decode cX7_feed 2 = .ok (.putfield 44, 3) := by decide +kernel
theorem dX7_feed_5 : decode cX7_feed 5 = .ok (.iload_n 1, 1) := by decide +kernel
theorem dX7_feed_6 : decode cX7_feed 6 = .ok (.i2l, 1) := by decide +kernel
theorem dX7_feed_7 : decode cX7_feed 7 = .ok (.lconst 0, 1) := by decide +kernel
theorem dX7_feed_8 : decode cX7_feed 8 = .ok (.ldc2_w 69, 3) := by decide +kernel
theorem dX7_feed_11 : decode cX7_feed 11 = .ok (.invokestatic 54, 3) := by decide +kernel
theorem dX7_feed_14 : decode cX7_feed 14 = .ok (.ifCond .ne 6, 3) := by decide +kernel
theorem dX7_feed_17 : decode cX7_feed 17 = .ok (.ldc 64, 2) := by decide +kernel
theorem dX7_feed_19 : decode cX7_feed 19 = .ok (.ireturn, 1) := by decide +kernel
theorem dX7_feed_20 : decode cX7_feed 20 = .ok (.aload_n 0, 1) := by decide +kernel
theorem dX7_feed_21 : decode cX7_feed 21 = .ok (.getfield 71, 3) := by decide +kernel
theorem dX7_feed_24 : decode cX7_feed 24 = .ok (.bipush 90, 2) := by decide +kernel
theorem dX7_feed_26 : decode cX7_feed 26 = .ok (.if_icmp .ne 6, 3) := by decide +kernel
theorem dX7_feed_29 : decode cX7_feed 29 = .ok (.ldc 74, 2) := by decide +kernel
theorem dX7_feed_31 : decode cX7_feed 31 = .ok (.ireturn, 1) := by decide +kernel
theorem dX7_feed_32 : decode cX7_feed 32 = .ok (.aload_n 0, 1) := by decide +kernel
theorem dX7_feed_33 : decode cX7_feed 33 = .ok (.getfield 31, 3) := by decide +kernel
theorem dX7_feed_36 : decode cX7_feed 36 = .ok (.aload_n 0, 1) := by decide +kernel
theorem dX7_feed_37 : decode cX7_feed 37 = .ok (.getfield 71, 3) := by decide +kernel
theorem dX7_feed_40 : decode cX7_feed 40 = .ok (.iload_n 1, 1) := by decide +kernel
theorem dX7_feed_41 : decode cX7_feed 41 = .ok (.iastore, 1) := by decide +kernel
theorem dX7_feed_42 : decode cX7_feed 42 = .ok (.aload_n 0, 1) := by decide +kernel
theorem dX7_feed_43 : decode cX7_feed 43 = .ok (.dup, 1) := by decide +kernel
theorem dX7_feed_44 : decode cX7_feed 44 = .ok (.getfield 71, 3) := by decide +kernel
theorem dX7_feed_47 : decode cX7_feed 47 = .ok (.iconst 1, 1) := by decide +kernel
theorem dX7_feed_48 : decode cX7_feed 48 = .ok (.iadd, 1) := by decide +kernel
theorem dX7_feed_49 : decode cX7_feed 49 = .ok (.putfield 71, 3) := by decide +kernel
theorem dX7_feed_52 : decode cX7_feed 52 = .ok (.aload_n 0, 1) := by decide +kernel
theorem dX7_feed_53 : decode cX7_feed 53 = .ok (.getfield 71, 3) := by decide +kernel
theorem dX7_feed_56 : decode cX7_feed 56 = .ok (.ireturn, 1) := by decide +kernel
theorem dX7_bad_0 : decode cX7_bad 0 = .ok (.aload_n 0, 1) := by decide +kernel
theorem dX7_bad_1 : decode cX7_bad 1 = .ok (.getfield 75, 3) := by decide +kernel
theorem dX7_bad_4 : decode cX7_bad 4 = .ok (.ifCond .ne 16, 3) := by decide +kernel
theorem dX7_bad_7 : decode cX7_bad 7 = .ok (.aload_n 0, 1) := by decide +kernel
theorem dX7_bad_8 : decode cX7_bad 8 = .ok (.iload_n 1, 1) := by decide +kernel
theorem dX7_bad_9 : decode cX7_bad 9 = .ok (.putfield 75, 3) := by decide +kernel
theorem dX7_bad_12 : decode cX7_bad 12 = .ok (.aload_n 0, 1) := by decide +kernel
theorem dX7_bad_13 : decode cX7_bad 13 = .ok (.aload_n 0, 1) := by decide +kernel
theorem dX7_bad_14 : decode cX7_bad 14 = .ok (.getfield 78, 3) := by decide +kernel
theorem dX7_bad_17 : decode cX7_bad 17 = .ok (.putfield 81, 3) := by decide +kernel
theorem dX7_bad_20 : decode cX7_bad 20 = .ok (.return_, 1) := by decide +kernel
theorem dX7_nextToken_0 : decode cX7_nextToken 0 = .ok (.aload_n 0, 1) := by decide +kernel
theorem dX7_nextToken_1 : decode cX7_nextToken 1 = .ok (.aload_n 0, 1) := by decide +kernel
theorem dX7_nextToken_2 : decode cX7_nextToken 2 = .ok (.getfield 84, 3) := by decide +kernel
theorem dX7_nextToken_5 : decode cX7_nextToken 5 = .ok (.putfield 78, 3) := by decide +kernel
theorem dX7_nextToken_8 : decode cX7_nextToken 8 = .ok (.aload_n 0, 1) := by decide +kernel
theorem dX7_nextToken_9 : decode cX7_nextToken 9 = .ok (.aload_n 0, 1) := by decide +kernel
theorem dX7_nextToken_10 : decode cX7_nextToken 10 = .ok (.getfield 84, 3) := by decide +kernel
theorem dX7_nextToken_13 : decode cX7_nextToken 13 = .ok (.aload_n 0, 1) := by decide +kernel
theorem dX7_nextToken_14 : decode cX7_nextToken 14 = .ok (.getfield 71, 3) := by decide +kernel
theorem dX7_nextToken_17 : decode cX7_nextToken 17 = .ok (.if_icmp .ge 15, 3) := by decide +kernel
theorem dX7_nextToken_20 : decode cX7_nextToken 20 = .ok (.aload_n 0, 1) := by decide +kernel
theorem dX7_nextToken_21 : decode cX7_nextToken 21 = .ok (.getfield 31, 3) := by decide +kernel
theorem dX7_nextToken_24 : decode cX7_nextToken 24 = .ok (.aload_n 0, 1) := by decide +kernel
theorem dX7_nextToken_25 : decode cX7_nextToken 25 = .ok (.getfield 84, 3) := by decide +kernel
theorem dX7_nextToken_28 : decode cX7_nextToken 28 = .ok (.iaload, 1) := by decide +kernel
theorem dX7_nextToken_29 : decode cX7_nextToken 29 = .ok (.goto 5, 3) := by decide +kernel
theorem dX7_nextToken_32 : decode cX7_nextToken 32 = .ok (.ldc 87, 2) := by decide +kernel
theorem dX7_nextToken_34 : decode cX7_nextToken 34 = .ok (.putfield 88, 3) := by decide +kernel
theorem dX7_nextToken_37 : decode cX7_nextToken 37 = .ok (.aload_n 0, 1) := by decide +kernel
theorem dX7_nextToken_38 : decode cX7_nextToken 38 = .ok (.aload_n 0, 1) := by decide +kernel
theorem dX7_nextToken_39 : decode cX7_nextToken 39 = .ok (.getfield 84, 3) := by decide +kernel
theorem dX7_nextToken_42 : decode cX7_nextToken 42 = .ok (.aload_n 0, 1) := by decide +kernel
theorem dX7_nextToken_43 : decode cX7_nextToken 43 = .ok (.getfield 71, 3) := by decide +kernel
theorem dX7_nextToken_46 : decode cX7_nextToken 46 = .ok (.if_icmp .ne 7, 3) := by decide +kernel
theorem dX7_nextToken_49 : decode cX7_nextToken 49 = .ok (.iconst 1, 1) := by decide +kernel
theorem dX7_nextToken_50 : decode cX7_nextToken 50 = .ok (.goto 68, 3) := by decide +kernel
theorem dX7_nextToken_53 : decode cX7_nextToken 53 = .ok (.aload_n 0, 1) := by decide +kernel
theorem dX7_nextToken_54 : decode cX7_nextToken 54 = .ok (.getfield 88, 3) := by decide +kernel
theorem dX7_nextToken_57 : decode cX7_nextToken 57 = .ok (.i2l, 1) := by decide +kernel
theorem dX7_nextToken_58 : decode cX7_nextToken 58 = .ok (.ldc2_w 91, 3) := by decide +kernel
theorem dX7_nextToken_61 : decode cX7_nextToken 61 = .ok (.ldc2_w 93, 3) := by decide +kernel
theorem dX7_nextToken_64 : decode cX7_nextToken 64 = .ok (.invokestatic 54, 3) := by decide +kernel
theorem dX7_nextToken_67 : decode cX7_nextToken 67 = .ok (.ifCond .eq 7, 3) := by decide +kernel
theorem dX7_nextToken_70 : decode cX7_nextToken 70 = .ok (.iconst 2, 1) := by decide +kernel
theorem dX7_nextToken_71 : decode cX7_nextToken 71 = .ok (.goto 47, 3) := by decide +kernel
theorem dX7_nextToken_74 : decode cX7_nextToken 74 = .ok (.aload_n 0, 1) := by decide +kernel
theorem dX7_nextToken_75 : decode cX7_nextToken 75 = .ok (.getfield 88, 3) := by decide +kernel
theorem dX7_nextToken_78 : decode cX7_nextToken 78 = .ok (.i2l, 1) := by decide +kernel
theorem dX7_nextToken_79 : decode cX7_nextToken 79 = .ok (.ldc2_w 95, 3) := by decide +kernel
theorem dX7_nextToken_82 : decode cX7_nextToken 82 = .ok (.ldc2_w 97, 3) := by decide +kernel
theorem dX7_nextToken_85 : decode cX7_nextToken 85 = .ok (.invokestatic 54, 3) := by decide +kernel
theorem dX7_nextToken_88 : decode cX7_nextToken 88 = .ok (.ifCond .eq 7, 3) := by decide +kernel
theorem dX7_nextToken_91 : decode cX7_nextToken 91 = .ok (.iconst 3, 1) := by decide +kernel
theorem dX7_nextToken_92 : decode cX7_nextToken 92 = .ok (.goto 26, 3) := by decide +kernel
theorem dX7_nextToken_95 : decode cX7_nextToken 95 = .ok (.aload_n 0, 1) := by decide +kernel
theorem dX7_nextToken_96 : decode cX7_nextToken 96 = .ok (.getfield 88, 3) := by decide +kernel
theorem dX7_nextToken_99 : decode cX7_nextToken 99 = .ok (.bipush 44, 2) := by decide +kernel
theorem dX7_nextToken_101 : decode cX7_nextToken 101 = .ok (.if_icmp .eq 12, 3) := by decide +kernel
theorem dX7_nextToken_104 : decode cX7_nextToken 104 = .ok (.aload_n 0, 1) := by decide +kernel
theorem dX7_nextToken_105 : decode cX7_nextToken 105 = .ok (.getfield 88, 3) := by decide +kernel
theorem dX7_nextToken_108 : decode cX7_nextToken 108 = .ok (.bipush 59, 2) := by decide +kernel
theorem dX7_nextToken_110 : decode cX7_nextToken 110 = .ok (.if_icmp .ne 7, 3) := by decide +kernel
theorem dX7_nextToken_113 : decode cX7_nextToken 113 = .ok (.iconst 4, 1) := by decide +kernel
theorem dX7_nextToken_114 : decode cX7_nextToken 114 = .ok (.goto 4, 3) := by decide +kernel
theorem dX7_nextToken_117 : decode cX7_nextToken 117 = .ok (.iconst 0, 1) := by decide +kernel
theorem dX7_nextToken_118 : decode cX7_nextToken 118 = .ok (.putfield 99, 3) := by decide +kernel
theorem dX7_nextToken_121 : decode cX7_nextToken 121 = .ok (.aload_n 0, 1) := by decide +kernel
theorem dX7_nextToken_122 : decode cX7_nextToken 122 = .ok (.dup, 1) := by decide +kernel
theorem dX7_nextToken_123 : decode cX7_nextToken 123 = .ok (.getfield 84, 3) := by decide +kernel
theorem dX7_nextToken_126 : decode cX7_nextToken 126 = .ok (.aload_n 0, 1) := by decide +kernel
theorem dX7_nextToken_127 : decode cX7_nextToken 127 = .ok (.getfield 84, 3) := by decide +kernel
theorem dX7_nextToken_130 : decode cX7_nextToken 130 = .ok (.aload_n 0, 1) := by decide +kernel
theorem dX7_nextToken_131 : decode cX7_nextToken 131 = .ok (.getfield 71, 3) := by decide +kernel
theorem dX7_nextToken_134 : decode cX7_nextToken 134 = .ok (.if_icmp .ge 7, 3) := by decide +kernel
theorem dX7_nextToken_137 : decode cX7_nextToken 137 = .ok (.iconst 1, 1) := by decide +kernel
theorem dX7_nextToken_138 : decode cX7_nextToken 138 = .ok (.goto 4, 3) := by decide +kernel
theorem dX7_nextToken_141 : decode cX7_nextToken 141 = .ok (.iconst 0, 1) := by decide +kernel
theorem dX7_nextToken_142 : decode cX7_nextToken 142 = .ok (.iadd, 1) := by decide +kernel
theorem dX7_nextToken_143 : decode cX7_nextToken 143 = .ok (.putfield 84, 3) := by decide +kernel
theorem dX7_nextToken_146 : decode cX7_nextToken 146 = .ok (.aload_n 0, 1) := by decide +kernel
theorem dX7_nextToken_147 : decode cX7_nextToken 147 = .ok (.getfield 99, 3) := by decide +kernel
theorem dX7_nextToken_150 : decode cX7_nextToken 150 = .ok (.iconst 3, 1) := by decide +kernel
theorem dX7_nextToken_151 : decode cX7_nextToken 151 = .ok (.if_icmp .ne 126, 3) := by decide +kernel
theorem dX7_nextToken_154 : decode cX7_nextToken 154 = .ok (.aload_n 0, 1) := by decide +kernel
theorem dX7_nextToken_155 : decode cX7_nextToken 155 = .ok (.dup, 1) := by decide +kernel
theorem dX7_nextToken_156 : decode cX7_nextToken 156 = .ok (.getfield 88, 3) := by decide +kernel
theorem dX7_nextToken_159 : decode cX7_nextToken 159 = .ok (.bipush 48, 2) := by decide +kernel
theorem dX7_nextToken_161 : decode cX7_nextToken 161 = .ok (.isub, 1) := by decide +kernel
theorem dX7_nextToken_162 : decode cX7_nextToken 162 = .ok (.putfield 88, 3) := by decide +kernel
theorem dX7_nextToken_165 : decode cX7_nextToken 165 = .ok (.aload_n 0, 1) := by decide +kernel
theorem dX7_nextToken_166 : decode cX7_nextToken 166 = .ok (.getfield 84, 3) := by decide +kernel
theorem dX7_nextToken_169 : decode cX7_nextToken 169 = .ok (.aload_n 0, 1) := by decide +kernel
theorem dX7_nextToken_170 : decode cX7_nextToken 170 = .ok (.getfield 71, 3) := by decide +kernel
theorem dX7_nextToken_173 : decode cX7_nextToken 173 = .ok (.if_icmp .ge 82, 3) := by decide +kernel
theorem dX7_nextToken_176 : decode cX7_nextToken 176 = .ok (.aload_n 0, 1) := by decide +kernel
theorem dX7_nextToken_177 : decode cX7_nextToken 177 = .ok (.getfield 31, 3) := by decide +kernel
theorem dX7_nextToken_180 : decode cX7_nextToken 180 = .ok (.aload_n 0, 1) := by decide +kernel
theorem dX7_nextToken_181 : decode cX7_nextToken 181 = .ok (.getfield 84, 3) := by decide +kernel
theorem dX7_nextToken_184 : decode cX7_nextToken 184 = .ok (.iaload, 1) := by decide +kernel
theorem dX7_nextToken_185 : decode cX7_nextToken 185 = .ok (.i2l, 1) := by decide +kernel
theorem dX7_nextToken_186 : decode cX7_nextToken 186 = .ok (.ldc2_w 95, 3) := by decide +kernel
theorem dX7_nextToken_189 : decode cX7_nextToken 189 = .ok (.ldc2_w 97, 3) := by decide +kernel
theorem dX7_nextToken_192 : decode cX7_nextToken 192 = .ok (.invokestatic 54, 3) := by decide +kernel
theorem dX7_nextToken_195 : decode cX7_nextToken 195 = .ok (.ifCond .eq 60, 3) := by decide +kernel
theorem dX7_nextToken_198 : decode cX7_nextToken 198 = .ok (.aload_n 0, 1) := by decide +kernel
theorem dX7_nextToken_199 : decode cX7_nextToken 199 = .ok (.aload_n 0, 1) := by decide +kernel
theorem dX7_nextToken_200 : decode cX7_nextToken 200 = .ok (.getfield 84, 3) := by decide +kernel
theorem dX7_nextToken_203 : decode cX7_nextToken 203 = .ok (.aload_n 0, 1) := by decide +kernel
theorem dX7_nextToken_204 : decode cX7_nextToken 204 = .ok (.getfield 78, 3) := by decide +kernel
theorem dX7_nextToken_207 : decode cX7_nextToken 207 = .ok (.isub, 1) := by decide +kernel
theorem dX7_nextToken_208 : decode cX7_nextToken 208 = .ok (.iconst 2, 1) := by decide +kernel
theorem dX7_nextToken_209 : decode cX7_nextToken 209 = .ok (.if_icmp .ge 26, 3) := by decide +kernel
theorem dX7_nextToken_212 : decode cX7_nextToken 212 = .ok (.bipush 10, 2) := by decide +kernel
theorem dX7_nextToken_214 : decode cX7_nextToken 214 = .ok (.aload_n 0, 1) := by decide +kernel
theorem dX7_nextToken_215 : decode cX7_nextToken 215 = .ok (.getfield 88, 3) := by decide +kernel
theorem dX7_nextToken_218 : decode cX7_nextToken 218 = .ok (.imul, 1) := by decide +kernel
theorem dX7_nextToken_219 : decode cX7_nextToken 219 = .ok (.aload_n 0, 1) := by decide +kernel
theorem dX7_nextToken_220 : decode cX7_nextToken 220 = .ok (.getfield 31, 3) := by decide +kernel
theorem dX7_nextToken_223 : decode cX7_nextToken 223 = .ok (.aload_n 0, 1) := by decide +kernel
theorem dX7_nextToken_224 : decode cX7_nextToken 224 = .ok (.getfield 84, 3) := by decide +kernel
theorem dX7_nextToken_227 : decode cX7_nextToken 227 = .ok (.iaload, 1) := by decide +kernel
theorem dX7_nextToken_228 : decode cX7_nextToken 228 = .ok (.iadd, 1) := by decide +kernel
theorem dX7_nextToken_229 : decode cX7_nextToken 229 = .ok (.bipush 48, 2) := by decide +kernel
theorem dX7_nextToken_231 : decode cX7_nextToken 231 = .ok (.isub, 1) := by decide +kernel
theorem dX7_nextToken_232 : decode cX7_nextToken 232 = .ok (.goto 7, 3) := by decide +kernel
theorem dX7_nextToken_235 : decode cX7_nextToken 235 = .ok (.aload_n 0, 1) := by decide +kernel
theorem dX7_nextToken_236 : decode cX7_nextToken 236 = .ok (.getfield 88, 3) := by decide +kernel
theorem dX7_nextToken_239 : decode cX7_nextToken 239 = .ok (.putfield 88, 3) := by decide +kernel
theorem dX7_nextToken_242 : decode cX7_nextToken 242 = .ok (.aload_n 0, 1) := by decide +kernel
theorem dX7_nextToken_243 : decode cX7_nextToken 243 = .ok (.dup, 1) := by decide +kernel
theorem dX7_nextToken_244 : decode cX7_nextToken 244 = .ok (.getfield 84, 3) := by decide +kernel
theorem dX7_nextToken_247 : decode cX7_nextToken 247 = .ok (.iconst 1, 1) := by decide +kernel
theorem dX7_nextToken_248 : decode cX7_nextToken 248 = .ok (.iadd, 1) := by decide +kernel
theorem dX7_nextToken_249 : decode cX7_nextToken 249 = .ok (.putfield 84, 3) := by decide +kernel
theorem dX7_nextToken_252 : decode cX7_nextToken 252 = .ok (.goto (-87), 3) := by decide +kernel
theorem dX7_nextToken_255 : decode cX7_nextToken 255 = .ok (.aload_n 0, 1) := by decide +kernel
theorem dX7_nextToken_256 : decode cX7_nextToken 256 = .ok (.aload_n 0, 1) := by decide +kernel
theorem dX7_nextToken_257 : decode cX7_nextToken 257 = .ok (.getfield 84, 3) := by decide +kernel
theorem dX7_nextToken_260 : decode cX7_nextToken 260 = .ok (.aload_n 0, 1) := by decide +kernel
theorem dX7_nextToken_261 : decode cX7_nextToken 261 = .ok (.getfield 78, 3) := by decide +kernel
theorem dX7_nextToken_264 : decode cX7_nextToken 264 = .ok (.isub, 1) := by decide +kernel
theorem dX7_nextToken_265 : decode cX7_nextToken 265 = .ok (.iconst 2, 1) := by decide +kernel
theorem dX7_nextToken_266 : decode cX7_nextToken 266 = .ok (.if_icmp .le 7, 3) := by decide +kernel
theorem dX7_nextToken_269 : decode cX7_nextToken 269 = .ok (.iconst 0, 1) := by decide +kernel
theorem dX7_nextToken_270 : decode cX7_nextToken 270 = .ok (.goto 4, 3) := by decide +kernel
theorem dX7_nextToken_273 : decode cX7_nextToken 273 = .ok (.iconst 3, 1) := by decide +kernel
theorem dX7_nextToken_274 : decode cX7_nextToken 274 = .ok (.putfield 99, 3) := by decide +kernel
theorem dX7_nextToken_277 : decode cX7_nextToken 277 = .ok (.return_, 1) := by decide +kernel
theorem dX7_must_0 : decode cX7_must 0 = .ok (.iload_n 1, 1) := by decide +kernel
theorem dX7_must_1 : decode cX7_must 1 = .ok (.ifCond .ne 8, 3) := by decide +kernel
theorem dX7_must_4 : decode cX7_must 4 = .ok (.aload_n 0, 1) := by decide +kernel
theorem dX7_must_5 : decode cX7_must 5 = .ok (.iconst 1, 1) := by decide +kernel
theorem dX7_must_6 : decode cX7_must 6 = .ok (.invokevirtual 102, 3) := by decide +kernel
theorem dX7_must_9 : decode cX7_must 9 = .ok (.aload_n 0, 1) := by decide +kernel
theorem dX7_must_10 : decode cX7_must 10 = .ok (.getfield 75, 3) := by decide +kernel
theorem dX7_must_13 : decode cX7_must 13 = .ok (.ifCond .ne 7, 3) := by decide +kernel
theorem dX7_must_16 : decode cX7_must 16 = .ok (.aload_n 0, 1) := by decide +kernel
theorem dX7_must_17 : decode cX7_must 17 = .ok (.invokevirtual 106, 3) := by decide +kernel
theorem dX7_must_20 : decode cX7_must 20 = .ok (.return_, 1) := by decide +kernel
theorem dX7_isLetter_0 : decode cX7_isLetter 0 = .ok (.aload_n 0, 1) := by decide +kernel
theorem dX7_isLetter_1 : decode cX7_isLetter 1 = .ok (.getfield 75, 3) := by decide +kernel
theorem dX7_isLetter_4 : decode cX7_isLetter 4 = .ok (.ifCond .ne 23, 3) := by decide +kernel
theorem dX7_isLetter_7 : decode cX7_isLetter 7 = .ok (.aload_n 0, 1) := by decide +kernel
theorem dX7_isLetter_8 : decode cX7_isLetter 8 = .ok (.getfield 99, 3) := by decide +kernel
theorem dX7_isLetter_11 : decode cX7_isLetter 11 = .ok (.iconst 2, 1) := by decide +kernel
theorem dX7_isLetter_12 : decode cX7_isLetter 12 = .ok (.if_icmp .ne 15, 3) := by decide +kernel
theorem dX7_isLetter_15 : decode cX7_isLetter 15 = .ok (.aload_n 0, 1) := by decide +kernel
theorem dX7_isLetter_16 : decode cX7_isLetter 16 = .ok (.getfield 88, 3) := by decide +kernel
theorem dX7_isLetter_19 : decode cX7_isLetter 19 = .ok (.iload_n 1, 1) := by decide +kernel
theorem dX7_isLetter_20 : decode cX7_isLetter 20 = .ok (.if_icmp .ne 7, 3) := by decide +kernel
theorem dX7_isLetter_23 : decode cX7_isLetter 23 = .ok (.iconst 1, 1) := by decide +kernel
theorem dX7_isLetter_24 : decode cX7_isLetter 24 = .ok (.goto 4, 3) := by decide +kernel
theorem dX7_isLetter_27 : decode cX7_isLetter 27 = .ok (.iconst 0, 1) := by decide +kernel
theorem dX7_isLetter_28 : decode cX7_isLetter 28 = .ok (.ireturn, 1) := by decide +kernel
theorem dX7_number_0 : decode cX7_number 0 = .ok (.aload_n 0, 1) := by decide +kernel
theorem dX7_number_1 : decode cX7_number 1 = .ok (.getfield 75, 3) := by decide +kernel
theorem dX7_number_4 : decode cX7_number 4 = .ok (.ifCond .ne 16, 3) := by decide +kernel
theorem dX7_number_7 : decode cX7_number 7 = .ok (.aload_n 0, 1) := by decide +kernel
theorem dX7_number_8 : decode cX7_number 8 = .ok (.getfield 99, 3) := by decide +kernel
theorem dX7_number_11 : decode cX7_number 11 = .ok (.iconst 3, 1) := by decide +kernel
theorem dX7_number_12 : decode cX7_number 12 = .ok (.if_icmp .eq 8, 3) := by decide +kernel
theorem dX7_number_15 : decode cX7_number 15 = .ok (.aload_n 0, 1) := by decide +kernel
theorem dX7_number_16 : decode cX7_number 16 = .ok (.iconst 1, 1) := by decide +kernel
theorem dX7_number_17 : decode cX7_number 17 = .ok (.invokevirtual 102, 3) := by decide +kernel
theorem dX7_number_20 : decode cX7_number 20 = .ok (.aload_n 0, 1) := by decide +kernel
theorem dX7_number_21 : decode cX7_number 21 = .ok (.getfield 75, 3) := by decide +kernel
theorem dX7_number_24 : decode cX7_number 24 = .ok (.ifCond .ne 23, 3) := by decide +kernel
theorem dX7_number_27 : decode cX7_number 27 = .ok (.aload_n 0, 1) := by decide +kernel
theorem dX7_number_28 : decode cX7_number 28 = .ok (.getfield 88, 3) := by decide +kernel
theorem dX7_number_31 : decode cX7_number 31 = .ok (.i2l, 1) := by decide +kernel
theorem dX7_number_32 : decode cX7_number 32 = .ok (.iload_n 1, 1) := by decide +kernel
theorem dX7_number_33 : decode cX7_number 33 = .ok (.i2l, 1) := by decide +kernel
theorem dX7_number_34 : decode cX7_number 34 = .ok (.iload_n 2, 1) := by decide +kernel
theorem dX7_number_35 : decode cX7_number 35 = .ok (.i2l, 1) := by decide +kernel
theorem dX7_number_36 : decode cX7_number 36 = .ok (.invokestatic 54, 3) := by decide +kernel
theorem dX7_number_39 : decode cX7_number 39 = .ok (.ifCond .ne 8, 3) := by decide +kernel
theorem dX7_number_42 : decode cX7_number 42 = .ok (.aload_n 0, 1) := by decide +kernel
theorem dX7_number_43 : decode cX7_number 43 = .ok (.iconst 2, 1) := by decide +kernel
theorem dX7_number_44 : decode cX7_number 44 = .ok (.invokevirtual 102, 3) := by decide +kernel
theorem dX7_number_47 : decode cX7_number 47 = .ok (.aload_n 0, 1) := by decide +kernel
theorem dX7_number_48 : decode cX7_number 48 = .ok (.getfield 75, 3) := by decide +kernel
theorem dX7_number_51 : decode cX7_number 51 = .ok (.ifCond .ne 10, 3) := by decide +kernel
theorem dX7_number_54 : decode cX7_number 54 = .ok (.aload_n 0, 1) := by decide +kernel
theorem dX7_number_55 : decode cX7_number 55 = .ok (.getfield 88, 3) := by decide +kernel
theorem dX7_number_58 : decode cX7_number 58 = .ok (.goto 4, 3) := by decide +kernel
theorem dX7_number_61 : decode cX7_number 61 = .ok (.iload_n 1, 1) := by decide +kernel
theorem dX7_number_62 : decode cX7_number 62 = .ok (.istore_n 3, 1) := by decide +kernel
theorem dX7_number_63 : decode cX7_number 63 = .ok (.aload_n 0, 1) := by decide +kernel
theorem dX7_number_64 : decode cX7_number 64 = .ok (.iconst 1, 1) := by decide +kernel
theorem dX7_number_65 : decode cX7_number 65 = .ok (.invokevirtual 109, 3) := by decide +kernel
theorem dX7_number_68 : decode cX7_number 68 = .ok (.iload_n 3, 1) := by decide +kernel
theorem dX7_number_69 : decode cX7_number 69 = .ok (.ireturn, 1) := by decide +kernel
theorem dX7_mustSign_0 : decode cX7_mustSign 0 = .ok (.aload_n 0, 1) := by decide +kernel
theorem dX7_mustSign_1 : decode cX7_mustSign 1 = .ok (.aload_n 0, 1) := by decide +kernel
theorem dX7_mustSign_2 : decode cX7_mustSign 2 = .ok (.getfield 99, 3) := by decide +kernel
theorem dX7_mustSign_5 : decode cX7_mustSign 5 = .ok (.iconst 4, 1) := by decide +kernel
theorem dX7_mustSign_6 : decode cX7_mustSign 6 = .ok (.if_icmp .ne 15, 3) := by decide +kernel
theorem dX7_mustSign_9 : decode cX7_mustSign 9 = .ok (.aload_n 0, 1) := by decide +kernel
theorem dX7_mustSign_10 : decode cX7_mustSign 10 = .ok (.getfield 88, 3) := by decide +kernel
theorem dX7_mustSign_13 : decode cX7_mustSign 13 = .ok (.iload_n 1, 1) := by decide +kernel
theorem dX7_mustSign_14 : decode cX7_mustSign 14 = .ok (.if_icmp .ne 7, 3) := by decide +kernel
theorem dX7_mustSign_17 : decode cX7_mustSign 17 = .ok (.iconst 1, 1) := by decide +kernel
theorem dX7_mustSign_18 : decode cX7_mustSign 18 = .ok (.goto 4, 3) := by decide +kernel
theorem dX7_mustSign_21 : decode cX7_mustSign 21 = .ok (.iconst 0, 1) := by decide +kernel
theorem dX7_mustSign_22 : decode cX7_mustSign 22 = .ok (.invokevirtual 109, 3) := by decide +kernel
theorem dX7_mustSign_25 : decode cX7_mustSign 25 = .ok (.return_, 1) := by decide +kernel
theorem dX7_begin_0 : decode cX7_begin 0 = .ok (.aload_n 0, 1) := by decide +kernel
theorem dX7_begin_1 : decode cX7_begin 1 = .ok (.iconst 0, 1) := by decide +kernel
theorem dX7_begin_2 : decode cX7_begin 2 = .ok (.putfield 84, 3) := by decide +kernel
theorem dX7_begin_5 : decode cX7_begin 5 = .ok (.aload_n 0, 1) := by decide +kernel
theorem dX7_begin_6 : decode cX7_begin 6 = .ok (.iconst 0, 1) := by decide +kernel
theorem dX7_begin_7 : decode cX7_begin 7 = .ok (.putfield 75, 3) := by decide +kernel
theorem dX7_begin_10 : decode cX7_begin 10 = .ok (.aload_n 0, 1) := by decide +kernel
theorem dX7_begin_11 : decode cX7_begin 11 = .ok (.invokevirtual 106, 3) := by decide +kernel
theorem dX7_begin_14 : decode cX7_begin 14 = .ok (.return_, 1) := by decide +kernel
theorem dX7_failed_0 : decode cX7_failed 0 = .ok (.aload_n 0, 1) := by decide +kernel
theorem dX7_failed_1 : decode cX7_failed 1 = .ok (.getfield 75, 3) := by decide +kernel
theorem dX7_failed_4 : decode cX7_failed 4 = .ok (.ifCond .ne 16, 3) := by decide +kernel
theorem dX7_failed_7 : decode cX7_failed 7 = .ok (.aload_n 0, 1) := by decide +kernel
theorem dX7_failed_8 : decode cX7_failed 8 = .ok (.getfield 99, 3) := by decide +kernel
theorem dX7_failed_11 : decode cX7_failed 11 = .ok (.iconst 1, 1) := by decide +kernel
theorem dX7_failed_12 : decode cX7_failed 12 = .ok (.if_icmp .eq 8, 3) := by decide +kernel
theorem dX7_failed_15 : decode cX7_failed 15 = .ok (.aload_n 0, 1) := by decide +kernel
theorem dX7_failed_16 : decode cX7_failed 16 = .ok (.iconst 1, 1) := by decide +kernel
theorem dX7_failed_17 : decode cX7_failed 17 = .ok (.invokevirtual 102, 3) := by decide +kernel
theorem dX7_failed_20 : decode cX7_failed 20 = .ok (.aload_n 0, 1) := by decide +kernel
theorem dX7_failed_21 : decode cX7_failed 21 = .ok (.iconst 0, 1) := by decide +kernel
theorem dX7_failed_22 : decode cX7_failed 22 = .ok (.putfield 71, 3) := by decide +kernel
theorem dX7_failed_25 : decode cX7_failed 25 = .ok (.aload_n 0, 1) := by decide +kernel
theorem dX7_failed_26 : decode cX7_failed 26 = .ok (.aload_n 0, 1) := by decide +kernel
theorem dX7_failed_27 : decode cX7_failed 27 = .ok (.getfield 75, 3) := by decide +kernel
theorem dX7_failed_30 : decode cX7_failed 30 = .ok (.ifCond .le 10, 3) := by decide +kernel
theorem dX7_failed_33 : decode cX7_failed 33 = .ok (.aload_n 0, 1) := by decide +kernel
theorem dX7_failed_34 : decode cX7_failed 34 = .ok (.getfield 75, 3) := by decide +kernel
theorem dX7_failed_37 : decode cX7_failed 37 = .ok (.goto 7, 3) := by decide +kernel
theorem dX7_failed_40 : decode cX7_failed 40 = .ok (.aload_n 0, 1) := by decide +kernel
theorem dX7_failed_41 : decode cX7_failed 41 = .ok (.getfield 113, 3) := by decide +kernel
theorem dX7_failed_44 : decode cX7_failed 44 = .ok (.putfield 113, 3) := by decide +kernel
theorem dX7_failed_47 : decode cX7_failed 47 = .ok (.aload_n 0, 1) := by decide +kernel
theorem dX7_failed_48 : decode cX7_failed 48 = .ok (.getfield 75, 3) := by decide +kernel
theorem dX7_failed_51 : decode cX7_failed 51 = .ok (.ifCond .le 7, 3) := by decide +kernel
theorem dX7_failed_54 : decode cX7_failed 54 = .ok (.iconst 1, 1) := by decide +kernel
theorem dX7_failed_55 : decode cX7_failed 55 = .ok (.goto 4, 3) := by decide +kernel
theorem dX7_failed_58 : decode cX7_failed 58 = .ok (.iconst 0, 1) := by decide +kernel
theorem dX7_failed_59 : decode cX7_failed 59 = .ok (.ireturn, 1) := by decide +kernel
theorem dX7_fault_0 : decode cX7_fault 0 = .ok (.aload_n 0, 1) := by decide +kernel
theorem dX7_fault_1 : decode cX7_fault 1 = .ok (.iconst 0, 1) := by decide +kernel
theorem dX7_fault_2 : decode cX7_fault 2 = .ok (.putfield 44, 3) := by decide +kernel
theorem dX7_fault_5 : decode cX7_fault 5 = .ok (.aload_n 0, 1) := by decide +kernel
theorem dX7_fault_6 : decode cX7_fault 6 = .ok (.getfield 113, 3) := by decide +kernel
theorem dX7_fault_9 : decode cX7_fault 9 = .ok (.ireturn, 1) := by decide +kernel
theorem dX7_kindBy_0 : decode cX7_kindBy 0 = .ok (.iload_n 0, 1) := by decide +kernel
theorem dX7_kindBy_1 : decode cX7_kindBy 1 = .ok (.bipush 112, 2) := by decide +kernel
theorem dX7_kindBy_3 : decode cX7_kindBy 3 = .ok (.if_icmp .ne 7, 3) := by decide +kernel
theorem dX7_kindBy_6 : decode cX7_kindBy 6 = .ok (.iconst 1, 1) := by decide +kernel
theorem dX7_kindBy_7 : decode cX7_kindBy 7 = .ok (.goto 45, 3) := by decide +kernel
theorem dX7_kindBy_10 : decode cX7_kindBy 10 = .ok (.iload_n 0, 1) := by decide +kernel
theorem dX7_kindBy_11 : decode cX7_kindBy 11 = .ok (.bipush 108, 2) := by decide +kernel
theorem dX7_kindBy_13 : decode cX7_kindBy 13 = .ok (.if_icmp .ne 7, 3) := by decide +kernel
theorem dX7_kindBy_16 : decode cX7_kindBy 16 = .ok (.iconst 2, 1) := by decide +kernel
theorem dX7_kindBy_17 : decode cX7_kindBy 17 = .ok (.goto 35, 3) := by decide +kernel
theorem dX7_kindBy_20 : decode cX7_kindBy 20 = .ok (.iload_n 0, 1) := by decide +kernel
theorem dX7_kindBy_21 : decode cX7_kindBy 21 = .ok (.bipush 98, 2) := by decide +kernel
theorem dX7_kindBy_23 : decode cX7_kindBy 23 = .ok (.if_icmp .ne 7, 3) := by decide +kernel
theorem dX7_kindBy_26 : decode cX7_kindBy 26 = .ok (.iconst 3, 1) := by decide +kernel
theorem dX7_kindBy_27 : decode cX7_kindBy 27 = .ok (.goto 25, 3) := by decide +kernel
theorem dX7_kindBy_30 : decode cX7_kindBy 30 = .ok (.iload_n 0, 1) := by decide +kernel
theorem dX7_kindBy_31 : decode cX7_kindBy 31 = .ok (.bipush 100, 2) := by decide +kernel
theorem dX7_kindBy_33 : decode cX7_kindBy 33 = .ok (.if_icmp .ne 7, 3) := by decide +kernel
theorem dX7_kindBy_36 : decode cX7_kindBy 36 = .ok (.iconst 4, 1) := by decide +kernel
theorem dX7_kindBy_37 : decode cX7_kindBy 37 = .ok (.goto 15, 3) := by decide +kernel
theorem dX7_kindBy_40 : decode cX7_kindBy 40 = .ok (.iload_n 0, 1) := by decide +kernel
theorem dX7_kindBy_41 : decode cX7_kindBy 41 = .ok (.bipush 115, 2) := by decide +kernel
theorem dX7_kindBy_43 : decode cX7_kindBy 43 = .ok (.if_icmp .ne 7, 3) := by decide +kernel
theorem dX7_kindBy_46 : decode cX7_kindBy 46 = .ok (.iconst 5, 1) := by decide +kernel
theorem dX7_kindBy_47 : decode cX7_kindBy 47 = .ok (.goto 5, 3) := by decide +kernel
theorem dX7_kindBy_50 : decode cX7_kindBy 50 = .ok (.ldc 87, 2) := by decide +kernel
theorem dX7_kindBy_52 : decode cX7_kindBy 52 = .ok (.ireturn, 1) := by decide +kernel
theorem dX7_isSort_0 : decode cX7_isSort 0 = .ok (.aload_n 0, 1) := by decide +kernel
theorem dX7_isSort_1 : decode cX7_isSort 1 = .ok (.getfield 75, 3) := by decide +kernel
theorem dX7_isSort_4 : decode cX7_isSort 4 = .ok (.ifCond .ne 27, 3) := by decide +kernel
theorem dX7_isSort_7 : decode cX7_isSort 7 = .ok (.aload_n 0, 1) := by decide +kernel
theorem dX7_isSort_8 : decode cX7_isSort 8 = .ok (.getfield 99, 3) := by decide +kernel
theorem dX7_isSort_11 : decode cX7_isSort 11 = .ok (.iconst 2, 1) := by decide +kernel
theorem dX7_isSort_12 : decode cX7_isSort 12 = .ok (.if_icmp .ne 19, 3) := by decide +kernel
theorem dX7_isSort_15 : decode cX7_isSort 15 = .ok (.aload_n 0, 1) := by decide +kernel
theorem dX7_isSort_16 : decode cX7_isSort 16 = .ok (.getfield 88, 3) := by decide +kernel
theorem dX7_isSort_19 : decode cX7_isSort 19 = .ok (.invokestatic 116, 3) := by decide +kernel
theorem dX7_isSort_22 : decode cX7_isSort 22 = .ok (.ldc 87, 2) := by decide +kernel
theorem dX7_isSort_24 : decode cX7_isSort 24 = .ok (.if_icmp .eq 7, 3) := by decide +kernel
theorem dX7_isSort_27 : decode cX7_isSort 27 = .ok (.iconst 1, 1) := by decide +kernel
theorem dX7_isSort_28 : decode cX7_isSort 28 = .ok (.goto 4, 3) := by decide +kernel
theorem dX7_isSort_31 : decode cX7_isSort 31 = .ok (.iconst 0, 1) := by decide +kernel
theorem dX7_isSort_32 : decode cX7_isSort 32 = .ok (.ireturn, 1) := by decide +kernel
theorem dX7_readPaper_0 : decode cX7_readPaper 0 = .ok (.aload_n 0, 1) := by decide +kernel
theorem dX7_readPaper_1 : decode cX7_readPaper 1 = .ok (.getfield 88, 3) := by decide +kernel
theorem dX7_readPaper_4 : decode cX7_readPaper 4 = .ok (.invokestatic 116, 3) := by decide +kernel
theorem dX7_readPaper_7 : decode cX7_readPaper 7 = .ok (.istore_n 1, 1) := by decide +kernel
theorem dX7_readPaper_8 : decode cX7_readPaper 8 = .ok (.aload_n 0, 1) := by decide +kernel
theorem dX7_readPaper_9 : decode cX7_readPaper 9 = .ok (.getfield 22, 3) := by decide +kernel
theorem dX7_readPaper_12 : decode cX7_readPaper 12 = .ok (.iconst 0, 1) := by decide +kernel
theorem dX7_readPaper_13 : decode cX7_readPaper 13 = .ok (.iaload, 1) := by decide +kernel
theorem dX7_readPaper_14 : decode cX7_readPaper 14 = .ok (.bipush 6, 2) := by decide +kernel
theorem dX7_readPaper_16 : decode cX7_readPaper 16 = .ok (.if_icmp .ne 8, 3) := by decide +kernel
theorem dX7_readPaper_19 : decode cX7_readPaper 19 = .ok (.aload_n 0, 1) := by decide +kernel
theorem dX7_readPaper_20 : decode cX7_readPaper 20 = .ok (.iconst 3, 1) := by decide +kernel
theorem dX7_readPaper_21 : decode cX7_readPaper 21 = .ok (.invokevirtual 102, 3) := by decide +kernel
theorem dX7_readPaper_24 : decode cX7_readPaper 24 = .ok (.aload_n 0, 1) := by decide +kernel
theorem dX7_readPaper_25 : decode cX7_readPaper 25 = .ok (.iconst 1, 1) := by decide +kernel
theorem dX7_readPaper_26 : decode cX7_readPaper 26 = .ok (.invokevirtual 109, 3) := by decide +kernel
theorem dX7_readPaper_29 : decode cX7_readPaper 29 = .ok (.aload_n 0, 1) := by decide +kernel
theorem dX7_readPaper_30 : decode cX7_readPaper 30 = .ok (.iconst 0, 1) := by decide +kernel
theorem dX7_readPaper_31 : decode cX7_readPaper 31 = .ok (.bipush 9, 2) := by decide +kernel
theorem dX7_readPaper_33 : decode cX7_readPaper 33 = .ok (.invokevirtual 119, 3) := by decide +kernel
theorem dX7_readPaper_36 : decode cX7_readPaper 36 = .ok (.istore_n 2, 1) := by decide +kernel
theorem dX7_readPaper_37 : decode cX7_readPaper 37 = .ok (.aload_n 0, 1) := by decide +kernel
theorem dX7_readPaper_38 : decode cX7_readPaper 38 = .ok (.bipush 44, 2) := by decide +kernel
theorem dX7_readPaper_40 : decode cX7_readPaper 40 = .ok (.invokevirtual 123, 3) := by decide +kernel
theorem dX7_readPaper_43 : decode cX7_readPaper 43 = .ok (.aload_n 0, 1) := by decide +kernel
theorem dX7_readPaper_44 : decode cX7_readPaper 44 = .ok (.iconst 0, 1) := by decide +kernel
theorem dX7_readPaper_45 : decode cX7_readPaper 45 = .ok (.bipush 9, 2) := by decide +kernel
theorem dX7_readPaper_47 : decode cX7_readPaper 47 = .ok (.invokevirtual 119, 3) := by decide +kernel
theorem dX7_readPaper_50 : decode cX7_readPaper 50 = .ok (.istore_n 3, 1) := by decide +kernel
theorem dX7_readPaper_51 : decode cX7_readPaper 51 = .ok (.aload_n 0, 1) := by decide +kernel
theorem dX7_readPaper_52 : decode cX7_readPaper 52 = .ok (.bipush 44, 2) := by decide +kernel
theorem dX7_readPaper_54 : decode cX7_readPaper 54 = .ok (.invokevirtual 123, 3) := by decide +kernel
theorem dX7_readPaper_57 : decode cX7_readPaper 57 = .ok (.aload_n 0, 1) := by decide +kernel
theorem dX7_readPaper_58 : decode cX7_readPaper 58 = .ok (.iconst 1, 1) := by decide +kernel
theorem dX7_readPaper_59 : decode cX7_readPaper 59 = .ok (.bipush 9, 2) := by decide +kernel
theorem dX7_readPaper_61 : decode cX7_readPaper 61 = .ok (.invokevirtual 119, 3) := by decide +kernel
theorem dX7_readPaper_64 : decode cX7_readPaper 64 = .ok (.istore 4, 2) := by decide +kernel
theorem dX7_readPaper_66 : decode cX7_readPaper 66 = .ok (.aload_n 0, 1) := by decide +kernel
theorem dX7_readPaper_67 : decode cX7_readPaper 67 = .ok (.bipush 59, 2) := by decide +kernel
theorem dX7_readPaper_69 : decode cX7_readPaper 69 = .ok (.invokevirtual 123, 3) := by decide +kernel
theorem dX7_readPaper_72 : decode cX7_readPaper 72 = .ok (.aload_n 0, 1) := by decide +kernel
theorem dX7_readPaper_73 : decode cX7_readPaper 73 = .ok (.getfield 75, 3) := by decide +kernel
theorem dX7_readPaper_76 : decode cX7_readPaper 76 = .ok (.ifCond .ne 75, 3) := by decide +kernel
theorem dX7_readPaper_79 : decode cX7_readPaper 79 = .ok (.bipush 6, 2) := by decide +kernel
theorem dX7_readPaper_81 : decode cX7_readPaper 81 = .ok (.iconst 5, 1) := by decide +kernel
theorem dX7_readPaper_82 : decode cX7_readPaper 82 = .ok (.aload_n 0, 1) := by decide +kernel
theorem dX7_readPaper_83 : decode cX7_readPaper 83 = .ok (.getfield 22, 3) := by decide +kernel
theorem dX7_readPaper_86 : decode cX7_readPaper 86 = .ok (.iconst 0, 1) := by decide +kernel
theorem dX7_readPaper_87 : decode cX7_readPaper 87 = .ok (.iaload, 1) := by decide +kernel
theorem dX7_readPaper_88 : decode cX7_readPaper 88 = .ok (.imul, 1) := by decide +kernel
theorem dX7_readPaper_89 : decode cX7_readPaper 89 = .ok (.iadd, 1) := by decide +kernel
theorem dX7_readPaper_90 : decode cX7_readPaper 90 = .ok (.istore 5, 2) := by decide +kernel
theorem dX7_readPaper_92 : decode cX7_readPaper 92 = .ok (.aload_n 0, 1) := by decide +kernel
theorem dX7_readPaper_93 : decode cX7_readPaper 93 = .ok (.getfield 22, 3) := by decide +kernel
theorem dX7_readPaper_96 : decode cX7_readPaper 96 = .ok (.iload 5, 2) := by decide +kernel
theorem dX7_readPaper_98 : decode cX7_readPaper 98 = .ok (.iload_n 1, 1) := by decide +kernel
theorem dX7_readPaper_99 : decode cX7_readPaper 99 = .ok (.iastore, 1) := by decide +kernel
theorem dX7_readPaper_100 : decode cX7_readPaper 100 = .ok (.aload_n 0, 1) := by decide +kernel
theorem dX7_readPaper_101 : decode cX7_readPaper 101 = .ok (.getfield 22, 3) := by decide +kernel
theorem dX7_readPaper_104 : decode cX7_readPaper 104 = .ok (.iload 5, 2) := by decide +kernel
theorem dX7_readPaper_106 : decode cX7_readPaper 106 = .ok (.iconst 1, 1) := by decide +kernel
theorem dX7_readPaper_107 : decode cX7_readPaper 107 = .ok (.iadd, 1) := by decide +kernel
theorem dX7_readPaper_108 : decode cX7_readPaper 108 = .ok (.iload_n 2, 1) := by decide +kernel
theorem dX7_readPaper_109 : decode cX7_readPaper 109 = .ok (.iastore, 1) := by decide +kernel
theorem dX7_readPaper_110 : decode cX7_readPaper 110 = .ok (.aload_n 0, 1) := by decide +kernel
theorem dX7_readPaper_111 : decode cX7_readPaper 111 = .ok (.getfield 22, 3) := by decide +kernel
theorem dX7_readPaper_114 : decode cX7_readPaper 114 = .ok (.iload 5, 2) := by decide +kernel
theorem dX7_readPaper_116 : decode cX7_readPaper 116 = .ok (.iconst 2, 1) := by decide +kernel
theorem dX7_readPaper_117 : decode cX7_readPaper 117 = .ok (.iadd, 1) := by decide +kernel
theorem dX7_readPaper_118 : decode cX7_readPaper 118 = .ok (.iload_n 3, 1) := by decide +kernel
theorem dX7_readPaper_119 : decode cX7_readPaper 119 = .ok (.iastore, 1) := by decide +kernel
theorem dX7_readPaper_120 : decode cX7_readPaper 120 = .ok (.aload_n 0, 1) := by decide +kernel
theorem dX7_readPaper_121 : decode cX7_readPaper 121 = .ok (.getfield 22, 3) := by decide +kernel
theorem dX7_readPaper_124 : decode cX7_readPaper 124 = .ok (.iload 5, 2) := by decide +kernel
theorem dX7_readPaper_126 : decode cX7_readPaper 126 = .ok (.iconst 3, 1) := by decide +kernel
theorem dX7_readPaper_127 : decode cX7_readPaper 127 = .ok (.iadd, 1) := by decide +kernel
theorem dX7_readPaper_128 : decode cX7_readPaper 128 = .ok (.iload 4, 2) := by decide +kernel
theorem dX7_readPaper_130 : decode cX7_readPaper 130 = .ok (.iastore, 1) := by decide +kernel
theorem dX7_readPaper_131 : decode cX7_readPaper 131 = .ok (.aload_n 0, 1) := by decide +kernel
theorem dX7_readPaper_132 : decode cX7_readPaper 132 = .ok (.getfield 22, 3) := by decide +kernel
theorem dX7_readPaper_135 : decode cX7_readPaper 135 = .ok (.iload 5, 2) := by decide +kernel
theorem dX7_readPaper_137 : decode cX7_readPaper 137 = .ok (.iconst 4, 1) := by decide +kernel
theorem dX7_readPaper_138 : decode cX7_readPaper 138 = .ok (.iadd, 1) := by decide +kernel
theorem dX7_readPaper_139 : decode cX7_readPaper 139 = .ok (.iconst 0, 1) := by decide +kernel
theorem dX7_readPaper_140 : decode cX7_readPaper 140 = .ok (.iastore, 1) := by decide +kernel
theorem dX7_readPaper_141 : decode cX7_readPaper 141 = .ok (.aload_n 0, 1) := by decide +kernel
theorem dX7_readPaper_142 : decode cX7_readPaper 142 = .ok (.getfield 22, 3) := by decide +kernel
theorem dX7_readPaper_145 : decode cX7_readPaper 145 = .ok (.iconst 0, 1) := by decide +kernel
theorem dX7_readPaper_146 : decode cX7_readPaper 146 = .ok (.dup2, 1) := by decide +kernel
theorem dX7_readPaper_147 : decode cX7_readPaper 147 = .ok (.iaload, 1) := by decide +kernel
theorem dX7_readPaper_148 : decode cX7_readPaper 148 = .ok (.iconst 1, 1) := by decide +kernel
theorem dX7_readPaper_149 : decode cX7_readPaper 149 = .ok (.iadd, 1) := by decide +kernel
theorem dX7_readPaper_150 : decode cX7_readPaper 150 = .ok (.iastore, 1) := by decide +kernel
theorem dX7_readPaper_151 : decode cX7_readPaper 151 = .ok (.return_, 1) := by decide +kernel
theorem dX7_square_0 : decode cX7_square 0 = .ok (.aload_n 0, 1) := by decide +kernel
theorem dX7_square_1 : decode cX7_square 1 = .ok (.iconst 0, 1) := by decide +kernel
theorem dX7_square_2 : decode cX7_square 2 = .ok (.putfield 44, 3) := by decide +kernel
theorem dX7_square_5 : decode cX7_square 5 = .ok (.aload_n 0, 1) := by decide +kernel
theorem dX7_square_6 : decode cX7_square 6 = .ok (.invokevirtual 126, 3) := by decide +kernel
theorem dX7_square_9 : decode cX7_square 9 = .ok (.iconst 0, 1) := by decide +kernel
theorem dX7_square_10 : decode cX7_square 10 = .ok (.istore_n 1, 1) := by decide +kernel
theorem dX7_square_11 : decode cX7_square 11 = .ok (.iload_n 1, 1) := by decide +kernel
theorem dX7_square_12 : decode cX7_square 12 = .ok (.bipush 36, 2) := by decide +kernel
theorem dX7_square_14 : decode cX7_square 14 = .ok (.if_icmp .ge 16, 3) := by decide +kernel
theorem dX7_square_17 : decode cX7_square 17 = .ok (.aload_n 0, 1) := by decide +kernel
theorem dX7_square_18 : decode cX7_square 18 = .ok (.getfield 22, 3) := by decide +kernel
theorem dX7_square_21 : decode cX7_square 21 = .ok (.iload_n 1, 1) := by decide +kernel
theorem dX7_square_22 : decode cX7_square 22 = .ok (.iconst 0, 1) := by decide +kernel
theorem dX7_square_23 : decode cX7_square 23 = .ok (.iastore, 1) := by decide +kernel
theorem dX7_square_24 : decode cX7_square 24 = .ok (.iinc 1 1, 3) := by decide +kernel
theorem dX7_square_27 : decode cX7_square 27 = .ok (.goto (-16), 3) := by decide +kernel
theorem dX7_square_30 : decode cX7_square 30 = .ok (.aload_n 0, 1) := by decide +kernel
theorem dX7_square_31 : decode cX7_square 31 = .ok (.aload_n 0, 1) := by decide +kernel
theorem dX7_square_32 : decode cX7_square 32 = .ok (.bipush 99, 2) := by decide +kernel
theorem dX7_square_34 : decode cX7_square 34 = .ok (.invokevirtual 129, 3) := by decide +kernel
theorem dX7_square_37 : decode cX7_square 37 = .ok (.invokevirtual 109, 3) := by decide +kernel
theorem dX7_square_40 : decode cX7_square 40 = .ok (.aload_n 0, 1) := by decide +kernel
theorem dX7_square_41 : decode cX7_square 41 = .ok (.getfield 22, 3) := by decide +kernel
theorem dX7_square_44 : decode cX7_square 44 = .ok (.iconst 1, 1) := by decide +kernel
theorem dX7_square_45 : decode cX7_square 45 = .ok (.aload_n 0, 1) := by decide +kernel
theorem dX7_square_46 : decode cX7_square 46 = .ok (.iconst 0, 1) := by decide +kernel
theorem dX7_square_47 : decode cX7_square 47 = .ok (.bipush 9, 2) := by decide +kernel
theorem dX7_square_49 : decode cX7_square 49 = .ok (.invokevirtual 119, 3) := by decide +kernel
theorem dX7_square_52 : decode cX7_square 52 = .ok (.iastore, 1) := by decide +kernel
theorem dX7_square_53 : decode cX7_square 53 = .ok (.aload_n 0, 1) := by decide +kernel
theorem dX7_square_54 : decode cX7_square 54 = .ok (.bipush 44, 2) := by decide +kernel
theorem dX7_square_56 : decode cX7_square 56 = .ok (.invokevirtual 123, 3) := by decide +kernel
theorem dX7_square_59 : decode cX7_square 59 = .ok (.aload_n 0, 1) := by decide +kernel
theorem dX7_square_60 : decode cX7_square 60 = .ok (.getfield 22, 3) := by decide +kernel
theorem dX7_square_63 : decode cX7_square 63 = .ok (.iconst 2, 1) := by decide +kernel
theorem dX7_square_64 : decode cX7_square 64 = .ok (.aload_n 0, 1) := by decide +kernel
theorem dX7_square_65 : decode cX7_square 65 = .ok (.iconst 0, 1) := by decide +kernel
theorem dX7_square_66 : decode cX7_square 66 = .ok (.iconst 2, 1) := by decide +kernel
theorem dX7_square_67 : decode cX7_square 67 = .ok (.invokevirtual 119, 3) := by decide +kernel
theorem dX7_square_70 : decode cX7_square 70 = .ok (.iastore, 1) := by decide +kernel
theorem dX7_square_71 : decode cX7_square 71 = .ok (.aload_n 0, 1) := by decide +kernel
theorem dX7_square_72 : decode cX7_square 72 = .ok (.bipush 59, 2) := by decide +kernel
theorem dX7_square_74 : decode cX7_square 74 = .ok (.invokevirtual 123, 3) := by decide +kernel
theorem dX7_square_77 : decode cX7_square 77 = .ok (.aload_n 0, 1) := by decide +kernel
theorem dX7_square_78 : decode cX7_square 78 = .ok (.invokevirtual 132, 3) := by decide +kernel
theorem dX7_square_81 : decode cX7_square 81 = .ok (.ifCond .ne 8, 3) := by decide +kernel
theorem dX7_square_84 : decode cX7_square 84 = .ok (.aload_n 0, 1) := by decide +kernel
theorem dX7_square_85 : decode cX7_square 85 = .ok (.iconst 1, 1) := by decide +kernel
theorem dX7_square_86 : decode cX7_square 86 = .ok (.invokevirtual 102, 3) := by decide +kernel
theorem dX7_square_89 : decode cX7_square 89 = .ok (.aload_n 0, 1) := by decide +kernel
theorem dX7_square_90 : decode cX7_square 90 = .ok (.invokevirtual 132, 3) := by decide +kernel
theorem dX7_square_93 : decode cX7_square 93 = .ok (.ifCond .eq 10, 3) := by decide +kernel
theorem dX7_square_96 : decode cX7_square 96 = .ok (.aload_n 0, 1) := by decide +kernel
theorem dX7_square_97 : decode cX7_square 97 = .ok (.invokevirtual 136, 3) := by decide +kernel
theorem dX7_square_100 : decode cX7_square 100 = .ok (.goto (-11), 3) := by decide +kernel
theorem dX7_square_103 : decode cX7_square 103 = .ok (.aload_n 0, 1) := by decide +kernel
theorem dX7_square_104 : decode cX7_square 104 = .ok (.invokevirtual 139, 3) := by decide +kernel
theorem dX7_square_107 : decode cX7_square 107 = .ok (.ifCond .eq 11, 3) := by decide +kernel
theorem dX7_square_110 : decode cX7_square 110 = .ok (.ldc 142, 2) := by decide +kernel
theorem dX7_square_112 : decode cX7_square 112 = .ok (.aload_n 0, 1) := by decide +kernel
theorem dX7_square_113 : decode cX7_square 113 = .ok (.getfield 81, 3) := by decide +kernel
theorem dX7_square_116 : decode cX7_square 116 = .ok (.isub, 1) := by decide +kernel
theorem dX7_square_117 : decode cX7_square 117 = .ok (.ireturn, 1) := by decide +kernel
theorem dX7_square_118 : decode cX7_square 118 = .ok (.aload_n 0, 1) := by decide +kernel
theorem dX7_square_119 : decode cX7_square 119 = .ok (.iconst 0, 1) := by decide +kernel
theorem dX7_square_120 : decode cX7_square 120 = .ok (.putfield 143, 3) := by decide +kernel
theorem dX7_square_123 : decode cX7_square 123 = .ok (.iconst 0, 1) := by decide +kernel
theorem dX7_square_124 : decode cX7_square 124 = .ok (.istore_n 1, 1) := by decide +kernel
theorem dX7_square_125 : decode cX7_square 125 = .ok (.iload_n 1, 1) := by decide +kernel
theorem dX7_square_126 : decode cX7_square 126 = .ok (.bipush 36, 2) := by decide +kernel
theorem dX7_square_128 : decode cX7_square 128 = .ok (.if_icmp .ge 21, 3) := by decide +kernel
theorem dX7_square_131 : decode cX7_square 131 = .ok (.aload_n 0, 1) := by decide +kernel
theorem dX7_square_132 : decode cX7_square 132 = .ok (.getfield 19, 3) := by decide +kernel
theorem dX7_square_135 : decode cX7_square 135 = .ok (.iload_n 1, 1) := by decide +kernel
theorem dX7_square_136 : decode cX7_square 136 = .ok (.aload_n 0, 1) := by decide +kernel
theorem dX7_square_137 : decode cX7_square 137 = .ok (.getfield 22, 3) := by decide +kernel
theorem dX7_square_140 : decode cX7_square 140 = .ok (.iload_n 1, 1) := by decide +kernel
theorem dX7_square_141 : decode cX7_square 141 = .ok (.iaload, 1) := by decide +kernel
theorem dX7_square_142 : decode cX7_square 142 = .ok (.iastore, 1) := by decide +kernel
theorem dX7_square_143 : decode cX7_square 143 = .ok (.iinc 1 1, 3) := by decide +kernel
theorem dX7_square_146 : decode cX7_square 146 = .ok (.goto (-21), 3) := by decide +kernel
theorem dX7_square_149 : decode cX7_square 149 = .ok (.aload_n 0, 1) := by decide +kernel
theorem dX7_square_150 : decode cX7_square 150 = .ok (.getfield 19, 3) := by decide +kernel
theorem dX7_square_153 : decode cX7_square 153 = .ok (.iconst 0, 1) := by decide +kernel
theorem dX7_square_154 : decode cX7_square 154 = .ok (.iaload, 1) := by decide +kernel
theorem dX7_square_155 : decode cX7_square 155 = .ok (.ireturn, 1) := by decide +kernel
theorem dX7_isThere_0 : decode cX7_isThere 0 = .ok (.aload_n 0, 1) := by decide +kernel
theorem dX7_isThere_1 : decode cX7_isThere 1 = .ok (.getfield 19, 3) := by decide +kernel
theorem dX7_isThere_4 : decode cX7_isThere 4 = .ok (.iconst 0, 1) := by decide +kernel
theorem dX7_isThere_5 : decode cX7_isThere 5 = .ok (.iaload, 1) := by decide +kernel
theorem dX7_isThere_6 : decode cX7_isThere 6 = .ok (.ifCond .le 7, 3) := by decide +kernel
theorem dX7_isThere_9 : decode cX7_isThere 9 = .ok (.iconst 1, 1) := by decide +kernel
theorem dX7_isThere_10 : decode cX7_isThere 10 = .ok (.goto 4, 3) := by decide +kernel
theorem dX7_isThere_13 : decode cX7_isThere 13 = .ok (.iconst 0, 1) := by decide +kernel
theorem dX7_isThere_14 : decode cX7_isThere 14 = .ok (.ireturn, 1) := by decide +kernel
theorem dX7_isPaper_0 : decode cX7_isPaper 0 = .ok (.iload_n 1, 1) := by decide +kernel
theorem dX7_isPaper_1 : decode cX7_isPaper 1 = .ok (.i2l, 1) := by decide +kernel
theorem dX7_isPaper_2 : decode cX7_isPaper 2 = .ok (.lconst 0, 1) := by decide +kernel
theorem dX7_isPaper_3 : decode cX7_isPaper 3 = .ok (.aload_n 0, 1) := by decide +kernel
theorem dX7_isPaper_4 : decode cX7_isPaper 4 = .ok (.getfield 19, 3) := by decide +kernel
theorem dX7_isPaper_7 : decode cX7_isPaper 7 = .ok (.iconst 0, 1) := by decide +kernel
theorem dX7_isPaper_8 : decode cX7_isPaper 8 = .ok (.iaload, 1) := by decide +kernel
theorem dX7_isPaper_9 : decode cX7_isPaper 9 = .ok (.iconst 1, 1) := by decide +kernel
theorem dX7_isPaper_10 : decode cX7_isPaper 10 = .ok (.isub, 1) := by decide +kernel
theorem dX7_isPaper_11 : decode cX7_isPaper 11 = .ok (.i2l, 1) := by decide +kernel
theorem dX7_isPaper_12 : decode cX7_isPaper 12 = .ok (.invokestatic 54, 3) := by decide +kernel
theorem dX7_isPaper_15 : decode cX7_isPaper 15 = .ok (.ireturn, 1) := by decide +kernel
theorem dX7_bits_0 : decode cX7_bits 0 = .ok (.iconst 0, 1) := by decide +kernel
theorem dX7_bits_1 : decode cX7_bits 1 = .ok (.istore_n 1, 1) := by decide +kernel
theorem dX7_bits_2 : decode cX7_bits 2 = .ok (.iconst 0, 1) := by decide +kernel
theorem dX7_bits_3 : decode cX7_bits 3 = .ok (.istore_n 2, 1) := by decide +kernel
theorem dX7_bits_4 : decode cX7_bits 4 = .ok (.iload_n 2, 1) := by decide +kernel
theorem dX7_bits_5 : decode cX7_bits 5 = .ok (.bipush 6, 2) := by decide +kernel
theorem dX7_bits_7 : decode cX7_bits 7 = .ok (.if_icmp .ge 17, 3) := by decide +kernel
theorem dX7_bits_10 : decode cX7_bits 10 = .ok (.iload_n 1, 1) := by decide +kernel
theorem dX7_bits_11 : decode cX7_bits 11 = .ok (.iload_n 0, 1) := by decide +kernel
theorem dX7_bits_12 : decode cX7_bits 12 = .ok (.iload_n 2, 1) := by decide +kernel
theorem dX7_bits_13 : decode cX7_bits 13 = .ok (.ishr, 1) := by decide +kernel
theorem dX7_bits_14 : decode cX7_bits 14 = .ok (.iconst 1, 1) := by decide +kernel
theorem dX7_bits_15 : decode cX7_bits 15 = .ok (.iand, 1) := by decide +kernel
theorem dX7_bits_16 : decode cX7_bits 16 = .ok (.iadd, 1) := by decide +kernel
theorem dX7_bits_17 : decode cX7_bits 17 = .ok (.istore_n 1, 1) := by decide +kernel
theorem dX7_bits_18 : decode cX7_bits 18 = .ok (.iinc 2 1, 3) := by decide +kernel
theorem dX7_bits_21 : decode cX7_bits 21 = .ok (.goto (-17), 3) := by decide +kernel
theorem dX7_bits_24 : decode cX7_bits 24 = .ok (.iload_n 1, 1) := by decide +kernel
theorem dX7_bits_25 : decode cX7_bits 25 = .ok (.ireturn, 1) := by decide +kernel
theorem dX7_has_0 : decode cX7_has 0 = .ok (.iload_n 0, 1) := by decide +kernel
theorem dX7_has_1 : decode cX7_has 1 = .ok (.iload_n 1, 1) := by decide +kernel
theorem dX7_has_2 : decode cX7_has 2 = .ok (.ishr, 1) := by decide +kernel
theorem dX7_has_3 : decode cX7_has 3 = .ok (.iconst 1, 1) := by decide +kernel
theorem dX7_has_4 : decode cX7_has 4 = .ok (.iand, 1) := by decide +kernel
theorem dX7_has_5 : decode cX7_has 5 = .ok (.iconst 1, 1) := by decide +kernel
theorem dX7_has_6 : decode cX7_has 6 = .ok (.if_icmp .ne 7, 3) := by decide +kernel
theorem dX7_has_9 : decode cX7_has 9 = .ok (.iconst 1, 1) := by decide +kernel
theorem dX7_has_10 : decode cX7_has 10 = .ok (.goto 4, 3) := by decide +kernel
theorem dX7_has_13 : decode cX7_has 13 = .ok (.iconst 0, 1) := by decide +kernel
theorem dX7_has_14 : decode cX7_has 14 = .ok (.ireturn, 1) := by decide +kernel
theorem dX7_of_0 : decode cX7_of 0 = .ok (.aload_n 0, 1) := by decide +kernel
theorem dX7_of_1 : decode cX7_of 1 = .ok (.bipush 6, 2) := by decide +kernel
theorem dX7_of_3 : decode cX7_of 3 = .ok (.iconst 5, 1) := by decide +kernel
theorem dX7_of_4 : decode cX7_of 4 = .ok (.iload_n 1, 1) := by decide +kernel
theorem dX7_of_5 : decode cX7_of 5 = .ok (.imul, 1) := by decide +kernel
theorem dX7_of_6 : decode cX7_of 6 = .ok (.iadd, 1) := by decide +kernel
theorem dX7_of_7 : decode cX7_of 7 = .ok (.iload_n 2, 1) := by decide +kernel
theorem dX7_of_8 : decode cX7_of 8 = .ok (.iadd, 1) := by decide +kernel
theorem dX7_of_9 : decode cX7_of 9 = .ok (.iaload, 1) := by decide +kernel
theorem dX7_of_10 : decode cX7_of 10 = .ok (.ireturn, 1) := by decide +kernel
theorem dX7_be_0 : decode cX7_be 0 = .ok (.aload_n 0, 1) := by decide +kernel
theorem dX7_be_1 : decode cX7_be 1 = .ok (.bipush 6, 2) := by decide +kernel
theorem dX7_be_3 : decode cX7_be 3 = .ok (.iconst 5, 1) := by decide +kernel
theorem dX7_be_4 : decode cX7_be 4 = .ok (.iload_n 1, 1) := by decide +kernel
theorem dX7_be_5 : decode cX7_be 5 = .ok (.imul, 1) := by decide +kernel
theorem dX7_be_6 : decode cX7_be 6 = .ok (.iadd, 1) := by decide +kernel
theorem dX7_be_7 : decode cX7_be 7 = .ok (.iload_n 2, 1) := by decide +kernel
theorem dX7_be_8 : decode cX7_be 8 = .ok (.iadd, 1) := by decide +kernel
theorem dX7_be_9 : decode cX7_be 9 = .ok (.iload_n 3, 1) := by decide +kernel
theorem dX7_be_10 : decode cX7_be 10 = .ok (.iastore, 1) := by decide +kernel
theorem dX7_be_11 : decode cX7_be 11 = .ok (.return_, 1) := by decide +kernel
theorem dX7_nearOf_0 : decode cX7_nearOf 0 = .ok (.aload_n 0, 1) := by decide +kernel
theorem dX7_nearOf_1 : decode cX7_nearOf 1 = .ok (.iload_n 1, 1) := by decide +kernel
theorem dX7_nearOf_2 : decode cX7_nearOf 2 = .ok (.iconst 1, 1) := by decide +kernel
theorem dX7_nearOf_3 : decode cX7_nearOf 3 = .ok (.invokestatic 146, 3) := by decide +kernel
theorem dX7_nearOf_6 : decode cX7_nearOf 6 = .ok (.aload_n 0, 1) := by decide +kernel
theorem dX7_nearOf_7 : decode cX7_nearOf 7 = .ok (.iconst 1, 1) := by decide +kernel
theorem dX7_nearOf_8 : decode cX7_nearOf 8 = .ok (.iaload, 1) := by decide +kernel
theorem dX7_nearOf_9 : decode cX7_nearOf 9 = .ok (.isub, 1) := by decide +kernel
theorem dX7_nearOf_10 : decode cX7_nearOf 10 = .ok (.istore_n 2, 1) := by decide +kernel
theorem dX7_nearOf_11 : decode cX7_nearOf 11 = .ok (.iload_n 2, 1) := by decide +kernel
theorem dX7_nearOf_12 : decode cX7_nearOf 12 = .ok (.ifCond .ge 8, 3) := by decide +kernel
theorem dX7_nearOf_15 : decode cX7_nearOf 15 = .ok (.iload_n 2, 1) := by decide +kernel
theorem dX7_nearOf_16 : decode cX7_nearOf 16 = .ok (.ineg, 1) := by decide +kernel
theorem dX7_nearOf_17 : decode cX7_nearOf 17 = .ok (.goto 4, 3) := by decide +kernel
theorem dX7_nearOf_20 : decode cX7_nearOf 20 = .ok (.iload_n 2, 1) := by decide +kernel
theorem dX7_nearOf_21 : decode cX7_nearOf 21 = .ok (.aload_n 0, 1) := by decide +kernel
theorem dX7_nearOf_22 : decode cX7_nearOf 22 = .ok (.iload_n 1, 1) := by decide +kernel
theorem dX7_nearOf_23 : decode cX7_nearOf 23 = .ok (.iconst 2, 1) := by decide +kernel
theorem dX7_nearOf_24 : decode cX7_nearOf 24 = .ok (.invokestatic 146, 3) := by decide +kernel
theorem dX7_nearOf_27 : decode cX7_nearOf 27 = .ok (.iadd, 1) := by decide +kernel
theorem dX7_nearOf_28 : decode cX7_nearOf 28 = .ok (.ireturn, 1) := by decide +kernel
theorem dX7_nextOf_0 : decode cX7_nextOf 0 = .ok (.ldc 87, 2) := by decide +kernel
theorem dX7_nextOf_2 : decode cX7_nextOf 2 = .ok (.istore_n 1, 1) := by decide +kernel
theorem dX7_nextOf_3 : decode cX7_nextOf 3 = .ok (.iconst 0, 1) := by decide +kernel
theorem dX7_nextOf_4 : decode cX7_nextOf 4 = .ok (.istore_n 2, 1) := by decide +kernel
theorem dX7_nextOf_5 : decode cX7_nextOf 5 = .ok (.iload_n 2, 1) := by decide +kernel
theorem dX7_nextOf_6 : decode cX7_nextOf 6 = .ok (.aload_n 0, 1) := by decide +kernel
theorem dX7_nextOf_7 : decode cX7_nextOf 7 = .ok (.iconst 0, 1) := by decide +kernel
theorem dX7_nextOf_8 : decode cX7_nextOf 8 = .ok (.iaload, 1) := by decide +kernel
theorem dX7_nextOf_9 : decode cX7_nextOf 9 = .ok (.if_icmp .ge 102, 3) := by decide +kernel
theorem dX7_nextOf_12 : decode cX7_nextOf 12 = .ok (.aload_n 0, 1) := by decide +kernel
theorem dX7_nextOf_13 : decode cX7_nextOf 13 = .ok (.iconst 3, 1) := by decide +kernel
theorem dX7_nextOf_14 : decode cX7_nextOf 14 = .ok (.iaload, 1) := by decide +kernel
theorem dX7_nextOf_15 : decode cX7_nextOf 15 = .ok (.ifCond .ne 96, 3) := by decide +kernel
theorem dX7_nextOf_18 : decode cX7_nextOf 18 = .ok (.aload_n 0, 1) := by decide +kernel
theorem dX7_nextOf_19 : decode cX7_nextOf 19 = .ok (.iload_n 2, 1) := by decide +kernel
theorem dX7_nextOf_20 : decode cX7_nextOf 20 = .ok (.iconst 3, 1) := by decide +kernel
theorem dX7_nextOf_21 : decode cX7_nextOf 21 = .ok (.invokestatic 146, 3) := by decide +kernel
theorem dX7_nextOf_24 : decode cX7_nextOf 24 = .ok (.ifCond .le 81, 3) := by decide +kernel
theorem dX7_nextOf_27 : decode cX7_nextOf 27 = .ok (.aload_n 0, 1) := by decide +kernel
theorem dX7_nextOf_28 : decode cX7_nextOf 28 = .ok (.iload_n 2, 1) := by decide +kernel
theorem dX7_nextOf_29 : decode cX7_nextOf 29 = .ok (.iconst 4, 1) := by decide +kernel
theorem dX7_nextOf_30 : decode cX7_nextOf 30 = .ok (.invokestatic 146, 3) := by decide +kernel
theorem dX7_nextOf_33 : decode cX7_nextOf 33 = .ok (.ifCond .ne 72, 3) := by decide +kernel
theorem dX7_nextOf_36 : decode cX7_nextOf 36 = .ok (.iload_n 1, 1) := by decide +kernel
theorem dX7_nextOf_37 : decode cX7_nextOf 37 = .ok (.ldc 87, 2) := by decide +kernel
theorem dX7_nextOf_39 : decode cX7_nextOf 39 = .ok (.if_icmp .ne 7, 3) := by decide +kernel
theorem dX7_nextOf_42 : decode cX7_nextOf 42 = .ok (.iconst 0, 1) := by decide +kernel
theorem dX7_nextOf_43 : decode cX7_nextOf 43 = .ok (.goto 14, 3) := by decide +kernel
theorem dX7_nextOf_46 : decode cX7_nextOf 46 = .ok (.aload_n 0, 1) := by decide +kernel
theorem dX7_nextOf_47 : decode cX7_nextOf 47 = .ok (.iload_n 2, 1) := by decide +kernel
theorem dX7_nextOf_48 : decode cX7_nextOf 48 = .ok (.invokestatic 150, 3) := by decide +kernel
theorem dX7_nextOf_51 : decode cX7_nextOf 51 = .ok (.aload_n 0, 1) := by decide +kernel
theorem dX7_nextOf_52 : decode cX7_nextOf 52 = .ok (.iload_n 1, 1) := by decide +kernel
theorem dX7_nextOf_53 : decode cX7_nextOf 53 = .ok (.invokestatic 150, 3) := by decide +kernel
theorem dX7_nextOf_56 : decode cX7_nextOf 56 = .ok (.isub, 1) := by decide +kernel
theorem dX7_nextOf_57 : decode cX7_nextOf 57 = .ok (.istore_n 3, 1) := by decide +kernel
theorem dX7_nextOf_58 : decode cX7_nextOf 58 = .ok (.iload_n 1, 1) := by decide +kernel
theorem dX7_nextOf_59 : decode cX7_nextOf 59 = .ok (.ldc 87, 2) := by decide +kernel
theorem dX7_nextOf_61 : decode cX7_nextOf 61 = .ok (.if_icmp .eq 26, 3) := by decide +kernel
theorem dX7_nextOf_64 : decode cX7_nextOf 64 = .ok (.iload_n 3, 1) := by decide +kernel
theorem dX7_nextOf_65 : decode cX7_nextOf 65 = .ok (.ifCond .lt 22, 3) := by decide +kernel
theorem dX7_nextOf_68 : decode cX7_nextOf 68 = .ok (.iload_n 3, 1) := by decide +kernel
theorem dX7_nextOf_69 : decode cX7_nextOf 69 = .ok (.ifCond .ne 22, 3) := by decide +kernel
theorem dX7_nextOf_72 : decode cX7_nextOf 72 = .ok (.aload_n 0, 1) := by decide +kernel
theorem dX7_nextOf_73 : decode cX7_nextOf 73 = .ok (.iload_n 2, 1) := by decide +kernel
theorem dX7_nextOf_74 : decode cX7_nextOf 74 = .ok (.iconst 3, 1) := by decide +kernel
theorem dX7_nextOf_75 : decode cX7_nextOf 75 = .ok (.invokestatic 146, 3) := by decide +kernel
theorem dX7_nextOf_78 : decode cX7_nextOf 78 = .ok (.aload_n 0, 1) := by decide +kernel
theorem dX7_nextOf_79 : decode cX7_nextOf 79 = .ok (.iload_n 1, 1) := by decide +kernel
theorem dX7_nextOf_80 : decode cX7_nextOf 80 = .ok (.iconst 3, 1) := by decide +kernel
theorem dX7_nextOf_81 : decode cX7_nextOf 81 = .ok (.invokestatic 146, 3) := by decide +kernel
theorem dX7_nextOf_84 : decode cX7_nextOf 84 = .ok (.if_icmp .le 7, 3) := by decide +kernel
theorem dX7_nextOf_87 : decode cX7_nextOf 87 = .ok (.iconst 1, 1) := by decide +kernel
theorem dX7_nextOf_88 : decode cX7_nextOf 88 = .ok (.goto 4, 3) := by decide +kernel
theorem dX7_nextOf_91 : decode cX7_nextOf 91 = .ok (.iconst 0, 1) := by decide +kernel
theorem dX7_nextOf_92 : decode cX7_nextOf 92 = .ok (.istore 4, 2) := by decide +kernel
theorem dX7_nextOf_94 : decode cX7_nextOf 94 = .ok (.iload 4, 2) := by decide +kernel
theorem dX7_nextOf_96 : decode cX7_nextOf 96 = .ok (.ifCond .eq 7, 3) := by decide +kernel
theorem dX7_nextOf_99 : decode cX7_nextOf 99 = .ok (.iload_n 2, 1) := by decide +kernel
theorem dX7_nextOf_100 : decode cX7_nextOf 100 = .ok (.goto 4, 3) := by decide +kernel
theorem dX7_nextOf_103 : decode cX7_nextOf 103 = .ok (.iload_n 1, 1) := by decide +kernel
theorem dX7_nextOf_104 : decode cX7_nextOf 104 = .ok (.istore_n 1, 1) := by decide +kernel
theorem dX7_nextOf_105 : decode cX7_nextOf 105 = .ok (.iinc 2 1, 3) := by decide +kernel
theorem dX7_nextOf_108 : decode cX7_nextOf 108 = .ok (.goto (-103), 3) := by decide +kernel
theorem dX7_nextOf_111 : decode cX7_nextOf 111 = .ok (.iload_n 1, 1) := by decide +kernel
theorem dX7_nextOf_112 : decode cX7_nextOf 112 = .ok (.ireturn, 1) := by decide +kernel
theorem dX7_lenderOf_0 : decode cX7_lenderOf 0 = .ok (.iconst 1, 1) := by decide +kernel
theorem dX7_lenderOf_1 : decode cX7_lenderOf 1 = .ok (.istore_n 2, 1) := by decide +kernel
theorem dX7_lenderOf_2 : decode cX7_lenderOf 2 = .ok (.iload_n 2, 1) := by decide +kernel
theorem dX7_lenderOf_3 : decode cX7_lenderOf 3 = .ok (.aload_n 0, 1) := by decide +kernel
theorem dX7_lenderOf_4 : decode cX7_lenderOf 4 = .ok (.iconst 0, 1) := by decide +kernel
theorem dX7_lenderOf_5 : decode cX7_lenderOf 5 = .ok (.iaload, 1) := by decide +kernel
theorem dX7_lenderOf_6 : decode cX7_lenderOf 6 = .ok (.if_icmp .ge 28, 3) := by decide +kernel
theorem dX7_lenderOf_9 : decode cX7_lenderOf 9 = .ok (.iload_n 1, 1) := by decide +kernel
theorem dX7_lenderOf_10 : decode cX7_lenderOf 10 = .ok (.iload_n 2, 1) := by decide +kernel
theorem dX7_lenderOf_11 : decode cX7_lenderOf 11 = .ok (.iadd, 1) := by decide +kernel
theorem dX7_lenderOf_12 : decode cX7_lenderOf 12 = .ok (.aload_n 0, 1) := by decide +kernel
theorem dX7_lenderOf_13 : decode cX7_lenderOf 13 = .ok (.iconst 0, 1) := by decide +kernel
theorem dX7_lenderOf_14 : decode cX7_lenderOf 14 = .ok (.iaload, 1) := by decide +kernel
theorem dX7_lenderOf_15 : decode cX7_lenderOf 15 = .ok (.irem, 1) := by decide +kernel
theorem dX7_lenderOf_16 : decode cX7_lenderOf 16 = .ok (.istore_n 3, 1) := by decide +kernel
theorem dX7_lenderOf_17 : decode cX7_lenderOf 17 = .ok (.aload_n 0, 1) := by decide +kernel
theorem dX7_lenderOf_18 : decode cX7_lenderOf 18 = .ok (.iload_n 3, 1) := by decide +kernel
theorem dX7_lenderOf_19 : decode cX7_lenderOf 19 = .ok (.iconst 3, 1) := by decide +kernel
theorem dX7_lenderOf_20 : decode cX7_lenderOf 20 = .ok (.invokestatic 146, 3) := by decide +kernel
theorem dX7_lenderOf_23 : decode cX7_lenderOf 23 = .ok (.ifCond .le 5, 3) := by decide +kernel
theorem dX7_lenderOf_26 : decode cX7_lenderOf 26 = .ok (.iload_n 3, 1) := by decide +kernel
theorem dX7_lenderOf_27 : decode cX7_lenderOf 27 = .ok (.ireturn, 1) := by decide +kernel
theorem dX7_lenderOf_28 : decode cX7_lenderOf 28 = .ok (.iinc 2 1, 3) := by decide +kernel
theorem dX7_lenderOf_31 : decode cX7_lenderOf 31 = .ok (.goto (-29), 3) := by decide +kernel
theorem dX7_lenderOf_34 : decode cX7_lenderOf 34 = .ok (.iload_n 1, 1) := by decide +kernel
theorem dX7_lenderOf_35 : decode cX7_lenderOf 35 = .ok (.ireturn, 1) := by decide +kernel
theorem dX7_bite_0 : decode cX7_bite 0 = .ok (.iload_n 1, 1) := by decide +kernel
theorem dX7_bite_1 : decode cX7_bite 1 = .ok (.istore_n 2, 1) := by decide +kernel
theorem dX7_bite_2 : decode cX7_bite 2 = .ok (.aload_n 0, 1) := by decide +kernel
theorem dX7_bite_3 : decode cX7_bite 3 = .ok (.iload_n 1, 1) := by decide +kernel
theorem dX7_bite_4 : decode cX7_bite 4 = .ok (.iconst 3, 1) := by decide +kernel
theorem dX7_bite_5 : decode cX7_bite 5 = .ok (.invokestatic 146, 3) := by decide +kernel
theorem dX7_bite_8 : decode cX7_bite 8 = .ok (.istore_n 3, 1) := by decide +kernel
theorem dX7_bite_9 : decode cX7_bite 9 = .ok (.iload_n 3, 1) := by decide +kernel
theorem dX7_bite_10 : decode cX7_bite 10 = .ok (.istore 4, 2) := by decide +kernel
theorem dX7_bite_12 : decode cX7_bite 12 = .ok (.aload_n 0, 1) := by decide +kernel
theorem dX7_bite_13 : decode cX7_bite 13 = .ok (.iload_n 1, 1) := by decide +kernel
theorem dX7_bite_14 : decode cX7_bite 14 = .ok (.iconst 0, 1) := by decide +kernel
theorem dX7_bite_15 : decode cX7_bite 15 = .ok (.invokestatic 146, 3) := by decide +kernel
theorem dX7_bite_18 : decode cX7_bite 18 = .ok (.tableswitch 117 1 4 #[30, 33, 76, 107], 30) := by decide +kernel
theorem dX7_bite_48 : decode cX7_bite 48 = .ok (.goto 90, 3) := by decide +kernel
theorem dX7_bite_51 : decode cX7_bite 51 = .ok (.iload_n 3, 1) := by decide +kernel
theorem dX7_bite_52 : decode cX7_bite 52 = .ok (.iconst 2, 1) := by decide +kernel
theorem dX7_bite_53 : decode cX7_bite 53 = .ok (.irem, 1) := by decide +kernel
theorem dX7_bite_54 : decode cX7_bite 54 = .ok (.iconst 1, 1) := by decide +kernel
theorem dX7_bite_55 : decode cX7_bite 55 = .ok (.if_icmp .ne 83, 3) := by decide +kernel
theorem dX7_bite_58 : decode cX7_bite 58 = .ok (.iconst 0, 1) := by decide +kernel
theorem dX7_bite_59 : decode cX7_bite 59 = .ok (.istore 4, 2) := by decide +kernel
theorem dX7_bite_61 : decode cX7_bite 61 = .ok (.aload_n 0, 1) := by decide +kernel
theorem dX7_bite_62 : decode cX7_bite 62 = .ok (.iload_n 1, 1) := by decide +kernel
theorem dX7_bite_63 : decode cX7_bite 63 = .ok (.iconst 1, 1) := by decide +kernel
theorem dX7_bite_64 : decode cX7_bite 64 = .ok (.aload_n 0, 1) := by decide +kernel
theorem dX7_bite_65 : decode cX7_bite 65 = .ok (.iload_n 1, 1) := by decide +kernel
theorem dX7_bite_66 : decode cX7_bite 66 = .ok (.iconst 1, 1) := by decide +kernel
theorem dX7_bite_67 : decode cX7_bite 67 = .ok (.invokestatic 146, 3) := by decide +kernel
theorem dX7_bite_70 : decode cX7_bite 70 = .ok (.bipush 9, 2) := by decide +kernel
theorem dX7_bite_72 : decode cX7_bite 72 = .ok (.if_icmp .ge 14, 3) := by decide +kernel
theorem dX7_bite_75 : decode cX7_bite 75 = .ok (.aload_n 0, 1) := by decide +kernel
theorem dX7_bite_76 : decode cX7_bite 76 = .ok (.iload_n 1, 1) := by decide +kernel
theorem dX7_bite_77 : decode cX7_bite 77 = .ok (.iconst 1, 1) := by decide +kernel
theorem dX7_bite_78 : decode cX7_bite 78 = .ok (.invokestatic 146, 3) := by decide +kernel
theorem dX7_bite_81 : decode cX7_bite 81 = .ok (.iconst 1, 1) := by decide +kernel
theorem dX7_bite_82 : decode cX7_bite 82 = .ok (.iadd, 1) := by decide +kernel
theorem dX7_bite_83 : decode cX7_bite 83 = .ok (.goto 5, 3) := by decide +kernel
theorem dX7_bite_86 : decode cX7_bite 86 = .ok (.bipush 9, 2) := by decide +kernel
theorem dX7_bite_88 : decode cX7_bite 88 = .ok (.invokestatic 154, 3) := by decide +kernel
theorem dX7_bite_91 : decode cX7_bite 91 = .ok (.goto 47, 3) := by decide +kernel
theorem dX7_bite_94 : decode cX7_bite 94 = .ok (.aload_n 0, 1) := by decide +kernel
theorem dX7_bite_95 : decode cX7_bite 95 = .ok (.iload_n 1, 1) := by decide +kernel
theorem dX7_bite_96 : decode cX7_bite 96 = .ok (.invokestatic 158, 3) := by decide +kernel
theorem dX7_bite_99 : decode cX7_bite 99 = .ok (.istore_n 2, 1) := by decide +kernel
theorem dX7_bite_100 : decode cX7_bite 100 = .ok (.aload_n 0, 1) := by decide +kernel
theorem dX7_bite_101 : decode cX7_bite 101 = .ok (.iload_n 2, 1) := by decide +kernel
theorem dX7_bite_102 : decode cX7_bite 102 = .ok (.iconst 3, 1) := by decide +kernel
theorem dX7_bite_103 : decode cX7_bite 103 = .ok (.invokestatic 146, 3) := by decide +kernel
theorem dX7_bite_106 : decode cX7_bite 106 = .ok (.iload_n 3, 1) := by decide +kernel
theorem dX7_bite_107 : decode cX7_bite 107 = .ok (.if_icmp .ge 12, 3) := by decide +kernel
theorem dX7_bite_110 : decode cX7_bite 110 = .ok (.aload_n 0, 1) := by decide +kernel
theorem dX7_bite_111 : decode cX7_bite 111 = .ok (.iload_n 2, 1) := by decide +kernel
theorem dX7_bite_112 : decode cX7_bite 112 = .ok (.iconst 3, 1) := by decide +kernel
theorem dX7_bite_113 : decode cX7_bite 113 = .ok (.invokestatic 146, 3) := by decide +kernel
theorem dX7_bite_116 : decode cX7_bite 116 = .ok (.goto 4, 3) := by decide +kernel
theorem dX7_bite_119 : decode cX7_bite 119 = .ok (.iload_n 3, 1) := by decide +kernel
theorem dX7_bite_120 : decode cX7_bite 120 = .ok (.istore 4, 2) := by decide +kernel
theorem dX7_bite_122 : decode cX7_bite 122 = .ok (.goto 16, 3) := by decide +kernel
theorem dX7_bite_125 : decode cX7_bite 125 = .ok (.iload_n 3, 1) := by decide +kernel
theorem dX7_bite_126 : decode cX7_bite 126 = .ok (.iconst 1, 1) := by decide +kernel
theorem dX7_bite_127 : decode cX7_bite 127 = .ok (.iadd, 1) := by decide +kernel
theorem dX7_bite_128 : decode cX7_bite 128 = .ok (.iconst 2, 1) := by decide +kernel
theorem dX7_bite_129 : decode cX7_bite 129 = .ok (.idiv, 1) := by decide +kernel
theorem dX7_bite_130 : decode cX7_bite 130 = .ok (.istore 4, 2) := by decide +kernel
theorem dX7_bite_132 : decode cX7_bite 132 = .ok (.goto 6, 3) := by decide +kernel
theorem dX7_bite_135 : decode cX7_bite 135 = .ok (.iconst 1, 1) := by decide +kernel
theorem dX7_bite_136 : decode cX7_bite 136 = .ok (.istore 4, 2) := by decide +kernel
theorem dX7_bite_138 : decode cX7_bite 138 = .ok (.aload_n 0, 1) := by decide +kernel
theorem dX7_bite_139 : decode cX7_bite 139 = .ok (.iload_n 2, 1) := by decide +kernel
theorem dX7_bite_140 : decode cX7_bite 140 = .ok (.iconst 3, 1) := by decide +kernel
theorem dX7_bite_141 : decode cX7_bite 141 = .ok (.aload_n 0, 1) := by decide +kernel
theorem dX7_bite_142 : decode cX7_bite 142 = .ok (.iload_n 2, 1) := by decide +kernel
theorem dX7_bite_143 : decode cX7_bite 143 = .ok (.iconst 3, 1) := by decide +kernel
theorem dX7_bite_144 : decode cX7_bite 144 = .ok (.invokestatic 146, 3) := by decide +kernel
theorem dX7_bite_147 : decode cX7_bite 147 = .ok (.iload 4, 2) := by decide +kernel
theorem dX7_bite_149 : decode cX7_bite 149 = .ok (.isub, 1) := by decide +kernel
theorem dX7_bite_150 : decode cX7_bite 150 = .ok (.invokestatic 154, 3) := by decide +kernel
theorem dX7_bite_153 : decode cX7_bite 153 = .ok (.iload 4, 2) := by decide +kernel
theorem dX7_bite_155 : decode cX7_bite 155 = .ok (.ireturn, 1) := by decide +kernel
theorem dX7_noonOf_0 : decode cX7_noonOf 0 = .ok (.iconst 0, 1) := by decide +kernel
theorem dX7_noonOf_1 : decode cX7_noonOf 1 = .ok (.istore_n 1, 1) := by decide +kernel
theorem dX7_noonOf_2 : decode cX7_noonOf 2 = .ok (.aload_n 0, 1) := by decide +kernel
theorem dX7_noonOf_3 : decode cX7_noonOf 3 = .ok (.iconst 3, 1) := by decide +kernel
theorem dX7_noonOf_4 : decode cX7_noonOf 4 = .ok (.iaload, 1) := by decide +kernel
theorem dX7_noonOf_5 : decode cX7_noonOf 5 = .ok (.ifCond .le 13, 3) := by decide +kernel
theorem dX7_noonOf_8 : decode cX7_noonOf 8 = .ok (.aload_n 0, 1) := by decide +kernel
theorem dX7_noonOf_9 : decode cX7_noonOf 9 = .ok (.iconst 3, 1) := by decide +kernel
theorem dX7_noonOf_10 : decode cX7_noonOf 10 = .ok (.dup2, 1) := by decide +kernel
theorem dX7_noonOf_11 : decode cX7_noonOf 11 = .ok (.iaload, 1) := by decide +kernel
theorem dX7_noonOf_12 : decode cX7_noonOf 12 = .ok (.iconst 1, 1) := by decide +kernel
theorem dX7_noonOf_13 : decode cX7_noonOf 13 = .ok (.isub, 1) := by decide +kernel
theorem dX7_noonOf_14 : decode cX7_noonOf 14 = .ok (.iastore, 1) := by decide +kernel
theorem dX7_noonOf_15 : decode cX7_noonOf 15 = .ok (.goto 35, 3) := by decide +kernel
theorem dX7_noonOf_18 : decode cX7_noonOf 18 = .ok (.aload_n 0, 1) := by decide +kernel
theorem dX7_noonOf_19 : decode cX7_noonOf 19 = .ok (.invokestatic 161, 3) := by decide +kernel
theorem dX7_noonOf_22 : decode cX7_noonOf 22 = .ok (.istore_n 2, 1) := by decide +kernel
theorem dX7_noonOf_23 : decode cX7_noonOf 23 = .ok (.iload_n 2, 1) := by decide +kernel
theorem dX7_noonOf_24 : decode cX7_noonOf 24 = .ok (.ldc 87, 2) := by decide +kernel
theorem dX7_noonOf_26 : decode cX7_noonOf 26 = .ok (.if_icmp .eq 24, 3) := by decide +kernel
theorem dX7_noonOf_29 : decode cX7_noonOf 29 = .ok (.aload_n 0, 1) := by decide +kernel
theorem dX7_noonOf_30 : decode cX7_noonOf 30 = .ok (.iload_n 2, 1) := by decide +kernel
theorem dX7_noonOf_31 : decode cX7_noonOf 31 = .ok (.invokestatic 165, 3) := by decide +kernel
theorem dX7_noonOf_34 : decode cX7_noonOf 34 = .ok (.istore_n 1, 1) := by decide +kernel
theorem dX7_noonOf_35 : decode cX7_noonOf 35 = .ok (.aload_n 0, 1) := by decide +kernel
theorem dX7_noonOf_36 : decode cX7_noonOf 36 = .ok (.iconst 3, 1) := by decide +kernel
theorem dX7_noonOf_37 : decode cX7_noonOf 37 = .ok (.iload_n 1, 1) := by decide +kernel
theorem dX7_noonOf_38 : decode cX7_noonOf 38 = .ok (.iconst 5, 1) := by decide +kernel
theorem dX7_noonOf_39 : decode cX7_noonOf 39 = .ok (.if_icmp .le 9, 3) := by decide +kernel
theorem dX7_noonOf_42 : decode cX7_noonOf 42 = .ok (.iload_n 1, 1) := by decide +kernel
theorem dX7_noonOf_43 : decode cX7_noonOf 43 = .ok (.iconst 5, 1) := by decide +kernel
theorem dX7_noonOf_44 : decode cX7_noonOf 44 = .ok (.isub, 1) := by decide +kernel
theorem dX7_noonOf_45 : decode cX7_noonOf 45 = .ok (.goto 4, 3) := by decide +kernel
theorem dX7_noonOf_48 : decode cX7_noonOf 48 = .ok (.iconst 0, 1) := by decide +kernel
theorem dX7_noonOf_49 : decode cX7_noonOf 49 = .ok (.iastore, 1) := by decide +kernel
theorem dX7_noonOf_50 : decode cX7_noonOf 50 = .ok (.aload_n 0, 1) := by decide +kernel
theorem dX7_noonOf_51 : decode cX7_noonOf 51 = .ok (.iconst 5, 1) := by decide +kernel
theorem dX7_noonOf_52 : decode cX7_noonOf 52 = .ok (.dup2, 1) := by decide +kernel
theorem dX7_noonOf_53 : decode cX7_noonOf 53 = .ok (.iaload, 1) := by decide +kernel
theorem dX7_noonOf_54 : decode cX7_noonOf 54 = .ok (.iload_n 1, 1) := by decide +kernel
theorem dX7_noonOf_55 : decode cX7_noonOf 55 = .ok (.iadd, 1) := by decide +kernel
theorem dX7_noonOf_56 : decode cX7_noonOf 56 = .ok (.iastore, 1) := by decide +kernel
theorem dX7_noonOf_57 : decode cX7_noonOf 57 = .ok (.aload_n 0, 1) := by decide +kernel
theorem dX7_noonOf_58 : decode cX7_noonOf 58 = .ok (.iconst 1, 1) := by decide +kernel
theorem dX7_noonOf_59 : decode cX7_noonOf 59 = .ok (.aload_n 0, 1) := by decide +kernel
theorem dX7_noonOf_60 : decode cX7_noonOf 60 = .ok (.iconst 1, 1) := by decide +kernel
theorem dX7_noonOf_61 : decode cX7_noonOf 61 = .ok (.iaload, 1) := by decide +kernel
theorem dX7_noonOf_62 : decode cX7_noonOf 62 = .ok (.aload_n 0, 1) := by decide +kernel
theorem dX7_noonOf_63 : decode cX7_noonOf 63 = .ok (.iconst 2, 1) := by decide +kernel
theorem dX7_noonOf_64 : decode cX7_noonOf 64 = .ok (.iaload, 1) := by decide +kernel
theorem dX7_noonOf_65 : decode cX7_noonOf 65 = .ok (.iadd, 1) := by decide +kernel
theorem dX7_noonOf_66 : decode cX7_noonOf 66 = .ok (.bipush 9, 2) := by decide +kernel
theorem dX7_noonOf_68 : decode cX7_noonOf 68 = .ok (.iadd, 1) := by decide +kernel
theorem dX7_noonOf_69 : decode cX7_noonOf 69 = .ok (.bipush 10, 2) := by decide +kernel
theorem dX7_noonOf_71 : decode cX7_noonOf 71 = .ok (.irem, 1) := by decide +kernel
theorem dX7_noonOf_72 : decode cX7_noonOf 72 = .ok (.iastore, 1) := by decide +kernel
theorem dX7_noonOf_73 : decode cX7_noonOf 73 = .ok (.aload_n 0, 1) := by decide +kernel
theorem dX7_noonOf_74 : decode cX7_noonOf 74 = .ok (.iconst 4, 1) := by decide +kernel
theorem dX7_noonOf_75 : decode cX7_noonOf 75 = .ok (.dup2, 1) := by decide +kernel
theorem dX7_noonOf_76 : decode cX7_noonOf 76 = .ok (.iaload, 1) := by decide +kernel
theorem dX7_noonOf_77 : decode cX7_noonOf 77 = .ok (.iconst 1, 1) := by decide +kernel
theorem dX7_noonOf_78 : decode cX7_noonOf 78 = .ok (.iadd, 1) := by decide +kernel
theorem dX7_noonOf_79 : decode cX7_noonOf 79 = .ok (.iastore, 1) := by decide +kernel
theorem dX7_noonOf_80 : decode cX7_noonOf 80 = .ok (.iload_n 1, 1) := by decide +kernel
theorem dX7_noonOf_81 : decode cX7_noonOf 81 = .ok (.ireturn, 1) := by decide +kernel
theorem dX7_noonsOf_0 : decode cX7_noonsOf 0 = .ok (.iconst 0, 1) := by decide +kernel
theorem dX7_noonsOf_1 : decode cX7_noonsOf 1 = .ok (.istore_n 2, 1) := by decide +kernel
theorem dX7_noonsOf_2 : decode cX7_noonsOf 2 = .ok (.iload_n 2, 1) := by decide +kernel
theorem dX7_noonsOf_3 : decode cX7_noonsOf 3 = .ok (.iload_n 1, 1) := by decide +kernel
theorem dX7_noonsOf_4 : decode cX7_noonsOf 4 = .ok (.if_icmp .ge 14, 3) := by decide +kernel
theorem dX7_noonsOf_7 : decode cX7_noonsOf 7 = .ok (.aload_n 0, 1) := by decide +kernel
theorem dX7_noonsOf_8 : decode cX7_noonsOf 8 = .ok (.invokestatic 168, 3) := by decide +kernel
theorem dX7_noonsOf_11 : decode cX7_noonsOf 11 = .ok (.istore_n 3, 1) := by decide +kernel
theorem dX7_noonsOf_12 : decode cX7_noonsOf 12 = .ok (.iinc 2 1, 3) := by decide +kernel
theorem dX7_noonsOf_15 : decode cX7_noonsOf 15 = .ok (.goto (-13), 3) := by decide +kernel
theorem dX7_noonsOf_18 : decode cX7_noonsOf 18 = .ok (.return_, 1) := by decide +kernel
theorem dX7_lettersOf_0 : decode cX7_lettersOf 0 = .ok (.iconst 0, 1) := by decide +kernel
theorem dX7_lettersOf_1 : decode cX7_lettersOf 1 = .ok (.istore_n 1, 1) := by decide +kernel
theorem dX7_lettersOf_2 : decode cX7_lettersOf 2 = .ok (.iconst 0, 1) := by decide +kernel
theorem dX7_lettersOf_3 : decode cX7_lettersOf 3 = .ok (.istore_n 2, 1) := by decide +kernel
theorem dX7_lettersOf_4 : decode cX7_lettersOf 4 = .ok (.iload_n 2, 1) := by decide +kernel
theorem dX7_lettersOf_5 : decode cX7_lettersOf 5 = .ok (.aload_n 0, 1) := by decide +kernel
theorem dX7_lettersOf_6 : decode cX7_lettersOf 6 = .ok (.iconst 0, 1) := by decide +kernel
theorem dX7_lettersOf_7 : decode cX7_lettersOf 7 = .ok (.iaload, 1) := by decide +kernel
theorem dX7_lettersOf_8 : decode cX7_lettersOf 8 = .ok (.if_icmp .ge 18, 3) := by decide +kernel
theorem dX7_lettersOf_11 : decode cX7_lettersOf 11 = .ok (.iload_n 1, 1) := by decide +kernel
theorem dX7_lettersOf_12 : decode cX7_lettersOf 12 = .ok (.aload_n 0, 1) := by decide +kernel
theorem dX7_lettersOf_13 : decode cX7_lettersOf 13 = .ok (.iload_n 2, 1) := by decide +kernel
theorem dX7_lettersOf_14 : decode cX7_lettersOf 14 = .ok (.iconst 3, 1) := by decide +kernel
theorem dX7_lettersOf_15 : decode cX7_lettersOf 15 = .ok (.invokestatic 146, 3) := by decide +kernel
theorem dX7_lettersOf_18 : decode cX7_lettersOf 18 = .ok (.iadd, 1) := by decide +kernel
theorem dX7_lettersOf_19 : decode cX7_lettersOf 19 = .ok (.istore_n 1, 1) := by decide +kernel
theorem dX7_lettersOf_20 : decode cX7_lettersOf 20 = .ok (.iinc 2 1, 3) := by decide +kernel
theorem dX7_lettersOf_23 : decode cX7_lettersOf 23 = .ok (.goto (-19), 3) := by decide +kernel
theorem dX7_lettersOf_26 : decode cX7_lettersOf 26 = .ok (.iload_n 1, 1) := by decide +kernel
theorem dX7_lettersOf_27 : decode cX7_lettersOf 27 = .ok (.ireturn, 1) := by decide +kernel
theorem dX7_nameless_0 : decode cX7_nameless 0 = .ok (.iconst 0, 1) := by decide +kernel
theorem dX7_nameless_1 : decode cX7_nameless 1 = .ok (.istore_n 1, 1) := by decide +kernel
theorem dX7_nameless_2 : decode cX7_nameless 2 = .ok (.iconst 0, 1) := by decide +kernel
theorem dX7_nameless_3 : decode cX7_nameless 3 = .ok (.istore_n 2, 1) := by decide +kernel
theorem dX7_nameless_4 : decode cX7_nameless 4 = .ok (.iload_n 2, 1) := by decide +kernel
theorem dX7_nameless_5 : decode cX7_nameless 5 = .ok (.aload_n 0, 1) := by decide +kernel
theorem dX7_nameless_6 : decode cX7_nameless 6 = .ok (.iconst 0, 1) := by decide +kernel
theorem dX7_nameless_7 : decode cX7_nameless 7 = .ok (.iaload, 1) := by decide +kernel
theorem dX7_nameless_8 : decode cX7_nameless 8 = .ok (.if_icmp .ge 28, 3) := by decide +kernel
theorem dX7_nameless_11 : decode cX7_nameless 11 = .ok (.iload_n 1, 1) := by decide +kernel
theorem dX7_nameless_12 : decode cX7_nameless 12 = .ok (.aload_n 0, 1) := by decide +kernel
theorem dX7_nameless_13 : decode cX7_nameless 13 = .ok (.iload_n 2, 1) := by decide +kernel
theorem dX7_nameless_14 : decode cX7_nameless 14 = .ok (.iconst 3, 1) := by decide +kernel
theorem dX7_nameless_15 : decode cX7_nameless 15 = .ok (.invokestatic 146, 3) := by decide +kernel
theorem dX7_nameless_18 : decode cX7_nameless 18 = .ok (.ifCond .ne 9, 3) := by decide +kernel
theorem dX7_nameless_21 : decode cX7_nameless 21 = .ok (.iconst 1, 1) := by decide +kernel
theorem dX7_nameless_22 : decode cX7_nameless 22 = .ok (.iload_n 2, 1) := by decide +kernel
theorem dX7_nameless_23 : decode cX7_nameless 23 = .ok (.ishl, 1) := by decide +kernel
theorem dX7_nameless_24 : decode cX7_nameless 24 = .ok (.goto 4, 3) := by decide +kernel
theorem dX7_nameless_27 : decode cX7_nameless 27 = .ok (.iconst 0, 1) := by decide +kernel
theorem dX7_nameless_28 : decode cX7_nameless 28 = .ok (.ior, 1) := by decide +kernel
theorem dX7_nameless_29 : decode cX7_nameless 29 = .ok (.istore_n 1, 1) := by decide +kernel
theorem dX7_nameless_30 : decode cX7_nameless 30 = .ok (.iinc 2 1, 3) := by decide +kernel
theorem dX7_nameless_33 : decode cX7_nameless 33 = .ok (.goto (-29), 3) := by decide +kernel
theorem dX7_nameless_36 : decode cX7_nameless 36 = .ok (.iload_n 1, 1) := by decide +kernel
theorem dX7_nameless_37 : decode cX7_nameless 37 = .ok (.ireturn, 1) := by decide +kernel
theorem dX7_hiddenOf_0 : decode cX7_hiddenOf 0 = .ok (.iconst 0, 1) := by decide +kernel
theorem dX7_hiddenOf_1 : decode cX7_hiddenOf 1 = .ok (.istore_n 1, 1) := by decide +kernel
theorem dX7_hiddenOf_2 : decode cX7_hiddenOf 2 = .ok (.iconst 0, 1) := by decide +kernel
theorem dX7_hiddenOf_3 : decode cX7_hiddenOf 3 = .ok (.istore_n 2, 1) := by decide +kernel
theorem dX7_hiddenOf_4 : decode cX7_hiddenOf 4 = .ok (.iload_n 2, 1) := by decide +kernel
theorem dX7_hiddenOf_5 : decode cX7_hiddenOf 5 = .ok (.aload_n 0, 1) := by decide +kernel
theorem dX7_hiddenOf_6 : decode cX7_hiddenOf 6 = .ok (.iconst 0, 1) := by decide +kernel
theorem dX7_hiddenOf_7 : decode cX7_hiddenOf 7 = .ok (.iaload, 1) := by decide +kernel
theorem dX7_hiddenOf_8 : decode cX7_hiddenOf 8 = .ok (.if_icmp .ge 29, 3) := by decide +kernel
theorem dX7_hiddenOf_11 : decode cX7_hiddenOf 11 = .ok (.iload_n 1, 1) := by decide +kernel
theorem dX7_hiddenOf_12 : decode cX7_hiddenOf 12 = .ok (.aload_n 0, 1) := by decide +kernel
theorem dX7_hiddenOf_13 : decode cX7_hiddenOf 13 = .ok (.iload_n 2, 1) := by decide +kernel
theorem dX7_hiddenOf_14 : decode cX7_hiddenOf 14 = .ok (.iconst 4, 1) := by decide +kernel
theorem dX7_hiddenOf_15 : decode cX7_hiddenOf 15 = .ok (.invokestatic 146, 3) := by decide +kernel
theorem dX7_hiddenOf_18 : decode cX7_hiddenOf 18 = .ok (.iconst 1, 1) := by decide +kernel
theorem dX7_hiddenOf_19 : decode cX7_hiddenOf 19 = .ok (.if_icmp .ne 9, 3) := by decide +kernel
theorem dX7_hiddenOf_22 : decode cX7_hiddenOf 22 = .ok (.iconst 1, 1) := by decide +kernel
theorem dX7_hiddenOf_23 : decode cX7_hiddenOf 23 = .ok (.iload_n 2, 1) := by decide +kernel
theorem dX7_hiddenOf_24 : decode cX7_hiddenOf 24 = .ok (.ishl, 1) := by decide +kernel
theorem dX7_hiddenOf_25 : decode cX7_hiddenOf 25 = .ok (.goto 4, 3) := by decide +kernel
theorem dX7_hiddenOf_28 : decode cX7_hiddenOf 28 = .ok (.iconst 0, 1) := by decide +kernel
theorem dX7_hiddenOf_29 : decode cX7_hiddenOf 29 = .ok (.ior, 1) := by decide +kernel
theorem dX7_hiddenOf_30 : decode cX7_hiddenOf 30 = .ok (.istore_n 1, 1) := by decide +kernel
theorem dX7_hiddenOf_31 : decode cX7_hiddenOf 31 = .ok (.iinc 2 1, 3) := by decide +kernel
theorem dX7_hiddenOf_34 : decode cX7_hiddenOf 34 = .ok (.goto (-30), 3) := by decide +kernel
theorem dX7_hiddenOf_37 : decode cX7_hiddenOf 37 = .ok (.iload_n 1, 1) := by decide +kernel
theorem dX7_hiddenOf_38 : decode cX7_hiddenOf 38 = .ok (.ireturn, 1) := by decide +kernel
theorem dX7_layThen_0 : decode cX7_layThen 0 = .ok (.iconst 0, 1) := by decide +kernel
theorem dX7_layThen_1 : decode cX7_layThen 1 = .ok (.istore_n 1, 1) := by decide +kernel
theorem dX7_layThen_2 : decode cX7_layThen 2 = .ok (.iload_n 1, 1) := by decide +kernel
theorem dX7_layThen_3 : decode cX7_layThen 3 = .ok (.bipush 36, 2) := by decide +kernel
theorem dX7_layThen_5 : decode cX7_layThen 5 = .ok (.if_icmp .ge 21, 3) := by decide +kernel
theorem dX7_layThen_8 : decode cX7_layThen 8 = .ok (.aload_n 0, 1) := by decide +kernel
theorem dX7_layThen_9 : decode cX7_layThen 9 = .ok (.getfield 25, 3) := by decide +kernel
theorem dX7_layThen_12 : decode cX7_layThen 12 = .ok (.iload_n 1, 1) := by decide +kernel
theorem dX7_layThen_13 : decode cX7_layThen 13 = .ok (.aload_n 0, 1) := by decide +kernel
theorem dX7_layThen_14 : decode cX7_layThen 14 = .ok (.getfield 19, 3) := by decide +kernel
theorem dX7_layThen_17 : decode cX7_layThen 17 = .ok (.iload_n 1, 1) := by decide +kernel
theorem dX7_layThen_18 : decode cX7_layThen 18 = .ok (.iaload, 1) := by decide +kernel
theorem dX7_layThen_19 : decode cX7_layThen 19 = .ok (.iastore, 1) := by decide +kernel
theorem dX7_layThen_20 : decode cX7_layThen 20 = .ok (.iinc 1 1, 3) := by decide +kernel
theorem dX7_layThen_23 : decode cX7_layThen 23 = .ok (.goto (-21), 3) := by decide +kernel
theorem dX7_layThen_26 : decode cX7_layThen 26 = .ok (.return_, 1) := by decide +kernel
theorem dX7_keep_0 : decode cX7_keep 0 = .ok (.aload_n 0, 1) := by decide +kernel
theorem dX7_keep_1 : decode cX7_keep 1 = .ok (.getfield 143, 3) := by decide +kernel
theorem dX7_keep_4 : decode cX7_keep 4 = .ok (.bipush 24, 2) := by decide +kernel
theorem dX7_keep_6 : decode cX7_keep 6 = .ok (.if_icmp .ne 43, 3) := by decide +kernel
theorem dX7_keep_9 : decode cX7_keep 9 = .ok (.iconst 0, 1) := by decide +kernel
theorem dX7_keep_10 : decode cX7_keep 10 = .ok (.istore_n 1, 1) := by decide +kernel
theorem dX7_keep_11 : decode cX7_keep 11 = .ok (.iload_n 1, 1) := by decide +kernel
theorem dX7_keep_12 : decode cX7_keep 12 = .ok (.sipush 828, 3) := by decide +kernel
theorem dX7_keep_15 : decode cX7_keep 15 = .ok (.if_icmp .ge 24, 3) := by decide +kernel
theorem dX7_keep_18 : decode cX7_keep 18 = .ok (.aload_n 0, 1) := by decide +kernel
theorem dX7_keep_19 : decode cX7_keep 19 = .ok (.getfield 28, 3) := by decide +kernel
theorem dX7_keep_22 : decode cX7_keep 22 = .ok (.iload_n 1, 1) := by decide +kernel
theorem dX7_keep_23 : decode cX7_keep 23 = .ok (.aload_n 0, 1) := by decide +kernel
theorem dX7_keep_24 : decode cX7_keep 24 = .ok (.getfield 28, 3) := by decide +kernel
theorem dX7_keep_27 : decode cX7_keep 27 = .ok (.iload_n 1, 1) := by decide +kernel
theorem dX7_keep_28 : decode cX7_keep 28 = .ok (.bipush 36, 2) := by decide +kernel
theorem dX7_keep_30 : decode cX7_keep 30 = .ok (.iadd, 1) := by decide +kernel
theorem dX7_keep_31 : decode cX7_keep 31 = .ok (.iaload, 1) := by decide +kernel
theorem dX7_keep_32 : decode cX7_keep 32 = .ok (.iastore, 1) := by decide +kernel
theorem dX7_keep_33 : decode cX7_keep 33 = .ok (.iinc 1 1, 3) := by decide +kernel
theorem dX7_keep_36 : decode cX7_keep 36 = .ok (.goto (-25), 3) := by decide +kernel
theorem dX7_keep_39 : decode cX7_keep 39 = .ok (.aload_n 0, 1) := by decide +kernel
theorem dX7_keep_40 : decode cX7_keep 40 = .ok (.dup, 1) := by decide +kernel
theorem dX7_keep_41 : decode cX7_keep 41 = .ok (.getfield 143, 3) := by decide +kernel
theorem dX7_keep_44 : decode cX7_keep 44 = .ok (.iconst 1, 1) := by decide +kernel
theorem dX7_keep_45 : decode cX7_keep 45 = .ok (.isub, 1) := by decide +kernel
theorem dX7_keep_46 : decode cX7_keep 46 = .ok (.putfield 143, 3) := by decide +kernel
theorem dX7_keep_49 : decode cX7_keep 49 = .ok (.iconst 0, 1) := by decide +kernel
theorem dX7_keep_50 : decode cX7_keep 50 = .ok (.istore_n 1, 1) := by decide +kernel
theorem dX7_keep_51 : decode cX7_keep 51 = .ok (.iload_n 1, 1) := by decide +kernel
theorem dX7_keep_52 : decode cX7_keep 52 = .ok (.bipush 36, 2) := by decide +kernel
theorem dX7_keep_54 : decode cX7_keep 54 = .ok (.if_icmp .ge 29, 3) := by decide +kernel
theorem dX7_keep_57 : decode cX7_keep 57 = .ok (.aload_n 0, 1) := by decide +kernel
theorem dX7_keep_58 : decode cX7_keep 58 = .ok (.getfield 28, 3) := by decide +kernel
theorem dX7_keep_61 : decode cX7_keep 61 = .ok (.bipush 36, 2) := by decide +kernel
theorem dX7_keep_63 : decode cX7_keep 63 = .ok (.aload_n 0, 1) := by decide +kernel
theorem dX7_keep_64 : decode cX7_keep 64 = .ok (.getfield 143, 3) := by decide +kernel
theorem dX7_keep_67 : decode cX7_keep 67 = .ok (.imul, 1) := by decide +kernel
theorem dX7_keep_68 : decode cX7_keep 68 = .ok (.iload_n 1, 1) := by decide +kernel
theorem dX7_keep_69 : decode cX7_keep 69 = .ok (.iadd, 1) := by decide +kernel
theorem dX7_keep_70 : decode cX7_keep 70 = .ok (.aload_n 0, 1) := by decide +kernel
theorem dX7_keep_71 : decode cX7_keep 71 = .ok (.getfield 19, 3) := by decide +kernel
theorem dX7_keep_74 : decode cX7_keep 74 = .ok (.iload_n 1, 1) := by decide +kernel
theorem dX7_keep_75 : decode cX7_keep 75 = .ok (.iaload, 1) := by decide +kernel
theorem dX7_keep_76 : decode cX7_keep 76 = .ok (.iastore, 1) := by decide +kernel
theorem dX7_keep_77 : decode cX7_keep 77 = .ok (.iinc 1 1, 3) := by decide +kernel
theorem dX7_keep_80 : decode cX7_keep 80 = .ok (.goto (-29), 3) := by decide +kernel
theorem dX7_keep_83 : decode cX7_keep 83 = .ok (.aload_n 0, 1) := by decide +kernel
theorem dX7_keep_84 : decode cX7_keep 84 = .ok (.dup, 1) := by decide +kernel
theorem dX7_keep_85 : decode cX7_keep 85 = .ok (.getfield 143, 3) := by decide +kernel
theorem dX7_keep_88 : decode cX7_keep 88 = .ok (.iconst 1, 1) := by decide +kernel
theorem dX7_keep_89 : decode cX7_keep 89 = .ok (.iadd, 1) := by decide +kernel
theorem dX7_keep_90 : decode cX7_keep 90 = .ok (.putfield 143, 3) := by decide +kernel
theorem dX7_keep_93 : decode cX7_keep 93 = .ok (.return_, 1) := by decide +kernel
theorem dX7_noons_0 : decode cX7_noons 0 = .ok (.aload_n 0, 1) := by decide +kernel
theorem dX7_noons_1 : decode cX7_noons 1 = .ok (.iconst 0, 1) := by decide +kernel
theorem dX7_noons_2 : decode cX7_noons 2 = .ok (.putfield 44, 3) := by decide +kernel
theorem dX7_noons_5 : decode cX7_noons 5 = .ok (.aload_n 0, 1) := by decide +kernel
theorem dX7_noons_6 : decode cX7_noons 6 = .ok (.invokevirtual 171, 3) := by decide +kernel
theorem dX7_noons_9 : decode cX7_noons 9 = .ok (.ifCond .ne 6, 3) := by decide +kernel
theorem dX7_noons_12 : decode cX7_noons 12 = .ok (.ldc 174, 2) := by decide +kernel
theorem dX7_noons_14 : decode cX7_noons 14 = .ok (.ireturn, 1) := by decide +kernel
theorem dX7_noons_15 : decode cX7_noons 15 = .ok (.iload_n 1, 1) := by decide +kernel
theorem dX7_noons_16 : decode cX7_noons 16 = .ok (.i2l, 1) := by decide +kernel
theorem dX7_noons_17 : decode cX7_noons 17 = .ok (.lconst 1, 1) := by decide +kernel
theorem dX7_noons_18 : decode cX7_noons 18 = .ok (.ldc2_w 175, 3) := by decide +kernel
theorem dX7_noons_21 : decode cX7_noons 21 = .ok (.invokestatic 54, 3) := by decide +kernel
theorem dX7_noons_24 : decode cX7_noons 24 = .ok (.ifCond .ne 6, 3) := by decide +kernel
theorem dX7_noons_27 : decode cX7_noons 27 = .ok (.ldc 64, 2) := by decide +kernel
theorem dX7_noons_29 : decode cX7_noons 29 = .ok (.ireturn, 1) := by decide +kernel
theorem dX7_noons_30 : decode cX7_noons 30 = .ok (.aload_n 0, 1) := by decide +kernel
theorem dX7_noons_31 : decode cX7_noons 31 = .ok (.getfield 19, 3) := by decide +kernel
theorem dX7_noons_34 : decode cX7_noons 34 = .ok (.iconst 4, 1) := by decide +kernel
theorem dX7_noons_35 : decode cX7_noons 35 = .ok (.iaload, 1) := by decide +kernel
theorem dX7_noons_36 : decode cX7_noons 36 = .ok (.iload_n 1, 1) := by decide +kernel
theorem dX7_noons_37 : decode cX7_noons 37 = .ok (.iadd, 1) := by decide +kernel
theorem dX7_noons_38 : decode cX7_noons 38 = .ok (.sipush 999, 3) := by decide +kernel
theorem dX7_noons_41 : decode cX7_noons 41 = .ok (.if_icmp .le 6, 3) := by decide +kernel
theorem dX7_noons_44 : decode cX7_noons 44 = .ok (.ldc 74, 2) := by decide +kernel
theorem dX7_noons_46 : decode cX7_noons 46 = .ok (.ireturn, 1) := by decide +kernel
theorem dX7_noons_47 : decode cX7_noons 47 = .ok (.iconst 0, 1) := by decide +kernel
theorem dX7_noons_48 : decode cX7_noons 48 = .ok (.istore_n 2, 1) := by decide +kernel
theorem dX7_noons_49 : decode cX7_noons 49 = .ok (.iconst 0, 1) := by decide +kernel
theorem dX7_noons_50 : decode cX7_noons 50 = .ok (.istore_n 3, 1) := by decide +kernel
theorem dX7_noons_51 : decode cX7_noons 51 = .ok (.iload_n 3, 1) := by decide +kernel
theorem dX7_noons_52 : decode cX7_noons 52 = .ok (.iload_n 1, 1) := by decide +kernel
theorem dX7_noons_53 : decode cX7_noons 53 = .ok (.if_icmp .ge 23, 3) := by decide +kernel
theorem dX7_noons_56 : decode cX7_noons 56 = .ok (.aload_n 0, 1) := by decide +kernel
theorem dX7_noons_57 : decode cX7_noons 57 = .ok (.invokevirtual 177, 3) := by decide +kernel
theorem dX7_noons_60 : decode cX7_noons 60 = .ok (.iload_n 2, 1) := by decide +kernel
theorem dX7_noons_61 : decode cX7_noons 61 = .ok (.aload_n 0, 1) := by decide +kernel
theorem dX7_noons_62 : decode cX7_noons 62 = .ok (.getfield 19, 3) := by decide +kernel
theorem dX7_noons_65 : decode cX7_noons 65 = .ok (.invokestatic 168, 3) := by decide +kernel
theorem dX7_noons_68 : decode cX7_noons 68 = .ok (.iadd, 1) := by decide +kernel
theorem dX7_noons_69 : decode cX7_noons 69 = .ok (.istore_n 2, 1) := by decide +kernel
theorem dX7_noons_70 : decode cX7_noons 70 = .ok (.iinc 3 1, 3) := by decide +kernel
theorem dX7_noons_73 : decode cX7_noons 73 = .ok (.goto (-22), 3) := by decide +kernel
theorem dX7_noons_76 : decode cX7_noons 76 = .ok (.iload_n 2, 1) := by decide +kernel
theorem dX7_noons_77 : decode cX7_noons 77 = .ok (.ireturn, 1) := by decide +kernel
