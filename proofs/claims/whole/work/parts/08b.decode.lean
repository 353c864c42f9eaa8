/-! ===== decode rows ===== -/
theorem dX6_init_0 : decode cX6_init 0 = .ok (.aload_n 0, 1) := by decide +kernel
theorem dX6_init_1 : decode cX6_init 1 = .ok (.invokespecial 3, 3) := by decide +kernel
theorem dX6_init_4 : decode cX6_init 4 = .ok (.aload_n 0, 1) := by decide +kernel
theorem dX6_init_5 : decode cX6_init 5 = .ok (.new 9, 3) := by decide +kernel
theorem dX6_init_8 : decode cX6_init 8 = .ok (.dup, 1) := by decide +kernel
theorem dX6_init_9 : decode cX6_init 9 = .ok (.invokespecial 11, 3) := by decide +kernel
theorem dX6_init_12 : decode cX6_init 12 = .ok (.putfield 12, 3) := by decide +kernel
theorem dX6_init_15 : decode cX6_init 15 = .ok (.aload_n 0, 1) := by decide +kernel
theorem dX6_init_16 : decode cX6_init 16 = .ok (.new 16, 3) := by decide +kernel
theorem dX6_init_19 : decode cX6_init 19 = .ok (.dup, 1) := by decide +kernel
theorem dX6_init_20 : decode cX6_init 20 = .ok (.invokespecial 18, 3) := by decide +kernel
theorem dX6_init_23 : decode cX6_init 23 = .ok (.putfield 19, 3) := by decide +kernel
theorem dX6_init_26 : decode cX6_init 26 = .ok (.aload_n 0, 1) := by decide +kernel
theorem dX6_init_27 : decode cX6_init 27 = .ok (.new 23, 3) := by decide +kernel
theorem dX6_init_30 : decode cX6_init 30 = .ok (.dup, 1) := by decide +kernel
theorem dX6_init_31 : decode cX6_init 31 = .ok (.invokespecial 25, 3) := by decide +kernel
theorem dX6_init_34 : decode cX6_init 34 = .ok (.putfield 26, 3) := by decide +kernel
theorem dX6_init_37 : decode cX6_init 37 = .ok (.aload_n 0, 1) := by decide +kernel
theorem dX6_init_38 : decode cX6_init 38 = .ok (.new 30, 3) := by decide +kernel
theorem dX6_init_41 : decode cX6_init 41 = .ok (.dup, 1) := by decide +kernel
theorem dX6_init_42 : decode cX6_init 42 = .ok (.invokespecial 32, 3) := by decide +kernel
theorem dX6_init_45 : decode cX6_init 45 = .ok (.putfield 33, 3) := by decide +kernel
theorem dX6_init_48 : decode cX6_init 48 = .ok (.aload_n 0, 1) := by decide +kernel
theorem dX6_init_49 : decode cX6_init 49 = .ok (.new 23, 3) := by decide +kernel
theorem dX6_init_52 : decode cX6_init 52 = .ok (.dup, 1) := by decide +kernel
theorem dX6_init_53 : decode cX6_init 53 = .ok (.invokespecial 25, 3) := by decide +kernel
theorem dX6_init_56 : decode cX6_init 56 = .ok (.putfield 37, 3) := by decide +kernel
theorem dX6_init_59 : decode cX6_init 59 = .ok (.aload_n 0, 1) := by decide +kernel
theorem dX6_init_60 : decode cX6_init 60 = .ok (.new 23, 3) := by decide +kernel
theorem dX6_init_63 : decode cX6_init 63 = .ok (.dup, 1) := by decide +kernel
theorem dX6_init_64 : decode cX6_init 64 = .ok (.invokespecial 25, 3) := by decide +kernel
theorem dX6_init_67 : decode cX6_init 67 = .ok (.putfield 40, 3) := by decide +kernel
theorem dX6_init_70 : decode cX6_init 70 = .ok (.aload_n 0, 1) := by decide +kernel
theorem dX6_init_71 : decode cX6_init 71 = .ok (.new 43, 3) := by decide +kernel
theorem dX6_init_74 : decode cX6_init 74 = .ok (.dup, 1) := by decide +kernel
theorem dX6_init_75 : decode cX6_init 75 = .ok (.aload_n 0, 1) := by decide +kernel
theorem dX6_init_76 : decode cX6_init 76 = .ok (.getfield 26, 3) := by decide +kernel
theorem dX6_init_79 : decode cX6_init 79 = .ok (.invokespecial 45, 3) := by decide +kernel
theorem dX6_init_82 : decode cX6_init 82 = .ok (.putfield 48, 3) := by decide +kernel
theorem dX6_init_85 : decode cX6_init 85 = .ok (.aload_n 0, 1) := by decide +kernel
theorem dX6_init_86 : decode cX6_init 86 = .ok (.new 52, 3) := by decide +kernel
theorem dX6_init_89 : decode cX6_init 89 = .ok (.dup, 1) := by decide +kernel
theorem dX6_init_90 : decode cX6_init 90 = .ok (.aload_n 0, 1) := by decide +kernel
theorem dX6_init_91 : decode cX6_init 91 = .ok (.getfield 26, 3) := by decide +kernel
theorem dX6_init_94 : decode cX6_init 94 = .ok (.invokespecial 54, 3) := by decide +kernel
theorem dX6_init_97 : decode cX6_init 97 = .ok (.putfield 55, 3) := by decide +kernel
theorem dX6_init_100 : decode cX6_init 100 = .ok (.return_, 1) := by decide +kernel
theorem dX6_row_0 : decode cX6_row 0 = .ok (.aload_n 0, 1) := by decide +kernel
theorem dX6_row_1 : decode cX6_row 1 = .ok (.getfield 12, 3) := by decide +kernel
theorem dX6_row_4 : decode cX6_row 4 = .ok (.iload_n 1, 1) := by decide +kernel
theorem dX6_row_5 : decode cX6_row 5 = .ok (.invokevirtual 59, 3) := by decide +kernel
theorem dX6_row_8 : decode cX6_row 8 = .ok (.ifCond .eq 18, 3) := by decide +kernel
theorem dX6_row_11 : decode cX6_row 11 = .ok (.iload_n 2, 1) := by decide +kernel
theorem dX6_row_12 : decode cX6_row 12 = .ok (.iconst 0, 1) := by decide +kernel
theorem dX6_row_13 : decode cX6_row 13 = .ok (.iconst 2, 1) := by decide +kernel
theorem dX6_row_14 : decode cX6_row 14 = .ok (.invokestatic 63, 3) := by decide +kernel
theorem dX6_row_17 : decode cX6_row 17 = .ok (.ifCond .eq 9, 3) := by decide +kernel
theorem dX6_row_20 : decode cX6_row 20 = .ok (.iload_n 3, 1) := by decide +kernel
theorem dX6_row_21 : decode cX6_row 21 = .ok (.bipush 40, 2) := by decide +kernel
theorem dX6_row_23 : decode cX6_row 23 = .ok (.if_icmp .le 6, 3) := by decide +kernel
theorem dX6_row_26 : decode cX6_row 26 = .ok (.ldc 67, 2) := by decide +kernel
theorem dX6_row_28 : decode cX6_row 28 = .ok (.ireturn, 1) := by decide +kernel
theorem dX6_row_29 : decode cX6_row 29 = .ok (.iload_n 3, 1) := by decide +kernel
theorem dX6_row_30 : decode cX6_row 30 = .ok (.ifCond .ge 9, 3) := by decide +kernel
theorem dX6_row_33 : decode cX6_row 33 = .ok (.aload_n 0, 1) := by decide +kernel
theorem dX6_row_34 : decode cX6_row 34 = .ok (.iconst 4, 1) := by decide +kernel
theorem dX6_row_35 : decode cX6_row 35 = .ok (.invokevirtual 68, 3) := by decide +kernel
theorem dX6_row_38 : decode cX6_row 38 = .ok (.ireturn, 1) := by decide +kernel
theorem dX6_row_39 : decode cX6_row 39 = .ok (.aload_n 0, 1) := by decide +kernel
theorem dX6_row_40 : decode cX6_row 40 = .ok (.iconst 0, 1) := by decide +kernel
theorem dX6_row_41 : decode cX6_row 41 = .ok (.putfield 72, 3) := by decide +kernel
theorem dX6_row_44 : decode cX6_row 44 = .ok (.aload_n 0, 1) := by decide +kernel
theorem dX6_row_45 : decode cX6_row 45 = .ok (.getfield 12, 3) := by decide +kernel
theorem dX6_row_48 : decode cX6_row 48 = .ok (.iload_n 1, 1) := by decide +kernel
theorem dX6_row_49 : decode cX6_row 49 = .ok (.iload_n 2, 1) := by decide +kernel
theorem dX6_row_50 : decode cX6_row 50 = .ok (.iload_n 3, 1) := by decide +kernel
theorem dX6_row_51 : decode cX6_row 51 = .ok (.invokevirtual 76, 3) := by decide +kernel
theorem dX6_row_54 : decode cX6_row 54 = .ok (.iload_n 3, 1) := by decide +kernel
theorem dX6_row_55 : decode cX6_row 55 = .ok (.ireturn, 1) := by decide +kernel
theorem dX6_set_0 : decode cX6_set 0 = .ok (.aload_n 0, 1) := by decide +kernel
theorem dX6_set_1 : decode cX6_set 1 = .ok (.getfield 12, 3) := by decide +kernel
theorem dX6_set_4 : decode cX6_set 4 = .ok (.iload_n 1, 1) := by decide +kernel
theorem dX6_set_5 : decode cX6_set 5 = .ok (.invokevirtual 59, 3) := by decide +kernel
theorem dX6_set_8 : decode cX6_set 8 = .ok (.ifCond .ne 6, 3) := by decide +kernel
theorem dX6_set_11 : decode cX6_set 11 = .ok (.ldc 67, 2) := by decide +kernel
theorem dX6_set_13 : decode cX6_set 13 = .ok (.ireturn, 1) := by decide +kernel
theorem dX6_set_14 : decode cX6_set 14 = .ok (.aload_n 0, 1) := by decide +kernel
theorem dX6_set_15 : decode cX6_set 15 = .ok (.getfield 12, 3) := by decide +kernel
theorem dX6_set_18 : decode cX6_set 18 = .ok (.iload_n 1, 1) := by decide +kernel
theorem dX6_set_19 : decode cX6_set 19 = .ok (.invokevirtual 80, 3) := by decide +kernel
theorem dX6_set_22 : decode cX6_set 22 = .ok (.ifCond .eq 9, 3) := by decide +kernel
theorem dX6_set_25 : decode cX6_set 25 = .ok (.aload_n 0, 1) := by decide +kernel
theorem dX6_set_26 : decode cX6_set 26 = .ok (.iconst 1, 1) := by decide +kernel
theorem dX6_set_27 : decode cX6_set 27 = .ok (.invokevirtual 68, 3) := by decide +kernel
theorem dX6_set_30 : decode cX6_set 30 = .ok (.ireturn, 1) := by decide +kernel
theorem dX6_set_31 : decode cX6_set 31 = .ok (.aload_n 0, 1) := by decide +kernel
theorem dX6_set_32 : decode cX6_set 32 = .ok (.getfield 12, 3) := by decide +kernel
theorem dX6_set_35 : decode cX6_set 35 = .ok (.iload_n 1, 1) := by decide +kernel
theorem dX6_set_36 : decode cX6_set 36 = .ok (.iload_n 2, 1) := by decide +kernel
theorem dX6_set_37 : decode cX6_set 37 = .ok (.iconst 1, 1) := by decide +kernel
theorem dX6_set_38 : decode cX6_set 38 = .ok (.invokevirtual 83, 3) := by decide +kernel
theorem dX6_set_41 : decode cX6_set 41 = .ok (.ifCond .ne 9, 3) := by decide +kernel
theorem dX6_set_44 : decode cX6_set 44 = .ok (.aload_n 0, 1) := by decide +kernel
theorem dX6_set_45 : decode cX6_set 45 = .ok (.iconst 2, 1) := by decide +kernel
theorem dX6_set_46 : decode cX6_set 46 = .ok (.invokevirtual 68, 3) := by decide +kernel
theorem dX6_set_49 : decode cX6_set 49 = .ok (.ireturn, 1) := by decide +kernel
theorem dX6_set_50 : decode cX6_set 50 = .ok (.aload_n 0, 1) := by decide +kernel
theorem dX6_set_51 : decode cX6_set 51 = .ok (.iconst 0, 1) := by decide +kernel
theorem dX6_set_52 : decode cX6_set 52 = .ok (.putfield 72, 3) := by decide +kernel
theorem dX6_set_55 : decode cX6_set 55 = .ok (.aload_n 0, 1) := by decide +kernel
theorem dX6_set_56 : decode cX6_set 56 = .ok (.getfield 12, 3) := by decide +kernel
theorem dX6_set_59 : decode cX6_set 59 = .ok (.iload_n 1, 1) := by decide +kernel
theorem dX6_set_60 : decode cX6_set 60 = .ok (.iload_n 2, 1) := by decide +kernel
theorem dX6_set_61 : decode cX6_set 61 = .ok (.iload_n 3, 1) := by decide +kernel
theorem dX6_set_62 : decode cX6_set 62 = .ok (.invokevirtual 86, 3) := by decide +kernel
theorem dX6_set_65 : decode cX6_set 65 = .ok (.ireturn, 1) := by decide +kernel
theorem dX6_copy_0 : decode cX6_copy 0 = .ok (.aload_n 0, 1) := by decide +kernel
theorem dX6_copy_1 : decode cX6_copy 1 = .ok (.getfield 12, 3) := by decide +kernel
theorem dX6_copy_4 : decode cX6_copy 4 = .ok (.iload_n 1, 1) := by decide +kernel
theorem dX6_copy_5 : decode cX6_copy 5 = .ok (.invokevirtual 59, 3) := by decide +kernel
theorem dX6_copy_8 : decode cX6_copy 8 = .ok (.ifCond .eq 14, 3) := by decide +kernel
theorem dX6_copy_11 : decode cX6_copy 11 = .ok (.aload_n 0, 1) := by decide +kernel
theorem dX6_copy_12 : decode cX6_copy 12 = .ok (.getfield 12, 3) := by decide +kernel
theorem dX6_copy_15 : decode cX6_copy 15 = .ok (.iload_n 3, 1) := by decide +kernel
theorem dX6_copy_16 : decode cX6_copy 16 = .ok (.invokevirtual 59, 3) := by decide +kernel
theorem dX6_copy_19 : decode cX6_copy 19 = .ok (.ifCond .ne 6, 3) := by decide +kernel
theorem dX6_copy_22 : decode cX6_copy 22 = .ok (.ldc 67, 2) := by decide +kernel
theorem dX6_copy_24 : decode cX6_copy 24 = .ok (.ireturn, 1) := by decide +kernel
theorem dX6_copy_25 : decode cX6_copy 25 = .ok (.aload_n 0, 1) := by decide +kernel
theorem dX6_copy_26 : decode cX6_copy 26 = .ok (.getfield 12, 3) := by decide +kernel
theorem dX6_copy_29 : decode cX6_copy 29 = .ok (.iload_n 1, 1) := by decide +kernel
theorem dX6_copy_30 : decode cX6_copy 30 = .ok (.invokevirtual 80, 3) := by decide +kernel
theorem dX6_copy_33 : decode cX6_copy 33 = .ok (.ifCond .ne 14, 3) := by decide +kernel
theorem dX6_copy_36 : decode cX6_copy 36 = .ok (.aload_n 0, 1) := by decide +kernel
theorem dX6_copy_37 : decode cX6_copy 37 = .ok (.getfield 12, 3) := by decide +kernel
theorem dX6_copy_40 : decode cX6_copy 40 = .ok (.iload_n 3, 1) := by decide +kernel
theorem dX6_copy_41 : decode cX6_copy 41 = .ok (.invokevirtual 80, 3) := by decide +kernel
theorem dX6_copy_44 : decode cX6_copy 44 = .ok (.ifCond .eq 9, 3) := by decide +kernel
theorem dX6_copy_47 : decode cX6_copy 47 = .ok (.aload_n 0, 1) := by decide +kernel
theorem dX6_copy_48 : decode cX6_copy 48 = .ok (.iconst 1, 1) := by decide +kernel
theorem dX6_copy_49 : decode cX6_copy 49 = .ok (.invokevirtual 68, 3) := by decide +kernel
theorem dX6_copy_52 : decode cX6_copy 52 = .ok (.ireturn, 1) := by decide +kernel
theorem dX6_copy_53 : decode cX6_copy 53 = .ok (.aload_n 0, 1) := by decide +kernel
theorem dX6_copy_54 : decode cX6_copy 54 = .ok (.getfield 12, 3) := by decide +kernel
theorem dX6_copy_57 : decode cX6_copy 57 = .ok (.iload_n 1, 1) := by decide +kernel
theorem dX6_copy_58 : decode cX6_copy 58 = .ok (.invokevirtual 90, 3) := by decide +kernel
theorem dX6_copy_61 : decode cX6_copy 61 = .ok (.aload_n 0, 1) := by decide +kernel
theorem dX6_copy_62 : decode cX6_copy 62 = .ok (.getfield 12, 3) := by decide +kernel
theorem dX6_copy_65 : decode cX6_copy 65 = .ok (.iload_n 3, 1) := by decide +kernel
theorem dX6_copy_66 : decode cX6_copy 66 = .ok (.invokevirtual 90, 3) := by decide +kernel
theorem dX6_copy_69 : decode cX6_copy 69 = .ok (.if_icmp .eq 9, 3) := by decide +kernel
theorem dX6_copy_72 : decode cX6_copy 72 = .ok (.aload_n 0, 1) := by decide +kernel
theorem dX6_copy_73 : decode cX6_copy 73 = .ok (.iconst 5, 1) := by decide +kernel
theorem dX6_copy_74 : decode cX6_copy 74 = .ok (.invokevirtual 68, 3) := by decide +kernel
theorem dX6_copy_77 : decode cX6_copy 77 = .ok (.ireturn, 1) := by decide +kernel
theorem dX6_copy_78 : decode cX6_copy 78 = .ok (.aload_n 0, 1) := by decide +kernel
theorem dX6_copy_79 : decode cX6_copy 79 = .ok (.getfield 12, 3) := by decide +kernel
theorem dX6_copy_82 : decode cX6_copy 82 = .ok (.iload_n 1, 1) := by decide +kernel
theorem dX6_copy_83 : decode cX6_copy 83 = .ok (.iload_n 2, 1) := by decide +kernel
theorem dX6_copy_84 : decode cX6_copy 84 = .ok (.iload 5, 2) := by decide +kernel
theorem dX6_copy_86 : decode cX6_copy 86 = .ok (.invokevirtual 83, 3) := by decide +kernel
theorem dX6_copy_89 : decode cX6_copy 89 = .ok (.ifCond .eq 18, 3) := by decide +kernel
theorem dX6_copy_92 : decode cX6_copy 92 = .ok (.aload_n 0, 1) := by decide +kernel
theorem dX6_copy_93 : decode cX6_copy 93 = .ok (.getfield 12, 3) := by decide +kernel
theorem dX6_copy_96 : decode cX6_copy 96 = .ok (.iload_n 3, 1) := by decide +kernel
theorem dX6_copy_97 : decode cX6_copy 97 = .ok (.iload 4, 2) := by decide +kernel
theorem dX6_copy_99 : decode cX6_copy 99 = .ok (.iload 5, 2) := by decide +kernel
theorem dX6_copy_101 : decode cX6_copy 101 = .ok (.invokevirtual 83, 3) := by decide +kernel
theorem dX6_copy_104 : decode cX6_copy 104 = .ok (.ifCond .ne 9, 3) := by decide +kernel
theorem dX6_copy_107 : decode cX6_copy 107 = .ok (.aload_n 0, 1) := by decide +kernel
theorem dX6_copy_108 : decode cX6_copy 108 = .ok (.iconst 2, 1) := by decide +kernel
theorem dX6_copy_109 : decode cX6_copy 109 = .ok (.invokevirtual 68, 3) := by decide +kernel
theorem dX6_copy_112 : decode cX6_copy 112 = .ok (.ireturn, 1) := by decide +kernel
theorem dX6_copy_113 : decode cX6_copy 113 = .ok (.aload_n 0, 1) := by decide +kernel
theorem dX6_copy_114 : decode cX6_copy 114 = .ok (.iconst 0, 1) := by decide +kernel
theorem dX6_copy_115 : decode cX6_copy 115 = .ok (.putfield 72, 3) := by decide +kernel
theorem dX6_copy_118 : decode cX6_copy 118 = .ok (.aload_n 0, 1) := by decide +kernel
theorem dX6_copy_119 : decode cX6_copy 119 = .ok (.getfield 12, 3) := by decide +kernel
theorem dX6_copy_122 : decode cX6_copy 122 = .ok (.iload_n 1, 1) := by decide +kernel
theorem dX6_copy_123 : decode cX6_copy 123 = .ok (.iload_n 2, 1) := by decide +kernel
theorem dX6_copy_124 : decode cX6_copy 124 = .ok (.iload_n 3, 1) := by decide +kernel
theorem dX6_copy_125 : decode cX6_copy 125 = .ok (.iload 4, 2) := by decide +kernel
theorem dX6_copy_127 : decode cX6_copy 127 = .ok (.iload 5, 2) := by decide +kernel
theorem dX6_copy_129 : decode cX6_copy 129 = .ok (.invokevirtual 93, 3) := by decide +kernel
theorem dX6_copy_132 : decode cX6_copy 132 = .ok (.iload 5, 2) := by decide +kernel
theorem dX6_copy_134 : decode cX6_copy 134 = .ok (.ireturn, 1) := by decide +kernel
theorem dX6_drop_0 : decode cX6_drop 0 = .ok (.aload_n 0, 1) := by decide +kernel
theorem dX6_drop_1 : decode cX6_drop 1 = .ok (.getfield 12, 3) := by decide +kernel
theorem dX6_drop_4 : decode cX6_drop 4 = .ok (.iload_n 1, 1) := by decide +kernel
theorem dX6_drop_5 : decode cX6_drop 5 = .ok (.invokevirtual 59, 3) := by decide +kernel
theorem dX6_drop_8 : decode cX6_drop 8 = .ok (.ifCond .ne 6, 3) := by decide +kernel
theorem dX6_drop_11 : decode cX6_drop 11 = .ok (.ldc 67, 2) := by decide +kernel
theorem dX6_drop_13 : decode cX6_drop 13 = .ok (.ireturn, 1) := by decide +kernel
theorem dX6_drop_14 : decode cX6_drop 14 = .ok (.aload_n 0, 1) := by decide +kernel
theorem dX6_drop_15 : decode cX6_drop 15 = .ok (.getfield 12, 3) := by decide +kernel
theorem dX6_drop_18 : decode cX6_drop 18 = .ok (.iload_n 1, 1) := by decide +kernel
theorem dX6_drop_19 : decode cX6_drop 19 = .ok (.invokevirtual 80, 3) := by decide +kernel
theorem dX6_drop_22 : decode cX6_drop 22 = .ok (.ifCond .eq 9, 3) := by decide +kernel
theorem dX6_drop_25 : decode cX6_drop 25 = .ok (.aload_n 0, 1) := by decide +kernel
theorem dX6_drop_26 : decode cX6_drop 26 = .ok (.iconst 1, 1) := by decide +kernel
theorem dX6_drop_27 : decode cX6_drop 27 = .ok (.invokevirtual 68, 3) := by decide +kernel
theorem dX6_drop_30 : decode cX6_drop 30 = .ok (.ireturn, 1) := by decide +kernel
theorem dX6_drop_31 : decode cX6_drop 31 = .ok (.aload_n 0, 1) := by decide +kernel
theorem dX6_drop_32 : decode cX6_drop 32 = .ok (.iconst 0, 1) := by decide +kernel
theorem dX6_drop_33 : decode cX6_drop 33 = .ok (.putfield 72, 3) := by decide +kernel
theorem dX6_drop_36 : decode cX6_drop 36 = .ok (.aload_n 0, 1) := by decide +kernel
theorem dX6_drop_37 : decode cX6_drop 37 = .ok (.getfield 12, 3) := by decide +kernel
theorem dX6_drop_40 : decode cX6_drop 40 = .ok (.iload_n 1, 1) := by decide +kernel
theorem dX6_drop_41 : decode cX6_drop 41 = .ok (.invokevirtual 97, 3) := by decide +kernel
theorem dX6_drop_44 : decode cX6_drop 44 = .ok (.ireturn, 1) := by decide +kernel
theorem dX6_feed_0 : decode cX6_feed 0 = .ok (.iload_n 1, 1) := by decide +kernel
theorem dX6_feed_1 : decode cX6_feed 1 = .ok (.iconst 0, 1) := by decide +kernel
theorem dX6_feed_2 : decode cX6_feed 2 = .ok (.sipush 255, 3) := by decide +kernel
theorem dX6_feed_5 : decode cX6_feed 5 = .ok (.invokestatic 63, 3) := by decide +kernel
theorem dX6_feed_8 : decode cX6_feed 8 = .ok (.ifCond .ne 6, 3) := by decide +kernel
theorem dX6_feed_11 : decode cX6_feed 11 = .ok (.ldc 67, 2) := by decide +kernel
theorem dX6_feed_13 : decode cX6_feed 13 = .ok (.ireturn, 1) := by decide +kernel
theorem dX6_feed_14 : decode cX6_feed 14 = .ok (.aload_n 0, 1) := by decide +kernel
theorem dX6_feed_15 : decode cX6_feed 15 = .ok (.getfield 19, 3) := by decide +kernel
theorem dX6_feed_18 : decode cX6_feed 18 = .ok (.invokevirtual 100, 3) := by decide +kernel
theorem dX6_feed_21 : decode cX6_feed 21 = .ok (.ifCond .eq 6, 3) := by decide +kernel
theorem dX6_feed_24 : decode cX6_feed 24 = .ok (.ldc 104, 2) := by decide +kernel
theorem dX6_feed_26 : decode cX6_feed 26 = .ok (.ireturn, 1) := by decide +kernel
theorem dX6_feed_27 : decode cX6_feed 27 = .ok (.aload_n 0, 1) := by decide +kernel
theorem dX6_feed_28 : decode cX6_feed 28 = .ok (.getfield 19, 3) := by decide +kernel
theorem dX6_feed_31 : decode cX6_feed 31 = .ok (.iload_n 1, 1) := by decide +kernel
theorem dX6_feed_32 : decode cX6_feed 32 = .ok (.invokevirtual 105, 3) := by decide +kernel
theorem dX6_feed_35 : decode cX6_feed 35 = .ok (.ireturn, 1) := by decide +kernel
theorem dX6_square_0 : decode cX6_square 0 = .ok (.aload_n 0, 1) := by decide +kernel
theorem dX6_square_1 : decode cX6_square 1 = .ok (.getfield 19, 3) := by decide +kernel
theorem dX6_square_4 : decode cX6_square 4 = .ok (.invokevirtual 108, 3) := by decide +kernel
theorem dX6_square_7 : decode cX6_square 7 = .ok (.istore_n 1, 1) := by decide +kernel
theorem dX6_square_8 : decode cX6_square 8 = .ok (.aload_n 0, 1) := by decide +kernel
theorem dX6_square_9 : decode cX6_square 9 = .ok (.getfield 19, 3) := by decide +kernel
theorem dX6_square_12 : decode cX6_square 12 = .ok (.invokevirtual 111, 3) := by decide +kernel
theorem dX6_square_15 : decode cX6_square 15 = .ok (.iload_n 1, 1) := by decide +kernel
theorem dX6_square_16 : decode cX6_square 16 = .ok (.ifCond .ne 25, 3) := by decide +kernel
theorem dX6_square_19 : decode cX6_square 19 = .ok (.aload_n 0, 1) := by decide +kernel
theorem dX6_square_20 : decode cX6_square 20 = .ok (.aload_n 0, 1) := by decide +kernel
theorem dX6_square_21 : decode cX6_square 21 = .ok (.getfield 19, 3) := by decide +kernel
theorem dX6_square_24 : decode cX6_square 24 = .ok (.getfield 114, 3) := by decide +kernel
theorem dX6_square_27 : decode cX6_square 27 = .ok (.putfield 117, 3) := by decide +kernel
theorem dX6_square_30 : decode cX6_square 30 = .ok (.ldc 120, 2) := by decide +kernel
theorem dX6_square_32 : decode cX6_square 32 = .ok (.aload_n 0, 1) := by decide +kernel
theorem dX6_square_33 : decode cX6_square 33 = .ok (.getfield 19, 3) := by decide +kernel
theorem dX6_square_36 : decode cX6_square 36 = .ok (.getfield 121, 3) := by decide +kernel
theorem dX6_square_39 : decode cX6_square 39 = .ok (.isub, 1) := by decide +kernel
theorem dX6_square_40 : decode cX6_square 40 = .ok (.ireturn, 1) := by decide +kernel
theorem dX6_square_41 : decode cX6_square 41 = .ok (.aload_n 0, 1) := by decide +kernel
theorem dX6_square_42 : decode cX6_square 42 = .ok (.getfield 26, 3) := by decide +kernel
theorem dX6_square_45 : decode cX6_square 45 = .ok (.aload_n 0, 1) := by decide +kernel
theorem dX6_square_46 : decode cX6_square 46 = .ok (.getfield 19, 3) := by decide +kernel
theorem dX6_square_49 : decode cX6_square 49 = .ok (.getfield 124, 3) := by decide +kernel
theorem dX6_square_52 : decode cX6_square 52 = .ok (.invokevirtual 127, 3) := by decide +kernel
theorem dX6_square_55 : decode cX6_square 55 = .ok (.aload_n 0, 1) := by decide +kernel
theorem dX6_square_56 : decode cX6_square 56 = .ok (.getfield 33, 3) := by decide +kernel
theorem dX6_square_59 : decode cX6_square 59 = .ok (.invokevirtual 130, 3) := by decide +kernel
theorem dX6_square_62 : decode cX6_square 62 = .ok (.aload_n 0, 1) := by decide +kernel
theorem dX6_square_63 : decode cX6_square 63 = .ok (.getfield 26, 3) := by decide +kernel
theorem dX6_square_66 : decode cX6_square 66 = .ok (.getfield 131, 3) := by decide +kernel
theorem dX6_square_69 : decode cX6_square 69 = .ok (.ireturn, 1) := by decide +kernel
theorem dX6_fault_0 : decode cX6_fault 0 = .ok (.aload_n 0, 1) := by decide +kernel
theorem dX6_fault_1 : decode cX6_fault 1 = .ok (.getfield 117, 3) := by decide +kernel
theorem dX6_fault_4 : decode cX6_fault 4 = .ok (.ireturn, 1) := by decide +kernel
theorem dX6_undo_0 : decode cX6_undo 0 = .ok (.aload_n 0, 1) := by decide +kernel
theorem dX6_undo_1 : decode cX6_undo 1 = .ok (.getfield 33, 3) := by decide +kernel
theorem dX6_undo_4 : decode cX6_undo 4 = .ok (.getfield 134, 3) := by decide +kernel
theorem dX6_undo_7 : decode cX6_undo 7 = .ok (.ifCond .ne 6, 3) := by decide +kernel
theorem dX6_undo_10 : decode cX6_undo 10 = .ok (.ldc 137, 2) := by decide +kernel
theorem dX6_undo_12 : decode cX6_undo 12 = .ok (.ireturn, 1) := by decide +kernel
theorem dX6_undo_13 : decode cX6_undo 13 = .ok (.aload_n 0, 1) := by decide +kernel
theorem dX6_undo_14 : decode cX6_undo 14 = .ok (.getfield 33, 3) := by decide +kernel
theorem dX6_undo_17 : decode cX6_undo 17 = .ok (.aload_n 0, 1) := by decide +kernel
theorem dX6_undo_18 : decode cX6_undo 18 = .ok (.getfield 26, 3) := by decide +kernel
theorem dX6_undo_21 : decode cX6_undo 21 = .ok (.invokevirtual 138, 3) := by decide +kernel
theorem dX6_undo_24 : decode cX6_undo 24 = .ok (.aload_n 0, 1) := by decide +kernel
theorem dX6_undo_25 : decode cX6_undo 25 = .ok (.getfield 33, 3) := by decide +kernel
theorem dX6_undo_28 : decode cX6_undo 28 = .ok (.getfield 134, 3) := by decide +kernel
theorem dX6_undo_31 : decode cX6_undo 31 = .ok (.ireturn, 1) := by decide +kernel
theorem dX6_noons_0 : decode cX6_noons 0 = .ok (.aload_n 0, 1) := by decide +kernel
theorem dX6_noons_1 : decode cX6_noons 1 = .ok (.getfield 26, 3) := by decide +kernel
theorem dX6_noons_4 : decode cX6_noons 4 = .ok (.getfield 131, 3) := by decide +kernel
theorem dX6_noons_7 : decode cX6_noons 7 = .ok (.ifCond .ne 6, 3) := by decide +kernel
theorem dX6_noons_10 : decode cX6_noons 10 = .ok (.ldc 137, 2) := by decide +kernel
theorem dX6_noons_12 : decode cX6_noons 12 = .ok (.ireturn, 1) := by decide +kernel
theorem dX6_noons_13 : decode cX6_noons 13 = .ok (.iload_n 1, 1) := by decide +kernel
theorem dX6_noons_14 : decode cX6_noons 14 = .ok (.iconst 1, 1) := by decide +kernel
theorem dX6_noons_15 : decode cX6_noons 15 = .ok (.bipush 24, 2) := by decide +kernel
theorem dX6_noons_17 : decode cX6_noons 17 = .ok (.invokestatic 63, 3) := by decide +kernel
theorem dX6_noons_20 : decode cX6_noons 20 = .ok (.ifCond .ne 6, 3) := by decide +kernel
theorem dX6_noons_23 : decode cX6_noons 23 = .ok (.ldc 67, 2) := by decide +kernel
theorem dX6_noons_25 : decode cX6_noons 25 = .ok (.ireturn, 1) := by decide +kernel
theorem dX6_noons_26 : decode cX6_noons 26 = .ok (.aload_n 0, 1) := by decide +kernel
theorem dX6_noons_27 : decode cX6_noons 27 = .ok (.getfield 26, 3) := by decide +kernel
theorem dX6_noons_30 : decode cX6_noons 30 = .ok (.getfield 141, 3) := by decide +kernel
theorem dX6_noons_33 : decode cX6_noons 33 = .ok (.iload_n 1, 1) := by decide +kernel
theorem dX6_noons_34 : decode cX6_noons 34 = .ok (.iadd, 1) := by decide +kernel
theorem dX6_noons_35 : decode cX6_noons 35 = .ok (.sipush 999, 3) := by decide +kernel
theorem dX6_noons_38 : decode cX6_noons 38 = .ok (.if_icmp .le 6, 3) := by decide +kernel
theorem dX6_noons_41 : decode cX6_noons 41 = .ok (.ldc 104, 2) := by decide +kernel
theorem dX6_noons_43 : decode cX6_noons 43 = .ok (.ireturn, 1) := by decide +kernel
theorem dX6_noons_44 : decode cX6_noons 44 = .ok (.aload_n 0, 1) := by decide +kernel
theorem dX6_noons_45 : decode cX6_noons 45 = .ok (.getfield 26, 3) := by decide +kernel
theorem dX6_noons_48 : decode cX6_noons 48 = .ok (.getfield 144, 3) := by decide +kernel
theorem dX6_noons_51 : decode cX6_noons 51 = .ok (.istore_n 2, 1) := by decide +kernel
theorem dX6_noons_52 : decode cX6_noons 52 = .ok (.iconst 0, 1) := by decide +kernel
theorem dX6_noons_53 : decode cX6_noons 53 = .ok (.istore_n 3, 1) := by decide +kernel
theorem dX6_noons_54 : decode cX6_noons 54 = .ok (.iload_n 3, 1) := by decide +kernel
theorem dX6_noons_55 : decode cX6_noons 55 = .ok (.iload_n 1, 1) := by decide +kernel
theorem dX6_noons_56 : decode cX6_noons 56 = .ok (.if_icmp .ge 27, 3) := by decide +kernel
theorem dX6_noons_59 : decode cX6_noons 59 = .ok (.aload_n 0, 1) := by decide +kernel
theorem dX6_noons_60 : decode cX6_noons 60 = .ok (.getfield 33, 3) := by decide +kernel
theorem dX6_noons_63 : decode cX6_noons 63 = .ok (.aload_n 0, 1) := by decide +kernel
theorem dX6_noons_64 : decode cX6_noons 64 = .ok (.getfield 26, 3) := by decide +kernel
theorem dX6_noons_67 : decode cX6_noons 67 = .ok (.invokevirtual 147, 3) := by decide +kernel
theorem dX6_noons_70 : decode cX6_noons 70 = .ok (.aload_n 0, 1) := by decide +kernel
theorem dX6_noons_71 : decode cX6_noons 71 = .ok (.getfield 26, 3) := by decide +kernel
theorem dX6_noons_74 : decode cX6_noons 74 = .ok (.invokevirtual 150, 3) := by decide +kernel
theorem dX6_noons_77 : decode cX6_noons 77 = .ok (.iinc 3 1, 3) := by decide +kernel
theorem dX6_noons_80 : decode cX6_noons 80 = .ok (.goto (-26), 3) := by decide +kernel
theorem dX6_noons_83 : decode cX6_noons 83 = .ok (.aload_n 0, 1) := by decide +kernel
theorem dX6_noons_84 : decode cX6_noons 84 = .ok (.getfield 26, 3) := by decide +kernel
theorem dX6_noons_87 : decode cX6_noons 87 = .ok (.getfield 144, 3) := by decide +kernel
theorem dX6_noons_90 : decode cX6_noons 90 = .ok (.iload_n 2, 1) := by decide +kernel
theorem dX6_noons_91 : decode cX6_noons 91 = .ok (.isub, 1) := by decide +kernel
theorem dX6_noons_92 : decode cX6_noons 92 = .ok (.ireturn, 1) := by decide +kernel
theorem dX6_move_0 : decode cX6_move 0 = .ok (.aload_n 0, 1) := by decide +kernel
theorem dX6_move_1 : decode cX6_move 1 = .ok (.getfield 26, 3) := by decide +kernel
theorem dX6_move_4 : decode cX6_move 4 = .ok (.iload_n 1, 1) := by decide +kernel
theorem dX6_move_5 : decode cX6_move 5 = .ok (.invokevirtual 153, 3) := by decide +kernel
theorem dX6_move_8 : decode cX6_move 8 = .ok (.ifCond .eq 10, 3) := by decide +kernel
theorem dX6_move_11 : decode cX6_move 11 = .ok (.iload_n 2, 1) := by decide +kernel
theorem dX6_move_12 : decode cX6_move 12 = .ok (.invokestatic 156, 3) := by decide +kernel
theorem dX6_move_15 : decode cX6_move 15 = .ok (.ifCond .ne 6, 3) := by decide +kernel
theorem dX6_move_18 : decode cX6_move 18 = .ok (.ldc 67, 2) := by decide +kernel
theorem dX6_move_20 : decode cX6_move 20 = .ok (.ireturn, 1) := by decide +kernel
theorem dX6_move_21 : decode cX6_move 21 = .ok (.aload_n 0, 1) := by decide +kernel
theorem dX6_move_22 : decode cX6_move 22 = .ok (.getfield 26, 3) := by decide +kernel
theorem dX6_move_25 : decode cX6_move 25 = .ok (.getfield 159, 3) := by decide +kernel
theorem dX6_move_28 : decode cX6_move 28 = .ok (.iload_n 1, 1) := by decide +kernel
theorem dX6_move_29 : decode cX6_move 29 = .ok (.iaload, 1) := by decide +kernel
theorem dX6_move_30 : decode cX6_move 30 = .ok (.istore_n 3, 1) := by decide +kernel
theorem dX6_move_31 : decode cX6_move 31 = .ok (.iload_n 3, 1) := by decide +kernel
theorem dX6_move_32 : decode cX6_move 32 = .ok (.iload_n 2, 1) := by decide +kernel
theorem dX6_move_33 : decode cX6_move 33 = .ok (.if_icmp .ne 6, 3) := by decide +kernel
theorem dX6_move_36 : decode cX6_move 36 = .ok (.ldc 137, 2) := by decide +kernel
theorem dX6_move_38 : decode cX6_move 38 = .ok (.ireturn, 1) := by decide +kernel
theorem dX6_move_39 : decode cX6_move 39 = .ok (.aload_n 0, 1) := by decide +kernel
theorem dX6_move_40 : decode cX6_move 40 = .ok (.getfield 33, 3) := by decide +kernel
theorem dX6_move_43 : decode cX6_move 43 = .ok (.aload_n 0, 1) := by decide +kernel
theorem dX6_move_44 : decode cX6_move 44 = .ok (.getfield 26, 3) := by decide +kernel
theorem dX6_move_47 : decode cX6_move 47 = .ok (.invokevirtual 147, 3) := by decide +kernel
theorem dX6_move_50 : decode cX6_move 50 = .ok (.aload_n 0, 1) := by decide +kernel
theorem dX6_move_51 : decode cX6_move 51 = .ok (.getfield 26, 3) := by decide +kernel
theorem dX6_move_54 : decode cX6_move 54 = .ok (.getfield 159, 3) := by decide +kernel
theorem dX6_move_57 : decode cX6_move 57 = .ok (.iload_n 1, 1) := by decide +kernel
theorem dX6_move_58 : decode cX6_move 58 = .ok (.iload_n 2, 1) := by decide +kernel
theorem dX6_move_59 : decode cX6_move 59 = .ok (.iastore, 1) := by decide +kernel
theorem dX6_move_60 : decode cX6_move 60 = .ok (.iload_n 3, 1) := by decide +kernel
theorem dX6_move_61 : decode cX6_move 61 = .ok (.ireturn, 1) := by decide +kernel
theorem dX6_write_0 : decode cX6_write 0 = .ok (.aload_n 0, 1) := by decide +kernel
theorem dX6_write_1 : decode cX6_write 1 = .ok (.getfield 26, 3) := by decide +kernel
theorem dX6_write_4 : decode cX6_write 4 = .ok (.iload_n 1, 1) := by decide +kernel
theorem dX6_write_5 : decode cX6_write 5 = .ok (.invokevirtual 153, 3) := by decide +kernel
theorem dX6_write_8 : decode cX6_write 8 = .ok (.ifCond .eq 13, 3) := by decide +kernel
theorem dX6_write_11 : decode cX6_write 11 = .ok (.iload_n 2, 1) := by decide +kernel
theorem dX6_write_12 : decode cX6_write 12 = .ok (.iconst 1, 1) := by decide +kernel
theorem dX6_write_13 : decode cX6_write 13 = .ok (.bipush 9, 2) := by decide +kernel
theorem dX6_write_15 : decode cX6_write 15 = .ok (.invokestatic 63, 3) := by decide +kernel
theorem dX6_write_18 : decode cX6_write 18 = .ok (.ifCond .ne 6, 3) := by decide +kernel
theorem dX6_write_21 : decode cX6_write 21 = .ok (.ldc 67, 2) := by decide +kernel
theorem dX6_write_23 : decode cX6_write 23 = .ok (.ireturn, 1) := by decide +kernel
theorem dX6_write_24 : decode cX6_write 24 = .ok (.aload_n 0, 1) := by decide +kernel
theorem dX6_write_25 : decode cX6_write 25 = .ok (.getfield 26, 3) := by decide +kernel
theorem dX6_write_28 : decode cX6_write 28 = .ok (.getfield 163, 3) := by decide +kernel
theorem dX6_write_31 : decode cX6_write 31 = .ok (.iload_n 1, 1) := by decide +kernel
theorem dX6_write_32 : decode cX6_write 32 = .ok (.iaload, 1) := by decide +kernel
theorem dX6_write_33 : decode cX6_write 33 = .ok (.istore_n 3, 1) := by decide +kernel
theorem dX6_write_34 : decode cX6_write 34 = .ok (.aload_n 0, 1) := by decide +kernel
theorem dX6_write_35 : decode cX6_write 35 = .ok (.getfield 33, 3) := by decide +kernel
theorem dX6_write_38 : decode cX6_write 38 = .ok (.aload_n 0, 1) := by decide +kernel
theorem dX6_write_39 : decode cX6_write 39 = .ok (.getfield 26, 3) := by decide +kernel
theorem dX6_write_42 : decode cX6_write 42 = .ok (.invokevirtual 147, 3) := by decide +kernel
theorem dX6_write_45 : decode cX6_write 45 = .ok (.aload_n 0, 1) := by decide +kernel
theorem dX6_write_46 : decode cX6_write 46 = .ok (.getfield 26, 3) := by decide +kernel
theorem dX6_write_49 : decode cX6_write 49 = .ok (.getfield 163, 3) := by decide +kernel
theorem dX6_write_52 : decode cX6_write 52 = .ok (.iload_n 1, 1) := by decide +kernel
theorem dX6_write_53 : decode cX6_write 53 = .ok (.iload_n 2, 1) := by decide +kernel
theorem dX6_write_54 : decode cX6_write 54 = .ok (.iastore, 1) := by decide +kernel
theorem dX6_write_55 : decode cX6_write 55 = .ok (.iload_n 3, 1) := by decide +kernel
theorem dX6_write_56 : decode cX6_write 56 = .ok (.ireturn, 1) := by decide +kernel
theorem dX6_hide_0 : decode cX6_hide 0 = .ok (.aload_n 0, 1) := by decide +kernel
theorem dX6_hide_1 : decode cX6_hide 1 = .ok (.getfield 26, 3) := by decide +kernel
theorem dX6_hide_4 : decode cX6_hide 4 = .ok (.iload_n 1, 1) := by decide +kernel
theorem dX6_hide_5 : decode cX6_hide 5 = .ok (.invokevirtual 153, 3) := by decide +kernel
theorem dX6_hide_8 : decode cX6_hide 8 = .ok (.ifCond .ne 6, 3) := by decide +kernel
theorem dX6_hide_11 : decode cX6_hide 11 = .ok (.ldc 67, 2) := by decide +kernel
theorem dX6_hide_13 : decode cX6_hide 13 = .ok (.ireturn, 1) := by decide +kernel
theorem dX6_hide_14 : decode cX6_hide 14 = .ok (.aload_n 0, 1) := by decide +kernel
theorem dX6_hide_15 : decode cX6_hide 15 = .ok (.getfield 33, 3) := by decide +kernel
theorem dX6_hide_18 : decode cX6_hide 18 = .ok (.aload_n 0, 1) := by decide +kernel
theorem dX6_hide_19 : decode cX6_hide 19 = .ok (.getfield 26, 3) := by decide +kernel
theorem dX6_hide_22 : decode cX6_hide 22 = .ok (.invokevirtual 147, 3) := by decide +kernel
theorem dX6_hide_25 : decode cX6_hide 25 = .ok (.aload_n 0, 1) := by decide +kernel
theorem dX6_hide_26 : decode cX6_hide 26 = .ok (.getfield 26, 3) := by decide +kernel
theorem dX6_hide_29 : decode cX6_hide 29 = .ok (.dup, 1) := by decide +kernel
theorem dX6_hide_30 : decode cX6_hide 30 = .ok (.getfield 166, 3) := by decide +kernel
theorem dX6_hide_33 : decode cX6_hide 33 = .ok (.iconst 1, 1) := by decide +kernel
theorem dX6_hide_34 : decode cX6_hide 34 = .ok (.iload_n 1, 1) := by decide +kernel
theorem dX6_hide_35 : decode cX6_hide 35 = .ok (.ishl, 1) := by decide +kernel
theorem dX6_hide_36 : decode cX6_hide 36 = .ok (.ixor, 1) := by decide +kernel
theorem dX6_hide_37 : decode cX6_hide 37 = .ok (.putfield 166, 3) := by decide +kernel
theorem dX6_hide_40 : decode cX6_hide 40 = .ok (.aload_n 0, 1) := by decide +kernel
theorem dX6_hide_41 : decode cX6_hide 41 = .ok (.getfield 26, 3) := by decide +kernel
theorem dX6_hide_44 : decode cX6_hide 44 = .ok (.iload_n 1, 1) := by decide +kernel
theorem dX6_hide_45 : decode cX6_hide 45 = .ok (.invokevirtual 169, 3) := by decide +kernel
theorem dX6_hide_48 : decode cX6_hide 48 = .ok (.ifCond .eq 7, 3) := by decide +kernel
theorem dX6_hide_51 : decode cX6_hide 51 = .ok (.iconst 1, 1) := by decide +kernel
theorem dX6_hide_52 : decode cX6_hide 52 = .ok (.goto 4, 3) := by decide +kernel
theorem dX6_hide_55 : decode cX6_hide 55 = .ok (.iconst 0, 1) := by decide +kernel
theorem dX6_hide_56 : decode cX6_hide 56 = .ok (.ireturn, 1) := by decide +kernel
theorem dX6_clock_0 : decode cX6_clock 0 = .ok (.aload_n 0, 1) := by decide +kernel
theorem dX6_clock_1 : decode cX6_clock 1 = .ok (.getfield 26, 3) := by decide +kernel
theorem dX6_clock_4 : decode cX6_clock 4 = .ok (.getfield 131, 3) := by decide +kernel
theorem dX6_clock_7 : decode cX6_clock 7 = .ok (.ifCond .ne 6, 3) := by decide +kernel
theorem dX6_clock_10 : decode cX6_clock 10 = .ok (.ldc 137, 2) := by decide +kernel
theorem dX6_clock_12 : decode cX6_clock 12 = .ok (.ireturn, 1) := by decide +kernel
theorem dX6_clock_13 : decode cX6_clock 13 = .ok (.iload_n 1, 1) := by decide +kernel
theorem dX6_clock_14 : decode cX6_clock 14 = .ok (.invokestatic 156, 3) := by decide +kernel
theorem dX6_clock_17 : decode cX6_clock 17 = .ok (.ifCond .ne 6, 3) := by decide +kernel
theorem dX6_clock_20 : decode cX6_clock 20 = .ok (.ldc 67, 2) := by decide +kernel
theorem dX6_clock_22 : decode cX6_clock 22 = .ok (.ireturn, 1) := by decide +kernel
theorem dX6_clock_23 : decode cX6_clock 23 = .ok (.aload_n 0, 1) := by decide +kernel
theorem dX6_clock_24 : decode cX6_clock 24 = .ok (.getfield 26, 3) := by decide +kernel
theorem dX6_clock_27 : decode cX6_clock 27 = .ok (.getfield 172, 3) := by decide +kernel
theorem dX6_clock_30 : decode cX6_clock 30 = .ok (.istore_n 2, 1) := by decide +kernel
theorem dX6_clock_31 : decode cX6_clock 31 = .ok (.iload_n 2, 1) := by decide +kernel
theorem dX6_clock_32 : decode cX6_clock 32 = .ok (.iload_n 1, 1) := by decide +kernel
theorem dX6_clock_33 : decode cX6_clock 33 = .ok (.if_icmp .ne 6, 3) := by decide +kernel
theorem dX6_clock_36 : decode cX6_clock 36 = .ok (.ldc 137, 2) := by decide +kernel
theorem dX6_clock_38 : decode cX6_clock 38 = .ok (.ireturn, 1) := by decide +kernel
theorem dX6_clock_39 : decode cX6_clock 39 = .ok (.aload_n 0, 1) := by decide +kernel
theorem dX6_clock_40 : decode cX6_clock 40 = .ok (.getfield 33, 3) := by decide +kernel
theorem dX6_clock_43 : decode cX6_clock 43 = .ok (.aload_n 0, 1) := by decide +kernel
theorem dX6_clock_44 : decode cX6_clock 44 = .ok (.getfield 26, 3) := by decide +kernel
theorem dX6_clock_47 : decode cX6_clock 47 = .ok (.invokevirtual 147, 3) := by decide +kernel
theorem dX6_clock_50 : decode cX6_clock 50 = .ok (.aload_n 0, 1) := by decide +kernel
theorem dX6_clock_51 : decode cX6_clock 51 = .ok (.getfield 26, 3) := by decide +kernel
theorem dX6_clock_54 : decode cX6_clock 54 = .ok (.iload_n 1, 1) := by decide +kernel
theorem dX6_clock_55 : decode cX6_clock 55 = .ok (.putfield 172, 3) := by decide +kernel
theorem dX6_clock_58 : decode cX6_clock 58 = .ok (.iload_n 2, 1) := by decide +kernel
theorem dX6_clock_59 : decode cX6_clock 59 = .ok (.ireturn, 1) := by decide +kernel
theorem dX6_paper_0 : decode cX6_paper 0 = .ok (.aload_n 0, 1) := by decide +kernel
theorem dX6_paper_1 : decode cX6_paper 1 = .ok (.getfield 26, 3) := by decide +kernel
theorem dX6_paper_4 : decode cX6_paper 4 = .ok (.iload_n 1, 1) := by decide +kernel
theorem dX6_paper_5 : decode cX6_paper 5 = .ok (.invokevirtual 153, 3) := by decide +kernel
theorem dX6_paper_8 : decode cX6_paper 8 = .ok (.ifCond .ne 6, 3) := by decide +kernel
theorem dX6_paper_11 : decode cX6_paper 11 = .ok (.ldc 67, 2) := by decide +kernel
theorem dX6_paper_13 : decode cX6_paper 13 = .ok (.ireturn, 1) := by decide +kernel
theorem dX6_paper_14 : decode cX6_paper 14 = .ok (.iload_n 2, 1) := by decide +kernel
theorem dX6_paper_15 : decode cX6_paper 15 = .ok (.tableswitch 89 0 4 #[33, 43, 53, 63, 72], 33) := by decide +kernel
theorem dX6_paper_48 : decode cX6_paper 48 = .ok (.aload_n 0, 1) := by decide +kernel
theorem dX6_paper_49 : decode cX6_paper 49 = .ok (.getfield 26, 3) := by decide +kernel
theorem dX6_paper_52 : decode cX6_paper 52 = .ok (.getfield 159, 3) := by decide +kernel
theorem dX6_paper_55 : decode cX6_paper 55 = .ok (.iload_n 1, 1) := by decide +kernel
theorem dX6_paper_56 : decode cX6_paper 56 = .ok (.iaload, 1) := by decide +kernel
theorem dX6_paper_57 : decode cX6_paper 57 = .ok (.ireturn, 1) := by decide +kernel
theorem dX6_paper_58 : decode cX6_paper 58 = .ok (.aload_n 0, 1) := by decide +kernel
theorem dX6_paper_59 : decode cX6_paper 59 = .ok (.getfield 26, 3) := by decide +kernel
theorem dX6_paper_62 : decode cX6_paper 62 = .ok (.getfield 175, 3) := by decide +kernel
theorem dX6_paper_65 : decode cX6_paper 65 = .ok (.iload_n 1, 1) := by decide +kernel
theorem dX6_paper_66 : decode cX6_paper 66 = .ok (.iaload, 1) := by decide +kernel
theorem dX6_paper_67 : decode cX6_paper 67 = .ok (.ireturn, 1) := by decide +kernel
theorem dX6_paper_68 : decode cX6_paper 68 = .ok (.aload_n 0, 1) := by decide +kernel
theorem dX6_paper_69 : decode cX6_paper 69 = .ok (.getfield 26, 3) := by decide +kernel
theorem dX6_paper_72 : decode cX6_paper 72 = .ok (.getfield 163, 3) := by decide +kernel
theorem dX6_paper_75 : decode cX6_paper 75 = .ok (.iload_n 1, 1) := by decide +kernel
theorem dX6_paper_76 : decode cX6_paper 76 = .ok (.iaload, 1) := by decide +kernel
theorem dX6_paper_77 : decode cX6_paper 77 = .ok (.ireturn, 1) := by decide +kernel
theorem dX6_paper_78 : decode cX6_paper 78 = .ok (.aload_n 0, 1) := by decide +kernel
theorem dX6_paper_79 : decode cX6_paper 79 = .ok (.getfield 26, 3) := by decide +kernel
theorem dX6_paper_82 : decode cX6_paper 82 = .ok (.iload_n 1, 1) := by decide +kernel
theorem dX6_paper_83 : decode cX6_paper 83 = .ok (.invokevirtual 178, 3) := by decide +kernel
theorem dX6_paper_86 : decode cX6_paper 86 = .ok (.ireturn, 1) := by decide +kernel
theorem dX6_paper_87 : decode cX6_paper 87 = .ok (.aload_n 0, 1) := by decide +kernel
theorem dX6_paper_88 : decode cX6_paper 88 = .ok (.getfield 26, 3) := by decide +kernel
theorem dX6_paper_91 : decode cX6_paper 91 = .ok (.iload_n 1, 1) := by decide +kernel
theorem dX6_paper_92 : decode cX6_paper 92 = .ok (.invokevirtual 169, 3) := by decide +kernel
theorem dX6_paper_95 : decode cX6_paper 95 = .ok (.ifCond .eq 7, 3) := by decide +kernel
theorem dX6_paper_98 : decode cX6_paper 98 = .ok (.iconst 1, 1) := by decide +kernel
theorem dX6_paper_99 : decode cX6_paper 99 = .ok (.goto 4, 3) := by decide +kernel
theorem dX6_paper_102 : decode cX6_paper 102 = .ok (.iconst 0, 1) := by decide +kernel
theorem dX6_paper_103 : decode cX6_paper 103 = .ok (.ireturn, 1) := by decide +kernel
theorem dX6_paper_104 : decode cX6_paper 104 = .ok (.ldc 67, 2) := by decide +kernel
theorem dX6_paper_106 : decode cX6_paper 106 = .ok (.ireturn, 1) := by decide +kernel
theorem dX6_stand_0 : decode cX6_stand 0 = .ok (.aload_n 0, 1) := by decide +kernel
theorem dX6_stand_1 : decode cX6_stand 1 = .ok (.getfield 26, 3) := by decide +kernel
theorem dX6_stand_4 : decode cX6_stand 4 = .ok (.getfield 131, 3) := by decide +kernel
theorem dX6_stand_7 : decode cX6_stand 7 = .ok (.ifCond .ne 6, 3) := by decide +kernel
theorem dX6_stand_10 : decode cX6_stand 10 = .ok (.ldc 137, 2) := by decide +kernel
theorem dX6_stand_12 : decode cX6_stand 12 = .ok (.ireturn, 1) := by decide +kernel
theorem dX6_stand_13 : decode cX6_stand 13 = .ok (.iload_n 1, 1) := by decide +kernel
theorem dX6_stand_14 : decode cX6_stand 14 = .ok (.tableswitch 98 0 6 #[42, 50, 58, 66, 74, 82, 90], 42) := by decide +kernel
theorem dX6_stand_56 : decode cX6_stand 56 = .ok (.aload_n 0, 1) := by decide +kernel
theorem dX6_stand_57 : decode cX6_stand 57 = .ok (.getfield 26, 3) := by decide +kernel
theorem dX6_stand_60 : decode cX6_stand 60 = .ok (.getfield 131, 3) := by decide +kernel
theorem dX6_stand_63 : decode cX6_stand 63 = .ok (.ireturn, 1) := by decide +kernel
theorem dX6_stand_64 : decode cX6_stand 64 = .ok (.aload_n 0, 1) := by decide +kernel
theorem dX6_stand_65 : decode cX6_stand 65 = .ok (.getfield 26, 3) := by decide +kernel
theorem dX6_stand_68 : decode cX6_stand 68 = .ok (.getfield 172, 3) := by decide +kernel
theorem dX6_stand_71 : decode cX6_stand 71 = .ok (.ireturn, 1) := by decide +kernel
theorem dX6_stand_72 : decode cX6_stand 72 = .ok (.aload_n 0, 1) := by decide +kernel
theorem dX6_stand_73 : decode cX6_stand 73 = .ok (.getfield 26, 3) := by decide +kernel
theorem dX6_stand_76 : decode cX6_stand 76 = .ok (.getfield 181, 3) := by decide +kernel
theorem dX6_stand_79 : decode cX6_stand 79 = .ok (.ireturn, 1) := by decide +kernel
theorem dX6_stand_80 : decode cX6_stand 80 = .ok (.aload_n 0, 1) := by decide +kernel
theorem dX6_stand_81 : decode cX6_stand 81 = .ok (.getfield 26, 3) := by decide +kernel
theorem dX6_stand_84 : decode cX6_stand 84 = .ok (.getfield 184, 3) := by decide +kernel
theorem dX6_stand_87 : decode cX6_stand 87 = .ok (.ireturn, 1) := by decide +kernel
theorem dX6_stand_88 : decode cX6_stand 88 = .ok (.aload_n 0, 1) := by decide +kernel
theorem dX6_stand_89 : decode cX6_stand 89 = .ok (.getfield 26, 3) := by decide +kernel
theorem dX6_stand_92 : decode cX6_stand 92 = .ok (.invokevirtual 187, 3) := by decide +kernel
theorem dX6_stand_95 : decode cX6_stand 95 = .ok (.ireturn, 1) := by decide +kernel
theorem dX6_stand_96 : decode cX6_stand 96 = .ok (.aload_n 0, 1) := by decide +kernel
theorem dX6_stand_97 : decode cX6_stand 97 = .ok (.getfield 26, 3) := by decide +kernel
theorem dX6_stand_100 : decode cX6_stand 100 = .ok (.getfield 166, 3) := by decide +kernel
theorem dX6_stand_103 : decode cX6_stand 103 = .ok (.ireturn, 1) := by decide +kernel
theorem dX6_stand_104 : decode cX6_stand 104 = .ok (.aload_n 0, 1) := by decide +kernel
theorem dX6_stand_105 : decode cX6_stand 105 = .ok (.getfield 26, 3) := by decide +kernel
theorem dX6_stand_108 : decode cX6_stand 108 = .ok (.invokevirtual 191, 3) := by decide +kernel
theorem dX6_stand_111 : decode cX6_stand 111 = .ok (.ireturn, 1) := by decide +kernel
theorem dX6_stand_112 : decode cX6_stand 112 = .ok (.ldc 67, 2) := by decide +kernel
theorem dX6_stand_114 : decode cX6_stand 114 = .ok (.ireturn, 1) := by decide +kernel
theorem dX6_ahead_0 : decode cX6_ahead 0 = .ok (.aload_n 0, 1) := by decide +kernel
theorem dX6_ahead_1 : decode cX6_ahead 1 = .ok (.getfield 26, 3) := by decide +kernel
theorem dX6_ahead_4 : decode cX6_ahead 4 = .ok (.iload_n 1, 1) := by decide +kernel
theorem dX6_ahead_5 : decode cX6_ahead 5 = .ok (.invokevirtual 153, 3) := by decide +kernel
theorem dX6_ahead_8 : decode cX6_ahead 8 = .ok (.ifCond .eq 22, 3) := by decide +kernel
theorem dX6_ahead_11 : decode cX6_ahead 11 = .ok (.iload_n 2, 1) := by decide +kernel
theorem dX6_ahead_12 : decode cX6_ahead 12 = .ok (.iconst 0, 1) := by decide +kernel
theorem dX6_ahead_13 : decode cX6_ahead 13 = .ok (.bipush 60, 2) := by decide +kernel
theorem dX6_ahead_15 : decode cX6_ahead 15 = .ok (.invokestatic 63, 3) := by decide +kernel
theorem dX6_ahead_18 : decode cX6_ahead 18 = .ok (.ifCond .eq 12, 3) := by decide +kernel
theorem dX6_ahead_21 : decode cX6_ahead 21 = .ok (.iload_n 3, 1) := by decide +kernel
theorem dX6_ahead_22 : decode cX6_ahead 22 = .ok (.iconst 0, 1) := by decide +kernel
theorem dX6_ahead_23 : decode cX6_ahead 23 = .ok (.iconst 1, 1) := by decide +kernel
theorem dX6_ahead_24 : decode cX6_ahead 24 = .ok (.invokestatic 63, 3) := by decide +kernel
theorem dX6_ahead_27 : decode cX6_ahead 27 = .ok (.ifCond .ne 6, 3) := by decide +kernel
theorem dX6_ahead_30 : decode cX6_ahead 30 = .ok (.ldc 67, 2) := by decide +kernel
theorem dX6_ahead_32 : decode cX6_ahead 32 = .ok (.ireturn, 1) := by decide +kernel
theorem dX6_ahead_33 : decode cX6_ahead 33 = .ok (.aload_n 0, 1) := by decide +kernel
theorem dX6_ahead_34 : decode cX6_ahead 34 = .ok (.getfield 48, 3) := by decide +kernel
theorem dX6_ahead_37 : decode cX6_ahead 37 = .ok (.iload_n 2, 1) := by decide +kernel
theorem dX6_ahead_38 : decode cX6_ahead 38 = .ok (.invokevirtual 194, 3) := by decide +kernel
theorem dX6_ahead_41 : decode cX6_ahead 41 = .ok (.astore 4, 2) := by decide +kernel
theorem dX6_ahead_43 : decode cX6_ahead 43 = .ok (.iload_n 3, 1) := by decide +kernel
theorem dX6_ahead_44 : decode cX6_ahead 44 = .ok (.ifCond .ne 13, 3) := by decide +kernel
theorem dX6_ahead_47 : decode cX6_ahead 47 = .ok (.aload 4, 2) := by decide +kernel
theorem dX6_ahead_49 : decode cX6_ahead 49 = .ok (.getfield 163, 3) := by decide +kernel
theorem dX6_ahead_52 : decode cX6_ahead 52 = .ok (.iload_n 1, 1) := by decide +kernel
theorem dX6_ahead_53 : decode cX6_ahead 53 = .ok (.iaload, 1) := by decide +kernel
theorem dX6_ahead_54 : decode cX6_ahead 54 = .ok (.goto 10, 3) := by decide +kernel
theorem dX6_ahead_57 : decode cX6_ahead 57 = .ok (.aload 4, 2) := by decide +kernel
theorem dX6_ahead_59 : decode cX6_ahead 59 = .ok (.getfield 159, 3) := by decide +kernel
theorem dX6_ahead_62 : decode cX6_ahead 62 = .ok (.iload_n 1, 1) := by decide +kernel
theorem dX6_ahead_63 : decode cX6_ahead 63 = .ok (.iaload, 1) := by decide +kernel
theorem dX6_ahead_64 : decode cX6_ahead 64 = .ok (.ireturn, 1) := by decide +kernel
theorem dX6_bitten_0 : decode cX6_bitten 0 = .ok (.aload_n 0, 1) := by decide +kernel
theorem dX6_bitten_1 : decode cX6_bitten 1 = .ok (.getfield 26, 3) := by decide +kernel
theorem dX6_bitten_4 : decode cX6_bitten 4 = .ok (.getfield 131, 3) := by decide +kernel
theorem dX6_bitten_7 : decode cX6_bitten 7 = .ok (.ifCond .ne 6, 3) := by decide +kernel
theorem dX6_bitten_10 : decode cX6_bitten 10 = .ok (.ldc 137, 2) := by decide +kernel
theorem dX6_bitten_12 : decode cX6_bitten 12 = .ok (.ireturn, 1) := by decide +kernel
theorem dX6_bitten_13 : decode cX6_bitten 13 = .ok (.iload_n 1, 1) := by decide +kernel
theorem dX6_bitten_14 : decode cX6_bitten 14 = .ok (.iconst 1, 1) := by decide +kernel
theorem dX6_bitten_15 : decode cX6_bitten 15 = .ok (.bipush 60, 2) := by decide +kernel
theorem dX6_bitten_17 : decode cX6_bitten 17 = .ok (.invokestatic 63, 3) := by decide +kernel
theorem dX6_bitten_20 : decode cX6_bitten 20 = .ok (.ifCond .eq 12, 3) := by decide +kernel
theorem dX6_bitten_23 : decode cX6_bitten 23 = .ok (.iload_n 2, 1) := by decide +kernel
theorem dX6_bitten_24 : decode cX6_bitten 24 = .ok (.iconst 0, 1) := by decide +kernel
theorem dX6_bitten_25 : decode cX6_bitten 25 = .ok (.iconst 1, 1) := by decide +kernel
theorem dX6_bitten_26 : decode cX6_bitten 26 = .ok (.invokestatic 63, 3) := by decide +kernel
theorem dX6_bitten_29 : decode cX6_bitten 29 = .ok (.ifCond .ne 6, 3) := by decide +kernel
theorem dX6_bitten_32 : decode cX6_bitten 32 = .ok (.ldc 67, 2) := by decide +kernel
theorem dX6_bitten_34 : decode cX6_bitten 34 = .ok (.ireturn, 1) := by decide +kernel
theorem dX6_bitten_35 : decode cX6_bitten 35 = .ok (.aload_n 0, 1) := by decide +kernel
theorem dX6_bitten_36 : decode cX6_bitten 36 = .ok (.getfield 48, 3) := by decide +kernel
theorem dX6_bitten_39 : decode cX6_bitten 39 = .ok (.iload_n 1, 1) := by decide +kernel
theorem dX6_bitten_40 : decode cX6_bitten 40 = .ok (.invokevirtual 194, 3) := by decide +kernel
theorem dX6_bitten_43 : decode cX6_bitten 43 = .ok (.astore_n 3, 1) := by decide +kernel
theorem dX6_bitten_44 : decode cX6_bitten 44 = .ok (.iload_n 2, 1) := by decide +kernel
theorem dX6_bitten_45 : decode cX6_bitten 45 = .ok (.ifCond .ne 10, 3) := by decide +kernel
theorem dX6_bitten_48 : decode cX6_bitten 48 = .ok (.aload_n 3, 1) := by decide +kernel
theorem dX6_bitten_49 : decode cX6_bitten 49 = .ok (.getfield 198, 3) := by decide +kernel
theorem dX6_bitten_52 : decode cX6_bitten 52 = .ok (.goto 7, 3) := by decide +kernel
theorem dX6_bitten_55 : decode cX6_bitten 55 = .ok (.aload_n 3, 1) := by decide +kernel
theorem dX6_bitten_56 : decode cX6_bitten 56 = .ok (.getfield 201, 3) := by decide +kernel
theorem dX6_bitten_59 : decode cX6_bitten 59 = .ok (.ireturn, 1) := by decide +kernel
theorem dX6_left_0 : decode cX6_left 0 = .ok (.aload_n 0, 1) := by decide +kernel
theorem dX6_left_1 : decode cX6_left 1 = .ok (.getfield 26, 3) := by decide +kernel
theorem dX6_left_4 : decode cX6_left 4 = .ok (.getfield 131, 3) := by decide +kernel
theorem dX6_left_7 : decode cX6_left 7 = .ok (.ifCond .ne 6, 3) := by decide +kernel
theorem dX6_left_10 : decode cX6_left 10 = .ok (.ldc 137, 2) := by decide +kernel
theorem dX6_left_12 : decode cX6_left 12 = .ok (.ireturn, 1) := by decide +kernel
theorem dX6_left_13 : decode cX6_left 13 = .ok (.iload_n 1, 1) := by decide +kernel
theorem dX6_left_14 : decode cX6_left 14 = .ok (.iconst 0, 1) := by decide +kernel
theorem dX6_left_15 : decode cX6_left 15 = .ok (.bipush 60, 2) := by decide +kernel
theorem dX6_left_17 : decode cX6_left 17 = .ok (.invokestatic 63, 3) := by decide +kernel
theorem dX6_left_20 : decode cX6_left 20 = .ok (.ifCond .eq 12, 3) := by decide +kernel
theorem dX6_left_23 : decode cX6_left 23 = .ok (.iload_n 2, 1) := by decide +kernel
theorem dX6_left_24 : decode cX6_left 24 = .ok (.iconst 0, 1) := by decide +kernel
theorem dX6_left_25 : decode cX6_left 25 = .ok (.iconst 2, 1) := by decide +kernel
theorem dX6_left_26 : decode cX6_left 26 = .ok (.invokestatic 63, 3) := by decide +kernel
theorem dX6_left_29 : decode cX6_left 29 = .ok (.ifCond .ne 6, 3) := by decide +kernel
theorem dX6_left_32 : decode cX6_left 32 = .ok (.ldc 67, 2) := by decide +kernel
theorem dX6_left_34 : decode cX6_left 34 = .ok (.ireturn, 1) := by decide +kernel
theorem dX6_left_35 : decode cX6_left 35 = .ok (.aload_n 0, 1) := by decide +kernel
theorem dX6_left_36 : decode cX6_left 36 = .ok (.getfield 48, 3) := by decide +kernel
theorem dX6_left_39 : decode cX6_left 39 = .ok (.iload_n 1, 1) := by decide +kernel
theorem dX6_left_40 : decode cX6_left 40 = .ok (.invokevirtual 194, 3) := by decide +kernel
theorem dX6_left_43 : decode cX6_left 43 = .ok (.astore_n 3, 1) := by decide +kernel
theorem dX6_left_44 : decode cX6_left 44 = .ok (.iload_n 2, 1) := by decide +kernel
theorem dX6_left_45 : decode cX6_left 45 = .ok (.lookupswitch 37 #[(0, 27), (1, 32)], 27) := by decide +kernel
theorem dX6_left_72 : decode cX6_left 72 = .ok (.aload_n 3, 1) := by decide +kernel
theorem dX6_left_73 : decode cX6_left 73 = .ok (.invokevirtual 204, 3) := by decide +kernel
theorem dX6_left_76 : decode cX6_left 76 = .ok (.ireturn, 1) := by decide +kernel
theorem dX6_left_77 : decode cX6_left 77 = .ok (.aload_n 3, 1) := by decide +kernel
theorem dX6_left_78 : decode cX6_left 78 = .ok (.invokevirtual 187, 3) := by decide +kernel
theorem dX6_left_81 : decode cX6_left 81 = .ok (.ireturn, 1) := by decide +kernel
theorem dX6_left_82 : decode cX6_left 82 = .ok (.aload_n 3, 1) := by decide +kernel
theorem dX6_left_83 : decode cX6_left 83 = .ok (.getfield 172, 3) := by decide +kernel
theorem dX6_left_86 : decode cX6_left 86 = .ok (.ireturn, 1) := by decide +kernel
theorem dX6_when_0 : decode cX6_when 0 = .ok (.aload_n 0, 1) := by decide +kernel
theorem dX6_when_1 : decode cX6_when 1 = .ok (.getfield 26, 3) := by decide +kernel
theorem dX6_when_4 : decode cX6_when 4 = .ok (.iload_n 1, 1) := by decide +kernel
theorem dX6_when_5 : decode cX6_when 5 = .ok (.invokevirtual 153, 3) := by decide +kernel
theorem dX6_when_8 : decode cX6_when 8 = .ok (.ifCond .eq 12, 3) := by decide +kernel
theorem dX6_when_11 : decode cX6_when 11 = .ok (.iload_n 2, 1) := by decide +kernel
theorem dX6_when_12 : decode cX6_when 12 = .ok (.iconst 0, 1) := by decide +kernel
theorem dX6_when_13 : decode cX6_when 13 = .ok (.iconst 1, 1) := by decide +kernel
theorem dX6_when_14 : decode cX6_when 14 = .ok (.invokestatic 63, 3) := by decide +kernel
theorem dX6_when_17 : decode cX6_when 17 = .ok (.ifCond .ne 6, 3) := by decide +kernel
theorem dX6_when_20 : decode cX6_when 20 = .ok (.ldc 67, 2) := by decide +kernel
theorem dX6_when_22 : decode cX6_when 22 = .ok (.ireturn, 1) := by decide +kernel
theorem dX6_when_23 : decode cX6_when 23 = .ok (.iload_n 2, 1) := by decide +kernel
theorem dX6_when_24 : decode cX6_when 24 = .ok (.ifCond .ne 14, 3) := by decide +kernel
theorem dX6_when_27 : decode cX6_when 27 = .ok (.aload_n 0, 1) := by decide +kernel
theorem dX6_when_28 : decode cX6_when 28 = .ok (.getfield 48, 3) := by decide +kernel
theorem dX6_when_31 : decode cX6_when 31 = .ok (.iload_n 1, 1) := by decide +kernel
theorem dX6_when_32 : decode cX6_when 32 = .ok (.invokevirtual 207, 3) := by decide +kernel
theorem dX6_when_35 : decode cX6_when 35 = .ok (.goto 13, 3) := by decide +kernel
theorem dX6_when_38 : decode cX6_when 38 = .ok (.aload_n 0, 1) := by decide +kernel
theorem dX6_when_39 : decode cX6_when 39 = .ok (.getfield 48, 3) := by decide +kernel
theorem dX6_when_42 : decode cX6_when 42 = .ok (.iconst 1, 1) := by decide +kernel
theorem dX6_when_43 : decode cX6_when 43 = .ok (.iload_n 1, 1) := by decide +kernel
theorem dX6_when_44 : decode cX6_when 44 = .ok (.ishl, 1) := by decide +kernel
theorem dX6_when_45 : decode cX6_when 45 = .ok (.invokevirtual 210, 3) := by decide +kernel
theorem dX6_when_48 : decode cX6_when 48 = .ok (.ireturn, 1) := by decide +kernel
theorem dX6_over_0 : decode cX6_over 0 = .ok (.aload_n 0, 1) := by decide +kernel
theorem dX6_over_1 : decode cX6_over 1 = .ok (.getfield 26, 3) := by decide +kernel
theorem dX6_over_4 : decode cX6_over 4 = .ok (.getfield 131, 3) := by decide +kernel
theorem dX6_over_7 : decode cX6_over 7 = .ok (.ifCond .ne 6, 3) := by decide +kernel
theorem dX6_over_10 : decode cX6_over 10 = .ok (.ldc 137, 2) := by decide +kernel
theorem dX6_over_12 : decode cX6_over 12 = .ok (.ireturn, 1) := by decide +kernel
theorem dX6_over_13 : decode cX6_over 13 = .ok (.aload_n 0, 1) := by decide +kernel
theorem dX6_over_14 : decode cX6_over 14 = .ok (.getfield 48, 3) := by decide +kernel
theorem dX6_over_17 : decode cX6_over 17 = .ok (.aload_n 0, 1) := by decide +kernel
theorem dX6_over_18 : decode cX6_over 18 = .ok (.getfield 26, 3) := by decide +kernel
theorem dX6_over_21 : decode cX6_over 21 = .ok (.invokevirtual 213, 3) := by decide +kernel
theorem dX6_over_24 : decode cX6_over 24 = .ok (.invokevirtual 210, 3) := by decide +kernel
theorem dX6_over_27 : decode cX6_over 27 = .ok (.ireturn, 1) := by decide +kernel
theorem dX6_spot_0 : decode cX6_spot 0 = .ok (.aload_n 0, 1) := by decide +kernel
theorem dX6_spot_1 : decode cX6_spot 1 = .ok (.getfield 26, 3) := by decide +kernel
theorem dX6_spot_4 : decode cX6_spot 4 = .ok (.iload_n 1, 1) := by decide +kernel
theorem dX6_spot_5 : decode cX6_spot 5 = .ok (.invokevirtual 153, 3) := by decide +kernel
theorem dX6_spot_8 : decode cX6_spot 8 = .ok (.ifCond .eq 22, 3) := by decide +kernel
theorem dX6_spot_11 : decode cX6_spot 11 = .ok (.iload_n 2, 1) := by decide +kernel
theorem dX6_spot_12 : decode cX6_spot 12 = .ok (.iconst 1, 1) := by decide +kernel
theorem dX6_spot_13 : decode cX6_spot 13 = .ok (.bipush 60, 2) := by decide +kernel
theorem dX6_spot_15 : decode cX6_spot 15 = .ok (.invokestatic 63, 3) := by decide +kernel
theorem dX6_spot_18 : decode cX6_spot 18 = .ok (.ifCond .eq 12, 3) := by decide +kernel
theorem dX6_spot_21 : decode cX6_spot 21 = .ok (.iload_n 3, 1) := by decide +kernel
theorem dX6_spot_22 : decode cX6_spot 22 = .ok (.iconst 0, 1) := by decide +kernel
theorem dX6_spot_23 : decode cX6_spot 23 = .ok (.iconst 1, 1) := by decide +kernel
theorem dX6_spot_24 : decode cX6_spot 24 = .ok (.invokestatic 63, 3) := by decide +kernel
theorem dX6_spot_27 : decode cX6_spot 27 = .ok (.ifCond .ne 6, 3) := by decide +kernel
theorem dX6_spot_30 : decode cX6_spot 30 = .ok (.ldc 67, 2) := by decide +kernel
theorem dX6_spot_32 : decode cX6_spot 32 = .ok (.ireturn, 1) := by decide +kernel
theorem dX6_spot_33 : decode cX6_spot 33 = .ok (.aload_n 0, 1) := by decide +kernel
theorem dX6_spot_34 : decode cX6_spot 34 = .ok (.getfield 48, 3) := by decide +kernel
theorem dX6_spot_37 : decode cX6_spot 37 = .ok (.iload_n 1, 1) := by decide +kernel
theorem dX6_spot_38 : decode cX6_spot 38 = .ok (.iload_n 2, 1) := by decide +kernel
theorem dX6_spot_39 : decode cX6_spot 39 = .ok (.invokevirtual 216, 3) := by decide +kernel
theorem dX6_spot_42 : decode cX6_spot 42 = .ok (.istore 4, 2) := by decide +kernel
theorem dX6_spot_44 : decode cX6_spot 44 = .ok (.iload_n 3, 1) := by decide +kernel
theorem dX6_spot_45 : decode cX6_spot 45 = .ok (.ifCond .ne 8, 3) := by decide +kernel
theorem dX6_spot_48 : decode cX6_spot 48 = .ok (.iload 4, 2) := by decide +kernel
theorem dX6_spot_50 : decode cX6_spot 50 = .ok (.goto 14, 3) := by decide +kernel
theorem dX6_spot_53 : decode cX6_spot 53 = .ok (.aload_n 0, 1) := by decide +kernel
theorem dX6_spot_54 : decode cX6_spot 54 = .ok (.getfield 48, 3) := by decide +kernel
theorem dX6_spot_57 : decode cX6_spot 57 = .ok (.iload_n 1, 1) := by decide +kernel
theorem dX6_spot_58 : decode cX6_spot 58 = .ok (.iload 4, 2) := by decide +kernel
theorem dX6_spot_60 : decode cX6_spot 60 = .ok (.iload_n 2, 1) := by decide +kernel
theorem dX6_spot_61 : decode cX6_spot 61 = .ok (.invokevirtual 220, 3) := by decide +kernel
theorem dX6_spot_64 : decode cX6_spot 64 = .ok (.ireturn, 1) := by decide +kernel
theorem dX6_decoy_0 : decode cX6_decoy 0 = .ok (.aload_n 0, 1) := by decide +kernel
theorem dX6_decoy_1 : decode cX6_decoy 1 = .ok (.getfield 26, 3) := by decide +kernel
theorem dX6_decoy_4 : decode cX6_decoy 4 = .ok (.iload_n 1, 1) := by decide +kernel
theorem dX6_decoy_5 : decode cX6_decoy 5 = .ok (.invokevirtual 153, 3) := by decide +kernel
theorem dX6_decoy_8 : decode cX6_decoy 8 = .ok (.ifCond .eq 29, 3) := by decide +kernel
theorem dX6_decoy_11 : decode cX6_decoy 11 = .ok (.aload_n 0, 1) := by decide +kernel
theorem dX6_decoy_12 : decode cX6_decoy 12 = .ok (.getfield 26, 3) := by decide +kernel
theorem dX6_decoy_15 : decode cX6_decoy 15 = .ok (.iload_n 2, 1) := by decide +kernel
theorem dX6_decoy_16 : decode cX6_decoy 16 = .ok (.invokevirtual 153, 3) := by decide +kernel
theorem dX6_decoy_19 : decode cX6_decoy 19 = .ok (.ifCond .eq 18, 3) := by decide +kernel
theorem dX6_decoy_22 : decode cX6_decoy 22 = .ok (.iload_n 1, 1) := by decide +kernel
theorem dX6_decoy_23 : decode cX6_decoy 23 = .ok (.iload_n 2, 1) := by decide +kernel
theorem dX6_decoy_24 : decode cX6_decoy 24 = .ok (.if_icmp .eq 13, 3) := by decide +kernel
theorem dX6_decoy_27 : decode cX6_decoy 27 = .ok (.iload_n 3, 1) := by decide +kernel
theorem dX6_decoy_28 : decode cX6_decoy 28 = .ok (.iconst 1, 1) := by decide +kernel
theorem dX6_decoy_29 : decode cX6_decoy 29 = .ok (.bipush 40, 2) := by decide +kernel
theorem dX6_decoy_31 : decode cX6_decoy 31 = .ok (.invokestatic 63, 3) := by decide +kernel
theorem dX6_decoy_34 : decode cX6_decoy 34 = .ok (.ifCond .ne 6, 3) := by decide +kernel
theorem dX6_decoy_37 : decode cX6_decoy 37 = .ok (.ldc 67, 2) := by decide +kernel
theorem dX6_decoy_39 : decode cX6_decoy 39 = .ok (.ireturn, 1) := by decide +kernel
theorem dX6_decoy_40 : decode cX6_decoy 40 = .ok (.aload_n 0, 1) := by decide +kernel
theorem dX6_decoy_41 : decode cX6_decoy 41 = .ok (.getfield 48, 3) := by decide +kernel
theorem dX6_decoy_44 : decode cX6_decoy 44 = .ok (.iload_n 1, 1) := by decide +kernel
theorem dX6_decoy_45 : decode cX6_decoy 45 = .ok (.iload_n 2, 1) := by decide +kernel
theorem dX6_decoy_46 : decode cX6_decoy 46 = .ok (.iload_n 3, 1) := by decide +kernel
theorem dX6_decoy_47 : decode cX6_decoy 47 = .ok (.invokevirtual 223, 3) := by decide +kernel
theorem dX6_decoy_50 : decode cX6_decoy 50 = .ok (.ireturn, 1) := by decide +kernel
theorem dX6_hides_0 : decode cX6_hides 0 = .ok (.aload_n 0, 1) := by decide +kernel
theorem dX6_hides_1 : decode cX6_hides 1 = .ok (.getfield 26, 3) := by decide +kernel
theorem dX6_hides_4 : decode cX6_hides 4 = .ok (.getfield 131, 3) := by decide +kernel
theorem dX6_hides_7 : decode cX6_hides 7 = .ok (.ifCond .ne 6, 3) := by decide +kernel
theorem dX6_hides_10 : decode cX6_hides 10 = .ok (.ldc 137, 2) := by decide +kernel
theorem dX6_hides_12 : decode cX6_hides 12 = .ok (.ireturn, 1) := by decide +kernel
theorem dX6_hides_13 : decode cX6_hides 13 = .ok (.iload_n 1, 1) := by decide +kernel
theorem dX6_hides_14 : decode cX6_hides 14 = .ok (.iconst 1, 1) := by decide +kernel
theorem dX6_hides_15 : decode cX6_hides 15 = .ok (.bipush 40, 2) := by decide +kernel
theorem dX6_hides_17 : decode cX6_hides 17 = .ok (.invokestatic 63, 3) := by decide +kernel
theorem dX6_hides_20 : decode cX6_hides 20 = .ok (.ifCond .eq 12, 3) := by decide +kernel
theorem dX6_hides_23 : decode cX6_hides 23 = .ok (.iload_n 2, 1) := by decide +kernel
theorem dX6_hides_24 : decode cX6_hides 24 = .ok (.iconst 0, 1) := by decide +kernel
theorem dX6_hides_25 : decode cX6_hides 25 = .ok (.iconst 1, 1) := by decide +kernel
theorem dX6_hides_26 : decode cX6_hides 26 = .ok (.invokestatic 63, 3) := by decide +kernel
theorem dX6_hides_29 : decode cX6_hides 29 = .ok (.ifCond .ne 6, 3) := by decide +kernel
theorem dX6_hides_32 : decode cX6_hides 32 = .ok (.ldc 67, 2) := by decide +kernel
theorem dX6_hides_34 : decode cX6_hides 34 = .ok (.ireturn, 1) := by decide +kernel
theorem dX6_hides_35 : decode cX6_hides 35 = .ok (.aload_n 0, 1) := by decide +kernel
theorem dX6_hides_36 : decode cX6_hides 36 = .ok (.getfield 48, 3) := by decide +kernel
theorem dX6_hides_39 : decode cX6_hides 39 = .ok (.iload_n 1, 1) := by decide +kernel
theorem dX6_hides_40 : decode cX6_hides 40 = .ok (.invokevirtual 226, 3) := by decide +kernel
theorem dX6_hides_43 : decode cX6_hides 43 = .ok (.istore_n 3, 1) := by decide +kernel
theorem dX6_hides_44 : decode cX6_hides 44 = .ok (.iload_n 2, 1) := by decide +kernel
theorem dX6_hides_45 : decode cX6_hides 45 = .ok (.ifCond .ne 10, 3) := by decide +kernel
theorem dX6_hides_48 : decode cX6_hides 48 = .ok (.iload_n 3, 1) := by decide +kernel
theorem dX6_hides_49 : decode cX6_hides 49 = .ok (.invokestatic 229, 3) := by decide +kernel
theorem dX6_hides_52 : decode cX6_hides 52 = .ok (.goto 4, 3) := by decide +kernel
theorem dX6_hides_55 : decode cX6_hides 55 = .ok (.iload_n 3, 1) := by decide +kernel
theorem dX6_hides_56 : decode cX6_hides 56 = .ok (.ireturn, 1) := by decide +kernel
theorem dX6_sets_0 : decode cX6_sets 0 = .ok (.aload_n 0, 1) := by decide +kernel
theorem dX6_sets_1 : decode cX6_sets 1 = .ok (.getfield 26, 3) := by decide +kernel
theorem dX6_sets_4 : decode cX6_sets 4 = .ok (.getfield 131, 3) := by decide +kernel
theorem dX6_sets_7 : decode cX6_sets 7 = .ok (.ifCond .ne 6, 3) := by decide +kernel
theorem dX6_sets_10 : decode cX6_sets 10 = .ok (.ldc 137, 2) := by decide +kernel
theorem dX6_sets_12 : decode cX6_sets 12 = .ok (.ireturn, 1) := by decide +kernel
theorem dX6_sets_13 : decode cX6_sets 13 = .ok (.iload_n 1, 1) := by decide +kernel
theorem dX6_sets_14 : decode cX6_sets 14 = .ok (.iconst 0, 1) := by decide +kernel
theorem dX6_sets_15 : decode cX6_sets 15 = .ok (.bipush 54, 2) := by decide +kernel
theorem dX6_sets_17 : decode cX6_sets 17 = .ok (.invokestatic 63, 3) := by decide +kernel
theorem dX6_sets_20 : decode cX6_sets 20 = .ok (.ifCond .eq 12, 3) := by decide +kernel
theorem dX6_sets_23 : decode cX6_sets 23 = .ok (.iload_n 2, 1) := by decide +kernel
theorem dX6_sets_24 : decode cX6_sets 24 = .ok (.iconst 0, 1) := by decide +kernel
theorem dX6_sets_25 : decode cX6_sets 25 = .ok (.iconst 2, 1) := by decide +kernel
theorem dX6_sets_26 : decode cX6_sets 26 = .ok (.invokestatic 63, 3) := by decide +kernel
theorem dX6_sets_29 : decode cX6_sets 29 = .ok (.ifCond .ne 6, 3) := by decide +kernel
theorem dX6_sets_32 : decode cX6_sets 32 = .ok (.ldc 67, 2) := by decide +kernel
theorem dX6_sets_34 : decode cX6_sets 34 = .ok (.ireturn, 1) := by decide +kernel
theorem dX6_sets_35 : decode cX6_sets 35 = .ok (.iload_n 2, 1) := by decide +kernel
theorem dX6_sets_36 : decode cX6_sets 36 = .ok (.lookupswitch 46 #[(0, 28), (1, 37)], 28) := by decide +kernel
theorem dX6_sets_64 : decode cX6_sets 64 = .ok (.aload_n 0, 1) := by decide +kernel
theorem dX6_sets_65 : decode cX6_sets 65 = .ok (.getfield 48, 3) := by decide +kernel
theorem dX6_sets_68 : decode cX6_sets 68 = .ok (.iload_n 1, 1) := by decide +kernel
theorem dX6_sets_69 : decode cX6_sets 69 = .ok (.invokevirtual 234, 3) := by decide +kernel
theorem dX6_sets_72 : decode cX6_sets 72 = .ok (.ireturn, 1) := by decide +kernel
theorem dX6_sets_73 : decode cX6_sets 73 = .ok (.aload_n 0, 1) := by decide +kernel
theorem dX6_sets_74 : decode cX6_sets 74 = .ok (.getfield 48, 3) := by decide +kernel
theorem dX6_sets_77 : decode cX6_sets 77 = .ok (.iload_n 1, 1) := by decide +kernel
theorem dX6_sets_78 : decode cX6_sets 78 = .ok (.invokevirtual 237, 3) := by decide +kernel
theorem dX6_sets_81 : decode cX6_sets 81 = .ok (.ireturn, 1) := by decide +kernel
theorem dX6_sets_82 : decode cX6_sets 82 = .ok (.aload_n 0, 1) := by decide +kernel
theorem dX6_sets_83 : decode cX6_sets 83 = .ok (.getfield 48, 3) := by decide +kernel
theorem dX6_sets_86 : decode cX6_sets 86 = .ok (.iload_n 1, 1) := by decide +kernel
theorem dX6_sets_87 : decode cX6_sets 87 = .ok (.invokevirtual 240, 3) := by decide +kernel
theorem dX6_sets_90 : decode cX6_sets 90 = .ok (.ireturn, 1) := by decide +kernel
theorem dX6_share_0 : decode cX6_share 0 = .ok (.aload_n 0, 1) := by decide +kernel
theorem dX6_share_1 : decode cX6_share 1 = .ok (.getfield 26, 3) := by decide +kernel
theorem dX6_share_4 : decode cX6_share 4 = .ok (.iload_n 1, 1) := by decide +kernel
theorem dX6_share_5 : decode cX6_share 5 = .ok (.invokevirtual 153, 3) := by decide +kernel
theorem dX6_share_8 : decode cX6_share 8 = .ok (.ifCond .eq 14, 3) := by decide +kernel
theorem dX6_share_11 : decode cX6_share 11 = .ok (.iload_n 2, 1) := by decide +kernel
theorem dX6_share_12 : decode cX6_share 12 = .ok (.iconst 0, 1) := by decide +kernel
theorem dX6_share_13 : decode cX6_share 13 = .ok (.sipush 999, 3) := by decide +kernel
theorem dX6_share_16 : decode cX6_share 16 = .ok (.invokestatic 63, 3) := by decide +kernel
theorem dX6_share_19 : decode cX6_share 19 = .ok (.ifCond .ne 6, 3) := by decide +kernel
theorem dX6_share_22 : decode cX6_share 22 = .ok (.ldc 67, 2) := by decide +kernel
theorem dX6_share_24 : decode cX6_share 24 = .ok (.ireturn, 1) := by decide +kernel
theorem dX6_share_25 : decode cX6_share 25 = .ok (.aload_n 0, 1) := by decide +kernel
theorem dX6_share_26 : decode cX6_share 26 = .ok (.getfield 48, 3) := by decide +kernel
theorem dX6_share_29 : decode cX6_share 29 = .ok (.iload_n 1, 1) := by decide +kernel
theorem dX6_share_30 : decode cX6_share 30 = .ok (.iload_n 2, 1) := by decide +kernel
theorem dX6_share_31 : decode cX6_share 31 = .ok (.invokevirtual 243, 3) := by decide +kernel
theorem dX6_share_34 : decode cX6_share 34 = .ok (.ireturn, 1) := by decide +kernel
theorem dX6_byTurns_0 : decode cX6_byTurns 0 = .ok (.aload_n 0, 1) := by decide +kernel
theorem dX6_byTurns_1 : decode cX6_byTurns 1 = .ok (.getfield 26, 3) := by decide +kernel
theorem dX6_byTurns_4 : decode cX6_byTurns 4 = .ok (.getfield 131, 3) := by decide +kernel
theorem dX6_byTurns_7 : decode cX6_byTurns 7 = .ok (.iconst 1, 1) := by decide +kernel
theorem dX6_byTurns_8 : decode cX6_byTurns 8 = .ok (.isub, 1) := by decide +kernel
theorem dX6_byTurns_9 : decode cX6_byTurns 9 = .ok (.istore_n 3, 1) := by decide +kernel
theorem dX6_byTurns_10 : decode cX6_byTurns 10 = .ok (.aload_n 0, 1) := by decide +kernel
theorem dX6_byTurns_11 : decode cX6_byTurns 11 = .ok (.getfield 26, 3) := by decide +kernel
theorem dX6_byTurns_14 : decode cX6_byTurns 14 = .ok (.iload_n 3, 1) := by decide +kernel
theorem dX6_byTurns_15 : decode cX6_byTurns 15 = .ok (.invokevirtual 153, 3) := by decide +kernel
theorem dX6_byTurns_18 : decode cX6_byTurns 18 = .ok (.ifCond .ne 6, 3) := by decide +kernel
theorem dX6_byTurns_21 : decode cX6_byTurns 21 = .ok (.ldc 137, 2) := by decide +kernel
theorem dX6_byTurns_23 : decode cX6_byTurns 23 = .ok (.ireturn, 1) := by decide +kernel
theorem dX6_byTurns_24 : decode cX6_byTurns 24 = .ok (.iload_n 1, 1) := by decide +kernel
theorem dX6_byTurns_25 : decode cX6_byTurns 25 = .ok (.iconst 0, 1) := by decide +kernel
theorem dX6_byTurns_26 : decode cX6_byTurns 26 = .ok (.iconst 4, 1) := by decide +kernel
theorem dX6_byTurns_27 : decode cX6_byTurns 27 = .ok (.invokestatic 63, 3) := by decide +kernel
theorem dX6_byTurns_30 : decode cX6_byTurns 30 = .ok (.ifCond .eq 13, 3) := by decide +kernel
theorem dX6_byTurns_33 : decode cX6_byTurns 33 = .ok (.iload_n 2, 1) := by decide +kernel
theorem dX6_byTurns_34 : decode cX6_byTurns 34 = .ok (.iconst 1, 1) := by decide +kernel
theorem dX6_byTurns_35 : decode cX6_byTurns 35 = .ok (.bipush 20, 2) := by decide +kernel
theorem dX6_byTurns_37 : decode cX6_byTurns 37 = .ok (.invokestatic 63, 3) := by decide +kernel
theorem dX6_byTurns_40 : decode cX6_byTurns 40 = .ok (.ifCond .ne 6, 3) := by decide +kernel
theorem dX6_byTurns_43 : decode cX6_byTurns 43 = .ok (.ldc 67, 2) := by decide +kernel
theorem dX6_byTurns_45 : decode cX6_byTurns 45 = .ok (.ireturn, 1) := by decide +kernel
theorem dX6_byTurns_46 : decode cX6_byTurns 46 = .ok (.aload_n 0, 1) := by decide +kernel
theorem dX6_byTurns_47 : decode cX6_byTurns 47 = .ok (.getfield 48, 3) := by decide +kernel
theorem dX6_byTurns_50 : decode cX6_byTurns 50 = .ok (.iconst 0, 1) := by decide +kernel
theorem dX6_byTurns_51 : decode cX6_byTurns 51 = .ok (.iload_n 1, 1) := by decide +kernel
theorem dX6_byTurns_52 : decode cX6_byTurns 52 = .ok (.iload_n 2, 1) := by decide +kernel
theorem dX6_byTurns_53 : decode cX6_byTurns 53 = .ok (.aload_n 0, 1) := by decide +kernel
theorem dX6_byTurns_54 : decode cX6_byTurns 54 = .ok (.getfield 26, 3) := by decide +kernel
theorem dX6_byTurns_57 : decode cX6_byTurns 57 = .ok (.getfield 159, 3) := by decide +kernel
theorem dX6_byTurns_60 : decode cX6_byTurns 60 = .ok (.iconst 0, 1) := by decide +kernel
theorem dX6_byTurns_61 : decode cX6_byTurns 61 = .ok (.iaload, 1) := by decide +kernel
theorem dX6_byTurns_62 : decode cX6_byTurns 62 = .ok (.aload_n 0, 1) := by decide +kernel
theorem dX6_byTurns_63 : decode cX6_byTurns 63 = .ok (.getfield 26, 3) := by decide +kernel
theorem dX6_byTurns_66 : decode cX6_byTurns 66 = .ok (.getfield 159, 3) := by decide +kernel
theorem dX6_byTurns_69 : decode cX6_byTurns 69 = .ok (.iload_n 3, 1) := by decide +kernel
theorem dX6_byTurns_70 : decode cX6_byTurns 70 = .ok (.iaload, 1) := by decide +kernel
theorem dX6_byTurns_71 : decode cX6_byTurns 71 = .ok (.invokestatic 246, 3) := by decide +kernel
theorem dX6_byTurns_74 : decode cX6_byTurns 74 = .ok (.ireturn, 1) := by decide +kernel
theorem dX6_who_0 : decode cX6_who 0 = .ok (.aload_n 0, 1) := by decide +kernel
theorem dX6_who_1 : decode cX6_who 1 = .ok (.getfield 26, 3) := by decide +kernel
theorem dX6_who_4 : decode cX6_who 4 = .ok (.iload_n 1, 1) := by decide +kernel
theorem dX6_who_5 : decode cX6_who 5 = .ok (.invokevirtual 153, 3) := by decide +kernel
theorem dX6_who_8 : decode cX6_who 8 = .ok (.ifCond .eq 34, 3) := by decide +kernel
theorem dX6_who_11 : decode cX6_who 11 = .ok (.iload_n 2, 1) := by decide +kernel
theorem dX6_who_12 : decode cX6_who 12 = .ok (.iconst 0, 1) := by decide +kernel
theorem dX6_who_13 : decode cX6_who 13 = .ok (.iconst 3, 1) := by decide +kernel
theorem dX6_who_14 : decode cX6_who 14 = .ok (.invokestatic 63, 3) := by decide +kernel
theorem dX6_who_17 : decode cX6_who 17 = .ok (.ifCond .eq 25, 3) := by decide +kernel
theorem dX6_who_20 : decode cX6_who 20 = .ok (.aload_n 0, 1) := by decide +kernel
theorem dX6_who_21 : decode cX6_who 21 = .ok (.getfield 12, 3) := by decide +kernel
theorem dX6_who_24 : decode cX6_who 24 = .ok (.iload_n 3, 1) := by decide +kernel
theorem dX6_who_25 : decode cX6_who 25 = .ok (.invokevirtual 59, 3) := by decide +kernel
theorem dX6_who_28 : decode cX6_who 28 = .ok (.ifCond .eq 14, 3) := by decide +kernel
theorem dX6_who_31 : decode cX6_who 31 = .ok (.iload 5, 2) := by decide +kernel
theorem dX6_who_33 : decode cX6_who 33 = .ok (.iconst 1, 1) := by decide +kernel
theorem dX6_who_34 : decode cX6_who 34 = .ok (.bipush 12, 2) := by decide +kernel
theorem dX6_who_36 : decode cX6_who 36 = .ok (.invokestatic 63, 3) := by decide +kernel
theorem dX6_who_39 : decode cX6_who 39 = .ok (.ifCond .ne 6, 3) := by decide +kernel
theorem dX6_who_42 : decode cX6_who 42 = .ok (.ldc 67, 2) := by decide +kernel
theorem dX6_who_44 : decode cX6_who 44 = .ok (.ireturn, 1) := by decide +kernel
theorem dX6_who_45 : decode cX6_who 45 = .ok (.aload_n 0, 1) := by decide +kernel
theorem dX6_who_46 : decode cX6_who 46 = .ok (.getfield 12, 3) := by decide +kernel
theorem dX6_who_49 : decode cX6_who 49 = .ok (.iload_n 3, 1) := by decide +kernel
theorem dX6_who_50 : decode cX6_who 50 = .ok (.invokevirtual 80, 3) := by decide +kernel
theorem dX6_who_53 : decode cX6_who 53 = .ok (.ifCond .eq 9, 3) := by decide +kernel
theorem dX6_who_56 : decode cX6_who 56 = .ok (.aload_n 0, 1) := by decide +kernel
theorem dX6_who_57 : decode cX6_who 57 = .ok (.iconst 1, 1) := by decide +kernel
theorem dX6_who_58 : decode cX6_who 58 = .ok (.invokevirtual 68, 3) := by decide +kernel
theorem dX6_who_61 : decode cX6_who 61 = .ok (.ireturn, 1) := by decide +kernel
theorem dX6_who_62 : decode cX6_who 62 = .ok (.aload_n 0, 1) := by decide +kernel
theorem dX6_who_63 : decode cX6_who 63 = .ok (.getfield 12, 3) := by decide +kernel
theorem dX6_who_66 : decode cX6_who 66 = .ok (.iload_n 3, 1) := by decide +kernel
theorem dX6_who_67 : decode cX6_who 67 = .ok (.iload 4, 2) := by decide +kernel
theorem dX6_who_69 : decode cX6_who 69 = .ok (.iload 5, 2) := by decide +kernel
theorem dX6_who_71 : decode cX6_who 71 = .ok (.invokevirtual 83, 3) := by decide +kernel
theorem dX6_who_74 : decode cX6_who 74 = .ok (.ifCond .ne 9, 3) := by decide +kernel
theorem dX6_who_77 : decode cX6_who 77 = .ok (.aload_n 0, 1) := by decide +kernel
theorem dX6_who_78 : decode cX6_who 78 = .ok (.iconst 2, 1) := by decide +kernel
theorem dX6_who_79 : decode cX6_who 79 = .ok (.invokevirtual 68, 3) := by decide +kernel
theorem dX6_who_82 : decode cX6_who 82 = .ok (.ireturn, 1) := by decide +kernel
theorem dX6_who_83 : decode cX6_who 83 = .ok (.aload_n 0, 1) := by decide +kernel
theorem dX6_who_84 : decode cX6_who 84 = .ok (.iconst 0, 1) := by decide +kernel
theorem dX6_who_85 : decode cX6_who 85 = .ok (.putfield 72, 3) := by decide +kernel
theorem dX6_who_88 : decode cX6_who 88 = .ok (.aload_n 0, 1) := by decide +kernel
theorem dX6_who_89 : decode cX6_who 89 = .ok (.getfield 48, 3) := by decide +kernel
theorem dX6_who_92 : decode cX6_who 92 = .ok (.iload_n 1, 1) := by decide +kernel
theorem dX6_who_93 : decode cX6_who 93 = .ok (.iload_n 2, 1) := by decide +kernel
theorem dX6_who_94 : decode cX6_who 94 = .ok (.aload_n 0, 1) := by decide +kernel
theorem dX6_who_95 : decode cX6_who 95 = .ok (.getfield 12, 3) := by decide +kernel
theorem dX6_who_98 : decode cX6_who 98 = .ok (.iload_n 3, 1) := by decide +kernel
theorem dX6_who_99 : decode cX6_who 99 = .ok (.iload 4, 2) := by decide +kernel
theorem dX6_who_101 : decode cX6_who 101 = .ok (.iload 5, 2) := by decide +kernel
theorem dX6_who_103 : decode cX6_who 103 = .ok (.invokevirtual 250, 3) := by decide +kernel
theorem dX6_who_106 : decode cX6_who 106 = .ok (.ireturn, 1) := by decide +kernel
theorem dX6_rain_0 : decode cX6_rain 0 = .ok (.aload_n 0, 1) := by decide +kernel
theorem dX6_rain_1 : decode cX6_rain 1 = .ok (.getfield 26, 3) := by decide +kernel
theorem dX6_rain_4 : decode cX6_rain 4 = .ok (.iload_n 1, 1) := by decide +kernel
theorem dX6_rain_5 : decode cX6_rain 5 = .ok (.invokevirtual 153, 3) := by decide +kernel
theorem dX6_rain_8 : decode cX6_rain 8 = .ok (.ifCond .eq 33, 3) := by decide +kernel
theorem dX6_rain_11 : decode cX6_rain 11 = .ok (.iload_n 2, 1) := by decide +kernel
theorem dX6_rain_12 : decode cX6_rain 12 = .ok (.iconst 0, 1) := by decide +kernel
theorem dX6_rain_13 : decode cX6_rain 13 = .ok (.bipush 60, 2) := by decide +kernel
theorem dX6_rain_15 : decode cX6_rain 15 = .ok (.invokestatic 63, 3) := by decide +kernel
theorem dX6_rain_18 : decode cX6_rain 18 = .ok (.ifCond .eq 23, 3) := by decide +kernel
theorem dX6_rain_21 : decode cX6_rain 21 = .ok (.iload_n 3, 1) := by decide +kernel
theorem dX6_rain_22 : decode cX6_rain 22 = .ok (.iconst 0, 1) := by decide +kernel
theorem dX6_rain_23 : decode cX6_rain 23 = .ok (.bipush 10, 2) := by decide +kernel
theorem dX6_rain_25 : decode cX6_rain 25 = .ok (.invokestatic 63, 3) := by decide +kernel
theorem dX6_rain_28 : decode cX6_rain 28 = .ok (.ifCond .eq 13, 3) := by decide +kernel
theorem dX6_rain_31 : decode cX6_rain 31 = .ok (.iload 4, 2) := by decide +kernel
theorem dX6_rain_33 : decode cX6_rain 33 = .ok (.iconst 0, 1) := by decide +kernel
theorem dX6_rain_34 : decode cX6_rain 34 = .ok (.iconst 1, 1) := by decide +kernel
theorem dX6_rain_35 : decode cX6_rain 35 = .ok (.invokestatic 63, 3) := by decide +kernel
theorem dX6_rain_38 : decode cX6_rain 38 = .ok (.ifCond .ne 7, 3) := by decide +kernel
theorem dX6_rain_41 : decode cX6_rain 41 = .ok (.ldc2_w 254, 3) := by decide +kernel
theorem dX6_rain_44 : decode cX6_rain 44 = .ok (.lreturn, 1) := by decide +kernel
theorem dX6_rain_45 : decode cX6_rain 45 = .ok (.aload_n 0, 1) := by decide +kernel
theorem dX6_rain_46 : decode cX6_rain 46 = .ok (.getfield 48, 3) := by decide +kernel
theorem dX6_rain_49 : decode cX6_rain 49 = .ok (.iload_n 1, 1) := by decide +kernel
theorem dX6_rain_50 : decode cX6_rain 50 = .ok (.iload_n 2, 1) := by decide +kernel
theorem dX6_rain_51 : decode cX6_rain 51 = .ok (.iload_n 3, 1) := by decide +kernel
theorem dX6_rain_52 : decode cX6_rain 52 = .ok (.invokevirtual 256, 3) := by decide +kernel
theorem dX6_rain_55 : decode cX6_rain 55 = .ok (.lstore 5, 2) := by decide +kernel
theorem dX6_rain_57 : decode cX6_rain 57 = .ok (.aload_n 0, 1) := by decide +kernel
theorem dX6_rain_58 : decode cX6_rain 58 = .ok (.getfield 48, 3) := by decide +kernel
theorem dX6_rain_61 : decode cX6_rain 61 = .ok (.invokevirtual 260, 3) := by decide +kernel
theorem dX6_rain_64 : decode cX6_rain 64 = .ok (.lstore 7, 2) := by decide +kernel
theorem dX6_rain_66 : decode cX6_rain 66 = .ok (.lload 5, 2) := by decide +kernel
theorem dX6_rain_68 : decode cX6_rain 68 = .ok (.lload 7, 2) := by decide +kernel
theorem dX6_rain_70 : decode cX6_rain 70 = .ok (.invokestatic 264, 3) := by decide +kernel
theorem dX6_rain_73 : decode cX6_rain 73 = .ok (.lstore 9, 2) := by decide +kernel
theorem dX6_rain_75 : decode cX6_rain 75 = .ok (.lload 9, 2) := by decide +kernel
theorem dX6_rain_77 : decode cX6_rain 77 = .ok (.lconst 0, 1) := by decide +kernel
theorem dX6_rain_78 : decode cX6_rain 78 = .ok (.lcmp, 1) := by decide +kernel
theorem dX6_rain_79 : decode cX6_rain 79 = .ok (.ifCond .ne 7, 3) := by decide +kernel
theorem dX6_rain_82 : decode cX6_rain 82 = .ok (.ldc2_w 254, 3) := by decide +kernel
theorem dX6_rain_85 : decode cX6_rain 85 = .ok (.lreturn, 1) := by decide +kernel
theorem dX6_rain_86 : decode cX6_rain 86 = .ok (.iload 4, 2) := by decide +kernel
theorem dX6_rain_88 : decode cX6_rain 88 = .ok (.ifCond .ne 11, 3) := by decide +kernel
theorem dX6_rain_91 : decode cX6_rain 91 = .ok (.lload 5, 2) := by decide +kernel
theorem dX6_rain_93 : decode cX6_rain 93 = .ok (.lload 9, 2) := by decide +kernel
theorem dX6_rain_95 : decode cX6_rain 95 = .ok (.ldiv, 1) := by decide +kernel
theorem dX6_rain_96 : decode cX6_rain 96 = .ok (.goto 8, 3) := by decide +kernel
theorem dX6_rain_99 : decode cX6_rain 99 = .ok (.lload 7, 2) := by decide +kernel
theorem dX6_rain_101 : decode cX6_rain 101 = .ok (.lload 9, 2) := by decide +kernel
theorem dX6_rain_103 : decode cX6_rain 103 = .ok (.ldiv, 1) := by decide +kernel
theorem dX6_rain_104 : decode cX6_rain 104 = .ok (.lreturn, 1) := by decide +kernel
theorem dX6_drawn_0 : decode cX6_drawn 0 = .ok (.aload_n 0, 1) := by decide +kernel
theorem dX6_drawn_1 : decode cX6_drawn 1 = .ok (.getfield 26, 3) := by decide +kernel
theorem dX6_drawn_4 : decode cX6_drawn 4 = .ok (.getfield 131, 3) := by decide +kernel
theorem dX6_drawn_7 : decode cX6_drawn 7 = .ok (.ifCond .ne 6, 3) := by decide +kernel
theorem dX6_drawn_10 : decode cX6_drawn 10 = .ok (.ldc 137, 2) := by decide +kernel
theorem dX6_drawn_12 : decode cX6_drawn 12 = .ok (.ireturn, 1) := by decide +kernel
theorem dX6_drawn_13 : decode cX6_drawn 13 = .ok (.iload_n 1, 1) := by decide +kernel
theorem dX6_drawn_14 : decode cX6_drawn 14 = .ok (.iconst 0, 1) := by decide +kernel
theorem dX6_drawn_15 : decode cX6_drawn 15 = .ok (.bipush 60, 2) := by decide +kernel
theorem dX6_drawn_17 : decode cX6_drawn 17 = .ok (.invokestatic 63, 3) := by decide +kernel
theorem dX6_drawn_20 : decode cX6_drawn 20 = .ok (.ifCond .eq 23, 3) := by decide +kernel
theorem dX6_drawn_23 : decode cX6_drawn 23 = .ok (.iload_n 2, 1) := by decide +kernel
theorem dX6_drawn_24 : decode cX6_drawn 24 = .ok (.iconst 1, 1) := by decide +kernel
theorem dX6_drawn_25 : decode cX6_drawn 25 = .ok (.ldc_w 268, 3) := by decide +kernel
theorem dX6_drawn_28 : decode cX6_drawn 28 = .ok (.invokestatic 63, 3) := by decide +kernel
theorem dX6_drawn_31 : decode cX6_drawn 31 = .ok (.ifCond .eq 12, 3) := by decide +kernel
theorem dX6_drawn_34 : decode cX6_drawn 34 = .ok (.iload_n 3, 1) := by decide +kernel
theorem dX6_drawn_35 : decode cX6_drawn 35 = .ok (.iconst 0, 1) := by decide +kernel
theorem dX6_drawn_36 : decode cX6_drawn 36 = .ok (.iconst 1, 1) := by decide +kernel
theorem dX6_drawn_37 : decode cX6_drawn 37 = .ok (.invokestatic 63, 3) := by decide +kernel
theorem dX6_drawn_40 : decode cX6_drawn 40 = .ok (.ifCond .ne 6, 3) := by decide +kernel
theorem dX6_drawn_43 : decode cX6_drawn 43 = .ok (.ldc 67, 2) := by decide +kernel
theorem dX6_drawn_45 : decode cX6_drawn 45 = .ok (.ireturn, 1) := by decide +kernel
theorem dX6_drawn_46 : decode cX6_drawn 46 = .ok (.aload_n 0, 1) := by decide +kernel
theorem dX6_drawn_47 : decode cX6_drawn 47 = .ok (.getfield 48, 3) := by decide +kernel
theorem dX6_drawn_50 : decode cX6_drawn 50 = .ok (.iload_n 1, 1) := by decide +kernel
theorem dX6_drawn_51 : decode cX6_drawn 51 = .ok (.iload_n 2, 1) := by decide +kernel
theorem dX6_drawn_52 : decode cX6_drawn 52 = .ok (.invokevirtual 269, 3) := by decide +kernel
theorem dX6_drawn_55 : decode cX6_drawn 55 = .ok (.astore 4, 2) := by decide +kernel
theorem dX6_drawn_57 : decode cX6_drawn 57 = .ok (.iload_n 3, 1) := by decide +kernel
theorem dX6_drawn_58 : decode cX6_drawn 58 = .ok (.ifCond .ne 19, 3) := by decide +kernel
theorem dX6_drawn_61 : decode cX6_drawn 61 = .ok (.aload 4, 2) := by decide +kernel
theorem dX6_drawn_63 : decode cX6_drawn 63 = .ok (.getfield 144, 3) := by decide +kernel
theorem dX6_drawn_66 : decode cX6_drawn 66 = .ok (.aload_n 0, 1) := by decide +kernel
theorem dX6_drawn_67 : decode cX6_drawn 67 = .ok (.getfield 26, 3) := by decide +kernel
theorem dX6_drawn_70 : decode cX6_drawn 70 = .ok (.getfield 144, 3) := by decide +kernel
theorem dX6_drawn_73 : decode cX6_drawn 73 = .ok (.isub, 1) := by decide +kernel
theorem dX6_drawn_74 : decode cX6_drawn 74 = .ok (.goto 8, 3) := by decide +kernel
theorem dX6_drawn_77 : decode cX6_drawn 77 = .ok (.aload 4, 2) := by decide +kernel
theorem dX6_drawn_79 : decode cX6_drawn 79 = .ok (.invokevirtual 204, 3) := by decide +kernel
theorem dX6_drawn_82 : decode cX6_drawn 82 = .ok (.ireturn, 1) := by decide +kernel
theorem dX6_image_0 : decode cX6_image 0 = .ok (.iload_n 1, 1) := by decide +kernel
theorem dX6_image_1 : decode cX6_image 1 = .ok (.iconst 0, 1) := by decide +kernel
theorem dX6_image_2 : decode cX6_image 2 = .ok (.iconst 1, 1) := by decide +kernel
theorem dX6_image_3 : decode cX6_image 3 = .ok (.invokestatic 63, 3) := by decide +kernel
theorem dX6_image_6 : decode cX6_image 6 = .ok (.ifCond .ne 6, 3) := by decide +kernel
theorem dX6_image_9 : decode cX6_image 9 = .ok (.ldc 67, 2) := by decide +kernel
theorem dX6_image_11 : decode cX6_image 11 = .ok (.ireturn, 1) := by decide +kernel
theorem dX6_image_12 : decode cX6_image 12 = .ok (.aload_n 0, 1) := by decide +kernel
theorem dX6_image_13 : decode cX6_image 13 = .ok (.getfield 26, 3) := by decide +kernel
theorem dX6_image_16 : decode cX6_image 16 = .ok (.getfield 131, 3) := by decide +kernel
theorem dX6_image_19 : decode cX6_image 19 = .ok (.ifCond .ne 6, 3) := by decide +kernel
theorem dX6_image_22 : decode cX6_image 22 = .ok (.ldc 137, 2) := by decide +kernel
theorem dX6_image_24 : decode cX6_image 24 = .ok (.ireturn, 1) := by decide +kernel
theorem dX6_image_25 : decode cX6_image 25 = .ok (.aload_n 0, 1) := by decide +kernel
theorem dX6_image_26 : decode cX6_image 26 = .ok (.iload_n 1, 1) := by decide +kernel
theorem dX6_image_27 : decode cX6_image 27 = .ok (.invokevirtual 273, 3) := by decide +kernel
theorem dX6_image_30 : decode cX6_image 30 = .ok (.aload_n 0, 1) := by decide +kernel
theorem dX6_image_31 : decode cX6_image 31 = .ok (.getfield 26, 3) := by decide +kernel
theorem dX6_image_34 : decode cX6_image 34 = .ok (.invokevirtual 127, 3) := by decide +kernel
theorem dX6_image_37 : decode cX6_image 37 = .ok (.iconst 1, 1) := by decide +kernel
theorem dX6_image_38 : decode cX6_image 38 = .ok (.ireturn, 1) := by decide +kernel
theorem dX6_restore_0 : decode cX6_restore 0 = .ok (.iload_n 1, 1) := by decide +kernel
theorem dX6_restore_1 : decode cX6_restore 1 = .ok (.iconst 0, 1) := by decide +kernel
theorem dX6_restore_2 : decode cX6_restore 2 = .ok (.iconst 1, 1) := by decide +kernel
theorem dX6_restore_3 : decode cX6_restore 3 = .ok (.invokestatic 63, 3) := by decide +kernel
theorem dX6_restore_6 : decode cX6_restore 6 = .ok (.ifCond .ne 6, 3) := by decide +kernel
theorem dX6_restore_9 : decode cX6_restore 9 = .ok (.ldc 67, 2) := by decide +kernel
theorem dX6_restore_11 : decode cX6_restore 11 = .ok (.ireturn, 1) := by decide +kernel
theorem dX6_restore_12 : decode cX6_restore 12 = .ok (.aload_n 0, 1) := by decide +kernel
theorem dX6_restore_13 : decode cX6_restore 13 = .ok (.iload_n 1, 1) := by decide +kernel
theorem dX6_restore_14 : decode cX6_restore 14 = .ok (.invokevirtual 273, 3) := by decide +kernel
theorem dX6_restore_17 : decode cX6_restore 17 = .ok (.astore_n 2, 1) := by decide +kernel
theorem dX6_restore_18 : decode cX6_restore 18 = .ok (.aload_n 2, 1) := by decide +kernel
theorem dX6_restore_19 : decode cX6_restore 19 = .ok (.getfield 131, 3) := by decide +kernel
theorem dX6_restore_22 : decode cX6_restore 22 = .ok (.ifCond .ne 6, 3) := by decide +kernel
theorem dX6_restore_25 : decode cX6_restore 25 = .ok (.ldc 137, 2) := by decide +kernel
theorem dX6_restore_27 : decode cX6_restore 27 = .ok (.ireturn, 1) := by decide +kernel
theorem dX6_restore_28 : decode cX6_restore 28 = .ok (.aload_n 0, 1) := by decide +kernel
theorem dX6_restore_29 : decode cX6_restore 29 = .ok (.getfield 26, 3) := by decide +kernel
theorem dX6_restore_32 : decode cX6_restore 32 = .ok (.aload_n 2, 1) := by decide +kernel
theorem dX6_restore_33 : decode cX6_restore 33 = .ok (.invokevirtual 127, 3) := by decide +kernel
theorem dX6_restore_36 : decode cX6_restore 36 = .ok (.aload_n 0, 1) := by decide +kernel
theorem dX6_restore_37 : decode cX6_restore 37 = .ok (.getfield 33, 3) := by decide +kernel
theorem dX6_restore_40 : decode cX6_restore 40 = .ok (.invokevirtual 130, 3) := by decide +kernel
theorem dX6_restore_43 : decode cX6_restore 43 = .ok (.iconst 1, 1) := by decide +kernel
theorem dX6_restore_44 : decode cX6_restore 44 = .ok (.ireturn, 1) := by decide +kernel
theorem dX6_kind_0 : decode cX6_kind 0 = .ok (.aload_n 0, 1) := by decide +kernel
theorem dX6_kind_1 : decode cX6_kind 1 = .ok (.getfield 26, 3) := by decide +kernel
theorem dX6_kind_4 : decode cX6_kind 4 = .ok (.iload_n 1, 1) := by decide +kernel
theorem dX6_kind_5 : decode cX6_kind 5 = .ok (.invokevirtual 153, 3) := by decide +kernel
theorem dX6_kind_8 : decode cX6_kind 8 = .ok (.ifCond .eq 15, 3) := by decide +kernel
theorem dX6_kind_11 : decode cX6_kind 11 = .ok (.aload_n 0, 1) := by decide +kernel
theorem dX6_kind_12 : decode cX6_kind 12 = .ok (.getfield 26, 3) := by decide +kernel
theorem dX6_kind_15 : decode cX6_kind 15 = .ok (.getfield 276, 3) := by decide +kernel
theorem dX6_kind_18 : decode cX6_kind 18 = .ok (.iload_n 1, 1) := by decide +kernel
theorem dX6_kind_19 : decode cX6_kind 19 = .ok (.iaload, 1) := by decide +kernel
theorem dX6_kind_20 : decode cX6_kind 20 = .ok (.goto 5, 3) := by decide +kernel
theorem dX6_kind_23 : decode cX6_kind 23 = .ok (.ldc 67, 2) := by decide +kernel
theorem dX6_kind_25 : decode cX6_kind 25 = .ok (.ireturn, 1) := by decide +kernel
theorem dX6_as_0 : decode cX6_as 0 = .ok (.aload_n 0, 1) := by decide +kernel
theorem dX6_as_1 : decode cX6_as 1 = .ok (.getfield 26, 3) := by decide +kernel
theorem dX6_as_4 : decode cX6_as 4 = .ok (.iload_n 1, 1) := by decide +kernel
theorem dX6_as_5 : decode cX6_as 5 = .ok (.invokevirtual 153, 3) := by decide +kernel
theorem dX6_as_8 : decode cX6_as 8 = .ok (.ifCond .eq 12, 3) := by decide +kernel
theorem dX6_as_11 : decode cX6_as 11 = .ok (.iload_n 2, 1) := by decide +kernel
theorem dX6_as_12 : decode cX6_as 12 = .ok (.iconst 0, 1) := by decide +kernel
theorem dX6_as_13 : decode cX6_as 13 = .ok (.iconst 5, 1) := by decide +kernel
theorem dX6_as_14 : decode cX6_as 14 = .ok (.invokestatic 63, 3) := by decide +kernel
theorem dX6_as_17 : decode cX6_as 17 = .ok (.ifCond .ne 6, 3) := by decide +kernel
theorem dX6_as_20 : decode cX6_as 20 = .ok (.ldc 67, 2) := by decide +kernel
theorem dX6_as_22 : decode cX6_as 22 = .ok (.ireturn, 1) := by decide +kernel
theorem dX6_as_23 : decode cX6_as 23 = .ok (.aload_n 0, 1) := by decide +kernel
theorem dX6_as_24 : decode cX6_as 24 = .ok (.getfield 26, 3) := by decide +kernel
theorem dX6_as_27 : decode cX6_as 27 = .ok (.getfield 276, 3) := by decide +kernel
theorem dX6_as_30 : decode cX6_as 30 = .ok (.iload_n 1, 1) := by decide +kernel
theorem dX6_as_31 : decode cX6_as 31 = .ok (.iaload, 1) := by decide +kernel
theorem dX6_as_32 : decode cX6_as 32 = .ok (.iload_n 2, 1) := by decide +kernel
theorem dX6_as_33 : decode cX6_as 33 = .ok (.invokestatic 279, 3) := by decide +kernel
theorem dX6_as_36 : decode cX6_as 36 = .ok (.ifCond .ne 9, 3) := by decide +kernel
theorem dX6_as_39 : decode cX6_as 39 = .ok (.aload_n 0, 1) := by decide +kernel
theorem dX6_as_40 : decode cX6_as 40 = .ok (.iconst 3, 1) := by decide +kernel
theorem dX6_as_41 : decode cX6_as 41 = .ok (.invokevirtual 68, 3) := by decide +kernel
theorem dX6_as_44 : decode cX6_as 44 = .ok (.ireturn, 1) := by decide +kernel
theorem dX6_as_45 : decode cX6_as 45 = .ok (.aload_n 0, 1) := by decide +kernel
theorem dX6_as_46 : decode cX6_as 46 = .ok (.iconst 0, 1) := by decide +kernel
theorem dX6_as_47 : decode cX6_as 47 = .ok (.putfield 72, 3) := by decide +kernel
theorem dX6_as_50 : decode cX6_as 50 = .ok (.iload_n 1, 1) := by decide +kernel
theorem dX6_as_51 : decode cX6_as 51 = .ok (.ireturn, 1) := by decide +kernel
theorem dX6_ask_0 : decode cX6_ask 0 = .ok (.aload_n 0, 1) := by decide +kernel
theorem dX6_ask_1 : decode cX6_ask 1 = .ok (.getfield 26, 3) := by decide +kernel
theorem dX6_ask_4 : decode cX6_ask 4 = .ok (.iload_n 1, 1) := by decide +kernel
theorem dX6_ask_5 : decode cX6_ask 5 = .ok (.invokevirtual 153, 3) := by decide +kernel
theorem dX6_ask_8 : decode cX6_ask 8 = .ok (.ifCond .eq 12, 3) := by decide +kernel
theorem dX6_ask_11 : decode cX6_ask 11 = .ok (.iload_n 2, 1) := by decide +kernel
theorem dX6_ask_12 : decode cX6_ask 12 = .ok (.iconst 0, 1) := by decide +kernel
theorem dX6_ask_13 : decode cX6_ask 13 = .ok (.iconst 1, 1) := by decide +kernel
theorem dX6_ask_14 : decode cX6_ask 14 = .ok (.invokestatic 63, 3) := by decide +kernel
theorem dX6_ask_17 : decode cX6_ask 17 = .ok (.ifCond .ne 6, 3) := by decide +kernel
theorem dX6_ask_20 : decode cX6_ask 20 = .ok (.ldc 67, 2) := by decide +kernel
theorem dX6_ask_22 : decode cX6_ask 22 = .ok (.ireturn, 1) := by decide +kernel
theorem dX6_ask_23 : decode cX6_ask 23 = .ok (.aload_n 0, 1) := by decide +kernel
theorem dX6_ask_24 : decode cX6_ask 24 = .ok (.getfield 55, 3) := by decide +kernel
theorem dX6_ask_27 : decode cX6_ask 27 = .ok (.iload_n 1, 1) := by decide +kernel
theorem dX6_ask_28 : decode cX6_ask 28 = .ok (.iload_n 2, 1) := by decide +kernel
theorem dX6_ask_29 : decode cX6_ask 29 = .ok (.invokevirtual 283, 3) := by decide +kernel
theorem dX6_ask_32 : decode cX6_ask 32 = .ok (.ireturn, 1) := by decide +kernel
theorem dX6_trace_0 : decode cX6_trace 0 = .ok (.iload_n 1, 1) := by decide +kernel
theorem dX6_trace_1 : decode cX6_trace 1 = .ok (.iconst 0, 1) := by decide +kernel
theorem dX6_trace_2 : decode cX6_trace 2 = .ok (.aload_n 0, 1) := by decide +kernel
theorem dX6_trace_3 : decode cX6_trace 3 = .ok (.getfield 55, 3) := by decide +kernel
theorem dX6_trace_6 : decode cX6_trace 6 = .ok (.getfield 286, 3) := by decide +kernel
theorem dX6_trace_9 : decode cX6_trace 9 = .ok (.iconst 1, 1) := by decide +kernel
theorem dX6_trace_10 : decode cX6_trace 10 = .ok (.isub, 1) := by decide +kernel
theorem dX6_trace_11 : decode cX6_trace 11 = .ok (.invokestatic 63, 3) := by decide +kernel
theorem dX6_trace_14 : decode cX6_trace 14 = .ok (.ifCond .eq 15, 3) := by decide +kernel
theorem dX6_trace_17 : decode cX6_trace 17 = .ok (.aload_n 0, 1) := by decide +kernel
theorem dX6_trace_18 : decode cX6_trace 18 = .ok (.getfield 55, 3) := by decide +kernel
theorem dX6_trace_21 : decode cX6_trace 21 = .ok (.getfield 289, 3) := by decide +kernel
theorem dX6_trace_24 : decode cX6_trace 24 = .ok (.iload_n 1, 1) := by decide +kernel
theorem dX6_trace_25 : decode cX6_trace 25 = .ok (.iaload, 1) := by decide +kernel
theorem dX6_trace_26 : decode cX6_trace 26 = .ok (.goto 6, 3) := by decide +kernel
theorem dX6_trace_29 : decode cX6_trace 29 = .ok (.ldc_w 292, 3) := by decide +kernel
theorem dX6_trace_32 : decode cX6_trace 32 = .ok (.ireturn, 1) := by decide +kernel
theorem dX6_count_0 : decode cX6_count 0 = .ok (.iload_n 1, 1) := by decide +kernel
theorem dX6_count_1 : decode cX6_count 1 = .ok (.tableswitch 114 0 7 #[47, 55, 63, 71, 79, 87, 98, 106], 47) := by decide +kernel
theorem dX6_count_48 : decode cX6_count 48 = .ok (.aload_n 0, 1) := by decide +kernel
theorem dX6_count_49 : decode cX6_count 49 = .ok (.getfield 12, 3) := by decide +kernel
theorem dX6_count_52 : decode cX6_count 52 = .ok (.invokevirtual 293, 3) := by decide +kernel
theorem dX6_count_55 : decode cX6_count 55 = .ok (.ireturn, 1) := by decide +kernel
theorem dX6_count_56 : decode cX6_count 56 = .ok (.aload_n 0, 1) := by decide +kernel
theorem dX6_count_57 : decode cX6_count 57 = .ok (.getfield 26, 3) := by decide +kernel
theorem dX6_count_60 : decode cX6_count 60 = .ok (.getfield 131, 3) := by decide +kernel
theorem dX6_count_63 : decode cX6_count 63 = .ok (.ireturn, 1) := by decide +kernel
theorem dX6_count_64 : decode cX6_count 64 = .ok (.aload_n 0, 1) := by decide +kernel
theorem dX6_count_65 : decode cX6_count 65 = .ok (.getfield 26, 3) := by decide +kernel
theorem dX6_count_68 : decode cX6_count 68 = .ok (.getfield 141, 3) := by decide +kernel
theorem dX6_count_71 : decode cX6_count 71 = .ok (.ireturn, 1) := by decide +kernel
theorem dX6_count_72 : decode cX6_count 72 = .ok (.aload_n 0, 1) := by decide +kernel
theorem dX6_count_73 : decode cX6_count 73 = .ok (.getfield 26, 3) := by decide +kernel
theorem dX6_count_76 : decode cX6_count 76 = .ok (.getfield 144, 3) := by decide +kernel
theorem dX6_count_79 : decode cX6_count 79 = .ok (.ireturn, 1) := by decide +kernel
theorem dX6_count_80 : decode cX6_count 80 = .ok (.aload_n 0, 1) := by decide +kernel
theorem dX6_count_81 : decode cX6_count 81 = .ok (.getfield 26, 3) := by decide +kernel
theorem dX6_count_84 : decode cX6_count 84 = .ok (.invokevirtual 204, 3) := by decide +kernel
theorem dX6_count_87 : decode cX6_count 87 = .ok (.ireturn, 1) := by decide +kernel
theorem dX6_count_88 : decode cX6_count 88 = .ok (.aload_n 0, 1) := by decide +kernel
theorem dX6_count_89 : decode cX6_count 89 = .ok (.getfield 26, 3) := by decide +kernel
theorem dX6_count_92 : decode cX6_count 92 = .ok (.invokevirtual 187, 3) := by decide +kernel
theorem dX6_count_95 : decode cX6_count 95 = .ok (.invokestatic 229, 3) := by decide +kernel
theorem dX6_count_98 : decode cX6_count 98 = .ok (.ireturn, 1) := by decide +kernel
theorem dX6_count_99 : decode cX6_count 99 = .ok (.aload_n 0, 1) := by decide +kernel
theorem dX6_count_100 : decode cX6_count 100 = .ok (.getfield 33, 3) := by decide +kernel
theorem dX6_count_103 : decode cX6_count 103 = .ok (.getfield 134, 3) := by decide +kernel
theorem dX6_count_106 : decode cX6_count 106 = .ok (.ireturn, 1) := by decide +kernel
theorem dX6_count_107 : decode cX6_count 107 = .ok (.aload_n 0, 1) := by decide +kernel
theorem dX6_count_108 : decode cX6_count 108 = .ok (.getfield 19, 3) := by decide +kernel
theorem dX6_count_111 : decode cX6_count 111 = .ok (.getfield 296, 3) := by decide +kernel
theorem dX6_count_114 : decode cX6_count 114 = .ok (.ireturn, 1) := by decide +kernel
theorem dX6_count_115 : decode cX6_count 115 = .ok (.ldc 67, 2) := by decide +kernel
theorem dX6_count_117 : decode cX6_count 117 = .ok (.ireturn, 1) := by decide +kernel
theorem dX6_status_0 : decode cX6_status 0 = .ok (.aload_n 0, 1) := by decide +kernel
theorem dX6_status_1 : decode cX6_status 1 = .ok (.getfield 72, 3) := by decide +kernel
theorem dX6_status_4 : decode cX6_status 4 = .ok (.ireturn, 1) := by decide +kernel
theorem dX6_found_0 : decode cX6_found 0 = .ok (.aload_n 0, 1) := by decide +kernel
theorem dX6_found_1 : decode cX6_found 1 = .ok (.iload_n 1, 1) := by decide +kernel
theorem dX6_found_2 : decode cX6_found 2 = .ok (.putfield 72, 3) := by decide +kernel
theorem dX6_found_5 : decode cX6_found 5 = .ok (.ldc_w 299, 3) := by decide +kernel
theorem dX6_found_8 : decode cX6_found 8 = .ok (.iload_n 1, 1) := by decide +kernel
theorem dX6_found_9 : decode cX6_found 9 = .ok (.isub, 1) := by decide +kernel
theorem dX6_found_10 : decode cX6_found 10 = .ok (.ireturn, 1) := by decide +kernel
theorem dX6_imageAt_0 : decode cX6_imageAt 0 = .ok (.iload_n 1, 1) := by decide +kernel
theorem dX6_imageAt_1 : decode cX6_imageAt 1 = .ok (.ifCond .ne 10, 3) := by decide +kernel
theorem dX6_imageAt_4 : decode cX6_imageAt 4 = .ok (.aload_n 0, 1) := by decide +kernel
theorem dX6_imageAt_5 : decode cX6_imageAt 5 = .ok (.getfield 37, 3) := by decide +kernel
theorem dX6_imageAt_8 : decode cX6_imageAt 8 = .ok (.goto 7, 3) := by decide +kernel
theorem dX6_imageAt_11 : decode cX6_imageAt 11 = .ok (.aload_n 0, 1) := by decide +kernel
theorem dX6_imageAt_12 : decode cX6_imageAt 12 = .ok (.getfield 40, 3) := by decide +kernel
theorem dX6_imageAt_15 : decode cX6_imageAt 15 = .ok (.areturn, 1) := by decide +kernel
theorem dX6_within_0 : decode cX6_within 0 = .ok (.iload_n 0, 1) := by decide +kernel
theorem dX6_within_1 : decode cX6_within 1 = .ok (.iload_n 1, 1) := by decide +kernel
theorem dX6_within_2 : decode cX6_within 2 = .ok (.if_icmp .lt 12, 3) := by decide +kernel
theorem dX6_within_5 : decode cX6_within 5 = .ok (.iload_n 0, 1) := by decide +kernel
theorem dX6_within_6 : decode cX6_within 6 = .ok (.iload_n 2, 1) := by decide +kernel
theorem dX6_within_7 : decode cX6_within 7 = .ok (.if_icmp .gt 7, 3) := by decide +kernel
theorem dX6_within_10 : decode cX6_within 10 = .ok (.iconst 1, 1) := by decide +kernel
theorem dX6_within_11 : decode cX6_within 11 = .ok (.goto 4, 3) := by decide +kernel
theorem dX6_within_14 : decode cX6_within 14 = .ok (.iconst 0, 1) := by decide +kernel
theorem dX6_within_15 : decode cX6_within 15 = .ok (.ireturn, 1) := by decide +kernel
theorem dX6_isPlace_0 : decode cX6_isPlace 0 = .ok (.iload_n 0, 1) := by decide +kernel
theorem dX6_isPlace_1 : decode cX6_isPlace 1 = .ok (.iconst 0, 1) := by decide +kernel
theorem dX6_isPlace_2 : decode cX6_isPlace 2 = .ok (.bipush 9, 2) := by decide +kernel
theorem dX6_isPlace_4 : decode cX6_isPlace 4 = .ok (.invokestatic 63, 3) := by decide +kernel
theorem dX6_isPlace_7 : decode cX6_isPlace 7 = .ok (.ireturn, 1) := by decide +kernel
theorem dX6_isOfKind_0 : decode cX6_isOfKind 0 = .ok (.iload_n 0, 1) := by decide +kernel
theorem dX6_isOfKind_1 : decode cX6_isOfKind 1 = .ok (.istore_n 2, 1) := by decide +kernel
theorem dX6_isOfKind_2 : decode cX6_isOfKind 2 = .ok (.iconst 0, 1) := by decide +kernel
theorem dX6_isOfKind_3 : decode cX6_isOfKind 3 = .ok (.istore_n 3, 1) := by decide +kernel
theorem dX6_isOfKind_4 : decode cX6_isOfKind 4 = .ok (.iload_n 3, 1) := by decide +kernel
theorem dX6_isOfKind_5 : decode cX6_isOfKind 5 = .ok (.bipush 6, 2) := by decide +kernel
theorem dX6_isOfKind_7 : decode cX6_isOfKind 7 = .ok (.if_icmp .ge 33, 3) := by decide +kernel
theorem dX6_isOfKind_10 : decode cX6_isOfKind 10 = .ok (.iload_n 2, 1) := by decide +kernel
theorem dX6_isOfKind_11 : decode cX6_isOfKind 11 = .ok (.iload_n 1, 1) := by decide +kernel
theorem dX6_isOfKind_12 : decode cX6_isOfKind 12 = .ok (.if_icmp .ne 5, 3) := by decide +kernel
theorem dX6_isOfKind_15 : decode cX6_isOfKind 15 = .ok (.iconst 1, 1) := by decide +kernel
theorem dX6_isOfKind_16 : decode cX6_isOfKind 16 = .ok (.ireturn, 1) := by decide +kernel
theorem dX6_isOfKind_17 : decode cX6_isOfKind 17 = .ok (.iload_n 2, 1) := by decide +kernel
theorem dX6_isOfKind_18 : decode cX6_isOfKind 18 = .ok (.iconst 1, 1) := by decide +kernel
theorem dX6_isOfKind_19 : decode cX6_isOfKind 19 = .ok (.iconst 5, 1) := by decide +kernel
theorem dX6_isOfKind_20 : decode cX6_isOfKind 20 = .ok (.invokestatic 63, 3) := by decide +kernel
theorem dX6_isOfKind_23 : decode cX6_isOfKind 23 = .ok (.ifCond .ne 5, 3) := by decide +kernel
theorem dX6_isOfKind_26 : decode cX6_isOfKind 26 = .ok (.iconst 0, 1) := by decide +kernel
theorem dX6_isOfKind_27 : decode cX6_isOfKind 27 = .ok (.ireturn, 1) := by decide +kernel
theorem dX6_isOfKind_28 : decode cX6_isOfKind 28 = .ok (.getstatic 300, 3) := by decide +kernel
theorem dX6_isOfKind_31 : decode cX6_isOfKind 31 = .ok (.iload_n 2, 1) := by decide +kernel
theorem dX6_isOfKind_32 : decode cX6_isOfKind 32 = .ok (.iaload, 1) := by decide +kernel
theorem dX6_isOfKind_33 : decode cX6_isOfKind 33 = .ok (.istore_n 2, 1) := by decide +kernel
theorem dX6_isOfKind_34 : decode cX6_isOfKind 34 = .ok (.iinc 3 1, 3) := by decide +kernel
theorem dX6_isOfKind_37 : decode cX6_isOfKind 37 = .ok (.goto (-33), 3) := by decide +kernel
theorem dX6_isOfKind_40 : decode cX6_isOfKind 40 = .ok (.iconst 0, 1) := by decide +kernel
theorem dX6_isOfKind_41 : decode cX6_isOfKind 41 = .ok (.ireturn, 1) := by decide +kernel
theorem dX6_commonDivisor_0 : decode cX6_commonDivisor 0 = .ok (.lload_n 0, 1) := by decide +kernel
theorem dX6_commonDivisor_1 : decode cX6_commonDivisor 1 = .ok (.lstore 4, 2) := by decide +kernel
theorem dX6_commonDivisor_3 : decode cX6_commonDivisor 3 = .ok (.lload_n 2, 1) := by decide +kernel
theorem dX6_commonDivisor_4 : decode cX6_commonDivisor 4 = .ok (.lstore 6, 2) := by decide +kernel
theorem dX6_commonDivisor_6 : decode cX6_commonDivisor 6 = .ok (.iconst 0, 1) := by decide +kernel
theorem dX6_commonDivisor_7 : decode cX6_commonDivisor 7 = .ok (.istore 8, 2) := by decide +kernel
theorem dX6_commonDivisor_9 : decode cX6_commonDivisor 9 = .ok (.iload 8, 2) := by decide +kernel
theorem dX6_commonDivisor_11 : decode cX6_commonDivisor 11 = .ok (.sipush 200, 3) := by decide +kernel
theorem dX6_commonDivisor_14 : decode cX6_commonDivisor 14 = .ok (.if_icmp .ge 31, 3) := by decide +kernel
theorem dX6_commonDivisor_17 : decode cX6_commonDivisor 17 = .ok (.lload 6, 2) := by decide +kernel
theorem dX6_commonDivisor_19 : decode cX6_commonDivisor 19 = .ok (.lconst 0, 1) := by decide +kernel
theorem dX6_commonDivisor_20 : decode cX6_commonDivisor 20 = .ok (.lcmp, 1) := by decide +kernel
theorem dX6_commonDivisor_21 : decode cX6_commonDivisor 21 = .ok (.ifCond .eq 24, 3) := by decide +kernel
theorem dX6_commonDivisor_24 : decode cX6_commonDivisor 24 = .ok (.lload 4, 2) := by decide +kernel
theorem dX6_commonDivisor_26 : decode cX6_commonDivisor 26 = .ok (.lload 6, 2) := by decide +kernel
theorem dX6_commonDivisor_28 : decode cX6_commonDivisor 28 = .ok (.lrem, 1) := by decide +kernel
theorem dX6_commonDivisor_29 : decode cX6_commonDivisor 29 = .ok (.lstore 9, 2) := by decide +kernel
theorem dX6_commonDivisor_31 : decode cX6_commonDivisor 31 = .ok (.lload 6, 2) := by decide +kernel
theorem dX6_commonDivisor_33 : decode cX6_commonDivisor 33 = .ok (.lstore 4, 2) := by decide +kernel
theorem dX6_commonDivisor_35 : decode cX6_commonDivisor 35 = .ok (.lload 9, 2) := by decide +kernel
theorem dX6_commonDivisor_37 : decode cX6_commonDivisor 37 = .ok (.lstore 6, 2) := by decide +kernel
theorem dX6_commonDivisor_39 : decode cX6_commonDivisor 39 = .ok (.iinc 8 1, 3) := by decide +kernel
theorem dX6_commonDivisor_42 : decode cX6_commonDivisor 42 = .ok (.goto (-33), 3) := by decide +kernel
theorem dX6_commonDivisor_45 : decode cX6_commonDivisor 45 = .ok (.lload 4, 2) := by decide +kernel
theorem dX6_commonDivisor_47 : decode cX6_commonDivisor 47 = .ok (.lreturn, 1) := by decide +kernel
