/-! ===== decode rows ===== -/
theorem dX7_move_0 : decode cX7_move 0 = .ok (.aload_n 0, 1) := by decide +kernel
theorem dX7_move_1 : decode cX7_move 1 = .ok (.iconst 0, 1) := by decide +kernel
theorem dX7_move_2 : decode cX7_move 2 = .ok (.putfield 44, 3) := by decide +kernel
theorem dX7_move_5 : decode cX7_move 5 = .ok (.aload_n 0, 1) := by decide +kernel
theorem dX7_move_6 : decode cX7_move 6 = .ok (.iload_n 1, 1) := by decide +kernel
theorem dX7_move_7 : decode cX7_move 7 = .ok (.invokevirtual 180, 3) := by decide +kernel
theorem dX7_move_10 : decode cX7_move 10 = .ok (.ifCond .eq 15, 3) := by decide +kernel
theorem dX7_move_13 : decode cX7_move 13 = .ok (.iload_n 2, 1) := by decide +kernel
theorem dX7_move_14 : decode cX7_move 14 = .ok (.i2l, 1) := by decide +kernel
theorem dX7_move_15 : decode cX7_move 15 = .ok (.lconst 0, 1) := by decide +kernel
theorem dX7_move_16 : decode cX7_move 16 = .ok (.ldc2_w 183, 3) := by decide +kernel
theorem dX7_move_19 : decode cX7_move 19 = .ok (.invokestatic 54, 3) := by decide +kernel
theorem dX7_move_22 : decode cX7_move 22 = .ok (.ifCond .ne 6, 3) := by decide +kernel
theorem dX7_move_25 : decode cX7_move 25 = .ok (.ldc 64, 2) := by decide +kernel
theorem dX7_move_27 : decode cX7_move 27 = .ok (.ireturn, 1) := by decide +kernel
theorem dX7_move_28 : decode cX7_move 28 = .ok (.aload_n 0, 1) := by decide +kernel
theorem dX7_move_29 : decode cX7_move 29 = .ok (.getfield 19, 3) := by decide +kernel
theorem dX7_move_32 : decode cX7_move 32 = .ok (.iload_n 1, 1) := by decide +kernel
theorem dX7_move_33 : decode cX7_move 33 = .ok (.iconst 1, 1) := by decide +kernel
theorem dX7_move_34 : decode cX7_move 34 = .ok (.invokestatic 146, 3) := by decide +kernel
theorem dX7_move_37 : decode cX7_move 37 = .ok (.istore_n 3, 1) := by decide +kernel
theorem dX7_move_38 : decode cX7_move 38 = .ok (.iload_n 3, 1) := by decide +kernel
theorem dX7_move_39 : decode cX7_move 39 = .ok (.iload_n 2, 1) := by decide +kernel
theorem dX7_move_40 : decode cX7_move 40 = .ok (.if_icmp .ne 6, 3) := by decide +kernel
theorem dX7_move_43 : decode cX7_move 43 = .ok (.ldc 174, 2) := by decide +kernel
theorem dX7_move_45 : decode cX7_move 45 = .ok (.ireturn, 1) := by decide +kernel
theorem dX7_move_46 : decode cX7_move 46 = .ok (.aload_n 0, 1) := by decide +kernel
theorem dX7_move_47 : decode cX7_move 47 = .ok (.invokevirtual 177, 3) := by decide +kernel
theorem dX7_move_50 : decode cX7_move 50 = .ok (.aload_n 0, 1) := by decide +kernel
theorem dX7_move_51 : decode cX7_move 51 = .ok (.getfield 19, 3) := by decide +kernel
theorem dX7_move_54 : decode cX7_move 54 = .ok (.iload_n 1, 1) := by decide +kernel
theorem dX7_move_55 : decode cX7_move 55 = .ok (.iconst 1, 1) := by decide +kernel
theorem dX7_move_56 : decode cX7_move 56 = .ok (.iload_n 2, 1) := by decide +kernel
theorem dX7_move_57 : decode cX7_move 57 = .ok (.invokestatic 154, 3) := by decide +kernel
theorem dX7_move_60 : decode cX7_move 60 = .ok (.iload_n 3, 1) := by decide +kernel
theorem dX7_move_61 : decode cX7_move 61 = .ok (.ireturn, 1) := by decide +kernel
theorem dX7_write_0 : decode cX7_write 0 = .ok (.aload_n 0, 1) := by decide +kernel
theorem dX7_write_1 : decode cX7_write 1 = .ok (.iconst 0, 1) := by decide +kernel
theorem dX7_write_2 : decode cX7_write 2 = .ok (.putfield 44, 3) := by decide +kernel
theorem dX7_write_5 : decode cX7_write 5 = .ok (.aload_n 0, 1) := by decide +kernel
theorem dX7_write_6 : decode cX7_write 6 = .ok (.iload_n 1, 1) := by decide +kernel
theorem dX7_write_7 : decode cX7_write 7 = .ok (.invokevirtual 180, 3) := by decide +kernel
theorem dX7_write_10 : decode cX7_write 10 = .ok (.ifCond .eq 15, 3) := by decide +kernel
theorem dX7_write_13 : decode cX7_write 13 = .ok (.iload_n 2, 1) := by decide +kernel
theorem dX7_write_14 : decode cX7_write 14 = .ok (.i2l, 1) := by decide +kernel
theorem dX7_write_15 : decode cX7_write 15 = .ok (.lconst 1, 1) := by decide +kernel
theorem dX7_write_16 : decode cX7_write 16 = .ok (.ldc2_w 183, 3) := by decide +kernel
theorem dX7_write_19 : decode cX7_write 19 = .ok (.invokestatic 54, 3) := by decide +kernel
theorem dX7_write_22 : decode cX7_write 22 = .ok (.ifCond .ne 6, 3) := by decide +kernel
theorem dX7_write_25 : decode cX7_write 25 = .ok (.ldc 64, 2) := by decide +kernel
theorem dX7_write_27 : decode cX7_write 27 = .ok (.ireturn, 1) := by decide +kernel
theorem dX7_write_28 : decode cX7_write 28 = .ok (.aload_n 0, 1) := by decide +kernel
theorem dX7_write_29 : decode cX7_write 29 = .ok (.invokevirtual 177, 3) := by decide +kernel
theorem dX7_write_32 : decode cX7_write 32 = .ok (.aload_n 0, 1) := by decide +kernel
theorem dX7_write_33 : decode cX7_write 33 = .ok (.getfield 19, 3) := by decide +kernel
theorem dX7_write_36 : decode cX7_write 36 = .ok (.iload_n 1, 1) := by decide +kernel
theorem dX7_write_37 : decode cX7_write 37 = .ok (.iconst 3, 1) := by decide +kernel
theorem dX7_write_38 : decode cX7_write 38 = .ok (.invokestatic 146, 3) := by decide +kernel
theorem dX7_write_41 : decode cX7_write 41 = .ok (.istore_n 3, 1) := by decide +kernel
theorem dX7_write_42 : decode cX7_write 42 = .ok (.aload_n 0, 1) := by decide +kernel
theorem dX7_write_43 : decode cX7_write 43 = .ok (.getfield 19, 3) := by decide +kernel
theorem dX7_write_46 : decode cX7_write 46 = .ok (.iload_n 1, 1) := by decide +kernel
theorem dX7_write_47 : decode cX7_write 47 = .ok (.iconst 3, 1) := by decide +kernel
theorem dX7_write_48 : decode cX7_write 48 = .ok (.iload_n 2, 1) := by decide +kernel
theorem dX7_write_49 : decode cX7_write 49 = .ok (.invokestatic 154, 3) := by decide +kernel
theorem dX7_write_52 : decode cX7_write 52 = .ok (.iload_n 3, 1) := by decide +kernel
theorem dX7_write_53 : decode cX7_write 53 = .ok (.ireturn, 1) := by decide +kernel
theorem dX7_hide_0 : decode cX7_hide 0 = .ok (.aload_n 0, 1) := by decide +kernel
theorem dX7_hide_1 : decode cX7_hide 1 = .ok (.iconst 0, 1) := by decide +kernel
theorem dX7_hide_2 : decode cX7_hide 2 = .ok (.putfield 44, 3) := by decide +kernel
theorem dX7_hide_5 : decode cX7_hide 5 = .ok (.aload_n 0, 1) := by decide +kernel
theorem dX7_hide_6 : decode cX7_hide 6 = .ok (.iload_n 1, 1) := by decide +kernel
theorem dX7_hide_7 : decode cX7_hide 7 = .ok (.invokevirtual 180, 3) := by decide +kernel
theorem dX7_hide_10 : decode cX7_hide 10 = .ok (.ifCond .ne 6, 3) := by decide +kernel
theorem dX7_hide_13 : decode cX7_hide 13 = .ok (.ldc 64, 2) := by decide +kernel
theorem dX7_hide_15 : decode cX7_hide 15 = .ok (.ireturn, 1) := by decide +kernel
theorem dX7_hide_16 : decode cX7_hide 16 = .ok (.aload_n 0, 1) := by decide +kernel
theorem dX7_hide_17 : decode cX7_hide 17 = .ok (.invokevirtual 177, 3) := by decide +kernel
theorem dX7_hide_20 : decode cX7_hide 20 = .ok (.aload_n 0, 1) := by decide +kernel
theorem dX7_hide_21 : decode cX7_hide 21 = .ok (.getfield 19, 3) := by decide +kernel
theorem dX7_hide_24 : decode cX7_hide 24 = .ok (.iload_n 1, 1) := by decide +kernel
theorem dX7_hide_25 : decode cX7_hide 25 = .ok (.iconst 4, 1) := by decide +kernel
theorem dX7_hide_26 : decode cX7_hide 26 = .ok (.iconst 1, 1) := by decide +kernel
theorem dX7_hide_27 : decode cX7_hide 27 = .ok (.aload_n 0, 1) := by decide +kernel
theorem dX7_hide_28 : decode cX7_hide 28 = .ok (.getfield 19, 3) := by decide +kernel
theorem dX7_hide_31 : decode cX7_hide 31 = .ok (.iload_n 1, 1) := by decide +kernel
theorem dX7_hide_32 : decode cX7_hide 32 = .ok (.iconst 4, 1) := by decide +kernel
theorem dX7_hide_33 : decode cX7_hide 33 = .ok (.invokestatic 146, 3) := by decide +kernel
theorem dX7_hide_36 : decode cX7_hide 36 = .ok (.isub, 1) := by decide +kernel
theorem dX7_hide_37 : decode cX7_hide 37 = .ok (.invokestatic 154, 3) := by decide +kernel
theorem dX7_hide_40 : decode cX7_hide 40 = .ok (.aload_n 0, 1) := by decide +kernel
theorem dX7_hide_41 : decode cX7_hide 41 = .ok (.getfield 19, 3) := by decide +kernel
theorem dX7_hide_44 : decode cX7_hide 44 = .ok (.iload_n 1, 1) := by decide +kernel
theorem dX7_hide_45 : decode cX7_hide 45 = .ok (.iconst 4, 1) := by decide +kernel
theorem dX7_hide_46 : decode cX7_hide 46 = .ok (.invokestatic 146, 3) := by decide +kernel
theorem dX7_hide_49 : decode cX7_hide 49 = .ok (.ireturn, 1) := by decide +kernel
theorem dX7_clock_0 : decode cX7_clock 0 = .ok (.aload_n 0, 1) := by decide +kernel
theorem dX7_clock_1 : decode cX7_clock 1 = .ok (.iconst 0, 1) := by decide +kernel
theorem dX7_clock_2 : decode cX7_clock 2 = .ok (.putfield 44, 3) := by decide +kernel
theorem dX7_clock_5 : decode cX7_clock 5 = .ok (.aload_n 0, 1) := by decide +kernel
theorem dX7_clock_6 : decode cX7_clock 6 = .ok (.invokevirtual 171, 3) := by decide +kernel
theorem dX7_clock_9 : decode cX7_clock 9 = .ok (.ifCond .ne 6, 3) := by decide +kernel
theorem dX7_clock_12 : decode cX7_clock 12 = .ok (.ldc 174, 2) := by decide +kernel
theorem dX7_clock_14 : decode cX7_clock 14 = .ok (.ireturn, 1) := by decide +kernel
theorem dX7_clock_15 : decode cX7_clock 15 = .ok (.iload_n 1, 1) := by decide +kernel
theorem dX7_clock_16 : decode cX7_clock 16 = .ok (.i2l, 1) := by decide +kernel
theorem dX7_clock_17 : decode cX7_clock 17 = .ok (.lconst 0, 1) := by decide +kernel
theorem dX7_clock_18 : decode cX7_clock 18 = .ok (.ldc2_w 183, 3) := by decide +kernel
theorem dX7_clock_21 : decode cX7_clock 21 = .ok (.invokestatic 54, 3) := by decide +kernel
theorem dX7_clock_24 : decode cX7_clock 24 = .ok (.ifCond .ne 6, 3) := by decide +kernel
theorem dX7_clock_27 : decode cX7_clock 27 = .ok (.ldc 64, 2) := by decide +kernel
theorem dX7_clock_29 : decode cX7_clock 29 = .ok (.ireturn, 1) := by decide +kernel
theorem dX7_clock_30 : decode cX7_clock 30 = .ok (.aload_n 0, 1) := by decide +kernel
theorem dX7_clock_31 : decode cX7_clock 31 = .ok (.getfield 19, 3) := by decide +kernel
theorem dX7_clock_34 : decode cX7_clock 34 = .ok (.iconst 1, 1) := by decide +kernel
theorem dX7_clock_35 : decode cX7_clock 35 = .ok (.iaload, 1) := by decide +kernel
theorem dX7_clock_36 : decode cX7_clock 36 = .ok (.istore_n 2, 1) := by decide +kernel
theorem dX7_clock_37 : decode cX7_clock 37 = .ok (.iload_n 2, 1) := by decide +kernel
theorem dX7_clock_38 : decode cX7_clock 38 = .ok (.iload_n 1, 1) := by decide +kernel
theorem dX7_clock_39 : decode cX7_clock 39 = .ok (.if_icmp .ne 6, 3) := by decide +kernel
theorem dX7_clock_42 : decode cX7_clock 42 = .ok (.ldc 174, 2) := by decide +kernel
theorem dX7_clock_44 : decode cX7_clock 44 = .ok (.ireturn, 1) := by decide +kernel
theorem dX7_clock_45 : decode cX7_clock 45 = .ok (.aload_n 0, 1) := by decide +kernel
theorem dX7_clock_46 : decode cX7_clock 46 = .ok (.invokevirtual 177, 3) := by decide +kernel
theorem dX7_clock_49 : decode cX7_clock 49 = .ok (.aload_n 0, 1) := by decide +kernel
theorem dX7_clock_50 : decode cX7_clock 50 = .ok (.getfield 19, 3) := by decide +kernel
theorem dX7_clock_53 : decode cX7_clock 53 = .ok (.iconst 1, 1) := by decide +kernel
theorem dX7_clock_54 : decode cX7_clock 54 = .ok (.iload_n 1, 1) := by decide +kernel
theorem dX7_clock_55 : decode cX7_clock 55 = .ok (.iastore, 1) := by decide +kernel
theorem dX7_clock_56 : decode cX7_clock 56 = .ok (.iload_n 2, 1) := by decide +kernel
theorem dX7_clock_57 : decode cX7_clock 57 = .ok (.ireturn, 1) := by decide +kernel
theorem dX7_undo_0 : decode cX7_undo 0 = .ok (.aload_n 0, 1) := by decide +kernel
theorem dX7_undo_1 : decode cX7_undo 1 = .ok (.iconst 0, 1) := by decide +kernel
theorem dX7_undo_2 : decode cX7_undo 2 = .ok (.putfield 44, 3) := by decide +kernel
theorem dX7_undo_5 : decode cX7_undo 5 = .ok (.aload_n 0, 1) := by decide +kernel
theorem dX7_undo_6 : decode cX7_undo 6 = .ok (.getfield 143, 3) := by decide +kernel
theorem dX7_undo_9 : decode cX7_undo 9 = .ok (.ifCond .ne 6, 3) := by decide +kernel
theorem dX7_undo_12 : decode cX7_undo 12 = .ok (.ldc 174, 2) := by decide +kernel
theorem dX7_undo_14 : decode cX7_undo 14 = .ok (.ireturn, 1) := by decide +kernel
theorem dX7_undo_15 : decode cX7_undo 15 = .ok (.aload_n 0, 1) := by decide +kernel
theorem dX7_undo_16 : decode cX7_undo 16 = .ok (.dup, 1) := by decide +kernel
theorem dX7_undo_17 : decode cX7_undo 17 = .ok (.getfield 143, 3) := by decide +kernel
theorem dX7_undo_20 : decode cX7_undo 20 = .ok (.iconst 1, 1) := by decide +kernel
theorem dX7_undo_21 : decode cX7_undo 21 = .ok (.isub, 1) := by decide +kernel
theorem dX7_undo_22 : decode cX7_undo 22 = .ok (.putfield 143, 3) := by decide +kernel
theorem dX7_undo_25 : decode cX7_undo 25 = .ok (.iconst 0, 1) := by decide +kernel
theorem dX7_undo_26 : decode cX7_undo 26 = .ok (.istore_n 1, 1) := by decide +kernel
theorem dX7_undo_27 : decode cX7_undo 27 = .ok (.iload_n 1, 1) := by decide +kernel
theorem dX7_undo_28 : decode cX7_undo 28 = .ok (.bipush 36, 2) := by decide +kernel
theorem dX7_undo_30 : decode cX7_undo 30 = .ok (.if_icmp .ge 29, 3) := by decide +kernel
theorem dX7_undo_33 : decode cX7_undo 33 = .ok (.aload_n 0, 1) := by decide +kernel
theorem dX7_undo_34 : decode cX7_undo 34 = .ok (.getfield 19, 3) := by decide +kernel
theorem dX7_undo_37 : decode cX7_undo 37 = .ok (.iload_n 1, 1) := by decide +kernel
theorem dX7_undo_38 : decode cX7_undo 38 = .ok (.aload_n 0, 1) := by decide +kernel
theorem dX7_undo_39 : decode cX7_undo 39 = .ok (.getfield 28, 3) := by decide +kernel
theorem dX7_undo_42 : decode cX7_undo 42 = .ok (.bipush 36, 2) := by decide +kernel
theorem dX7_undo_44 : decode cX7_undo 44 = .ok (.aload_n 0, 1) := by decide +kernel
theorem dX7_undo_45 : decode cX7_undo 45 = .ok (.getfield 143, 3) := by decide +kernel
theorem dX7_undo_48 : decode cX7_undo 48 = .ok (.imul, 1) := by decide +kernel
theorem dX7_undo_49 : decode cX7_undo 49 = .ok (.iload_n 1, 1) := by decide +kernel
theorem dX7_undo_50 : decode cX7_undo 50 = .ok (.iadd, 1) := by decide +kernel
theorem dX7_undo_51 : decode cX7_undo 51 = .ok (.iaload, 1) := by decide +kernel
theorem dX7_undo_52 : decode cX7_undo 52 = .ok (.iastore, 1) := by decide +kernel
theorem dX7_undo_53 : decode cX7_undo 53 = .ok (.iinc 1 1, 3) := by decide +kernel
theorem dX7_undo_56 : decode cX7_undo 56 = .ok (.goto (-29), 3) := by decide +kernel
theorem dX7_undo_59 : decode cX7_undo 59 = .ok (.aload_n 0, 1) := by decide +kernel
theorem dX7_undo_60 : decode cX7_undo 60 = .ok (.getfield 143, 3) := by decide +kernel
theorem dX7_undo_63 : decode cX7_undo 63 = .ok (.ireturn, 1) := by decide +kernel
theorem dX7_paper_0 : decode cX7_paper 0 = .ok (.aload_n 0, 1) := by decide +kernel
theorem dX7_paper_1 : decode cX7_paper 1 = .ok (.iconst 0, 1) := by decide +kernel
theorem dX7_paper_2 : decode cX7_paper 2 = .ok (.putfield 44, 3) := by decide +kernel
theorem dX7_paper_5 : decode cX7_paper 5 = .ok (.aload_n 0, 1) := by decide +kernel
theorem dX7_paper_6 : decode cX7_paper 6 = .ok (.iload_n 1, 1) := by decide +kernel
theorem dX7_paper_7 : decode cX7_paper 7 = .ok (.invokevirtual 180, 3) := by decide +kernel
theorem dX7_paper_10 : decode cX7_paper 10 = .ok (.ifCond .ne 6, 3) := by decide +kernel
theorem dX7_paper_13 : decode cX7_paper 13 = .ok (.ldc 64, 2) := by decide +kernel
theorem dX7_paper_15 : decode cX7_paper 15 = .ok (.ireturn, 1) := by decide +kernel
theorem dX7_paper_16 : decode cX7_paper 16 = .ok (.iload_n 2, 1) := by decide +kernel
theorem dX7_paper_17 : decode cX7_paper 17 = .ok (.tableswitch 84 0 4 #[35, 45, 55, 65, 74], 35) := by decide +kernel
theorem dX7_paper_52 : decode cX7_paper 52 = .ok (.aload_n 0, 1) := by decide +kernel
theorem dX7_paper_53 : decode cX7_paper 53 = .ok (.getfield 19, 3) := by decide +kernel
theorem dX7_paper_56 : decode cX7_paper 56 = .ok (.iload_n 1, 1) := by decide +kernel
theorem dX7_paper_57 : decode cX7_paper 57 = .ok (.iconst 1, 1) := by decide +kernel
theorem dX7_paper_58 : decode cX7_paper 58 = .ok (.invokestatic 146, 3) := by decide +kernel
theorem dX7_paper_61 : decode cX7_paper 61 = .ok (.ireturn, 1) := by decide +kernel
theorem dX7_paper_62 : decode cX7_paper 62 = .ok (.aload_n 0, 1) := by decide +kernel
theorem dX7_paper_63 : decode cX7_paper 63 = .ok (.getfield 19, 3) := by decide +kernel
theorem dX7_paper_66 : decode cX7_paper 66 = .ok (.iload_n 1, 1) := by decide +kernel
theorem dX7_paper_67 : decode cX7_paper 67 = .ok (.iconst 2, 1) := by decide +kernel
theorem dX7_paper_68 : decode cX7_paper 68 = .ok (.invokestatic 146, 3) := by decide +kernel
theorem dX7_paper_71 : decode cX7_paper 71 = .ok (.ireturn, 1) := by decide +kernel
theorem dX7_paper_72 : decode cX7_paper 72 = .ok (.aload_n 0, 1) := by decide +kernel
theorem dX7_paper_73 : decode cX7_paper 73 = .ok (.getfield 19, 3) := by decide +kernel
theorem dX7_paper_76 : decode cX7_paper 76 = .ok (.iload_n 1, 1) := by decide +kernel
theorem dX7_paper_77 : decode cX7_paper 77 = .ok (.iconst 3, 1) := by decide +kernel
theorem dX7_paper_78 : decode cX7_paper 78 = .ok (.invokestatic 146, 3) := by decide +kernel
theorem dX7_paper_81 : decode cX7_paper 81 = .ok (.ireturn, 1) := by decide +kernel
theorem dX7_paper_82 : decode cX7_paper 82 = .ok (.aload_n 0, 1) := by decide +kernel
theorem dX7_paper_83 : decode cX7_paper 83 = .ok (.getfield 19, 3) := by decide +kernel
theorem dX7_paper_86 : decode cX7_paper 86 = .ok (.iload_n 1, 1) := by decide +kernel
theorem dX7_paper_87 : decode cX7_paper 87 = .ok (.invokestatic 150, 3) := by decide +kernel
theorem dX7_paper_90 : decode cX7_paper 90 = .ok (.ireturn, 1) := by decide +kernel
theorem dX7_paper_91 : decode cX7_paper 91 = .ok (.aload_n 0, 1) := by decide +kernel
theorem dX7_paper_92 : decode cX7_paper 92 = .ok (.getfield 19, 3) := by decide +kernel
theorem dX7_paper_95 : decode cX7_paper 95 = .ok (.iload_n 1, 1) := by decide +kernel
theorem dX7_paper_96 : decode cX7_paper 96 = .ok (.iconst 4, 1) := by decide +kernel
theorem dX7_paper_97 : decode cX7_paper 97 = .ok (.invokestatic 146, 3) := by decide +kernel
theorem dX7_paper_100 : decode cX7_paper 100 = .ok (.ireturn, 1) := by decide +kernel
theorem dX7_paper_101 : decode cX7_paper 101 = .ok (.ldc 64, 2) := by decide +kernel
theorem dX7_paper_103 : decode cX7_paper 103 = .ok (.ireturn, 1) := by decide +kernel
theorem dX7_stand_0 : decode cX7_stand 0 = .ok (.aload_n 0, 1) := by decide +kernel
theorem dX7_stand_1 : decode cX7_stand 1 = .ok (.iconst 0, 1) := by decide +kernel
theorem dX7_stand_2 : decode cX7_stand 2 = .ok (.putfield 44, 3) := by decide +kernel
theorem dX7_stand_5 : decode cX7_stand 5 = .ok (.aload_n 0, 1) := by decide +kernel
theorem dX7_stand_6 : decode cX7_stand 6 = .ok (.invokevirtual 171, 3) := by decide +kernel
theorem dX7_stand_9 : decode cX7_stand 9 = .ok (.ifCond .ne 6, 3) := by decide +kernel
theorem dX7_stand_12 : decode cX7_stand 12 = .ok (.ldc 174, 2) := by decide +kernel
theorem dX7_stand_14 : decode cX7_stand 14 = .ok (.ireturn, 1) := by decide +kernel
theorem dX7_stand_15 : decode cX7_stand 15 = .ok (.iload_n 1, 1) := by decide +kernel
theorem dX7_stand_16 : decode cX7_stand 16 = .ok (.tableswitch 75 0 6 #[44, 44, 44, 44, 51, 59, 67], 44) := by decide +kernel
theorem dX7_stand_60 : decode cX7_stand 60 = .ok (.aload_n 0, 1) := by decide +kernel
theorem dX7_stand_61 : decode cX7_stand 61 = .ok (.getfield 19, 3) := by decide +kernel
theorem dX7_stand_64 : decode cX7_stand 64 = .ok (.iload_n 1, 1) := by decide +kernel
theorem dX7_stand_65 : decode cX7_stand 65 = .ok (.iaload, 1) := by decide +kernel
theorem dX7_stand_66 : decode cX7_stand 66 = .ok (.ireturn, 1) := by decide +kernel
theorem dX7_stand_67 : decode cX7_stand 67 = .ok (.aload_n 0, 1) := by decide +kernel
theorem dX7_stand_68 : decode cX7_stand 68 = .ok (.getfield 19, 3) := by decide +kernel
theorem dX7_stand_71 : decode cX7_stand 71 = .ok (.invokestatic 185, 3) := by decide +kernel
theorem dX7_stand_74 : decode cX7_stand 74 = .ok (.ireturn, 1) := by decide +kernel
theorem dX7_stand_75 : decode cX7_stand 75 = .ok (.aload_n 0, 1) := by decide +kernel
theorem dX7_stand_76 : decode cX7_stand 76 = .ok (.getfield 19, 3) := by decide +kernel
theorem dX7_stand_79 : decode cX7_stand 79 = .ok (.invokestatic 188, 3) := by decide +kernel
theorem dX7_stand_82 : decode cX7_stand 82 = .ok (.ireturn, 1) := by decide +kernel
theorem dX7_stand_83 : decode cX7_stand 83 = .ok (.aload_n 0, 1) := by decide +kernel
theorem dX7_stand_84 : decode cX7_stand 84 = .ok (.getfield 19, 3) := by decide +kernel
theorem dX7_stand_87 : decode cX7_stand 87 = .ok (.invokestatic 161, 3) := by decide +kernel
theorem dX7_stand_90 : decode cX7_stand 90 = .ok (.ireturn, 1) := by decide +kernel
theorem dX7_stand_91 : decode cX7_stand 91 = .ok (.ldc 64, 2) := by decide +kernel
theorem dX7_stand_93 : decode cX7_stand 93 = .ok (.ireturn, 1) := by decide +kernel
theorem dX7_ahead_0 : decode cX7_ahead 0 = .ok (.aload_n 0, 1) := by decide +kernel
theorem dX7_ahead_1 : decode cX7_ahead 1 = .ok (.iconst 0, 1) := by decide +kernel
theorem dX7_ahead_2 : decode cX7_ahead 2 = .ok (.putfield 44, 3) := by decide +kernel
theorem dX7_ahead_5 : decode cX7_ahead 5 = .ok (.aload_n 0, 1) := by decide +kernel
theorem dX7_ahead_6 : decode cX7_ahead 6 = .ok (.iload_n 1, 1) := by decide +kernel
theorem dX7_ahead_7 : decode cX7_ahead 7 = .ok (.invokevirtual 180, 3) := by decide +kernel
theorem dX7_ahead_10 : decode cX7_ahead 10 = .ok (.ifCond .eq 25, 3) := by decide +kernel
theorem dX7_ahead_13 : decode cX7_ahead 13 = .ok (.iload_n 2, 1) := by decide +kernel
theorem dX7_ahead_14 : decode cX7_ahead 14 = .ok (.i2l, 1) := by decide +kernel
theorem dX7_ahead_15 : decode cX7_ahead 15 = .ok (.lconst 0, 1) := by decide +kernel
theorem dX7_ahead_16 : decode cX7_ahead 16 = .ok (.ldc2_w 191, 3) := by decide +kernel
theorem dX7_ahead_19 : decode cX7_ahead 19 = .ok (.invokestatic 54, 3) := by decide +kernel
theorem dX7_ahead_22 : decode cX7_ahead 22 = .ok (.ifCond .eq 13, 3) := by decide +kernel
theorem dX7_ahead_25 : decode cX7_ahead 25 = .ok (.iload_n 3, 1) := by decide +kernel
theorem dX7_ahead_26 : decode cX7_ahead 26 = .ok (.i2l, 1) := by decide +kernel
theorem dX7_ahead_27 : decode cX7_ahead 27 = .ok (.lconst 0, 1) := by decide +kernel
theorem dX7_ahead_28 : decode cX7_ahead 28 = .ok (.lconst 1, 1) := by decide +kernel
theorem dX7_ahead_29 : decode cX7_ahead 29 = .ok (.invokestatic 54, 3) := by decide +kernel
theorem dX7_ahead_32 : decode cX7_ahead 32 = .ok (.ifCond .ne 6, 3) := by decide +kernel
theorem dX7_ahead_35 : decode cX7_ahead 35 = .ok (.ldc 64, 2) := by decide +kernel
theorem dX7_ahead_37 : decode cX7_ahead 37 = .ok (.ireturn, 1) := by decide +kernel
theorem dX7_ahead_38 : decode cX7_ahead 38 = .ok (.aload_n 0, 1) := by decide +kernel
theorem dX7_ahead_39 : decode cX7_ahead 39 = .ok (.invokevirtual 193, 3) := by decide +kernel
theorem dX7_ahead_42 : decode cX7_ahead 42 = .ok (.aload_n 0, 1) := by decide +kernel
theorem dX7_ahead_43 : decode cX7_ahead 43 = .ok (.getfield 25, 3) := by decide +kernel
theorem dX7_ahead_46 : decode cX7_ahead 46 = .ok (.iload_n 2, 1) := by decide +kernel
theorem dX7_ahead_47 : decode cX7_ahead 47 = .ok (.invokestatic 196, 3) := by decide +kernel
theorem dX7_ahead_50 : decode cX7_ahead 50 = .ok (.aload_n 0, 1) := by decide +kernel
theorem dX7_ahead_51 : decode cX7_ahead 51 = .ok (.getfield 25, 3) := by decide +kernel
theorem dX7_ahead_54 : decode cX7_ahead 54 = .ok (.iload_n 1, 1) := by decide +kernel
theorem dX7_ahead_55 : decode cX7_ahead 55 = .ok (.iload_n 3, 1) := by decide +kernel
theorem dX7_ahead_56 : decode cX7_ahead 56 = .ok (.ifCond .ne 7, 3) := by decide +kernel
theorem dX7_ahead_59 : decode cX7_ahead 59 = .ok (.iconst 3, 1) := by decide +kernel
theorem dX7_ahead_60 : decode cX7_ahead 60 = .ok (.goto 4, 3) := by decide +kernel
theorem dX7_ahead_63 : decode cX7_ahead 63 = .ok (.iconst 1, 1) := by decide +kernel
theorem dX7_ahead_64 : decode cX7_ahead 64 = .ok (.invokestatic 146, 3) := by decide +kernel
theorem dX7_ahead_67 : decode cX7_ahead 67 = .ok (.ireturn, 1) := by decide +kernel
theorem dX7_bitten_0 : decode cX7_bitten 0 = .ok (.aload_n 0, 1) := by decide +kernel
theorem dX7_bitten_1 : decode cX7_bitten 1 = .ok (.iconst 0, 1) := by decide +kernel
theorem dX7_bitten_2 : decode cX7_bitten 2 = .ok (.putfield 44, 3) := by decide +kernel
theorem dX7_bitten_5 : decode cX7_bitten 5 = .ok (.aload_n 0, 1) := by decide +kernel
theorem dX7_bitten_6 : decode cX7_bitten 6 = .ok (.invokevirtual 171, 3) := by decide +kernel
theorem dX7_bitten_9 : decode cX7_bitten 9 = .ok (.ifCond .ne 6, 3) := by decide +kernel
theorem dX7_bitten_12 : decode cX7_bitten 12 = .ok (.ldc 174, 2) := by decide +kernel
theorem dX7_bitten_14 : decode cX7_bitten 14 = .ok (.ireturn, 1) := by decide +kernel
theorem dX7_bitten_15 : decode cX7_bitten 15 = .ok (.iload_n 1, 1) := by decide +kernel
theorem dX7_bitten_16 : decode cX7_bitten 16 = .ok (.i2l, 1) := by decide +kernel
theorem dX7_bitten_17 : decode cX7_bitten 17 = .ok (.lconst 1, 1) := by decide +kernel
theorem dX7_bitten_18 : decode cX7_bitten 18 = .ok (.ldc2_w 191, 3) := by decide +kernel
theorem dX7_bitten_21 : decode cX7_bitten 21 = .ok (.invokestatic 54, 3) := by decide +kernel
theorem dX7_bitten_24 : decode cX7_bitten 24 = .ok (.ifCond .eq 13, 3) := by decide +kernel
theorem dX7_bitten_27 : decode cX7_bitten 27 = .ok (.iload_n 2, 1) := by decide +kernel
theorem dX7_bitten_28 : decode cX7_bitten 28 = .ok (.i2l, 1) := by decide +kernel
theorem dX7_bitten_29 : decode cX7_bitten 29 = .ok (.lconst 0, 1) := by decide +kernel
theorem dX7_bitten_30 : decode cX7_bitten 30 = .ok (.lconst 1, 1) := by decide +kernel
theorem dX7_bitten_31 : decode cX7_bitten 31 = .ok (.invokestatic 54, 3) := by decide +kernel
theorem dX7_bitten_34 : decode cX7_bitten 34 = .ok (.ifCond .ne 6, 3) := by decide +kernel
theorem dX7_bitten_37 : decode cX7_bitten 37 = .ok (.ldc 64, 2) := by decide +kernel
theorem dX7_bitten_39 : decode cX7_bitten 39 = .ok (.ireturn, 1) := by decide +kernel
theorem dX7_bitten_40 : decode cX7_bitten 40 = .ok (.aload_n 0, 1) := by decide +kernel
theorem dX7_bitten_41 : decode cX7_bitten 41 = .ok (.invokevirtual 193, 3) := by decide +kernel
theorem dX7_bitten_44 : decode cX7_bitten 44 = .ok (.aload_n 0, 1) := by decide +kernel
theorem dX7_bitten_45 : decode cX7_bitten 45 = .ok (.getfield 25, 3) := by decide +kernel
theorem dX7_bitten_48 : decode cX7_bitten 48 = .ok (.iload_n 1, 1) := by decide +kernel
theorem dX7_bitten_49 : decode cX7_bitten 49 = .ok (.iconst 1, 1) := by decide +kernel
theorem dX7_bitten_50 : decode cX7_bitten 50 = .ok (.isub, 1) := by decide +kernel
theorem dX7_bitten_51 : decode cX7_bitten 51 = .ok (.invokestatic 196, 3) := by decide +kernel
theorem dX7_bitten_54 : decode cX7_bitten 54 = .ok (.iload_n 2, 1) := by decide +kernel
theorem dX7_bitten_55 : decode cX7_bitten 55 = .ok (.ifCond .ne 13, 3) := by decide +kernel
theorem dX7_bitten_58 : decode cX7_bitten 58 = .ok (.aload_n 0, 1) := by decide +kernel
theorem dX7_bitten_59 : decode cX7_bitten 59 = .ok (.getfield 25, 3) := by decide +kernel
theorem dX7_bitten_62 : decode cX7_bitten 62 = .ok (.invokestatic 161, 3) := by decide +kernel
theorem dX7_bitten_65 : decode cX7_bitten 65 = .ok (.goto 10, 3) := by decide +kernel
theorem dX7_bitten_68 : decode cX7_bitten 68 = .ok (.aload_n 0, 1) := by decide +kernel
theorem dX7_bitten_69 : decode cX7_bitten 69 = .ok (.getfield 25, 3) := by decide +kernel
theorem dX7_bitten_72 : decode cX7_bitten 72 = .ok (.invokestatic 168, 3) := by decide +kernel
theorem dX7_bitten_75 : decode cX7_bitten 75 = .ok (.ireturn, 1) := by decide +kernel
theorem dX7_left_0 : decode cX7_left 0 = .ok (.aload_n 0, 1) := by decide +kernel
theorem dX7_left_1 : decode cX7_left 1 = .ok (.iconst 0, 1) := by decide +kernel
theorem dX7_left_2 : decode cX7_left 2 = .ok (.putfield 44, 3) := by decide +kernel
theorem dX7_left_5 : decode cX7_left 5 = .ok (.aload_n 0, 1) := by decide +kernel
theorem dX7_left_6 : decode cX7_left 6 = .ok (.invokevirtual 171, 3) := by decide +kernel
theorem dX7_left_9 : decode cX7_left 9 = .ok (.ifCond .ne 6, 3) := by decide +kernel
theorem dX7_left_12 : decode cX7_left 12 = .ok (.ldc 174, 2) := by decide +kernel
theorem dX7_left_14 : decode cX7_left 14 = .ok (.ireturn, 1) := by decide +kernel
theorem dX7_left_15 : decode cX7_left 15 = .ok (.iload_n 1, 1) := by decide +kernel
theorem dX7_left_16 : decode cX7_left 16 = .ok (.i2l, 1) := by decide +kernel
theorem dX7_left_17 : decode cX7_left 17 = .ok (.lconst 0, 1) := by decide +kernel
theorem dX7_left_18 : decode cX7_left 18 = .ok (.ldc2_w 191, 3) := by decide +kernel
theorem dX7_left_21 : decode cX7_left 21 = .ok (.invokestatic 54, 3) := by decide +kernel
theorem dX7_left_24 : decode cX7_left 24 = .ok (.ifCond .eq 15, 3) := by decide +kernel
theorem dX7_left_27 : decode cX7_left 27 = .ok (.iload_n 2, 1) := by decide +kernel
theorem dX7_left_28 : decode cX7_left 28 = .ok (.i2l, 1) := by decide +kernel
theorem dX7_left_29 : decode cX7_left 29 = .ok (.lconst 0, 1) := by decide +kernel
theorem dX7_left_30 : decode cX7_left 30 = .ok (.ldc2_w 62, 3) := by decide +kernel
theorem dX7_left_33 : decode cX7_left 33 = .ok (.invokestatic 54, 3) := by decide +kernel
theorem dX7_left_36 : decode cX7_left 36 = .ok (.ifCond .ne 6, 3) := by decide +kernel
theorem dX7_left_39 : decode cX7_left 39 = .ok (.ldc 64, 2) := by decide +kernel
theorem dX7_left_41 : decode cX7_left 41 = .ok (.ireturn, 1) := by decide +kernel
theorem dX7_left_42 : decode cX7_left 42 = .ok (.aload_n 0, 1) := by decide +kernel
theorem dX7_left_43 : decode cX7_left 43 = .ok (.invokevirtual 193, 3) := by decide +kernel
theorem dX7_left_46 : decode cX7_left 46 = .ok (.aload_n 0, 1) := by decide +kernel
theorem dX7_left_47 : decode cX7_left 47 = .ok (.getfield 25, 3) := by decide +kernel
theorem dX7_left_50 : decode cX7_left 50 = .ok (.iload_n 1, 1) := by decide +kernel
theorem dX7_left_51 : decode cX7_left 51 = .ok (.invokestatic 196, 3) := by decide +kernel
theorem dX7_left_54 : decode cX7_left 54 = .ok (.iload_n 2, 1) := by decide +kernel
theorem dX7_left_55 : decode cX7_left 55 = .ok (.ifCond .ne 13, 3) := by decide +kernel
theorem dX7_left_58 : decode cX7_left 58 = .ok (.aload_n 0, 1) := by decide +kernel
theorem dX7_left_59 : decode cX7_left 59 = .ok (.getfield 25, 3) := by decide +kernel
theorem dX7_left_62 : decode cX7_left 62 = .ok (.invokestatic 200, 3) := by decide +kernel
theorem dX7_left_65 : decode cX7_left 65 = .ok (.goto 24, 3) := by decide +kernel
theorem dX7_left_68 : decode cX7_left 68 = .ok (.iload_n 2, 1) := by decide +kernel
theorem dX7_left_69 : decode cX7_left 69 = .ok (.iconst 1, 1) := by decide +kernel
theorem dX7_left_70 : decode cX7_left 70 = .ok (.if_icmp .ne 13, 3) := by decide +kernel
theorem dX7_left_73 : decode cX7_left 73 = .ok (.aload_n 0, 1) := by decide +kernel
theorem dX7_left_74 : decode cX7_left 74 = .ok (.getfield 25, 3) := by decide +kernel
theorem dX7_left_77 : decode cX7_left 77 = .ok (.invokestatic 185, 3) := by decide +kernel
theorem dX7_left_80 : decode cX7_left 80 = .ok (.goto 9, 3) := by decide +kernel
theorem dX7_left_83 : decode cX7_left 83 = .ok (.aload_n 0, 1) := by decide +kernel
theorem dX7_left_84 : decode cX7_left 84 = .ok (.getfield 25, 3) := by decide +kernel
theorem dX7_left_87 : decode cX7_left 87 = .ok (.iconst 1, 1) := by decide +kernel
theorem dX7_left_88 : decode cX7_left 88 = .ok (.iaload, 1) := by decide +kernel
theorem dX7_left_89 : decode cX7_left 89 = .ok (.ireturn, 1) := by decide +kernel
theorem dX7_when_0 : decode cX7_when 0 = .ok (.aload_n 0, 1) := by decide +kernel
theorem dX7_when_1 : decode cX7_when 1 = .ok (.iconst 0, 1) := by decide +kernel
theorem dX7_when_2 : decode cX7_when 2 = .ok (.putfield 44, 3) := by decide +kernel
theorem dX7_when_5 : decode cX7_when 5 = .ok (.aload_n 0, 1) := by decide +kernel
theorem dX7_when_6 : decode cX7_when 6 = .ok (.iload_n 1, 1) := by decide +kernel
theorem dX7_when_7 : decode cX7_when 7 = .ok (.invokevirtual 180, 3) := by decide +kernel
theorem dX7_when_10 : decode cX7_when 10 = .ok (.ifCond .eq 13, 3) := by decide +kernel
theorem dX7_when_13 : decode cX7_when 13 = .ok (.iload_n 2, 1) := by decide +kernel
theorem dX7_when_14 : decode cX7_when 14 = .ok (.i2l, 1) := by decide +kernel
theorem dX7_when_15 : decode cX7_when 15 = .ok (.lconst 0, 1) := by decide +kernel
theorem dX7_when_16 : decode cX7_when 16 = .ok (.lconst 1, 1) := by decide +kernel
theorem dX7_when_17 : decode cX7_when 17 = .ok (.invokestatic 54, 3) := by decide +kernel
theorem dX7_when_20 : decode cX7_when 20 = .ok (.ifCond .ne 6, 3) := by decide +kernel
theorem dX7_when_23 : decode cX7_when 23 = .ok (.ldc 64, 2) := by decide +kernel
theorem dX7_when_25 : decode cX7_when 25 = .ok (.ireturn, 1) := by decide +kernel
theorem dX7_when_26 : decode cX7_when 26 = .ok (.aload_n 0, 1) := by decide +kernel
theorem dX7_when_27 : decode cX7_when 27 = .ok (.invokevirtual 193, 3) := by decide +kernel
theorem dX7_when_30 : decode cX7_when 30 = .ok (.iconst 0, 1) := by decide +kernel
theorem dX7_when_31 : decode cX7_when 31 = .ok (.istore_n 3, 1) := by decide +kernel
theorem dX7_when_32 : decode cX7_when 32 = .ok (.iload_n 3, 1) := by decide +kernel
theorem dX7_when_33 : decode cX7_when 33 = .ok (.bipush 60, 2) := by decide +kernel
theorem dX7_when_35 : decode cX7_when 35 = .ok (.if_icmp .gt 74, 3) := by decide +kernel
theorem dX7_when_38 : decode cX7_when 38 = .ok (.iload_n 2, 1) := by decide +kernel
theorem dX7_when_39 : decode cX7_when 39 = .ok (.iconst 1, 1) := by decide +kernel
theorem dX7_when_40 : decode cX7_when 40 = .ok (.if_icmp .ne 17, 3) := by decide +kernel
theorem dX7_when_43 : decode cX7_when 43 = .ok (.aload_n 0, 1) := by decide +kernel
theorem dX7_when_44 : decode cX7_when 44 = .ok (.getfield 25, 3) := by decide +kernel
theorem dX7_when_47 : decode cX7_when 47 = .ok (.iload_n 1, 1) := by decide +kernel
theorem dX7_when_48 : decode cX7_when 48 = .ok (.iconst 3, 1) := by decide +kernel
theorem dX7_when_49 : decode cX7_when 49 = .ok (.invokestatic 146, 3) := by decide +kernel
theorem dX7_when_52 : decode cX7_when 52 = .ok (.ifCond .ne 5, 3) := by decide +kernel
theorem dX7_when_55 : decode cX7_when 55 = .ok (.iload_n 3, 1) := by decide +kernel
theorem dX7_when_56 : decode cX7_when 56 = .ok (.ireturn, 1) := by decide +kernel
theorem dX7_when_57 : decode cX7_when 57 = .ok (.iload_n 2, 1) := by decide +kernel
theorem dX7_when_58 : decode cX7_when 58 = .ok (.ifCond .ne 24, 3) := by decide +kernel
theorem dX7_when_61 : decode cX7_when 61 = .ok (.iload_n 3, 1) := by decide +kernel
theorem dX7_when_62 : decode cX7_when 62 = .ok (.bipush 60, 2) := by decide +kernel
theorem dX7_when_64 : decode cX7_when 64 = .ok (.if_icmp .ge 18, 3) := by decide +kernel
theorem dX7_when_67 : decode cX7_when 67 = .ok (.aload_n 0, 1) := by decide +kernel
theorem dX7_when_68 : decode cX7_when 68 = .ok (.getfield 25, 3) := by decide +kernel
theorem dX7_when_71 : decode cX7_when 71 = .ok (.invokestatic 161, 3) := by decide +kernel
theorem dX7_when_74 : decode cX7_when 74 = .ok (.iload_n 1, 1) := by decide +kernel
theorem dX7_when_75 : decode cX7_when 75 = .ok (.if_icmp .ne 7, 3) := by decide +kernel
theorem dX7_when_78 : decode cX7_when 78 = .ok (.iconst 1, 1) := by decide +kernel
theorem dX7_when_79 : decode cX7_when 79 = .ok (.goto 4, 3) := by decide +kernel
theorem dX7_when_82 : decode cX7_when 82 = .ok (.iconst 0, 1) := by decide +kernel
theorem dX7_when_83 : decode cX7_when 83 = .ok (.istore 4, 2) := by decide +kernel
theorem dX7_when_85 : decode cX7_when 85 = .ok (.iload 4, 2) := by decide +kernel
theorem dX7_when_87 : decode cX7_when 87 = .ok (.ifCond .eq 7, 3) := by decide +kernel
theorem dX7_when_90 : decode cX7_when 90 = .ok (.iload_n 3, 1) := by decide +kernel
theorem dX7_when_91 : decode cX7_when 91 = .ok (.iconst 1, 1) := by decide +kernel
theorem dX7_when_92 : decode cX7_when 92 = .ok (.iadd, 1) := by decide +kernel
theorem dX7_when_93 : decode cX7_when 93 = .ok (.ireturn, 1) := by decide +kernel
theorem dX7_when_94 : decode cX7_when 94 = .ok (.aload_n 0, 1) := by decide +kernel
theorem dX7_when_95 : decode cX7_when 95 = .ok (.getfield 25, 3) := by decide +kernel
theorem dX7_when_98 : decode cX7_when 98 = .ok (.invokestatic 168, 3) := by decide +kernel
theorem dX7_when_101 : decode cX7_when 101 = .ok (.istore 5, 2) := by decide +kernel
theorem dX7_when_103 : decode cX7_when 103 = .ok (.iinc 3 1, 3) := by decide +kernel
theorem dX7_when_106 : decode cX7_when 106 = .ok (.goto (-74), 3) := by decide +kernel
theorem dX7_when_109 : decode cX7_when 109 = .ok (.ldc 87, 2) := by decide +kernel
theorem dX7_when_111 : decode cX7_when 111 = .ok (.ireturn, 1) := by decide +kernel
theorem dX7_over_0 : decode cX7_over 0 = .ok (.aload_n 0, 1) := by decide +kernel
theorem dX7_over_1 : decode cX7_over 1 = .ok (.iconst 0, 1) := by decide +kernel
theorem dX7_over_2 : decode cX7_over 2 = .ok (.putfield 44, 3) := by decide +kernel
theorem dX7_over_5 : decode cX7_over 5 = .ok (.aload_n 0, 1) := by decide +kernel
theorem dX7_over_6 : decode cX7_over 6 = .ok (.invokevirtual 171, 3) := by decide +kernel
theorem dX7_over_9 : decode cX7_over 9 = .ok (.ifCond .ne 6, 3) := by decide +kernel
theorem dX7_over_12 : decode cX7_over 12 = .ok (.ldc 174, 2) := by decide +kernel
theorem dX7_over_14 : decode cX7_over 14 = .ok (.ireturn, 1) := by decide +kernel
theorem dX7_over_15 : decode cX7_over 15 = .ok (.aload_n 0, 1) := by decide +kernel
theorem dX7_over_16 : decode cX7_over 16 = .ok (.invokevirtual 193, 3) := by decide +kernel
theorem dX7_over_19 : decode cX7_over 19 = .ok (.iconst 0, 1) := by decide +kernel
theorem dX7_over_20 : decode cX7_over 20 = .ok (.istore_n 1, 1) := by decide +kernel
theorem dX7_over_21 : decode cX7_over 21 = .ok (.iload_n 1, 1) := by decide +kernel
theorem dX7_over_22 : decode cX7_over 22 = .ok (.bipush 60, 2) := by decide +kernel
theorem dX7_over_24 : decode cX7_over 24 = .ok (.if_icmp .gt 29, 3) := by decide +kernel
theorem dX7_over_27 : decode cX7_over 27 = .ok (.aload_n 0, 1) := by decide +kernel
theorem dX7_over_28 : decode cX7_over 28 = .ok (.getfield 25, 3) := by decide +kernel
theorem dX7_over_31 : decode cX7_over 31 = .ok (.invokestatic 200, 3) := by decide +kernel
theorem dX7_over_34 : decode cX7_over 34 = .ok (.ifCond .ne 5, 3) := by decide +kernel
theorem dX7_over_37 : decode cX7_over 37 = .ok (.iload_n 1, 1) := by decide +kernel
theorem dX7_over_38 : decode cX7_over 38 = .ok (.ireturn, 1) := by decide +kernel
theorem dX7_over_39 : decode cX7_over 39 = .ok (.aload_n 0, 1) := by decide +kernel
theorem dX7_over_40 : decode cX7_over 40 = .ok (.getfield 25, 3) := by decide +kernel
theorem dX7_over_43 : decode cX7_over 43 = .ok (.invokestatic 168, 3) := by decide +kernel
theorem dX7_over_46 : decode cX7_over 46 = .ok (.istore_n 2, 1) := by decide +kernel
theorem dX7_over_47 : decode cX7_over 47 = .ok (.iinc 1 1, 3) := by decide +kernel
theorem dX7_over_50 : decode cX7_over 50 = .ok (.goto (-29), 3) := by decide +kernel
theorem dX7_over_53 : decode cX7_over 53 = .ok (.ldc 87, 2) := by decide +kernel
theorem dX7_over_55 : decode cX7_over 55 = .ok (.ireturn, 1) := by decide +kernel
theorem dX7_spot_0 : decode cX7_spot 0 = .ok (.aload_n 0, 1) := by decide +kernel
theorem dX7_spot_1 : decode cX7_spot 1 = .ok (.iconst 0, 1) := by decide +kernel
theorem dX7_spot_2 : decode cX7_spot 2 = .ok (.putfield 44, 3) := by decide +kernel
theorem dX7_spot_5 : decode cX7_spot 5 = .ok (.aload_n 0, 1) := by decide +kernel
theorem dX7_spot_6 : decode cX7_spot 6 = .ok (.iload_n 1, 1) := by decide +kernel
theorem dX7_spot_7 : decode cX7_spot 7 = .ok (.invokevirtual 180, 3) := by decide +kernel
theorem dX7_spot_10 : decode cX7_spot 10 = .ok (.ifCond .eq 25, 3) := by decide +kernel
theorem dX7_spot_13 : decode cX7_spot 13 = .ok (.iload_n 2, 1) := by decide +kernel
theorem dX7_spot_14 : decode cX7_spot 14 = .ok (.i2l, 1) := by decide +kernel
theorem dX7_spot_15 : decode cX7_spot 15 = .ok (.lconst 1, 1) := by decide +kernel
theorem dX7_spot_16 : decode cX7_spot 16 = .ok (.ldc2_w 191, 3) := by decide +kernel
theorem dX7_spot_19 : decode cX7_spot 19 = .ok (.invokestatic 54, 3) := by decide +kernel
theorem dX7_spot_22 : decode cX7_spot 22 = .ok (.ifCond .eq 13, 3) := by decide +kernel
theorem dX7_spot_25 : decode cX7_spot 25 = .ok (.iload_n 3, 1) := by decide +kernel
theorem dX7_spot_26 : decode cX7_spot 26 = .ok (.i2l, 1) := by decide +kernel
theorem dX7_spot_27 : decode cX7_spot 27 = .ok (.lconst 0, 1) := by decide +kernel
theorem dX7_spot_28 : decode cX7_spot 28 = .ok (.lconst 1, 1) := by decide +kernel
theorem dX7_spot_29 : decode cX7_spot 29 = .ok (.invokestatic 54, 3) := by decide +kernel
theorem dX7_spot_32 : decode cX7_spot 32 = .ok (.ifCond .ne 6, 3) := by decide +kernel
theorem dX7_spot_35 : decode cX7_spot 35 = .ok (.ldc 64, 2) := by decide +kernel
theorem dX7_spot_37 : decode cX7_spot 37 = .ok (.ireturn, 1) := by decide +kernel
theorem dX7_spot_38 : decode cX7_spot 38 = .ok (.iconst 0, 1) := by decide +kernel
theorem dX7_spot_39 : decode cX7_spot 39 = .ok (.istore 4, 2) := by decide +kernel
theorem dX7_spot_41 : decode cX7_spot 41 = .ok (.iconst (-1), 1) := by decide +kernel
theorem dX7_spot_42 : decode cX7_spot 42 = .ok (.istore 5, 2) := by decide +kernel
theorem dX7_spot_44 : decode cX7_spot 44 = .ok (.iconst 0, 1) := by decide +kernel
theorem dX7_spot_45 : decode cX7_spot 45 = .ok (.istore 6, 2) := by decide +kernel
theorem dX7_spot_47 : decode cX7_spot 47 = .ok (.iload 6, 2) := by decide +kernel
theorem dX7_spot_49 : decode cX7_spot 49 = .ok (.bipush 10, 2) := by decide +kernel
theorem dX7_spot_51 : decode cX7_spot 51 = .ok (.if_icmp .ge 61, 3) := by decide +kernel
theorem dX7_spot_54 : decode cX7_spot 54 = .ok (.aload_n 0, 1) := by decide +kernel
theorem dX7_spot_55 : decode cX7_spot 55 = .ok (.invokevirtual 193, 3) := by decide +kernel
theorem dX7_spot_58 : decode cX7_spot 58 = .ok (.aload_n 0, 1) := by decide +kernel
theorem dX7_spot_59 : decode cX7_spot 59 = .ok (.getfield 25, 3) := by decide +kernel
theorem dX7_spot_62 : decode cX7_spot 62 = .ok (.iload_n 1, 1) := by decide +kernel
theorem dX7_spot_63 : decode cX7_spot 63 = .ok (.iconst 1, 1) := by decide +kernel
theorem dX7_spot_64 : decode cX7_spot 64 = .ok (.iload 6, 2) := by decide +kernel
theorem dX7_spot_66 : decode cX7_spot 66 = .ok (.invokestatic 154, 3) := by decide +kernel
theorem dX7_spot_69 : decode cX7_spot 69 = .ok (.aload_n 0, 1) := by decide +kernel
theorem dX7_spot_70 : decode cX7_spot 70 = .ok (.getfield 25, 3) := by decide +kernel
theorem dX7_spot_73 : decode cX7_spot 73 = .ok (.iload_n 2, 1) := by decide +kernel
theorem dX7_spot_74 : decode cX7_spot 74 = .ok (.invokestatic 196, 3) := by decide +kernel
theorem dX7_spot_77 : decode cX7_spot 77 = .ok (.aload_n 0, 1) := by decide +kernel
theorem dX7_spot_78 : decode cX7_spot 78 = .ok (.getfield 25, 3) := by decide +kernel
theorem dX7_spot_81 : decode cX7_spot 81 = .ok (.iload_n 1, 1) := by decide +kernel
theorem dX7_spot_82 : decode cX7_spot 82 = .ok (.iconst 3, 1) := by decide +kernel
theorem dX7_spot_83 : decode cX7_spot 83 = .ok (.invokestatic 146, 3) := by decide +kernel
theorem dX7_spot_86 : decode cX7_spot 86 = .ok (.iload 5, 2) := by decide +kernel
theorem dX7_spot_88 : decode cX7_spot 88 = .ok (.if_icmp .le 18, 3) := by decide +kernel
theorem dX7_spot_91 : decode cX7_spot 91 = .ok (.aload_n 0, 1) := by decide +kernel
theorem dX7_spot_92 : decode cX7_spot 92 = .ok (.getfield 25, 3) := by decide +kernel
theorem dX7_spot_95 : decode cX7_spot 95 = .ok (.iload_n 1, 1) := by decide +kernel
theorem dX7_spot_96 : decode cX7_spot 96 = .ok (.iconst 3, 1) := by decide +kernel
theorem dX7_spot_97 : decode cX7_spot 97 = .ok (.invokestatic 146, 3) := by decide +kernel
theorem dX7_spot_100 : decode cX7_spot 100 = .ok (.istore 5, 2) := by decide +kernel
theorem dX7_spot_102 : decode cX7_spot 102 = .ok (.iload 6, 2) := by decide +kernel
theorem dX7_spot_104 : decode cX7_spot 104 = .ok (.istore 4, 2) := by decide +kernel
theorem dX7_spot_106 : decode cX7_spot 106 = .ok (.iinc 6 1, 3) := by decide +kernel
theorem dX7_spot_109 : decode cX7_spot 109 = .ok (.goto (-62), 3) := by decide +kernel
theorem dX7_spot_112 : decode cX7_spot 112 = .ok (.iload_n 3, 1) := by decide +kernel
theorem dX7_spot_113 : decode cX7_spot 113 = .ok (.ifCond .ne 8, 3) := by decide +kernel
theorem dX7_spot_116 : decode cX7_spot 116 = .ok (.iload 4, 2) := by decide +kernel
theorem dX7_spot_118 : decode cX7_spot 118 = .ok (.goto 5, 3) := by decide +kernel
theorem dX7_spot_121 : decode cX7_spot 121 = .ok (.iload 5, 2) := by decide +kernel
theorem dX7_spot_123 : decode cX7_spot 123 = .ok (.ireturn, 1) := by decide +kernel
theorem dX7_decoy_0 : decode cX7_decoy 0 = .ok (.aload_n 0, 1) := by decide +kernel
theorem dX7_decoy_1 : decode cX7_decoy 1 = .ok (.iconst 0, 1) := by decide +kernel
theorem dX7_decoy_2 : decode cX7_decoy 2 = .ok (.putfield 44, 3) := by decide +kernel
theorem dX7_decoy_5 : decode cX7_decoy 5 = .ok (.aload_n 0, 1) := by decide +kernel
theorem dX7_decoy_6 : decode cX7_decoy 6 = .ok (.iload_n 1, 1) := by decide +kernel
theorem dX7_decoy_7 : decode cX7_decoy 7 = .ok (.invokevirtual 180, 3) := by decide +kernel
theorem dX7_decoy_10 : decode cX7_decoy 10 = .ok (.ifCond .eq 28, 3) := by decide +kernel
theorem dX7_decoy_13 : decode cX7_decoy 13 = .ok (.aload_n 0, 1) := by decide +kernel
theorem dX7_decoy_14 : decode cX7_decoy 14 = .ok (.iload_n 2, 1) := by decide +kernel
theorem dX7_decoy_15 : decode cX7_decoy 15 = .ok (.invokevirtual 180, 3) := by decide +kernel
theorem dX7_decoy_18 : decode cX7_decoy 18 = .ok (.ifCond .eq 20, 3) := by decide +kernel
theorem dX7_decoy_21 : decode cX7_decoy 21 = .ok (.iload_n 1, 1) := by decide +kernel
theorem dX7_decoy_22 : decode cX7_decoy 22 = .ok (.iload_n 2, 1) := by decide +kernel
theorem dX7_decoy_23 : decode cX7_decoy 23 = .ok (.if_icmp .eq 15, 3) := by decide +kernel
theorem dX7_decoy_26 : decode cX7_decoy 26 = .ok (.iload_n 3, 1) := by decide +kernel
theorem dX7_decoy_27 : decode cX7_decoy 27 = .ok (.i2l, 1) := by decide +kernel
theorem dX7_decoy_28 : decode cX7_decoy 28 = .ok (.lconst 1, 1) := by decide +kernel
theorem dX7_decoy_29 : decode cX7_decoy 29 = .ok (.ldc2_w 203, 3) := by decide +kernel
theorem dX7_decoy_32 : decode cX7_decoy 32 = .ok (.invokestatic 54, 3) := by decide +kernel
theorem dX7_decoy_35 : decode cX7_decoy 35 = .ok (.ifCond .ne 6, 3) := by decide +kernel
theorem dX7_decoy_38 : decode cX7_decoy 38 = .ok (.ldc 64, 2) := by decide +kernel
theorem dX7_decoy_40 : decode cX7_decoy 40 = .ok (.ireturn, 1) := by decide +kernel
theorem dX7_decoy_41 : decode cX7_decoy 41 = .ok (.iconst 1, 1) := by decide +kernel
theorem dX7_decoy_42 : decode cX7_decoy 42 = .ok (.istore 4, 2) := by decide +kernel
theorem dX7_decoy_44 : decode cX7_decoy 44 = .ok (.iload 4, 2) := by decide +kernel
theorem dX7_decoy_46 : decode cX7_decoy 46 = .ok (.bipush 10, 2) := by decide +kernel
theorem dX7_decoy_48 : decode cX7_decoy 48 = .ok (.if_icmp .ge 56, 3) := by decide +kernel
theorem dX7_decoy_51 : decode cX7_decoy 51 = .ok (.aload_n 0, 1) := by decide +kernel
theorem dX7_decoy_52 : decode cX7_decoy 52 = .ok (.invokevirtual 193, 3) := by decide +kernel
theorem dX7_decoy_55 : decode cX7_decoy 55 = .ok (.aload_n 0, 1) := by decide +kernel
theorem dX7_decoy_56 : decode cX7_decoy 56 = .ok (.getfield 25, 3) := by decide +kernel
theorem dX7_decoy_59 : decode cX7_decoy 59 = .ok (.iload_n 1, 1) := by decide +kernel
theorem dX7_decoy_60 : decode cX7_decoy 60 = .ok (.iconst 3, 1) := by decide +kernel
theorem dX7_decoy_61 : decode cX7_decoy 61 = .ok (.iload 4, 2) := by decide +kernel
theorem dX7_decoy_63 : decode cX7_decoy 63 = .ok (.invokestatic 154, 3) := by decide +kernel
theorem dX7_decoy_66 : decode cX7_decoy 66 = .ok (.aload_n 0, 1) := by decide +kernel
theorem dX7_decoy_67 : decode cX7_decoy 67 = .ok (.getfield 25, 3) := by decide +kernel
theorem dX7_decoy_70 : decode cX7_decoy 70 = .ok (.iload_n 3, 1) := by decide +kernel
theorem dX7_decoy_71 : decode cX7_decoy 71 = .ok (.invokestatic 196, 3) := by decide +kernel
theorem dX7_decoy_74 : decode cX7_decoy 74 = .ok (.aload_n 0, 1) := by decide +kernel
theorem dX7_decoy_75 : decode cX7_decoy 75 = .ok (.getfield 25, 3) := by decide +kernel
theorem dX7_decoy_78 : decode cX7_decoy 78 = .ok (.iload_n 2, 1) := by decide +kernel
theorem dX7_decoy_79 : decode cX7_decoy 79 = .ok (.iconst 3, 1) := by decide +kernel
theorem dX7_decoy_80 : decode cX7_decoy 80 = .ok (.invokestatic 146, 3) := by decide +kernel
theorem dX7_decoy_83 : decode cX7_decoy 83 = .ok (.aload_n 0, 1) := by decide +kernel
theorem dX7_decoy_84 : decode cX7_decoy 84 = .ok (.getfield 19, 3) := by decide +kernel
theorem dX7_decoy_87 : decode cX7_decoy 87 = .ok (.iload_n 2, 1) := by decide +kernel
theorem dX7_decoy_88 : decode cX7_decoy 88 = .ok (.iconst 3, 1) := by decide +kernel
theorem dX7_decoy_89 : decode cX7_decoy 89 = .ok (.invokestatic 146, 3) := by decide +kernel
theorem dX7_decoy_92 : decode cX7_decoy 92 = .ok (.if_icmp .ne 6, 3) := by decide +kernel
theorem dX7_decoy_95 : decode cX7_decoy 95 = .ok (.iload 4, 2) := by decide +kernel
theorem dX7_decoy_97 : decode cX7_decoy 97 = .ok (.ireturn, 1) := by decide +kernel
theorem dX7_decoy_98 : decode cX7_decoy 98 = .ok (.iinc 4 1, 3) := by decide +kernel
theorem dX7_decoy_101 : decode cX7_decoy 101 = .ok (.goto (-57), 3) := by decide +kernel
theorem dX7_decoy_104 : decode cX7_decoy 104 = .ok (.ldc 87, 2) := by decide +kernel
theorem dX7_decoy_106 : decode cX7_decoy 106 = .ok (.ireturn, 1) := by decide +kernel
theorem dX7_hides_0 : decode cX7_hides 0 = .ok (.aload_n 0, 1) := by decide +kernel
theorem dX7_hides_1 : decode cX7_hides 1 = .ok (.iconst 0, 1) := by decide +kernel
theorem dX7_hides_2 : decode cX7_hides 2 = .ok (.putfield 44, 3) := by decide +kernel
theorem dX7_hides_5 : decode cX7_hides 5 = .ok (.aload_n 0, 1) := by decide +kernel
theorem dX7_hides_6 : decode cX7_hides 6 = .ok (.invokevirtual 171, 3) := by decide +kernel
theorem dX7_hides_9 : decode cX7_hides 9 = .ok (.ifCond .ne 6, 3) := by decide +kernel
theorem dX7_hides_12 : decode cX7_hides 12 = .ok (.ldc 174, 2) := by decide +kernel
theorem dX7_hides_14 : decode cX7_hides 14 = .ok (.ireturn, 1) := by decide +kernel
theorem dX7_hides_15 : decode cX7_hides 15 = .ok (.iload_n 1, 1) := by decide +kernel
theorem dX7_hides_16 : decode cX7_hides 16 = .ok (.i2l, 1) := by decide +kernel
theorem dX7_hides_17 : decode cX7_hides 17 = .ok (.lconst 1, 1) := by decide +kernel
theorem dX7_hides_18 : decode cX7_hides 18 = .ok (.ldc2_w 203, 3) := by decide +kernel
theorem dX7_hides_21 : decode cX7_hides 21 = .ok (.invokestatic 54, 3) := by decide +kernel
theorem dX7_hides_24 : decode cX7_hides 24 = .ok (.ifCond .eq 13, 3) := by decide +kernel
theorem dX7_hides_27 : decode cX7_hides 27 = .ok (.iload_n 2, 1) := by decide +kernel
theorem dX7_hides_28 : decode cX7_hides 28 = .ok (.i2l, 1) := by decide +kernel
theorem dX7_hides_29 : decode cX7_hides 29 = .ok (.lconst 0, 1) := by decide +kernel
theorem dX7_hides_30 : decode cX7_hides 30 = .ok (.lconst 1, 1) := by decide +kernel
theorem dX7_hides_31 : decode cX7_hides 31 = .ok (.invokestatic 54, 3) := by decide +kernel
theorem dX7_hides_34 : decode cX7_hides 34 = .ok (.ifCond .ne 6, 3) := by decide +kernel
theorem dX7_hides_37 : decode cX7_hides 37 = .ok (.ldc 64, 2) := by decide +kernel
theorem dX7_hides_39 : decode cX7_hides 39 = .ok (.ireturn, 1) := by decide +kernel
theorem dX7_hides_40 : decode cX7_hides 40 = .ok (.ldc 87, 2) := by decide +kernel
theorem dX7_hides_42 : decode cX7_hides 42 = .ok (.istore_n 3, 1) := by decide +kernel
theorem dX7_hides_43 : decode cX7_hides 43 = .ok (.iconst 0, 1) := by decide +kernel
theorem dX7_hides_44 : decode cX7_hides 44 = .ok (.istore 4, 2) := by decide +kernel
theorem dX7_hides_46 : decode cX7_hides 46 = .ok (.iload 4, 2) := by decide +kernel
theorem dX7_hides_48 : decode cX7_hides 48 = .ok (.iconst 1, 1) := by decide +kernel
theorem dX7_hides_49 : decode cX7_hides 49 = .ok (.aload_n 0, 1) := by decide +kernel
theorem dX7_hides_50 : decode cX7_hides 50 = .ok (.getfield 19, 3) := by decide +kernel
theorem dX7_hides_53 : decode cX7_hides 53 = .ok (.iconst 0, 1) := by decide +kernel
theorem dX7_hides_54 : decode cX7_hides 54 = .ok (.iaload, 1) := by decide +kernel
theorem dX7_hides_55 : decode cX7_hides 55 = .ok (.ishl, 1) := by decide +kernel
theorem dX7_hides_56 : decode cX7_hides 56 = .ok (.if_icmp .ge 182, 3) := by decide +kernel
theorem dX7_hides_59 : decode cX7_hides 59 = .ok (.iload_n 3, 1) := by decide +kernel
theorem dX7_hides_60 : decode cX7_hides 60 = .ok (.ldc 87, 2) := by decide +kernel
theorem dX7_hides_62 : decode cX7_hides 62 = .ok (.if_icmp .eq 15, 3) := by decide +kernel
theorem dX7_hides_65 : decode cX7_hides 65 = .ok (.iload 4, 2) := by decide +kernel
theorem dX7_hides_67 : decode cX7_hides 67 = .ok (.invokestatic 205, 3) := by decide +kernel
theorem dX7_hides_70 : decode cX7_hides 70 = .ok (.iload_n 3, 1) := by decide +kernel
theorem dX7_hides_71 : decode cX7_hides 71 = .ok (.invokestatic 205, 3) := by decide +kernel
theorem dX7_hides_74 : decode cX7_hides 74 = .ok (.if_icmp .ge 158, 3) := by decide +kernel
theorem dX7_hides_77 : decode cX7_hides 77 = .ok (.aload_n 0, 1) := by decide +kernel
theorem dX7_hides_78 : decode cX7_hides 78 = .ok (.invokevirtual 193, 3) := by decide +kernel
theorem dX7_hides_81 : decode cX7_hides 81 = .ok (.iconst 0, 1) := by decide +kernel
theorem dX7_hides_82 : decode cX7_hides 82 = .ok (.istore 5, 2) := by decide +kernel
theorem dX7_hides_84 : decode cX7_hides 84 = .ok (.iload 5, 2) := by decide +kernel
theorem dX7_hides_86 : decode cX7_hides 86 = .ok (.aload_n 0, 1) := by decide +kernel
theorem dX7_hides_87 : decode cX7_hides 87 = .ok (.getfield 19, 3) := by decide +kernel
theorem dX7_hides_90 : decode cX7_hides 90 = .ok (.iconst 0, 1) := by decide +kernel
theorem dX7_hides_91 : decode cX7_hides 91 = .ok (.iaload, 1) := by decide +kernel
theorem dX7_hides_92 : decode cX7_hides 92 = .ok (.if_icmp .ge 26, 3) := by decide +kernel
theorem dX7_hides_95 : decode cX7_hides 95 = .ok (.aload_n 0, 1) := by decide +kernel
theorem dX7_hides_96 : decode cX7_hides 96 = .ok (.getfield 25, 3) := by decide +kernel
theorem dX7_hides_99 : decode cX7_hides 99 = .ok (.iload 5, 2) := by decide +kernel
theorem dX7_hides_101 : decode cX7_hides 101 = .ok (.iconst 4, 1) := by decide +kernel
theorem dX7_hides_102 : decode cX7_hides 102 = .ok (.iload 4, 2) := by decide +kernel
theorem dX7_hides_104 : decode cX7_hides 104 = .ok (.iload 5, 2) := by decide +kernel
theorem dX7_hides_106 : decode cX7_hides 106 = .ok (.ishr, 1) := by decide +kernel
theorem dX7_hides_107 : decode cX7_hides 107 = .ok (.iconst 1, 1) := by decide +kernel
theorem dX7_hides_108 : decode cX7_hides 108 = .ok (.iand, 1) := by decide +kernel
theorem dX7_hides_109 : decode cX7_hides 109 = .ok (.invokestatic 154, 3) := by decide +kernel
theorem dX7_hides_112 : decode cX7_hides 112 = .ok (.iinc 5 1, 3) := by decide +kernel
theorem dX7_hides_115 : decode cX7_hides 115 = .ok (.goto (-31), 3) := by decide +kernel
theorem dX7_hides_118 : decode cX7_hides 118 = .ok (.aload_n 0, 1) := by decide +kernel
theorem dX7_hides_119 : decode cX7_hides 119 = .ok (.getfield 25, 3) := by decide +kernel
theorem dX7_hides_122 : decode cX7_hides 122 = .ok (.iload_n 1, 1) := by decide +kernel
theorem dX7_hides_123 : decode cX7_hides 123 = .ok (.invokestatic 196, 3) := by decide +kernel
theorem dX7_hides_126 : decode cX7_hides 126 = .ok (.iconst 1, 1) := by decide +kernel
theorem dX7_hides_127 : decode cX7_hides 127 = .ok (.istore 5, 2) := by decide +kernel
theorem dX7_hides_129 : decode cX7_hides 129 = .ok (.iconst 0, 1) := by decide +kernel
theorem dX7_hides_130 : decode cX7_hides 130 = .ok (.istore 6, 2) := by decide +kernel
theorem dX7_hides_132 : decode cX7_hides 132 = .ok (.iload 6, 2) := by decide +kernel
theorem dX7_hides_134 : decode cX7_hides 134 = .ok (.aload_n 0, 1) := by decide +kernel
theorem dX7_hides_135 : decode cX7_hides 135 = .ok (.getfield 19, 3) := by decide +kernel
theorem dX7_hides_138 : decode cX7_hides 138 = .ok (.iconst 0, 1) := by decide +kernel
theorem dX7_hides_139 : decode cX7_hides 139 = .ok (.iaload, 1) := by decide +kernel
theorem dX7_hides_140 : decode cX7_hides 140 = .ok (.if_icmp .ge 80, 3) := by decide +kernel
theorem dX7_hides_143 : decode cX7_hides 143 = .ok (.iload 4, 2) := by decide +kernel
theorem dX7_hides_145 : decode cX7_hides 145 = .ok (.iload 6, 2) := by decide +kernel
theorem dX7_hides_147 : decode cX7_hides 147 = .ok (.invokestatic 208, 3) := by decide +kernel
theorem dX7_hides_150 : decode cX7_hides 150 = .ok (.ifCond .ne 17, 3) := by decide +kernel
theorem dX7_hides_153 : decode cX7_hides 153 = .ok (.aload_n 0, 1) := by decide +kernel
theorem dX7_hides_154 : decode cX7_hides 154 = .ok (.getfield 19, 3) := by decide +kernel
theorem dX7_hides_157 : decode cX7_hides 157 = .ok (.iload 6, 2) := by decide +kernel
theorem dX7_hides_159 : decode cX7_hides 159 = .ok (.iconst 0, 1) := by decide +kernel
theorem dX7_hides_160 : decode cX7_hides 160 = .ok (.invokestatic 146, 3) := by decide +kernel
theorem dX7_hides_163 : decode cX7_hides 163 = .ok (.iconst 5, 1) := by decide +kernel
theorem dX7_hides_164 : decode cX7_hides 164 = .ok (.if_icmp .ne 7, 3) := by decide +kernel
theorem dX7_hides_167 : decode cX7_hides 167 = .ok (.iconst 1, 1) := by decide +kernel
theorem dX7_hides_168 : decode cX7_hides 168 = .ok (.goto 4, 3) := by decide +kernel
theorem dX7_hides_171 : decode cX7_hides 171 = .ok (.iconst 0, 1) := by decide +kernel
theorem dX7_hides_172 : decode cX7_hides 172 = .ok (.istore 7, 2) := by decide +kernel
theorem dX7_hides_174 : decode cX7_hides 174 = .ok (.iload 5, 2) := by decide +kernel
theorem dX7_hides_176 : decode cX7_hides 176 = .ok (.ifCond .eq 35, 3) := by decide +kernel
theorem dX7_hides_179 : decode cX7_hides 179 = .ok (.iload 7, 2) := by decide +kernel
theorem dX7_hides_181 : decode cX7_hides 181 = .ok (.ifCond .ne 26, 3) := by decide +kernel
theorem dX7_hides_184 : decode cX7_hides 184 = .ok (.aload_n 0, 1) := by decide +kernel
theorem dX7_hides_185 : decode cX7_hides 185 = .ok (.getfield 25, 3) := by decide +kernel
theorem dX7_hides_188 : decode cX7_hides 188 = .ok (.iload 6, 2) := by decide +kernel
theorem dX7_hides_190 : decode cX7_hides 190 = .ok (.iconst 3, 1) := by decide +kernel
theorem dX7_hides_191 : decode cX7_hides 191 = .ok (.invokestatic 146, 3) := by decide +kernel
theorem dX7_hides_194 : decode cX7_hides 194 = .ok (.aload_n 0, 1) := by decide +kernel
theorem dX7_hides_195 : decode cX7_hides 195 = .ok (.getfield 19, 3) := by decide +kernel
theorem dX7_hides_198 : decode cX7_hides 198 = .ok (.iload 6, 2) := by decide +kernel
theorem dX7_hides_200 : decode cX7_hides 200 = .ok (.iconst 3, 1) := by decide +kernel
theorem dX7_hides_201 : decode cX7_hides 201 = .ok (.invokestatic 146, 3) := by decide +kernel
theorem dX7_hides_204 : decode cX7_hides 204 = .ok (.if_icmp .ne 7, 3) := by decide +kernel
theorem dX7_hides_207 : decode cX7_hides 207 = .ok (.iconst 1, 1) := by decide +kernel
theorem dX7_hides_208 : decode cX7_hides 208 = .ok (.goto 4, 3) := by decide +kernel
theorem dX7_hides_211 : decode cX7_hides 211 = .ok (.iconst 0, 1) := by decide +kernel
theorem dX7_hides_212 : decode cX7_hides 212 = .ok (.istore 5, 2) := by decide +kernel
theorem dX7_hides_214 : decode cX7_hides 214 = .ok (.iinc 6 1, 3) := by decide +kernel
theorem dX7_hides_217 : decode cX7_hides 217 = .ok (.goto (-85), 3) := by decide +kernel
theorem dX7_hides_220 : decode cX7_hides 220 = .ok (.iload 5, 2) := by decide +kernel
theorem dX7_hides_222 : decode cX7_hides 222 = .ok (.ifCond .eq 8, 3) := by decide +kernel
theorem dX7_hides_225 : decode cX7_hides 225 = .ok (.iload 4, 2) := by decide +kernel
theorem dX7_hides_227 : decode cX7_hides 227 = .ok (.goto 4, 3) := by decide +kernel
theorem dX7_hides_230 : decode cX7_hides 230 = .ok (.iload_n 3, 1) := by decide +kernel
theorem dX7_hides_231 : decode cX7_hides 231 = .ok (.istore_n 3, 1) := by decide +kernel
theorem dX7_hides_232 : decode cX7_hides 232 = .ok (.iinc 4 1, 3) := by decide +kernel
theorem dX7_hides_235 : decode cX7_hides 235 = .ok (.goto (-189), 3) := by decide +kernel
theorem dX7_hides_238 : decode cX7_hides 238 = .ok (.iload_n 2, 1) := by decide +kernel
theorem dX7_hides_239 : decode cX7_hides 239 = .ok (.ifCond .ne 10, 3) := by decide +kernel
theorem dX7_hides_242 : decode cX7_hides 242 = .ok (.iload_n 3, 1) := by decide +kernel
theorem dX7_hides_243 : decode cX7_hides 243 = .ok (.invokestatic 205, 3) := by decide +kernel
theorem dX7_hides_246 : decode cX7_hides 246 = .ok (.goto 4, 3) := by decide +kernel
theorem dX7_hides_249 : decode cX7_hides 249 = .ok (.iload_n 3, 1) := by decide +kernel
theorem dX7_hides_250 : decode cX7_hides 250 = .ok (.ireturn, 1) := by decide +kernel
theorem dX7_sets_0 : decode cX7_sets 0 = .ok (.aload_n 0, 1) := by decide +kernel
theorem dX7_sets_1 : decode cX7_sets 1 = .ok (.iconst 0, 1) := by decide +kernel
theorem dX7_sets_2 : decode cX7_sets 2 = .ok (.putfield 44, 3) := by decide +kernel
theorem dX7_sets_5 : decode cX7_sets 5 = .ok (.aload_n 0, 1) := by decide +kernel
theorem dX7_sets_6 : decode cX7_sets 6 = .ok (.invokevirtual 171, 3) := by decide +kernel
theorem dX7_sets_9 : decode cX7_sets 9 = .ok (.ifCond .ne 6, 3) := by decide +kernel
theorem dX7_sets_12 : decode cX7_sets 12 = .ok (.ldc 174, 2) := by decide +kernel
theorem dX7_sets_14 : decode cX7_sets 14 = .ok (.ireturn, 1) := by decide +kernel
theorem dX7_sets_15 : decode cX7_sets 15 = .ok (.iload_n 1, 1) := by decide +kernel
theorem dX7_sets_16 : decode cX7_sets 16 = .ok (.i2l, 1) := by decide +kernel
theorem dX7_sets_17 : decode cX7_sets 17 = .ok (.lconst 0, 1) := by decide +kernel
theorem dX7_sets_18 : decode cX7_sets 18 = .ok (.ldc2_w 212, 3) := by decide +kernel
theorem dX7_sets_21 : decode cX7_sets 21 = .ok (.invokestatic 54, 3) := by decide +kernel
theorem dX7_sets_24 : decode cX7_sets 24 = .ok (.ifCond .eq 15, 3) := by decide +kernel
theorem dX7_sets_27 : decode cX7_sets 27 = .ok (.iload_n 2, 1) := by decide +kernel
theorem dX7_sets_28 : decode cX7_sets 28 = .ok (.i2l, 1) := by decide +kernel
theorem dX7_sets_29 : decode cX7_sets 29 = .ok (.lconst 0, 1) := by decide +kernel
theorem dX7_sets_30 : decode cX7_sets 30 = .ok (.ldc2_w 62, 3) := by decide +kernel
theorem dX7_sets_33 : decode cX7_sets 33 = .ok (.invokestatic 54, 3) := by decide +kernel
theorem dX7_sets_36 : decode cX7_sets 36 = .ok (.ifCond .ne 6, 3) := by decide +kernel
theorem dX7_sets_39 : decode cX7_sets 39 = .ok (.ldc 64, 2) := by decide +kernel
theorem dX7_sets_41 : decode cX7_sets 41 = .ok (.ireturn, 1) := by decide +kernel
theorem dX7_sets_42 : decode cX7_sets 42 = .ok (.iconst 0, 1) := by decide +kernel
theorem dX7_sets_43 : decode cX7_sets 43 = .ok (.istore_n 3, 1) := by decide +kernel
theorem dX7_sets_44 : decode cX7_sets 44 = .ok (.iconst 0, 1) := by decide +kernel
theorem dX7_sets_45 : decode cX7_sets 45 = .ok (.istore 4, 2) := by decide +kernel
theorem dX7_sets_47 : decode cX7_sets 47 = .ok (.iconst 0, 1) := by decide +kernel
theorem dX7_sets_48 : decode cX7_sets 48 = .ok (.istore 5, 2) := by decide +kernel
theorem dX7_sets_50 : decode cX7_sets 50 = .ok (.iconst 0, 1) := by decide +kernel
theorem dX7_sets_51 : decode cX7_sets 51 = .ok (.istore 6, 2) := by decide +kernel
theorem dX7_sets_53 : decode cX7_sets 53 = .ok (.iload 6, 2) := by decide +kernel
theorem dX7_sets_55 : decode cX7_sets 55 = .ok (.iconst 1, 1) := by decide +kernel
theorem dX7_sets_56 : decode cX7_sets 56 = .ok (.aload_n 0, 1) := by decide +kernel
theorem dX7_sets_57 : decode cX7_sets 57 = .ok (.getfield 19, 3) := by decide +kernel
theorem dX7_sets_60 : decode cX7_sets 60 = .ok (.iconst 0, 1) := by decide +kernel
theorem dX7_sets_61 : decode cX7_sets 61 = .ok (.iaload, 1) := by decide +kernel
theorem dX7_sets_62 : decode cX7_sets 62 = .ok (.ishl, 1) := by decide +kernel
theorem dX7_sets_63 : decode cX7_sets 63 = .ok (.if_icmp .ge 106, 3) := by decide +kernel
theorem dX7_sets_66 : decode cX7_sets 66 = .ok (.iconst 0, 1) := by decide +kernel
theorem dX7_sets_67 : decode cX7_sets 67 = .ok (.istore 7, 2) := by decide +kernel
theorem dX7_sets_69 : decode cX7_sets 69 = .ok (.iconst 0, 1) := by decide +kernel
theorem dX7_sets_70 : decode cX7_sets 70 = .ok (.istore 8, 2) := by decide +kernel
theorem dX7_sets_72 : decode cX7_sets 72 = .ok (.iload 8, 2) := by decide +kernel
theorem dX7_sets_74 : decode cX7_sets 74 = .ok (.aload_n 0, 1) := by decide +kernel
theorem dX7_sets_75 : decode cX7_sets 75 = .ok (.getfield 19, 3) := by decide +kernel
theorem dX7_sets_78 : decode cX7_sets 78 = .ok (.iconst 0, 1) := by decide +kernel
theorem dX7_sets_79 : decode cX7_sets 79 = .ok (.iaload, 1) := by decide +kernel
theorem dX7_sets_80 : decode cX7_sets 80 = .ok (.if_icmp .ge 38, 3) := by decide +kernel
theorem dX7_sets_83 : decode cX7_sets 83 = .ok (.iload 7, 2) := by decide +kernel
theorem dX7_sets_85 : decode cX7_sets 85 = .ok (.iload 6, 2) := by decide +kernel
theorem dX7_sets_87 : decode cX7_sets 87 = .ok (.iload 8, 2) := by decide +kernel
theorem dX7_sets_89 : decode cX7_sets 89 = .ok (.invokestatic 208, 3) := by decide +kernel
theorem dX7_sets_92 : decode cX7_sets 92 = .ok (.ifCond .eq 16, 3) := by decide +kernel
theorem dX7_sets_95 : decode cX7_sets 95 = .ok (.aload_n 0, 1) := by decide +kernel
theorem dX7_sets_96 : decode cX7_sets 96 = .ok (.getfield 19, 3) := by decide +kernel
theorem dX7_sets_99 : decode cX7_sets 99 = .ok (.iload 8, 2) := by decide +kernel
theorem dX7_sets_101 : decode cX7_sets 101 = .ok (.iconst 3, 1) := by decide +kernel
theorem dX7_sets_102 : decode cX7_sets 102 = .ok (.invokestatic 146, 3) := by decide +kernel
theorem dX7_sets_105 : decode cX7_sets 105 = .ok (.goto 4, 3) := by decide +kernel
theorem dX7_sets_108 : decode cX7_sets 108 = .ok (.iconst 0, 1) := by decide +kernel
theorem dX7_sets_109 : decode cX7_sets 109 = .ok (.iadd, 1) := by decide +kernel
theorem dX7_sets_110 : decode cX7_sets 110 = .ok (.istore 7, 2) := by decide +kernel
theorem dX7_sets_112 : decode cX7_sets 112 = .ok (.iinc 8 1, 3) := by decide +kernel
theorem dX7_sets_115 : decode cX7_sets 115 = .ok (.goto (-43), 3) := by decide +kernel
theorem dX7_sets_118 : decode cX7_sets 118 = .ok (.iload 6, 2) := by decide +kernel
theorem dX7_sets_120 : decode cX7_sets 120 = .ok (.aload_n 0, 1) := by decide +kernel
theorem dX7_sets_121 : decode cX7_sets 121 = .ok (.getfield 19, 3) := by decide +kernel
theorem dX7_sets_124 : decode cX7_sets 124 = .ok (.invokestatic 185, 3) := by decide +kernel
theorem dX7_sets_127 : decode cX7_sets 127 = .ok (.iand, 1) := by decide +kernel
theorem dX7_sets_128 : decode cX7_sets 128 = .ok (.ifCond .ne 35, 3) := by decide +kernel
theorem dX7_sets_131 : decode cX7_sets 131 = .ok (.iload 7, 2) := by decide +kernel
theorem dX7_sets_133 : decode cX7_sets 133 = .ok (.iload_n 1, 1) := by decide +kernel
theorem dX7_sets_134 : decode cX7_sets 134 = .ok (.if_icmp .ne 29, 3) := by decide +kernel
theorem dX7_sets_137 : decode cX7_sets 137 = .ok (.iload_n 3, 1) := by decide +kernel
theorem dX7_sets_138 : decode cX7_sets 138 = .ok (.ifCond .ne 8, 3) := by decide +kernel
theorem dX7_sets_141 : decode cX7_sets 141 = .ok (.iload 6, 2) := by decide +kernel
theorem dX7_sets_143 : decode cX7_sets 143 = .ok (.goto 8, 3) := by decide +kernel
theorem dX7_sets_146 : decode cX7_sets 146 = .ok (.iload 4, 2) := by decide +kernel
theorem dX7_sets_148 : decode cX7_sets 148 = .ok (.iload 6, 2) := by decide +kernel
theorem dX7_sets_150 : decode cX7_sets 150 = .ok (.iand, 1) := by decide +kernel
theorem dX7_sets_151 : decode cX7_sets 151 = .ok (.istore 4, 2) := by decide +kernel
theorem dX7_sets_153 : decode cX7_sets 153 = .ok (.iload 5, 2) := by decide +kernel
theorem dX7_sets_155 : decode cX7_sets 155 = .ok (.iload 6, 2) := by decide +kernel
theorem dX7_sets_157 : decode cX7_sets 157 = .ok (.ior, 1) := by decide +kernel
theorem dX7_sets_158 : decode cX7_sets 158 = .ok (.istore 5, 2) := by decide +kernel
theorem dX7_sets_160 : decode cX7_sets 160 = .ok (.iinc 3 1, 3) := by decide +kernel
theorem dX7_sets_163 : decode cX7_sets 163 = .ok (.iinc 6 1, 3) := by decide +kernel
theorem dX7_sets_166 : decode cX7_sets 166 = .ok (.goto (-113), 3) := by decide +kernel
theorem dX7_sets_169 : decode cX7_sets 169 = .ok (.iload_n 2, 1) := by decide +kernel
theorem dX7_sets_170 : decode cX7_sets 170 = .ok (.ifCond .ne 7, 3) := by decide +kernel
theorem dX7_sets_173 : decode cX7_sets 173 = .ok (.iload_n 3, 1) := by decide +kernel
theorem dX7_sets_174 : decode cX7_sets 174 = .ok (.goto 15, 3) := by decide +kernel
theorem dX7_sets_177 : decode cX7_sets 177 = .ok (.iload_n 2, 1) := by decide +kernel
theorem dX7_sets_178 : decode cX7_sets 178 = .ok (.iconst 1, 1) := by decide +kernel
theorem dX7_sets_179 : decode cX7_sets 179 = .ok (.if_icmp .ne 8, 3) := by decide +kernel
theorem dX7_sets_182 : decode cX7_sets 182 = .ok (.iload 4, 2) := by decide +kernel
theorem dX7_sets_184 : decode cX7_sets 184 = .ok (.goto 5, 3) := by decide +kernel
theorem dX7_sets_187 : decode cX7_sets 187 = .ok (.iload 5, 2) := by decide +kernel
theorem dX7_sets_189 : decode cX7_sets 189 = .ok (.ireturn, 1) := by decide +kernel
theorem dX7_share_0 : decode cX7_share 0 = .ok (.aload_n 0, 1) := by decide +kernel
theorem dX7_share_1 : decode cX7_share 1 = .ok (.iconst 0, 1) := by decide +kernel
theorem dX7_share_2 : decode cX7_share 2 = .ok (.putfield 44, 3) := by decide +kernel
theorem dX7_share_5 : decode cX7_share 5 = .ok (.aload_n 0, 1) := by decide +kernel
theorem dX7_share_6 : decode cX7_share 6 = .ok (.iload_n 1, 1) := by decide +kernel
theorem dX7_share_7 : decode cX7_share 7 = .ok (.invokevirtual 180, 3) := by decide +kernel
theorem dX7_share_10 : decode cX7_share 10 = .ok (.ifCond .eq 15, 3) := by decide +kernel
theorem dX7_share_13 : decode cX7_share 13 = .ok (.iload_n 2, 1) := by decide +kernel
theorem dX7_share_14 : decode cX7_share 14 = .ok (.i2l, 1) := by decide +kernel
theorem dX7_share_15 : decode cX7_share 15 = .ok (.lconst 0, 1) := by decide +kernel
theorem dX7_share_16 : decode cX7_share 16 = .ok (.ldc2_w 214, 3) := by decide +kernel
theorem dX7_share_19 : decode cX7_share 19 = .ok (.invokestatic 54, 3) := by decide +kernel
theorem dX7_share_22 : decode cX7_share 22 = .ok (.ifCond .ne 6, 3) := by decide +kernel
theorem dX7_share_25 : decode cX7_share 25 = .ok (.ldc 64, 2) := by decide +kernel
theorem dX7_share_27 : decode cX7_share 27 = .ok (.ireturn, 1) := by decide +kernel
theorem dX7_share_28 : decode cX7_share 28 = .ok (.aload_n 0, 1) := by decide +kernel
theorem dX7_share_29 : decode cX7_share 29 = .ok (.getfield 19, 3) := by decide +kernel
theorem dX7_share_32 : decode cX7_share 32 = .ok (.invokestatic 200, 3) := by decide +kernel
theorem dX7_share_35 : decode cX7_share 35 = .ok (.istore_n 3, 1) := by decide +kernel
theorem dX7_share_36 : decode cX7_share 36 = .ok (.aload_n 0, 1) := by decide +kernel
theorem dX7_share_37 : decode cX7_share 37 = .ok (.getfield 19, 3) := by decide +kernel
theorem dX7_share_40 : decode cX7_share 40 = .ok (.iload_n 1, 1) := by decide +kernel
theorem dX7_share_41 : decode cX7_share 41 = .ok (.iconst 3, 1) := by decide +kernel
theorem dX7_share_42 : decode cX7_share 42 = .ok (.invokestatic 146, 3) := by decide +kernel
theorem dX7_share_45 : decode cX7_share 45 = .ok (.istore 4, 2) := by decide +kernel
theorem dX7_share_47 : decode cX7_share 47 = .ok (.iload 4, 2) := by decide +kernel
theorem dX7_share_49 : decode cX7_share 49 = .ok (.ifCond .ne 5, 3) := by decide +kernel
theorem dX7_share_52 : decode cX7_share 52 = .ok (.iconst 0, 1) := by decide +kernel
theorem dX7_share_53 : decode cX7_share 53 = .ok (.ireturn, 1) := by decide +kernel
theorem dX7_share_54 : decode cX7_share 54 = .ok (.iload_n 2, 1) := by decide +kernel
theorem dX7_share_55 : decode cX7_share 55 = .ok (.istore 5, 2) := by decide +kernel
theorem dX7_share_57 : decode cX7_share 57 = .ok (.iconst 0, 1) := by decide +kernel
theorem dX7_share_58 : decode cX7_share 58 = .ok (.istore 6, 2) := by decide +kernel
theorem dX7_share_60 : decode cX7_share 60 = .ok (.iconst 0, 1) := by decide +kernel
theorem dX7_share_61 : decode cX7_share 61 = .ok (.istore 7, 2) := by decide +kernel
theorem dX7_share_63 : decode cX7_share 63 = .ok (.iload 7, 2) := by decide +kernel
theorem dX7_share_65 : decode cX7_share 65 = .ok (.aload_n 0, 1) := by decide +kernel
theorem dX7_share_66 : decode cX7_share 66 = .ok (.getfield 19, 3) := by decide +kernel
theorem dX7_share_69 : decode cX7_share 69 = .ok (.iconst 0, 1) := by decide +kernel
theorem dX7_share_70 : decode cX7_share 70 = .ok (.iaload, 1) := by decide +kernel
theorem dX7_share_71 : decode cX7_share 71 = .ok (.if_icmp .ge 57, 3) := by decide +kernel
theorem dX7_share_74 : decode cX7_share 74 = .ok (.iload 5, 2) := by decide +kernel
theorem dX7_share_76 : decode cX7_share 76 = .ok (.iload_n 2, 1) := by decide +kernel
theorem dX7_share_77 : decode cX7_share 77 = .ok (.aload_n 0, 1) := by decide +kernel
theorem dX7_share_78 : decode cX7_share 78 = .ok (.getfield 19, 3) := by decide +kernel
theorem dX7_share_81 : decode cX7_share 81 = .ok (.iload 7, 2) := by decide +kernel
theorem dX7_share_83 : decode cX7_share 83 = .ok (.iconst 3, 1) := by decide +kernel
theorem dX7_share_84 : decode cX7_share 84 = .ok (.invokestatic 146, 3) := by decide +kernel
theorem dX7_share_87 : decode cX7_share 87 = .ok (.imul, 1) := by decide +kernel
theorem dX7_share_88 : decode cX7_share 88 = .ok (.iload_n 3, 1) := by decide +kernel
theorem dX7_share_89 : decode cX7_share 89 = .ok (.idiv, 1) := by decide +kernel
theorem dX7_share_90 : decode cX7_share 90 = .ok (.isub, 1) := by decide +kernel
theorem dX7_share_91 : decode cX7_share 91 = .ok (.istore 5, 2) := by decide +kernel
theorem dX7_share_93 : decode cX7_share 93 = .ok (.iload 6, 2) := by decide +kernel
theorem dX7_share_95 : decode cX7_share 95 = .ok (.iload 7, 2) := by decide +kernel
theorem dX7_share_97 : decode cX7_share 97 = .ok (.iload_n 1, 1) := by decide +kernel
theorem dX7_share_98 : decode cX7_share 98 = .ok (.if_icmp .ge 20, 3) := by decide +kernel
theorem dX7_share_101 : decode cX7_share 101 = .ok (.aload_n 0, 1) := by decide +kernel
theorem dX7_share_102 : decode cX7_share 102 = .ok (.getfield 19, 3) := by decide +kernel
theorem dX7_share_105 : decode cX7_share 105 = .ok (.iload 7, 2) := by decide +kernel
theorem dX7_share_107 : decode cX7_share 107 = .ok (.iconst 3, 1) := by decide +kernel
theorem dX7_share_108 : decode cX7_share 108 = .ok (.invokestatic 146, 3) := by decide +kernel
theorem dX7_share_111 : decode cX7_share 111 = .ok (.ifCond .le 7, 3) := by decide +kernel
theorem dX7_share_114 : decode cX7_share 114 = .ok (.iconst 1, 1) := by decide +kernel
theorem dX7_share_115 : decode cX7_share 115 = .ok (.goto 4, 3) := by decide +kernel
theorem dX7_share_118 : decode cX7_share 118 = .ok (.iconst 0, 1) := by decide +kernel
theorem dX7_share_119 : decode cX7_share 119 = .ok (.iadd, 1) := by decide +kernel
theorem dX7_share_120 : decode cX7_share 120 = .ok (.istore 6, 2) := by decide +kernel
theorem dX7_share_122 : decode cX7_share 122 = .ok (.iinc 7 1, 3) := by decide +kernel
theorem dX7_share_125 : decode cX7_share 125 = .ok (.goto (-62), 3) := by decide +kernel
theorem dX7_share_128 : decode cX7_share 128 = .ok (.iload_n 2, 1) := by decide +kernel
theorem dX7_share_129 : decode cX7_share 129 = .ok (.iload 4, 2) := by decide +kernel
theorem dX7_share_131 : decode cX7_share 131 = .ok (.imul, 1) := by decide +kernel
theorem dX7_share_132 : decode cX7_share 132 = .ok (.iload_n 3, 1) := by decide +kernel
theorem dX7_share_133 : decode cX7_share 133 = .ok (.idiv, 1) := by decide +kernel
theorem dX7_share_134 : decode cX7_share 134 = .ok (.iload 6, 2) := by decide +kernel
theorem dX7_share_136 : decode cX7_share 136 = .ok (.iload 5, 2) := by decide +kernel
theorem dX7_share_138 : decode cX7_share 138 = .ok (.if_icmp .ge 7, 3) := by decide +kernel
theorem dX7_share_141 : decode cX7_share 141 = .ok (.iconst 1, 1) := by decide +kernel
theorem dX7_share_142 : decode cX7_share 142 = .ok (.goto 4, 3) := by decide +kernel
theorem dX7_share_145 : decode cX7_share 145 = .ok (.iconst 0, 1) := by decide +kernel
theorem dX7_share_146 : decode cX7_share 146 = .ok (.iadd, 1) := by decide +kernel
theorem dX7_share_147 : decode cX7_share 147 = .ok (.ireturn, 1) := by decide +kernel
theorem dX7_afterTurns_0 : decode cX7_afterTurns 0 = .ok (.aload_n 0, 1) := by decide +kernel
theorem dX7_afterTurns_1 : decode cX7_afterTurns 1 = .ok (.getfield 19, 3) := by decide +kernel
theorem dX7_afterTurns_4 : decode cX7_afterTurns 4 = .ok (.iconst 0, 1) := by decide +kernel
theorem dX7_afterTurns_5 : decode cX7_afterTurns 5 = .ok (.iaload, 1) := by decide +kernel
theorem dX7_afterTurns_6 : decode cX7_afterTurns 6 = .ok (.iconst 1, 1) := by decide +kernel
theorem dX7_afterTurns_7 : decode cX7_afterTurns 7 = .ok (.isub, 1) := by decide +kernel
theorem dX7_afterTurns_8 : decode cX7_afterTurns 8 = .ok (.istore 6, 2) := by decide +kernel
theorem dX7_afterTurns_10 : decode cX7_afterTurns 10 = .ok (.aload_n 0, 1) := by decide +kernel
theorem dX7_afterTurns_11 : decode cX7_afterTurns 11 = .ok (.invokevirtual 193, 3) := by decide +kernel
theorem dX7_afterTurns_14 : decode cX7_afterTurns 14 = .ok (.aload_n 0, 1) := by decide +kernel
theorem dX7_afterTurns_15 : decode cX7_afterTurns 15 = .ok (.iconst 0, 1) := by decide +kernel
theorem dX7_afterTurns_16 : decode cX7_afterTurns 16 = .ok (.iload_n 1, 1) := by decide +kernel
theorem dX7_afterTurns_17 : decode cX7_afterTurns 17 = .ok (.invokevirtual 216, 3) := by decide +kernel
theorem dX7_afterTurns_20 : decode cX7_afterTurns 20 = .ok (.istore 7, 2) := by decide +kernel
theorem dX7_afterTurns_22 : decode cX7_afterTurns 22 = .ok (.aload_n 0, 1) := by decide +kernel
theorem dX7_afterTurns_23 : decode cX7_afterTurns 23 = .ok (.iload 6, 2) := by decide +kernel
theorem dX7_afterTurns_25 : decode cX7_afterTurns 25 = .ok (.iload_n 2, 1) := by decide +kernel
theorem dX7_afterTurns_26 : decode cX7_afterTurns 26 = .ok (.invokevirtual 216, 3) := by decide +kernel
theorem dX7_afterTurns_29 : decode cX7_afterTurns 29 = .ok (.ifCond .eq 12, 3) := by decide +kernel
theorem dX7_afterTurns_32 : decode cX7_afterTurns 32 = .ok (.iload 7, 2) := by decide +kernel
theorem dX7_afterTurns_34 : decode cX7_afterTurns 34 = .ok (.ifCond .eq 7, 3) := by decide +kernel
theorem dX7_afterTurns_37 : decode cX7_afterTurns 37 = .ok (.iconst 1, 1) := by decide +kernel
theorem dX7_afterTurns_38 : decode cX7_afterTurns 38 = .ok (.goto 4, 3) := by decide +kernel
theorem dX7_afterTurns_41 : decode cX7_afterTurns 41 = .ok (.iconst 0, 1) := by decide +kernel
theorem dX7_afterTurns_42 : decode cX7_afterTurns 42 = .ok (.istore 7, 2) := by decide +kernel
theorem dX7_afterTurns_44 : decode cX7_afterTurns 44 = .ok (.aload_n 0, 1) := by decide +kernel
theorem dX7_afterTurns_45 : decode cX7_afterTurns 45 = .ok (.iconst 0, 1) := by decide +kernel
theorem dX7_afterTurns_46 : decode cX7_afterTurns 46 = .ok (.iload_n 3, 1) := by decide +kernel
theorem dX7_afterTurns_47 : decode cX7_afterTurns 47 = .ok (.invokevirtual 216, 3) := by decide +kernel
theorem dX7_afterTurns_50 : decode cX7_afterTurns 50 = .ok (.ifCond .eq 12, 3) := by decide +kernel
theorem dX7_afterTurns_53 : decode cX7_afterTurns 53 = .ok (.iload 7, 2) := by decide +kernel
theorem dX7_afterTurns_55 : decode cX7_afterTurns 55 = .ok (.ifCond .eq 7, 3) := by decide +kernel
theorem dX7_afterTurns_58 : decode cX7_afterTurns 58 = .ok (.iconst 1, 1) := by decide +kernel
theorem dX7_afterTurns_59 : decode cX7_afterTurns 59 = .ok (.goto 4, 3) := by decide +kernel
theorem dX7_afterTurns_62 : decode cX7_afterTurns 62 = .ok (.iconst 0, 1) := by decide +kernel
theorem dX7_afterTurns_63 : decode cX7_afterTurns 63 = .ok (.istore 7, 2) := by decide +kernel
theorem dX7_afterTurns_65 : decode cX7_afterTurns 65 = .ok (.aload_n 0, 1) := by decide +kernel
theorem dX7_afterTurns_66 : decode cX7_afterTurns 66 = .ok (.iload 6, 2) := by decide +kernel
theorem dX7_afterTurns_68 : decode cX7_afterTurns 68 = .ok (.iload 4, 2) := by decide +kernel
theorem dX7_afterTurns_70 : decode cX7_afterTurns 70 = .ok (.invokevirtual 216, 3) := by decide +kernel
theorem dX7_afterTurns_73 : decode cX7_afterTurns 73 = .ok (.ifCond .eq 12, 3) := by decide +kernel
theorem dX7_afterTurns_76 : decode cX7_afterTurns 76 = .ok (.iload 7, 2) := by decide +kernel
theorem dX7_afterTurns_78 : decode cX7_afterTurns 78 = .ok (.ifCond .eq 7, 3) := by decide +kernel
theorem dX7_afterTurns_81 : decode cX7_afterTurns 81 = .ok (.iconst 1, 1) := by decide +kernel
theorem dX7_afterTurns_82 : decode cX7_afterTurns 82 = .ok (.goto 4, 3) := by decide +kernel
theorem dX7_afterTurns_85 : decode cX7_afterTurns 85 = .ok (.iconst 0, 1) := by decide +kernel
theorem dX7_afterTurns_86 : decode cX7_afterTurns 86 = .ok (.istore 7, 2) := by decide +kernel
theorem dX7_afterTurns_88 : decode cX7_afterTurns 88 = .ok (.iload 7, 2) := by decide +kernel
theorem dX7_afterTurns_90 : decode cX7_afterTurns 90 = .ok (.ifCond .ne 6, 3) := by decide +kernel
theorem dX7_afterTurns_93 : decode cX7_afterTurns 93 = .ok (.ldc 87, 2) := by decide +kernel
theorem dX7_afterTurns_95 : decode cX7_afterTurns 95 = .ok (.ireturn, 1) := by decide +kernel
theorem dX7_afterTurns_96 : decode cX7_afterTurns 96 = .ok (.aload_n 0, 1) := by decide +kernel
theorem dX7_afterTurns_97 : decode cX7_afterTurns 97 = .ok (.getfield 25, 3) := by decide +kernel
theorem dX7_afterTurns_100 : decode cX7_afterTurns 100 = .ok (.iload 5, 2) := by decide +kernel
theorem dX7_afterTurns_102 : decode cX7_afterTurns 102 = .ok (.invokestatic 196, 3) := by decide +kernel
theorem dX7_afterTurns_105 : decode cX7_afterTurns 105 = .ok (.aload_n 0, 1) := by decide +kernel
theorem dX7_afterTurns_106 : decode cX7_afterTurns 106 = .ok (.getfield 25, 3) := by decide +kernel
theorem dX7_afterTurns_109 : decode cX7_afterTurns 109 = .ok (.iconst 0, 1) := by decide +kernel
theorem dX7_afterTurns_110 : decode cX7_afterTurns 110 = .ok (.iconst 3, 1) := by decide +kernel
theorem dX7_afterTurns_111 : decode cX7_afterTurns 111 = .ok (.invokestatic 146, 3) := by decide +kernel
theorem dX7_afterTurns_114 : decode cX7_afterTurns 114 = .ok (.aload_n 0, 1) := by decide +kernel
theorem dX7_afterTurns_115 : decode cX7_afterTurns 115 = .ok (.getfield 25, 3) := by decide +kernel
theorem dX7_afterTurns_118 : decode cX7_afterTurns 118 = .ok (.iload 6, 2) := by decide +kernel
theorem dX7_afterTurns_120 : decode cX7_afterTurns 120 = .ok (.iconst 3, 1) := by decide +kernel
theorem dX7_afterTurns_121 : decode cX7_afterTurns 121 = .ok (.invokestatic 146, 3) := by decide +kernel
theorem dX7_afterTurns_124 : decode cX7_afterTurns 124 = .ok (.isub, 1) := by decide +kernel
theorem dX7_afterTurns_125 : decode cX7_afterTurns 125 = .ok (.ireturn, 1) := by decide +kernel
theorem dX7_step_0 : decode cX7_step 0 = .ok (.aload_n 0, 1) := by decide +kernel
theorem dX7_step_1 : decode cX7_step 1 = .ok (.getfield 25, 3) := by decide +kernel
theorem dX7_step_4 : decode cX7_step 4 = .ok (.iload_n 1, 1) := by decide +kernel
theorem dX7_step_5 : decode cX7_step 5 = .ok (.iconst 1, 1) := by decide +kernel
theorem dX7_step_6 : decode cX7_step 6 = .ok (.invokestatic 146, 3) := by decide +kernel
theorem dX7_step_9 : decode cX7_step 9 = .ok (.iload_n 2, 1) := by decide +kernel
theorem dX7_step_10 : decode cX7_step 10 = .ok (.iadd, 1) := by decide +kernel
theorem dX7_step_11 : decode cX7_step 11 = .ok (.istore_n 3, 1) := by decide +kernel
theorem dX7_step_12 : decode cX7_step 12 = .ok (.iload_n 3, 1) := by decide +kernel
theorem dX7_step_13 : decode cX7_step 13 = .ok (.i2l, 1) := by decide +kernel
theorem dX7_step_14 : decode cX7_step 14 = .ok (.lconst 0, 1) := by decide +kernel
theorem dX7_step_15 : decode cX7_step 15 = .ok (.ldc2_w 183, 3) := by decide +kernel
theorem dX7_step_18 : decode cX7_step 18 = .ok (.invokestatic 54, 3) := by decide +kernel
theorem dX7_step_21 : decode cX7_step 21 = .ok (.ifCond .ne 5, 3) := by decide +kernel
theorem dX7_step_24 : decode cX7_step 24 = .ok (.iconst 0, 1) := by decide +kernel
theorem dX7_step_25 : decode cX7_step 25 = .ok (.ireturn, 1) := by decide +kernel
theorem dX7_step_26 : decode cX7_step 26 = .ok (.aload_n 0, 1) := by decide +kernel
theorem dX7_step_27 : decode cX7_step 27 = .ok (.getfield 25, 3) := by decide +kernel
theorem dX7_step_30 : decode cX7_step 30 = .ok (.iload_n 1, 1) := by decide +kernel
theorem dX7_step_31 : decode cX7_step 31 = .ok (.iconst 1, 1) := by decide +kernel
theorem dX7_step_32 : decode cX7_step 32 = .ok (.iload_n 3, 1) := by decide +kernel
theorem dX7_step_33 : decode cX7_step 33 = .ok (.invokestatic 154, 3) := by decide +kernel
theorem dX7_step_36 : decode cX7_step 36 = .ok (.iconst 1, 1) := by decide +kernel
theorem dX7_step_37 : decode cX7_step 37 = .ok (.ireturn, 1) := by decide +kernel
theorem dX7_byTurns_0 : decode cX7_byTurns 0 = .ok (.aload_n 0, 1) := by decide +kernel
theorem dX7_byTurns_1 : decode cX7_byTurns 1 = .ok (.iconst 0, 1) := by decide +kernel
theorem dX7_byTurns_2 : decode cX7_byTurns 2 = .ok (.putfield 44, 3) := by decide +kernel
theorem dX7_byTurns_5 : decode cX7_byTurns 5 = .ok (.aload_n 0, 1) := by decide +kernel
theorem dX7_byTurns_6 : decode cX7_byTurns 6 = .ok (.invokevirtual 171, 3) := by decide +kernel
theorem dX7_byTurns_9 : decode cX7_byTurns 9 = .ok (.ifCond .ne 6, 3) := by decide +kernel
theorem dX7_byTurns_12 : decode cX7_byTurns 12 = .ok (.ldc 174, 2) := by decide +kernel
theorem dX7_byTurns_14 : decode cX7_byTurns 14 = .ok (.ireturn, 1) := by decide +kernel
theorem dX7_byTurns_15 : decode cX7_byTurns 15 = .ok (.iload_n 1, 1) := by decide +kernel
theorem dX7_byTurns_16 : decode cX7_byTurns 16 = .ok (.i2l, 1) := by decide +kernel
theorem dX7_byTurns_17 : decode cX7_byTurns 17 = .ok (.lconst 0, 1) := by decide +kernel
theorem dX7_byTurns_18 : decode cX7_byTurns 18 = .ok (.ldc2_w 219, 3) := by decide +kernel
theorem dX7_byTurns_21 : decode cX7_byTurns 21 = .ok (.invokestatic 54, 3) := by decide +kernel
theorem dX7_byTurns_24 : decode cX7_byTurns 24 = .ok (.ifCond .eq 15, 3) := by decide +kernel
theorem dX7_byTurns_27 : decode cX7_byTurns 27 = .ok (.iload_n 2, 1) := by decide +kernel
theorem dX7_byTurns_28 : decode cX7_byTurns 28 = .ok (.i2l, 1) := by decide +kernel
theorem dX7_byTurns_29 : decode cX7_byTurns 29 = .ok (.lconst 1, 1) := by decide +kernel
theorem dX7_byTurns_30 : decode cX7_byTurns 30 = .ok (.ldc2_w 221, 3) := by decide +kernel
theorem dX7_byTurns_33 : decode cX7_byTurns 33 = .ok (.invokestatic 54, 3) := by decide +kernel
theorem dX7_byTurns_36 : decode cX7_byTurns 36 = .ok (.ifCond .ne 6, 3) := by decide +kernel
theorem dX7_byTurns_39 : decode cX7_byTurns 39 = .ok (.ldc 64, 2) := by decide +kernel
theorem dX7_byTurns_41 : decode cX7_byTurns 41 = .ok (.ireturn, 1) := by decide +kernel
theorem dX7_byTurns_42 : decode cX7_byTurns 42 = .ok (.ldc 87, 2) := by decide +kernel
theorem dX7_byTurns_44 : decode cX7_byTurns 44 = .ok (.istore_n 3, 1) := by decide +kernel
theorem dX7_byTurns_45 : decode cX7_byTurns 45 = .ok (.iload_n 1, 1) := by decide +kernel
theorem dX7_byTurns_46 : decode cX7_byTurns 46 = .ok (.ifCond .le 7, 3) := by decide +kernel
theorem dX7_byTurns_49 : decode cX7_byTurns 49 = .ok (.iconst (-1), 1) := by decide +kernel
theorem dX7_byTurns_50 : decode cX7_byTurns 50 = .ok (.goto 4, 3) := by decide +kernel
theorem dX7_byTurns_53 : decode cX7_byTurns 53 = .ok (.iconst 0, 1) := by decide +kernel
theorem dX7_byTurns_54 : decode cX7_byTurns 54 = .ok (.istore 4, 2) := by decide +kernel
theorem dX7_byTurns_56 : decode cX7_byTurns 56 = .ok (.iload 4, 2) := by decide +kernel
theorem dX7_byTurns_58 : decode cX7_byTurns 58 = .ok (.iload_n 1, 1) := by decide +kernel
theorem dX7_byTurns_59 : decode cX7_byTurns 59 = .ok (.ifCond .le 7, 3) := by decide +kernel
theorem dX7_byTurns_62 : decode cX7_byTurns 62 = .ok (.iconst 1, 1) := by decide +kernel
theorem dX7_byTurns_63 : decode cX7_byTurns 63 = .ok (.goto 4, 3) := by decide +kernel
theorem dX7_byTurns_66 : decode cX7_byTurns 66 = .ok (.iconst 0, 1) := by decide +kernel
theorem dX7_byTurns_67 : decode cX7_byTurns 67 = .ok (.if_icmp .gt 224, 3) := by decide +kernel
theorem dX7_byTurns_70 : decode cX7_byTurns 70 = .ok (.ldc 87, 2) := by decide +kernel
theorem dX7_byTurns_72 : decode cX7_byTurns 72 = .ok (.istore 5, 2) := by decide +kernel
theorem dX7_byTurns_74 : decode cX7_byTurns 74 = .ok (.iload_n 1, 1) := by decide +kernel
theorem dX7_byTurns_75 : decode cX7_byTurns 75 = .ok (.iconst 1, 1) := by decide +kernel
theorem dX7_byTurns_76 : decode cX7_byTurns 76 = .ok (.if_icmp .le 7, 3) := by decide +kernel
theorem dX7_byTurns_79 : decode cX7_byTurns 79 = .ok (.iconst (-1), 1) := by decide +kernel
theorem dX7_byTurns_80 : decode cX7_byTurns 80 = .ok (.goto 4, 3) := by decide +kernel
theorem dX7_byTurns_83 : decode cX7_byTurns 83 = .ok (.iconst 0, 1) := by decide +kernel
theorem dX7_byTurns_84 : decode cX7_byTurns 84 = .ok (.istore 6, 2) := by decide +kernel
theorem dX7_byTurns_86 : decode cX7_byTurns 86 = .ok (.iload 6, 2) := by decide +kernel
theorem dX7_byTurns_88 : decode cX7_byTurns 88 = .ok (.iload_n 1, 1) := by decide +kernel
theorem dX7_byTurns_89 : decode cX7_byTurns 89 = .ok (.iconst 1, 1) := by decide +kernel
theorem dX7_byTurns_90 : decode cX7_byTurns 90 = .ok (.if_icmp .le 7, 3) := by decide +kernel
theorem dX7_byTurns_93 : decode cX7_byTurns 93 = .ok (.iconst 1, 1) := by decide +kernel
theorem dX7_byTurns_94 : decode cX7_byTurns 94 = .ok (.goto 4, 3) := by decide +kernel
theorem dX7_byTurns_97 : decode cX7_byTurns 97 = .ok (.iconst 0, 1) := by decide +kernel
theorem dX7_byTurns_98 : decode cX7_byTurns 98 = .ok (.if_icmp .gt 174, 3) := by decide +kernel
theorem dX7_byTurns_101 : decode cX7_byTurns 101 = .ok (.ldc 87, 2) := by decide +kernel
theorem dX7_byTurns_103 : decode cX7_byTurns 103 = .ok (.istore 7, 2) := by decide +kernel
theorem dX7_byTurns_105 : decode cX7_byTurns 105 = .ok (.iload_n 1, 1) := by decide +kernel
theorem dX7_byTurns_106 : decode cX7_byTurns 106 = .ok (.iconst 2, 1) := by decide +kernel
theorem dX7_byTurns_107 : decode cX7_byTurns 107 = .ok (.if_icmp .le 7, 3) := by decide +kernel
theorem dX7_byTurns_110 : decode cX7_byTurns 110 = .ok (.iconst (-1), 1) := by decide +kernel
theorem dX7_byTurns_111 : decode cX7_byTurns 111 = .ok (.goto 4, 3) := by decide +kernel
theorem dX7_byTurns_114 : decode cX7_byTurns 114 = .ok (.iconst 0, 1) := by decide +kernel
theorem dX7_byTurns_115 : decode cX7_byTurns 115 = .ok (.istore 8, 2) := by decide +kernel
theorem dX7_byTurns_117 : decode cX7_byTurns 117 = .ok (.iload 8, 2) := by decide +kernel
theorem dX7_byTurns_119 : decode cX7_byTurns 119 = .ok (.iload_n 1, 1) := by decide +kernel
theorem dX7_byTurns_120 : decode cX7_byTurns 120 = .ok (.iconst 2, 1) := by decide +kernel
theorem dX7_byTurns_121 : decode cX7_byTurns 121 = .ok (.if_icmp .le 7, 3) := by decide +kernel
theorem dX7_byTurns_124 : decode cX7_byTurns 124 = .ok (.iconst 1, 1) := by decide +kernel
theorem dX7_byTurns_125 : decode cX7_byTurns 125 = .ok (.goto 4, 3) := by decide +kernel
theorem dX7_byTurns_128 : decode cX7_byTurns 128 = .ok (.iconst 0, 1) := by decide +kernel
theorem dX7_byTurns_129 : decode cX7_byTurns 129 = .ok (.if_icmp .gt 107, 3) := by decide +kernel
theorem dX7_byTurns_132 : decode cX7_byTurns 132 = .ok (.ldc 87, 2) := by decide +kernel
theorem dX7_byTurns_134 : decode cX7_byTurns 134 = .ok (.istore 9, 2) := by decide +kernel
theorem dX7_byTurns_136 : decode cX7_byTurns 136 = .ok (.iload_n 1, 1) := by decide +kernel
theorem dX7_byTurns_137 : decode cX7_byTurns 137 = .ok (.iconst 3, 1) := by decide +kernel
theorem dX7_byTurns_138 : decode cX7_byTurns 138 = .ok (.if_icmp .le 7, 3) := by decide +kernel
theorem dX7_byTurns_141 : decode cX7_byTurns 141 = .ok (.iconst (-1), 1) := by decide +kernel
theorem dX7_byTurns_142 : decode cX7_byTurns 142 = .ok (.goto 4, 3) := by decide +kernel
theorem dX7_byTurns_145 : decode cX7_byTurns 145 = .ok (.iconst 0, 1) := by decide +kernel
theorem dX7_byTurns_146 : decode cX7_byTurns 146 = .ok (.istore 10, 2) := by decide +kernel
theorem dX7_byTurns_148 : decode cX7_byTurns 148 = .ok (.iload 10, 2) := by decide +kernel
theorem dX7_byTurns_150 : decode cX7_byTurns 150 = .ok (.iload_n 1, 1) := by decide +kernel
theorem dX7_byTurns_151 : decode cX7_byTurns 151 = .ok (.iconst 3, 1) := by decide +kernel
theorem dX7_byTurns_152 : decode cX7_byTurns 152 = .ok (.if_icmp .le 7, 3) := by decide +kernel
theorem dX7_byTurns_155 : decode cX7_byTurns 155 = .ok (.iconst 1, 1) := by decide +kernel
theorem dX7_byTurns_156 : decode cX7_byTurns 156 = .ok (.goto 4, 3) := by decide +kernel
theorem dX7_byTurns_159 : decode cX7_byTurns 159 = .ok (.iconst 0, 1) := by decide +kernel
theorem dX7_byTurns_160 : decode cX7_byTurns 160 = .ok (.if_icmp .gt 54, 3) := by decide +kernel
theorem dX7_byTurns_163 : decode cX7_byTurns 163 = .ok (.aload_n 0, 1) := by decide +kernel
theorem dX7_byTurns_164 : decode cX7_byTurns 164 = .ok (.iload 4, 2) := by decide +kernel
theorem dX7_byTurns_166 : decode cX7_byTurns 166 = .ok (.iload 6, 2) := by decide +kernel
theorem dX7_byTurns_168 : decode cX7_byTurns 168 = .ok (.iload 8, 2) := by decide +kernel
theorem dX7_byTurns_170 : decode cX7_byTurns 170 = .ok (.iload 10, 2) := by decide +kernel
theorem dX7_byTurns_172 : decode cX7_byTurns 172 = .ok (.iload_n 2, 1) := by decide +kernel
theorem dX7_byTurns_173 : decode cX7_byTurns 173 = .ok (.invokevirtual 223, 3) := by decide +kernel
theorem dX7_byTurns_176 : decode cX7_byTurns 176 = .ok (.istore 11, 2) := by decide +kernel
theorem dX7_byTurns_178 : decode cX7_byTurns 178 = .ok (.iload 11, 2) := by decide +kernel
theorem dX7_byTurns_180 : decode cX7_byTurns 180 = .ok (.ldc 87, 2) := by decide +kernel
theorem dX7_byTurns_182 : decode cX7_byTurns 182 = .ok (.if_icmp .eq 22, 3) := by decide +kernel
theorem dX7_byTurns_185 : decode cX7_byTurns 185 = .ok (.iload 9, 2) := by decide +kernel
theorem dX7_byTurns_187 : decode cX7_byTurns 187 = .ok (.ldc 87, 2) := by decide +kernel
theorem dX7_byTurns_189 : decode cX7_byTurns 189 = .ok (.if_icmp .eq 10, 3) := by decide +kernel
theorem dX7_byTurns_192 : decode cX7_byTurns 192 = .ok (.iload 11, 2) := by decide +kernel
theorem dX7_byTurns_194 : decode cX7_byTurns 194 = .ok (.iload 9, 2) := by decide +kernel
theorem dX7_byTurns_196 : decode cX7_byTurns 196 = .ok (.if_icmp .ge 8, 3) := by decide +kernel
theorem dX7_byTurns_199 : decode cX7_byTurns 199 = .ok (.iload 11, 2) := by decide +kernel
theorem dX7_byTurns_201 : decode cX7_byTurns 201 = .ok (.goto 5, 3) := by decide +kernel
theorem dX7_byTurns_204 : decode cX7_byTurns 204 = .ok (.iload 9, 2) := by decide +kernel
theorem dX7_byTurns_206 : decode cX7_byTurns 206 = .ok (.istore 9, 2) := by decide +kernel
theorem dX7_byTurns_208 : decode cX7_byTurns 208 = .ok (.iinc 10 1, 3) := by decide +kernel
theorem dX7_byTurns_211 : decode cX7_byTurns 211 = .ok (.goto (-63), 3) := by decide +kernel
theorem dX7_byTurns_214 : decode cX7_byTurns 214 = .ok (.iload 9, 2) := by decide +kernel
theorem dX7_byTurns_216 : decode cX7_byTurns 216 = .ok (.iload 7, 2) := by decide +kernel
theorem dX7_byTurns_218 : decode cX7_byTurns 218 = .ok (.if_icmp .le 8, 3) := by decide +kernel
theorem dX7_byTurns_221 : decode cX7_byTurns 221 = .ok (.iload 9, 2) := by decide +kernel
theorem dX7_byTurns_223 : decode cX7_byTurns 223 = .ok (.goto 5, 3) := by decide +kernel
theorem dX7_byTurns_226 : decode cX7_byTurns 226 = .ok (.iload 7, 2) := by decide +kernel
theorem dX7_byTurns_228 : decode cX7_byTurns 228 = .ok (.istore 7, 2) := by decide +kernel
theorem dX7_byTurns_230 : decode cX7_byTurns 230 = .ok (.iinc 8 1, 3) := by decide +kernel
theorem dX7_byTurns_233 : decode cX7_byTurns 233 = .ok (.goto (-116), 3) := by decide +kernel
theorem dX7_byTurns_236 : decode cX7_byTurns 236 = .ok (.iload 7, 2) := by decide +kernel
theorem dX7_byTurns_238 : decode cX7_byTurns 238 = .ok (.ldc 87, 2) := by decide +kernel
theorem dX7_byTurns_240 : decode cX7_byTurns 240 = .ok (.if_icmp .eq 22, 3) := by decide +kernel
theorem dX7_byTurns_243 : decode cX7_byTurns 243 = .ok (.iload 5, 2) := by decide +kernel
theorem dX7_byTurns_245 : decode cX7_byTurns 245 = .ok (.ldc 87, 2) := by decide +kernel
theorem dX7_byTurns_247 : decode cX7_byTurns 247 = .ok (.if_icmp .eq 10, 3) := by decide +kernel
theorem dX7_byTurns_250 : decode cX7_byTurns 250 = .ok (.iload 7, 2) := by decide +kernel
theorem dX7_byTurns_252 : decode cX7_byTurns 252 = .ok (.iload 5, 2) := by decide +kernel
theorem dX7_byTurns_254 : decode cX7_byTurns 254 = .ok (.if_icmp .ge 8, 3) := by decide +kernel
theorem dX7_byTurns_257 : decode cX7_byTurns 257 = .ok (.iload 7, 2) := by decide +kernel
theorem dX7_byTurns_259 : decode cX7_byTurns 259 = .ok (.goto 5, 3) := by decide +kernel
theorem dX7_byTurns_262 : decode cX7_byTurns 262 = .ok (.iload 5, 2) := by decide +kernel
theorem dX7_byTurns_264 : decode cX7_byTurns 264 = .ok (.istore 5, 2) := by decide +kernel
theorem dX7_byTurns_266 : decode cX7_byTurns 266 = .ok (.iinc 6 1, 3) := by decide +kernel
theorem dX7_byTurns_269 : decode cX7_byTurns 269 = .ok (.goto (-183), 3) := by decide +kernel
theorem dX7_byTurns_272 : decode cX7_byTurns 272 = .ok (.iload 5, 2) := by decide +kernel
theorem dX7_byTurns_274 : decode cX7_byTurns 274 = .ok (.iload_n 3, 1) := by decide +kernel
theorem dX7_byTurns_275 : decode cX7_byTurns 275 = .ok (.if_icmp .le 8, 3) := by decide +kernel
theorem dX7_byTurns_278 : decode cX7_byTurns 278 = .ok (.iload 5, 2) := by decide +kernel
theorem dX7_byTurns_280 : decode cX7_byTurns 280 = .ok (.goto 4, 3) := by decide +kernel
theorem dX7_byTurns_283 : decode cX7_byTurns 283 = .ok (.iload_n 3, 1) := by decide +kernel
theorem dX7_byTurns_284 : decode cX7_byTurns 284 = .ok (.istore_n 3, 1) := by decide +kernel
theorem dX7_byTurns_285 : decode cX7_byTurns 285 = .ok (.iinc 4 1, 3) := by decide +kernel
theorem dX7_byTurns_288 : decode cX7_byTurns 288 = .ok (.goto (-232), 3) := by decide +kernel
theorem dX7_byTurns_291 : decode cX7_byTurns 291 = .ok (.iload_n 3, 1) := by decide +kernel
theorem dX7_byTurns_292 : decode cX7_byTurns 292 = .ok (.ireturn, 1) := by decide +kernel
theorem dX7_isSo_0 : decode cX7_isSo 0 = .ok (.iconst 1, 1) := by decide +kernel
theorem dX7_isSo_1 : decode cX7_isSo 1 = .ok (.istore_n 3, 1) := by decide +kernel
theorem dX7_isSo_2 : decode cX7_isSo 2 = .ok (.iconst 0, 1) := by decide +kernel
theorem dX7_isSo_3 : decode cX7_isSo 3 = .ok (.istore 4, 2) := by decide +kernel
theorem dX7_isSo_5 : decode cX7_isSo 5 = .ok (.iload 4, 2) := by decide +kernel
theorem dX7_isSo_7 : decode cX7_isSo 7 = .ok (.iload_n 2, 1) := by decide +kernel
theorem dX7_isSo_8 : decode cX7_isSo 8 = .ok (.if_icmp .ge 63, 3) := by decide +kernel
theorem dX7_isSo_11 : decode cX7_isSo 11 = .ok (.aload_n 0, 1) := by decide +kernel
theorem dX7_isSo_12 : decode cX7_isSo 12 = .ok (.getfield 25, 3) := by decide +kernel
theorem dX7_isSo_15 : decode cX7_isSo 15 = .ok (.invokestatic 161, 3) := by decide +kernel
theorem dX7_isSo_18 : decode cX7_isSo 18 = .ok (.istore 5, 2) := by decide +kernel
theorem dX7_isSo_20 : decode cX7_isSo 20 = .ok (.iload_n 3, 1) := by decide +kernel
theorem dX7_isSo_21 : decode cX7_isSo 21 = .ok (.ifCond .eq 33, 3) := by decide +kernel
theorem dX7_isSo_24 : decode cX7_isSo 24 = .ok (.iload 5, 2) := by decide +kernel
theorem dX7_isSo_26 : decode cX7_isSo 26 = .ok (.ldc 87, 2) := by decide +kernel
theorem dX7_isSo_28 : decode cX7_isSo 28 = .ok (.if_icmp .ne 8, 3) := by decide +kernel
theorem dX7_isSo_31 : decode cX7_isSo 31 = .ok (.bipush 99, 2) := by decide +kernel
theorem dX7_isSo_33 : decode cX7_isSo 33 = .ok (.goto 5, 3) := by decide +kernel
theorem dX7_isSo_36 : decode cX7_isSo 36 = .ok (.iload 5, 2) := by decide +kernel
theorem dX7_isSo_38 : decode cX7_isSo 38 = .ok (.aload_n 0, 1) := by decide +kernel
theorem dX7_isSo_39 : decode cX7_isSo 39 = .ok (.getfield 16, 3) := by decide +kernel
theorem dX7_isSo_42 : decode cX7_isSo 42 = .ok (.iload_n 1, 1) := by decide +kernel
theorem dX7_isSo_43 : decode cX7_isSo 43 = .ok (.iload 4, 2) := by decide +kernel
theorem dX7_isSo_45 : decode cX7_isSo 45 = .ok (.iadd, 1) := by decide +kernel
theorem dX7_isSo_46 : decode cX7_isSo 46 = .ok (.iaload, 1) := by decide +kernel
theorem dX7_isSo_47 : decode cX7_isSo 47 = .ok (.if_icmp .ne 7, 3) := by decide +kernel
theorem dX7_isSo_50 : decode cX7_isSo 50 = .ok (.iconst 1, 1) := by decide +kernel
theorem dX7_isSo_51 : decode cX7_isSo 51 = .ok (.goto 4, 3) := by decide +kernel
theorem dX7_isSo_54 : decode cX7_isSo 54 = .ok (.iconst 0, 1) := by decide +kernel
theorem dX7_isSo_55 : decode cX7_isSo 55 = .ok (.istore_n 3, 1) := by decide +kernel
theorem dX7_isSo_56 : decode cX7_isSo 56 = .ok (.aload_n 0, 1) := by decide +kernel
theorem dX7_isSo_57 : decode cX7_isSo 57 = .ok (.getfield 25, 3) := by decide +kernel
theorem dX7_isSo_60 : decode cX7_isSo 60 = .ok (.invokestatic 168, 3) := by decide +kernel
theorem dX7_isSo_63 : decode cX7_isSo 63 = .ok (.istore 6, 2) := by decide +kernel
theorem dX7_isSo_65 : decode cX7_isSo 65 = .ok (.iinc 4 1, 3) := by decide +kernel
theorem dX7_isSo_68 : decode cX7_isSo 68 = .ok (.goto (-63), 3) := by decide +kernel
theorem dX7_isSo_71 : decode cX7_isSo 71 = .ok (.iload_n 3, 1) := by decide +kernel
theorem dX7_isSo_72 : decode cX7_isSo 72 = .ok (.ireturn, 1) := by decide +kernel
theorem dX7_rowFound_0 : decode cX7_rowFound 0 = .ok (.aload_n 0, 1) := by decide +kernel
theorem dX7_rowFound_1 : decode cX7_rowFound 1 = .ok (.getfield 7, 3) := by decide +kernel
theorem dX7_rowFound_4 : decode cX7_rowFound 4 = .ok (.iload_n 1, 1) := by decide +kernel
theorem dX7_rowFound_5 : decode cX7_rowFound 5 = .ok (.iaload, 1) := by decide +kernel
theorem dX7_rowFound_6 : decode cX7_rowFound 6 = .ok (.ifCond .ge 9, 3) := by decide +kernel
theorem dX7_rowFound_9 : decode cX7_rowFound 9 = .ok (.aload_n 0, 1) := by decide +kernel
theorem dX7_rowFound_10 : decode cX7_rowFound 10 = .ok (.iconst 1, 1) := by decide +kernel
theorem dX7_rowFound_11 : decode cX7_rowFound 11 = .ok (.invokevirtual 65, 3) := by decide +kernel
theorem dX7_rowFound_14 : decode cX7_rowFound 14 = .ok (.ireturn, 1) := by decide +kernel
theorem dX7_rowFound_15 : decode cX7_rowFound 15 = .ok (.iload_n 2, 1) := by decide +kernel
theorem dX7_rowFound_16 : decode cX7_rowFound 16 = .ok (.ifCond .lt 19, 3) := by decide +kernel
theorem dX7_rowFound_19 : decode cX7_rowFound 19 = .ok (.iload_n 2, 1) := by decide +kernel
theorem dX7_rowFound_20 : decode cX7_rowFound 20 = .ok (.i2l, 1) := by decide +kernel
theorem dX7_rowFound_21 : decode cX7_rowFound 21 = .ok (.iload_n 3, 1) := by decide +kernel
theorem dX7_rowFound_22 : decode cX7_rowFound 22 = .ok (.i2l, 1) := by decide +kernel
theorem dX7_rowFound_23 : decode cX7_rowFound 23 = .ok (.ladd, 1) := by decide +kernel
theorem dX7_rowFound_24 : decode cX7_rowFound 24 = .ok (.aload_n 0, 1) := by decide +kernel
theorem dX7_rowFound_25 : decode cX7_rowFound 25 = .ok (.getfield 13, 3) := by decide +kernel
theorem dX7_rowFound_28 : decode cX7_rowFound 28 = .ok (.iload_n 1, 1) := by decide +kernel
theorem dX7_rowFound_29 : decode cX7_rowFound 29 = .ok (.iaload, 1) := by decide +kernel
theorem dX7_rowFound_30 : decode cX7_rowFound 30 = .ok (.i2l, 1) := by decide +kernel
theorem dX7_rowFound_31 : decode cX7_rowFound 31 = .ok (.lcmp, 1) := by decide +kernel
theorem dX7_rowFound_32 : decode cX7_rowFound 32 = .ok (.ifCond .le 9, 3) := by decide +kernel
theorem dX7_rowFound_35 : decode cX7_rowFound 35 = .ok (.aload_n 0, 1) := by decide +kernel
theorem dX7_rowFound_36 : decode cX7_rowFound 36 = .ok (.iconst 2, 1) := by decide +kernel
theorem dX7_rowFound_37 : decode cX7_rowFound 37 = .ok (.invokevirtual 65, 3) := by decide +kernel
theorem dX7_rowFound_40 : decode cX7_rowFound 40 = .ok (.ireturn, 1) := by decide +kernel
theorem dX7_rowFound_41 : decode cX7_rowFound 41 = .ok (.aload_n 0, 1) := by decide +kernel
theorem dX7_rowFound_42 : decode cX7_rowFound 42 = .ok (.iconst 0, 1) := by decide +kernel
theorem dX7_rowFound_43 : decode cX7_rowFound 43 = .ok (.putfield 48, 3) := by decide +kernel
theorem dX7_rowFound_46 : decode cX7_rowFound 46 = .ok (.iconst 0, 1) := by decide +kernel
theorem dX7_rowFound_47 : decode cX7_rowFound 47 = .ok (.ireturn, 1) := by decide +kernel
theorem dX7_isMany_0 : decode cX7_isMany 0 = .ok (.iload_n 0, 1) := by decide +kernel
theorem dX7_isMany_1 : decode cX7_isMany 1 = .ok (.invokestatic 58, 3) := by decide +kernel
theorem dX7_isMany_4 : decode cX7_isMany 4 = .ok (.ifCond .eq 19, 3) := by decide +kernel
theorem dX7_isMany_7 : decode cX7_isMany 7 = .ok (.iload_n 1, 1) := by decide +kernel
theorem dX7_isMany_8 : decode cX7_isMany 8 = .ok (.i2l, 1) := by decide +kernel
theorem dX7_isMany_9 : decode cX7_isMany 9 = .ok (.lconst 1, 1) := by decide +kernel
theorem dX7_isMany_10 : decode cX7_isMany 10 = .ok (.ldc2_w 227, 3) := by decide +kernel
theorem dX7_isMany_13 : decode cX7_isMany 13 = .ok (.invokestatic 54, 3) := by decide +kernel
theorem dX7_isMany_16 : decode cX7_isMany 16 = .ok (.ifCond .eq 7, 3) := by decide +kernel
theorem dX7_isMany_19 : decode cX7_isMany 19 = .ok (.iconst 1, 1) := by decide +kernel
theorem dX7_isMany_20 : decode cX7_isMany 20 = .ok (.goto 4, 3) := by decide +kernel
theorem dX7_isMany_23 : decode cX7_isMany 23 = .ok (.iconst 0, 1) := by decide +kernel
theorem dX7_isMany_24 : decode cX7_isMany 24 = .ok (.ireturn, 1) := by decide +kernel
theorem dX7_who_0 : decode cX7_who 0 = .ok (.aload_n 0, 1) := by decide +kernel
theorem dX7_who_1 : decode cX7_who 1 = .ok (.iconst 0, 1) := by decide +kernel
theorem dX7_who_2 : decode cX7_who 2 = .ok (.putfield 44, 3) := by decide +kernel
theorem dX7_who_5 : decode cX7_who 5 = .ok (.aload_n 0, 1) := by decide +kernel
theorem dX7_who_6 : decode cX7_who 6 = .ok (.iload_n 1, 1) := by decide +kernel
theorem dX7_who_7 : decode cX7_who 7 = .ok (.invokevirtual 180, 3) := by decide +kernel
theorem dX7_who_10 : decode cX7_who 10 = .ok (.ifCond .eq 24, 3) := by decide +kernel
theorem dX7_who_13 : decode cX7_who 13 = .ok (.iload_n 2, 1) := by decide +kernel
theorem dX7_who_14 : decode cX7_who 14 = .ok (.i2l, 1) := by decide +kernel
theorem dX7_who_15 : decode cX7_who 15 = .ok (.lconst 0, 1) := by decide +kernel
theorem dX7_who_16 : decode cX7_who 16 = .ok (.ldc2_w 229, 3) := by decide +kernel
theorem dX7_who_19 : decode cX7_who 19 = .ok (.invokestatic 54, 3) := by decide +kernel
theorem dX7_who_22 : decode cX7_who 22 = .ok (.ifCond .eq 12, 3) := by decide +kernel
theorem dX7_who_25 : decode cX7_who 25 = .ok (.iload_n 3, 1) := by decide +kernel
theorem dX7_who_26 : decode cX7_who 26 = .ok (.iload 5, 2) := by decide +kernel
theorem dX7_who_28 : decode cX7_who 28 = .ok (.invokestatic 231, 3) := by decide +kernel
theorem dX7_who_31 : decode cX7_who 31 = .ok (.ifCond .ne 6, 3) := by decide +kernel
theorem dX7_who_34 : decode cX7_who 34 = .ok (.ldc 64, 2) := by decide +kernel
theorem dX7_who_36 : decode cX7_who 36 = .ok (.ireturn, 1) := by decide +kernel
theorem dX7_who_37 : decode cX7_who 37 = .ok (.aload_n 0, 1) := by decide +kernel
theorem dX7_who_38 : decode cX7_who 38 = .ok (.iload_n 3, 1) := by decide +kernel
theorem dX7_who_39 : decode cX7_who 39 = .ok (.iload 4, 2) := by decide +kernel
theorem dX7_who_41 : decode cX7_who 41 = .ok (.iload 5, 2) := by decide +kernel
theorem dX7_who_43 : decode cX7_who 43 = .ok (.invokevirtual 234, 3) := by decide +kernel
theorem dX7_who_46 : decode cX7_who 46 = .ok (.istore 6, 2) := by decide +kernel
theorem dX7_who_48 : decode cX7_who 48 = .ok (.iload 6, 2) := by decide +kernel
theorem dX7_who_50 : decode cX7_who 50 = .ok (.ifCond .eq 6, 3) := by decide +kernel
theorem dX7_who_53 : decode cX7_who 53 = .ok (.iload 6, 2) := by decide +kernel
theorem dX7_who_55 : decode cX7_who 55 = .ok (.ireturn, 1) := by decide +kernel
theorem dX7_who_56 : decode cX7_who 56 = .ok (.iload_n 2, 1) := by decide +kernel
theorem dX7_who_57 : decode cX7_who 57 = .ok (.iconst 3, 1) := by decide +kernel
theorem dX7_who_58 : decode cX7_who 58 = .ok (.if_icmp .ne 7, 3) := by decide +kernel
theorem dX7_who_61 : decode cX7_who 61 = .ok (.iconst 1, 1) := by decide +kernel
theorem dX7_who_62 : decode cX7_who 62 = .ok (.goto 28, 3) := by decide +kernel
theorem dX7_who_65 : decode cX7_who 65 = .ok (.bipush 6, 2) := by decide +kernel
theorem dX7_who_67 : decode cX7_who 67 = .ok (.iconst 5, 1) := by decide +kernel
theorem dX7_who_68 : decode cX7_who 68 = .ok (.iload_n 1, 1) := by decide +kernel
theorem dX7_who_69 : decode cX7_who 69 = .ok (.imul, 1) := by decide +kernel
theorem dX7_who_70 : decode cX7_who 70 = .ok (.iadd, 1) := by decide +kernel
theorem dX7_who_71 : decode cX7_who 71 = .ok (.iload_n 2, 1) := by decide +kernel
theorem dX7_who_72 : decode cX7_who 72 = .ok (.ifCond .ne 7, 3) := by decide +kernel
theorem dX7_who_75 : decode cX7_who 75 = .ok (.iconst 0, 1) := by decide +kernel
theorem dX7_who_76 : decode cX7_who 76 = .ok (.goto 13, 3) := by decide +kernel
theorem dX7_who_79 : decode cX7_who 79 = .ok (.iload_n 2, 1) := by decide +kernel
theorem dX7_who_80 : decode cX7_who 80 = .ok (.iconst 1, 1) := by decide +kernel
theorem dX7_who_81 : decode cX7_who 81 = .ok (.if_icmp .ne 7, 3) := by decide +kernel
theorem dX7_who_84 : decode cX7_who 84 = .ok (.iconst 1, 1) := by decide +kernel
theorem dX7_who_85 : decode cX7_who 85 = .ok (.goto 4, 3) := by decide +kernel
theorem dX7_who_88 : decode cX7_who 88 = .ok (.iconst 3, 1) := by decide +kernel
theorem dX7_who_89 : decode cX7_who 89 = .ok (.iadd, 1) := by decide +kernel
theorem dX7_who_90 : decode cX7_who 90 = .ok (.istore 7, 2) := by decide +kernel
theorem dX7_who_92 : decode cX7_who 92 = .ok (.iload_n 2, 1) := by decide +kernel
theorem dX7_who_93 : decode cX7_who 93 = .ok (.ifCond .eq 8, 3) := by decide +kernel
theorem dX7_who_96 : decode cX7_who 96 = .ok (.iload_n 2, 1) := by decide +kernel
theorem dX7_who_97 : decode cX7_who 97 = .ok (.iconst 2, 1) := by decide +kernel
theorem dX7_who_98 : decode cX7_who 98 = .ok (.if_icmp .ne 7, 3) := by decide +kernel
theorem dX7_who_101 : decode cX7_who 101 = .ok (.iconst 1, 1) := by decide +kernel
theorem dX7_who_102 : decode cX7_who 102 = .ok (.goto 4, 3) := by decide +kernel
theorem dX7_who_105 : decode cX7_who 105 = .ok (.iconst 0, 1) := by decide +kernel
theorem dX7_who_106 : decode cX7_who 106 = .ok (.istore 8, 2) := by decide +kernel
theorem dX7_who_108 : decode cX7_who 108 = .ok (.iload_n 2, 1) := by decide +kernel
theorem dX7_who_109 : decode cX7_who 109 = .ok (.ifCond .ne 7, 3) := by decide +kernel
theorem dX7_who_112 : decode cX7_who 112 = .ok (.iconst 5, 1) := by decide +kernel
theorem dX7_who_113 : decode cX7_who 113 = .ok (.goto 5, 3) := by decide +kernel
theorem dX7_who_116 : decode cX7_who 116 = .ok (.bipush 9, 2) := by decide +kernel
theorem dX7_who_118 : decode cX7_who 118 = .ok (.istore 9, 2) := by decide +kernel
theorem dX7_who_120 : decode cX7_who 120 = .ok (.iconst 0, 1) := by decide +kernel
theorem dX7_who_121 : decode cX7_who 121 = .ok (.istore 10, 2) := by decide +kernel
theorem dX7_who_123 : decode cX7_who 123 = .ok (.iload 8, 2) := by decide +kernel
theorem dX7_who_125 : decode cX7_who 125 = .ok (.istore 11, 2) := by decide +kernel
theorem dX7_who_127 : decode cX7_who 127 = .ok (.iload 11, 2) := by decide +kernel
theorem dX7_who_129 : decode cX7_who 129 = .ok (.iload 9, 2) := by decide +kernel
theorem dX7_who_131 : decode cX7_who 131 = .ok (.if_icmp .gt 51, 3) := by decide +kernel
theorem dX7_who_134 : decode cX7_who 134 = .ok (.aload_n 0, 1) := by decide +kernel
theorem dX7_who_135 : decode cX7_who 135 = .ok (.invokevirtual 193, 3) := by decide +kernel
theorem dX7_who_138 : decode cX7_who 138 = .ok (.aload_n 0, 1) := by decide +kernel
theorem dX7_who_139 : decode cX7_who 139 = .ok (.getfield 25, 3) := by decide +kernel
theorem dX7_who_142 : decode cX7_who 142 = .ok (.iload 7, 2) := by decide +kernel
theorem dX7_who_144 : decode cX7_who 144 = .ok (.iload 11, 2) := by decide +kernel
theorem dX7_who_146 : decode cX7_who 146 = .ok (.iastore, 1) := by decide +kernel
theorem dX7_who_147 : decode cX7_who 147 = .ok (.iload 10, 2) := by decide +kernel
theorem dX7_who_149 : decode cX7_who 149 = .ok (.aload_n 0, 1) := by decide +kernel
theorem dX7_who_150 : decode cX7_who 150 = .ok (.bipush 40, 2) := by decide +kernel
theorem dX7_who_152 : decode cX7_who 152 = .ok (.iload_n 3, 1) := by decide +kernel
theorem dX7_who_153 : decode cX7_who 153 = .ok (.imul, 1) := by decide +kernel
theorem dX7_who_154 : decode cX7_who 154 = .ok (.iload 4, 2) := by decide +kernel
theorem dX7_who_156 : decode cX7_who 156 = .ok (.iadd, 1) := by decide +kernel
theorem dX7_who_157 : decode cX7_who 157 = .ok (.iload 5, 2) := by decide +kernel
theorem dX7_who_159 : decode cX7_who 159 = .ok (.invokevirtual 238, 3) := by decide +kernel
theorem dX7_who_162 : decode cX7_who 162 = .ok (.ifCond .eq 10, 3) := by decide +kernel
theorem dX7_who_165 : decode cX7_who 165 = .ok (.iconst 1, 1) := by decide +kernel
theorem dX7_who_166 : decode cX7_who 166 = .ok (.iload 11, 2) := by decide +kernel
theorem dX7_who_168 : decode cX7_who 168 = .ok (.ishl, 1) := by decide +kernel
theorem dX7_who_169 : decode cX7_who 169 = .ok (.goto 4, 3) := by decide +kernel
theorem dX7_who_172 : decode cX7_who 172 = .ok (.iconst 0, 1) := by decide +kernel
theorem dX7_who_173 : decode cX7_who 173 = .ok (.ior, 1) := by decide +kernel
theorem dX7_who_174 : decode cX7_who 174 = .ok (.istore 10, 2) := by decide +kernel
theorem dX7_who_176 : decode cX7_who 176 = .ok (.iinc 11 1, 3) := by decide +kernel
theorem dX7_who_179 : decode cX7_who 179 = .ok (.goto (-52), 3) := by decide +kernel
theorem dX7_who_182 : decode cX7_who 182 = .ok (.iload 10, 2) := by decide +kernel
theorem dX7_who_184 : decode cX7_who 184 = .ok (.ireturn, 1) := by decide +kernel
theorem dX7_rain_0 : decode cX7_rain 0 = .ok (.aload_n 0, 1) := by decide +kernel
theorem dX7_rain_1 : decode cX7_rain 1 = .ok (.iconst 0, 1) := by decide +kernel
theorem dX7_rain_2 : decode cX7_rain 2 = .ok (.putfield 44, 3) := by decide +kernel
theorem dX7_rain_5 : decode cX7_rain 5 = .ok (.aload_n 0, 1) := by decide +kernel
theorem dX7_rain_6 : decode cX7_rain 6 = .ok (.iload_n 1, 1) := by decide +kernel
theorem dX7_rain_7 : decode cX7_rain 7 = .ok (.invokevirtual 180, 3) := by decide +kernel
theorem dX7_rain_10 : decode cX7_rain 10 = .ok (.ifCond .eq 38, 3) := by decide +kernel
theorem dX7_rain_13 : decode cX7_rain 13 = .ok (.iload_n 2, 1) := by decide +kernel
theorem dX7_rain_14 : decode cX7_rain 14 = .ok (.i2l, 1) := by decide +kernel
theorem dX7_rain_15 : decode cX7_rain 15 = .ok (.lconst 0, 1) := by decide +kernel
theorem dX7_rain_16 : decode cX7_rain 16 = .ok (.ldc2_w 191, 3) := by decide +kernel
theorem dX7_rain_19 : decode cX7_rain 19 = .ok (.invokestatic 54, 3) := by decide +kernel
theorem dX7_rain_22 : decode cX7_rain 22 = .ok (.ifCond .eq 26, 3) := by decide +kernel
theorem dX7_rain_25 : decode cX7_rain 25 = .ok (.iload_n 3, 1) := by decide +kernel
theorem dX7_rain_26 : decode cX7_rain 26 = .ok (.i2l, 1) := by decide +kernel
theorem dX7_rain_27 : decode cX7_rain 27 = .ok (.lconst 0, 1) := by decide +kernel
theorem dX7_rain_28 : decode cX7_rain 28 = .ok (.ldc2_w 241, 3) := by decide +kernel
theorem dX7_rain_31 : decode cX7_rain 31 = .ok (.invokestatic 54, 3) := by decide +kernel
theorem dX7_rain_34 : decode cX7_rain 34 = .ok (.ifCond .eq 14, 3) := by decide +kernel
theorem dX7_rain_37 : decode cX7_rain 37 = .ok (.iload 4, 2) := by decide +kernel
theorem dX7_rain_39 : decode cX7_rain 39 = .ok (.i2l, 1) := by decide +kernel
theorem dX7_rain_40 : decode cX7_rain 40 = .ok (.lconst 0, 1) := by decide +kernel
theorem dX7_rain_41 : decode cX7_rain 41 = .ok (.lconst 1, 1) := by decide +kernel
theorem dX7_rain_42 : decode cX7_rain 42 = .ok (.invokestatic 54, 3) := by decide +kernel
theorem dX7_rain_45 : decode cX7_rain 45 = .ok (.ifCond .ne 7, 3) := by decide +kernel
theorem dX7_rain_48 : decode cX7_rain 48 = .ok (.ldc2_w 243, 3) := by decide +kernel
theorem dX7_rain_51 : decode cX7_rain 51 = .ok (.lreturn, 1) := by decide +kernel
theorem dX7_rain_52 : decode cX7_rain 52 = .ok (.lconst 0, 1) := by decide +kernel
theorem dX7_rain_53 : decode cX7_rain 53 = .ok (.lstore 5, 2) := by decide +kernel
theorem dX7_rain_55 : decode cX7_rain 55 = .ok (.lconst 0, 1) := by decide +kernel
theorem dX7_rain_56 : decode cX7_rain 56 = .ok (.lstore 7, 2) := by decide +kernel
theorem dX7_rain_58 : decode cX7_rain 58 = .ok (.iconst 0, 1) := by decide +kernel
theorem dX7_rain_59 : decode cX7_rain 59 = .ok (.istore 9, 2) := by decide +kernel
theorem dX7_rain_61 : decode cX7_rain 61 = .ok (.iload 9, 2) := by decide +kernel
theorem dX7_rain_63 : decode cX7_rain 63 = .ok (.iconst 1, 1) := by decide +kernel
theorem dX7_rain_64 : decode cX7_rain 64 = .ok (.aload_n 0, 1) := by decide +kernel
theorem dX7_rain_65 : decode cX7_rain 65 = .ok (.getfield 19, 3) := by decide +kernel
theorem dX7_rain_68 : decode cX7_rain 68 = .ok (.iconst 0, 1) := by decide +kernel
theorem dX7_rain_69 : decode cX7_rain 69 = .ok (.iaload, 1) := by decide +kernel
theorem dX7_rain_70 : decode cX7_rain 70 = .ok (.ishl, 1) := by decide +kernel
theorem dX7_rain_71 : decode cX7_rain 71 = .ok (.if_icmp .ge 143, 3) := by decide +kernel
theorem dX7_rain_74 : decode cX7_rain 74 = .ok (.iload 9, 2) := by decide +kernel
theorem dX7_rain_76 : decode cX7_rain 76 = .ok (.aload_n 0, 1) := by decide +kernel
theorem dX7_rain_77 : decode cX7_rain 77 = .ok (.getfield 19, 3) := by decide +kernel
theorem dX7_rain_80 : decode cX7_rain 80 = .ok (.invokestatic 188, 3) := by decide +kernel
theorem dX7_rain_83 : decode cX7_rain 83 = .ok (.iand, 1) := by decide +kernel
theorem dX7_rain_84 : decode cX7_rain 84 = .ok (.ifCond .ne 124, 3) := by decide +kernel
theorem dX7_rain_87 : decode cX7_rain 87 = .ok (.lconst 1, 1) := by decide +kernel
theorem dX7_rain_88 : decode cX7_rain 88 = .ok (.lstore 10, 2) := by decide +kernel
theorem dX7_rain_90 : decode cX7_rain 90 = .ok (.aload_n 0, 1) := by decide +kernel
theorem dX7_rain_91 : decode cX7_rain 91 = .ok (.invokevirtual 193, 3) := by decide +kernel
theorem dX7_rain_94 : decode cX7_rain 94 = .ok (.iconst 0, 1) := by decide +kernel
theorem dX7_rain_95 : decode cX7_rain 95 = .ok (.istore 12, 2) := by decide +kernel
theorem dX7_rain_97 : decode cX7_rain 97 = .ok (.iload 12, 2) := by decide +kernel
theorem dX7_rain_99 : decode cX7_rain 99 = .ok (.aload_n 0, 1) := by decide +kernel
theorem dX7_rain_100 : decode cX7_rain 100 = .ok (.getfield 19, 3) := by decide +kernel
theorem dX7_rain_103 : decode cX7_rain 103 = .ok (.iconst 0, 1) := by decide +kernel
theorem dX7_rain_104 : decode cX7_rain 104 = .ok (.iaload, 1) := by decide +kernel
theorem dX7_rain_105 : decode cX7_rain 105 = .ok (.if_icmp .ge 65, 3) := by decide +kernel
theorem dX7_rain_108 : decode cX7_rain 108 = .ok (.aload_n 0, 1) := by decide +kernel
theorem dX7_rain_109 : decode cX7_rain 109 = .ok (.getfield 19, 3) := by decide +kernel
theorem dX7_rain_112 : decode cX7_rain 112 = .ok (.iload 12, 2) := by decide +kernel
theorem dX7_rain_114 : decode cX7_rain 114 = .ok (.iconst 4, 1) := by decide +kernel
theorem dX7_rain_115 : decode cX7_rain 115 = .ok (.invokestatic 146, 3) := by decide +kernel
theorem dX7_rain_118 : decode cX7_rain 118 = .ok (.ifCond .ne 46, 3) := by decide +kernel
theorem dX7_rain_121 : decode cX7_rain 121 = .ok (.lload 10, 2) := by decide +kernel
theorem dX7_rain_123 : decode cX7_rain 123 = .ok (.iload 9, 2) := by decide +kernel
theorem dX7_rain_125 : decode cX7_rain 125 = .ok (.iload 12, 2) := by decide +kernel
theorem dX7_rain_127 : decode cX7_rain 127 = .ok (.invokestatic 208, 3) := by decide +kernel
theorem dX7_rain_130 : decode cX7_rain 130 = .ok (.ifCond .eq 8, 3) := by decide +kernel
theorem dX7_rain_133 : decode cX7_rain 133 = .ok (.iload_n 3, 1) := by decide +kernel
theorem dX7_rain_134 : decode cX7_rain 134 = .ok (.i2l, 1) := by decide +kernel
theorem dX7_rain_135 : decode cX7_rain 135 = .ok (.goto 9, 3) := by decide +kernel
theorem dX7_rain_138 : decode cX7_rain 138 = .ok (.ldc2_w 241, 3) := by decide +kernel
theorem dX7_rain_141 : decode cX7_rain 141 = .ok (.iload_n 3, 1) := by decide +kernel
theorem dX7_rain_142 : decode cX7_rain 142 = .ok (.i2l, 1) := by decide +kernel
theorem dX7_rain_143 : decode cX7_rain 143 = .ok (.lsub, 1) := by decide +kernel
theorem dX7_rain_144 : decode cX7_rain 144 = .ok (.lmul, 1) := by decide +kernel
theorem dX7_rain_145 : decode cX7_rain 145 = .ok (.lstore 10, 2) := by decide +kernel
theorem dX7_rain_147 : decode cX7_rain 147 = .ok (.aload_n 0, 1) := by decide +kernel
theorem dX7_rain_148 : decode cX7_rain 148 = .ok (.getfield 25, 3) := by decide +kernel
theorem dX7_rain_151 : decode cX7_rain 151 = .ok (.iload 12, 2) := by decide +kernel
theorem dX7_rain_153 : decode cX7_rain 153 = .ok (.iconst 4, 1) := by decide +kernel
theorem dX7_rain_154 : decode cX7_rain 154 = .ok (.iload 9, 2) := by decide +kernel
theorem dX7_rain_156 : decode cX7_rain 156 = .ok (.iload 12, 2) := by decide +kernel
theorem dX7_rain_158 : decode cX7_rain 158 = .ok (.ishr, 1) := by decide +kernel
theorem dX7_rain_159 : decode cX7_rain 159 = .ok (.iconst 1, 1) := by decide +kernel
theorem dX7_rain_160 : decode cX7_rain 160 = .ok (.iand, 1) := by decide +kernel
theorem dX7_rain_161 : decode cX7_rain 161 = .ok (.invokestatic 154, 3) := by decide +kernel
theorem dX7_rain_164 : decode cX7_rain 164 = .ok (.iinc 12 1, 3) := by decide +kernel
theorem dX7_rain_167 : decode cX7_rain 167 = .ok (.goto (-70), 3) := by decide +kernel
theorem dX7_rain_170 : decode cX7_rain 170 = .ok (.aload_n 0, 1) := by decide +kernel
theorem dX7_rain_171 : decode cX7_rain 171 = .ok (.getfield 25, 3) := by decide +kernel
theorem dX7_rain_174 : decode cX7_rain 174 = .ok (.iload_n 2, 1) := by decide +kernel
theorem dX7_rain_175 : decode cX7_rain 175 = .ok (.invokestatic 196, 3) := by decide +kernel
theorem dX7_rain_178 : decode cX7_rain 178 = .ok (.lload 7, 2) := by decide +kernel
theorem dX7_rain_180 : decode cX7_rain 180 = .ok (.lload 10, 2) := by decide +kernel
theorem dX7_rain_182 : decode cX7_rain 182 = .ok (.ladd, 1) := by decide +kernel
theorem dX7_rain_183 : decode cX7_rain 183 = .ok (.lstore 7, 2) := by decide +kernel
theorem dX7_rain_185 : decode cX7_rain 185 = .ok (.lload 5, 2) := by decide +kernel
theorem dX7_rain_187 : decode cX7_rain 187 = .ok (.aload_n 0, 1) := by decide +kernel
theorem dX7_rain_188 : decode cX7_rain 188 = .ok (.getfield 25, 3) := by decide +kernel
theorem dX7_rain_191 : decode cX7_rain 191 = .ok (.iload_n 1, 1) := by decide +kernel
theorem dX7_rain_192 : decode cX7_rain 192 = .ok (.iconst 3, 1) := by decide +kernel
theorem dX7_rain_193 : decode cX7_rain 193 = .ok (.invokestatic 146, 3) := by decide +kernel
theorem dX7_rain_196 : decode cX7_rain 196 = .ok (.ifCond .le 8, 3) := by decide +kernel
theorem dX7_rain_199 : decode cX7_rain 199 = .ok (.lload 10, 2) := by decide +kernel
theorem dX7_rain_201 : decode cX7_rain 201 = .ok (.goto 4, 3) := by decide +kernel
theorem dX7_rain_204 : decode cX7_rain 204 = .ok (.lconst 0, 1) := by decide +kernel
theorem dX7_rain_205 : decode cX7_rain 205 = .ok (.ladd, 1) := by decide +kernel
theorem dX7_rain_206 : decode cX7_rain 206 = .ok (.lstore 5, 2) := by decide +kernel
theorem dX7_rain_208 : decode cX7_rain 208 = .ok (.iinc 9 1, 3) := by decide +kernel
theorem dX7_rain_211 : decode cX7_rain 211 = .ok (.goto (-150), 3) := by decide +kernel
theorem dX7_rain_214 : decode cX7_rain 214 = .ok (.lload 5, 2) := by decide +kernel
theorem dX7_rain_216 : decode cX7_rain 216 = .ok (.lstore 9, 2) := by decide +kernel
theorem dX7_rain_218 : decode cX7_rain 218 = .ok (.lload 7, 2) := by decide +kernel
theorem dX7_rain_220 : decode cX7_rain 220 = .ok (.lstore 11, 2) := by decide +kernel
theorem dX7_rain_222 : decode cX7_rain 222 = .ok (.lload 11, 2) := by decide +kernel
theorem dX7_rain_224 : decode cX7_rain 224 = .ok (.lconst 0, 1) := by decide +kernel
theorem dX7_rain_225 : decode cX7_rain 225 = .ok (.lcmp, 1) := by decide +kernel
theorem dX7_rain_226 : decode cX7_rain 226 = .ok (.ifCond .eq 21, 3) := by decide +kernel
theorem dX7_rain_229 : decode cX7_rain 229 = .ok (.lload 9, 2) := by decide +kernel
theorem dX7_rain_231 : decode cX7_rain 231 = .ok (.lload 11, 2) := by decide +kernel
theorem dX7_rain_233 : decode cX7_rain 233 = .ok (.lrem, 1) := by decide +kernel
theorem dX7_rain_234 : decode cX7_rain 234 = .ok (.lstore 13, 2) := by decide +kernel
theorem dX7_rain_236 : decode cX7_rain 236 = .ok (.lload 11, 2) := by decide +kernel
theorem dX7_rain_238 : decode cX7_rain 238 = .ok (.lstore 9, 2) := by decide +kernel
theorem dX7_rain_240 : decode cX7_rain 240 = .ok (.lload 13, 2) := by decide +kernel
theorem dX7_rain_242 : decode cX7_rain 242 = .ok (.lstore 11, 2) := by decide +kernel
theorem dX7_rain_244 : decode cX7_rain 244 = .ok (.goto (-22), 3) := by decide +kernel
theorem dX7_rain_247 : decode cX7_rain 247 = .ok (.iload 4, 2) := by decide +kernel
theorem dX7_rain_249 : decode cX7_rain 249 = .ok (.ifCond .ne 8, 3) := by decide +kernel
theorem dX7_rain_252 : decode cX7_rain 252 = .ok (.lload 5, 2) := by decide +kernel
theorem dX7_rain_254 : decode cX7_rain 254 = .ok (.goto 5, 3) := by decide +kernel
theorem dX7_rain_257 : decode cX7_rain 257 = .ok (.lload 7, 2) := by decide +kernel
theorem dX7_rain_259 : decode cX7_rain 259 = .ok (.lload 9, 2) := by decide +kernel
theorem dX7_rain_261 : decode cX7_rain 261 = .ok (.ldiv, 1) := by decide +kernel
theorem dX7_rain_262 : decode cX7_rain 262 = .ok (.lreturn, 1) := by decide +kernel
theorem dX7_drawn_0 : decode cX7_drawn 0 = .ok (.aload_n 0, 1) := by decide +kernel
theorem dX7_drawn_1 : decode cX7_drawn 1 = .ok (.iconst 0, 1) := by decide +kernel
theorem dX7_drawn_2 : decode cX7_drawn 2 = .ok (.putfield 44, 3) := by decide +kernel
theorem dX7_drawn_5 : decode cX7_drawn 5 = .ok (.aload_n 0, 1) := by decide +kernel
theorem dX7_drawn_6 : decode cX7_drawn 6 = .ok (.invokevirtual 171, 3) := by decide +kernel
theorem dX7_drawn_9 : decode cX7_drawn 9 = .ok (.ifCond .ne 6, 3) := by decide +kernel
theorem dX7_drawn_12 : decode cX7_drawn 12 = .ok (.ldc 174, 2) := by decide +kernel
theorem dX7_drawn_14 : decode cX7_drawn 14 = .ok (.ireturn, 1) := by decide +kernel
theorem dX7_drawn_15 : decode cX7_drawn 15 = .ok (.iload_n 1, 1) := by decide +kernel
theorem dX7_drawn_16 : decode cX7_drawn 16 = .ok (.i2l, 1) := by decide +kernel
theorem dX7_drawn_17 : decode cX7_drawn 17 = .ok (.lconst 0, 1) := by decide +kernel
theorem dX7_drawn_18 : decode cX7_drawn 18 = .ok (.ldc2_w 191, 3) := by decide +kernel
theorem dX7_drawn_21 : decode cX7_drawn 21 = .ok (.invokestatic 54, 3) := by decide +kernel
theorem dX7_drawn_24 : decode cX7_drawn 24 = .ok (.ifCond .eq 25, 3) := by decide +kernel
theorem dX7_drawn_27 : decode cX7_drawn 27 = .ok (.iload_n 2, 1) := by decide +kernel
theorem dX7_drawn_28 : decode cX7_drawn 28 = .ok (.i2l, 1) := by decide +kernel
theorem dX7_drawn_29 : decode cX7_drawn 29 = .ok (.lconst 1, 1) := by decide +kernel
theorem dX7_drawn_30 : decode cX7_drawn 30 = .ok (.ldc2_w 245, 3) := by decide +kernel
theorem dX7_drawn_33 : decode cX7_drawn 33 = .ok (.invokestatic 54, 3) := by decide +kernel
theorem dX7_drawn_36 : decode cX7_drawn 36 = .ok (.ifCond .eq 13, 3) := by decide +kernel
theorem dX7_drawn_39 : decode cX7_drawn 39 = .ok (.iload_n 3, 1) := by decide +kernel
theorem dX7_drawn_40 : decode cX7_drawn 40 = .ok (.i2l, 1) := by decide +kernel
theorem dX7_drawn_41 : decode cX7_drawn 41 = .ok (.lconst 0, 1) := by decide +kernel
theorem dX7_drawn_42 : decode cX7_drawn 42 = .ok (.lconst 1, 1) := by decide +kernel
theorem dX7_drawn_43 : decode cX7_drawn 43 = .ok (.invokestatic 54, 3) := by decide +kernel
theorem dX7_drawn_46 : decode cX7_drawn 46 = .ok (.ifCond .ne 6, 3) := by decide +kernel
theorem dX7_drawn_49 : decode cX7_drawn 49 = .ok (.ldc 64, 2) := by decide +kernel
theorem dX7_drawn_51 : decode cX7_drawn 51 = .ok (.ireturn, 1) := by decide +kernel
theorem dX7_drawn_52 : decode cX7_drawn 52 = .ok (.aload_n 0, 1) := by decide +kernel
theorem dX7_drawn_53 : decode cX7_drawn 53 = .ok (.invokevirtual 193, 3) := by decide +kernel
theorem dX7_drawn_56 : decode cX7_drawn 56 = .ok (.iload_n 2, 1) := by decide +kernel
theorem dX7_drawn_57 : decode cX7_drawn 57 = .ok (.i2l, 1) := by decide +kernel
theorem dX7_drawn_58 : decode cX7_drawn 58 = .ok (.lstore 4, 2) := by decide +kernel
theorem dX7_drawn_60 : decode cX7_drawn 60 = .ok (.iconst 0, 1) := by decide +kernel
theorem dX7_drawn_61 : decode cX7_drawn 61 = .ok (.istore 6, 2) := by decide +kernel
theorem dX7_drawn_63 : decode cX7_drawn 63 = .ok (.iconst 0, 1) := by decide +kernel
theorem dX7_drawn_64 : decode cX7_drawn 64 = .ok (.istore 7, 2) := by decide +kernel
theorem dX7_drawn_66 : decode cX7_drawn 66 = .ok (.iload 7, 2) := by decide +kernel
theorem dX7_drawn_68 : decode cX7_drawn 68 = .ok (.iload_n 1, 1) := by decide +kernel
theorem dX7_drawn_69 : decode cX7_drawn 69 = .ok (.if_icmp .ge 113, 3) := by decide +kernel
theorem dX7_drawn_72 : decode cX7_drawn 72 = .ok (.lload 4, 2) := by decide +kernel
theorem dX7_drawn_74 : decode cX7_drawn 74 = .ok (.ldc2_w 247, 3) := by decide +kernel
theorem dX7_drawn_77 : decode cX7_drawn 77 = .ok (.lmul, 1) := by decide +kernel
theorem dX7_drawn_78 : decode cX7_drawn 78 = .ok (.ldc2_w 249, 3) := by decide +kernel
theorem dX7_drawn_81 : decode cX7_drawn 81 = .ok (.lrem, 1) := by decide +kernel
theorem dX7_drawn_82 : decode cX7_drawn 82 = .ok (.lstore 4, 2) := by decide +kernel
theorem dX7_drawn_84 : decode cX7_drawn 84 = .ok (.lload 4, 2) := by decide +kernel
theorem dX7_drawn_86 : decode cX7_drawn 86 = .ok (.aload_n 0, 1) := by decide +kernel
theorem dX7_drawn_87 : decode cX7_drawn 87 = .ok (.getfield 25, 3) := by decide +kernel
theorem dX7_drawn_90 : decode cX7_drawn 90 = .ok (.iconst 0, 1) := by decide +kernel
theorem dX7_drawn_91 : decode cX7_drawn 91 = .ok (.iaload, 1) := by decide +kernel
theorem dX7_drawn_92 : decode cX7_drawn 92 = .ok (.i2l, 1) := by decide +kernel
theorem dX7_drawn_93 : decode cX7_drawn 93 = .ok (.lrem, 1) := by decide +kernel
theorem dX7_drawn_94 : decode cX7_drawn 94 = .ok (.l2i, 1) := by decide +kernel
theorem dX7_drawn_95 : decode cX7_drawn 95 = .ok (.istore 8, 2) := by decide +kernel
theorem dX7_drawn_97 : decode cX7_drawn 97 = .ok (.aload_n 0, 1) := by decide +kernel
theorem dX7_drawn_98 : decode cX7_drawn 98 = .ok (.getfield 25, 3) := by decide +kernel
theorem dX7_drawn_101 : decode cX7_drawn 101 = .ok (.iload 8, 2) := by decide +kernel
theorem dX7_drawn_103 : decode cX7_drawn 103 = .ok (.iconst 3, 1) := by decide +kernel
theorem dX7_drawn_104 : decode cX7_drawn 104 = .ok (.invokestatic 146, 3) := by decide +kernel
theorem dX7_drawn_107 : decode cX7_drawn 107 = .ok (.ifCond .ne 25, 3) := by decide +kernel
theorem dX7_drawn_110 : decode cX7_drawn 110 = .ok (.aload_n 0, 1) := by decide +kernel
theorem dX7_drawn_111 : decode cX7_drawn 111 = .ok (.getfield 25, 3) := by decide +kernel
theorem dX7_drawn_114 : decode cX7_drawn 114 = .ok (.iload 8, 2) := by decide +kernel
theorem dX7_drawn_116 : decode cX7_drawn 116 = .ok (.iconst 3, 1) := by decide +kernel
theorem dX7_drawn_117 : decode cX7_drawn 117 = .ok (.lload 4, 2) := by decide +kernel
theorem dX7_drawn_119 : decode cX7_drawn 119 = .ok (.ldc2_w 183, 3) := by decide +kernel
theorem dX7_drawn_122 : decode cX7_drawn 122 = .ok (.lrem, 1) := by decide +kernel
theorem dX7_drawn_123 : decode cX7_drawn 123 = .ok (.l2i, 1) := by decide +kernel
theorem dX7_drawn_124 : decode cX7_drawn 124 = .ok (.iconst 1, 1) := by decide +kernel
theorem dX7_drawn_125 : decode cX7_drawn 125 = .ok (.iadd, 1) := by decide +kernel
theorem dX7_drawn_126 : decode cX7_drawn 126 = .ok (.invokestatic 154, 3) := by decide +kernel
theorem dX7_drawn_129 : decode cX7_drawn 129 = .ok (.goto 35, 3) := by decide +kernel
theorem dX7_drawn_132 : decode cX7_drawn 132 = .ok (.lload 4, 2) := by decide +kernel
theorem dX7_drawn_134 : decode cX7_drawn 134 = .ok (.ldc2_w 229, 3) := by decide +kernel
theorem dX7_drawn_137 : decode cX7_drawn 137 = .ok (.lrem, 1) := by decide +kernel
theorem dX7_drawn_138 : decode cX7_drawn 138 = .ok (.lconst 0, 1) := by decide +kernel
theorem dX7_drawn_139 : decode cX7_drawn 139 = .ok (.lcmp, 1) := by decide +kernel
theorem dX7_drawn_140 : decode cX7_drawn 140 = .ok (.ifCond .ne 24, 3) := by decide +kernel
theorem dX7_drawn_143 : decode cX7_drawn 143 = .ok (.aload_n 0, 1) := by decide +kernel
theorem dX7_drawn_144 : decode cX7_drawn 144 = .ok (.getfield 25, 3) := by decide +kernel
theorem dX7_drawn_147 : decode cX7_drawn 147 = .ok (.iload 8, 2) := by decide +kernel
theorem dX7_drawn_149 : decode cX7_drawn 149 = .ok (.iconst 1, 1) := by decide +kernel
theorem dX7_drawn_150 : decode cX7_drawn 150 = .ok (.lload 4, 2) := by decide +kernel
theorem dX7_drawn_152 : decode cX7_drawn 152 = .ok (.ldc2_w 251, 3) := by decide +kernel
theorem dX7_drawn_155 : decode cX7_drawn 155 = .ok (.ldiv, 1) := by decide +kernel
theorem dX7_drawn_156 : decode cX7_drawn 156 = .ok (.ldc2_w 241, 3) := by decide +kernel
theorem dX7_drawn_159 : decode cX7_drawn 159 = .ok (.lrem, 1) := by decide +kernel
theorem dX7_drawn_160 : decode cX7_drawn 160 = .ok (.l2i, 1) := by decide +kernel
theorem dX7_drawn_161 : decode cX7_drawn 161 = .ok (.invokestatic 154, 3) := by decide +kernel
theorem dX7_drawn_164 : decode cX7_drawn 164 = .ok (.iload 6, 2) := by decide +kernel
theorem dX7_drawn_166 : decode cX7_drawn 166 = .ok (.aload_n 0, 1) := by decide +kernel
theorem dX7_drawn_167 : decode cX7_drawn 167 = .ok (.getfield 25, 3) := by decide +kernel
theorem dX7_drawn_170 : decode cX7_drawn 170 = .ok (.invokestatic 168, 3) := by decide +kernel
theorem dX7_drawn_173 : decode cX7_drawn 173 = .ok (.iadd, 1) := by decide +kernel
theorem dX7_drawn_174 : decode cX7_drawn 174 = .ok (.istore 6, 2) := by decide +kernel
theorem dX7_drawn_176 : decode cX7_drawn 176 = .ok (.iinc 7 1, 3) := by decide +kernel
theorem dX7_drawn_179 : decode cX7_drawn 179 = .ok (.goto (-113), 3) := by decide +kernel
theorem dX7_drawn_182 : decode cX7_drawn 182 = .ok (.iload_n 3, 1) := by decide +kernel
theorem dX7_drawn_183 : decode cX7_drawn 183 = .ok (.ifCond .ne 8, 3) := by decide +kernel
theorem dX7_drawn_186 : decode cX7_drawn 186 = .ok (.iload 6, 2) := by decide +kernel
theorem dX7_drawn_188 : decode cX7_drawn 188 = .ok (.goto 10, 3) := by decide +kernel
theorem dX7_drawn_191 : decode cX7_drawn 191 = .ok (.aload_n 0, 1) := by decide +kernel
theorem dX7_drawn_192 : decode cX7_drawn 192 = .ok (.getfield 25, 3) := by decide +kernel
theorem dX7_drawn_195 : decode cX7_drawn 195 = .ok (.invokestatic 200, 3) := by decide +kernel
theorem dX7_drawn_198 : decode cX7_drawn 198 = .ok (.ireturn, 1) := by decide +kernel
theorem dX7_image_0 : decode cX7_image 0 = .ok (.aload_n 0, 1) := by decide +kernel
theorem dX7_image_1 : decode cX7_image 1 = .ok (.iconst 0, 1) := by decide +kernel
theorem dX7_image_2 : decode cX7_image 2 = .ok (.putfield 44, 3) := by decide +kernel
theorem dX7_image_5 : decode cX7_image 5 = .ok (.iload_n 1, 1) := by decide +kernel
theorem dX7_image_6 : decode cX7_image 6 = .ok (.i2l, 1) := by decide +kernel
theorem dX7_image_7 : decode cX7_image 7 = .ok (.lconst 0, 1) := by decide +kernel
theorem dX7_image_8 : decode cX7_image 8 = .ok (.lconst 1, 1) := by decide +kernel
theorem dX7_image_9 : decode cX7_image 9 = .ok (.invokestatic 54, 3) := by decide +kernel
theorem dX7_image_12 : decode cX7_image 12 = .ok (.ifCond .ne 6, 3) := by decide +kernel
theorem dX7_image_15 : decode cX7_image 15 = .ok (.ldc 64, 2) := by decide +kernel
theorem dX7_image_17 : decode cX7_image 17 = .ok (.ireturn, 1) := by decide +kernel
theorem dX7_image_18 : decode cX7_image 18 = .ok (.aload_n 0, 1) := by decide +kernel
theorem dX7_image_19 : decode cX7_image 19 = .ok (.invokevirtual 171, 3) := by decide +kernel
theorem dX7_image_22 : decode cX7_image 22 = .ok (.ifCond .ne 6, 3) := by decide +kernel
theorem dX7_image_25 : decode cX7_image 25 = .ok (.ldc 174, 2) := by decide +kernel
theorem dX7_image_27 : decode cX7_image 27 = .ok (.ireturn, 1) := by decide +kernel
theorem dX7_image_28 : decode cX7_image 28 = .ok (.iconst 0, 1) := by decide +kernel
theorem dX7_image_29 : decode cX7_image 29 = .ok (.istore_n 2, 1) := by decide +kernel
theorem dX7_image_30 : decode cX7_image 30 = .ok (.iload_n 2, 1) := by decide +kernel
theorem dX7_image_31 : decode cX7_image 31 = .ok (.bipush 36, 2) := by decide +kernel
theorem dX7_image_33 : decode cX7_image 33 = .ok (.if_icmp .ge 26, 3) := by decide +kernel
theorem dX7_image_36 : decode cX7_image 36 = .ok (.aload_n 0, 1) := by decide +kernel
theorem dX7_image_37 : decode cX7_image 37 = .ok (.getfield 38, 3) := by decide +kernel
theorem dX7_image_40 : decode cX7_image 40 = .ok (.bipush 36, 2) := by decide +kernel
theorem dX7_image_42 : decode cX7_image 42 = .ok (.iload_n 1, 1) := by decide +kernel
theorem dX7_image_43 : decode cX7_image 43 = .ok (.imul, 1) := by decide +kernel
theorem dX7_image_44 : decode cX7_image 44 = .ok (.iload_n 2, 1) := by decide +kernel
theorem dX7_image_45 : decode cX7_image 45 = .ok (.iadd, 1) := by decide +kernel
theorem dX7_image_46 : decode cX7_image 46 = .ok (.aload_n 0, 1) := by decide +kernel
theorem dX7_image_47 : decode cX7_image 47 = .ok (.getfield 19, 3) := by decide +kernel
theorem dX7_image_50 : decode cX7_image 50 = .ok (.iload_n 2, 1) := by decide +kernel
theorem dX7_image_51 : decode cX7_image 51 = .ok (.iaload, 1) := by decide +kernel
theorem dX7_image_52 : decode cX7_image 52 = .ok (.iastore, 1) := by decide +kernel
theorem dX7_image_53 : decode cX7_image 53 = .ok (.iinc 2 1, 3) := by decide +kernel
theorem dX7_image_56 : decode cX7_image 56 = .ok (.goto (-26), 3) := by decide +kernel
theorem dX7_image_59 : decode cX7_image 59 = .ok (.aload_n 0, 1) := by decide +kernel
theorem dX7_image_60 : decode cX7_image 60 = .ok (.getfield 34, 3) := by decide +kernel
theorem dX7_image_63 : decode cX7_image 63 = .ok (.iload_n 1, 1) := by decide +kernel
theorem dX7_image_64 : decode cX7_image 64 = .ok (.iconst 1, 1) := by decide +kernel
theorem dX7_image_65 : decode cX7_image 65 = .ok (.bastore, 1) := by decide +kernel
theorem dX7_image_66 : decode cX7_image 66 = .ok (.iconst 1, 1) := by decide +kernel
theorem dX7_image_67 : decode cX7_image 67 = .ok (.ireturn, 1) := by decide +kernel
theorem dX7_restore_0 : decode cX7_restore 0 = .ok (.aload_n 0, 1) := by decide +kernel
theorem dX7_restore_1 : decode cX7_restore 1 = .ok (.iconst 0, 1) := by decide +kernel
theorem dX7_restore_2 : decode cX7_restore 2 = .ok (.putfield 44, 3) := by decide +kernel
theorem dX7_restore_5 : decode cX7_restore 5 = .ok (.iload_n 1, 1) := by decide +kernel
theorem dX7_restore_6 : decode cX7_restore 6 = .ok (.i2l, 1) := by decide +kernel
theorem dX7_restore_7 : decode cX7_restore 7 = .ok (.lconst 0, 1) := by decide +kernel
theorem dX7_restore_8 : decode cX7_restore 8 = .ok (.lconst 1, 1) := by decide +kernel
theorem dX7_restore_9 : decode cX7_restore 9 = .ok (.invokestatic 54, 3) := by decide +kernel
theorem dX7_restore_12 : decode cX7_restore 12 = .ok (.ifCond .ne 6, 3) := by decide +kernel
theorem dX7_restore_15 : decode cX7_restore 15 = .ok (.ldc 64, 2) := by decide +kernel
theorem dX7_restore_17 : decode cX7_restore 17 = .ok (.ireturn, 1) := by decide +kernel
theorem dX7_restore_18 : decode cX7_restore 18 = .ok (.aload_n 0, 1) := by decide +kernel
theorem dX7_restore_19 : decode cX7_restore 19 = .ok (.getfield 34, 3) := by decide +kernel
theorem dX7_restore_22 : decode cX7_restore 22 = .ok (.iload_n 1, 1) := by decide +kernel
theorem dX7_restore_23 : decode cX7_restore 23 = .ok (.baload, 1) := by decide +kernel
theorem dX7_restore_24 : decode cX7_restore 24 = .ok (.ifCond .ne 6, 3) := by decide +kernel
theorem dX7_restore_27 : decode cX7_restore 27 = .ok (.ldc 174, 2) := by decide +kernel
theorem dX7_restore_29 : decode cX7_restore 29 = .ok (.ireturn, 1) := by decide +kernel
theorem dX7_restore_30 : decode cX7_restore 30 = .ok (.iconst 0, 1) := by decide +kernel
theorem dX7_restore_31 : decode cX7_restore 31 = .ok (.istore_n 2, 1) := by decide +kernel
theorem dX7_restore_32 : decode cX7_restore 32 = .ok (.iload_n 2, 1) := by decide +kernel
theorem dX7_restore_33 : decode cX7_restore 33 = .ok (.bipush 36, 2) := by decide +kernel
theorem dX7_restore_35 : decode cX7_restore 35 = .ok (.if_icmp .ge 26, 3) := by decide +kernel
theorem dX7_restore_38 : decode cX7_restore 38 = .ok (.aload_n 0, 1) := by decide +kernel
theorem dX7_restore_39 : decode cX7_restore 39 = .ok (.getfield 19, 3) := by decide +kernel
theorem dX7_restore_42 : decode cX7_restore 42 = .ok (.iload_n 2, 1) := by decide +kernel
theorem dX7_restore_43 : decode cX7_restore 43 = .ok (.aload_n 0, 1) := by decide +kernel
theorem dX7_restore_44 : decode cX7_restore 44 = .ok (.getfield 38, 3) := by decide +kernel
theorem dX7_restore_47 : decode cX7_restore 47 = .ok (.bipush 36, 2) := by decide +kernel
theorem dX7_restore_49 : decode cX7_restore 49 = .ok (.iload_n 1, 1) := by decide +kernel
theorem dX7_restore_50 : decode cX7_restore 50 = .ok (.imul, 1) := by decide +kernel
theorem dX7_restore_51 : decode cX7_restore 51 = .ok (.iload_n 2, 1) := by decide +kernel
theorem dX7_restore_52 : decode cX7_restore 52 = .ok (.iadd, 1) := by decide +kernel
theorem dX7_restore_53 : decode cX7_restore 53 = .ok (.iaload, 1) := by decide +kernel
theorem dX7_restore_54 : decode cX7_restore 54 = .ok (.iastore, 1) := by decide +kernel
theorem dX7_restore_55 : decode cX7_restore 55 = .ok (.iinc 2 1, 3) := by decide +kernel
theorem dX7_restore_58 : decode cX7_restore 58 = .ok (.goto (-26), 3) := by decide +kernel
theorem dX7_restore_61 : decode cX7_restore 61 = .ok (.aload_n 0, 1) := by decide +kernel
theorem dX7_restore_62 : decode cX7_restore 62 = .ok (.iconst 0, 1) := by decide +kernel
theorem dX7_restore_63 : decode cX7_restore 63 = .ok (.putfield 143, 3) := by decide +kernel
theorem dX7_restore_66 : decode cX7_restore 66 = .ok (.iconst 1, 1) := by decide +kernel
theorem dX7_restore_67 : decode cX7_restore 67 = .ok (.ireturn, 1) := by decide +kernel
theorem dX7_isOf_0 : decode cX7_isOf 0 = .ok (.iload_n 1, 1) := by decide +kernel
theorem dX7_isOf_1 : decode cX7_isOf 1 = .ok (.ifCond .eq 28, 3) := by decide +kernel
theorem dX7_isOf_4 : decode cX7_isOf 4 = .ok (.iload_n 0, 1) := by decide +kernel
theorem dX7_isOf_5 : decode cX7_isOf 5 = .ok (.iload_n 1, 1) := by decide +kernel
theorem dX7_isOf_6 : decode cX7_isOf 6 = .ok (.if_icmp .eq 23, 3) := by decide +kernel
theorem dX7_isOf_9 : decode cX7_isOf 9 = .ok (.iload_n 1, 1) := by decide +kernel
theorem dX7_isOf_10 : decode cX7_isOf 10 = .ok (.iconst 1, 1) := by decide +kernel
theorem dX7_isOf_11 : decode cX7_isOf 11 = .ok (.if_icmp .ne 8, 3) := by decide +kernel
theorem dX7_isOf_14 : decode cX7_isOf 14 = .ok (.iload_n 0, 1) := by decide +kernel
theorem dX7_isOf_15 : decode cX7_isOf 15 = .ok (.iconst 4, 1) := by decide +kernel
theorem dX7_isOf_16 : decode cX7_isOf 16 = .ok (.if_icmp .lt 13, 3) := by decide +kernel
theorem dX7_isOf_19 : decode cX7_isOf 19 = .ok (.iload_n 1, 1) := by decide +kernel
theorem dX7_isOf_20 : decode cX7_isOf 20 = .ok (.iconst 4, 1) := by decide +kernel
theorem dX7_isOf_21 : decode cX7_isOf 21 = .ok (.if_icmp .ne 12, 3) := by decide +kernel
theorem dX7_isOf_24 : decode cX7_isOf 24 = .ok (.iload_n 0, 1) := by decide +kernel
theorem dX7_isOf_25 : decode cX7_isOf 25 = .ok (.iconst 5, 1) := by decide +kernel
theorem dX7_isOf_26 : decode cX7_isOf 26 = .ok (.if_icmp .ne 7, 3) := by decide +kernel
theorem dX7_isOf_29 : decode cX7_isOf 29 = .ok (.iconst 1, 1) := by decide +kernel
theorem dX7_isOf_30 : decode cX7_isOf 30 = .ok (.goto 4, 3) := by decide +kernel
theorem dX7_isOf_33 : decode cX7_isOf 33 = .ok (.iconst 0, 1) := by decide +kernel
theorem dX7_isOf_34 : decode cX7_isOf 34 = .ok (.ireturn, 1) := by decide +kernel
theorem dX7_kind_0 : decode cX7_kind 0 = .ok (.aload_n 0, 1) := by decide +kernel
theorem dX7_kind_1 : decode cX7_kind 1 = .ok (.iconst 0, 1) := by decide +kernel
theorem dX7_kind_2 : decode cX7_kind 2 = .ok (.putfield 44, 3) := by decide +kernel
theorem dX7_kind_5 : decode cX7_kind 5 = .ok (.aload_n 0, 1) := by decide +kernel
theorem dX7_kind_6 : decode cX7_kind 6 = .ok (.iload_n 1, 1) := by decide +kernel
theorem dX7_kind_7 : decode cX7_kind 7 = .ok (.invokevirtual 180, 3) := by decide +kernel
theorem dX7_kind_10 : decode cX7_kind 10 = .ok (.ifCond .eq 15, 3) := by decide +kernel
theorem dX7_kind_13 : decode cX7_kind 13 = .ok (.aload_n 0, 1) := by decide +kernel
theorem dX7_kind_14 : decode cX7_kind 14 = .ok (.getfield 19, 3) := by decide +kernel
theorem dX7_kind_17 : decode cX7_kind 17 = .ok (.iload_n 1, 1) := by decide +kernel
theorem dX7_kind_18 : decode cX7_kind 18 = .ok (.iconst 0, 1) := by decide +kernel
theorem dX7_kind_19 : decode cX7_kind 19 = .ok (.invokestatic 146, 3) := by decide +kernel
theorem dX7_kind_22 : decode cX7_kind 22 = .ok (.goto 5, 3) := by decide +kernel
theorem dX7_kind_25 : decode cX7_kind 25 = .ok (.ldc 64, 2) := by decide +kernel
theorem dX7_kind_27 : decode cX7_kind 27 = .ok (.ireturn, 1) := by decide +kernel
theorem dX7_as_0 : decode cX7_as 0 = .ok (.aload_n 0, 1) := by decide +kernel
theorem dX7_as_1 : decode cX7_as 1 = .ok (.iconst 0, 1) := by decide +kernel
theorem dX7_as_2 : decode cX7_as 2 = .ok (.putfield 44, 3) := by decide +kernel
theorem dX7_as_5 : decode cX7_as 5 = .ok (.aload_n 0, 1) := by decide +kernel
theorem dX7_as_6 : decode cX7_as 6 = .ok (.iload_n 1, 1) := by decide +kernel
theorem dX7_as_7 : decode cX7_as 7 = .ok (.invokevirtual 180, 3) := by decide +kernel
theorem dX7_as_10 : decode cX7_as 10 = .ok (.ifCond .eq 15, 3) := by decide +kernel
theorem dX7_as_13 : decode cX7_as 13 = .ok (.iload_n 2, 1) := by decide +kernel
theorem dX7_as_14 : decode cX7_as 14 = .ok (.i2l, 1) := by decide +kernel
theorem dX7_as_15 : decode cX7_as 15 = .ok (.lconst 0, 1) := by decide +kernel
theorem dX7_as_16 : decode cX7_as 16 = .ok (.ldc2_w 253, 3) := by decide +kernel
theorem dX7_as_19 : decode cX7_as 19 = .ok (.invokestatic 54, 3) := by decide +kernel
theorem dX7_as_22 : decode cX7_as 22 = .ok (.ifCond .ne 6, 3) := by decide +kernel
theorem dX7_as_25 : decode cX7_as 25 = .ok (.ldc 64, 2) := by decide +kernel
theorem dX7_as_27 : decode cX7_as 27 = .ok (.ireturn, 1) := by decide +kernel
theorem dX7_as_28 : decode cX7_as 28 = .ok (.aload_n 0, 1) := by decide +kernel
theorem dX7_as_29 : decode cX7_as 29 = .ok (.iconst 0, 1) := by decide +kernel
theorem dX7_as_30 : decode cX7_as 30 = .ok (.putfield 48, 3) := by decide +kernel
theorem dX7_as_33 : decode cX7_as 33 = .ok (.aload_n 0, 1) := by decide +kernel
theorem dX7_as_34 : decode cX7_as 34 = .ok (.getfield 19, 3) := by decide +kernel
theorem dX7_as_37 : decode cX7_as 37 = .ok (.iload_n 1, 1) := by decide +kernel
theorem dX7_as_38 : decode cX7_as 38 = .ok (.iconst 0, 1) := by decide +kernel
theorem dX7_as_39 : decode cX7_as 39 = .ok (.invokestatic 146, 3) := by decide +kernel
theorem dX7_as_42 : decode cX7_as 42 = .ok (.iload_n 2, 1) := by decide +kernel
theorem dX7_as_43 : decode cX7_as 43 = .ok (.invokestatic 255, 3) := by decide +kernel
theorem dX7_as_46 : decode cX7_as 46 = .ok (.ifCond .eq 7, 3) := by decide +kernel
theorem dX7_as_49 : decode cX7_as 49 = .ok (.iload_n 1, 1) := by decide +kernel
theorem dX7_as_50 : decode cX7_as 50 = .ok (.goto 8, 3) := by decide +kernel
theorem dX7_as_53 : decode cX7_as 53 = .ok (.aload_n 0, 1) := by decide +kernel
theorem dX7_as_54 : decode cX7_as 54 = .ok (.iconst 3, 1) := by decide +kernel
theorem dX7_as_55 : decode cX7_as 55 = .ok (.invokevirtual 65, 3) := by decide +kernel
theorem dX7_as_58 : decode cX7_as 58 = .ok (.ireturn, 1) := by decide +kernel
theorem dX7_began_0 : decode cX7_began 0 = .ok (.aload_n 0, 1) := by decide +kernel
theorem dX7_began_1 : decode cX7_began 1 = .ok (.getfield 258, 3) := by decide +kernel
theorem dX7_began_4 : decode cX7_began 4 = .ok (.bipush 16, 2) := by decide +kernel
theorem dX7_began_6 : decode cX7_began 6 = .ok (.if_icmp .ge 23, 3) := by decide +kernel
theorem dX7_began_9 : decode cX7_began 9 = .ok (.aload_n 0, 1) := by decide +kernel
theorem dX7_began_10 : decode cX7_began 10 = .ok (.getfield 41, 3) := by decide +kernel
theorem dX7_began_13 : decode cX7_began 13 = .ok (.aload_n 0, 1) := by decide +kernel
theorem dX7_began_14 : decode cX7_began 14 = .ok (.getfield 258, 3) := by decide +kernel
theorem dX7_began_17 : decode cX7_began 17 = .ok (.iload_n 1, 1) := by decide +kernel
theorem dX7_began_18 : decode cX7_began 18 = .ok (.iastore, 1) := by decide +kernel
theorem dX7_began_19 : decode cX7_began 19 = .ok (.aload_n 0, 1) := by decide +kernel
theorem dX7_began_20 : decode cX7_began 20 = .ok (.dup, 1) := by decide +kernel
theorem dX7_began_21 : decode cX7_began 21 = .ok (.getfield 258, 3) := by decide +kernel
theorem dX7_began_24 : decode cX7_began 24 = .ok (.iconst 1, 1) := by decide +kernel
theorem dX7_began_25 : decode cX7_began 25 = .ok (.iadd, 1) := by decide +kernel
theorem dX7_began_26 : decode cX7_began 26 = .ok (.putfield 258, 3) := by decide +kernel
theorem dX7_began_29 : decode cX7_began 29 = .ok (.return_, 1) := by decide +kernel
theorem dX7_plainSize_0 : decode cX7_plainSize 0 = .ok (.aload_n 0, 1) := by decide +kernel
theorem dX7_plainSize_1 : decode cX7_plainSize 1 = .ok (.bipush 10, 2) := by decide +kernel
theorem dX7_plainSize_3 : decode cX7_plainSize 3 = .ok (.invokevirtual 261, 3) := by decide +kernel
theorem dX7_plainSize_6 : decode cX7_plainSize 6 = .ok (.aload_n 0, 1) := by decide +kernel
theorem dX7_plainSize_7 : decode cX7_plainSize 7 = .ok (.getfield 19, 3) := by decide +kernel
theorem dX7_plainSize_10 : decode cX7_plainSize 10 = .ok (.iload_n 1, 1) := by decide +kernel
theorem dX7_plainSize_11 : decode cX7_plainSize 11 = .ok (.iconst 3, 1) := by decide +kernel
theorem dX7_plainSize_12 : decode cX7_plainSize 12 = .ok (.invokestatic 146, 3) := by decide +kernel
theorem dX7_plainSize_15 : decode cX7_plainSize 15 = .ok (.ireturn, 1) := by decide +kernel
theorem dX7_doubleSize_0 : decode cX7_doubleSize 0 = .ok (.aload_n 0, 1) := by decide +kernel
theorem dX7_doubleSize_1 : decode cX7_doubleSize 1 = .ok (.getfield 19, 3) := by decide +kernel
theorem dX7_doubleSize_4 : decode cX7_doubleSize 4 = .ok (.iload_n 1, 1) := by decide +kernel
theorem dX7_doubleSize_5 : decode cX7_doubleSize 5 = .ok (.iconst 0, 1) := by decide +kernel
theorem dX7_doubleSize_6 : decode cX7_doubleSize 6 = .ok (.invokestatic 146, 3) := by decide +kernel
theorem dX7_doubleSize_9 : decode cX7_doubleSize 9 = .ok (.iconst 5, 1) := by decide +kernel
theorem dX7_doubleSize_10 : decode cX7_doubleSize 10 = .ok (.if_icmp .ne 7, 3) := by decide +kernel
theorem dX7_doubleSize_13 : decode cX7_doubleSize 13 = .ok (.iconst 1, 1) := by decide +kernel
theorem dX7_doubleSize_14 : decode cX7_doubleSize 14 = .ok (.goto 4, 3) := by decide +kernel
theorem dX7_doubleSize_17 : decode cX7_doubleSize 17 = .ok (.iconst 0, 1) := by decide +kernel
theorem dX7_doubleSize_18 : decode cX7_doubleSize 18 = .ok (.istore_n 2, 1) := by decide +kernel
theorem dX7_doubleSize_19 : decode cX7_doubleSize 19 = .ok (.iload_n 2, 1) := by decide +kernel
theorem dX7_doubleSize_20 : decode cX7_doubleSize 20 = .ok (.ifCond .eq 9, 3) := by decide +kernel
theorem dX7_doubleSize_23 : decode cX7_doubleSize 23 = .ok (.aload_n 0, 1) := by decide +kernel
theorem dX7_doubleSize_24 : decode cX7_doubleSize 24 = .ok (.bipush 14, 2) := by decide +kernel
theorem dX7_doubleSize_26 : decode cX7_doubleSize 26 = .ok (.invokevirtual 261, 3) := by decide +kernel
theorem dX7_doubleSize_29 : decode cX7_doubleSize 29 = .ok (.aload_n 0, 1) := by decide +kernel
theorem dX7_doubleSize_30 : decode cX7_doubleSize 30 = .ok (.bipush 13, 2) := by decide +kernel
theorem dX7_doubleSize_32 : decode cX7_doubleSize 32 = .ok (.invokevirtual 261, 3) := by decide +kernel
theorem dX7_doubleSize_35 : decode cX7_doubleSize 35 = .ok (.aload_n 0, 1) := by decide +kernel
theorem dX7_doubleSize_36 : decode cX7_doubleSize 36 = .ok (.iload_n 1, 1) := by decide +kernel
theorem dX7_doubleSize_37 : decode cX7_doubleSize 37 = .ok (.invokevirtual 264, 3) := by decide +kernel
theorem dX7_doubleSize_40 : decode cX7_doubleSize 40 = .ok (.bipush 100, 2) := by decide +kernel
theorem dX7_doubleSize_42 : decode cX7_doubleSize 42 = .ok (.isub, 1) := by decide +kernel
theorem dX7_doubleSize_43 : decode cX7_doubleSize 43 = .ok (.istore_n 3, 1) := by decide +kernel
theorem dX7_doubleSize_44 : decode cX7_doubleSize 44 = .ok (.iload_n 2, 1) := by decide +kernel
theorem dX7_doubleSize_45 : decode cX7_doubleSize 45 = .ok (.ifCond .eq 9, 3) := by decide +kernel
theorem dX7_doubleSize_48 : decode cX7_doubleSize 48 = .ok (.iconst 2, 1) := by decide +kernel
theorem dX7_doubleSize_49 : decode cX7_doubleSize 49 = .ok (.iload_n 3, 1) := by decide +kernel
theorem dX7_doubleSize_50 : decode cX7_doubleSize 50 = .ok (.imul, 1) := by decide +kernel
theorem dX7_doubleSize_51 : decode cX7_doubleSize 51 = .ok (.goto 4, 3) := by decide +kernel
theorem dX7_doubleSize_54 : decode cX7_doubleSize 54 = .ok (.iload_n 3, 1) := by decide +kernel
theorem dX7_doubleSize_55 : decode cX7_doubleSize 55 = .ok (.ireturn, 1) := by decide +kernel
theorem dX7_markOf_0 : decode cX7_markOf 0 = .ok (.aload_n 0, 1) := by decide +kernel
theorem dX7_markOf_1 : decode cX7_markOf 1 = .ok (.getfield 19, 3) := by decide +kernel
theorem dX7_markOf_4 : decode cX7_markOf 4 = .ok (.iload_n 1, 1) := by decide +kernel
theorem dX7_markOf_5 : decode cX7_markOf 5 = .ok (.iconst 0, 1) := by decide +kernel
theorem dX7_markOf_6 : decode cX7_markOf 6 = .ok (.invokestatic 146, 3) := by decide +kernel
theorem dX7_markOf_9 : decode cX7_markOf 9 = .ok (.istore_n 2, 1) := by decide +kernel
theorem dX7_markOf_10 : decode cX7_markOf 10 = .ok (.iload_n 2, 1) := by decide +kernel
theorem dX7_markOf_11 : decode cX7_markOf 11 = .ok (.iconst 4, 1) := by decide +kernel
theorem dX7_markOf_12 : decode cX7_markOf 12 = .ok (.if_icmp .lt 23, 3) := by decide +kernel
theorem dX7_markOf_15 : decode cX7_markOf 15 = .ok (.aload_n 0, 1) := by decide +kernel
theorem dX7_markOf_16 : decode cX7_markOf 16 = .ok (.bipush 23, 2) := by decide +kernel
theorem dX7_markOf_18 : decode cX7_markOf 18 = .ok (.invokevirtual 261, 3) := by decide +kernel
theorem dX7_markOf_21 : decode cX7_markOf 21 = .ok (.aload_n 0, 1) := by decide +kernel
theorem dX7_markOf_22 : decode cX7_markOf 22 = .ok (.bipush 20, 2) := by decide +kernel
theorem dX7_markOf_24 : decode cX7_markOf 24 = .ok (.invokevirtual 261, 3) := by decide +kernel
theorem dX7_markOf_27 : decode cX7_markOf 27 = .ok (.iload_n 1, 1) := by decide +kernel
theorem dX7_markOf_28 : decode cX7_markOf 28 = .ok (.aload_n 0, 1) := by decide +kernel
theorem dX7_markOf_29 : decode cX7_markOf 29 = .ok (.iload_n 1, 1) := by decide +kernel
theorem dX7_markOf_30 : decode cX7_markOf 30 = .ok (.invokevirtual 267, 3) := by decide +kernel
theorem dX7_markOf_33 : decode cX7_markOf 33 = .ok (.isub, 1) := by decide +kernel
theorem dX7_markOf_34 : decode cX7_markOf 34 = .ok (.ireturn, 1) := by decide +kernel
theorem dX7_markOf_35 : decode cX7_markOf 35 = .ok (.iload_n 2, 1) := by decide +kernel
theorem dX7_markOf_36 : decode cX7_markOf 36 = .ok (.iconst 1, 1) := by decide +kernel
theorem dX7_markOf_37 : decode cX7_markOf 37 = .ok (.if_icmp .eq 19, 3) := by decide +kernel
theorem dX7_markOf_40 : decode cX7_markOf 40 = .ok (.aload_n 0, 1) := by decide +kernel
theorem dX7_markOf_41 : decode cX7_markOf 41 = .ok (.iload_n 2, 1) := by decide +kernel
theorem dX7_markOf_42 : decode cX7_markOf 42 = .ok (.iconst 3, 1) := by decide +kernel
theorem dX7_markOf_43 : decode cX7_markOf 43 = .ok (.if_icmp .ne 8, 3) := by decide +kernel
theorem dX7_markOf_46 : decode cX7_markOf 46 = .ok (.bipush 22, 2) := by decide +kernel
theorem dX7_markOf_48 : decode cX7_markOf 48 = .ok (.goto 5, 3) := by decide +kernel
theorem dX7_markOf_51 : decode cX7_markOf 51 = .ok (.bipush 24, 2) := by decide +kernel
theorem dX7_markOf_53 : decode cX7_markOf 53 = .ok (.invokevirtual 261, 3) := by decide +kernel
theorem dX7_markOf_56 : decode cX7_markOf 56 = .ok (.aload_n 0, 1) := by decide +kernel
theorem dX7_markOf_57 : decode cX7_markOf 57 = .ok (.bipush 21, 2) := by decide +kernel
theorem dX7_markOf_59 : decode cX7_markOf 59 = .ok (.invokevirtual 261, 3) := by decide +kernel
theorem dX7_markOf_62 : decode cX7_markOf 62 = .ok (.aload_n 0, 1) := by decide +kernel
theorem dX7_markOf_63 : decode cX7_markOf 63 = .ok (.bipush 20, 2) := by decide +kernel
theorem dX7_markOf_65 : decode cX7_markOf 65 = .ok (.invokevirtual 261, 3) := by decide +kernel
theorem dX7_markOf_68 : decode cX7_markOf 68 = .ok (.iload_n 1, 1) := by decide +kernel
theorem dX7_markOf_69 : decode cX7_markOf 69 = .ok (.aload_n 0, 1) := by decide +kernel
theorem dX7_markOf_70 : decode cX7_markOf 70 = .ok (.getfield 19, 3) := by decide +kernel
theorem dX7_markOf_73 : decode cX7_markOf 73 = .ok (.iload_n 1, 1) := by decide +kernel
theorem dX7_markOf_74 : decode cX7_markOf 74 = .ok (.iconst 1, 1) := by decide +kernel
theorem dX7_markOf_75 : decode cX7_markOf 75 = .ok (.invokestatic 146, 3) := by decide +kernel
theorem dX7_markOf_78 : decode cX7_markOf 78 = .ok (.iadd, 1) := by decide +kernel
theorem dX7_markOf_79 : decode cX7_markOf 79 = .ok (.istore_n 3, 1) := by decide +kernel
theorem dX7_markOf_80 : decode cX7_markOf 80 = .ok (.iload_n 2, 1) := by decide +kernel
theorem dX7_markOf_81 : decode cX7_markOf 81 = .ok (.iconst 1, 1) := by decide +kernel
theorem dX7_markOf_82 : decode cX7_markOf 82 = .ok (.if_icmp .ne 7, 3) := by decide +kernel
theorem dX7_markOf_85 : decode cX7_markOf 85 = .ok (.iload_n 3, 1) := by decide +kernel
theorem dX7_markOf_86 : decode cX7_markOf 86 = .ok (.goto 19, 3) := by decide +kernel
theorem dX7_markOf_89 : decode cX7_markOf 89 = .ok (.iload_n 2, 1) := by decide +kernel
theorem dX7_markOf_90 : decode cX7_markOf 90 = .ok (.iconst 3, 1) := by decide +kernel
theorem dX7_markOf_91 : decode cX7_markOf 91 = .ok (.if_icmp .ne 11, 3) := by decide +kernel
theorem dX7_markOf_94 : decode cX7_markOf 94 = .ok (.iload_n 3, 1) := by decide +kernel
theorem dX7_markOf_95 : decode cX7_markOf 95 = .ok (.sipush 1000, 3) := by decide +kernel
theorem dX7_markOf_98 : decode cX7_markOf 98 = .ok (.isub, 1) := by decide +kernel
theorem dX7_markOf_99 : decode cX7_markOf 99 = .ok (.goto 6, 3) := by decide +kernel
theorem dX7_markOf_102 : decode cX7_markOf 102 = .ok (.iconst 2, 1) := by decide +kernel
theorem dX7_markOf_103 : decode cX7_markOf 103 = .ok (.iload_n 3, 1) := by decide +kernel
theorem dX7_markOf_104 : decode cX7_markOf 104 = .ok (.imul, 1) := by decide +kernel
theorem dX7_markOf_105 : decode cX7_markOf 105 = .ok (.ireturn, 1) := by decide +kernel
theorem dX7_sizeOf_0 : decode cX7_sizeOf 0 = .ok (.aload_n 0, 1) := by decide +kernel
theorem dX7_sizeOf_1 : decode cX7_sizeOf 1 = .ok (.getfield 19, 3) := by decide +kernel
theorem dX7_sizeOf_4 : decode cX7_sizeOf 4 = .ok (.iload_n 1, 1) := by decide +kernel
theorem dX7_sizeOf_5 : decode cX7_sizeOf 5 = .ok (.iconst 0, 1) := by decide +kernel
theorem dX7_sizeOf_6 : decode cX7_sizeOf 6 = .ok (.invokestatic 146, 3) := by decide +kernel
theorem dX7_sizeOf_9 : decode cX7_sizeOf 9 = .ok (.istore_n 2, 1) := by decide +kernel
theorem dX7_sizeOf_10 : decode cX7_sizeOf 10 = .ok (.iload_n 2, 1) := by decide +kernel
theorem dX7_sizeOf_11 : decode cX7_sizeOf 11 = .ok (.iconst 4, 1) := by decide +kernel
theorem dX7_sizeOf_12 : decode cX7_sizeOf 12 = .ok (.if_icmp .lt 9, 3) := by decide +kernel
theorem dX7_sizeOf_15 : decode cX7_sizeOf 15 = .ok (.aload_n 0, 1) := by decide +kernel
theorem dX7_sizeOf_16 : decode cX7_sizeOf 16 = .ok (.iload_n 1, 1) := by decide +kernel
theorem dX7_sizeOf_17 : decode cX7_sizeOf 17 = .ok (.invokevirtual 267, 3) := by decide +kernel
theorem dX7_sizeOf_20 : decode cX7_sizeOf 20 = .ok (.ireturn, 1) := by decide +kernel
theorem dX7_sizeOf_21 : decode cX7_sizeOf 21 = .ok (.iload_n 2, 1) := by decide +kernel
theorem dX7_sizeOf_22 : decode cX7_sizeOf 22 = .ok (.iconst 2, 1) := by decide +kernel
theorem dX7_sizeOf_23 : decode cX7_sizeOf 23 = .ok (.if_icmp .ne 9, 3) := by decide +kernel
theorem dX7_sizeOf_26 : decode cX7_sizeOf 26 = .ok (.aload_n 0, 1) := by decide +kernel
theorem dX7_sizeOf_27 : decode cX7_sizeOf 27 = .ok (.bipush 12, 2) := by decide +kernel
theorem dX7_sizeOf_29 : decode cX7_sizeOf 29 = .ok (.invokevirtual 261, 3) := by decide +kernel
theorem dX7_sizeOf_32 : decode cX7_sizeOf 32 = .ok (.aload_n 0, 1) := by decide +kernel
theorem dX7_sizeOf_33 : decode cX7_sizeOf 33 = .ok (.bipush 11, 2) := by decide +kernel
theorem dX7_sizeOf_35 : decode cX7_sizeOf 35 = .ok (.invokevirtual 261, 3) := by decide +kernel
theorem dX7_sizeOf_38 : decode cX7_sizeOf 38 = .ok (.aload_n 0, 1) := by decide +kernel
theorem dX7_sizeOf_39 : decode cX7_sizeOf 39 = .ok (.iload_n 1, 1) := by decide +kernel
theorem dX7_sizeOf_40 : decode cX7_sizeOf 40 = .ok (.invokevirtual 264, 3) := by decide +kernel
theorem dX7_sizeOf_43 : decode cX7_sizeOf 43 = .ok (.istore_n 3, 1) := by decide +kernel
theorem dX7_sizeOf_44 : decode cX7_sizeOf 44 = .ok (.iload_n 3, 1) := by decide +kernel
theorem dX7_sizeOf_45 : decode cX7_sizeOf 45 = .ok (.aload_n 0, 1) := by decide +kernel
theorem dX7_sizeOf_46 : decode cX7_sizeOf 46 = .ok (.iload_n 1, 1) := by decide +kernel
theorem dX7_sizeOf_47 : decode cX7_sizeOf 47 = .ok (.invokevirtual 270, 3) := by decide +kernel
theorem dX7_sizeOf_50 : decode cX7_sizeOf 50 = .ok (.iadd, 1) := by decide +kernel
theorem dX7_sizeOf_51 : decode cX7_sizeOf 51 = .ok (.istore_n 3, 1) := by decide +kernel
theorem dX7_sizeOf_52 : decode cX7_sizeOf 52 = .ok (.iload_n 2, 1) := by decide +kernel
theorem dX7_sizeOf_53 : decode cX7_sizeOf 53 = .ok (.iconst 2, 1) := by decide +kernel
theorem dX7_sizeOf_54 : decode cX7_sizeOf 54 = .ok (.if_icmp .ne 8, 3) := by decide +kernel
theorem dX7_sizeOf_57 : decode cX7_sizeOf 57 = .ok (.iload_n 3, 1) := by decide +kernel
theorem dX7_sizeOf_58 : decode cX7_sizeOf 58 = .ok (.ineg, 1) := by decide +kernel
theorem dX7_sizeOf_59 : decode cX7_sizeOf 59 = .ok (.goto 4, 3) := by decide +kernel
theorem dX7_sizeOf_62 : decode cX7_sizeOf 62 = .ok (.iload_n 3, 1) := by decide +kernel
theorem dX7_sizeOf_63 : decode cX7_sizeOf 63 = .ok (.ireturn, 1) := by decide +kernel
theorem dX7_ask_0 : decode cX7_ask 0 = .ok (.aload_n 0, 1) := by decide +kernel
theorem dX7_ask_1 : decode cX7_ask 1 = .ok (.iconst 0, 1) := by decide +kernel
theorem dX7_ask_2 : decode cX7_ask 2 = .ok (.putfield 44, 3) := by decide +kernel
theorem dX7_ask_5 : decode cX7_ask 5 = .ok (.aload_n 0, 1) := by decide +kernel
theorem dX7_ask_6 : decode cX7_ask 6 = .ok (.iload_n 1, 1) := by decide +kernel
theorem dX7_ask_7 : decode cX7_ask 7 = .ok (.invokevirtual 180, 3) := by decide +kernel
theorem dX7_ask_10 : decode cX7_ask 10 = .ok (.ifCond .eq 13, 3) := by decide +kernel
theorem dX7_ask_13 : decode cX7_ask 13 = .ok (.iload_n 2, 1) := by decide +kernel
theorem dX7_ask_14 : decode cX7_ask 14 = .ok (.i2l, 1) := by decide +kernel
theorem dX7_ask_15 : decode cX7_ask 15 = .ok (.lconst 0, 1) := by decide +kernel
theorem dX7_ask_16 : decode cX7_ask 16 = .ok (.lconst 1, 1) := by decide +kernel
theorem dX7_ask_17 : decode cX7_ask 17 = .ok (.invokestatic 54, 3) := by decide +kernel
theorem dX7_ask_20 : decode cX7_ask 20 = .ok (.ifCond .ne 6, 3) := by decide +kernel
theorem dX7_ask_23 : decode cX7_ask 23 = .ok (.ldc 64, 2) := by decide +kernel
theorem dX7_ask_25 : decode cX7_ask 25 = .ok (.ireturn, 1) := by decide +kernel
theorem dX7_ask_26 : decode cX7_ask 26 = .ok (.aload_n 0, 1) := by decide +kernel
theorem dX7_ask_27 : decode cX7_ask 27 = .ok (.iconst 0, 1) := by decide +kernel
theorem dX7_ask_28 : decode cX7_ask 28 = .ok (.putfield 258, 3) := by decide +kernel
theorem dX7_ask_31 : decode cX7_ask 31 = .ok (.iload_n 2, 1) := by decide +kernel
theorem dX7_ask_32 : decode cX7_ask 32 = .ok (.ifCond .ne 11, 3) := by decide +kernel
theorem dX7_ask_35 : decode cX7_ask 35 = .ok (.aload_n 0, 1) := by decide +kernel
theorem dX7_ask_36 : decode cX7_ask 36 = .ok (.iload_n 1, 1) := by decide +kernel
theorem dX7_ask_37 : decode cX7_ask 37 = .ok (.invokevirtual 273, 3) := by decide +kernel
theorem dX7_ask_40 : decode cX7_ask 40 = .ok (.goto 8, 3) := by decide +kernel
theorem dX7_ask_43 : decode cX7_ask 43 = .ok (.aload_n 0, 1) := by decide +kernel
theorem dX7_ask_44 : decode cX7_ask 44 = .ok (.iload_n 1, 1) := by decide +kernel
theorem dX7_ask_45 : decode cX7_ask 45 = .ok (.invokevirtual 270, 3) := by decide +kernel
theorem dX7_ask_48 : decode cX7_ask 48 = .ok (.ireturn, 1) := by decide +kernel
theorem dX7_trace_0 : decode cX7_trace 0 = .ok (.aload_n 0, 1) := by decide +kernel
theorem dX7_trace_1 : decode cX7_trace 1 = .ok (.iconst 0, 1) := by decide +kernel
theorem dX7_trace_2 : decode cX7_trace 2 = .ok (.putfield 44, 3) := by decide +kernel
theorem dX7_trace_5 : decode cX7_trace 5 = .ok (.iload_n 1, 1) := by decide +kernel
theorem dX7_trace_6 : decode cX7_trace 6 = .ok (.i2l, 1) := by decide +kernel
theorem dX7_trace_7 : decode cX7_trace 7 = .ok (.lconst 0, 1) := by decide +kernel
theorem dX7_trace_8 : decode cX7_trace 8 = .ok (.aload_n 0, 1) := by decide +kernel
theorem dX7_trace_9 : decode cX7_trace 9 = .ok (.getfield 258, 3) := by decide +kernel
theorem dX7_trace_12 : decode cX7_trace 12 = .ok (.iconst 1, 1) := by decide +kernel
theorem dX7_trace_13 : decode cX7_trace 13 = .ok (.isub, 1) := by decide +kernel
theorem dX7_trace_14 : decode cX7_trace 14 = .ok (.i2l, 1) := by decide +kernel
theorem dX7_trace_15 : decode cX7_trace 15 = .ok (.invokestatic 54, 3) := by decide +kernel
theorem dX7_trace_18 : decode cX7_trace 18 = .ok (.ifCond .eq 12, 3) := by decide +kernel
theorem dX7_trace_21 : decode cX7_trace 21 = .ok (.aload_n 0, 1) := by decide +kernel
theorem dX7_trace_22 : decode cX7_trace 22 = .ok (.getfield 41, 3) := by decide +kernel
theorem dX7_trace_25 : decode cX7_trace 25 = .ok (.iload_n 1, 1) := by decide +kernel
theorem dX7_trace_26 : decode cX7_trace 26 = .ok (.iaload, 1) := by decide +kernel
theorem dX7_trace_27 : decode cX7_trace 27 = .ok (.goto 5, 3) := by decide +kernel
theorem dX7_trace_30 : decode cX7_trace 30 = .ok (.ldc 87, 2) := by decide +kernel
theorem dX7_trace_32 : decode cX7_trace 32 = .ok (.ireturn, 1) := by decide +kernel
theorem dX7_count_0 : decode cX7_count 0 = .ok (.aload_n 0, 1) := by decide +kernel
theorem dX7_count_1 : decode cX7_count 1 = .ok (.iconst 0, 1) := by decide +kernel
theorem dX7_count_2 : decode cX7_count 2 = .ok (.putfield 44, 3) := by decide +kernel
theorem dX7_count_5 : decode cX7_count 5 = .ok (.iconst 0, 1) := by decide +kernel
theorem dX7_count_6 : decode cX7_count 6 = .ok (.istore_n 2, 1) := by decide +kernel
theorem dX7_count_7 : decode cX7_count 7 = .ok (.iload_n 1, 1) := by decide +kernel
theorem dX7_count_8 : decode cX7_count 8 = .ok (.tableswitch 131 0 7 #[48, 81, 88, 95, 102, 110, 121, 126], 48) := by decide +kernel
theorem dX7_count_56 : decode cX7_count 56 = .ok (.iconst 0, 1) := by decide +kernel
theorem dX7_count_57 : decode cX7_count 57 = .ok (.istore_n 3, 1) := by decide +kernel
theorem dX7_count_58 : decode cX7_count 58 = .ok (.iload_n 3, 1) := by decide +kernel
theorem dX7_count_59 : decode cX7_count 59 = .ok (.bipush 8, 2) := by decide +kernel
theorem dX7_count_61 : decode cX7_count 61 = .ok (.if_icmp .ge 26, 3) := by decide +kernel
theorem dX7_count_64 : decode cX7_count 64 = .ok (.iload_n 2, 1) := by decide +kernel
theorem dX7_count_65 : decode cX7_count 65 = .ok (.aload_n 0, 1) := by decide +kernel
theorem dX7_count_66 : decode cX7_count 66 = .ok (.getfield 7, 3) := by decide +kernel
theorem dX7_count_69 : decode cX7_count 69 = .ok (.iload_n 3, 1) := by decide +kernel
theorem dX7_count_70 : decode cX7_count 70 = .ok (.iaload, 1) := by decide +kernel
theorem dX7_count_71 : decode cX7_count 71 = .ok (.ifCond .lt 7, 3) := by decide +kernel
theorem dX7_count_74 : decode cX7_count 74 = .ok (.iconst 1, 1) := by decide +kernel
theorem dX7_count_75 : decode cX7_count 75 = .ok (.goto 4, 3) := by decide +kernel
theorem dX7_count_78 : decode cX7_count 78 = .ok (.iconst 0, 1) := by decide +kernel
theorem dX7_count_79 : decode cX7_count 79 = .ok (.iadd, 1) := by decide +kernel
theorem dX7_count_80 : decode cX7_count 80 = .ok (.istore_n 2, 1) := by decide +kernel
theorem dX7_count_81 : decode cX7_count 81 = .ok (.iinc 3 1, 3) := by decide +kernel
theorem dX7_count_84 : decode cX7_count 84 = .ok (.goto (-26), 3) := by decide +kernel
theorem dX7_count_87 : decode cX7_count 87 = .ok (.iload_n 2, 1) := by decide +kernel
theorem dX7_count_88 : decode cX7_count 88 = .ok (.ireturn, 1) := by decide +kernel
theorem dX7_count_89 : decode cX7_count 89 = .ok (.aload_n 0, 1) := by decide +kernel
theorem dX7_count_90 : decode cX7_count 90 = .ok (.getfield 19, 3) := by decide +kernel
theorem dX7_count_93 : decode cX7_count 93 = .ok (.iconst 0, 1) := by decide +kernel
theorem dX7_count_94 : decode cX7_count 94 = .ok (.iaload, 1) := by decide +kernel
theorem dX7_count_95 : decode cX7_count 95 = .ok (.ireturn, 1) := by decide +kernel
theorem dX7_count_96 : decode cX7_count 96 = .ok (.aload_n 0, 1) := by decide +kernel
theorem dX7_count_97 : decode cX7_count 97 = .ok (.getfield 19, 3) := by decide +kernel
theorem dX7_count_100 : decode cX7_count 100 = .ok (.iconst 4, 1) := by decide +kernel
theorem dX7_count_101 : decode cX7_count 101 = .ok (.iaload, 1) := by decide +kernel
theorem dX7_count_102 : decode cX7_count 102 = .ok (.ireturn, 1) := by decide +kernel
theorem dX7_count_103 : decode cX7_count 103 = .ok (.aload_n 0, 1) := by decide +kernel
theorem dX7_count_104 : decode cX7_count 104 = .ok (.getfield 19, 3) := by decide +kernel
theorem dX7_count_107 : decode cX7_count 107 = .ok (.iconst 5, 1) := by decide +kernel
theorem dX7_count_108 : decode cX7_count 108 = .ok (.iaload, 1) := by decide +kernel
theorem dX7_count_109 : decode cX7_count 109 = .ok (.ireturn, 1) := by decide +kernel
theorem dX7_count_110 : decode cX7_count 110 = .ok (.aload_n 0, 1) := by decide +kernel
theorem dX7_count_111 : decode cX7_count 111 = .ok (.getfield 19, 3) := by decide +kernel
theorem dX7_count_114 : decode cX7_count 114 = .ok (.invokestatic 200, 3) := by decide +kernel
theorem dX7_count_117 : decode cX7_count 117 = .ok (.ireturn, 1) := by decide +kernel
theorem dX7_count_118 : decode cX7_count 118 = .ok (.aload_n 0, 1) := by decide +kernel
theorem dX7_count_119 : decode cX7_count 119 = .ok (.getfield 19, 3) := by decide +kernel
theorem dX7_count_122 : decode cX7_count 122 = .ok (.invokestatic 185, 3) := by decide +kernel
theorem dX7_count_125 : decode cX7_count 125 = .ok (.invokestatic 205, 3) := by decide +kernel
theorem dX7_count_128 : decode cX7_count 128 = .ok (.ireturn, 1) := by decide +kernel
theorem dX7_count_129 : decode cX7_count 129 = .ok (.aload_n 0, 1) := by decide +kernel
theorem dX7_count_130 : decode cX7_count 130 = .ok (.getfield 143, 3) := by decide +kernel
theorem dX7_count_133 : decode cX7_count 133 = .ok (.ireturn, 1) := by decide +kernel
theorem dX7_count_134 : decode cX7_count 134 = .ok (.aload_n 0, 1) := by decide +kernel
theorem dX7_count_135 : decode cX7_count 135 = .ok (.getfield 71, 3) := by decide +kernel
theorem dX7_count_138 : decode cX7_count 138 = .ok (.ireturn, 1) := by decide +kernel
theorem dX7_count_139 : decode cX7_count 139 = .ok (.ldc 64, 2) := by decide +kernel
theorem dX7_count_141 : decode cX7_count 141 = .ok (.ireturn, 1) := by decide +kernel
theorem dX7_status_0 : decode cX7_status 0 = .ok (.aload_n 0, 1) := by decide +kernel
theorem dX7_status_1 : decode cX7_status 1 = .ok (.iconst 0, 1) := by decide +kernel
theorem dX7_status_2 : decode cX7_status 2 = .ok (.putfield 44, 3) := by decide +kernel
theorem dX7_status_5 : decode cX7_status 5 = .ok (.aload_n 0, 1) := by decide +kernel
theorem dX7_status_6 : decode cX7_status 6 = .ok (.getfield 48, 3) := by decide +kernel
theorem dX7_status_9 : decode cX7_status 9 = .ok (.ireturn, 1) := by decide +kernel
