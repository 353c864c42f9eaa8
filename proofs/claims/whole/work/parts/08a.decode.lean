/-! ===== decode rows ===== -/
theorem dX0_init_0 : decode cX0_init 0 = .ok (.aload_n 0, 1) := by decide +kernel
theorem dX0_init_1 : decode cX0_init 1 = .ok (.invokespecial 3, 3) := by decide +kernel
theorem dX0_init_4 : decode cX0_init 4 = .ok (.aload_n 0, 1) := by decide +kernel
theorem dX0_init_5 : decode cX0_init 5 = .ok (.bipush 24, 2) := by decide +kernel
theorem dX0_init_7 : decode cX0_init 7 = .ok (.anewarray 9, 3) := by decide +kernel
theorem dX0_init_10 : decode cX0_init 10 = .ok (.putfield 11, 3) := by decide +kernel
theorem dX0_init_13 : decode cX0_init 13 = .ok (.iconst 0, 1) := by decide +kernel
theorem dX0_init_14 : decode cX0_init 14 = .ok (.istore_n 1, 1) := by decide +kernel
theorem dX0_init_15 : decode cX0_init 15 = .ok (.iload_n 1, 1) := by decide +kernel
theorem dX0_init_16 : decode cX0_init 16 = .ok (.bipush 24, 2) := by decide +kernel
theorem dX0_init_18 : decode cX0_init 18 = .ok (.if_icmp .ge 22, 3) := by decide +kernel
theorem dX0_init_21 : decode cX0_init 21 = .ok (.aload_n 0, 1) := by decide +kernel
theorem dX0_init_22 : decode cX0_init 22 = .ok (.getfield 11, 3) := by decide +kernel
theorem dX0_init_25 : decode cX0_init 25 = .ok (.iload_n 1, 1) := by decide +kernel
theorem dX0_init_26 : decode cX0_init 26 = .ok (.new 9, 3) := by decide +kernel
theorem dX0_init_29 : decode cX0_init 29 = .ok (.dup, 1) := by decide +kernel
theorem dX0_init_30 : decode cX0_init 30 = .ok (.invokespecial 17, 3) := by decide +kernel
theorem dX0_init_33 : decode cX0_init 33 = .ok (.aastore, 1) := by decide +kernel
theorem dX0_init_34 : decode cX0_init 34 = .ok (.iinc 1 1, 3) := by decide +kernel
theorem dX0_init_37 : decode cX0_init 37 = .ok (.goto (-22), 3) := by decide +kernel
theorem dX0_init_40 : decode cX0_init 40 = .ok (.return_, 1) := by decide +kernel
theorem dX0_clear_0 : decode cX0_clear 0 = .ok (.aload_n 0, 1) := by decide +kernel
theorem dX0_clear_1 : decode cX0_clear 1 = .ok (.iconst 0, 1) := by decide +kernel
theorem dX0_clear_2 : decode cX0_clear 2 = .ok (.putfield 18, 3) := by decide +kernel
theorem dX0_clear_5 : decode cX0_clear 5 = .ok (.aload_n 0, 1) := by decide +kernel
theorem dX0_clear_6 : decode cX0_clear 6 = .ok (.iconst 0, 1) := by decide +kernel
theorem dX0_clear_7 : decode cX0_clear 7 = .ok (.putfield 22, 3) := by decide +kernel
theorem dX0_clear_10 : decode cX0_clear 10 = .ok (.return_, 1) := by decide +kernel
theorem dX0_keep_0 : decode cX0_keep 0 = .ok (.aload_n 0, 1) := by decide +kernel
theorem dX0_keep_1 : decode cX0_keep 1 = .ok (.getfield 11, 3) := by decide +kernel
theorem dX0_keep_4 : decode cX0_keep 4 = .ok (.aload_n 0, 1) := by decide +kernel
theorem dX0_keep_5 : decode cX0_keep 5 = .ok (.getfield 18, 3) := by decide +kernel
theorem dX0_keep_8 : decode cX0_keep 8 = .ok (.aaload, 1) := by decide +kernel
theorem dX0_keep_9 : decode cX0_keep 9 = .ok (.aload_n 1, 1) := by decide +kernel
theorem dX0_keep_10 : decode cX0_keep 10 = .ok (.invokevirtual 25, 3) := by decide +kernel
theorem dX0_keep_13 : decode cX0_keep 13 = .ok (.aload_n 0, 1) := by decide +kernel
theorem dX0_keep_14 : decode cX0_keep 14 = .ok (.aload_n 0, 1) := by decide +kernel
theorem dX0_keep_15 : decode cX0_keep 15 = .ok (.getfield 18, 3) := by decide +kernel
theorem dX0_keep_18 : decode cX0_keep 18 = .ok (.iconst 1, 1) := by decide +kernel
theorem dX0_keep_19 : decode cX0_keep 19 = .ok (.iadd, 1) := by decide +kernel
theorem dX0_keep_20 : decode cX0_keep 20 = .ok (.bipush 24, 2) := by decide +kernel
theorem dX0_keep_22 : decode cX0_keep 22 = .ok (.if_icmp .ge 12, 3) := by decide +kernel
theorem dX0_keep_25 : decode cX0_keep 25 = .ok (.aload_n 0, 1) := by decide +kernel
theorem dX0_keep_26 : decode cX0_keep 26 = .ok (.getfield 18, 3) := by decide +kernel
theorem dX0_keep_29 : decode cX0_keep 29 = .ok (.iconst 1, 1) := by decide +kernel
theorem dX0_keep_30 : decode cX0_keep 30 = .ok (.iadd, 1) := by decide +kernel
theorem dX0_keep_31 : decode cX0_keep 31 = .ok (.goto 4, 3) := by decide +kernel
theorem dX0_keep_34 : decode cX0_keep 34 = .ok (.iconst 0, 1) := by decide +kernel
theorem dX0_keep_35 : decode cX0_keep 35 = .ok (.putfield 18, 3) := by decide +kernel
theorem dX0_keep_38 : decode cX0_keep 38 = .ok (.aload_n 0, 1) := by decide +kernel
theorem dX0_keep_39 : decode cX0_keep 39 = .ok (.aload_n 0, 1) := by decide +kernel
theorem dX0_keep_40 : decode cX0_keep 40 = .ok (.getfield 22, 3) := by decide +kernel
theorem dX0_keep_43 : decode cX0_keep 43 = .ok (.iconst 1, 1) := by decide +kernel
theorem dX0_keep_44 : decode cX0_keep 44 = .ok (.iadd, 1) := by decide +kernel
theorem dX0_keep_45 : decode cX0_keep 45 = .ok (.bipush 24, 2) := by decide +kernel
theorem dX0_keep_47 : decode cX0_keep 47 = .ok (.invokestatic 29, 3) := by decide +kernel
theorem dX0_keep_50 : decode cX0_keep 50 = .ok (.putfield 22, 3) := by decide +kernel
theorem dX0_keep_53 : decode cX0_keep 53 = .ok (.return_, 1) := by decide +kernel
theorem dX0_takeBack_0 : decode cX0_takeBack 0 = .ok (.aload_n 0, 1) := by decide +kernel
theorem dX0_takeBack_1 : decode cX0_takeBack 1 = .ok (.aload_n 0, 1) := by decide +kernel
theorem dX0_takeBack_2 : decode cX0_takeBack 2 = .ok (.getfield 18, 3) := by decide +kernel
theorem dX0_takeBack_5 : decode cX0_takeBack 5 = .ok (.ifCond .le 12, 3) := by decide +kernel
theorem dX0_takeBack_8 : decode cX0_takeBack 8 = .ok (.aload_n 0, 1) := by decide +kernel
theorem dX0_takeBack_9 : decode cX0_takeBack 9 = .ok (.getfield 18, 3) := by decide +kernel
theorem dX0_takeBack_12 : decode cX0_takeBack 12 = .ok (.iconst 1, 1) := by decide +kernel
theorem dX0_takeBack_13 : decode cX0_takeBack 13 = .ok (.isub, 1) := by decide +kernel
theorem dX0_takeBack_14 : decode cX0_takeBack 14 = .ok (.goto 5, 3) := by decide +kernel
theorem dX0_takeBack_17 : decode cX0_takeBack 17 = .ok (.bipush 23, 2) := by decide +kernel
theorem dX0_takeBack_19 : decode cX0_takeBack 19 = .ok (.putfield 18, 3) := by decide +kernel
theorem dX0_takeBack_22 : decode cX0_takeBack 22 = .ok (.aload_n 0, 1) := by decide +kernel
theorem dX0_takeBack_23 : decode cX0_takeBack 23 = .ok (.dup, 1) := by decide +kernel
theorem dX0_takeBack_24 : decode cX0_takeBack 24 = .ok (.getfield 22, 3) := by decide +kernel
theorem dX0_takeBack_27 : decode cX0_takeBack 27 = .ok (.iconst 1, 1) := by decide +kernel
theorem dX0_takeBack_28 : decode cX0_takeBack 28 = .ok (.isub, 1) := by decide +kernel
theorem dX0_takeBack_29 : decode cX0_takeBack 29 = .ok (.putfield 22, 3) := by decide +kernel
theorem dX0_takeBack_32 : decode cX0_takeBack 32 = .ok (.aload_n 1, 1) := by decide +kernel
theorem dX0_takeBack_33 : decode cX0_takeBack 33 = .ok (.aload_n 0, 1) := by decide +kernel
theorem dX0_takeBack_34 : decode cX0_takeBack 34 = .ok (.getfield 11, 3) := by decide +kernel
theorem dX0_takeBack_37 : decode cX0_takeBack 37 = .ok (.aload_n 0, 1) := by decide +kernel
theorem dX0_takeBack_38 : decode cX0_takeBack 38 = .ok (.getfield 18, 3) := by decide +kernel
theorem dX0_takeBack_41 : decode cX0_takeBack 41 = .ok (.aaload, 1) := by decide +kernel
theorem dX0_takeBack_42 : decode cX0_takeBack 42 = .ok (.invokevirtual 25, 3) := by decide +kernel
theorem dX0_takeBack_45 : decode cX0_takeBack 45 = .ok (.return_, 1) := by decide +kernel
theorem dX1_init_0 : decode cX1_init 0 = .ok (.aload_n 0, 1) := by decide +kernel
theorem dX1_init_1 : decode cX1_init 1 = .ok (.invokespecial 3, 3) := by decide +kernel
theorem dX1_init_4 : decode cX1_init 4 = .ok (.aload_n 0, 1) := by decide +kernel
theorem dX1_init_5 : decode cX1_init 5 = .ok (.bipush 16, 2) := by decide +kernel
theorem dX1_init_7 : decode cX1_init 7 = .ok (.newarray .int, 2) := by decide +kernel
theorem dX1_init_9 : decode cX1_init 9 = .ok (.putfield 11, 3) := by decide +kernel
theorem dX1_init_12 : decode cX1_init 12 = .ok (.aload_n 0, 1) := by decide +kernel
theorem dX1_init_13 : decode cX1_init 13 = .ok (.aload_n 1, 1) := by decide +kernel
theorem dX1_init_14 : decode cX1_init 14 = .ok (.putfield 15, 3) := by decide +kernel
theorem dX1_init_17 : decode cX1_init 17 = .ok (.return_, 1) := by decide +kernel
theorem dX1_answer_0 : decode cX1_answer 0 = .ok (.aload_n 0, 1) := by decide +kernel
theorem dX1_answer_1 : decode cX1_answer 1 = .ok (.iconst 0, 1) := by decide +kernel
theorem dX1_answer_2 : decode cX1_answer 2 = .ok (.putfield 19, 3) := by decide +kernel
theorem dX1_answer_5 : decode cX1_answer 5 = .ok (.aload_n 0, 1) := by decide +kernel
theorem dX1_answer_6 : decode cX1_answer 6 = .ok (.iload_n 1, 1) := by decide +kernel
theorem dX1_answer_7 : decode cX1_answer 7 = .ok (.iload_n 2, 1) := by decide +kernel
theorem dX1_answer_8 : decode cX1_answer 8 = .ok (.iconst 0, 1) := by decide +kernel
theorem dX1_answer_9 : decode cX1_answer 9 = .ok (.invokestatic 23, 3) := by decide +kernel
theorem dX1_answer_12 : decode cX1_answer 12 = .ok (.ireturn, 1) := by decide +kernel
theorem dX1_bodyFor_0 : decode cX1_bodyFor 0 = .ok (.iload_n 0, 1) := by decide +kernel
theorem dX1_bodyFor_1 : decode cX1_bodyFor 1 = .ok (.tableswitch 95 1 5 #[35, 47, 59, 71, 83], 35) := by decide +kernel
theorem dX1_bodyFor_36 : decode cX1_bodyFor 36 = .ok (.iload_n 1, 1) := by decide +kernel
theorem dX1_bodyFor_37 : decode cX1_bodyFor 37 = .ok (.ifCond .ne 8, 3) := by decide +kernel
theorem dX1_bodyFor_40 : decode cX1_bodyFor 40 = .ok (.bipush 11, 2) := by decide +kernel
theorem dX1_bodyFor_42 : decode cX1_bodyFor 42 = .ok (.goto 5, 3) := by decide +kernel
theorem dX1_bodyFor_45 : decode cX1_bodyFor 45 = .ok (.bipush 21, 2) := by decide +kernel
theorem dX1_bodyFor_47 : decode cX1_bodyFor 47 = .ok (.ireturn, 1) := by decide +kernel
theorem dX1_bodyFor_48 : decode cX1_bodyFor 48 = .ok (.iload_n 1, 1) := by decide +kernel
theorem dX1_bodyFor_49 : decode cX1_bodyFor 49 = .ok (.ifCond .ne 8, 3) := by decide +kernel
theorem dX1_bodyFor_52 : decode cX1_bodyFor 52 = .ok (.bipush 12, 2) := by decide +kernel
theorem dX1_bodyFor_54 : decode cX1_bodyFor 54 = .ok (.goto 5, 3) := by decide +kernel
theorem dX1_bodyFor_57 : decode cX1_bodyFor 57 = .ok (.bipush 24, 2) := by decide +kernel
theorem dX1_bodyFor_59 : decode cX1_bodyFor 59 = .ok (.ireturn, 1) := by decide +kernel
theorem dX1_bodyFor_60 : decode cX1_bodyFor 60 = .ok (.iload_n 1, 1) := by decide +kernel
theorem dX1_bodyFor_61 : decode cX1_bodyFor 61 = .ok (.ifCond .ne 8, 3) := by decide +kernel
theorem dX1_bodyFor_64 : decode cX1_bodyFor 64 = .ok (.bipush 11, 2) := by decide +kernel
theorem dX1_bodyFor_66 : decode cX1_bodyFor 66 = .ok (.goto 5, 3) := by decide +kernel
theorem dX1_bodyFor_69 : decode cX1_bodyFor 69 = .ok (.bipush 22, 2) := by decide +kernel
theorem dX1_bodyFor_71 : decode cX1_bodyFor 71 = .ok (.ireturn, 1) := by decide +kernel
theorem dX1_bodyFor_72 : decode cX1_bodyFor 72 = .ok (.iload_n 1, 1) := by decide +kernel
theorem dX1_bodyFor_73 : decode cX1_bodyFor 73 = .ok (.ifCond .ne 8, 3) := by decide +kernel
theorem dX1_bodyFor_76 : decode cX1_bodyFor 76 = .ok (.bipush 13, 2) := by decide +kernel
theorem dX1_bodyFor_78 : decode cX1_bodyFor 78 = .ok (.goto 5, 3) := by decide +kernel
theorem dX1_bodyFor_81 : decode cX1_bodyFor 81 = .ok (.bipush 23, 2) := by decide +kernel
theorem dX1_bodyFor_83 : decode cX1_bodyFor 83 = .ok (.ireturn, 1) := by decide +kernel
theorem dX1_bodyFor_84 : decode cX1_bodyFor 84 = .ok (.iload_n 1, 1) := by decide +kernel
theorem dX1_bodyFor_85 : decode cX1_bodyFor 85 = .ok (.ifCond .ne 8, 3) := by decide +kernel
theorem dX1_bodyFor_88 : decode cX1_bodyFor 88 = .ok (.bipush 14, 2) := by decide +kernel
theorem dX1_bodyFor_90 : decode cX1_bodyFor 90 = .ok (.goto 5, 3) := by decide +kernel
theorem dX1_bodyFor_93 : decode cX1_bodyFor 93 = .ok (.bipush 23, 2) := by decide +kernel
theorem dX1_bodyFor_95 : decode cX1_bodyFor 95 = .ok (.ireturn, 1) := by decide +kernel
theorem dX1_bodyFor_96 : decode cX1_bodyFor 96 = .ok (.iload_n 1, 1) := by decide +kernel
theorem dX1_bodyFor_97 : decode cX1_bodyFor 97 = .ok (.ifCond .ne 8, 3) := by decide +kernel
theorem dX1_bodyFor_100 : decode cX1_bodyFor 100 = .ok (.bipush 10, 2) := by decide +kernel
theorem dX1_bodyFor_102 : decode cX1_bodyFor 102 = .ok (.goto 5, 3) := by decide +kernel
theorem dX1_bodyFor_105 : decode cX1_bodyFor 105 = .ok (.bipush 20, 2) := by decide +kernel
theorem dX1_bodyFor_107 : decode cX1_bodyFor 107 = .ok (.ireturn, 1) := by decide +kernel
theorem dX1_anew_0 : decode cX1_anew 0 = .ok (.aload_n 0, 1) := by decide +kernel
theorem dX1_anew_1 : decode cX1_anew 1 = .ok (.aload_n 0, 1) := by decide +kernel
theorem dX1_anew_2 : decode cX1_anew 2 = .ok (.getfield 15, 3) := by decide +kernel
theorem dX1_anew_5 : decode cX1_anew 5 = .ok (.getfield 27, 3) := by decide +kernel
theorem dX1_anew_8 : decode cX1_anew 8 = .ok (.iload_n 1, 1) := by decide +kernel
theorem dX1_anew_9 : decode cX1_anew 9 = .ok (.iaload, 1) := by decide +kernel
theorem dX1_anew_10 : decode cX1_anew 10 = .ok (.iload_n 2, 1) := by decide +kernel
theorem dX1_anew_11 : decode cX1_anew 11 = .ok (.invokestatic 32, 3) := by decide +kernel
theorem dX1_anew_14 : decode cX1_anew 14 = .ok (.iload_n 1, 1) := by decide +kernel
theorem dX1_anew_15 : decode cX1_anew 15 = .ok (.iload_n 3, 1) := by decide +kernel
theorem dX1_anew_16 : decode cX1_anew 16 = .ok (.invokestatic 36, 3) := by decide +kernel
theorem dX1_anew_19 : decode cX1_anew 19 = .ok (.ireturn, 1) := by decide +kernel
theorem dX1_body_0 : decode cX1_body 0 = .ok (.iload_n 3, 1) := by decide +kernel
theorem dX1_body_1 : decode cX1_body 1 = .ok (.bipush 12, 2) := by decide +kernel
theorem dX1_body_3 : decode cX1_body 3 = .ok (.if_icmp .le 5, 3) := by decide +kernel
theorem dX1_body_6 : decode cX1_body 6 = .ok (.iconst 0, 1) := by decide +kernel
theorem dX1_body_7 : decode cX1_body 7 = .ok (.ireturn, 1) := by decide +kernel
theorem dX1_body_8 : decode cX1_body 8 = .ok (.aload_n 0, 1) := by decide +kernel
theorem dX1_body_9 : decode cX1_body 9 = .ok (.iload_n 1, 1) := by decide +kernel
theorem dX1_body_10 : decode cX1_body 10 = .ok (.invokevirtual 39, 3) := by decide +kernel
theorem dX1_body_13 : decode cX1_body 13 = .ok (.iload_n 3, 1) := by decide +kernel
theorem dX1_body_14 : decode cX1_body 14 = .ok (.iconst 1, 1) := by decide +kernel
theorem dX1_body_15 : decode cX1_body 15 = .ok (.iadd, 1) := by decide +kernel
theorem dX1_body_16 : decode cX1_body 16 = .ok (.istore 4, 2) := by decide +kernel
theorem dX1_body_18 : decode cX1_body 18 = .ok (.iload_n 1, 1) := by decide +kernel
theorem dX1_body_19 : decode cX1_body 19 = .ok (.tableswitch 205 10 24 #[73, 83, 102, 113, 126, 205, 205, 205, 205, 205, 138, 140, 160, 174, 193], 73) := by decide +kernel
theorem dX1_body_92 : decode cX1_body 92 = .ok (.aload_n 0, 1) := by decide +kernel
theorem dX1_body_93 : decode cX1_body 93 = .ok (.getfield 15, 3) := by decide +kernel
theorem dX1_body_96 : decode cX1_body 96 = .ok (.getfield 43, 3) := by decide +kernel
theorem dX1_body_99 : decode cX1_body 99 = .ok (.iload_n 2, 1) := by decide +kernel
theorem dX1_body_100 : decode cX1_body 100 = .ok (.iaload, 1) := by decide +kernel
theorem dX1_body_101 : decode cX1_body 101 = .ok (.ireturn, 1) := by decide +kernel
theorem dX1_body_102 : decode cX1_body 102 = .ok (.aload_n 0, 1) := by decide +kernel
theorem dX1_body_103 : decode cX1_body 103 = .ok (.bipush 10, 2) := by decide +kernel
theorem dX1_body_105 : decode cX1_body 105 = .ok (.iload_n 2, 1) := by decide +kernel
theorem dX1_body_106 : decode cX1_body 106 = .ok (.iload 4, 2) := by decide +kernel
theorem dX1_body_108 : decode cX1_body 108 = .ok (.invokestatic 36, 3) := by decide +kernel
theorem dX1_body_111 : decode cX1_body 111 = .ok (.aload_n 0, 1) := by decide +kernel
theorem dX1_body_112 : decode cX1_body 112 = .ok (.iload_n 2, 1) := by decide +kernel
theorem dX1_body_113 : decode cX1_body 113 = .ok (.iconst 1, 1) := by decide +kernel
theorem dX1_body_114 : decode cX1_body 114 = .ok (.iload 4, 2) := by decide +kernel
theorem dX1_body_116 : decode cX1_body 116 = .ok (.invokestatic 23, 3) := by decide +kernel
theorem dX1_body_119 : decode cX1_body 119 = .ok (.iadd, 1) := by decide +kernel
theorem dX1_body_120 : decode cX1_body 120 = .ok (.ireturn, 1) := by decide +kernel
theorem dX1_body_121 : decode cX1_body 121 = .ok (.aload_n 0, 1) := by decide +kernel
theorem dX1_body_122 : decode cX1_body 122 = .ok (.bipush 11, 2) := by decide +kernel
theorem dX1_body_124 : decode cX1_body 124 = .ok (.iload_n 2, 1) := by decide +kernel
theorem dX1_body_125 : decode cX1_body 125 = .ok (.iload 4, 2) := by decide +kernel
theorem dX1_body_127 : decode cX1_body 127 = .ok (.invokestatic 36, 3) := by decide +kernel
theorem dX1_body_130 : decode cX1_body 130 = .ok (.ineg, 1) := by decide +kernel
theorem dX1_body_131 : decode cX1_body 131 = .ok (.ireturn, 1) := by decide +kernel
theorem dX1_body_132 : decode cX1_body 132 = .ok (.aload_n 0, 1) := by decide +kernel
theorem dX1_body_133 : decode cX1_body 133 = .ok (.bipush 10, 2) := by decide +kernel
theorem dX1_body_135 : decode cX1_body 135 = .ok (.iload_n 2, 1) := by decide +kernel
theorem dX1_body_136 : decode cX1_body 136 = .ok (.iload 4, 2) := by decide +kernel
theorem dX1_body_138 : decode cX1_body 138 = .ok (.invokestatic 36, 3) := by decide +kernel
theorem dX1_body_141 : decode cX1_body 141 = .ok (.bipush 100, 2) := by decide +kernel
theorem dX1_body_143 : decode cX1_body 143 = .ok (.isub, 1) := by decide +kernel
theorem dX1_body_144 : decode cX1_body 144 = .ok (.ireturn, 1) := by decide +kernel
theorem dX1_body_145 : decode cX1_body 145 = .ok (.aload_n 0, 1) := by decide +kernel
theorem dX1_body_146 : decode cX1_body 146 = .ok (.bipush 13, 2) := by decide +kernel
theorem dX1_body_148 : decode cX1_body 148 = .ok (.iload_n 2, 1) := by decide +kernel
theorem dX1_body_149 : decode cX1_body 149 = .ok (.iload 4, 2) := by decide +kernel
theorem dX1_body_151 : decode cX1_body 151 = .ok (.invokestatic 36, 3) := by decide +kernel
theorem dX1_body_154 : decode cX1_body 154 = .ok (.iconst 2, 1) := by decide +kernel
theorem dX1_body_155 : decode cX1_body 155 = .ok (.imul, 1) := by decide +kernel
theorem dX1_body_156 : decode cX1_body 156 = .ok (.ireturn, 1) := by decide +kernel
theorem dX1_body_157 : decode cX1_body 157 = .ok (.iload_n 2, 1) := by decide +kernel
theorem dX1_body_158 : decode cX1_body 158 = .ok (.ireturn, 1) := by decide +kernel
theorem dX1_body_159 : decode cX1_body 159 = .ok (.aload_n 0, 1) := by decide +kernel
theorem dX1_body_160 : decode cX1_body 160 = .ok (.bipush 20, 2) := by decide +kernel
theorem dX1_body_162 : decode cX1_body 162 = .ok (.iload_n 2, 1) := by decide +kernel
theorem dX1_body_163 : decode cX1_body 163 = .ok (.iload 4, 2) := by decide +kernel
theorem dX1_body_165 : decode cX1_body 165 = .ok (.invokestatic 36, 3) := by decide +kernel
theorem dX1_body_168 : decode cX1_body 168 = .ok (.aload_n 0, 1) := by decide +kernel
theorem dX1_body_169 : decode cX1_body 169 = .ok (.getfield 15, 3) := by decide +kernel
theorem dX1_body_172 : decode cX1_body 172 = .ok (.getfield 46, 3) := by decide +kernel
theorem dX1_body_175 : decode cX1_body 175 = .ok (.iload_n 2, 1) := by decide +kernel
theorem dX1_body_176 : decode cX1_body 176 = .ok (.iaload, 1) := by decide +kernel
theorem dX1_body_177 : decode cX1_body 177 = .ok (.iadd, 1) := by decide +kernel
theorem dX1_body_178 : decode cX1_body 178 = .ok (.ireturn, 1) := by decide +kernel
theorem dX1_body_179 : decode cX1_body 179 = .ok (.aload_n 0, 1) := by decide +kernel
theorem dX1_body_180 : decode cX1_body 180 = .ok (.bipush 21, 2) := by decide +kernel
theorem dX1_body_182 : decode cX1_body 182 = .ok (.iload_n 2, 1) := by decide +kernel
theorem dX1_body_183 : decode cX1_body 183 = .ok (.iload 4, 2) := by decide +kernel
theorem dX1_body_185 : decode cX1_body 185 = .ok (.invokestatic 36, 3) := by decide +kernel
theorem dX1_body_188 : decode cX1_body 188 = .ok (.sipush 1000, 3) := by decide +kernel
theorem dX1_body_191 : decode cX1_body 191 = .ok (.isub, 1) := by decide +kernel
theorem dX1_body_192 : decode cX1_body 192 = .ok (.ireturn, 1) := by decide +kernel
theorem dX1_body_193 : decode cX1_body 193 = .ok (.aload_n 0, 1) := by decide +kernel
theorem dX1_body_194 : decode cX1_body 194 = .ok (.bipush 20, 2) := by decide +kernel
theorem dX1_body_196 : decode cX1_body 196 = .ok (.iload_n 2, 1) := by decide +kernel
theorem dX1_body_197 : decode cX1_body 197 = .ok (.iload 4, 2) := by decide +kernel
theorem dX1_body_199 : decode cX1_body 199 = .ok (.invokestatic 36, 3) := by decide +kernel
theorem dX1_body_202 : decode cX1_body 202 = .ok (.aload_n 0, 1) := by decide +kernel
theorem dX1_body_203 : decode cX1_body 203 = .ok (.iload_n 2, 1) := by decide +kernel
theorem dX1_body_204 : decode cX1_body 204 = .ok (.iconst 0, 1) := by decide +kernel
theorem dX1_body_205 : decode cX1_body 205 = .ok (.iload 4, 2) := by decide +kernel
theorem dX1_body_207 : decode cX1_body 207 = .ok (.invokestatic 23, 3) := by decide +kernel
theorem dX1_body_210 : decode cX1_body 210 = .ok (.isub, 1) := by decide +kernel
theorem dX1_body_211 : decode cX1_body 211 = .ok (.ireturn, 1) := by decide +kernel
theorem dX1_body_212 : decode cX1_body 212 = .ok (.aload_n 0, 1) := by decide +kernel
theorem dX1_body_213 : decode cX1_body 213 = .ok (.bipush 21, 2) := by decide +kernel
theorem dX1_body_215 : decode cX1_body 215 = .ok (.iload_n 2, 1) := by decide +kernel
theorem dX1_body_216 : decode cX1_body 216 = .ok (.iload 4, 2) := by decide +kernel
theorem dX1_body_218 : decode cX1_body 218 = .ok (.invokestatic 36, 3) := by decide +kernel
theorem dX1_body_221 : decode cX1_body 221 = .ok (.iconst 2, 1) := by decide +kernel
theorem dX1_body_222 : decode cX1_body 222 = .ok (.imul, 1) := by decide +kernel
theorem dX1_body_223 : decode cX1_body 223 = .ok (.ireturn, 1) := by decide +kernel
theorem dX1_body_224 : decode cX1_body 224 = .ok (.iconst 0, 1) := by decide +kernel
theorem dX1_body_225 : decode cX1_body 225 = .ok (.ireturn, 1) := by decide +kernel
theorem dX1_leaveTrace_0 : decode cX1_leaveTrace 0 = .ok (.aload_n 0, 1) := by decide +kernel
theorem dX1_leaveTrace_1 : decode cX1_leaveTrace 1 = .ok (.getfield 19, 3) := by decide +kernel
theorem dX1_leaveTrace_4 : decode cX1_leaveTrace 4 = .ok (.bipush 16, 2) := by decide +kernel
theorem dX1_leaveTrace_6 : decode cX1_leaveTrace 6 = .ok (.if_icmp .ge 23, 3) := by decide +kernel
theorem dX1_leaveTrace_9 : decode cX1_leaveTrace 9 = .ok (.aload_n 0, 1) := by decide +kernel
theorem dX1_leaveTrace_10 : decode cX1_leaveTrace 10 = .ok (.getfield 11, 3) := by decide +kernel
theorem dX1_leaveTrace_13 : decode cX1_leaveTrace 13 = .ok (.aload_n 0, 1) := by decide +kernel
theorem dX1_leaveTrace_14 : decode cX1_leaveTrace 14 = .ok (.getfield 19, 3) := by decide +kernel
theorem dX1_leaveTrace_17 : decode cX1_leaveTrace 17 = .ok (.iload_n 1, 1) := by decide +kernel
theorem dX1_leaveTrace_18 : decode cX1_leaveTrace 18 = .ok (.iastore, 1) := by decide +kernel
theorem dX1_leaveTrace_19 : decode cX1_leaveTrace 19 = .ok (.aload_n 0, 1) := by decide +kernel
theorem dX1_leaveTrace_20 : decode cX1_leaveTrace 20 = .ok (.dup, 1) := by decide +kernel
theorem dX1_leaveTrace_21 : decode cX1_leaveTrace 21 = .ok (.getfield 19, 3) := by decide +kernel
theorem dX1_leaveTrace_24 : decode cX1_leaveTrace 24 = .ok (.iconst 1, 1) := by decide +kernel
theorem dX1_leaveTrace_25 : decode cX1_leaveTrace 25 = .ok (.iadd, 1) := by decide +kernel
theorem dX1_leaveTrace_26 : decode cX1_leaveTrace 26 = .ok (.putfield 19, 3) := by decide +kernel
theorem dX1_leaveTrace_29 : decode cX1_leaveTrace 29 = .ok (.return_, 1) := by decide +kernel
theorem dX2_init_0 : decode cX2_init 0 = .ok (.aload_n 0, 1) := by decide +kernel
theorem dX2_init_1 : decode cX2_init 1 = .ok (.invokespecial 3, 3) := by decide +kernel
theorem dX2_init_4 : decode cX2_init 4 = .ok (.aload_n 0, 1) := by decide +kernel
theorem dX2_init_5 : decode cX2_init 5 = .ok (.new 9, 3) := by decide +kernel
theorem dX2_init_8 : decode cX2_init 8 = .ok (.dup, 1) := by decide +kernel
theorem dX2_init_9 : decode cX2_init 9 = .ok (.invokespecial 11, 3) := by decide +kernel
theorem dX2_init_12 : decode cX2_init 12 = .ok (.putfield 12, 3) := by decide +kernel
theorem dX2_init_15 : decode cX2_init 15 = .ok (.aload_n 0, 1) := by decide +kernel
theorem dX2_init_16 : decode cX2_init 16 = .ok (.aload_n 1, 1) := by decide +kernel
theorem dX2_init_17 : decode cX2_init 17 = .ok (.putfield 18, 3) := by decide +kernel
theorem dX2_init_20 : decode cX2_init 20 = .ok (.return_, 1) := by decide +kernel
theorem dX2_behind_0 : decode cX2_behind 0 = .ok (.aload_n 0, 1) := by decide +kernel
theorem dX2_behind_1 : decode cX2_behind 1 = .ok (.getfield 12, 3) := by decide +kernel
theorem dX2_behind_4 : decode cX2_behind 4 = .ok (.aload_n 0, 1) := by decide +kernel
theorem dX2_behind_5 : decode cX2_behind 5 = .ok (.getfield 18, 3) := by decide +kernel
theorem dX2_behind_8 : decode cX2_behind 8 = .ok (.invokevirtual 21, 3) := by decide +kernel
theorem dX2_behind_11 : decode cX2_behind 11 = .ok (.aload_n 0, 1) := by decide +kernel
theorem dX2_behind_12 : decode cX2_behind 12 = .ok (.getfield 12, 3) := by decide +kernel
theorem dX2_behind_15 : decode cX2_behind 15 = .ok (.iload_n 1, 1) := by decide +kernel
theorem dX2_behind_16 : decode cX2_behind 16 = .ok (.invokevirtual 25, 3) := by decide +kernel
theorem dX2_behind_19 : decode cX2_behind 19 = .ok (.aload_n 0, 1) := by decide +kernel
theorem dX2_behind_20 : decode cX2_behind 20 = .ok (.getfield 12, 3) := by decide +kernel
theorem dX2_behind_23 : decode cX2_behind 23 = .ok (.areturn, 1) := by decide +kernel
theorem dX2_firstBitten_0 : decode cX2_firstBitten 0 = .ok (.aload_n 0, 1) := by decide +kernel
theorem dX2_firstBitten_1 : decode cX2_firstBitten 1 = .ok (.getfield 12, 3) := by decide +kernel
theorem dX2_firstBitten_4 : decode cX2_firstBitten 4 = .ok (.aload_n 0, 1) := by decide +kernel
theorem dX2_firstBitten_5 : decode cX2_firstBitten 5 = .ok (.getfield 18, 3) := by decide +kernel
theorem dX2_firstBitten_8 : decode cX2_firstBitten 8 = .ok (.invokevirtual 21, 3) := by decide +kernel
theorem dX2_firstBitten_11 : decode cX2_firstBitten 11 = .ok (.iconst 1, 1) := by decide +kernel
theorem dX2_firstBitten_12 : decode cX2_firstBitten 12 = .ok (.istore_n 2, 1) := by decide +kernel
theorem dX2_firstBitten_13 : decode cX2_firstBitten 13 = .ok (.iload_n 2, 1) := by decide +kernel
theorem dX2_firstBitten_14 : decode cX2_firstBitten 14 = .ok (.bipush 60, 2) := by decide +kernel
theorem dX2_firstBitten_16 : decode cX2_firstBitten 16 = .ok (.if_icmp .gt 29, 3) := by decide +kernel
theorem dX2_firstBitten_19 : decode cX2_firstBitten 19 = .ok (.aload_n 0, 1) := by decide +kernel
theorem dX2_firstBitten_20 : decode cX2_firstBitten 20 = .ok (.getfield 12, 3) := by decide +kernel
theorem dX2_firstBitten_23 : decode cX2_firstBitten 23 = .ok (.invokevirtual 29, 3) := by decide +kernel
theorem dX2_firstBitten_26 : decode cX2_firstBitten 26 = .ok (.aload_n 0, 1) := by decide +kernel
theorem dX2_firstBitten_27 : decode cX2_firstBitten 27 = .ok (.getfield 12, 3) := by decide +kernel
theorem dX2_firstBitten_30 : decode cX2_firstBitten 30 = .ok (.getfield 32, 3) := by decide +kernel
theorem dX2_firstBitten_33 : decode cX2_firstBitten 33 = .ok (.iload_n 1, 1) := by decide +kernel
theorem dX2_firstBitten_34 : decode cX2_firstBitten 34 = .ok (.if_icmp .ne 5, 3) := by decide +kernel
theorem dX2_firstBitten_37 : decode cX2_firstBitten 37 = .ok (.iload_n 2, 1) := by decide +kernel
theorem dX2_firstBitten_38 : decode cX2_firstBitten 38 = .ok (.ireturn, 1) := by decide +kernel
theorem dX2_firstBitten_39 : decode cX2_firstBitten 39 = .ok (.iinc 2 1, 3) := by decide +kernel
theorem dX2_firstBitten_42 : decode cX2_firstBitten 42 = .ok (.goto (-29), 3) := by decide +kernel
theorem dX2_firstBitten_45 : decode cX2_firstBitten 45 = .ok (.ldc 36, 2) := by decide +kernel
theorem dX2_firstBitten_47 : decode cX2_firstBitten 47 = .ok (.ireturn, 1) := by decide +kernel
theorem dX2_firstNameless_0 : decode cX2_firstNameless 0 = .ok (.aload_n 0, 1) := by decide +kernel
theorem dX2_firstNameless_1 : decode cX2_firstNameless 1 = .ok (.getfield 12, 3) := by decide +kernel
theorem dX2_firstNameless_4 : decode cX2_firstNameless 4 = .ok (.aload_n 0, 1) := by decide +kernel
theorem dX2_firstNameless_5 : decode cX2_firstNameless 5 = .ok (.getfield 18, 3) := by decide +kernel
theorem dX2_firstNameless_8 : decode cX2_firstNameless 8 = .ok (.invokevirtual 21, 3) := by decide +kernel
theorem dX2_firstNameless_11 : decode cX2_firstNameless 11 = .ok (.iconst 0, 1) := by decide +kernel
theorem dX2_firstNameless_12 : decode cX2_firstNameless 12 = .ok (.istore_n 2, 1) := by decide +kernel
theorem dX2_firstNameless_13 : decode cX2_firstNameless 13 = .ok (.iload_n 2, 1) := by decide +kernel
theorem dX2_firstNameless_14 : decode cX2_firstNameless 14 = .ok (.bipush 60, 2) := by decide +kernel
theorem dX2_firstNameless_16 : decode cX2_firstNameless 16 = .ok (.if_icmp .gt 31, 3) := by decide +kernel
theorem dX2_firstNameless_19 : decode cX2_firstNameless 19 = .ok (.aload_n 0, 1) := by decide +kernel
theorem dX2_firstNameless_20 : decode cX2_firstNameless 20 = .ok (.getfield 12, 3) := by decide +kernel
theorem dX2_firstNameless_23 : decode cX2_firstNameless 23 = .ok (.invokevirtual 37, 3) := by decide +kernel
theorem dX2_firstNameless_26 : decode cX2_firstNameless 26 = .ok (.iload_n 1, 1) := by decide +kernel
theorem dX2_firstNameless_27 : decode cX2_firstNameless 27 = .ok (.iand, 1) := by decide +kernel
theorem dX2_firstNameless_28 : decode cX2_firstNameless 28 = .ok (.iload_n 1, 1) := by decide +kernel
theorem dX2_firstNameless_29 : decode cX2_firstNameless 29 = .ok (.if_icmp .ne 5, 3) := by decide +kernel
theorem dX2_firstNameless_32 : decode cX2_firstNameless 32 = .ok (.iload_n 2, 1) := by decide +kernel
theorem dX2_firstNameless_33 : decode cX2_firstNameless 33 = .ok (.ireturn, 1) := by decide +kernel
theorem dX2_firstNameless_34 : decode cX2_firstNameless 34 = .ok (.aload_n 0, 1) := by decide +kernel
theorem dX2_firstNameless_35 : decode cX2_firstNameless 35 = .ok (.getfield 12, 3) := by decide +kernel
theorem dX2_firstNameless_38 : decode cX2_firstNameless 38 = .ok (.invokevirtual 29, 3) := by decide +kernel
theorem dX2_firstNameless_41 : decode cX2_firstNameless 41 = .ok (.iinc 2 1, 3) := by decide +kernel
theorem dX2_firstNameless_44 : decode cX2_firstNameless 44 = .ok (.goto (-31), 3) := by decide +kernel
theorem dX2_firstNameless_47 : decode cX2_firstNameless 47 = .ok (.ldc 36, 2) := by decide +kernel
theorem dX2_firstNameless_49 : decode cX2_firstNameless 49 = .ok (.ireturn, 1) := by decide +kernel
theorem dX2_bestPlace_0 : decode cX2_bestPlace 0 = .ok (.iconst 0, 1) := by decide +kernel
theorem dX2_bestPlace_1 : decode cX2_bestPlace 1 = .ok (.istore_n 3, 1) := by decide +kernel
theorem dX2_bestPlace_2 : decode cX2_bestPlace 2 = .ok (.iconst (-1), 1) := by decide +kernel
theorem dX2_bestPlace_3 : decode cX2_bestPlace 3 = .ok (.istore 4, 2) := by decide +kernel
theorem dX2_bestPlace_5 : decode cX2_bestPlace 5 = .ok (.iconst 0, 1) := by decide +kernel
theorem dX2_bestPlace_6 : decode cX2_bestPlace 6 = .ok (.istore 5, 2) := by decide +kernel
theorem dX2_bestPlace_8 : decode cX2_bestPlace 8 = .ok (.iload 5, 2) := by decide +kernel
theorem dX2_bestPlace_10 : decode cX2_bestPlace 10 = .ok (.bipush 10, 2) := by decide +kernel
theorem dX2_bestPlace_12 : decode cX2_bestPlace 12 = .ok (.if_icmp .ge 33, 3) := by decide +kernel
theorem dX2_bestPlace_15 : decode cX2_bestPlace 15 = .ok (.aload_n 0, 1) := by decide +kernel
theorem dX2_bestPlace_16 : decode cX2_bestPlace 16 = .ok (.iload_n 1, 1) := by decide +kernel
theorem dX2_bestPlace_17 : decode cX2_bestPlace 17 = .ok (.iload 5, 2) := by decide +kernel
theorem dX2_bestPlace_19 : decode cX2_bestPlace 19 = .ok (.iload_n 2, 1) := by decide +kernel
theorem dX2_bestPlace_20 : decode cX2_bestPlace 20 = .ok (.invokevirtual 41, 3) := by decide +kernel
theorem dX2_bestPlace_23 : decode cX2_bestPlace 23 = .ok (.istore 6, 2) := by decide +kernel
theorem dX2_bestPlace_25 : decode cX2_bestPlace 25 = .ok (.iload 6, 2) := by decide +kernel
theorem dX2_bestPlace_27 : decode cX2_bestPlace 27 = .ok (.iload 4, 2) := by decide +kernel
theorem dX2_bestPlace_29 : decode cX2_bestPlace 29 = .ok (.if_icmp .le 10, 3) := by decide +kernel
theorem dX2_bestPlace_32 : decode cX2_bestPlace 32 = .ok (.iload 6, 2) := by decide +kernel
theorem dX2_bestPlace_34 : decode cX2_bestPlace 34 = .ok (.istore 4, 2) := by decide +kernel
theorem dX2_bestPlace_36 : decode cX2_bestPlace 36 = .ok (.iload 5, 2) := by decide +kernel
theorem dX2_bestPlace_38 : decode cX2_bestPlace 38 = .ok (.istore_n 3, 1) := by decide +kernel
theorem dX2_bestPlace_39 : decode cX2_bestPlace 39 = .ok (.iinc 5 1, 3) := by decide +kernel
theorem dX2_bestPlace_42 : decode cX2_bestPlace 42 = .ok (.goto (-34), 3) := by decide +kernel
theorem dX2_bestPlace_45 : decode cX2_bestPlace 45 = .ok (.iload_n 3, 1) := by decide +kernel
theorem dX2_bestPlace_46 : decode cX2_bestPlace 46 = .ok (.ireturn, 1) := by decide +kernel
theorem dX2_lettersFrom_0 : decode cX2_lettersFrom 0 = .ok (.aload_n 0, 1) := by decide +kernel
theorem dX2_lettersFrom_1 : decode cX2_lettersFrom 1 = .ok (.getfield 12, 3) := by decide +kernel
theorem dX2_lettersFrom_4 : decode cX2_lettersFrom 4 = .ok (.aload_n 0, 1) := by decide +kernel
theorem dX2_lettersFrom_5 : decode cX2_lettersFrom 5 = .ok (.getfield 18, 3) := by decide +kernel
theorem dX2_lettersFrom_8 : decode cX2_lettersFrom 8 = .ok (.invokevirtual 21, 3) := by decide +kernel
theorem dX2_lettersFrom_11 : decode cX2_lettersFrom 11 = .ok (.aload_n 0, 1) := by decide +kernel
theorem dX2_lettersFrom_12 : decode cX2_lettersFrom 12 = .ok (.getfield 12, 3) := by decide +kernel
theorem dX2_lettersFrom_15 : decode cX2_lettersFrom 15 = .ok (.getfield 45, 3) := by decide +kernel
theorem dX2_lettersFrom_18 : decode cX2_lettersFrom 18 = .ok (.iload_n 1, 1) := by decide +kernel
theorem dX2_lettersFrom_19 : decode cX2_lettersFrom 19 = .ok (.iload_n 2, 1) := by decide +kernel
theorem dX2_lettersFrom_20 : decode cX2_lettersFrom 20 = .ok (.iastore, 1) := by decide +kernel
theorem dX2_lettersFrom_21 : decode cX2_lettersFrom 21 = .ok (.aload_n 0, 1) := by decide +kernel
theorem dX2_lettersFrom_22 : decode cX2_lettersFrom 22 = .ok (.getfield 12, 3) := by decide +kernel
theorem dX2_lettersFrom_25 : decode cX2_lettersFrom 25 = .ok (.iload_n 3, 1) := by decide +kernel
theorem dX2_lettersFrom_26 : decode cX2_lettersFrom 26 = .ok (.invokevirtual 25, 3) := by decide +kernel
theorem dX2_lettersFrom_29 : decode cX2_lettersFrom 29 = .ok (.aload_n 0, 1) := by decide +kernel
theorem dX2_lettersFrom_30 : decode cX2_lettersFrom 30 = .ok (.getfield 12, 3) := by decide +kernel
theorem dX2_lettersFrom_33 : decode cX2_lettersFrom 33 = .ok (.getfield 49, 3) := by decide +kernel
theorem dX2_lettersFrom_36 : decode cX2_lettersFrom 36 = .ok (.iload_n 1, 1) := by decide +kernel
theorem dX2_lettersFrom_37 : decode cX2_lettersFrom 37 = .ok (.iaload, 1) := by decide +kernel
theorem dX2_lettersFrom_38 : decode cX2_lettersFrom 38 = .ok (.ireturn, 1) := by decide +kernel
theorem dX2_leastDecoy_0 : decode cX2_leastDecoy 0 = .ok (.iconst 1, 1) := by decide +kernel
theorem dX2_leastDecoy_1 : decode cX2_leastDecoy 1 = .ok (.istore 4, 2) := by decide +kernel
theorem dX2_leastDecoy_3 : decode cX2_leastDecoy 3 = .ok (.iload 4, 2) := by decide +kernel
theorem dX2_leastDecoy_5 : decode cX2_leastDecoy 5 = .ok (.bipush 9, 2) := by decide +kernel
theorem dX2_leastDecoy_7 : decode cX2_leastDecoy 7 = .ok (.if_icmp .gt 63, 3) := by decide +kernel
theorem dX2_leastDecoy_10 : decode cX2_leastDecoy 10 = .ok (.aload_n 0, 1) := by decide +kernel
theorem dX2_leastDecoy_11 : decode cX2_leastDecoy 11 = .ok (.getfield 12, 3) := by decide +kernel
theorem dX2_leastDecoy_14 : decode cX2_leastDecoy 14 = .ok (.aload_n 0, 1) := by decide +kernel
theorem dX2_leastDecoy_15 : decode cX2_leastDecoy 15 = .ok (.getfield 18, 3) := by decide +kernel
theorem dX2_leastDecoy_18 : decode cX2_leastDecoy 18 = .ok (.invokevirtual 21, 3) := by decide +kernel
theorem dX2_leastDecoy_21 : decode cX2_leastDecoy 21 = .ok (.aload_n 0, 1) := by decide +kernel
theorem dX2_leastDecoy_22 : decode cX2_leastDecoy 22 = .ok (.getfield 12, 3) := by decide +kernel
theorem dX2_leastDecoy_25 : decode cX2_leastDecoy 25 = .ok (.getfield 49, 3) := by decide +kernel
theorem dX2_leastDecoy_28 : decode cX2_leastDecoy 28 = .ok (.iload_n 1, 1) := by decide +kernel
theorem dX2_leastDecoy_29 : decode cX2_leastDecoy 29 = .ok (.iload 4, 2) := by decide +kernel
theorem dX2_leastDecoy_31 : decode cX2_leastDecoy 31 = .ok (.iastore, 1) := by decide +kernel
theorem dX2_leastDecoy_32 : decode cX2_leastDecoy 32 = .ok (.aload_n 0, 1) := by decide +kernel
theorem dX2_leastDecoy_33 : decode cX2_leastDecoy 33 = .ok (.getfield 12, 3) := by decide +kernel
theorem dX2_leastDecoy_36 : decode cX2_leastDecoy 36 = .ok (.iload_n 3, 1) := by decide +kernel
theorem dX2_leastDecoy_37 : decode cX2_leastDecoy 37 = .ok (.invokevirtual 25, 3) := by decide +kernel
theorem dX2_leastDecoy_40 : decode cX2_leastDecoy 40 = .ok (.aload_n 0, 1) := by decide +kernel
theorem dX2_leastDecoy_41 : decode cX2_leastDecoy 41 = .ok (.getfield 12, 3) := by decide +kernel
theorem dX2_leastDecoy_44 : decode cX2_leastDecoy 44 = .ok (.getfield 49, 3) := by decide +kernel
theorem dX2_leastDecoy_47 : decode cX2_leastDecoy 47 = .ok (.iload_n 2, 1) := by decide +kernel
theorem dX2_leastDecoy_48 : decode cX2_leastDecoy 48 = .ok (.iaload, 1) := by decide +kernel
theorem dX2_leastDecoy_49 : decode cX2_leastDecoy 49 = .ok (.aload_n 0, 1) := by decide +kernel
theorem dX2_leastDecoy_50 : decode cX2_leastDecoy 50 = .ok (.getfield 18, 3) := by decide +kernel
theorem dX2_leastDecoy_53 : decode cX2_leastDecoy 53 = .ok (.getfield 49, 3) := by decide +kernel
theorem dX2_leastDecoy_56 : decode cX2_leastDecoy 56 = .ok (.iload_n 2, 1) := by decide +kernel
theorem dX2_leastDecoy_57 : decode cX2_leastDecoy 57 = .ok (.iaload, 1) := by decide +kernel
theorem dX2_leastDecoy_58 : decode cX2_leastDecoy 58 = .ok (.if_icmp .ne 6, 3) := by decide +kernel
theorem dX2_leastDecoy_61 : decode cX2_leastDecoy 61 = .ok (.iload 4, 2) := by decide +kernel
theorem dX2_leastDecoy_63 : decode cX2_leastDecoy 63 = .ok (.ireturn, 1) := by decide +kernel
theorem dX2_leastDecoy_64 : decode cX2_leastDecoy 64 = .ok (.iinc 4 1, 3) := by decide +kernel
theorem dX2_leastDecoy_67 : decode cX2_leastDecoy 67 = .ok (.goto (-64), 3) := by decide +kernel
theorem dX2_leastDecoy_70 : decode cX2_leastDecoy 70 = .ok (.ldc 36, 2) := by decide +kernel
theorem dX2_leastDecoy_72 : decode cX2_leastDecoy 72 = .ok (.ireturn, 1) := by decide +kernel
theorem dX2_fewestHidden_0 : decode cX2_fewestHidden 0 = .ok (.aload_n 0, 1) := by decide +kernel
theorem dX2_fewestHidden_1 : decode cX2_fewestHidden 1 = .ok (.getfield 18, 3) := by decide +kernel
theorem dX2_fewestHidden_4 : decode cX2_fewestHidden 4 = .ok (.invokevirtual 52, 3) := by decide +kernel
theorem dX2_fewestHidden_7 : decode cX2_fewestHidden 7 = .ok (.istore_n 2, 1) := by decide +kernel
theorem dX2_fewestHidden_8 : decode cX2_fewestHidden 8 = .ok (.iconst 0, 1) := by decide +kernel
theorem dX2_fewestHidden_9 : decode cX2_fewestHidden 9 = .ok (.istore_n 3, 1) := by decide +kernel
theorem dX2_fewestHidden_10 : decode cX2_fewestHidden 10 = .ok (.iload_n 3, 1) := by decide +kernel
theorem dX2_fewestHidden_11 : decode cX2_fewestHidden 11 = .ok (.aload_n 0, 1) := by decide +kernel
theorem dX2_fewestHidden_12 : decode cX2_fewestHidden 12 = .ok (.getfield 18, 3) := by decide +kernel
theorem dX2_fewestHidden_15 : decode cX2_fewestHidden 15 = .ok (.invokevirtual 52, 3) := by decide +kernel
theorem dX2_fewestHidden_18 : decode cX2_fewestHidden 18 = .ok (.if_icmp .ge 31, 3) := by decide +kernel
theorem dX2_fewestHidden_21 : decode cX2_fewestHidden 21 = .ok (.iload_n 3, 1) := by decide +kernel
theorem dX2_fewestHidden_22 : decode cX2_fewestHidden 22 = .ok (.invokestatic 55, 3) := by decide +kernel
theorem dX2_fewestHidden_25 : decode cX2_fewestHidden 25 = .ok (.iload_n 2, 1) := by decide +kernel
theorem dX2_fewestHidden_26 : decode cX2_fewestHidden 26 = .ok (.invokestatic 55, 3) := by decide +kernel
theorem dX2_fewestHidden_29 : decode cX2_fewestHidden 29 = .ok (.if_icmp .ge 14, 3) := by decide +kernel
theorem dX2_fewestHidden_32 : decode cX2_fewestHidden 32 = .ok (.aload_n 0, 1) := by decide +kernel
theorem dX2_fewestHidden_33 : decode cX2_fewestHidden 33 = .ok (.iload_n 3, 1) := by decide +kernel
theorem dX2_fewestHidden_34 : decode cX2_fewestHidden 34 = .ok (.iload_n 1, 1) := by decide +kernel
theorem dX2_fewestHidden_35 : decode cX2_fewestHidden 35 = .ok (.invokevirtual 61, 3) := by decide +kernel
theorem dX2_fewestHidden_38 : decode cX2_fewestHidden 38 = .ok (.ifCond .eq 5, 3) := by decide +kernel
theorem dX2_fewestHidden_41 : decode cX2_fewestHidden 41 = .ok (.iload_n 3, 1) := by decide +kernel
theorem dX2_fewestHidden_42 : decode cX2_fewestHidden 42 = .ok (.istore_n 2, 1) := by decide +kernel
theorem dX2_fewestHidden_43 : decode cX2_fewestHidden 43 = .ok (.iinc 3 1, 3) := by decide +kernel
theorem dX2_fewestHidden_46 : decode cX2_fewestHidden 46 = .ok (.goto (-36), 3) := by decide +kernel
theorem dX2_fewestHidden_49 : decode cX2_fewestHidden 49 = .ok (.iload_n 2, 1) := by decide +kernel
theorem dX2_fewestHidden_50 : decode cX2_fewestHidden 50 = .ok (.ireturn, 1) := by decide +kernel
theorem dX2_savesAll_0 : decode cX2_savesAll 0 = .ok (.aload_n 0, 1) := by decide +kernel
theorem dX2_savesAll_1 : decode cX2_savesAll 1 = .ok (.getfield 12, 3) := by decide +kernel
theorem dX2_savesAll_4 : decode cX2_savesAll 4 = .ok (.aload_n 0, 1) := by decide +kernel
theorem dX2_savesAll_5 : decode cX2_savesAll 5 = .ok (.getfield 18, 3) := by decide +kernel
theorem dX2_savesAll_8 : decode cX2_savesAll 8 = .ok (.invokevirtual 21, 3) := by decide +kernel
theorem dX2_savesAll_11 : decode cX2_savesAll 11 = .ok (.aload_n 0, 1) := by decide +kernel
theorem dX2_savesAll_12 : decode cX2_savesAll 12 = .ok (.getfield 12, 3) := by decide +kernel
theorem dX2_savesAll_15 : decode cX2_savesAll 15 = .ok (.iload_n 1, 1) := by decide +kernel
theorem dX2_savesAll_16 : decode cX2_savesAll 16 = .ok (.putfield 65, 3) := by decide +kernel
theorem dX2_savesAll_19 : decode cX2_savesAll 19 = .ok (.aload_n 0, 1) := by decide +kernel
theorem dX2_savesAll_20 : decode cX2_savesAll 20 = .ok (.getfield 12, 3) := by decide +kernel
theorem dX2_savesAll_23 : decode cX2_savesAll 23 = .ok (.iload_n 2, 1) := by decide +kernel
theorem dX2_savesAll_24 : decode cX2_savesAll 24 = .ok (.invokevirtual 25, 3) := by decide +kernel
theorem dX2_savesAll_27 : decode cX2_savesAll 27 = .ok (.iconst 0, 1) := by decide +kernel
theorem dX2_savesAll_28 : decode cX2_savesAll 28 = .ok (.istore_n 3, 1) := by decide +kernel
theorem dX2_savesAll_29 : decode cX2_savesAll 29 = .ok (.iload_n 3, 1) := by decide +kernel
theorem dX2_savesAll_30 : decode cX2_savesAll 30 = .ok (.aload_n 0, 1) := by decide +kernel
theorem dX2_savesAll_31 : decode cX2_savesAll 31 = .ok (.getfield 12, 3) := by decide +kernel
theorem dX2_savesAll_34 : decode cX2_savesAll 34 = .ok (.getfield 68, 3) := by decide +kernel
theorem dX2_savesAll_37 : decode cX2_savesAll 37 = .ok (.if_icmp .ge 68, 3) := by decide +kernel
theorem dX2_savesAll_40 : decode cX2_savesAll 40 = .ok (.aload_n 0, 1) := by decide +kernel
theorem dX2_savesAll_41 : decode cX2_savesAll 41 = .ok (.getfield 12, 3) := by decide +kernel
theorem dX2_savesAll_44 : decode cX2_savesAll 44 = .ok (.iload_n 3, 1) := by decide +kernel
theorem dX2_savesAll_45 : decode cX2_savesAll 45 = .ok (.invokevirtual 71, 3) := by decide +kernel
theorem dX2_savesAll_48 : decode cX2_savesAll 48 = .ok (.ifCond .ne 16, 3) := by decide +kernel
theorem dX2_savesAll_51 : decode cX2_savesAll 51 = .ok (.aload_n 0, 1) := by decide +kernel
theorem dX2_savesAll_52 : decode cX2_savesAll 52 = .ok (.getfield 12, 3) := by decide +kernel
theorem dX2_savesAll_55 : decode cX2_savesAll 55 = .ok (.getfield 75, 3) := by decide +kernel
theorem dX2_savesAll_58 : decode cX2_savesAll 58 = .ok (.iload_n 3, 1) := by decide +kernel
theorem dX2_savesAll_59 : decode cX2_savesAll 59 = .ok (.iaload, 1) := by decide +kernel
theorem dX2_savesAll_60 : decode cX2_savesAll 60 = .ok (.iconst 5, 1) := by decide +kernel
theorem dX2_savesAll_61 : decode cX2_savesAll 61 = .ok (.if_icmp .ne 7, 3) := by decide +kernel
theorem dX2_savesAll_64 : decode cX2_savesAll 64 = .ok (.iconst 1, 1) := by decide +kernel
theorem dX2_savesAll_65 : decode cX2_savesAll 65 = .ok (.goto 4, 3) := by decide +kernel
theorem dX2_savesAll_68 : decode cX2_savesAll 68 = .ok (.iconst 0, 1) := by decide +kernel
theorem dX2_savesAll_69 : decode cX2_savesAll 69 = .ok (.istore 4, 2) := by decide +kernel
theorem dX2_savesAll_71 : decode cX2_savesAll 71 = .ok (.iload 4, 2) := by decide +kernel
theorem dX2_savesAll_73 : decode cX2_savesAll 73 = .ok (.ifCond .ne 26, 3) := by decide +kernel
theorem dX2_savesAll_76 : decode cX2_savesAll 76 = .ok (.aload_n 0, 1) := by decide +kernel
theorem dX2_savesAll_77 : decode cX2_savesAll 77 = .ok (.getfield 12, 3) := by decide +kernel
theorem dX2_savesAll_80 : decode cX2_savesAll 80 = .ok (.getfield 49, 3) := by decide +kernel
theorem dX2_savesAll_83 : decode cX2_savesAll 83 = .ok (.iload_n 3, 1) := by decide +kernel
theorem dX2_savesAll_84 : decode cX2_savesAll 84 = .ok (.iaload, 1) := by decide +kernel
theorem dX2_savesAll_85 : decode cX2_savesAll 85 = .ok (.aload_n 0, 1) := by decide +kernel
theorem dX2_savesAll_86 : decode cX2_savesAll 86 = .ok (.getfield 18, 3) := by decide +kernel
theorem dX2_savesAll_89 : decode cX2_savesAll 89 = .ok (.getfield 49, 3) := by decide +kernel
theorem dX2_savesAll_92 : decode cX2_savesAll 92 = .ok (.iload_n 3, 1) := by decide +kernel
theorem dX2_savesAll_93 : decode cX2_savesAll 93 = .ok (.iaload, 1) := by decide +kernel
theorem dX2_savesAll_94 : decode cX2_savesAll 94 = .ok (.if_icmp .eq 5, 3) := by decide +kernel
theorem dX2_savesAll_97 : decode cX2_savesAll 97 = .ok (.iconst 0, 1) := by decide +kernel
theorem dX2_savesAll_98 : decode cX2_savesAll 98 = .ok (.ireturn, 1) := by decide +kernel
theorem dX2_savesAll_99 : decode cX2_savesAll 99 = .ok (.iinc 3 1, 3) := by decide +kernel
theorem dX2_savesAll_102 : decode cX2_savesAll 102 = .ok (.goto (-73), 3) := by decide +kernel
theorem dX2_savesAll_105 : decode cX2_savesAll 105 = .ok (.iconst 1, 1) := by decide +kernel
theorem dX2_savesAll_106 : decode cX2_savesAll 106 = .ok (.ireturn, 1) := by decide +kernel
theorem dX2_isSetOf_0 : decode cX2_isSetOf 0 = .ok (.iload_n 1, 1) := by decide +kernel
theorem dX2_isSetOf_1 : decode cX2_isSetOf 1 = .ok (.aload_n 0, 1) := by decide +kernel
theorem dX2_isSetOf_2 : decode cX2_isSetOf 2 = .ok (.getfield 18, 3) := by decide +kernel
theorem dX2_isSetOf_5 : decode cX2_isSetOf 5 = .ok (.invokevirtual 37, 3) := by decide +kernel
theorem dX2_isSetOf_8 : decode cX2_isSetOf 8 = .ok (.iand, 1) := by decide +kernel
theorem dX2_isSetOf_9 : decode cX2_isSetOf 9 = .ok (.ifCond .eq 5, 3) := by decide +kernel
theorem dX2_isSetOf_12 : decode cX2_isSetOf 12 = .ok (.iconst 0, 1) := by decide +kernel
theorem dX2_isSetOf_13 : decode cX2_isSetOf 13 = .ok (.ireturn, 1) := by decide +kernel
theorem dX2_isSetOf_14 : decode cX2_isSetOf 14 = .ok (.iconst 0, 1) := by decide +kernel
theorem dX2_isSetOf_15 : decode cX2_isSetOf 15 = .ok (.istore_n 3, 1) := by decide +kernel
theorem dX2_isSetOf_16 : decode cX2_isSetOf 16 = .ok (.iconst 0, 1) := by decide +kernel
theorem dX2_isSetOf_17 : decode cX2_isSetOf 17 = .ok (.istore 4, 2) := by decide +kernel
theorem dX2_isSetOf_19 : decode cX2_isSetOf 19 = .ok (.iload 4, 2) := by decide +kernel
theorem dX2_isSetOf_21 : decode cX2_isSetOf 21 = .ok (.aload_n 0, 1) := by decide +kernel
theorem dX2_isSetOf_22 : decode cX2_isSetOf 22 = .ok (.getfield 18, 3) := by decide +kernel
theorem dX2_isSetOf_25 : decode cX2_isSetOf 25 = .ok (.getfield 68, 3) := by decide +kernel
theorem dX2_isSetOf_28 : decode cX2_isSetOf 28 = .ok (.if_icmp .ge 31, 3) := by decide +kernel
theorem dX2_isSetOf_31 : decode cX2_isSetOf 31 = .ok (.iload_n 1, 1) := by decide +kernel
theorem dX2_isSetOf_32 : decode cX2_isSetOf 32 = .ok (.iload 4, 2) := by decide +kernel
theorem dX2_isSetOf_34 : decode cX2_isSetOf 34 = .ok (.ishr, 1) := by decide +kernel
theorem dX2_isSetOf_35 : decode cX2_isSetOf 35 = .ok (.iconst 1, 1) := by decide +kernel
theorem dX2_isSetOf_36 : decode cX2_isSetOf 36 = .ok (.iand, 1) := by decide +kernel
theorem dX2_isSetOf_37 : decode cX2_isSetOf 37 = .ok (.ifCond .eq 16, 3) := by decide +kernel
theorem dX2_isSetOf_40 : decode cX2_isSetOf 40 = .ok (.iload_n 3, 1) := by decide +kernel
theorem dX2_isSetOf_41 : decode cX2_isSetOf 41 = .ok (.aload_n 0, 1) := by decide +kernel
theorem dX2_isSetOf_42 : decode cX2_isSetOf 42 = .ok (.getfield 18, 3) := by decide +kernel
theorem dX2_isSetOf_45 : decode cX2_isSetOf 45 = .ok (.getfield 49, 3) := by decide +kernel
theorem dX2_isSetOf_48 : decode cX2_isSetOf 48 = .ok (.iload 4, 2) := by decide +kernel
theorem dX2_isSetOf_50 : decode cX2_isSetOf 50 = .ok (.iaload, 1) := by decide +kernel
theorem dX2_isSetOf_51 : decode cX2_isSetOf 51 = .ok (.iadd, 1) := by decide +kernel
theorem dX2_isSetOf_52 : decode cX2_isSetOf 52 = .ok (.istore_n 3, 1) := by decide +kernel
theorem dX2_isSetOf_53 : decode cX2_isSetOf 53 = .ok (.iinc 4 1, 3) := by decide +kernel
theorem dX2_isSetOf_56 : decode cX2_isSetOf 56 = .ok (.goto (-37), 3) := by decide +kernel
theorem dX2_isSetOf_59 : decode cX2_isSetOf 59 = .ok (.iload_n 3, 1) := by decide +kernel
theorem dX2_isSetOf_60 : decode cX2_isSetOf 60 = .ok (.iload_n 2, 1) := by decide +kernel
theorem dX2_isSetOf_61 : decode cX2_isSetOf 61 = .ok (.if_icmp .ne 7, 3) := by decide +kernel
theorem dX2_isSetOf_64 : decode cX2_isSetOf 64 = .ok (.iconst 1, 1) := by decide +kernel
theorem dX2_isSetOf_65 : decode cX2_isSetOf 65 = .ok (.goto 4, 3) := by decide +kernel
theorem dX2_isSetOf_68 : decode cX2_isSetOf 68 = .ok (.iconst 0, 1) := by decide +kernel
theorem dX2_isSetOf_69 : decode cX2_isSetOf 69 = .ok (.ireturn, 1) := by decide +kernel
theorem dX2_howManySets_0 : decode cX2_howManySets 0 = .ok (.iconst 0, 1) := by decide +kernel
theorem dX2_howManySets_1 : decode cX2_howManySets 1 = .ok (.istore_n 2, 1) := by decide +kernel
theorem dX2_howManySets_2 : decode cX2_howManySets 2 = .ok (.iconst 0, 1) := by decide +kernel
theorem dX2_howManySets_3 : decode cX2_howManySets 3 = .ok (.istore_n 3, 1) := by decide +kernel
theorem dX2_howManySets_4 : decode cX2_howManySets 4 = .ok (.iload_n 3, 1) := by decide +kernel
theorem dX2_howManySets_5 : decode cX2_howManySets 5 = .ok (.aload_n 0, 1) := by decide +kernel
theorem dX2_howManySets_6 : decode cX2_howManySets 6 = .ok (.getfield 18, 3) := by decide +kernel
theorem dX2_howManySets_9 : decode cX2_howManySets 9 = .ok (.invokevirtual 52, 3) := by decide +kernel
theorem dX2_howManySets_12 : decode cX2_howManySets 12 = .ok (.if_icmp .gt 21, 3) := by decide +kernel
theorem dX2_howManySets_15 : decode cX2_howManySets 15 = .ok (.aload_n 0, 1) := by decide +kernel
theorem dX2_howManySets_16 : decode cX2_howManySets 16 = .ok (.iload_n 3, 1) := by decide +kernel
theorem dX2_howManySets_17 : decode cX2_howManySets 17 = .ok (.iload_n 1, 1) := by decide +kernel
theorem dX2_howManySets_18 : decode cX2_howManySets 18 = .ok (.invokevirtual 78, 3) := by decide +kernel
theorem dX2_howManySets_21 : decode cX2_howManySets 21 = .ok (.ifCond .eq 6, 3) := by decide +kernel
theorem dX2_howManySets_24 : decode cX2_howManySets 24 = .ok (.iinc 2 1, 3) := by decide +kernel
theorem dX2_howManySets_27 : decode cX2_howManySets 27 = .ok (.iinc 3 1, 3) := by decide +kernel
theorem dX2_howManySets_30 : decode cX2_howManySets 30 = .ok (.goto (-26), 3) := by decide +kernel
theorem dX2_howManySets_33 : decode cX2_howManySets 33 = .ok (.iload_n 2, 1) := by decide +kernel
theorem dX2_howManySets_34 : decode cX2_howManySets 34 = .ok (.ireturn, 1) := by decide +kernel
theorem dX2_inAllSets_0 : decode cX2_inAllSets 0 = .ok (.aload_n 0, 1) := by decide +kernel
theorem dX2_inAllSets_1 : decode cX2_inAllSets 1 = .ok (.getfield 18, 3) := by decide +kernel
theorem dX2_inAllSets_4 : decode cX2_inAllSets 4 = .ok (.invokevirtual 52, 3) := by decide +kernel
theorem dX2_inAllSets_7 : decode cX2_inAllSets 7 = .ok (.istore_n 2, 1) := by decide +kernel
theorem dX2_inAllSets_8 : decode cX2_inAllSets 8 = .ok (.iconst 0, 1) := by decide +kernel
theorem dX2_inAllSets_9 : decode cX2_inAllSets 9 = .ok (.istore_n 3, 1) := by decide +kernel
theorem dX2_inAllSets_10 : decode cX2_inAllSets 10 = .ok (.iconst 0, 1) := by decide +kernel
theorem dX2_inAllSets_11 : decode cX2_inAllSets 11 = .ok (.istore 4, 2) := by decide +kernel
theorem dX2_inAllSets_13 : decode cX2_inAllSets 13 = .ok (.iload 4, 2) := by decide +kernel
theorem dX2_inAllSets_15 : decode cX2_inAllSets 15 = .ok (.aload_n 0, 1) := by decide +kernel
theorem dX2_inAllSets_16 : decode cX2_inAllSets 16 = .ok (.getfield 18, 3) := by decide +kernel
theorem dX2_inAllSets_19 : decode cX2_inAllSets 19 = .ok (.invokevirtual 52, 3) := by decide +kernel
theorem dX2_inAllSets_22 : decode cX2_inAllSets 22 = .ok (.if_icmp .gt 26, 3) := by decide +kernel
theorem dX2_inAllSets_25 : decode cX2_inAllSets 25 = .ok (.aload_n 0, 1) := by decide +kernel
theorem dX2_inAllSets_26 : decode cX2_inAllSets 26 = .ok (.iload 4, 2) := by decide +kernel
theorem dX2_inAllSets_28 : decode cX2_inAllSets 28 = .ok (.iload_n 1, 1) := by decide +kernel
theorem dX2_inAllSets_29 : decode cX2_inAllSets 29 = .ok (.invokevirtual 78, 3) := by decide +kernel
theorem dX2_inAllSets_32 : decode cX2_inAllSets 32 = .ok (.ifCond .eq 10, 3) := by decide +kernel
theorem dX2_inAllSets_35 : decode cX2_inAllSets 35 = .ok (.iload_n 2, 1) := by decide +kernel
theorem dX2_inAllSets_36 : decode cX2_inAllSets 36 = .ok (.iload 4, 2) := by decide +kernel
theorem dX2_inAllSets_38 : decode cX2_inAllSets 38 = .ok (.iand, 1) := by decide +kernel
theorem dX2_inAllSets_39 : decode cX2_inAllSets 39 = .ok (.istore_n 2, 1) := by decide +kernel
theorem dX2_inAllSets_40 : decode cX2_inAllSets 40 = .ok (.iconst 1, 1) := by decide +kernel
theorem dX2_inAllSets_41 : decode cX2_inAllSets 41 = .ok (.istore_n 3, 1) := by decide +kernel
theorem dX2_inAllSets_42 : decode cX2_inAllSets 42 = .ok (.iinc 4 1, 3) := by decide +kernel
theorem dX2_inAllSets_45 : decode cX2_inAllSets 45 = .ok (.goto (-32), 3) := by decide +kernel
theorem dX2_inAllSets_48 : decode cX2_inAllSets 48 = .ok (.iload_n 3, 1) := by decide +kernel
theorem dX2_inAllSets_49 : decode cX2_inAllSets 49 = .ok (.ifCond .eq 7, 3) := by decide +kernel
theorem dX2_inAllSets_52 : decode cX2_inAllSets 52 = .ok (.iload_n 2, 1) := by decide +kernel
theorem dX2_inAllSets_53 : decode cX2_inAllSets 53 = .ok (.goto 4, 3) := by decide +kernel
theorem dX2_inAllSets_56 : decode cX2_inAllSets 56 = .ok (.iconst 0, 1) := by decide +kernel
theorem dX2_inAllSets_57 : decode cX2_inAllSets 57 = .ok (.ireturn, 1) := by decide +kernel
theorem dX2_inAnySet_0 : decode cX2_inAnySet 0 = .ok (.iconst 0, 1) := by decide +kernel
theorem dX2_inAnySet_1 : decode cX2_inAnySet 1 = .ok (.istore_n 2, 1) := by decide +kernel
theorem dX2_inAnySet_2 : decode cX2_inAnySet 2 = .ok (.iconst 0, 1) := by decide +kernel
theorem dX2_inAnySet_3 : decode cX2_inAnySet 3 = .ok (.istore_n 3, 1) := by decide +kernel
theorem dX2_inAnySet_4 : decode cX2_inAnySet 4 = .ok (.iload_n 3, 1) := by decide +kernel
theorem dX2_inAnySet_5 : decode cX2_inAnySet 5 = .ok (.aload_n 0, 1) := by decide +kernel
theorem dX2_inAnySet_6 : decode cX2_inAnySet 6 = .ok (.getfield 18, 3) := by decide +kernel
theorem dX2_inAnySet_9 : decode cX2_inAnySet 9 = .ok (.invokevirtual 52, 3) := by decide +kernel
theorem dX2_inAnySet_12 : decode cX2_inAnySet 12 = .ok (.if_icmp .gt 22, 3) := by decide +kernel
theorem dX2_inAnySet_15 : decode cX2_inAnySet 15 = .ok (.aload_n 0, 1) := by decide +kernel
theorem dX2_inAnySet_16 : decode cX2_inAnySet 16 = .ok (.iload_n 3, 1) := by decide +kernel
theorem dX2_inAnySet_17 : decode cX2_inAnySet 17 = .ok (.iload_n 1, 1) := by decide +kernel
theorem dX2_inAnySet_18 : decode cX2_inAnySet 18 = .ok (.invokevirtual 78, 3) := by decide +kernel
theorem dX2_inAnySet_21 : decode cX2_inAnySet 21 = .ok (.ifCond .eq 7, 3) := by decide +kernel
theorem dX2_inAnySet_24 : decode cX2_inAnySet 24 = .ok (.iload_n 2, 1) := by decide +kernel
theorem dX2_inAnySet_25 : decode cX2_inAnySet 25 = .ok (.iload_n 3, 1) := by decide +kernel
theorem dX2_inAnySet_26 : decode cX2_inAnySet 26 = .ok (.ior, 1) := by decide +kernel
theorem dX2_inAnySet_27 : decode cX2_inAnySet 27 = .ok (.istore_n 2, 1) := by decide +kernel
theorem dX2_inAnySet_28 : decode cX2_inAnySet 28 = .ok (.iinc 3 1, 3) := by decide +kernel
theorem dX2_inAnySet_31 : decode cX2_inAnySet 31 = .ok (.goto (-27), 3) := by decide +kernel
theorem dX2_inAnySet_34 : decode cX2_inAnySet 34 = .ok (.iload_n 2, 1) := by decide +kernel
theorem dX2_inAnySet_35 : decode cX2_inAnySet 35 = .ok (.ireturn, 1) := by decide +kernel
theorem dX2_inkOf_0 : decode cX2_inkOf 0 = .ok (.aload_n 0, 1) := by decide +kernel
theorem dX2_inkOf_1 : decode cX2_inkOf 1 = .ok (.getfield 18, 3) := by decide +kernel
theorem dX2_inkOf_4 : decode cX2_inkOf 4 = .ok (.invokevirtual 81, 3) := by decide +kernel
theorem dX2_inkOf_7 : decode cX2_inkOf 7 = .ok (.istore_n 3, 1) := by decide +kernel
theorem dX2_inkOf_8 : decode cX2_inkOf 8 = .ok (.iload_n 3, 1) := by decide +kernel
theorem dX2_inkOf_9 : decode cX2_inkOf 9 = .ok (.ifCond .eq 15, 3) := by decide +kernel
theorem dX2_inkOf_12 : decode cX2_inkOf 12 = .ok (.aload_n 0, 1) := by decide +kernel
theorem dX2_inkOf_13 : decode cX2_inkOf 13 = .ok (.getfield 18, 3) := by decide +kernel
theorem dX2_inkOf_16 : decode cX2_inkOf 16 = .ok (.getfield 49, 3) := by decide +kernel
theorem dX2_inkOf_19 : decode cX2_inkOf 19 = .ok (.iload_n 1, 1) := by decide +kernel
theorem dX2_inkOf_20 : decode cX2_inkOf 20 = .ok (.iaload, 1) := by decide +kernel
theorem dX2_inkOf_21 : decode cX2_inkOf 21 = .ok (.ifCond .ne 5, 3) := by decide +kernel
theorem dX2_inkOf_24 : decode cX2_inkOf 24 = .ok (.iconst 0, 1) := by decide +kernel
theorem dX2_inkOf_25 : decode cX2_inkOf 25 = .ok (.ireturn, 1) := by decide +kernel
theorem dX2_inkOf_26 : decode cX2_inkOf 26 = .ok (.iload_n 2, 1) := by decide +kernel
theorem dX2_inkOf_27 : decode cX2_inkOf 27 = .ok (.istore 4, 2) := by decide +kernel
theorem dX2_inkOf_29 : decode cX2_inkOf 29 = .ok (.iconst 0, 1) := by decide +kernel
theorem dX2_inkOf_30 : decode cX2_inkOf 30 = .ok (.istore 5, 2) := by decide +kernel
theorem dX2_inkOf_32 : decode cX2_inkOf 32 = .ok (.iconst 0, 1) := by decide +kernel
theorem dX2_inkOf_33 : decode cX2_inkOf 33 = .ok (.istore 6, 2) := by decide +kernel
theorem dX2_inkOf_35 : decode cX2_inkOf 35 = .ok (.iload 6, 2) := by decide +kernel
theorem dX2_inkOf_37 : decode cX2_inkOf 37 = .ok (.aload_n 0, 1) := by decide +kernel
theorem dX2_inkOf_38 : decode cX2_inkOf 38 = .ok (.getfield 18, 3) := by decide +kernel
theorem dX2_inkOf_41 : decode cX2_inkOf 41 = .ok (.getfield 68, 3) := by decide +kernel
theorem dX2_inkOf_44 : decode cX2_inkOf 44 = .ok (.if_icmp .ge 50, 3) := by decide +kernel
theorem dX2_inkOf_47 : decode cX2_inkOf 47 = .ok (.iload 4, 2) := by decide +kernel
theorem dX2_inkOf_49 : decode cX2_inkOf 49 = .ok (.iload_n 2, 1) := by decide +kernel
theorem dX2_inkOf_50 : decode cX2_inkOf 50 = .ok (.aload_n 0, 1) := by decide +kernel
theorem dX2_inkOf_51 : decode cX2_inkOf 51 = .ok (.getfield 18, 3) := by decide +kernel
theorem dX2_inkOf_54 : decode cX2_inkOf 54 = .ok (.getfield 49, 3) := by decide +kernel
theorem dX2_inkOf_57 : decode cX2_inkOf 57 = .ok (.iload 6, 2) := by decide +kernel
theorem dX2_inkOf_59 : decode cX2_inkOf 59 = .ok (.iaload, 1) := by decide +kernel
theorem dX2_inkOf_60 : decode cX2_inkOf 60 = .ok (.imul, 1) := by decide +kernel
theorem dX2_inkOf_61 : decode cX2_inkOf 61 = .ok (.iload_n 3, 1) := by decide +kernel
theorem dX2_inkOf_62 : decode cX2_inkOf 62 = .ok (.idiv, 1) := by decide +kernel
theorem dX2_inkOf_63 : decode cX2_inkOf 63 = .ok (.isub, 1) := by decide +kernel
theorem dX2_inkOf_64 : decode cX2_inkOf 64 = .ok (.istore 4, 2) := by decide +kernel
theorem dX2_inkOf_66 : decode cX2_inkOf 66 = .ok (.iload 6, 2) := by decide +kernel
theorem dX2_inkOf_68 : decode cX2_inkOf 68 = .ok (.iload_n 1, 1) := by decide +kernel
theorem dX2_inkOf_69 : decode cX2_inkOf 69 = .ok (.if_icmp .ge 19, 3) := by decide +kernel
theorem dX2_inkOf_72 : decode cX2_inkOf 72 = .ok (.aload_n 0, 1) := by decide +kernel
theorem dX2_inkOf_73 : decode cX2_inkOf 73 = .ok (.getfield 18, 3) := by decide +kernel
theorem dX2_inkOf_76 : decode cX2_inkOf 76 = .ok (.getfield 49, 3) := by decide +kernel
theorem dX2_inkOf_79 : decode cX2_inkOf 79 = .ok (.iload 6, 2) := by decide +kernel
theorem dX2_inkOf_81 : decode cX2_inkOf 81 = .ok (.iaload, 1) := by decide +kernel
theorem dX2_inkOf_82 : decode cX2_inkOf 82 = .ok (.ifCond .le 6, 3) := by decide +kernel
theorem dX2_inkOf_85 : decode cX2_inkOf 85 = .ok (.iinc 5 1, 3) := by decide +kernel
theorem dX2_inkOf_88 : decode cX2_inkOf 88 = .ok (.iinc 6 1, 3) := by decide +kernel
theorem dX2_inkOf_91 : decode cX2_inkOf 91 = .ok (.goto (-56), 3) := by decide +kernel
theorem dX2_inkOf_94 : decode cX2_inkOf 94 = .ok (.iload_n 2, 1) := by decide +kernel
theorem dX2_inkOf_95 : decode cX2_inkOf 95 = .ok (.aload_n 0, 1) := by decide +kernel
theorem dX2_inkOf_96 : decode cX2_inkOf 96 = .ok (.getfield 18, 3) := by decide +kernel
theorem dX2_inkOf_99 : decode cX2_inkOf 99 = .ok (.getfield 49, 3) := by decide +kernel
theorem dX2_inkOf_102 : decode cX2_inkOf 102 = .ok (.iload_n 1, 1) := by decide +kernel
theorem dX2_inkOf_103 : decode cX2_inkOf 103 = .ok (.iaload, 1) := by decide +kernel
theorem dX2_inkOf_104 : decode cX2_inkOf 104 = .ok (.imul, 1) := by decide +kernel
theorem dX2_inkOf_105 : decode cX2_inkOf 105 = .ok (.iload_n 3, 1) := by decide +kernel
theorem dX2_inkOf_106 : decode cX2_inkOf 106 = .ok (.idiv, 1) := by decide +kernel
theorem dX2_inkOf_107 : decode cX2_inkOf 107 = .ok (.iload 5, 2) := by decide +kernel
theorem dX2_inkOf_109 : decode cX2_inkOf 109 = .ok (.iload 4, 2) := by decide +kernel
theorem dX2_inkOf_111 : decode cX2_inkOf 111 = .ok (.if_icmp .ge 7, 3) := by decide +kernel
theorem dX2_inkOf_114 : decode cX2_inkOf 114 = .ok (.iconst 1, 1) := by decide +kernel
theorem dX2_inkOf_115 : decode cX2_inkOf 115 = .ok (.goto 4, 3) := by decide +kernel
theorem dX2_inkOf_118 : decode cX2_inkOf 118 = .ok (.iconst 0, 1) := by decide +kernel
theorem dX2_inkOf_119 : decode cX2_inkOf 119 = .ok (.iadd, 1) := by decide +kernel
theorem dX2_inkOf_120 : decode cX2_inkOf 120 = .ok (.ireturn, 1) := by decide +kernel
theorem dX2_bestOf_0 : decode cX2_bestOf 0 = .ok (.iload_n 1, 1) := by decide +kernel
theorem dX2_bestOf_1 : decode cX2_bestOf 1 = .ok (.iload_n 2, 1) := by decide +kernel
theorem dX2_bestOf_2 : decode cX2_bestOf 2 = .ok (.if_icmp .ge 8, 3) := by decide +kernel
theorem dX2_bestOf_5 : decode cX2_bestOf 5 = .ok (.iload_n 1, 1) := by decide +kernel
theorem dX2_bestOf_6 : decode cX2_bestOf 6 = .ok (.iconst 4, 1) := by decide +kernel
theorem dX2_bestOf_7 : decode cX2_bestOf 7 = .ok (.if_icmp .lt 13, 3) := by decide +kernel
theorem dX2_bestOf_10 : decode cX2_bestOf 10 = .ok (.aload_n 0, 1) := by decide +kernel
theorem dX2_bestOf_11 : decode cX2_bestOf 11 = .ok (.iload_n 3, 1) := by decide +kernel
theorem dX2_bestOf_12 : decode cX2_bestOf 12 = .ok (.iload 4, 2) := by decide +kernel
theorem dX2_bestOf_14 : decode cX2_bestOf 14 = .ok (.iload 5, 2) := by decide +kernel
theorem dX2_bestOf_16 : decode cX2_bestOf 16 = .ok (.invokevirtual 84, 3) := by decide +kernel
theorem dX2_bestOf_19 : decode cX2_bestOf 19 = .ok (.ireturn, 1) := by decide +kernel
theorem dX2_bestOf_20 : decode cX2_bestOf 20 = .ok (.iload_n 1, 1) := by decide +kernel
theorem dX2_bestOf_21 : decode cX2_bestOf 21 = .ok (.iconst 2, 1) := by decide +kernel
theorem dX2_bestOf_22 : decode cX2_bestOf 22 = .ok (.irem, 1) := by decide +kernel
theorem dX2_bestOf_23 : decode cX2_bestOf 23 = .ok (.ifCond .ne 7, 3) := by decide +kernel
theorem dX2_bestOf_26 : decode cX2_bestOf 26 = .ok (.iconst 1, 1) := by decide +kernel
theorem dX2_bestOf_27 : decode cX2_bestOf 27 = .ok (.goto 4, 3) := by decide +kernel
theorem dX2_bestOf_30 : decode cX2_bestOf 30 = .ok (.iconst 0, 1) := by decide +kernel
theorem dX2_bestOf_31 : decode cX2_bestOf 31 = .ok (.istore 6, 2) := by decide +kernel
theorem dX2_bestOf_33 : decode cX2_bestOf 33 = .ok (.iload 6, 2) := by decide +kernel
theorem dX2_bestOf_35 : decode cX2_bestOf 35 = .ok (.ifCond .eq 8, 3) := by decide +kernel
theorem dX2_bestOf_38 : decode cX2_bestOf 38 = .ok (.bipush (-9), 2) := by decide +kernel
theorem dX2_bestOf_40 : decode cX2_bestOf 40 = .ok (.goto 5, 3) := by decide +kernel
theorem dX2_bestOf_43 : decode cX2_bestOf 43 = .ok (.bipush 9, 2) := by decide +kernel
theorem dX2_bestOf_45 : decode cX2_bestOf 45 = .ok (.istore 7, 2) := by decide +kernel
theorem dX2_bestOf_47 : decode cX2_bestOf 47 = .ok (.iconst (-1), 1) := by decide +kernel
theorem dX2_bestOf_48 : decode cX2_bestOf 48 = .ok (.istore 8, 2) := by decide +kernel
theorem dX2_bestOf_50 : decode cX2_bestOf 50 = .ok (.iload 8, 2) := by decide +kernel
theorem dX2_bestOf_52 : decode cX2_bestOf 52 = .ok (.iconst 1, 1) := by decide +kernel
theorem dX2_bestOf_53 : decode cX2_bestOf 53 = .ok (.if_icmp .gt 98, 3) := by decide +kernel
theorem dX2_bestOf_56 : decode cX2_bestOf 56 = .ok (.iload 6, 2) := by decide +kernel
theorem dX2_bestOf_58 : decode cX2_bestOf 58 = .ok (.ifCond .eq 11, 3) := by decide +kernel
theorem dX2_bestOf_61 : decode cX2_bestOf 61 = .ok (.iload 4, 2) := by decide +kernel
theorem dX2_bestOf_63 : decode cX2_bestOf 63 = .ok (.iload 8, 2) := by decide +kernel
theorem dX2_bestOf_65 : decode cX2_bestOf 65 = .ok (.iadd, 1) := by decide +kernel
theorem dX2_bestOf_66 : decode cX2_bestOf 66 = .ok (.goto 5, 3) := by decide +kernel
theorem dX2_bestOf_69 : decode cX2_bestOf 69 = .ok (.iload 4, 2) := by decide +kernel
theorem dX2_bestOf_71 : decode cX2_bestOf 71 = .ok (.istore 9, 2) := by decide +kernel
theorem dX2_bestOf_73 : decode cX2_bestOf 73 = .ok (.iload 6, 2) := by decide +kernel
theorem dX2_bestOf_75 : decode cX2_bestOf 75 = .ok (.ifCond .eq 8, 3) := by decide +kernel
theorem dX2_bestOf_78 : decode cX2_bestOf 78 = .ok (.iload 5, 2) := by decide +kernel
theorem dX2_bestOf_80 : decode cX2_bestOf 80 = .ok (.goto 8, 3) := by decide +kernel
theorem dX2_bestOf_83 : decode cX2_bestOf 83 = .ok (.iload 5, 2) := by decide +kernel
theorem dX2_bestOf_85 : decode cX2_bestOf 85 = .ok (.iload 8, 2) := by decide +kernel
theorem dX2_bestOf_87 : decode cX2_bestOf 87 = .ok (.iadd, 1) := by decide +kernel
theorem dX2_bestOf_88 : decode cX2_bestOf 88 = .ok (.istore 10, 2) := by decide +kernel
theorem dX2_bestOf_90 : decode cX2_bestOf 90 = .ok (.iload 9, 2) := by decide +kernel
theorem dX2_bestOf_92 : decode cX2_bestOf 92 = .ok (.invokestatic 87, 3) := by decide +kernel
theorem dX2_bestOf_95 : decode cX2_bestOf 95 = .ok (.ifCond .eq 50, 3) := by decide +kernel
theorem dX2_bestOf_98 : decode cX2_bestOf 98 = .ok (.iload 10, 2) := by decide +kernel
theorem dX2_bestOf_100 : decode cX2_bestOf 100 = .ok (.invokestatic 87, 3) := by decide +kernel
theorem dX2_bestOf_103 : decode cX2_bestOf 103 = .ok (.ifCond .eq 42, 3) := by decide +kernel
theorem dX2_bestOf_106 : decode cX2_bestOf 106 = .ok (.aload_n 0, 1) := by decide +kernel
theorem dX2_bestOf_107 : decode cX2_bestOf 107 = .ok (.iload_n 1, 1) := by decide +kernel
theorem dX2_bestOf_108 : decode cX2_bestOf 108 = .ok (.iconst 1, 1) := by decide +kernel
theorem dX2_bestOf_109 : decode cX2_bestOf 109 = .ok (.iadd, 1) := by decide +kernel
theorem dX2_bestOf_110 : decode cX2_bestOf 110 = .ok (.iload_n 2, 1) := by decide +kernel
theorem dX2_bestOf_111 : decode cX2_bestOf 111 = .ok (.iload_n 3, 1) := by decide +kernel
theorem dX2_bestOf_112 : decode cX2_bestOf 112 = .ok (.iload 9, 2) := by decide +kernel
theorem dX2_bestOf_114 : decode cX2_bestOf 114 = .ok (.iload 10, 2) := by decide +kernel
theorem dX2_bestOf_116 : decode cX2_bestOf 116 = .ok (.invokestatic 90, 3) := by decide +kernel
theorem dX2_bestOf_119 : decode cX2_bestOf 119 = .ok (.istore 11, 2) := by decide +kernel
theorem dX2_bestOf_121 : decode cX2_bestOf 121 = .ok (.iload 6, 2) := by decide +kernel
theorem dX2_bestOf_123 : decode cX2_bestOf 123 = .ok (.ifCond .eq 13, 3) := by decide +kernel
theorem dX2_bestOf_126 : decode cX2_bestOf 126 = .ok (.iload 7, 2) := by decide +kernel
theorem dX2_bestOf_128 : decode cX2_bestOf 128 = .ok (.iload 11, 2) := by decide +kernel
theorem dX2_bestOf_130 : decode cX2_bestOf 130 = .ok (.invokestatic 94, 3) := by decide +kernel
theorem dX2_bestOf_133 : decode cX2_bestOf 133 = .ok (.goto 10, 3) := by decide +kernel
theorem dX2_bestOf_136 : decode cX2_bestOf 136 = .ok (.iload 7, 2) := by decide +kernel
theorem dX2_bestOf_138 : decode cX2_bestOf 138 = .ok (.iload 11, 2) := by decide +kernel
theorem dX2_bestOf_140 : decode cX2_bestOf 140 = .ok (.invokestatic 100, 3) := by decide +kernel
theorem dX2_bestOf_143 : decode cX2_bestOf 143 = .ok (.istore 7, 2) := by decide +kernel
theorem dX2_bestOf_145 : decode cX2_bestOf 145 = .ok (.iinc 8 1, 3) := by decide +kernel
theorem dX2_bestOf_148 : decode cX2_bestOf 148 = .ok (.goto (-98), 3) := by decide +kernel
theorem dX2_bestOf_151 : decode cX2_bestOf 151 = .ok (.iload 7, 2) := by decide +kernel
theorem dX2_bestOf_153 : decode cX2_bestOf 153 = .ok (.ireturn, 1) := by decide +kernel
theorem dX2_gain_0 : decode cX2_gain 0 = .ok (.aload_n 0, 1) := by decide +kernel
theorem dX2_gain_1 : decode cX2_gain 1 = .ok (.getfield 12, 3) := by decide +kernel
theorem dX2_gain_4 : decode cX2_gain 4 = .ok (.aload_n 0, 1) := by decide +kernel
theorem dX2_gain_5 : decode cX2_gain 5 = .ok (.getfield 18, 3) := by decide +kernel
theorem dX2_gain_8 : decode cX2_gain 8 = .ok (.invokevirtual 21, 3) := by decide +kernel
theorem dX2_gain_11 : decode cX2_gain 11 = .ok (.aload_n 0, 1) := by decide +kernel
theorem dX2_gain_12 : decode cX2_gain 12 = .ok (.getfield 12, 3) := by decide +kernel
theorem dX2_gain_15 : decode cX2_gain 15 = .ok (.getfield 68, 3) := by decide +kernel
theorem dX2_gain_18 : decode cX2_gain 18 = .ok (.iconst 1, 1) := by decide +kernel
theorem dX2_gain_19 : decode cX2_gain 19 = .ok (.isub, 1) := by decide +kernel
theorem dX2_gain_20 : decode cX2_gain 20 = .ok (.istore 4, 2) := by decide +kernel
theorem dX2_gain_22 : decode cX2_gain 22 = .ok (.aload_n 0, 1) := by decide +kernel
theorem dX2_gain_23 : decode cX2_gain 23 = .ok (.getfield 12, 3) := by decide +kernel
theorem dX2_gain_26 : decode cX2_gain 26 = .ok (.iload 4, 2) := by decide +kernel
theorem dX2_gain_28 : decode cX2_gain 28 = .ok (.invokevirtual 103, 3) := by decide +kernel
theorem dX2_gain_31 : decode cX2_gain 31 = .ok (.ifCond .ne 5, 3) := by decide +kernel
theorem dX2_gain_34 : decode cX2_gain 34 = .ok (.iconst 0, 1) := by decide +kernel
theorem dX2_gain_35 : decode cX2_gain 35 = .ok (.ireturn, 1) := by decide +kernel
theorem dX2_gain_36 : decode cX2_gain 36 = .ok (.aload_n 0, 1) := by decide +kernel
theorem dX2_gain_37 : decode cX2_gain 37 = .ok (.getfield 12, 3) := by decide +kernel
theorem dX2_gain_40 : decode cX2_gain 40 = .ok (.getfield 45, 3) := by decide +kernel
theorem dX2_gain_43 : decode cX2_gain 43 = .ok (.iconst 0, 1) := by decide +kernel
theorem dX2_gain_44 : decode cX2_gain 44 = .ok (.iload_n 2, 1) := by decide +kernel
theorem dX2_gain_45 : decode cX2_gain 45 = .ok (.iastore, 1) := by decide +kernel
theorem dX2_gain_46 : decode cX2_gain 46 = .ok (.aload_n 0, 1) := by decide +kernel
theorem dX2_gain_47 : decode cX2_gain 47 = .ok (.getfield 12, 3) := by decide +kernel
theorem dX2_gain_50 : decode cX2_gain 50 = .ok (.getfield 45, 3) := by decide +kernel
theorem dX2_gain_53 : decode cX2_gain 53 = .ok (.iload 4, 2) := by decide +kernel
theorem dX2_gain_55 : decode cX2_gain 55 = .ok (.iload_n 3, 1) := by decide +kernel
theorem dX2_gain_56 : decode cX2_gain 56 = .ok (.iastore, 1) := by decide +kernel
theorem dX2_gain_57 : decode cX2_gain 57 = .ok (.aload_n 0, 1) := by decide +kernel
theorem dX2_gain_58 : decode cX2_gain 58 = .ok (.getfield 12, 3) := by decide +kernel
theorem dX2_gain_61 : decode cX2_gain 61 = .ok (.iload_n 1, 1) := by decide +kernel
theorem dX2_gain_62 : decode cX2_gain 62 = .ok (.invokevirtual 25, 3) := by decide +kernel
theorem dX2_gain_65 : decode cX2_gain 65 = .ok (.aload_n 0, 1) := by decide +kernel
theorem dX2_gain_66 : decode cX2_gain 66 = .ok (.getfield 12, 3) := by decide +kernel
theorem dX2_gain_69 : decode cX2_gain 69 = .ok (.getfield 49, 3) := by decide +kernel
theorem dX2_gain_72 : decode cX2_gain 72 = .ok (.iconst 0, 1) := by decide +kernel
theorem dX2_gain_73 : decode cX2_gain 73 = .ok (.iaload, 1) := by decide +kernel
theorem dX2_gain_74 : decode cX2_gain 74 = .ok (.aload_n 0, 1) := by decide +kernel
theorem dX2_gain_75 : decode cX2_gain 75 = .ok (.getfield 12, 3) := by decide +kernel
theorem dX2_gain_78 : decode cX2_gain 78 = .ok (.getfield 49, 3) := by decide +kernel
theorem dX2_gain_81 : decode cX2_gain 81 = .ok (.iload 4, 2) := by decide +kernel
theorem dX2_gain_83 : decode cX2_gain 83 = .ok (.iaload, 1) := by decide +kernel
theorem dX2_gain_84 : decode cX2_gain 84 = .ok (.isub, 1) := by decide +kernel
theorem dX2_gain_85 : decode cX2_gain 85 = .ok (.ireturn, 1) := by decide +kernel
theorem dX2_fitting_0 : decode cX2_fitting 0 = .ok (.iload_n 2, 1) := by decide +kernel
theorem dX2_fitting_1 : decode cX2_fitting 1 = .ok (.ifCond .eq 8, 3) := by decide +kernel
theorem dX2_fitting_4 : decode cX2_fitting 4 = .ok (.iload_n 2, 1) := by decide +kernel
theorem dX2_fitting_5 : decode cX2_fitting 5 = .ok (.iconst 2, 1) := by decide +kernel
theorem dX2_fitting_6 : decode cX2_fitting 6 = .ok (.if_icmp .ne 7, 3) := by decide +kernel
theorem dX2_fitting_9 : decode cX2_fitting 9 = .ok (.iconst 1, 1) := by decide +kernel
theorem dX2_fitting_10 : decode cX2_fitting 10 = .ok (.goto 4, 3) := by decide +kernel
theorem dX2_fitting_13 : decode cX2_fitting 13 = .ok (.iconst 0, 1) := by decide +kernel
theorem dX2_fitting_14 : decode cX2_fitting 14 = .ok (.istore 7, 2) := by decide +kernel
theorem dX2_fitting_16 : decode cX2_fitting 16 = .ok (.iload_n 2, 1) := by decide +kernel
theorem dX2_fitting_17 : decode cX2_fitting 17 = .ok (.ifCond .ne 7, 3) := by decide +kernel
theorem dX2_fitting_20 : decode cX2_fitting 20 = .ok (.iconst 5, 1) := by decide +kernel
theorem dX2_fitting_21 : decode cX2_fitting 21 = .ok (.goto 5, 3) := by decide +kernel
theorem dX2_fitting_24 : decode cX2_fitting 24 = .ok (.bipush 9, 2) := by decide +kernel
theorem dX2_fitting_26 : decode cX2_fitting 26 = .ok (.istore 8, 2) := by decide +kernel
theorem dX2_fitting_28 : decode cX2_fitting 28 = .ok (.iconst 0, 1) := by decide +kernel
theorem dX2_fitting_29 : decode cX2_fitting 29 = .ok (.istore 9, 2) := by decide +kernel
theorem dX2_fitting_31 : decode cX2_fitting 31 = .ok (.iload 7, 2) := by decide +kernel
theorem dX2_fitting_33 : decode cX2_fitting 33 = .ok (.istore 10, 2) := by decide +kernel
theorem dX2_fitting_35 : decode cX2_fitting 35 = .ok (.iload 10, 2) := by decide +kernel
theorem dX2_fitting_37 : decode cX2_fitting 37 = .ok (.iload 8, 2) := by decide +kernel
theorem dX2_fitting_39 : decode cX2_fitting 39 = .ok (.if_icmp .gt 51, 3) := by decide +kernel
theorem dX2_fitting_42 : decode cX2_fitting 42 = .ok (.aload_n 0, 1) := by decide +kernel
theorem dX2_fitting_43 : decode cX2_fitting 43 = .ok (.getfield 12, 3) := by decide +kernel
theorem dX2_fitting_46 : decode cX2_fitting 46 = .ok (.aload_n 0, 1) := by decide +kernel
theorem dX2_fitting_47 : decode cX2_fitting 47 = .ok (.getfield 18, 3) := by decide +kernel
theorem dX2_fitting_50 : decode cX2_fitting 50 = .ok (.invokevirtual 21, 3) := by decide +kernel
theorem dX2_fitting_53 : decode cX2_fitting 53 = .ok (.aload_n 0, 1) := by decide +kernel
theorem dX2_fitting_54 : decode cX2_fitting 54 = .ok (.iload_n 1, 1) := by decide +kernel
theorem dX2_fitting_55 : decode cX2_fitting 55 = .ok (.iload_n 2, 1) := by decide +kernel
theorem dX2_fitting_56 : decode cX2_fitting 56 = .ok (.iload 10, 2) := by decide +kernel
theorem dX2_fitting_58 : decode cX2_fitting 58 = .ok (.invokevirtual 106, 3) := by decide +kernel
theorem dX2_fitting_61 : decode cX2_fitting 61 = .ok (.aload_n 0, 1) := by decide +kernel
theorem dX2_fitting_62 : decode cX2_fitting 62 = .ok (.aload_n 3, 1) := by decide +kernel
theorem dX2_fitting_63 : decode cX2_fitting 63 = .ok (.iload 4, 2) := by decide +kernel
theorem dX2_fitting_65 : decode cX2_fitting 65 = .ok (.iload 5, 2) := by decide +kernel
theorem dX2_fitting_67 : decode cX2_fitting 67 = .ok (.iload 6, 2) := by decide +kernel
theorem dX2_fitting_69 : decode cX2_fitting 69 = .ok (.invokevirtual 110, 3) := by decide +kernel
theorem dX2_fitting_72 : decode cX2_fitting 72 = .ok (.ifCond .eq 12, 3) := by decide +kernel
theorem dX2_fitting_75 : decode cX2_fitting 75 = .ok (.iload 9, 2) := by decide +kernel
theorem dX2_fitting_77 : decode cX2_fitting 77 = .ok (.iconst 1, 1) := by decide +kernel
theorem dX2_fitting_78 : decode cX2_fitting 78 = .ok (.iload 10, 2) := by decide +kernel
theorem dX2_fitting_80 : decode cX2_fitting 80 = .ok (.ishl, 1) := by decide +kernel
theorem dX2_fitting_81 : decode cX2_fitting 81 = .ok (.ior, 1) := by decide +kernel
theorem dX2_fitting_82 : decode cX2_fitting 82 = .ok (.istore 9, 2) := by decide +kernel
theorem dX2_fitting_84 : decode cX2_fitting 84 = .ok (.iinc 10 1, 3) := by decide +kernel
theorem dX2_fitting_87 : decode cX2_fitting 87 = .ok (.goto (-52), 3) := by decide +kernel
theorem dX2_fitting_90 : decode cX2_fitting 90 = .ok (.iload 9, 2) := by decide +kernel
theorem dX2_fitting_92 : decode cX2_fitting 92 = .ok (.ireturn, 1) := by decide +kernel
theorem dX2_suppose_0 : decode cX2_suppose 0 = .ok (.iload_n 2, 1) := by decide +kernel
theorem dX2_suppose_1 : decode cX2_suppose 1 = .ok (.tableswitch 66 0 2 #[27, 40, 53], 27) := by decide +kernel
theorem dX2_suppose_28 : decode cX2_suppose 28 = .ok (.aload_n 0, 1) := by decide +kernel
theorem dX2_suppose_29 : decode cX2_suppose 29 = .ok (.getfield 12, 3) := by decide +kernel
theorem dX2_suppose_32 : decode cX2_suppose 32 = .ok (.getfield 75, 3) := by decide +kernel
theorem dX2_suppose_35 : decode cX2_suppose 35 = .ok (.iload_n 1, 1) := by decide +kernel
theorem dX2_suppose_36 : decode cX2_suppose 36 = .ok (.iload_n 3, 1) := by decide +kernel
theorem dX2_suppose_37 : decode cX2_suppose 37 = .ok (.iastore, 1) := by decide +kernel
theorem dX2_suppose_38 : decode cX2_suppose 38 = .ok (.goto 37, 3) := by decide +kernel
theorem dX2_suppose_41 : decode cX2_suppose 41 = .ok (.aload_n 0, 1) := by decide +kernel
theorem dX2_suppose_42 : decode cX2_suppose 42 = .ok (.getfield 12, 3) := by decide +kernel
theorem dX2_suppose_45 : decode cX2_suppose 45 = .ok (.getfield 45, 3) := by decide +kernel
theorem dX2_suppose_48 : decode cX2_suppose 48 = .ok (.iload_n 1, 1) := by decide +kernel
theorem dX2_suppose_49 : decode cX2_suppose 49 = .ok (.iload_n 3, 1) := by decide +kernel
theorem dX2_suppose_50 : decode cX2_suppose 50 = .ok (.iastore, 1) := by decide +kernel
theorem dX2_suppose_51 : decode cX2_suppose 51 = .ok (.goto 24, 3) := by decide +kernel
theorem dX2_suppose_54 : decode cX2_suppose 54 = .ok (.aload_n 0, 1) := by decide +kernel
theorem dX2_suppose_55 : decode cX2_suppose 55 = .ok (.getfield 12, 3) := by decide +kernel
theorem dX2_suppose_58 : decode cX2_suppose 58 = .ok (.getfield 49, 3) := by decide +kernel
theorem dX2_suppose_61 : decode cX2_suppose 61 = .ok (.iload_n 1, 1) := by decide +kernel
theorem dX2_suppose_62 : decode cX2_suppose 62 = .ok (.iload_n 3, 1) := by decide +kernel
theorem dX2_suppose_63 : decode cX2_suppose 63 = .ok (.iastore, 1) := by decide +kernel
theorem dX2_suppose_64 : decode cX2_suppose 64 = .ok (.goto 11, 3) := by decide +kernel
theorem dX2_suppose_67 : decode cX2_suppose 67 = .ok (.aload_n 0, 1) := by decide +kernel
theorem dX2_suppose_68 : decode cX2_suppose 68 = .ok (.getfield 12, 3) := by decide +kernel
theorem dX2_suppose_71 : decode cX2_suppose 71 = .ok (.iload_n 3, 1) := by decide +kernel
theorem dX2_suppose_72 : decode cX2_suppose 72 = .ok (.putfield 114, 3) := by decide +kernel
theorem dX2_suppose_75 : decode cX2_suppose 75 = .ok (.return_, 1) := by decide +kernel
theorem dX2_comesAsTold_0 : decode cX2_comesAsTold 0 = .ok (.iconst 0, 1) := by decide +kernel
theorem dX2_comesAsTold_1 : decode cX2_comesAsTold 1 = .ok (.istore 5, 2) := by decide +kernel
theorem dX2_comesAsTold_3 : decode cX2_comesAsTold 3 = .ok (.iload 5, 2) := by decide +kernel
theorem dX2_comesAsTold_5 : decode cX2_comesAsTold 5 = .ok (.iload 4, 2) := by decide +kernel
theorem dX2_comesAsTold_7 : decode cX2_comesAsTold 7 = .ok (.if_icmp .ge 58, 3) := by decide +kernel
theorem dX2_comesAsTold_10 : decode cX2_comesAsTold 10 = .ok (.aload_n 0, 1) := by decide +kernel
theorem dX2_comesAsTold_11 : decode cX2_comesAsTold 11 = .ok (.getfield 12, 3) := by decide +kernel
theorem dX2_comesAsTold_14 : decode cX2_comesAsTold 14 = .ok (.invokevirtual 29, 3) := by decide +kernel
theorem dX2_comesAsTold_17 : decode cX2_comesAsTold 17 = .ok (.aload_n 0, 1) := by decide +kernel
theorem dX2_comesAsTold_18 : decode cX2_comesAsTold 18 = .ok (.getfield 12, 3) := by decide +kernel
theorem dX2_comesAsTold_21 : decode cX2_comesAsTold 21 = .ok (.getfield 32, 3) := by decide +kernel
theorem dX2_comesAsTold_24 : decode cX2_comesAsTold 24 = .ok (.ldc 36, 2) := by decide +kernel
theorem dX2_comesAsTold_26 : decode cX2_comesAsTold 26 = .ok (.if_icmp .ne 8, 3) := by decide +kernel
theorem dX2_comesAsTold_29 : decode cX2_comesAsTold 29 = .ok (.bipush 99, 2) := by decide +kernel
theorem dX2_comesAsTold_31 : decode cX2_comesAsTold 31 = .ok (.goto 10, 3) := by decide +kernel
theorem dX2_comesAsTold_34 : decode cX2_comesAsTold 34 = .ok (.aload_n 0, 1) := by decide +kernel
theorem dX2_comesAsTold_35 : decode cX2_comesAsTold 35 = .ok (.getfield 12, 3) := by decide +kernel
theorem dX2_comesAsTold_38 : decode cX2_comesAsTold 38 = .ok (.getfield 32, 3) := by decide +kernel
theorem dX2_comesAsTold_41 : decode cX2_comesAsTold 41 = .ok (.istore 6, 2) := by decide +kernel
theorem dX2_comesAsTold_43 : decode cX2_comesAsTold 43 = .ok (.aload_n 1, 1) := by decide +kernel
theorem dX2_comesAsTold_44 : decode cX2_comesAsTold 44 = .ok (.iload_n 2, 1) := by decide +kernel
theorem dX2_comesAsTold_45 : decode cX2_comesAsTold 45 = .ok (.iload_n 3, 1) := by decide +kernel
theorem dX2_comesAsTold_46 : decode cX2_comesAsTold 46 = .ok (.iload 5, 2) := by decide +kernel
theorem dX2_comesAsTold_48 : decode cX2_comesAsTold 48 = .ok (.iadd, 1) := by decide +kernel
theorem dX2_comesAsTold_49 : decode cX2_comesAsTold 49 = .ok (.invokevirtual 117, 3) := by decide +kernel
theorem dX2_comesAsTold_52 : decode cX2_comesAsTold 52 = .ok (.iload 6, 2) := by decide +kernel
theorem dX2_comesAsTold_54 : decode cX2_comesAsTold 54 = .ok (.if_icmp .eq 5, 3) := by decide +kernel
theorem dX2_comesAsTold_57 : decode cX2_comesAsTold 57 = .ok (.iconst 0, 1) := by decide +kernel
theorem dX2_comesAsTold_58 : decode cX2_comesAsTold 58 = .ok (.ireturn, 1) := by decide +kernel
theorem dX2_comesAsTold_59 : decode cX2_comesAsTold 59 = .ok (.iinc 5 1, 3) := by decide +kernel
theorem dX2_comesAsTold_62 : decode cX2_comesAsTold 62 = .ok (.goto (-59), 3) := by decide +kernel
theorem dX2_comesAsTold_65 : decode cX2_comesAsTold 65 = .ok (.iconst 1, 1) := by decide +kernel
theorem dX2_comesAsTold_66 : decode cX2_comesAsTold 66 = .ok (.ireturn, 1) := by decide +kernel
theorem dX2_casesKept_0 : decode cX2_casesKept 0 = .ok (.aload_n 0, 1) := by decide +kernel
theorem dX2_casesKept_1 : decode cX2_casesKept 1 = .ok (.getfield 18, 3) := by decide +kernel
theorem dX2_casesKept_4 : decode cX2_casesKept 4 = .ok (.invokevirtual 52, 3) := by decide +kernel
theorem dX2_casesKept_7 : decode cX2_casesKept 7 = .ok (.aload_n 0, 1) := by decide +kernel
theorem dX2_casesKept_8 : decode cX2_casesKept 8 = .ok (.getfield 18, 3) := by decide +kernel
theorem dX2_casesKept_11 : decode cX2_casesKept 11 = .ok (.getfield 65, 3) := by decide +kernel
theorem dX2_casesKept_14 : decode cX2_casesKept 14 = .ok (.iconst (-1), 1) := by decide +kernel
theorem dX2_casesKept_15 : decode cX2_casesKept 15 = .ok (.ixor, 1) := by decide +kernel
theorem dX2_casesKept_16 : decode cX2_casesKept 16 = .ok (.iand, 1) := by decide +kernel
theorem dX2_casesKept_17 : decode cX2_casesKept 17 = .ok (.istore 4, 2) := by decide +kernel
theorem dX2_casesKept_19 : decode cX2_casesKept 19 = .ok (.lconst 0, 1) := by decide +kernel
theorem dX2_casesKept_20 : decode cX2_casesKept 20 = .ok (.lstore 5, 2) := by decide +kernel
theorem dX2_casesKept_22 : decode cX2_casesKept 22 = .ok (.iconst 0, 1) := by decide +kernel
theorem dX2_casesKept_23 : decode cX2_casesKept 23 = .ok (.istore 7, 2) := by decide +kernel
theorem dX2_casesKept_25 : decode cX2_casesKept 25 = .ok (.iload 7, 2) := by decide +kernel
theorem dX2_casesKept_27 : decode cX2_casesKept 27 = .ok (.aload_n 0, 1) := by decide +kernel
theorem dX2_casesKept_28 : decode cX2_casesKept 28 = .ok (.getfield 18, 3) := by decide +kernel
theorem dX2_casesKept_31 : decode cX2_casesKept 31 = .ok (.invokevirtual 52, 3) := by decide +kernel
theorem dX2_casesKept_34 : decode cX2_casesKept 34 = .ok (.if_icmp .gt 73, 3) := by decide +kernel
theorem dX2_casesKept_37 : decode cX2_casesKept 37 = .ok (.iload 7, 2) := by decide +kernel
theorem dX2_casesKept_39 : decode cX2_casesKept 39 = .ok (.iload 4, 2) := by decide +kernel
theorem dX2_casesKept_41 : decode cX2_casesKept 41 = .ok (.iconst (-1), 1) := by decide +kernel
theorem dX2_casesKept_42 : decode cX2_casesKept 42 = .ok (.ixor, 1) := by decide +kernel
theorem dX2_casesKept_43 : decode cX2_casesKept 43 = .ok (.iand, 1) := by decide +kernel
theorem dX2_casesKept_44 : decode cX2_casesKept 44 = .ok (.ifCond .ne 57, 3) := by decide +kernel
theorem dX2_casesKept_47 : decode cX2_casesKept 47 = .ok (.iload_n 3, 1) := by decide +kernel
theorem dX2_casesKept_48 : decode cX2_casesKept 48 = .ok (.iload 7, 2) := by decide +kernel
theorem dX2_casesKept_50 : decode cX2_casesKept 50 = .ok (.invokestatic 55, 3) := by decide +kernel
theorem dX2_casesKept_53 : decode cX2_casesKept 53 = .ok (.invokestatic 122, 3) := by decide +kernel
theorem dX2_casesKept_56 : decode cX2_casesKept 56 = .ok (.bipush 10, 2) := by decide +kernel
theorem dX2_casesKept_58 : decode cX2_casesKept 58 = .ok (.iload_n 3, 1) := by decide +kernel
theorem dX2_casesKept_59 : decode cX2_casesKept 59 = .ok (.isub, 1) := by decide +kernel
theorem dX2_casesKept_60 : decode cX2_casesKept 60 = .ok (.iload 4, 2) := by decide +kernel
theorem dX2_casesKept_62 : decode cX2_casesKept 62 = .ok (.iload 7, 2) := by decide +kernel
theorem dX2_casesKept_64 : decode cX2_casesKept 64 = .ok (.iconst (-1), 1) := by decide +kernel
theorem dX2_casesKept_65 : decode cX2_casesKept 65 = .ok (.ixor, 1) := by decide +kernel
theorem dX2_casesKept_66 : decode cX2_casesKept 66 = .ok (.iand, 1) := by decide +kernel
theorem dX2_casesKept_67 : decode cX2_casesKept 67 = .ok (.invokestatic 55, 3) := by decide +kernel
theorem dX2_casesKept_70 : decode cX2_casesKept 70 = .ok (.invokestatic 122, 3) := by decide +kernel
theorem dX2_casesKept_73 : decode cX2_casesKept 73 = .ok (.lmul, 1) := by decide +kernel
theorem dX2_casesKept_74 : decode cX2_casesKept 74 = .ok (.lstore 8, 2) := by decide +kernel
theorem dX2_casesKept_76 : decode cX2_casesKept 76 = .ok (.lload 8, 2) := by decide +kernel
theorem dX2_casesKept_78 : decode cX2_casesKept 78 = .ok (.lconst 0, 1) := by decide +kernel
theorem dX2_casesKept_79 : decode cX2_casesKept 79 = .ok (.lcmp, 1) := by decide +kernel
theorem dX2_casesKept_80 : decode cX2_casesKept 80 = .ok (.ifCond .le 21, 3) := by decide +kernel
theorem dX2_casesKept_83 : decode cX2_casesKept 83 = .ok (.aload_n 0, 1) := by decide +kernel
theorem dX2_casesKept_84 : decode cX2_casesKept 84 = .ok (.iload_n 1, 1) := by decide +kernel
theorem dX2_casesKept_85 : decode cX2_casesKept 85 = .ok (.iload_n 2, 1) := by decide +kernel
theorem dX2_casesKept_86 : decode cX2_casesKept 86 = .ok (.iload 7, 2) := by decide +kernel
theorem dX2_casesKept_88 : decode cX2_casesKept 88 = .ok (.invokevirtual 126, 3) := by decide +kernel
theorem dX2_casesKept_91 : decode cX2_casesKept 91 = .ok (.ifCond .eq 10, 3) := by decide +kernel
theorem dX2_casesKept_94 : decode cX2_casesKept 94 = .ok (.lload 5, 2) := by decide +kernel
theorem dX2_casesKept_96 : decode cX2_casesKept 96 = .ok (.lload 8, 2) := by decide +kernel
theorem dX2_casesKept_98 : decode cX2_casesKept 98 = .ok (.ladd, 1) := by decide +kernel
theorem dX2_casesKept_99 : decode cX2_casesKept 99 = .ok (.lstore 5, 2) := by decide +kernel
theorem dX2_casesKept_101 : decode cX2_casesKept 101 = .ok (.iinc 7 1, 3) := by decide +kernel
theorem dX2_casesKept_104 : decode cX2_casesKept 104 = .ok (.goto (-79), 3) := by decide +kernel
theorem dX2_casesKept_107 : decode cX2_casesKept 107 = .ok (.lload 5, 2) := by decide +kernel
theorem dX2_casesKept_109 : decode cX2_casesKept 109 = .ok (.lreturn, 1) := by decide +kernel
theorem dX2_keepsName_0 : decode cX2_keepsName 0 = .ok (.aload_n 0, 1) := by decide +kernel
theorem dX2_keepsName_1 : decode cX2_keepsName 1 = .ok (.getfield 12, 3) := by decide +kernel
theorem dX2_keepsName_4 : decode cX2_keepsName 4 = .ok (.aload_n 0, 1) := by decide +kernel
theorem dX2_keepsName_5 : decode cX2_keepsName 5 = .ok (.getfield 18, 3) := by decide +kernel
theorem dX2_keepsName_8 : decode cX2_keepsName 8 = .ok (.invokevirtual 21, 3) := by decide +kernel
theorem dX2_keepsName_11 : decode cX2_keepsName 11 = .ok (.aload_n 0, 1) := by decide +kernel
theorem dX2_keepsName_12 : decode cX2_keepsName 12 = .ok (.getfield 12, 3) := by decide +kernel
theorem dX2_keepsName_15 : decode cX2_keepsName 15 = .ok (.dup, 1) := by decide +kernel
theorem dX2_keepsName_16 : decode cX2_keepsName 16 = .ok (.getfield 65, 3) := by decide +kernel
theorem dX2_keepsName_19 : decode cX2_keepsName 19 = .ok (.iload_n 3, 1) := by decide +kernel
theorem dX2_keepsName_20 : decode cX2_keepsName 20 = .ok (.ior, 1) := by decide +kernel
theorem dX2_keepsName_21 : decode cX2_keepsName 21 = .ok (.putfield 65, 3) := by decide +kernel
theorem dX2_keepsName_24 : decode cX2_keepsName 24 = .ok (.aload_n 0, 1) := by decide +kernel
theorem dX2_keepsName_25 : decode cX2_keepsName 25 = .ok (.getfield 12, 3) := by decide +kernel
theorem dX2_keepsName_28 : decode cX2_keepsName 28 = .ok (.iload_n 2, 1) := by decide +kernel
theorem dX2_keepsName_29 : decode cX2_keepsName 29 = .ok (.invokevirtual 25, 3) := by decide +kernel
theorem dX2_keepsName_32 : decode cX2_keepsName 32 = .ok (.aload_n 0, 1) := by decide +kernel
theorem dX2_keepsName_33 : decode cX2_keepsName 33 = .ok (.getfield 12, 3) := by decide +kernel
theorem dX2_keepsName_36 : decode cX2_keepsName 36 = .ok (.getfield 49, 3) := by decide +kernel
theorem dX2_keepsName_39 : decode cX2_keepsName 39 = .ok (.iload_n 1, 1) := by decide +kernel
theorem dX2_keepsName_40 : decode cX2_keepsName 40 = .ok (.iaload, 1) := by decide +kernel
theorem dX2_keepsName_41 : decode cX2_keepsName 41 = .ok (.ifCond .le 7, 3) := by decide +kernel
theorem dX2_keepsName_44 : decode cX2_keepsName 44 = .ok (.iconst 1, 1) := by decide +kernel
theorem dX2_keepsName_45 : decode cX2_keepsName 45 = .ok (.goto 4, 3) := by decide +kernel
theorem dX2_keepsName_48 : decode cX2_keepsName 48 = .ok (.iconst 0, 1) := by decide +kernel
theorem dX2_keepsName_49 : decode cX2_keepsName 49 = .ok (.ireturn, 1) := by decide +kernel
theorem dX2_casesOfRain_0 : decode cX2_casesOfRain 0 = .ok (.bipush 10, 2) := by decide +kernel
theorem dX2_casesOfRain_2 : decode cX2_casesOfRain 2 = .ok (.aload_n 0, 1) := by decide +kernel
theorem dX2_casesOfRain_3 : decode cX2_casesOfRain 3 = .ok (.getfield 18, 3) := by decide +kernel
theorem dX2_casesOfRain_6 : decode cX2_casesOfRain 6 = .ok (.invokevirtual 52, 3) := by decide +kernel
theorem dX2_casesOfRain_9 : decode cX2_casesOfRain 9 = .ok (.aload_n 0, 1) := by decide +kernel
theorem dX2_casesOfRain_10 : decode cX2_casesOfRain 10 = .ok (.getfield 18, 3) := by decide +kernel
theorem dX2_casesOfRain_13 : decode cX2_casesOfRain 13 = .ok (.getfield 65, 3) := by decide +kernel
theorem dX2_casesOfRain_16 : decode cX2_casesOfRain 16 = .ok (.iconst (-1), 1) := by decide +kernel
theorem dX2_casesOfRain_17 : decode cX2_casesOfRain 17 = .ok (.ixor, 1) := by decide +kernel
theorem dX2_casesOfRain_18 : decode cX2_casesOfRain 18 = .ok (.iand, 1) := by decide +kernel
theorem dX2_casesOfRain_19 : decode cX2_casesOfRain 19 = .ok (.invokestatic 55, 3) := by decide +kernel
theorem dX2_casesOfRain_22 : decode cX2_casesOfRain 22 = .ok (.invokestatic 122, 3) := by decide +kernel
theorem dX2_casesOfRain_25 : decode cX2_casesOfRain 25 = .ok (.lreturn, 1) := by decide +kernel
theorem dX2_power_0 : decode cX2_power 0 = .ok (.lconst 1, 1) := by decide +kernel
theorem dX2_power_1 : decode cX2_power 1 = .ok (.lstore_n 2, 1) := by decide +kernel
theorem dX2_power_2 : decode cX2_power 2 = .ok (.iconst 0, 1) := by decide +kernel
theorem dX2_power_3 : decode cX2_power 3 = .ok (.istore 4, 2) := by decide +kernel
theorem dX2_power_5 : decode cX2_power 5 = .ok (.iload 4, 2) := by decide +kernel
theorem dX2_power_7 : decode cX2_power 7 = .ok (.iload_n 1, 1) := by decide +kernel
theorem dX2_power_8 : decode cX2_power 8 = .ok (.if_icmp .ge 21, 3) := by decide +kernel
theorem dX2_power_11 : decode cX2_power 11 = .ok (.iload 4, 2) := by decide +kernel
theorem dX2_power_13 : decode cX2_power 13 = .ok (.bipush 6, 2) := by decide +kernel
theorem dX2_power_15 : decode cX2_power 15 = .ok (.if_icmp .ge 14, 3) := by decide +kernel
theorem dX2_power_18 : decode cX2_power 18 = .ok (.lload_n 2, 1) := by decide +kernel
theorem dX2_power_19 : decode cX2_power 19 = .ok (.iload_n 0, 1) := by decide +kernel
theorem dX2_power_20 : decode cX2_power 20 = .ok (.i2l, 1) := by decide +kernel
theorem dX2_power_21 : decode cX2_power 21 = .ok (.lmul, 1) := by decide +kernel
theorem dX2_power_22 : decode cX2_power 22 = .ok (.lstore_n 2, 1) := by decide +kernel
theorem dX2_power_23 : decode cX2_power 23 = .ok (.iinc 4 1, 3) := by decide +kernel
theorem dX2_power_26 : decode cX2_power 26 = .ok (.goto (-21), 3) := by decide +kernel
theorem dX2_power_29 : decode cX2_power 29 = .ok (.lload_n 2, 1) := by decide +kernel
theorem dX2_power_30 : decode cX2_power 30 = .ok (.lreturn, 1) := by decide +kernel
theorem dX2_behindDraws_0 : decode cX2_behindDraws 0 = .ok (.aload_n 0, 1) := by decide +kernel
theorem dX2_behindDraws_1 : decode cX2_behindDraws 1 = .ok (.getfield 12, 3) := by decide +kernel
theorem dX2_behindDraws_4 : decode cX2_behindDraws 4 = .ok (.aload_n 0, 1) := by decide +kernel
theorem dX2_behindDraws_5 : decode cX2_behindDraws 5 = .ok (.getfield 18, 3) := by decide +kernel
theorem dX2_behindDraws_8 : decode cX2_behindDraws 8 = .ok (.invokevirtual 21, 3) := by decide +kernel
theorem dX2_behindDraws_11 : decode cX2_behindDraws 11 = .ok (.iload_n 2, 1) := by decide +kernel
theorem dX2_behindDraws_12 : decode cX2_behindDraws 12 = .ok (.i2l, 1) := by decide +kernel
theorem dX2_behindDraws_13 : decode cX2_behindDraws 13 = .ok (.lstore_n 3, 1) := by decide +kernel
theorem dX2_behindDraws_14 : decode cX2_behindDraws 14 = .ok (.iconst 0, 1) := by decide +kernel
theorem dX2_behindDraws_15 : decode cX2_behindDraws 15 = .ok (.istore 5, 2) := by decide +kernel
theorem dX2_behindDraws_17 : decode cX2_behindDraws 17 = .ok (.iload 5, 2) := by decide +kernel
theorem dX2_behindDraws_19 : decode cX2_behindDraws 19 = .ok (.iload_n 1, 1) := by decide +kernel
theorem dX2_behindDraws_20 : decode cX2_behindDraws 20 = .ok (.if_icmp .ge 31, 3) := by decide +kernel
theorem dX2_behindDraws_23 : decode cX2_behindDraws 23 = .ok (.lload_n 3, 1) := by decide +kernel
theorem dX2_behindDraws_24 : decode cX2_behindDraws 24 = .ok (.ldc2_w 130, 3) := by decide +kernel
theorem dX2_behindDraws_27 : decode cX2_behindDraws 27 = .ok (.lmul, 1) := by decide +kernel
theorem dX2_behindDraws_28 : decode cX2_behindDraws 28 = .ok (.ldc2_w 132, 3) := by decide +kernel
theorem dX2_behindDraws_31 : decode cX2_behindDraws 31 = .ok (.lrem, 1) := by decide +kernel
theorem dX2_behindDraws_32 : decode cX2_behindDraws 32 = .ok (.lstore_n 3, 1) := by decide +kernel
theorem dX2_behindDraws_33 : decode cX2_behindDraws 33 = .ok (.aload_n 0, 1) := by decide +kernel
theorem dX2_behindDraws_34 : decode cX2_behindDraws 34 = .ok (.lload_n 3, 1) := by decide +kernel
theorem dX2_behindDraws_35 : decode cX2_behindDraws 35 = .ok (.invokevirtual 134, 3) := by decide +kernel
theorem dX2_behindDraws_38 : decode cX2_behindDraws 38 = .ok (.aload_n 0, 1) := by decide +kernel
theorem dX2_behindDraws_39 : decode cX2_behindDraws 39 = .ok (.getfield 12, 3) := by decide +kernel
theorem dX2_behindDraws_42 : decode cX2_behindDraws 42 = .ok (.invokevirtual 29, 3) := by decide +kernel
theorem dX2_behindDraws_45 : decode cX2_behindDraws 45 = .ok (.iinc 5 1, 3) := by decide +kernel
theorem dX2_behindDraws_48 : decode cX2_behindDraws 48 = .ok (.goto (-31), 3) := by decide +kernel
theorem dX2_behindDraws_51 : decode cX2_behindDraws 51 = .ok (.aload_n 0, 1) := by decide +kernel
theorem dX2_behindDraws_52 : decode cX2_behindDraws 52 = .ok (.getfield 12, 3) := by decide +kernel
theorem dX2_behindDraws_55 : decode cX2_behindDraws 55 = .ok (.areturn, 1) := by decide +kernel
theorem dX2_draw_0 : decode cX2_draw 0 = .ok (.aload_n 0, 1) := by decide +kernel
theorem dX2_draw_1 : decode cX2_draw 1 = .ok (.getfield 12, 3) := by decide +kernel
theorem dX2_draw_4 : decode cX2_draw 4 = .ok (.getfield 68, 3) := by decide +kernel
theorem dX2_draw_7 : decode cX2_draw 7 = .ok (.ifCond .ne 4, 3) := by decide +kernel
theorem dX2_draw_10 : decode cX2_draw 10 = .ok (.return_, 1) := by decide +kernel
theorem dX2_draw_11 : decode cX2_draw 11 = .ok (.lload_n 1, 1) := by decide +kernel
theorem dX2_draw_12 : decode cX2_draw 12 = .ok (.aload_n 0, 1) := by decide +kernel
theorem dX2_draw_13 : decode cX2_draw 13 = .ok (.getfield 12, 3) := by decide +kernel
theorem dX2_draw_16 : decode cX2_draw 16 = .ok (.getfield 68, 3) := by decide +kernel
theorem dX2_draw_19 : decode cX2_draw 19 = .ok (.i2l, 1) := by decide +kernel
theorem dX2_draw_20 : decode cX2_draw 20 = .ok (.lrem, 1) := by decide +kernel
theorem dX2_draw_21 : decode cX2_draw 21 = .ok (.l2i, 1) := by decide +kernel
theorem dX2_draw_22 : decode cX2_draw 22 = .ok (.istore_n 3, 1) := by decide +kernel
theorem dX2_draw_23 : decode cX2_draw 23 = .ok (.aload_n 0, 1) := by decide +kernel
theorem dX2_draw_24 : decode cX2_draw 24 = .ok (.getfield 12, 3) := by decide +kernel
theorem dX2_draw_27 : decode cX2_draw 27 = .ok (.iload_n 3, 1) := by decide +kernel
theorem dX2_draw_28 : decode cX2_draw 28 = .ok (.invokevirtual 103, 3) := by decide +kernel
theorem dX2_draw_31 : decode cX2_draw 31 = .ok (.ifCond .ne 4, 3) := by decide +kernel
theorem dX2_draw_34 : decode cX2_draw 34 = .ok (.return_, 1) := by decide +kernel
theorem dX2_draw_35 : decode cX2_draw 35 = .ok (.aload_n 0, 1) := by decide +kernel
theorem dX2_draw_36 : decode cX2_draw 36 = .ok (.getfield 12, 3) := by decide +kernel
theorem dX2_draw_39 : decode cX2_draw 39 = .ok (.getfield 49, 3) := by decide +kernel
theorem dX2_draw_42 : decode cX2_draw 42 = .ok (.iload_n 3, 1) := by decide +kernel
theorem dX2_draw_43 : decode cX2_draw 43 = .ok (.iaload, 1) := by decide +kernel
theorem dX2_draw_44 : decode cX2_draw 44 = .ok (.ifCond .ne 23, 3) := by decide +kernel
theorem dX2_draw_47 : decode cX2_draw 47 = .ok (.aload_n 0, 1) := by decide +kernel
theorem dX2_draw_48 : decode cX2_draw 48 = .ok (.getfield 12, 3) := by decide +kernel
theorem dX2_draw_51 : decode cX2_draw 51 = .ok (.getfield 49, 3) := by decide +kernel
theorem dX2_draw_54 : decode cX2_draw 54 = .ok (.iload_n 3, 1) := by decide +kernel
theorem dX2_draw_55 : decode cX2_draw 55 = .ok (.lload_n 1, 1) := by decide +kernel
theorem dX2_draw_56 : decode cX2_draw 56 = .ok (.ldc2_w 138, 3) := by decide +kernel
theorem dX2_draw_59 : decode cX2_draw 59 = .ok (.lrem, 1) := by decide +kernel
theorem dX2_draw_60 : decode cX2_draw 60 = .ok (.l2i, 1) := by decide +kernel
theorem dX2_draw_61 : decode cX2_draw 61 = .ok (.iconst 1, 1) := by decide +kernel
theorem dX2_draw_62 : decode cX2_draw 62 = .ok (.iadd, 1) := by decide +kernel
theorem dX2_draw_63 : decode cX2_draw 63 = .ok (.iastore, 1) := by decide +kernel
theorem dX2_draw_64 : decode cX2_draw 64 = .ok (.goto 32, 3) := by decide +kernel
theorem dX2_draw_67 : decode cX2_draw 67 = .ok (.lload_n 1, 1) := by decide +kernel
theorem dX2_draw_68 : decode cX2_draw 68 = .ok (.ldc2_w 140, 3) := by decide +kernel
theorem dX2_draw_71 : decode cX2_draw 71 = .ok (.lrem, 1) := by decide +kernel
theorem dX2_draw_72 : decode cX2_draw 72 = .ok (.lconst 0, 1) := by decide +kernel
theorem dX2_draw_73 : decode cX2_draw 73 = .ok (.lcmp, 1) := by decide +kernel
theorem dX2_draw_74 : decode cX2_draw 74 = .ok (.ifCond .ne 22, 3) := by decide +kernel
theorem dX2_draw_77 : decode cX2_draw 77 = .ok (.aload_n 0, 1) := by decide +kernel
theorem dX2_draw_78 : decode cX2_draw 78 = .ok (.getfield 12, 3) := by decide +kernel
theorem dX2_draw_81 : decode cX2_draw 81 = .ok (.getfield 45, 3) := by decide +kernel
theorem dX2_draw_84 : decode cX2_draw 84 = .ok (.iload_n 3, 1) := by decide +kernel
theorem dX2_draw_85 : decode cX2_draw 85 = .ok (.lload_n 1, 1) := by decide +kernel
theorem dX2_draw_86 : decode cX2_draw 86 = .ok (.ldc2_w 142, 3) := by decide +kernel
theorem dX2_draw_89 : decode cX2_draw 89 = .ok (.ldiv, 1) := by decide +kernel
theorem dX2_draw_90 : decode cX2_draw 90 = .ok (.ldc2_w 144, 3) := by decide +kernel
theorem dX2_draw_93 : decode cX2_draw 93 = .ok (.lrem, 1) := by decide +kernel
theorem dX2_draw_94 : decode cX2_draw 94 = .ok (.l2i, 1) := by decide +kernel
theorem dX2_draw_95 : decode cX2_draw 95 = .ok (.iastore, 1) := by decide +kernel
theorem dX2_draw_96 : decode cX2_draw 96 = .ok (.return_, 1) := by decide +kernel
theorem dX3_init_0 : decode cX3_init 0 = .ok (.aload_n 0, 1) := by decide +kernel
theorem dX3_init_1 : decode cX3_init 1 = .ok (.invokespecial 3, 3) := by decide +kernel
theorem dX3_init_4 : decode cX3_init 4 = .ok (.aload_n 0, 1) := by decide +kernel
theorem dX3_init_5 : decode cX3_init 5 = .ok (.bipush 8, 2) := by decide +kernel
theorem dX3_init_7 : decode cX3_init 7 = .ok (.bipush 40, 2) := by decide +kernel
theorem dX3_init_9 : decode cX3_init 9 = .ok (.multianewarray 9 2, 4) := by decide +kernel
theorem dX3_init_13 : decode cX3_init 13 = .ok (.putfield 11, 3) := by decide +kernel
theorem dX3_init_16 : decode cX3_init 16 = .ok (.aload_n 0, 1) := by decide +kernel
theorem dX3_init_17 : decode cX3_init 17 = .ok (.bipush 8, 2) := by decide +kernel
theorem dX3_init_19 : decode cX3_init 19 = .ok (.newarray .int, 2) := by decide +kernel
theorem dX3_init_21 : decode cX3_init 21 = .ok (.putfield 16, 3) := by decide +kernel
theorem dX3_init_24 : decode cX3_init 24 = .ok (.aload_n 0, 1) := by decide +kernel
theorem dX3_init_25 : decode cX3_init 25 = .ok (.bipush 8, 2) := by decide +kernel
theorem dX3_init_27 : decode cX3_init 27 = .ok (.newarray .int, 2) := by decide +kernel
theorem dX3_init_29 : decode cX3_init 29 = .ok (.putfield 20, 3) := by decide +kernel
theorem dX3_init_32 : decode cX3_init 32 = .ok (.aload_n 0, 1) := by decide +kernel
theorem dX3_init_33 : decode cX3_init 33 = .ok (.getfield 20, 3) := by decide +kernel
theorem dX3_init_36 : decode cX3_init 36 = .ok (.iconst (-1), 1) := by decide +kernel
theorem dX3_init_37 : decode cX3_init 37 = .ok (.invokestatic 23, 3) := by decide +kernel
theorem dX3_init_40 : decode cX3_init 40 = .ok (.return_, 1) := by decide +kernel
theorem dX3_isRow_0 : decode cX3_isRow 0 = .ok (.iload_n 1, 1) := by decide +kernel
theorem dX3_isRow_1 : decode cX3_isRow 1 = .ok (.iconst 0, 1) := by decide +kernel
theorem dX3_isRow_2 : decode cX3_isRow 2 = .ok (.bipush 7, 2) := by decide +kernel
theorem dX3_isRow_4 : decode cX3_isRow 4 = .ok (.invokestatic 29, 3) := by decide +kernel
theorem dX3_isRow_7 : decode cX3_isRow 7 = .ok (.ireturn, 1) := by decide +kernel
theorem dX3_isMissing_0 : decode cX3_isMissing 0 = .ok (.aload_n 0, 1) := by decide +kernel
theorem dX3_isMissing_1 : decode cX3_isMissing 1 = .ok (.getfield 20, 3) := by decide +kernel
theorem dX3_isMissing_4 : decode cX3_isMissing 4 = .ok (.iload_n 1, 1) := by decide +kernel
theorem dX3_isMissing_5 : decode cX3_isMissing 5 = .ok (.iaload, 1) := by decide +kernel
theorem dX3_isMissing_6 : decode cX3_isMissing 6 = .ok (.iconst (-1), 1) := by decide +kernel
theorem dX3_isMissing_7 : decode cX3_isMissing 7 = .ok (.if_icmp .ne 7, 3) := by decide +kernel
theorem dX3_isMissing_10 : decode cX3_isMissing 10 = .ok (.iconst 1, 1) := by decide +kernel
theorem dX3_isMissing_11 : decode cX3_isMissing 11 = .ok (.goto 4, 3) := by decide +kernel
theorem dX3_isMissing_14 : decode cX3_isMissing 14 = .ok (.iconst 0, 1) := by decide +kernel
theorem dX3_isMissing_15 : decode cX3_isMissing 15 = .ok (.ireturn, 1) := by decide +kernel
theorem dX3_laneOf_0 : decode cX3_laneOf 0 = .ok (.aload_n 0, 1) := by decide +kernel
theorem dX3_laneOf_1 : decode cX3_laneOf 1 = .ok (.getfield 16, 3) := by decide +kernel
theorem dX3_laneOf_4 : decode cX3_laneOf 4 = .ok (.iload_n 1, 1) := by decide +kernel
theorem dX3_laneOf_5 : decode cX3_laneOf 5 = .ok (.iaload, 1) := by decide +kernel
theorem dX3_laneOf_6 : decode cX3_laneOf 6 = .ok (.ireturn, 1) := by decide +kernel
theorem dX3_hasItems_0 : decode cX3_hasItems 0 = .ok (.iload_n 2, 1) := by decide +kernel
theorem dX3_hasItems_1 : decode cX3_hasItems 1 = .ok (.ifCond .lt 27, 3) := by decide +kernel
theorem dX3_hasItems_4 : decode cX3_hasItems 4 = .ok (.iload_n 3, 1) := by decide +kernel
theorem dX3_hasItems_5 : decode cX3_hasItems 5 = .ok (.ifCond .lt 23, 3) := by decide +kernel
theorem dX3_hasItems_8 : decode cX3_hasItems 8 = .ok (.iload_n 2, 1) := by decide +kernel
theorem dX3_hasItems_9 : decode cX3_hasItems 9 = .ok (.i2l, 1) := by decide +kernel
theorem dX3_hasItems_10 : decode cX3_hasItems 10 = .ok (.iload_n 3, 1) := by decide +kernel
theorem dX3_hasItems_11 : decode cX3_hasItems 11 = .ok (.i2l, 1) := by decide +kernel
theorem dX3_hasItems_12 : decode cX3_hasItems 12 = .ok (.ladd, 1) := by decide +kernel
theorem dX3_hasItems_13 : decode cX3_hasItems 13 = .ok (.aload_n 0, 1) := by decide +kernel
theorem dX3_hasItems_14 : decode cX3_hasItems 14 = .ok (.getfield 20, 3) := by decide +kernel
theorem dX3_hasItems_17 : decode cX3_hasItems 17 = .ok (.iload_n 1, 1) := by decide +kernel
theorem dX3_hasItems_18 : decode cX3_hasItems 18 = .ok (.iaload, 1) := by decide +kernel
theorem dX3_hasItems_19 : decode cX3_hasItems 19 = .ok (.i2l, 1) := by decide +kernel
theorem dX3_hasItems_20 : decode cX3_hasItems 20 = .ok (.lcmp, 1) := by decide +kernel
theorem dX3_hasItems_21 : decode cX3_hasItems 21 = .ok (.ifCond .gt 7, 3) := by decide +kernel
theorem dX3_hasItems_24 : decode cX3_hasItems 24 = .ok (.iconst 1, 1) := by decide +kernel
theorem dX3_hasItems_25 : decode cX3_hasItems 25 = .ok (.goto 4, 3) := by decide +kernel
theorem dX3_hasItems_28 : decode cX3_hasItems 28 = .ok (.iconst 0, 1) := by decide +kernel
theorem dX3_hasItems_29 : decode cX3_hasItems 29 = .ok (.ireturn, 1) := by decide +kernel
theorem dX3_make_0 : decode cX3_make 0 = .ok (.aload_n 0, 1) := by decide +kernel
theorem dX3_make_1 : decode cX3_make 1 = .ok (.getfield 11, 3) := by decide +kernel
theorem dX3_make_4 : decode cX3_make 4 = .ok (.iload_n 1, 1) := by decide +kernel
theorem dX3_make_5 : decode cX3_make 5 = .ok (.aaload, 1) := by decide +kernel
theorem dX3_make_6 : decode cX3_make 6 = .ok (.iconst 0, 1) := by decide +kernel
theorem dX3_make_7 : decode cX3_make 7 = .ok (.invokestatic 23, 3) := by decide +kernel
theorem dX3_make_10 : decode cX3_make 10 = .ok (.aload_n 0, 1) := by decide +kernel
theorem dX3_make_11 : decode cX3_make 11 = .ok (.getfield 16, 3) := by decide +kernel
theorem dX3_make_14 : decode cX3_make 14 = .ok (.iload_n 1, 1) := by decide +kernel
theorem dX3_make_15 : decode cX3_make 15 = .ok (.iload_n 2, 1) := by decide +kernel
theorem dX3_make_16 : decode cX3_make 16 = .ok (.iastore, 1) := by decide +kernel
theorem dX3_make_17 : decode cX3_make 17 = .ok (.aload_n 0, 1) := by decide +kernel
theorem dX3_make_18 : decode cX3_make 18 = .ok (.getfield 20, 3) := by decide +kernel
theorem dX3_make_21 : decode cX3_make 21 = .ok (.iload_n 1, 1) := by decide +kernel
theorem dX3_make_22 : decode cX3_make 22 = .ok (.iload_n 3, 1) := by decide +kernel
theorem dX3_make_23 : decode cX3_make 23 = .ok (.iastore, 1) := by decide +kernel
theorem dX3_make_24 : decode cX3_make 24 = .ok (.return_, 1) := by decide +kernel
theorem dX3_put_0 : decode cX3_put 0 = .ok (.iload_n 3, 1) := by decide +kernel
theorem dX3_put_1 : decode cX3_put 1 = .ok (.istore 4, 2) := by decide +kernel
theorem dX3_put_3 : decode cX3_put 3 = .ok (.aload_n 0, 1) := by decide +kernel
theorem dX3_put_4 : decode cX3_put 4 = .ok (.getfield 16, 3) := by decide +kernel
theorem dX3_put_7 : decode cX3_put 7 = .ok (.iload_n 1, 1) := by decide +kernel
theorem dX3_put_8 : decode cX3_put 8 = .ok (.iaload, 1) := by decide +kernel
theorem dX3_put_9 : decode cX3_put 9 = .ok (.ifCond .ne 10, 3) := by decide +kernel
theorem dX3_put_12 : decode cX3_put 12 = .ok (.iload_n 3, 1) := by decide +kernel
theorem dX3_put_13 : decode cX3_put 13 = .ok (.i2b, 1) := by decide +kernel
theorem dX3_put_14 : decode cX3_put 14 = .ok (.istore 4, 2) := by decide +kernel
theorem dX3_put_16 : decode cX3_put 16 = .ok (.goto 17, 3) := by decide +kernel
theorem dX3_put_19 : decode cX3_put 19 = .ok (.aload_n 0, 1) := by decide +kernel
theorem dX3_put_20 : decode cX3_put 20 = .ok (.getfield 16, 3) := by decide +kernel
theorem dX3_put_23 : decode cX3_put 23 = .ok (.iload_n 1, 1) := by decide +kernel
theorem dX3_put_24 : decode cX3_put 24 = .ok (.iaload, 1) := by decide +kernel
theorem dX3_put_25 : decode cX3_put 25 = .ok (.iconst 1, 1) := by decide +kernel
theorem dX3_put_26 : decode cX3_put 26 = .ok (.if_icmp .ne 7, 3) := by decide +kernel
theorem dX3_put_29 : decode cX3_put 29 = .ok (.iload_n 3, 1) := by decide +kernel
theorem dX3_put_30 : decode cX3_put 30 = .ok (.i2s, 1) := by decide +kernel
theorem dX3_put_31 : decode cX3_put 31 = .ok (.istore 4, 2) := by decide +kernel
theorem dX3_put_33 : decode cX3_put 33 = .ok (.aload_n 0, 1) := by decide +kernel
theorem dX3_put_34 : decode cX3_put 34 = .ok (.getfield 11, 3) := by decide +kernel
theorem dX3_put_37 : decode cX3_put 37 = .ok (.iload_n 1, 1) := by decide +kernel
theorem dX3_put_38 : decode cX3_put 38 = .ok (.aaload, 1) := by decide +kernel
theorem dX3_put_39 : decode cX3_put 39 = .ok (.iload_n 2, 1) := by decide +kernel
theorem dX3_put_40 : decode cX3_put 40 = .ok (.iload 4, 2) := by decide +kernel
theorem dX3_put_42 : decode cX3_put 42 = .ok (.iastore, 1) := by decide +kernel
theorem dX3_put_43 : decode cX3_put 43 = .ok (.iload 4, 2) := by decide +kernel
theorem dX3_put_45 : decode cX3_put 45 = .ok (.ireturn, 1) := by decide +kernel
theorem dX3_itemAt_0 : decode cX3_itemAt 0 = .ok (.aload_n 0, 1) := by decide +kernel
theorem dX3_itemAt_1 : decode cX3_itemAt 1 = .ok (.getfield 11, 3) := by decide +kernel
theorem dX3_itemAt_4 : decode cX3_itemAt 4 = .ok (.iload_n 1, 1) := by decide +kernel
theorem dX3_itemAt_5 : decode cX3_itemAt 5 = .ok (.aaload, 1) := by decide +kernel
theorem dX3_itemAt_6 : decode cX3_itemAt 6 = .ok (.iload_n 2, 1) := by decide +kernel
theorem dX3_itemAt_7 : decode cX3_itemAt 7 = .ok (.iaload, 1) := by decide +kernel
theorem dX3_itemAt_8 : decode cX3_itemAt 8 = .ok (.ireturn, 1) := by decide +kernel
theorem dX3_carry_0 : decode cX3_carry 0 = .ok (.aload_n 0, 1) := by decide +kernel
theorem dX3_carry_1 : decode cX3_carry 1 = .ok (.getfield 11, 3) := by decide +kernel
theorem dX3_carry_4 : decode cX3_carry 4 = .ok (.iload_n 1, 1) := by decide +kernel
theorem dX3_carry_5 : decode cX3_carry 5 = .ok (.aaload, 1) := by decide +kernel
theorem dX3_carry_6 : decode cX3_carry 6 = .ok (.iload_n 2, 1) := by decide +kernel
theorem dX3_carry_7 : decode cX3_carry 7 = .ok (.aload_n 0, 1) := by decide +kernel
theorem dX3_carry_8 : decode cX3_carry 8 = .ok (.getfield 11, 3) := by decide +kernel
theorem dX3_carry_11 : decode cX3_carry 11 = .ok (.iload_n 3, 1) := by decide +kernel
theorem dX3_carry_12 : decode cX3_carry 12 = .ok (.aaload, 1) := by decide +kernel
theorem dX3_carry_13 : decode cX3_carry 13 = .ok (.iload 4, 2) := by decide +kernel
theorem dX3_carry_15 : decode cX3_carry 15 = .ok (.iload 5, 2) := by decide +kernel
theorem dX3_carry_17 : decode cX3_carry 17 = .ok (.invokestatic 33, 3) := by decide +kernel
theorem dX3_carry_20 : decode cX3_carry 20 = .ok (.return_, 1) := by decide +kernel
theorem dX3_remove_0 : decode cX3_remove 0 = .ok (.aload_n 0, 1) := by decide +kernel
theorem dX3_remove_1 : decode cX3_remove 1 = .ok (.getfield 20, 3) := by decide +kernel
theorem dX3_remove_4 : decode cX3_remove 4 = .ok (.iload_n 1, 1) := by decide +kernel
theorem dX3_remove_5 : decode cX3_remove 5 = .ok (.iaload, 1) := by decide +kernel
theorem dX3_remove_6 : decode cX3_remove 6 = .ok (.istore_n 2, 1) := by decide +kernel
theorem dX3_remove_7 : decode cX3_remove 7 = .ok (.aload_n 0, 1) := by decide +kernel
theorem dX3_remove_8 : decode cX3_remove 8 = .ok (.getfield 20, 3) := by decide +kernel
theorem dX3_remove_11 : decode cX3_remove 11 = .ok (.iload_n 1, 1) := by decide +kernel
theorem dX3_remove_12 : decode cX3_remove 12 = .ok (.iconst (-1), 1) := by decide +kernel
theorem dX3_remove_13 : decode cX3_remove 13 = .ok (.iastore, 1) := by decide +kernel
theorem dX3_remove_14 : decode cX3_remove 14 = .ok (.iload_n 2, 1) := by decide +kernel
theorem dX3_remove_15 : decode cX3_remove 15 = .ok (.ireturn, 1) := by decide +kernel
theorem dX3_present_0 : decode cX3_present 0 = .ok (.iconst 0, 1) := by decide +kernel
theorem dX3_present_1 : decode cX3_present 1 = .ok (.istore_n 1, 1) := by decide +kernel
theorem dX3_present_2 : decode cX3_present 2 = .ok (.iconst 0, 1) := by decide +kernel
theorem dX3_present_3 : decode cX3_present 3 = .ok (.istore_n 2, 1) := by decide +kernel
theorem dX3_present_4 : decode cX3_present 4 = .ok (.iload_n 2, 1) := by decide +kernel
theorem dX3_present_5 : decode cX3_present 5 = .ok (.bipush 8, 2) := by decide +kernel
theorem dX3_present_7 : decode cX3_present 7 = .ok (.if_icmp .ge 20, 3) := by decide +kernel
theorem dX3_present_10 : decode cX3_present 10 = .ok (.aload_n 0, 1) := by decide +kernel
theorem dX3_present_11 : decode cX3_present 11 = .ok (.iload_n 2, 1) := by decide +kernel
theorem dX3_present_12 : decode cX3_present 12 = .ok (.invokevirtual 39, 3) := by decide +kernel
theorem dX3_present_15 : decode cX3_present 15 = .ok (.ifCond .ne 6, 3) := by decide +kernel
theorem dX3_present_18 : decode cX3_present 18 = .ok (.iinc 1 1, 3) := by decide +kernel
theorem dX3_present_21 : decode cX3_present 21 = .ok (.iinc 2 1, 3) := by decide +kernel
theorem dX3_present_24 : decode cX3_present 24 = .ok (.goto (-20), 3) := by decide +kernel
theorem dX3_present_27 : decode cX3_present 27 = .ok (.iload_n 1, 1) := by decide +kernel
theorem dX3_present_28 : decode cX3_present 28 = .ok (.ireturn, 1) := by decide +kernel
theorem dX4_init_0 : decode cX4_init 0 = .ok (.aload_n 0, 1) := by decide +kernel
theorem dX4_init_1 : decode cX4_init 1 = .ok (.invokespecial 3, 3) := by decide +kernel
theorem dX4_init_4 : decode cX4_init 4 = .ok (.aload_n 0, 1) := by decide +kernel
theorem dX4_init_5 : decode cX4_init 5 = .ok (.ldc 9, 2) := by decide +kernel
theorem dX4_init_7 : decode cX4_init 7 = .ok (.putfield 10, 3) := by decide +kernel
theorem dX4_init_10 : decode cX4_init 10 = .ok (.aload_n 0, 1) := by decide +kernel
theorem dX4_init_11 : decode cX4_init 11 = .ok (.bipush 6, 2) := by decide +kernel
theorem dX4_init_13 : decode cX4_init 13 = .ok (.newarray .int, 2) := by decide +kernel
theorem dX4_init_15 : decode cX4_init 15 = .ok (.putfield 16, 3) := by decide +kernel
theorem dX4_init_18 : decode cX4_init 18 = .ok (.aload_n 0, 1) := by decide +kernel
theorem dX4_init_19 : decode cX4_init 19 = .ok (.bipush 6, 2) := by decide +kernel
theorem dX4_init_21 : decode cX4_init 21 = .ok (.newarray .int, 2) := by decide +kernel
theorem dX4_init_23 : decode cX4_init 23 = .ok (.putfield 20, 3) := by decide +kernel
theorem dX4_init_26 : decode cX4_init 26 = .ok (.aload_n 0, 1) := by decide +kernel
theorem dX4_init_27 : decode cX4_init 27 = .ok (.bipush 6, 2) := by decide +kernel
theorem dX4_init_29 : decode cX4_init 29 = .ok (.newarray .int, 2) := by decide +kernel
theorem dX4_init_31 : decode cX4_init 31 = .ok (.putfield 23, 3) := by decide +kernel
theorem dX4_init_34 : decode cX4_init 34 = .ok (.aload_n 0, 1) := by decide +kernel
theorem dX4_init_35 : decode cX4_init 35 = .ok (.bipush 6, 2) := by decide +kernel
theorem dX4_init_37 : decode cX4_init 37 = .ok (.newarray .int, 2) := by decide +kernel
theorem dX4_init_39 : decode cX4_init 39 = .ok (.putfield 26, 3) := by decide +kernel
theorem dX4_init_42 : decode cX4_init 42 = .ok (.return_, 1) := by decide +kernel
theorem dX4_take_0 : decode cX4_take 0 = .ok (.aload_n 0, 1) := by decide +kernel
theorem dX4_take_1 : decode cX4_take 1 = .ok (.aload_n 1, 1) := by decide +kernel
theorem dX4_take_2 : decode cX4_take 2 = .ok (.getfield 29, 3) := by decide +kernel
theorem dX4_take_5 : decode cX4_take 5 = .ok (.putfield 29, 3) := by decide +kernel
theorem dX4_take_8 : decode cX4_take 8 = .ok (.aload_n 0, 1) := by decide +kernel
theorem dX4_take_9 : decode cX4_take 9 = .ok (.aload_n 1, 1) := by decide +kernel
theorem dX4_take_10 : decode cX4_take 10 = .ok (.getfield 32, 3) := by decide +kernel
theorem dX4_take_13 : decode cX4_take 13 = .ok (.putfield 32, 3) := by decide +kernel
theorem dX4_take_16 : decode cX4_take 16 = .ok (.aload_n 0, 1) := by decide +kernel
theorem dX4_take_17 : decode cX4_take 17 = .ok (.aload_n 1, 1) := by decide +kernel
theorem dX4_take_18 : decode cX4_take 18 = .ok (.getfield 35, 3) := by decide +kernel
theorem dX4_take_21 : decode cX4_take 21 = .ok (.putfield 35, 3) := by decide +kernel
theorem dX4_take_24 : decode cX4_take 24 = .ok (.aload_n 0, 1) := by decide +kernel
theorem dX4_take_25 : decode cX4_take 25 = .ok (.aload_n 1, 1) := by decide +kernel
theorem dX4_take_26 : decode cX4_take 26 = .ok (.getfield 38, 3) := by decide +kernel
theorem dX4_take_29 : decode cX4_take 29 = .ok (.putfield 38, 3) := by decide +kernel
theorem dX4_take_32 : decode cX4_take 32 = .ok (.aload_n 0, 1) := by decide +kernel
theorem dX4_take_33 : decode cX4_take 33 = .ok (.aload_n 1, 1) := by decide +kernel
theorem dX4_take_34 : decode cX4_take 34 = .ok (.getfield 41, 3) := by decide +kernel
theorem dX4_take_37 : decode cX4_take 37 = .ok (.putfield 41, 3) := by decide +kernel
theorem dX4_take_40 : decode cX4_take 40 = .ok (.aload_n 0, 1) := by decide +kernel
theorem dX4_take_41 : decode cX4_take 41 = .ok (.aload_n 1, 1) := by decide +kernel
theorem dX4_take_42 : decode cX4_take 42 = .ok (.getfield 44, 3) := by decide +kernel
theorem dX4_take_45 : decode cX4_take 45 = .ok (.putfield 44, 3) := by decide +kernel
theorem dX4_take_48 : decode cX4_take 48 = .ok (.aload_n 0, 1) := by decide +kernel
theorem dX4_take_49 : decode cX4_take 49 = .ok (.aload_n 1, 1) := by decide +kernel
theorem dX4_take_50 : decode cX4_take 50 = .ok (.getfield 47, 3) := by decide +kernel
theorem dX4_take_53 : decode cX4_take 53 = .ok (.putfield 47, 3) := by decide +kernel
theorem dX4_take_56 : decode cX4_take 56 = .ok (.aload_n 1, 1) := by decide +kernel
theorem dX4_take_57 : decode cX4_take 57 = .ok (.getfield 16, 3) := by decide +kernel
theorem dX4_take_60 : decode cX4_take 60 = .ok (.iconst 0, 1) := by decide +kernel
theorem dX4_take_61 : decode cX4_take 61 = .ok (.aload_n 0, 1) := by decide +kernel
theorem dX4_take_62 : decode cX4_take 62 = .ok (.getfield 16, 3) := by decide +kernel
theorem dX4_take_65 : decode cX4_take 65 = .ok (.iconst 0, 1) := by decide +kernel
theorem dX4_take_66 : decode cX4_take 66 = .ok (.bipush 6, 2) := by decide +kernel
theorem dX4_take_68 : decode cX4_take 68 = .ok (.invokestatic 50, 3) := by decide +kernel
theorem dX4_take_71 : decode cX4_take 71 = .ok (.aload_n 1, 1) := by decide +kernel
theorem dX4_take_72 : decode cX4_take 72 = .ok (.getfield 20, 3) := by decide +kernel
theorem dX4_take_75 : decode cX4_take 75 = .ok (.iconst 0, 1) := by decide +kernel
theorem dX4_take_76 : decode cX4_take 76 = .ok (.aload_n 0, 1) := by decide +kernel
theorem dX4_take_77 : decode cX4_take 77 = .ok (.getfield 20, 3) := by decide +kernel
theorem dX4_take_80 : decode cX4_take 80 = .ok (.iconst 0, 1) := by decide +kernel
theorem dX4_take_81 : decode cX4_take 81 = .ok (.bipush 6, 2) := by decide +kernel
theorem dX4_take_83 : decode cX4_take 83 = .ok (.invokestatic 50, 3) := by decide +kernel
theorem dX4_take_86 : decode cX4_take 86 = .ok (.aload_n 1, 1) := by decide +kernel
theorem dX4_take_87 : decode cX4_take 87 = .ok (.getfield 23, 3) := by decide +kernel
theorem dX4_take_90 : decode cX4_take 90 = .ok (.iconst 0, 1) := by decide +kernel
theorem dX4_take_91 : decode cX4_take 91 = .ok (.aload_n 0, 1) := by decide +kernel
theorem dX4_take_92 : decode cX4_take 92 = .ok (.getfield 23, 3) := by decide +kernel
theorem dX4_take_95 : decode cX4_take 95 = .ok (.iconst 0, 1) := by decide +kernel
theorem dX4_take_96 : decode cX4_take 96 = .ok (.bipush 6, 2) := by decide +kernel
theorem dX4_take_98 : decode cX4_take 98 = .ok (.invokestatic 50, 3) := by decide +kernel
theorem dX4_take_101 : decode cX4_take 101 = .ok (.aload_n 1, 1) := by decide +kernel
theorem dX4_take_102 : decode cX4_take 102 = .ok (.getfield 26, 3) := by decide +kernel
theorem dX4_take_105 : decode cX4_take 105 = .ok (.iconst 0, 1) := by decide +kernel
theorem dX4_take_106 : decode cX4_take 106 = .ok (.aload_n 0, 1) := by decide +kernel
theorem dX4_take_107 : decode cX4_take 107 = .ok (.getfield 26, 3) := by decide +kernel
theorem dX4_take_110 : decode cX4_take 110 = .ok (.iconst 0, 1) := by decide +kernel
theorem dX4_take_111 : decode cX4_take 111 = .ok (.bipush 6, 2) := by decide +kernel
theorem dX4_take_113 : decode cX4_take 113 = .ok (.invokestatic 50, 3) := by decide +kernel
theorem dX4_take_116 : decode cX4_take 116 = .ok (.return_, 1) := by decide +kernel
theorem dX4_has_0 : decode cX4_has 0 = .ok (.iload_n 1, 1) := by decide +kernel
theorem dX4_has_1 : decode cX4_has 1 = .ok (.ifCond .lt 15, 3) := by decide +kernel
theorem dX4_has_4 : decode cX4_has 4 = .ok (.iload_n 1, 1) := by decide +kernel
theorem dX4_has_5 : decode cX4_has 5 = .ok (.aload_n 0, 1) := by decide +kernel
theorem dX4_has_6 : decode cX4_has 6 = .ok (.getfield 29, 3) := by decide +kernel
theorem dX4_has_9 : decode cX4_has 9 = .ok (.if_icmp .ge 7, 3) := by decide +kernel
theorem dX4_has_12 : decode cX4_has 12 = .ok (.iconst 1, 1) := by decide +kernel
theorem dX4_has_13 : decode cX4_has 13 = .ok (.goto 4, 3) := by decide +kernel
theorem dX4_has_16 : decode cX4_has 16 = .ok (.iconst 0, 1) := by decide +kernel
theorem dX4_has_17 : decode cX4_has 17 = .ok (.ireturn, 1) := by decide +kernel
theorem dX4_isHidden_0 : decode cX4_isHidden 0 = .ok (.aload_n 0, 1) := by decide +kernel
theorem dX4_isHidden_1 : decode cX4_isHidden 1 = .ok (.getfield 47, 3) := by decide +kernel
theorem dX4_isHidden_4 : decode cX4_isHidden 4 = .ok (.iload_n 1, 1) := by decide +kernel
theorem dX4_isHidden_5 : decode cX4_isHidden 5 = .ok (.ishr, 1) := by decide +kernel
theorem dX4_isHidden_6 : decode cX4_isHidden 6 = .ok (.iconst 1, 1) := by decide +kernel
theorem dX4_isHidden_7 : decode cX4_isHidden 7 = .ok (.iand, 1) := by decide +kernel
theorem dX4_isHidden_8 : decode cX4_isHidden 8 = .ok (.ifCond .eq 7, 3) := by decide +kernel
theorem dX4_isHidden_11 : decode cX4_isHidden 11 = .ok (.iconst 1, 1) := by decide +kernel
theorem dX4_isHidden_12 : decode cX4_isHidden 12 = .ok (.goto 4, 3) := by decide +kernel
theorem dX4_isHidden_15 : decode cX4_isHidden 15 = .ok (.iconst 0, 1) := by decide +kernel
theorem dX4_isHidden_16 : decode cX4_isHidden 16 = .ok (.ireturn, 1) := by decide +kernel
theorem dX4_allBits_0 : decode cX4_allBits 0 = .ok (.iconst 1, 1) := by decide +kernel
theorem dX4_allBits_1 : decode cX4_allBits 1 = .ok (.aload_n 0, 1) := by decide +kernel
theorem dX4_allBits_2 : decode cX4_allBits 2 = .ok (.getfield 29, 3) := by decide +kernel
theorem dX4_allBits_5 : decode cX4_allBits 5 = .ok (.ishl, 1) := by decide +kernel
theorem dX4_allBits_6 : decode cX4_allBits 6 = .ok (.iconst 1, 1) := by decide +kernel
theorem dX4_allBits_7 : decode cX4_allBits 7 = .ok (.isub, 1) := by decide +kernel
theorem dX4_allBits_8 : decode cX4_allBits 8 = .ok (.ireturn, 1) := by decide +kernel
theorem dX4_nearOf_0 : decode cX4_nearOf 0 = .ok (.aload_n 0, 1) := by decide +kernel
theorem dX4_nearOf_1 : decode cX4_nearOf 1 = .ok (.getfield 20, 3) := by decide +kernel
theorem dX4_nearOf_4 : decode cX4_nearOf 4 = .ok (.iload_n 1, 1) := by decide +kernel
theorem dX4_nearOf_5 : decode cX4_nearOf 5 = .ok (.iaload, 1) := by decide +kernel
theorem dX4_nearOf_6 : decode cX4_nearOf 6 = .ok (.aload_n 0, 1) := by decide +kernel
theorem dX4_nearOf_7 : decode cX4_nearOf 7 = .ok (.getfield 32, 3) := by decide +kernel
theorem dX4_nearOf_10 : decode cX4_nearOf 10 = .ok (.isub, 1) := by decide +kernel
theorem dX4_nearOf_11 : decode cX4_nearOf 11 = .ok (.invokestatic 56, 3) := by decide +kernel
theorem dX4_nearOf_14 : decode cX4_nearOf 14 = .ok (.aload_n 0, 1) := by decide +kernel
theorem dX4_nearOf_15 : decode cX4_nearOf 15 = .ok (.getfield 23, 3) := by decide +kernel
theorem dX4_nearOf_18 : decode cX4_nearOf 18 = .ok (.iload_n 1, 1) := by decide +kernel
theorem dX4_nearOf_19 : decode cX4_nearOf 19 = .ok (.iaload, 1) := by decide +kernel
theorem dX4_nearOf_20 : decode cX4_nearOf 20 = .ok (.iadd, 1) := by decide +kernel
theorem dX4_nearOf_21 : decode cX4_nearOf 21 = .ok (.ireturn, 1) := by decide +kernel
theorem dX4_allLetters_0 : decode cX4_allLetters 0 = .ok (.iconst 0, 1) := by decide +kernel
theorem dX4_allLetters_1 : decode cX4_allLetters 1 = .ok (.istore_n 1, 1) := by decide +kernel
theorem dX4_allLetters_2 : decode cX4_allLetters 2 = .ok (.iconst 0, 1) := by decide +kernel
theorem dX4_allLetters_3 : decode cX4_allLetters 3 = .ok (.istore_n 2, 1) := by decide +kernel
theorem dX4_allLetters_4 : decode cX4_allLetters 4 = .ok (.iload_n 2, 1) := by decide +kernel
theorem dX4_allLetters_5 : decode cX4_allLetters 5 = .ok (.aload_n 0, 1) := by decide +kernel
theorem dX4_allLetters_6 : decode cX4_allLetters 6 = .ok (.getfield 29, 3) := by decide +kernel
theorem dX4_allLetters_9 : decode cX4_allLetters 9 = .ok (.if_icmp .ge 18, 3) := by decide +kernel
theorem dX4_allLetters_12 : decode cX4_allLetters 12 = .ok (.iload_n 1, 1) := by decide +kernel
theorem dX4_allLetters_13 : decode cX4_allLetters 13 = .ok (.aload_n 0, 1) := by decide +kernel
theorem dX4_allLetters_14 : decode cX4_allLetters 14 = .ok (.getfield 26, 3) := by decide +kernel
theorem dX4_allLetters_17 : decode cX4_allLetters 17 = .ok (.iload_n 2, 1) := by decide +kernel
theorem dX4_allLetters_18 : decode cX4_allLetters 18 = .ok (.iaload, 1) := by decide +kernel
theorem dX4_allLetters_19 : decode cX4_allLetters 19 = .ok (.iadd, 1) := by decide +kernel
theorem dX4_allLetters_20 : decode cX4_allLetters 20 = .ok (.istore_n 1, 1) := by decide +kernel
theorem dX4_allLetters_21 : decode cX4_allLetters 21 = .ok (.iinc 2 1, 3) := by decide +kernel
theorem dX4_allLetters_24 : decode cX4_allLetters 24 = .ok (.goto (-20), 3) := by decide +kernel
theorem dX4_allLetters_27 : decode cX4_allLetters 27 = .ok (.iload_n 1, 1) := by decide +kernel
theorem dX4_allLetters_28 : decode cX4_allLetters 28 = .ok (.ireturn, 1) := by decide +kernel
theorem dX4_namelessBits_0 : decode cX4_namelessBits 0 = .ok (.iconst 0, 1) := by decide +kernel
theorem dX4_namelessBits_1 : decode cX4_namelessBits 1 = .ok (.istore_n 1, 1) := by decide +kernel
theorem dX4_namelessBits_2 : decode cX4_namelessBits 2 = .ok (.iconst 0, 1) := by decide +kernel
theorem dX4_namelessBits_3 : decode cX4_namelessBits 3 = .ok (.istore_n 2, 1) := by decide +kernel
theorem dX4_namelessBits_4 : decode cX4_namelessBits 4 = .ok (.iload_n 2, 1) := by decide +kernel
theorem dX4_namelessBits_5 : decode cX4_namelessBits 5 = .ok (.aload_n 0, 1) := by decide +kernel
theorem dX4_namelessBits_6 : decode cX4_namelessBits 6 = .ok (.getfield 29, 3) := by decide +kernel
theorem dX4_namelessBits_9 : decode cX4_namelessBits 9 = .ok (.if_icmp .ge 24, 3) := by decide +kernel
theorem dX4_namelessBits_12 : decode cX4_namelessBits 12 = .ok (.aload_n 0, 1) := by decide +kernel
theorem dX4_namelessBits_13 : decode cX4_namelessBits 13 = .ok (.getfield 26, 3) := by decide +kernel
theorem dX4_namelessBits_16 : decode cX4_namelessBits 16 = .ok (.iload_n 2, 1) := by decide +kernel
theorem dX4_namelessBits_17 : decode cX4_namelessBits 17 = .ok (.iaload, 1) := by decide +kernel
theorem dX4_namelessBits_18 : decode cX4_namelessBits 18 = .ok (.ifCond .ne 9, 3) := by decide +kernel
theorem dX4_namelessBits_21 : decode cX4_namelessBits 21 = .ok (.iload_n 1, 1) := by decide +kernel
theorem dX4_namelessBits_22 : decode cX4_namelessBits 22 = .ok (.iconst 1, 1) := by decide +kernel
theorem dX4_namelessBits_23 : decode cX4_namelessBits 23 = .ok (.iload_n 2, 1) := by decide +kernel
theorem dX4_namelessBits_24 : decode cX4_namelessBits 24 = .ok (.ishl, 1) := by decide +kernel
theorem dX4_namelessBits_25 : decode cX4_namelessBits 25 = .ok (.ior, 1) := by decide +kernel
theorem dX4_namelessBits_26 : decode cX4_namelessBits 26 = .ok (.istore_n 1, 1) := by decide +kernel
theorem dX4_namelessBits_27 : decode cX4_namelessBits 27 = .ok (.iinc 2 1, 3) := by decide +kernel
theorem dX4_namelessBits_30 : decode cX4_namelessBits 30 = .ok (.goto (-26), 3) := by decide +kernel
theorem dX4_namelessBits_33 : decode cX4_namelessBits 33 = .ok (.iload_n 1, 1) := by decide +kernel
theorem dX4_namelessBits_34 : decode cX4_namelessBits 34 = .ok (.ireturn, 1) := by decide +kernel
theorem dX4_nextBitten_0 : decode cX4_nextBitten 0 = .ok (.aload_n 0, 1) := by decide +kernel
theorem dX4_nextBitten_1 : decode cX4_nextBitten 1 = .ok (.getfield 38, 3) := by decide +kernel
theorem dX4_nextBitten_4 : decode cX4_nextBitten 4 = .ok (.ifCond .le 6, 3) := by decide +kernel
theorem dX4_nextBitten_7 : decode cX4_nextBitten 7 = .ok (.ldc 9, 2) := by decide +kernel
theorem dX4_nextBitten_9 : decode cX4_nextBitten 9 = .ok (.ireturn, 1) := by decide +kernel
theorem dX4_nextBitten_10 : decode cX4_nextBitten 10 = .ok (.ldc 9, 2) := by decide +kernel
theorem dX4_nextBitten_12 : decode cX4_nextBitten 12 = .ok (.istore_n 1, 1) := by decide +kernel
theorem dX4_nextBitten_13 : decode cX4_nextBitten 13 = .ok (.iconst 0, 1) := by decide +kernel
theorem dX4_nextBitten_14 : decode cX4_nextBitten 14 = .ok (.istore_n 2, 1) := by decide +kernel
theorem dX4_nextBitten_15 : decode cX4_nextBitten 15 = .ok (.iconst 0, 1) := by decide +kernel
theorem dX4_nextBitten_16 : decode cX4_nextBitten 16 = .ok (.istore_n 3, 1) := by decide +kernel
theorem dX4_nextBitten_17 : decode cX4_nextBitten 17 = .ok (.iload_n 3, 1) := by decide +kernel
theorem dX4_nextBitten_18 : decode cX4_nextBitten 18 = .ok (.aload_n 0, 1) := by decide +kernel
theorem dX4_nextBitten_19 : decode cX4_nextBitten 19 = .ok (.getfield 29, 3) := by decide +kernel
theorem dX4_nextBitten_22 : decode cX4_nextBitten 22 = .ok (.if_icmp .ge 72, 3) := by decide +kernel
theorem dX4_nextBitten_25 : decode cX4_nextBitten 25 = .ok (.aload_n 0, 1) := by decide +kernel
theorem dX4_nextBitten_26 : decode cX4_nextBitten 26 = .ok (.getfield 26, 3) := by decide +kernel
theorem dX4_nextBitten_29 : decode cX4_nextBitten 29 = .ok (.iload_n 3, 1) := by decide +kernel
theorem dX4_nextBitten_30 : decode cX4_nextBitten 30 = .ok (.iaload, 1) := by decide +kernel
theorem dX4_nextBitten_31 : decode cX4_nextBitten 31 = .ok (.ifCond .eq 57, 3) := by decide +kernel
theorem dX4_nextBitten_34 : decode cX4_nextBitten 34 = .ok (.aload_n 0, 1) := by decide +kernel
theorem dX4_nextBitten_35 : decode cX4_nextBitten 35 = .ok (.iload_n 3, 1) := by decide +kernel
theorem dX4_nextBitten_36 : decode cX4_nextBitten 36 = .ok (.invokevirtual 62, 3) := by decide +kernel
theorem dX4_nextBitten_39 : decode cX4_nextBitten 39 = .ok (.ifCond .eq 6, 3) := by decide +kernel
theorem dX4_nextBitten_42 : decode cX4_nextBitten 42 = .ok (.goto 46, 3) := by decide +kernel
theorem dX4_nextBitten_45 : decode cX4_nextBitten 45 = .ok (.aload_n 0, 1) := by decide +kernel
theorem dX4_nextBitten_46 : decode cX4_nextBitten 46 = .ok (.iload_n 3, 1) := by decide +kernel
theorem dX4_nextBitten_47 : decode cX4_nextBitten 47 = .ok (.invokevirtual 66, 3) := by decide +kernel
theorem dX4_nextBitten_50 : decode cX4_nextBitten 50 = .ok (.istore 4, 2) := by decide +kernel
theorem dX4_nextBitten_52 : decode cX4_nextBitten 52 = .ok (.iload_n 1, 1) := by decide +kernel
theorem dX4_nextBitten_53 : decode cX4_nextBitten 53 = .ok (.ifCond .lt 30, 3) := by decide +kernel
theorem dX4_nextBitten_56 : decode cX4_nextBitten 56 = .ok (.iload 4, 2) := by decide +kernel
theorem dX4_nextBitten_58 : decode cX4_nextBitten 58 = .ok (.iload_n 2, 1) := by decide +kernel
theorem dX4_nextBitten_59 : decode cX4_nextBitten 59 = .ok (.if_icmp .lt 24, 3) := by decide +kernel
theorem dX4_nextBitten_62 : decode cX4_nextBitten 62 = .ok (.iload 4, 2) := by decide +kernel
theorem dX4_nextBitten_64 : decode cX4_nextBitten 64 = .ok (.iload_n 2, 1) := by decide +kernel
theorem dX4_nextBitten_65 : decode cX4_nextBitten 65 = .ok (.if_icmp .ne 23, 3) := by decide +kernel
theorem dX4_nextBitten_68 : decode cX4_nextBitten 68 = .ok (.aload_n 0, 1) := by decide +kernel
theorem dX4_nextBitten_69 : decode cX4_nextBitten 69 = .ok (.getfield 26, 3) := by decide +kernel
theorem dX4_nextBitten_72 : decode cX4_nextBitten 72 = .ok (.iload_n 3, 1) := by decide +kernel
theorem dX4_nextBitten_73 : decode cX4_nextBitten 73 = .ok (.iaload, 1) := by decide +kernel
theorem dX4_nextBitten_74 : decode cX4_nextBitten 74 = .ok (.aload_n 0, 1) := by decide +kernel
theorem dX4_nextBitten_75 : decode cX4_nextBitten 75 = .ok (.getfield 26, 3) := by decide +kernel
theorem dX4_nextBitten_78 : decode cX4_nextBitten 78 = .ok (.iload_n 1, 1) := by decide +kernel
theorem dX4_nextBitten_79 : decode cX4_nextBitten 79 = .ok (.iaload, 1) := by decide +kernel
theorem dX4_nextBitten_80 : decode cX4_nextBitten 80 = .ok (.if_icmp .le 8, 3) := by decide +kernel
theorem dX4_nextBitten_83 : decode cX4_nextBitten 83 = .ok (.iload_n 3, 1) := by decide +kernel
theorem dX4_nextBitten_84 : decode cX4_nextBitten 84 = .ok (.istore_n 1, 1) := by decide +kernel
theorem dX4_nextBitten_85 : decode cX4_nextBitten 85 = .ok (.iload 4, 2) := by decide +kernel
theorem dX4_nextBitten_87 : decode cX4_nextBitten 87 = .ok (.istore_n 2, 1) := by decide +kernel
theorem dX4_nextBitten_88 : decode cX4_nextBitten 88 = .ok (.iinc 3 1, 3) := by decide +kernel
theorem dX4_nextBitten_91 : decode cX4_nextBitten 91 = .ok (.goto (-74), 3) := by decide +kernel
theorem dX4_nextBitten_94 : decode cX4_nextBitten 94 = .ok (.iload_n 1, 1) := by decide +kernel
theorem dX4_nextBitten_95 : decode cX4_nextBitten 95 = .ok (.ireturn, 1) := by decide +kernel
theorem dX4_passNoon_0 : decode cX4_passNoon 0 = .ok (.aload_n 0, 1) := by decide +kernel
theorem dX4_passNoon_1 : decode cX4_passNoon 1 = .ok (.aload_n 0, 1) := by decide +kernel
theorem dX4_passNoon_2 : decode cX4_passNoon 2 = .ok (.invokevirtual 69, 3) := by decide +kernel
theorem dX4_passNoon_5 : decode cX4_passNoon 5 = .ok (.putfield 10, 3) := by decide +kernel
theorem dX4_passNoon_8 : decode cX4_passNoon 8 = .ok (.aload_n 0, 1) := by decide +kernel
theorem dX4_passNoon_9 : decode cX4_passNoon 9 = .ok (.iconst 0, 1) := by decide +kernel
theorem dX4_passNoon_10 : decode cX4_passNoon 10 = .ok (.putfield 73, 3) := by decide +kernel
theorem dX4_passNoon_13 : decode cX4_passNoon 13 = .ok (.aload_n 0, 1) := by decide +kernel
theorem dX4_passNoon_14 : decode cX4_passNoon 14 = .ok (.getfield 38, 3) := by decide +kernel
theorem dX4_passNoon_17 : decode cX4_passNoon 17 = .ok (.ifCond .le 16, 3) := by decide +kernel
theorem dX4_passNoon_20 : decode cX4_passNoon 20 = .ok (.aload_n 0, 1) := by decide +kernel
theorem dX4_passNoon_21 : decode cX4_passNoon 21 = .ok (.dup, 1) := by decide +kernel
theorem dX4_passNoon_22 : decode cX4_passNoon 22 = .ok (.getfield 38, 3) := by decide +kernel
theorem dX4_passNoon_25 : decode cX4_passNoon 25 = .ok (.iconst 1, 1) := by decide +kernel
theorem dX4_passNoon_26 : decode cX4_passNoon 26 = .ok (.isub, 1) := by decide +kernel
theorem dX4_passNoon_27 : decode cX4_passNoon 27 = .ok (.putfield 38, 3) := by decide +kernel
theorem dX4_passNoon_30 : decode cX4_passNoon 30 = .ok (.goto 22, 3) := by decide +kernel
theorem dX4_passNoon_33 : decode cX4_passNoon 33 = .ok (.aload_n 0, 1) := by decide +kernel
theorem dX4_passNoon_34 : decode cX4_passNoon 34 = .ok (.aload_n 0, 1) := by decide +kernel
theorem dX4_passNoon_35 : decode cX4_passNoon 35 = .ok (.getfield 10, 3) := by decide +kernel
theorem dX4_passNoon_38 : decode cX4_passNoon 38 = .ok (.invokevirtual 76, 3) := by decide +kernel
theorem dX4_passNoon_41 : decode cX4_passNoon 41 = .ok (.ifCond .eq 11, 3) := by decide +kernel
theorem dX4_passNoon_44 : decode cX4_passNoon 44 = .ok (.aload_n 0, 1) := by decide +kernel
theorem dX4_passNoon_45 : decode cX4_passNoon 45 = .ok (.aload_n 0, 1) := by decide +kernel
theorem dX4_passNoon_46 : decode cX4_passNoon 46 = .ok (.getfield 10, 3) := by decide +kernel
theorem dX4_passNoon_49 : decode cX4_passNoon 49 = .ok (.invokevirtual 79, 3) := by decide +kernel
theorem dX4_passNoon_52 : decode cX4_passNoon 52 = .ok (.aload_n 0, 1) := by decide +kernel
theorem dX4_passNoon_53 : decode cX4_passNoon 53 = .ok (.aload_n 0, 1) := by decide +kernel
theorem dX4_passNoon_54 : decode cX4_passNoon 54 = .ok (.getfield 32, 3) := by decide +kernel
theorem dX4_passNoon_57 : decode cX4_passNoon 57 = .ok (.aload_n 0, 1) := by decide +kernel
theorem dX4_passNoon_58 : decode cX4_passNoon 58 = .ok (.getfield 35, 3) := by decide +kernel
theorem dX4_passNoon_61 : decode cX4_passNoon 61 = .ok (.iadd, 1) := by decide +kernel
theorem dX4_passNoon_62 : decode cX4_passNoon 62 = .ok (.iconst 1, 1) := by decide +kernel
theorem dX4_passNoon_63 : decode cX4_passNoon 63 = .ok (.isub, 1) := by decide +kernel
theorem dX4_passNoon_64 : decode cX4_passNoon 64 = .ok (.bipush 10, 2) := by decide +kernel
theorem dX4_passNoon_66 : decode cX4_passNoon 66 = .ok (.invokestatic 83, 3) := by decide +kernel
theorem dX4_passNoon_69 : decode cX4_passNoon 69 = .ok (.putfield 32, 3) := by decide +kernel
theorem dX4_passNoon_72 : decode cX4_passNoon 72 = .ok (.aload_n 0, 1) := by decide +kernel
theorem dX4_passNoon_73 : decode cX4_passNoon 73 = .ok (.dup, 1) := by decide +kernel
theorem dX4_passNoon_74 : decode cX4_passNoon 74 = .ok (.getfield 41, 3) := by decide +kernel
theorem dX4_passNoon_77 : decode cX4_passNoon 77 = .ok (.iconst 1, 1) := by decide +kernel
theorem dX4_passNoon_78 : decode cX4_passNoon 78 = .ok (.iadd, 1) := by decide +kernel
theorem dX4_passNoon_79 : decode cX4_passNoon 79 = .ok (.putfield 41, 3) := by decide +kernel
theorem dX4_passNoon_82 : decode cX4_passNoon 82 = .ok (.return_, 1) := by decide +kernel
theorem dX4_passNoons_0 : decode cX4_passNoons 0 = .ok (.iconst 0, 1) := by decide +kernel
theorem dX4_passNoons_1 : decode cX4_passNoons 1 = .ok (.istore_n 2, 1) := by decide +kernel
theorem dX4_passNoons_2 : decode cX4_passNoons 2 = .ok (.iload_n 2, 1) := by decide +kernel
theorem dX4_passNoons_3 : decode cX4_passNoons 3 = .ok (.iload_n 1, 1) := by decide +kernel
theorem dX4_passNoons_4 : decode cX4_passNoons 4 = .ok (.if_icmp .ge 13, 3) := by decide +kernel
theorem dX4_passNoons_7 : decode cX4_passNoons 7 = .ok (.aload_n 0, 1) := by decide +kernel
theorem dX4_passNoons_8 : decode cX4_passNoons 8 = .ok (.invokevirtual 87, 3) := by decide +kernel
theorem dX4_passNoons_11 : decode cX4_passNoons 11 = .ok (.iinc 2 1, 3) := by decide +kernel
theorem dX4_passNoons_14 : decode cX4_passNoons 14 = .ok (.goto (-12), 3) := by decide +kernel
theorem dX4_passNoons_17 : decode cX4_passNoons 17 = .ok (.return_, 1) := by decide +kernel
theorem dX4_bite_0 : decode cX4_bite 0 = .ok (.aload_n 0, 1) := by decide +kernel
theorem dX4_bite_1 : decode cX4_bite 1 = .ok (.getfield 16, 3) := by decide +kernel
theorem dX4_bite_4 : decode cX4_bite 4 = .ok (.iload_n 1, 1) := by decide +kernel
theorem dX4_bite_5 : decode cX4_bite 5 = .ok (.iaload, 1) := by decide +kernel
theorem dX4_bite_6 : decode cX4_bite 6 = .ok (.iconst 3, 1) := by decide +kernel
theorem dX4_bite_7 : decode cX4_bite 7 = .ok (.if_icmp .ne 11, 3) := by decide +kernel
theorem dX4_bite_10 : decode cX4_bite 10 = .ok (.aload_n 0, 1) := by decide +kernel
theorem dX4_bite_11 : decode cX4_bite 11 = .ok (.iload_n 1, 1) := by decide +kernel
theorem dX4_bite_12 : decode cX4_bite 12 = .ok (.invokevirtual 90, 3) := by decide +kernel
theorem dX4_bite_15 : decode cX4_bite 15 = .ok (.goto 4, 3) := by decide +kernel
theorem dX4_bite_18 : decode cX4_bite 18 = .ok (.iload_n 1, 1) := by decide +kernel
theorem dX4_bite_19 : decode cX4_bite 19 = .ok (.istore_n 2, 1) := by decide +kernel
theorem dX4_bite_20 : decode cX4_bite 20 = .ok (.aload_n 0, 1) := by decide +kernel
theorem dX4_bite_21 : decode cX4_bite 21 = .ok (.iload_n 1, 1) := by decide +kernel
theorem dX4_bite_22 : decode cX4_bite 22 = .ok (.invokevirtual 93, 3) := by decide +kernel
theorem dX4_bite_25 : decode cX4_bite 25 = .ok (.ifCond .eq 25, 3) := by decide +kernel
theorem dX4_bite_28 : decode cX4_bite 28 = .ok (.aload_n 0, 1) := by decide +kernel
theorem dX4_bite_29 : decode cX4_bite 29 = .ok (.getfield 20, 3) := by decide +kernel
theorem dX4_bite_32 : decode cX4_bite 32 = .ok (.iload_n 1, 1) := by decide +kernel
theorem dX4_bite_33 : decode cX4_bite 33 = .ok (.aload_n 0, 1) := by decide +kernel
theorem dX4_bite_34 : decode cX4_bite 34 = .ok (.getfield 20, 3) := by decide +kernel
theorem dX4_bite_37 : decode cX4_bite 37 = .ok (.iload_n 1, 1) := by decide +kernel
theorem dX4_bite_38 : decode cX4_bite 38 = .ok (.iaload, 1) := by decide +kernel
theorem dX4_bite_39 : decode cX4_bite 39 = .ok (.iconst 1, 1) := by decide +kernel
theorem dX4_bite_40 : decode cX4_bite 40 = .ok (.iadd, 1) := by decide +kernel
theorem dX4_bite_41 : decode cX4_bite 41 = .ok (.bipush 9, 2) := by decide +kernel
theorem dX4_bite_43 : decode cX4_bite 43 = .ok (.invokestatic 96, 3) := by decide +kernel
theorem dX4_bite_46 : decode cX4_bite 46 = .ok (.iastore, 1) := by decide +kernel
theorem dX4_bite_47 : decode cX4_bite 47 = .ok (.goto 21, 3) := by decide +kernel
theorem dX4_bite_50 : decode cX4_bite 50 = .ok (.aload_n 0, 1) := by decide +kernel
theorem dX4_bite_51 : decode cX4_bite 51 = .ok (.aload_n 0, 1) := by decide +kernel
theorem dX4_bite_52 : decode cX4_bite 52 = .ok (.iload_n 1, 1) := by decide +kernel
theorem dX4_bite_53 : decode cX4_bite 53 = .ok (.invokevirtual 99, 3) := by decide +kernel
theorem dX4_bite_56 : decode cX4_bite 56 = .ok (.aload_n 0, 1) := by decide +kernel
theorem dX4_bite_57 : decode cX4_bite 57 = .ok (.getfield 26, 3) := by decide +kernel
theorem dX4_bite_60 : decode cX4_bite 60 = .ok (.iload_n 2, 1) := by decide +kernel
theorem dX4_bite_61 : decode cX4_bite 61 = .ok (.iaload, 1) := by decide +kernel
theorem dX4_bite_62 : decode cX4_bite 62 = .ok (.invokestatic 96, 3) := by decide +kernel
theorem dX4_bite_65 : decode cX4_bite 65 = .ok (.putfield 73, 3) := by decide +kernel
theorem dX4_bite_68 : decode cX4_bite 68 = .ok (.aload_n 0, 1) := by decide +kernel
theorem dX4_bite_69 : decode cX4_bite 69 = .ok (.getfield 26, 3) := by decide +kernel
theorem dX4_bite_72 : decode cX4_bite 72 = .ok (.iload_n 2, 1) := by decide +kernel
theorem dX4_bite_73 : decode cX4_bite 73 = .ok (.dup2, 1) := by decide +kernel
theorem dX4_bite_74 : decode cX4_bite 74 = .ok (.iaload, 1) := by decide +kernel
theorem dX4_bite_75 : decode cX4_bite 75 = .ok (.aload_n 0, 1) := by decide +kernel
theorem dX4_bite_76 : decode cX4_bite 76 = .ok (.getfield 73, 3) := by decide +kernel
theorem dX4_bite_79 : decode cX4_bite 79 = .ok (.isub, 1) := by decide +kernel
theorem dX4_bite_80 : decode cX4_bite 80 = .ok (.iastore, 1) := by decide +kernel
theorem dX4_bite_81 : decode cX4_bite 81 = .ok (.aload_n 0, 1) := by decide +kernel
theorem dX4_bite_82 : decode cX4_bite 82 = .ok (.dup, 1) := by decide +kernel
theorem dX4_bite_83 : decode cX4_bite 83 = .ok (.getfield 44, 3) := by decide +kernel
theorem dX4_bite_86 : decode cX4_bite 86 = .ok (.aload_n 0, 1) := by decide +kernel
theorem dX4_bite_87 : decode cX4_bite 87 = .ok (.getfield 73, 3) := by decide +kernel
theorem dX4_bite_90 : decode cX4_bite 90 = .ok (.iadd, 1) := by decide +kernel
theorem dX4_bite_91 : decode cX4_bite 91 = .ok (.putfield 44, 3) := by decide +kernel
theorem dX4_bite_94 : decode cX4_bite 94 = .ok (.aload_n 0, 1) := by decide +kernel
theorem dX4_bite_95 : decode cX4_bite 95 = .ok (.iconst 0, 1) := by decide +kernel
theorem dX4_bite_96 : decode cX4_bite 96 = .ok (.aload_n 0, 1) := by decide +kernel
theorem dX4_bite_97 : decode cX4_bite 97 = .ok (.getfield 73, 3) := by decide +kernel
theorem dX4_bite_100 : decode cX4_bite 100 = .ok (.iconst 5, 1) := by decide +kernel
theorem dX4_bite_101 : decode cX4_bite 101 = .ok (.isub, 1) := by decide +kernel
theorem dX4_bite_102 : decode cX4_bite 102 = .ok (.invokestatic 102, 3) := by decide +kernel
theorem dX4_bite_105 : decode cX4_bite 105 = .ok (.putfield 38, 3) := by decide +kernel
theorem dX4_bite_108 : decode cX4_bite 108 = .ok (.return_, 1) := by decide +kernel
theorem dX4_isSpatOut_0 : decode cX4_isSpatOut 0 = .ok (.aload_n 0, 1) := by decide +kernel
theorem dX4_isSpatOut_1 : decode cX4_isSpatOut 1 = .ok (.getfield 16, 3) := by decide +kernel
theorem dX4_isSpatOut_4 : decode cX4_isSpatOut 4 = .ok (.iload_n 1, 1) := by decide +kernel
theorem dX4_isSpatOut_5 : decode cX4_isSpatOut 5 = .ok (.iaload, 1) := by decide +kernel
theorem dX4_isSpatOut_6 : decode cX4_isSpatOut 6 = .ok (.iconst 2, 1) := by decide +kernel
theorem dX4_isSpatOut_7 : decode cX4_isSpatOut 7 = .ok (.if_icmp .ne 18, 3) := by decide +kernel
theorem dX4_isSpatOut_10 : decode cX4_isSpatOut 10 = .ok (.aload_n 0, 1) := by decide +kernel
theorem dX4_isSpatOut_11 : decode cX4_isSpatOut 11 = .ok (.getfield 26, 3) := by decide +kernel
theorem dX4_isSpatOut_14 : decode cX4_isSpatOut 14 = .ok (.iload_n 1, 1) := by decide +kernel
theorem dX4_isSpatOut_15 : decode cX4_isSpatOut 15 = .ok (.iaload, 1) := by decide +kernel
theorem dX4_isSpatOut_16 : decode cX4_isSpatOut 16 = .ok (.iconst 2, 1) := by decide +kernel
theorem dX4_isSpatOut_17 : decode cX4_isSpatOut 17 = .ok (.irem, 1) := by decide +kernel
theorem dX4_isSpatOut_18 : decode cX4_isSpatOut 18 = .ok (.ifCond .eq 7, 3) := by decide +kernel
theorem dX4_isSpatOut_21 : decode cX4_isSpatOut 21 = .ok (.iconst 1, 1) := by decide +kernel
theorem dX4_isSpatOut_22 : decode cX4_isSpatOut 22 = .ok (.goto 4, 3) := by decide +kernel
theorem dX4_isSpatOut_25 : decode cX4_isSpatOut 25 = .ok (.iconst 0, 1) := by decide +kernel
theorem dX4_isSpatOut_26 : decode cX4_isSpatOut 26 = .ok (.ireturn, 1) := by decide +kernel
theorem dX4_biteOf_0 : decode cX4_biteOf 0 = .ok (.aload_n 0, 1) := by decide +kernel
theorem dX4_biteOf_1 : decode cX4_biteOf 1 = .ok (.getfield 16, 3) := by decide +kernel
theorem dX4_biteOf_4 : decode cX4_biteOf 4 = .ok (.iload_n 1, 1) := by decide +kernel
theorem dX4_biteOf_5 : decode cX4_biteOf 5 = .ok (.iaload, 1) := by decide +kernel
theorem dX4_biteOf_6 : decode cX4_biteOf 6 = .ok (.lookupswitch 39 #[(4, 26), (5, 37)], 26) := by decide +kernel
theorem dX4_biteOf_32 : decode cX4_biteOf 32 = .ok (.aload_n 0, 1) := by decide +kernel
theorem dX4_biteOf_33 : decode cX4_biteOf 33 = .ok (.getfield 26, 3) := by decide +kernel
theorem dX4_biteOf_36 : decode cX4_biteOf 36 = .ok (.iload_n 1, 1) := by decide +kernel
theorem dX4_biteOf_37 : decode cX4_biteOf 37 = .ok (.iaload, 1) := by decide +kernel
theorem dX4_biteOf_38 : decode cX4_biteOf 38 = .ok (.iconst 1, 1) := by decide +kernel
theorem dX4_biteOf_39 : decode cX4_biteOf 39 = .ok (.iadd, 1) := by decide +kernel
theorem dX4_biteOf_40 : decode cX4_biteOf 40 = .ok (.iconst 2, 1) := by decide +kernel
theorem dX4_biteOf_41 : decode cX4_biteOf 41 = .ok (.idiv, 1) := by decide +kernel
theorem dX4_biteOf_42 : decode cX4_biteOf 42 = .ok (.ireturn, 1) := by decide +kernel
theorem dX4_biteOf_43 : decode cX4_biteOf 43 = .ok (.iconst 1, 1) := by decide +kernel
theorem dX4_biteOf_44 : decode cX4_biteOf 44 = .ok (.ireturn, 1) := by decide +kernel
theorem dX4_biteOf_45 : decode cX4_biteOf 45 = .ok (.aload_n 0, 1) := by decide +kernel
theorem dX4_biteOf_46 : decode cX4_biteOf 46 = .ok (.getfield 26, 3) := by decide +kernel
theorem dX4_biteOf_49 : decode cX4_biteOf 49 = .ok (.iload_n 1, 1) := by decide +kernel
theorem dX4_biteOf_50 : decode cX4_biteOf 50 = .ok (.iaload, 1) := by decide +kernel
theorem dX4_biteOf_51 : decode cX4_biteOf 51 = .ok (.ireturn, 1) := by decide +kernel
theorem dX4_lenderOf_0 : decode cX4_lenderOf 0 = .ok (.iconst 1, 1) := by decide +kernel
theorem dX4_lenderOf_1 : decode cX4_lenderOf 1 = .ok (.istore_n 2, 1) := by decide +kernel
theorem dX4_lenderOf_2 : decode cX4_lenderOf 2 = .ok (.iload_n 2, 1) := by decide +kernel
theorem dX4_lenderOf_3 : decode cX4_lenderOf 3 = .ok (.aload_n 0, 1) := by decide +kernel
theorem dX4_lenderOf_4 : decode cX4_lenderOf 4 = .ok (.getfield 29, 3) := by decide +kernel
theorem dX4_lenderOf_7 : decode cX4_lenderOf 7 = .ok (.if_icmp .ge 39, 3) := by decide +kernel
theorem dX4_lenderOf_10 : decode cX4_lenderOf 10 = .ok (.iload_n 1, 1) := by decide +kernel
theorem dX4_lenderOf_11 : decode cX4_lenderOf 11 = .ok (.iload_n 2, 1) := by decide +kernel
theorem dX4_lenderOf_12 : decode cX4_lenderOf 12 = .ok (.iadd, 1) := by decide +kernel
theorem dX4_lenderOf_13 : decode cX4_lenderOf 13 = .ok (.istore_n 3, 1) := by decide +kernel
theorem dX4_lenderOf_14 : decode cX4_lenderOf 14 = .ok (.iload_n 3, 1) := by decide +kernel
theorem dX4_lenderOf_15 : decode cX4_lenderOf 15 = .ok (.aload_n 0, 1) := by decide +kernel
theorem dX4_lenderOf_16 : decode cX4_lenderOf 16 = .ok (.getfield 29, 3) := by decide +kernel
theorem dX4_lenderOf_19 : decode cX4_lenderOf 19 = .ok (.if_icmp .lt 10, 3) := by decide +kernel
theorem dX4_lenderOf_22 : decode cX4_lenderOf 22 = .ok (.iload_n 3, 1) := by decide +kernel
theorem dX4_lenderOf_23 : decode cX4_lenderOf 23 = .ok (.aload_n 0, 1) := by decide +kernel
theorem dX4_lenderOf_24 : decode cX4_lenderOf 24 = .ok (.getfield 29, 3) := by decide +kernel
theorem dX4_lenderOf_27 : decode cX4_lenderOf 27 = .ok (.isub, 1) := by decide +kernel
theorem dX4_lenderOf_28 : decode cX4_lenderOf 28 = .ok (.istore_n 3, 1) := by decide +kernel
theorem dX4_lenderOf_29 : decode cX4_lenderOf 29 = .ok (.aload_n 0, 1) := by decide +kernel
theorem dX4_lenderOf_30 : decode cX4_lenderOf 30 = .ok (.getfield 26, 3) := by decide +kernel
theorem dX4_lenderOf_33 : decode cX4_lenderOf 33 = .ok (.iload_n 3, 1) := by decide +kernel
theorem dX4_lenderOf_34 : decode cX4_lenderOf 34 = .ok (.iaload, 1) := by decide +kernel
theorem dX4_lenderOf_35 : decode cX4_lenderOf 35 = .ok (.ifCond .le 5, 3) := by decide +kernel
theorem dX4_lenderOf_38 : decode cX4_lenderOf 38 = .ok (.iload_n 3, 1) := by decide +kernel
theorem dX4_lenderOf_39 : decode cX4_lenderOf 39 = .ok (.ireturn, 1) := by decide +kernel
theorem dX4_lenderOf_40 : decode cX4_lenderOf 40 = .ok (.iinc 2 1, 3) := by decide +kernel
theorem dX4_lenderOf_43 : decode cX4_lenderOf 43 = .ok (.goto (-41), 3) := by decide +kernel
theorem dX4_lenderOf_46 : decode cX4_lenderOf 46 = .ok (.iload_n 1, 1) := by decide +kernel
theorem dX4_lenderOf_47 : decode cX4_lenderOf 47 = .ok (.ireturn, 1) := by decide +kernel
theorem dX5_init_0 : decode cX5_init 0 = .ok (.aload_n 0, 1) := by decide +kernel
theorem dX5_init_1 : decode cX5_init 1 = .ok (.invokespecial 3, 3) := by decide +kernel
theorem dX5_init_4 : decode cX5_init 4 = .ok (.aload_n 0, 1) := by decide +kernel
theorem dX5_init_5 : decode cX5_init 5 = .ok (.bipush 90, 2) := by decide +kernel
theorem dX5_init_7 : decode cX5_init 7 = .ok (.newarray .int, 2) := by decide +kernel
theorem dX5_init_9 : decode cX5_init 9 = .ok (.putfield 9, 3) := by decide +kernel
theorem dX5_init_12 : decode cX5_init 12 = .ok (.aload_n 0, 1) := by decide +kernel
theorem dX5_init_13 : decode cX5_init 13 = .ok (.new 15, 3) := by decide +kernel
theorem dX5_init_16 : decode cX5_init 16 = .ok (.dup, 1) := by decide +kernel
theorem dX5_init_17 : decode cX5_init 17 = .ok (.invokespecial 17, 3) := by decide +kernel
theorem dX5_init_20 : decode cX5_init 20 = .ok (.putfield 18, 3) := by decide +kernel
theorem dX5_init_23 : decode cX5_init 23 = .ok (.return_, 1) := by decide +kernel
theorem dX5_isFull_0 : decode cX5_isFull 0 = .ok (.aload_n 0, 1) := by decide +kernel
theorem dX5_isFull_1 : decode cX5_isFull 1 = .ok (.getfield 22, 3) := by decide +kernel
theorem dX5_isFull_4 : decode cX5_isFull 4 = .ok (.bipush 90, 2) := by decide +kernel
theorem dX5_isFull_6 : decode cX5_isFull 6 = .ok (.if_icmp .lt 7, 3) := by decide +kernel
theorem dX5_isFull_9 : decode cX5_isFull 9 = .ok (.iconst 1, 1) := by decide +kernel
theorem dX5_isFull_10 : decode cX5_isFull 10 = .ok (.goto 4, 3) := by decide +kernel
theorem dX5_isFull_13 : decode cX5_isFull 13 = .ok (.iconst 0, 1) := by decide +kernel
theorem dX5_isFull_14 : decode cX5_isFull 14 = .ok (.ireturn, 1) := by decide +kernel
theorem dX5_add_0 : decode cX5_add 0 = .ok (.aload_n 0, 1) := by decide +kernel
theorem dX5_add_1 : decode cX5_add 1 = .ok (.invokevirtual 26, 3) := by decide +kernel
theorem dX5_add_4 : decode cX5_add 4 = .ok (.ifCond .ne 23, 3) := by decide +kernel
theorem dX5_add_7 : decode cX5_add 7 = .ok (.aload_n 0, 1) := by decide +kernel
theorem dX5_add_8 : decode cX5_add 8 = .ok (.getfield 9, 3) := by decide +kernel
theorem dX5_add_11 : decode cX5_add 11 = .ok (.aload_n 0, 1) := by decide +kernel
theorem dX5_add_12 : decode cX5_add 12 = .ok (.getfield 22, 3) := by decide +kernel
theorem dX5_add_15 : decode cX5_add 15 = .ok (.iload_n 1, 1) := by decide +kernel
theorem dX5_add_16 : decode cX5_add 16 = .ok (.iastore, 1) := by decide +kernel
theorem dX5_add_17 : decode cX5_add 17 = .ok (.aload_n 0, 1) := by decide +kernel
theorem dX5_add_18 : decode cX5_add 18 = .ok (.dup, 1) := by decide +kernel
theorem dX5_add_19 : decode cX5_add 19 = .ok (.getfield 22, 3) := by decide +kernel
theorem dX5_add_22 : decode cX5_add 22 = .ok (.iconst 1, 1) := by decide +kernel
theorem dX5_add_23 : decode cX5_add 23 = .ok (.iadd, 1) := by decide +kernel
theorem dX5_add_24 : decode cX5_add 24 = .ok (.putfield 22, 3) := by decide +kernel
theorem dX5_add_27 : decode cX5_add 27 = .ok (.aload_n 0, 1) := by decide +kernel
theorem dX5_add_28 : decode cX5_add 28 = .ok (.getfield 22, 3) := by decide +kernel
theorem dX5_add_31 : decode cX5_add 31 = .ok (.ireturn, 1) := by decide +kernel
theorem dX5_clear_0 : decode cX5_clear 0 = .ok (.aload_n 0, 1) := by decide +kernel
theorem dX5_clear_1 : decode cX5_clear 1 = .ok (.iconst 0, 1) := by decide +kernel
theorem dX5_clear_2 : decode cX5_clear 2 = .ok (.putfield 22, 3) := by decide +kernel
theorem dX5_clear_5 : decode cX5_clear 5 = .ok (.return_, 1) := by decide +kernel
theorem dX5_read_0 : decode cX5_read 0 = .ok (.aload_n 0, 1) := by decide +kernel
theorem dX5_read_1 : decode cX5_read 1 = .ok (.iconst 0, 1) := by decide +kernel
theorem dX5_read_2 : decode cX5_read 2 = .ok (.putfield 30, 3) := by decide +kernel
theorem dX5_read_5 : decode cX5_read 5 = .ok (.aload_n 0, 1) := by decide +kernel
theorem dX5_read_6 : decode cX5_read 6 = .ok (.getfield 18, 3) := by decide +kernel
theorem dX5_read_9 : decode cX5_read 9 = .ok (.iconst 0, 1) := by decide +kernel
theorem dX5_read_10 : decode cX5_read 10 = .ok (.putfield 33, 3) := by decide +kernel
theorem dX5_read_13 : decode cX5_read 13 = .ok (.aload_n 0, 1) := by decide +kernel
theorem dX5_read_14 : decode cX5_read 14 = .ok (.invokevirtual 36, 3) := by decide +kernel
theorem dX5_read_17 : decode cX5_read 17 = .ok (.ifCond .eq 10, 3) := by decide +kernel
theorem dX5_read_20 : decode cX5_read 20 = .ok (.aload_n 0, 1) := by decide +kernel
theorem dX5_read_21 : decode cX5_read 21 = .ok (.invokevirtual 39, 3) := by decide +kernel
theorem dX5_read_24 : decode cX5_read 24 = .ok (.ifCond .ne 5, 3) := by decide +kernel
theorem dX5_read_27 : decode cX5_read 27 = .ok (.iconst 0, 1) := by decide +kernel
theorem dX5_read_28 : decode cX5_read 28 = .ok (.ireturn, 1) := by decide +kernel
theorem dX5_read_29 : decode cX5_read 29 = .ok (.iconst 0, 1) := by decide +kernel
theorem dX5_read_30 : decode cX5_read 30 = .ok (.istore_n 1, 1) := by decide +kernel
theorem dX5_read_31 : decode cX5_read 31 = .ok (.iload_n 1, 1) := by decide +kernel
theorem dX5_read_32 : decode cX5_read 32 = .ok (.bipush 90, 2) := by decide +kernel
theorem dX5_read_34 : decode cX5_read 34 = .ok (.if_icmp .ge 29, 3) := by decide +kernel
theorem dX5_read_37 : decode cX5_read 37 = .ok (.aload_n 0, 1) := by decide +kernel
theorem dX5_read_38 : decode cX5_read 38 = .ok (.getfield 30, 3) := by decide +kernel
theorem dX5_read_41 : decode cX5_read 41 = .ok (.aload_n 0, 1) := by decide +kernel
theorem dX5_read_42 : decode cX5_read 42 = .ok (.getfield 22, 3) := by decide +kernel
theorem dX5_read_45 : decode cX5_read 45 = .ok (.if_icmp .ge 18, 3) := by decide +kernel
theorem dX5_read_48 : decode cX5_read 48 = .ok (.aload_n 0, 1) := by decide +kernel
theorem dX5_read_49 : decode cX5_read 49 = .ok (.invokevirtual 39, 3) := by decide +kernel
theorem dX5_read_52 : decode cX5_read 52 = .ok (.ifCond .ne 5, 3) := by decide +kernel
theorem dX5_read_55 : decode cX5_read 55 = .ok (.iconst 0, 1) := by decide +kernel
theorem dX5_read_56 : decode cX5_read 56 = .ok (.ireturn, 1) := by decide +kernel
theorem dX5_read_57 : decode cX5_read 57 = .ok (.iinc 1 1, 3) := by decide +kernel
theorem dX5_read_60 : decode cX5_read 60 = .ok (.goto (-29), 3) := by decide +kernel
theorem dX5_read_63 : decode cX5_read 63 = .ok (.iconst 1, 1) := by decide +kernel
theorem dX5_read_64 : decode cX5_read 64 = .ok (.ireturn, 1) := by decide +kernel
theorem dX5_readLaw_0 : decode cX5_readLaw 0 = .ok (.aload_n 0, 1) := by decide +kernel
theorem dX5_readLaw_1 : decode cX5_readLaw 1 = .ok (.bipush 99, 2) := by decide +kernel
theorem dX5_readLaw_3 : decode cX5_readLaw 3 = .ok (.invokevirtual 42, 3) := by decide +kernel
theorem dX5_readLaw_6 : decode cX5_readLaw 6 = .ok (.ifCond .eq 13, 3) := by decide +kernel
theorem dX5_readLaw_9 : decode cX5_readLaw 9 = .ok (.aload_n 0, 1) := by decide +kernel
theorem dX5_readLaw_10 : decode cX5_readLaw 10 = .ok (.iconst 0, 1) := by decide +kernel
theorem dX5_readLaw_11 : decode cX5_readLaw 11 = .ok (.bipush 9, 2) := by decide +kernel
theorem dX5_readLaw_13 : decode cX5_readLaw 13 = .ok (.invokevirtual 46, 3) := by decide +kernel
theorem dX5_readLaw_16 : decode cX5_readLaw 16 = .ok (.ifCond .ne 5, 3) := by decide +kernel
theorem dX5_readLaw_19 : decode cX5_readLaw 19 = .ok (.iconst 0, 1) := by decide +kernel
theorem dX5_readLaw_20 : decode cX5_readLaw 20 = .ok (.ireturn, 1) := by decide +kernel
theorem dX5_readLaw_21 : decode cX5_readLaw 21 = .ok (.aload_n 0, 1) := by decide +kernel
theorem dX5_readLaw_22 : decode cX5_readLaw 22 = .ok (.getfield 18, 3) := by decide +kernel
theorem dX5_readLaw_25 : decode cX5_readLaw 25 = .ok (.aload_n 0, 1) := by decide +kernel
theorem dX5_readLaw_26 : decode cX5_readLaw 26 = .ok (.getfield 50, 3) := by decide +kernel
theorem dX5_readLaw_29 : decode cX5_readLaw 29 = .ok (.putfield 53, 3) := by decide +kernel
theorem dX5_readLaw_32 : decode cX5_readLaw 32 = .ok (.aload_n 0, 1) := by decide +kernel
theorem dX5_readLaw_33 : decode cX5_readLaw 33 = .ok (.bipush 44, 2) := by decide +kernel
theorem dX5_readLaw_35 : decode cX5_readLaw 35 = .ok (.invokevirtual 42, 3) := by decide +kernel
theorem dX5_readLaw_38 : decode cX5_readLaw 38 = .ok (.ifCond .eq 12, 3) := by decide +kernel
theorem dX5_readLaw_41 : decode cX5_readLaw 41 = .ok (.aload_n 0, 1) := by decide +kernel
theorem dX5_readLaw_42 : decode cX5_readLaw 42 = .ok (.iconst 0, 1) := by decide +kernel
theorem dX5_readLaw_43 : decode cX5_readLaw 43 = .ok (.iconst 2, 1) := by decide +kernel
theorem dX5_readLaw_44 : decode cX5_readLaw 44 = .ok (.invokevirtual 46, 3) := by decide +kernel
theorem dX5_readLaw_47 : decode cX5_readLaw 47 = .ok (.ifCond .ne 5, 3) := by decide +kernel
theorem dX5_readLaw_50 : decode cX5_readLaw 50 = .ok (.iconst 0, 1) := by decide +kernel
theorem dX5_readLaw_51 : decode cX5_readLaw 51 = .ok (.ireturn, 1) := by decide +kernel
theorem dX5_readLaw_52 : decode cX5_readLaw 52 = .ok (.aload_n 0, 1) := by decide +kernel
theorem dX5_readLaw_53 : decode cX5_readLaw 53 = .ok (.getfield 18, 3) := by decide +kernel
theorem dX5_readLaw_56 : decode cX5_readLaw 56 = .ok (.aload_n 0, 1) := by decide +kernel
theorem dX5_readLaw_57 : decode cX5_readLaw 57 = .ok (.getfield 50, 3) := by decide +kernel
theorem dX5_readLaw_60 : decode cX5_readLaw 60 = .ok (.putfield 56, 3) := by decide +kernel
theorem dX5_readLaw_63 : decode cX5_readLaw 63 = .ok (.aload_n 0, 1) := by decide +kernel
theorem dX5_readLaw_64 : decode cX5_readLaw 64 = .ok (.bipush 59, 2) := by decide +kernel
theorem dX5_readLaw_66 : decode cX5_readLaw 66 = .ok (.invokevirtual 42, 3) := by decide +kernel
theorem dX5_readLaw_69 : decode cX5_readLaw 69 = .ok (.ireturn, 1) := by decide +kernel
theorem dX5_readPaper_0 : decode cX5_readPaper 0 = .ok (.aload_n 0, 1) := by decide +kernel
theorem dX5_readPaper_1 : decode cX5_readPaper 1 = .ok (.aload_n 0, 1) := by decide +kernel
theorem dX5_readPaper_2 : decode cX5_readPaper 2 = .ok (.getfield 30, 3) := by decide +kernel
theorem dX5_readPaper_5 : decode cX5_readPaper 5 = .ok (.invokevirtual 59, 3) := by decide +kernel
theorem dX5_readPaper_8 : decode cX5_readPaper 8 = .ok (.invokestatic 63, 3) := by decide +kernel
theorem dX5_readPaper_11 : decode cX5_readPaper 11 = .ok (.istore_n 1, 1) := by decide +kernel
theorem dX5_readPaper_12 : decode cX5_readPaper 12 = .ok (.iload_n 1, 1) := by decide +kernel
theorem dX5_readPaper_13 : decode cX5_readPaper 13 = .ok (.ifCond .ne 9, 3) := by decide +kernel
theorem dX5_readPaper_16 : decode cX5_readPaper 16 = .ok (.aload_n 0, 1) := by decide +kernel
theorem dX5_readPaper_17 : decode cX5_readPaper 17 = .ok (.iconst 1, 1) := by decide +kernel
theorem dX5_readPaper_18 : decode cX5_readPaper 18 = .ok (.invokevirtual 66, 3) := by decide +kernel
theorem dX5_readPaper_21 : decode cX5_readPaper 21 = .ok (.ireturn, 1) := by decide +kernel
theorem dX5_readPaper_22 : decode cX5_readPaper 22 = .ok (.aload_n 0, 1) := by decide +kernel
theorem dX5_readPaper_23 : decode cX5_readPaper 23 = .ok (.getfield 18, 3) := by decide +kernel
theorem dX5_readPaper_26 : decode cX5_readPaper 26 = .ok (.getfield 33, 3) := by decide +kernel
theorem dX5_readPaper_29 : decode cX5_readPaper 29 = .ok (.istore_n 2, 1) := by decide +kernel
theorem dX5_readPaper_30 : decode cX5_readPaper 30 = .ok (.iload_n 2, 1) := by decide +kernel
theorem dX5_readPaper_31 : decode cX5_readPaper 31 = .ok (.bipush 6, 2) := by decide +kernel
theorem dX5_readPaper_33 : decode cX5_readPaper 33 = .ok (.if_icmp .lt 9, 3) := by decide +kernel
theorem dX5_readPaper_36 : decode cX5_readPaper 36 = .ok (.aload_n 0, 1) := by decide +kernel
theorem dX5_readPaper_37 : decode cX5_readPaper 37 = .ok (.iconst 3, 1) := by decide +kernel
theorem dX5_readPaper_38 : decode cX5_readPaper 38 = .ok (.invokevirtual 66, 3) := by decide +kernel
theorem dX5_readPaper_41 : decode cX5_readPaper 41 = .ok (.ireturn, 1) := by decide +kernel
theorem dX5_readPaper_42 : decode cX5_readPaper 42 = .ok (.aload_n 0, 1) := by decide +kernel
theorem dX5_readPaper_43 : decode cX5_readPaper 43 = .ok (.dup, 1) := by decide +kernel
theorem dX5_readPaper_44 : decode cX5_readPaper 44 = .ok (.getfield 30, 3) := by decide +kernel
theorem dX5_readPaper_47 : decode cX5_readPaper 47 = .ok (.iconst 1, 1) := by decide +kernel
theorem dX5_readPaper_48 : decode cX5_readPaper 48 = .ok (.iadd, 1) := by decide +kernel
theorem dX5_readPaper_49 : decode cX5_readPaper 49 = .ok (.putfield 30, 3) := by decide +kernel
theorem dX5_readPaper_52 : decode cX5_readPaper 52 = .ok (.aload_n 0, 1) := by decide +kernel
theorem dX5_readPaper_53 : decode cX5_readPaper 53 = .ok (.iconst 0, 1) := by decide +kernel
theorem dX5_readPaper_54 : decode cX5_readPaper 54 = .ok (.bipush 9, 2) := by decide +kernel
theorem dX5_readPaper_56 : decode cX5_readPaper 56 = .ok (.invokevirtual 46, 3) := by decide +kernel
theorem dX5_readPaper_59 : decode cX5_readPaper 59 = .ok (.ifCond .ne 5, 3) := by decide +kernel
theorem dX5_readPaper_62 : decode cX5_readPaper 62 = .ok (.iconst 0, 1) := by decide +kernel
theorem dX5_readPaper_63 : decode cX5_readPaper 63 = .ok (.ireturn, 1) := by decide +kernel
theorem dX5_readPaper_64 : decode cX5_readPaper 64 = .ok (.aload_n 0, 1) := by decide +kernel
theorem dX5_readPaper_65 : decode cX5_readPaper 65 = .ok (.getfield 18, 3) := by decide +kernel
theorem dX5_readPaper_68 : decode cX5_readPaper 68 = .ok (.getfield 70, 3) := by decide +kernel
theorem dX5_readPaper_71 : decode cX5_readPaper 71 = .ok (.iload_n 2, 1) := by decide +kernel
theorem dX5_readPaper_72 : decode cX5_readPaper 72 = .ok (.iload_n 1, 1) := by decide +kernel
theorem dX5_readPaper_73 : decode cX5_readPaper 73 = .ok (.iastore, 1) := by decide +kernel
theorem dX5_readPaper_74 : decode cX5_readPaper 74 = .ok (.aload_n 0, 1) := by decide +kernel
theorem dX5_readPaper_75 : decode cX5_readPaper 75 = .ok (.getfield 18, 3) := by decide +kernel
theorem dX5_readPaper_78 : decode cX5_readPaper 78 = .ok (.getfield 73, 3) := by decide +kernel
theorem dX5_readPaper_81 : decode cX5_readPaper 81 = .ok (.iload_n 2, 1) := by decide +kernel
theorem dX5_readPaper_82 : decode cX5_readPaper 82 = .ok (.aload_n 0, 1) := by decide +kernel
theorem dX5_readPaper_83 : decode cX5_readPaper 83 = .ok (.getfield 50, 3) := by decide +kernel
theorem dX5_readPaper_86 : decode cX5_readPaper 86 = .ok (.iastore, 1) := by decide +kernel
theorem dX5_readPaper_87 : decode cX5_readPaper 87 = .ok (.aload_n 0, 1) := by decide +kernel
theorem dX5_readPaper_88 : decode cX5_readPaper 88 = .ok (.bipush 44, 2) := by decide +kernel
theorem dX5_readPaper_90 : decode cX5_readPaper 90 = .ok (.invokevirtual 42, 3) := by decide +kernel
theorem dX5_readPaper_93 : decode cX5_readPaper 93 = .ok (.ifCond .eq 13, 3) := by decide +kernel
theorem dX5_readPaper_96 : decode cX5_readPaper 96 = .ok (.aload_n 0, 1) := by decide +kernel
theorem dX5_readPaper_97 : decode cX5_readPaper 97 = .ok (.iconst 0, 1) := by decide +kernel
theorem dX5_readPaper_98 : decode cX5_readPaper 98 = .ok (.bipush 9, 2) := by decide +kernel
theorem dX5_readPaper_100 : decode cX5_readPaper 100 = .ok (.invokevirtual 46, 3) := by decide +kernel
theorem dX5_readPaper_103 : decode cX5_readPaper 103 = .ok (.ifCond .ne 5, 3) := by decide +kernel
theorem dX5_readPaper_106 : decode cX5_readPaper 106 = .ok (.iconst 0, 1) := by decide +kernel
theorem dX5_readPaper_107 : decode cX5_readPaper 107 = .ok (.ireturn, 1) := by decide +kernel
theorem dX5_readPaper_108 : decode cX5_readPaper 108 = .ok (.aload_n 0, 1) := by decide +kernel
theorem dX5_readPaper_109 : decode cX5_readPaper 109 = .ok (.getfield 18, 3) := by decide +kernel
theorem dX5_readPaper_112 : decode cX5_readPaper 112 = .ok (.getfield 76, 3) := by decide +kernel
theorem dX5_readPaper_115 : decode cX5_readPaper 115 = .ok (.iload_n 2, 1) := by decide +kernel
theorem dX5_readPaper_116 : decode cX5_readPaper 116 = .ok (.aload_n 0, 1) := by decide +kernel
theorem dX5_readPaper_117 : decode cX5_readPaper 117 = .ok (.getfield 50, 3) := by decide +kernel
theorem dX5_readPaper_120 : decode cX5_readPaper 120 = .ok (.iastore, 1) := by decide +kernel
theorem dX5_readPaper_121 : decode cX5_readPaper 121 = .ok (.aload_n 0, 1) := by decide +kernel
theorem dX5_readPaper_122 : decode cX5_readPaper 122 = .ok (.bipush 44, 2) := by decide +kernel
theorem dX5_readPaper_124 : decode cX5_readPaper 124 = .ok (.invokevirtual 42, 3) := by decide +kernel
theorem dX5_readPaper_127 : decode cX5_readPaper 127 = .ok (.ifCond .eq 13, 3) := by decide +kernel
theorem dX5_readPaper_130 : decode cX5_readPaper 130 = .ok (.aload_n 0, 1) := by decide +kernel
theorem dX5_readPaper_131 : decode cX5_readPaper 131 = .ok (.iconst 1, 1) := by decide +kernel
theorem dX5_readPaper_132 : decode cX5_readPaper 132 = .ok (.bipush 9, 2) := by decide +kernel
theorem dX5_readPaper_134 : decode cX5_readPaper 134 = .ok (.invokevirtual 46, 3) := by decide +kernel
theorem dX5_readPaper_137 : decode cX5_readPaper 137 = .ok (.ifCond .ne 5, 3) := by decide +kernel
theorem dX5_readPaper_140 : decode cX5_readPaper 140 = .ok (.iconst 0, 1) := by decide +kernel
theorem dX5_readPaper_141 : decode cX5_readPaper 141 = .ok (.ireturn, 1) := by decide +kernel
theorem dX5_readPaper_142 : decode cX5_readPaper 142 = .ok (.aload_n 0, 1) := by decide +kernel
theorem dX5_readPaper_143 : decode cX5_readPaper 143 = .ok (.getfield 18, 3) := by decide +kernel
theorem dX5_readPaper_146 : decode cX5_readPaper 146 = .ok (.getfield 79, 3) := by decide +kernel
theorem dX5_readPaper_149 : decode cX5_readPaper 149 = .ok (.iload_n 2, 1) := by decide +kernel
theorem dX5_readPaper_150 : decode cX5_readPaper 150 = .ok (.aload_n 0, 1) := by decide +kernel
theorem dX5_readPaper_151 : decode cX5_readPaper 151 = .ok (.getfield 50, 3) := by decide +kernel
theorem dX5_readPaper_154 : decode cX5_readPaper 154 = .ok (.iastore, 1) := by decide +kernel
theorem dX5_readPaper_155 : decode cX5_readPaper 155 = .ok (.aload_n 0, 1) := by decide +kernel
theorem dX5_readPaper_156 : decode cX5_readPaper 156 = .ok (.getfield 18, 3) := by decide +kernel
theorem dX5_readPaper_159 : decode cX5_readPaper 159 = .ok (.dup, 1) := by decide +kernel
theorem dX5_readPaper_160 : decode cX5_readPaper 160 = .ok (.getfield 33, 3) := by decide +kernel
theorem dX5_readPaper_163 : decode cX5_readPaper 163 = .ok (.iconst 1, 1) := by decide +kernel
theorem dX5_readPaper_164 : decode cX5_readPaper 164 = .ok (.iadd, 1) := by decide +kernel
theorem dX5_readPaper_165 : decode cX5_readPaper 165 = .ok (.putfield 33, 3) := by decide +kernel
theorem dX5_readPaper_168 : decode cX5_readPaper 168 = .ok (.aload_n 0, 1) := by decide +kernel
theorem dX5_readPaper_169 : decode cX5_readPaper 169 = .ok (.bipush 59, 2) := by decide +kernel
theorem dX5_readPaper_171 : decode cX5_readPaper 171 = .ok (.invokevirtual 42, 3) := by decide +kernel
theorem dX5_readPaper_174 : decode cX5_readPaper 174 = .ok (.ireturn, 1) := by decide +kernel
theorem dX5_readByte_0 : decode cX5_readByte 0 = .ok (.aload_n 0, 1) := by decide +kernel
theorem dX5_readByte_1 : decode cX5_readByte 1 = .ok (.aload_n 0, 1) := by decide +kernel
theorem dX5_readByte_2 : decode cX5_readByte 2 = .ok (.getfield 30, 3) := by decide +kernel
theorem dX5_readByte_5 : decode cX5_readByte 5 = .ok (.invokevirtual 59, 3) := by decide +kernel
theorem dX5_readByte_8 : decode cX5_readByte 8 = .ok (.iload_n 1, 1) := by decide +kernel
theorem dX5_readByte_9 : decode cX5_readByte 9 = .ok (.if_icmp .eq 9, 3) := by decide +kernel
theorem dX5_readByte_12 : decode cX5_readByte 12 = .ok (.aload_n 0, 1) := by decide +kernel
theorem dX5_readByte_13 : decode cX5_readByte 13 = .ok (.iconst 1, 1) := by decide +kernel
theorem dX5_readByte_14 : decode cX5_readByte 14 = .ok (.invokevirtual 66, 3) := by decide +kernel
theorem dX5_readByte_17 : decode cX5_readByte 17 = .ok (.ireturn, 1) := by decide +kernel
theorem dX5_readByte_18 : decode cX5_readByte 18 = .ok (.aload_n 0, 1) := by decide +kernel
theorem dX5_readByte_19 : decode cX5_readByte 19 = .ok (.dup, 1) := by decide +kernel
theorem dX5_readByte_20 : decode cX5_readByte 20 = .ok (.getfield 30, 3) := by decide +kernel
theorem dX5_readByte_23 : decode cX5_readByte 23 = .ok (.iconst 1, 1) := by decide +kernel
theorem dX5_readByte_24 : decode cX5_readByte 24 = .ok (.iadd, 1) := by decide +kernel
theorem dX5_readByte_25 : decode cX5_readByte 25 = .ok (.putfield 30, 3) := by decide +kernel
theorem dX5_readByte_28 : decode cX5_readByte 28 = .ok (.iconst 1, 1) := by decide +kernel
theorem dX5_readByte_29 : decode cX5_readByte 29 = .ok (.ireturn, 1) := by decide +kernel
theorem dX5_readNumber_0 : decode cX5_readNumber 0 = .ok (.iconst 0, 1) := by decide +kernel
theorem dX5_readNumber_1 : decode cX5_readNumber 1 = .ok (.istore_n 3, 1) := by decide +kernel
theorem dX5_readNumber_2 : decode cX5_readNumber 2 = .ok (.iconst 0, 1) := by decide +kernel
theorem dX5_readNumber_3 : decode cX5_readNumber 3 = .ok (.istore 4, 2) := by decide +kernel
theorem dX5_readNumber_5 : decode cX5_readNumber 5 = .ok (.iload_n 3, 1) := by decide +kernel
theorem dX5_readNumber_6 : decode cX5_readNumber 6 = .ok (.iconst 3, 1) := by decide +kernel
theorem dX5_readNumber_7 : decode cX5_readNumber 7 = .ok (.if_icmp .ge 46, 3) := by decide +kernel
theorem dX5_readNumber_10 : decode cX5_readNumber 10 = .ok (.aload_n 0, 1) := by decide +kernel
theorem dX5_readNumber_11 : decode cX5_readNumber 11 = .ok (.aload_n 0, 1) := by decide +kernel
theorem dX5_readNumber_12 : decode cX5_readNumber 12 = .ok (.getfield 30, 3) := by decide +kernel
theorem dX5_readNumber_15 : decode cX5_readNumber 15 = .ok (.iload_n 3, 1) := by decide +kernel
theorem dX5_readNumber_16 : decode cX5_readNumber 16 = .ok (.iadd, 1) := by decide +kernel
theorem dX5_readNumber_17 : decode cX5_readNumber 17 = .ok (.invokevirtual 59, 3) := by decide +kernel
theorem dX5_readNumber_20 : decode cX5_readNumber 20 = .ok (.invokestatic 82, 3) := by decide +kernel
theorem dX5_readNumber_23 : decode cX5_readNumber 23 = .ok (.ifCond .eq 30, 3) := by decide +kernel
theorem dX5_readNumber_26 : decode cX5_readNumber 26 = .ok (.iload 4, 2) := by decide +kernel
theorem dX5_readNumber_28 : decode cX5_readNumber 28 = .ok (.bipush 10, 2) := by decide +kernel
theorem dX5_readNumber_30 : decode cX5_readNumber 30 = .ok (.imul, 1) := by decide +kernel
theorem dX5_readNumber_31 : decode cX5_readNumber 31 = .ok (.aload_n 0, 1) := by decide +kernel
theorem dX5_readNumber_32 : decode cX5_readNumber 32 = .ok (.aload_n 0, 1) := by decide +kernel
theorem dX5_readNumber_33 : decode cX5_readNumber 33 = .ok (.getfield 30, 3) := by decide +kernel
theorem dX5_readNumber_36 : decode cX5_readNumber 36 = .ok (.iload_n 3, 1) := by decide +kernel
theorem dX5_readNumber_37 : decode cX5_readNumber 37 = .ok (.iadd, 1) := by decide +kernel
theorem dX5_readNumber_38 : decode cX5_readNumber 38 = .ok (.invokevirtual 59, 3) := by decide +kernel
theorem dX5_readNumber_41 : decode cX5_readNumber 41 = .ok (.iadd, 1) := by decide +kernel
theorem dX5_readNumber_42 : decode cX5_readNumber 42 = .ok (.bipush 48, 2) := by decide +kernel
theorem dX5_readNumber_44 : decode cX5_readNumber 44 = .ok (.isub, 1) := by decide +kernel
theorem dX5_readNumber_45 : decode cX5_readNumber 45 = .ok (.istore 4, 2) := by decide +kernel
theorem dX5_readNumber_47 : decode cX5_readNumber 47 = .ok (.iinc 3 1, 3) := by decide +kernel
theorem dX5_readNumber_50 : decode cX5_readNumber 50 = .ok (.goto (-45), 3) := by decide +kernel
theorem dX5_readNumber_53 : decode cX5_readNumber 53 = .ok (.iload_n 3, 1) := by decide +kernel
theorem dX5_readNumber_54 : decode cX5_readNumber 54 = .ok (.ifCond .eq 8, 3) := by decide +kernel
theorem dX5_readNumber_57 : decode cX5_readNumber 57 = .ok (.iload_n 3, 1) := by decide +kernel
theorem dX5_readNumber_58 : decode cX5_readNumber 58 = .ok (.iconst 2, 1) := by decide +kernel
theorem dX5_readNumber_59 : decode cX5_readNumber 59 = .ok (.if_icmp .le 9, 3) := by decide +kernel
theorem dX5_readNumber_62 : decode cX5_readNumber 62 = .ok (.aload_n 0, 1) := by decide +kernel
theorem dX5_readNumber_63 : decode cX5_readNumber 63 = .ok (.iconst 1, 1) := by decide +kernel
theorem dX5_readNumber_64 : decode cX5_readNumber 64 = .ok (.invokevirtual 66, 3) := by decide +kernel
theorem dX5_readNumber_67 : decode cX5_readNumber 67 = .ok (.ireturn, 1) := by decide +kernel
theorem dX5_readNumber_68 : decode cX5_readNumber 68 = .ok (.iload 4, 2) := by decide +kernel
theorem dX5_readNumber_70 : decode cX5_readNumber 70 = .ok (.iload_n 1, 1) := by decide +kernel
theorem dX5_readNumber_71 : decode cX5_readNumber 71 = .ok (.iload_n 2, 1) := by decide +kernel
theorem dX5_readNumber_72 : decode cX5_readNumber 72 = .ok (.invokestatic 85, 3) := by decide +kernel
theorem dX5_readNumber_75 : decode cX5_readNumber 75 = .ok (.ifCond .ne 9, 3) := by decide +kernel
theorem dX5_readNumber_78 : decode cX5_readNumber 78 = .ok (.aload_n 0, 1) := by decide +kernel
theorem dX5_readNumber_79 : decode cX5_readNumber 79 = .ok (.iconst 2, 1) := by decide +kernel
theorem dX5_readNumber_80 : decode cX5_readNumber 80 = .ok (.invokevirtual 66, 3) := by decide +kernel
theorem dX5_readNumber_83 : decode cX5_readNumber 83 = .ok (.ireturn, 1) := by decide +kernel
theorem dX5_readNumber_84 : decode cX5_readNumber 84 = .ok (.aload_n 0, 1) := by decide +kernel
theorem dX5_readNumber_85 : decode cX5_readNumber 85 = .ok (.iload 4, 2) := by decide +kernel
theorem dX5_readNumber_87 : decode cX5_readNumber 87 = .ok (.putfield 50, 3) := by decide +kernel
theorem dX5_readNumber_90 : decode cX5_readNumber 90 = .ok (.aload_n 0, 1) := by decide +kernel
theorem dX5_readNumber_91 : decode cX5_readNumber 91 = .ok (.dup, 1) := by decide +kernel
theorem dX5_readNumber_92 : decode cX5_readNumber 92 = .ok (.getfield 30, 3) := by decide +kernel
theorem dX5_readNumber_95 : decode cX5_readNumber 95 = .ok (.iload_n 3, 1) := by decide +kernel
theorem dX5_readNumber_96 : decode cX5_readNumber 96 = .ok (.iadd, 1) := by decide +kernel
theorem dX5_readNumber_97 : decode cX5_readNumber 97 = .ok (.putfield 30, 3) := by decide +kernel
theorem dX5_readNumber_100 : decode cX5_readNumber 100 = .ok (.iconst 1, 1) := by decide +kernel
theorem dX5_readNumber_101 : decode cX5_readNumber 101 = .ok (.ireturn, 1) := by decide +kernel
theorem dX5_faulty_0 : decode cX5_faulty 0 = .ok (.aload_n 0, 1) := by decide +kernel
theorem dX5_faulty_1 : decode cX5_faulty 1 = .ok (.iload_n 1, 1) := by decide +kernel
theorem dX5_faulty_2 : decode cX5_faulty 2 = .ok (.putfield 89, 3) := by decide +kernel
theorem dX5_faulty_5 : decode cX5_faulty 5 = .ok (.aload_n 0, 1) := by decide +kernel
theorem dX5_faulty_6 : decode cX5_faulty 6 = .ok (.aload_n 0, 1) := by decide +kernel
theorem dX5_faulty_7 : decode cX5_faulty 7 = .ok (.getfield 30, 3) := by decide +kernel
theorem dX5_faulty_10 : decode cX5_faulty 10 = .ok (.putfield 92, 3) := by decide +kernel
theorem dX5_faulty_13 : decode cX5_faulty 13 = .ok (.iconst 0, 1) := by decide +kernel
theorem dX5_faulty_14 : decode cX5_faulty 14 = .ok (.ireturn, 1) := by decide +kernel
theorem dX5_byteAt_0 : decode cX5_byteAt 0 = .ok (.iload_n 1, 1) := by decide +kernel
theorem dX5_byteAt_1 : decode cX5_byteAt 1 = .ok (.ifCond .lt 26, 3) := by decide +kernel
theorem dX5_byteAt_4 : decode cX5_byteAt 4 = .ok (.iload_n 1, 1) := by decide +kernel
theorem dX5_byteAt_5 : decode cX5_byteAt 5 = .ok (.aload_n 0, 1) := by decide +kernel
theorem dX5_byteAt_6 : decode cX5_byteAt 6 = .ok (.getfield 22, 3) := by decide +kernel
theorem dX5_byteAt_9 : decode cX5_byteAt 9 = .ok (.if_icmp .ge 18, 3) := by decide +kernel
theorem dX5_byteAt_12 : decode cX5_byteAt 12 = .ok (.iload_n 1, 1) := by decide +kernel
theorem dX5_byteAt_13 : decode cX5_byteAt 13 = .ok (.bipush 90, 2) := by decide +kernel
theorem dX5_byteAt_15 : decode cX5_byteAt 15 = .ok (.if_icmp .ge 12, 3) := by decide +kernel
theorem dX5_byteAt_18 : decode cX5_byteAt 18 = .ok (.aload_n 0, 1) := by decide +kernel
theorem dX5_byteAt_19 : decode cX5_byteAt 19 = .ok (.getfield 9, 3) := by decide +kernel
theorem dX5_byteAt_22 : decode cX5_byteAt 22 = .ok (.iload_n 1, 1) := by decide +kernel
theorem dX5_byteAt_23 : decode cX5_byteAt 23 = .ok (.iaload, 1) := by decide +kernel
theorem dX5_byteAt_24 : decode cX5_byteAt 24 = .ok (.goto 4, 3) := by decide +kernel
theorem dX5_byteAt_27 : decode cX5_byteAt 27 = .ok (.iconst (-1), 1) := by decide +kernel
theorem dX5_byteAt_28 : decode cX5_byteAt 28 = .ok (.ireturn, 1) := by decide +kernel
theorem dX5_isFigure_0 : decode cX5_isFigure 0 = .ok (.iload_n 0, 1) := by decide +kernel
theorem dX5_isFigure_1 : decode cX5_isFigure 1 = .ok (.bipush 48, 2) := by decide +kernel
theorem dX5_isFigure_3 : decode cX5_isFigure 3 = .ok (.if_icmp .lt 13, 3) := by decide +kernel
theorem dX5_isFigure_6 : decode cX5_isFigure 6 = .ok (.iload_n 0, 1) := by decide +kernel
theorem dX5_isFigure_7 : decode cX5_isFigure 7 = .ok (.bipush 57, 2) := by decide +kernel
theorem dX5_isFigure_9 : decode cX5_isFigure 9 = .ok (.if_icmp .gt 7, 3) := by decide +kernel
theorem dX5_isFigure_12 : decode cX5_isFigure 12 = .ok (.iconst 1, 1) := by decide +kernel
theorem dX5_isFigure_13 : decode cX5_isFigure 13 = .ok (.goto 4, 3) := by decide +kernel
theorem dX5_isFigure_16 : decode cX5_isFigure 16 = .ok (.iconst 0, 1) := by decide +kernel
theorem dX5_isFigure_17 : decode cX5_isFigure 17 = .ok (.ireturn, 1) := by decide +kernel
theorem dX5_kindTold_0 : decode cX5_kindTold 0 = .ok (.iload_n 0, 1) := by decide +kernel
theorem dX5_kindTold_1 : decode cX5_kindTold 1 = .ok (.lookupswitch 61 #[(98, 55), (100, 57), (108, 53), (112, 51), (115, 59)], 51) := by decide +kernel
theorem dX5_kindTold_52 : decode cX5_kindTold 52 = .ok (.iconst 1, 1) := by decide +kernel
theorem dX5_kindTold_53 : decode cX5_kindTold 53 = .ok (.ireturn, 1) := by decide +kernel
theorem dX5_kindTold_54 : decode cX5_kindTold 54 = .ok (.iconst 2, 1) := by decide +kernel
theorem dX5_kindTold_55 : decode cX5_kindTold 55 = .ok (.ireturn, 1) := by decide +kernel
theorem dX5_kindTold_56 : decode cX5_kindTold 56 = .ok (.iconst 3, 1) := by decide +kernel
theorem dX5_kindTold_57 : decode cX5_kindTold 57 = .ok (.ireturn, 1) := by decide +kernel
theorem dX5_kindTold_58 : decode cX5_kindTold 58 = .ok (.iconst 4, 1) := by decide +kernel
theorem dX5_kindTold_59 : decode cX5_kindTold 59 = .ok (.ireturn, 1) := by decide +kernel
theorem dX5_kindTold_60 : decode cX5_kindTold 60 = .ok (.iconst 5, 1) := by decide +kernel
theorem dX5_kindTold_61 : decode cX5_kindTold 61 = .ok (.ireturn, 1) := by decide +kernel
theorem dX5_kindTold_62 : decode cX5_kindTold 62 = .ok (.iconst 0, 1) := by decide +kernel
theorem dX5_kindTold_63 : decode cX5_kindTold 63 = .ok (.ireturn, 1) := by decide +kernel
theorem dJ6_bitCount_0f7a4_0 : decode cJ6_bitCount_0f7a4 0 = .ok (.iload_n 0, 1) := by decide +kernel
theorem dJ6_bitCount_0f7a4_1 : decode cJ6_bitCount_0f7a4 1 = .ok (.iload_n 0, 1) := by decide +kernel
theorem dJ6_bitCount_0f7a4_2 : decode cJ6_bitCount_0f7a4 2 = .ok (.iconst 1, 1) := by decide +kernel
theorem dJ6_bitCount_0f7a4_3 : decode cJ6_bitCount_0f7a4 3 = .ok (.iushr, 1) := by decide +kernel
theorem dJ6_bitCount_0f7a4_4 : decode cJ6_bitCount_0f7a4 4 = .ok (.ldc_w 265, 3) := by decide +kernel
theorem dJ6_bitCount_0f7a4_7 : decode cJ6_bitCount_0f7a4 7 = .ok (.iand, 1) := by decide +kernel
theorem dJ6_bitCount_0f7a4_8 : decode cJ6_bitCount_0f7a4 8 = .ok (.isub, 1) := by decide +kernel
theorem dJ6_bitCount_0f7a4_9 : decode cJ6_bitCount_0f7a4 9 = .ok (.istore_n 0, 1) := by decide +kernel
theorem dJ6_bitCount_0f7a4_10 : decode cJ6_bitCount_0f7a4 10 = .ok (.iload_n 0, 1) := by decide +kernel
theorem dJ6_bitCount_0f7a4_11 : decode cJ6_bitCount_0f7a4 11 = .ok (.ldc_w 266, 3) := by decide +kernel
theorem dJ6_bitCount_0f7a4_14 : decode cJ6_bitCount_0f7a4 14 = .ok (.iand, 1) := by decide +kernel
theorem dJ6_bitCount_0f7a4_15 : decode cJ6_bitCount_0f7a4 15 = .ok (.iload_n 0, 1) := by decide +kernel
theorem dJ6_bitCount_0f7a4_16 : decode cJ6_bitCount_0f7a4 16 = .ok (.iconst 2, 1) := by decide +kernel
theorem dJ6_bitCount_0f7a4_17 : decode cJ6_bitCount_0f7a4 17 = .ok (.iushr, 1) := by decide +kernel
theorem dJ6_bitCount_0f7a4_18 : decode cJ6_bitCount_0f7a4 18 = .ok (.ldc_w 266, 3) := by decide +kernel
theorem dJ6_bitCount_0f7a4_21 : decode cJ6_bitCount_0f7a4 21 = .ok (.iand, 1) := by decide +kernel
theorem dJ6_bitCount_0f7a4_22 : decode cJ6_bitCount_0f7a4 22 = .ok (.iadd, 1) := by decide +kernel
theorem dJ6_bitCount_0f7a4_23 : decode cJ6_bitCount_0f7a4 23 = .ok (.istore_n 0, 1) := by decide +kernel
theorem dJ6_bitCount_0f7a4_24 : decode cJ6_bitCount_0f7a4 24 = .ok (.iload_n 0, 1) := by decide +kernel
theorem dJ6_bitCount_0f7a4_25 : decode cJ6_bitCount_0f7a4 25 = .ok (.iload_n 0, 1) := by decide +kernel
theorem dJ6_bitCount_0f7a4_26 : decode cJ6_bitCount_0f7a4 26 = .ok (.iconst 4, 1) := by decide +kernel
theorem dJ6_bitCount_0f7a4_27 : decode cJ6_bitCount_0f7a4 27 = .ok (.iushr, 1) := by decide +kernel
theorem dJ6_bitCount_0f7a4_28 : decode cJ6_bitCount_0f7a4 28 = .ok (.iadd, 1) := by decide +kernel
theorem dJ6_bitCount_0f7a4_29 : decode cJ6_bitCount_0f7a4 29 = .ok (.ldc_w 267, 3) := by decide +kernel
theorem dJ6_bitCount_0f7a4_32 : decode cJ6_bitCount_0f7a4 32 = .ok (.iand, 1) := by decide +kernel
theorem dJ6_bitCount_0f7a4_33 : decode cJ6_bitCount_0f7a4 33 = .ok (.istore_n 0, 1) := by decide +kernel
theorem dJ6_bitCount_0f7a4_34 : decode cJ6_bitCount_0f7a4 34 = .ok (.iload_n 0, 1) := by decide +kernel
theorem dJ6_bitCount_0f7a4_35 : decode cJ6_bitCount_0f7a4 35 = .ok (.iload_n 0, 1) := by decide +kernel
theorem dJ6_bitCount_0f7a4_36 : decode cJ6_bitCount_0f7a4 36 = .ok (.bipush 8, 2) := by decide +kernel
theorem dJ6_bitCount_0f7a4_38 : decode cJ6_bitCount_0f7a4 38 = .ok (.iushr, 1) := by decide +kernel
theorem dJ6_bitCount_0f7a4_39 : decode cJ6_bitCount_0f7a4 39 = .ok (.iadd, 1) := by decide +kernel
theorem dJ6_bitCount_0f7a4_40 : decode cJ6_bitCount_0f7a4 40 = .ok (.istore_n 0, 1) := by decide +kernel
theorem dJ6_bitCount_0f7a4_41 : decode cJ6_bitCount_0f7a4 41 = .ok (.iload_n 0, 1) := by decide +kernel
theorem dJ6_bitCount_0f7a4_42 : decode cJ6_bitCount_0f7a4 42 = .ok (.iload_n 0, 1) := by decide +kernel
theorem dJ6_bitCount_0f7a4_43 : decode cJ6_bitCount_0f7a4 43 = .ok (.bipush 16, 2) := by decide +kernel
theorem dJ6_bitCount_0f7a4_45 : decode cJ6_bitCount_0f7a4 45 = .ok (.iushr, 1) := by decide +kernel
theorem dJ6_bitCount_0f7a4_46 : decode cJ6_bitCount_0f7a4 46 = .ok (.iadd, 1) := by decide +kernel
theorem dJ6_bitCount_0f7a4_47 : decode cJ6_bitCount_0f7a4 47 = .ok (.istore_n 0, 1) := by decide +kernel
theorem dJ6_bitCount_0f7a4_48 : decode cJ6_bitCount_0f7a4 48 = .ok (.iload_n 0, 1) := by decide +kernel
theorem dJ6_bitCount_0f7a4_49 : decode cJ6_bitCount_0f7a4 49 = .ok (.bipush 63, 2) := by decide +kernel
theorem dJ6_bitCount_0f7a4_51 : decode cJ6_bitCount_0f7a4 51 = .ok (.iand, 1) := by decide +kernel
theorem dJ6_bitCount_0f7a4_52 : decode cJ6_bitCount_0f7a4 52 = .ok (.ireturn, 1) := by decide +kernel
theorem dJ9_floorMod_7cf53_0 : decode cJ9_floorMod_7cf53 0 = .ok (.iload_n 0, 1) := by decide +kernel
theorem dJ9_floorMod_7cf53_1 : decode cJ9_floorMod_7cf53 1 = .ok (.iload_n 1, 1) := by decide +kernel
theorem dJ9_floorMod_7cf53_2 : decode cJ9_floorMod_7cf53 2 = .ok (.irem, 1) := by decide +kernel
theorem dJ9_floorMod_7cf53_3 : decode cJ9_floorMod_7cf53 3 = .ok (.istore_n 2, 1) := by decide +kernel
theorem dJ9_floorMod_7cf53_4 : decode cJ9_floorMod_7cf53 4 = .ok (.iload_n 0, 1) := by decide +kernel
theorem dJ9_floorMod_7cf53_5 : decode cJ9_floorMod_7cf53 5 = .ok (.iload_n 1, 1) := by decide +kernel
theorem dJ9_floorMod_7cf53_6 : decode cJ9_floorMod_7cf53 6 = .ok (.ixor, 1) := by decide +kernel
theorem dJ9_floorMod_7cf53_7 : decode cJ9_floorMod_7cf53 7 = .ok (.ifCond .ge 11, 3) := by decide +kernel
theorem dJ9_floorMod_7cf53_10 : decode cJ9_floorMod_7cf53 10 = .ok (.iload_n 2, 1) := by decide +kernel
theorem dJ9_floorMod_7cf53_11 : decode cJ9_floorMod_7cf53 11 = .ok (.ifCond .eq 7, 3) := by decide +kernel
theorem dJ9_floorMod_7cf53_14 : decode cJ9_floorMod_7cf53 14 = .ok (.iload_n 2, 1) := by decide +kernel
theorem dJ9_floorMod_7cf53_15 : decode cJ9_floorMod_7cf53 15 = .ok (.iload_n 1, 1) := by decide +kernel
theorem dJ9_floorMod_7cf53_16 : decode cJ9_floorMod_7cf53 16 = .ok (.iadd, 1) := by decide +kernel
theorem dJ9_floorMod_7cf53_17 : decode cJ9_floorMod_7cf53 17 = .ok (.ireturn, 1) := by decide +kernel
theorem dJ9_floorMod_7cf53_18 : decode cJ9_floorMod_7cf53 18 = .ok (.iload_n 2, 1) := by decide +kernel
theorem dJ9_floorMod_7cf53_19 : decode cJ9_floorMod_7cf53 19 = .ok (.ireturn, 1) := by decide +kernel
theorem dJ9_abs_0f7a4_0 : decode cJ9_abs_0f7a4 0 = .ok (.iload_n 0, 1) := by decide +kernel
theorem dJ9_abs_0f7a4_1 : decode cJ9_abs_0f7a4 1 = .ok (.ifCond .ge 8, 3) := by decide +kernel
theorem dJ9_abs_0f7a4_4 : decode cJ9_abs_0f7a4 4 = .ok (.iload_n 0, 1) := by decide +kernel
theorem dJ9_abs_0f7a4_5 : decode cJ9_abs_0f7a4 5 = .ok (.ineg, 1) := by decide +kernel
theorem dJ9_abs_0f7a4_6 : decode cJ9_abs_0f7a4 6 = .ok (.goto 4, 3) := by decide +kernel
theorem dJ9_abs_0f7a4_9 : decode cJ9_abs_0f7a4 9 = .ok (.iload_n 0, 1) := by decide +kernel
theorem dJ9_abs_0f7a4_10 : decode cJ9_abs_0f7a4 10 = .ok (.ireturn, 1) := by decide +kernel
theorem dJ9_max_7cf53_0 : decode cJ9_max_7cf53 0 = .ok (.iload_n 0, 1) := by decide +kernel
theorem dJ9_max_7cf53_1 : decode cJ9_max_7cf53 1 = .ok (.iload_n 1, 1) := by decide +kernel
theorem dJ9_max_7cf53_2 : decode cJ9_max_7cf53 2 = .ok (.if_icmp .lt 7, 3) := by decide +kernel
theorem dJ9_max_7cf53_5 : decode cJ9_max_7cf53 5 = .ok (.iload_n 0, 1) := by decide +kernel
theorem dJ9_max_7cf53_6 : decode cJ9_max_7cf53 6 = .ok (.goto 4, 3) := by decide +kernel
theorem dJ9_max_7cf53_9 : decode cJ9_max_7cf53 9 = .ok (.iload_n 1, 1) := by decide +kernel
theorem dJ9_max_7cf53_10 : decode cJ9_max_7cf53 10 = .ok (.ireturn, 1) := by decide +kernel
theorem dJ9_min_7cf53_0 : decode cJ9_min_7cf53 0 = .ok (.iload_n 0, 1) := by decide +kernel
theorem dJ9_min_7cf53_1 : decode cJ9_min_7cf53 1 = .ok (.iload_n 1, 1) := by decide +kernel
theorem dJ9_min_7cf53_2 : decode cJ9_min_7cf53 2 = .ok (.if_icmp .gt 7, 3) := by decide +kernel
theorem dJ9_min_7cf53_5 : decode cJ9_min_7cf53 5 = .ok (.iload_n 0, 1) := by decide +kernel
theorem dJ9_min_7cf53_6 : decode cJ9_min_7cf53 6 = .ok (.goto 4, 3) := by decide +kernel
theorem dJ9_min_7cf53_9 : decode cJ9_min_7cf53 9 = .ok (.iload_n 1, 1) := by decide +kernel
theorem dJ9_min_7cf53_10 : decode cJ9_min_7cf53 10 = .ok (.ireturn, 1) := by decide +kernel
theorem dJ7_fill_53178_0 : decode cJ7_fill_53178 0 = .ok (.iconst 0, 1) := by decide +kernel
theorem dJ7_fill_53178_1 : decode cJ7_fill_53178 1 = .ok (.istore_n 2, 1) := by decide +kernel
theorem dJ7_fill_53178_2 : decode cJ7_fill_53178 2 = .ok (.aload_n 0, 1) := by decide +kernel
theorem dJ7_fill_53178_3 : decode cJ7_fill_53178 3 = .ok (.arraylength, 1) := by decide +kernel
theorem dJ7_fill_53178_4 : decode cJ7_fill_53178 4 = .ok (.istore_n 3, 1) := by decide +kernel
theorem dJ7_fill_53178_5 : decode cJ7_fill_53178 5 = .ok (.iload_n 2, 1) := by decide +kernel
theorem dJ7_fill_53178_6 : decode cJ7_fill_53178 6 = .ok (.iload_n 3, 1) := by decide +kernel
theorem dJ7_fill_53178_7 : decode cJ7_fill_53178 7 = .ok (.if_icmp .ge 13, 3) := by decide +kernel
theorem dJ7_fill_53178_10 : decode cJ7_fill_53178 10 = .ok (.aload_n 0, 1) := by decide +kernel
theorem dJ7_fill_53178_11 : decode cJ7_fill_53178 11 = .ok (.iload_n 2, 1) := by decide +kernel
theorem dJ7_fill_53178_12 : decode cJ7_fill_53178 12 = .ok (.iload_n 1, 1) := by decide +kernel
theorem dJ7_fill_53178_13 : decode cJ7_fill_53178 13 = .ok (.iastore, 1) := by decide +kernel
theorem dJ7_fill_53178_14 : decode cJ7_fill_53178 14 = .ok (.iinc 2 1, 3) := by decide +kernel
theorem dJ7_fill_53178_17 : decode cJ7_fill_53178 17 = .ok (.goto (-12), 3) := by decide +kernel
theorem dJ7_fill_53178_20 : decode cJ7_fill_53178 20 = .ok (.return_, 1) := by decide +kernel
