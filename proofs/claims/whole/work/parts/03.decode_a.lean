theorem dX0_init_0 : decode cX0_init 0 = .ok (.aload_n 0, 1) := by decide +kernel
theorem dX0_init_1 : decode cX0_init 1 = .ok (.invokespecial 1, 3) := by decide +kernel
theorem dX0_init_4 : decode cX0_init 4 = .ok (.aload_n 0, 1) := by decide +kernel
theorem dX0_init_5 : decode cX0_init 5 = .ok (.bipush 24, 2) := by decide +kernel
theorem dX0_init_7 : decode cX0_init 7 = .ok (.anewarray 9, 3) := by decide +kernel
theorem dX0_init_10 : decode cX0_init 10 = .ok (.putfield 11, 3) := by decide +kernel
theorem dX0_init_13 : decode cX0_init 13 = .ok (.aload_n 0, 1) := by decide +kernel
theorem dX0_init_14 : decode cX0_init 14 = .ok (.aload_n 1, 1) := by decide +kernel
theorem dX0_init_15 : decode cX0_init 15 = .ok (.putfield 15, 3) := by decide +kernel
theorem dX0_init_18 : decode cX0_init 18 = .ok (.iconst 0, 1) := by decide +kernel
theorem dX0_init_19 : decode cX0_init 19 = .ok (.istore_n 2, 1) := by decide +kernel
theorem dX0_init_20 : decode cX0_init 20 = .ok (.iload_n 2, 1) := by decide +kernel
theorem dX0_init_21 : decode cX0_init 21 = .ok (.bipush 24, 2) := by decide +kernel
theorem dX0_init_23 : decode cX0_init 23 = .ok (.if_icmp .ge 22, 3) := by decide +kernel
theorem dX0_init_26 : decode cX0_init 26 = .ok (.aload_n 0, 1) := by decide +kernel
theorem dX0_init_27 : decode cX0_init 27 = .ok (.getfield 11, 3) := by decide +kernel
theorem dX0_init_30 : decode cX0_init 30 = .ok (.iload_n 2, 1) := by decide +kernel
theorem dX0_init_31 : decode cX0_init 31 = .ok (.new 9, 3) := by decide +kernel
theorem dX0_init_34 : decode cX0_init 34 = .ok (.dup, 1) := by decide +kernel
theorem dX0_init_35 : decode cX0_init 35 = .ok (.invokespecial 19, 3) := by decide +kernel
theorem dX0_init_38 : decode cX0_init 38 = .ok (.aastore, 1) := by decide +kernel
theorem dX0_init_39 : decode cX0_init 39 = .ok (.iinc 2 1, 3) := by decide +kernel
theorem dX0_init_42 : decode cX0_init 42 = .ok (.goto (-22), 3) := by decide +kernel
theorem dX0_init_45 : decode cX0_init 45 = .ok (.return_, 1) := by decide +kernel
theorem dX0_forgetAll_0 : decode cX0_forgetAll 0 = .ok (.aload_n 0, 1) := by decide +kernel
theorem dX0_forgetAll_1 : decode cX0_forgetAll 1 = .ok (.iconst 0, 1) := by decide +kernel
theorem dX0_forgetAll_2 : decode cX0_forgetAll 2 = .ok (.putfield 20, 3) := by decide +kernel
theorem dX0_forgetAll_5 : decode cX0_forgetAll 5 = .ok (.aload_n 0, 1) := by decide +kernel
theorem dX0_forgetAll_6 : decode cX0_forgetAll 6 = .ok (.iconst 0, 1) := by decide +kernel
theorem dX0_forgetAll_7 : decode cX0_forgetAll 7 = .ok (.putfield 24, 3) := by decide +kernel
theorem dX0_forgetAll_10 : decode cX0_forgetAll 10 = .ok (.return_, 1) := by decide +kernel
theorem dX0_keep_0 : decode cX0_keep 0 = .ok (.aload_n 0, 1) := by decide +kernel
theorem dX0_keep_1 : decode cX0_keep 1 = .ok (.getfield 11, 3) := by decide +kernel
theorem dX0_keep_4 : decode cX0_keep 4 = .ok (.aload_n 0, 1) := by decide +kernel
theorem dX0_keep_5 : decode cX0_keep 5 = .ok (.getfield 24, 3) := by decide +kernel
theorem dX0_keep_8 : decode cX0_keep 8 = .ok (.aaload, 1) := by decide +kernel
theorem dX0_keep_9 : decode cX0_keep 9 = .ok (.aload_n 0, 1) := by decide +kernel
theorem dX0_keep_10 : decode cX0_keep 10 = .ok (.getfield 15, 3) := by decide +kernel
theorem dX0_keep_13 : decode cX0_keep 13 = .ok (.invokevirtual 27, 3) := by decide +kernel
theorem dX0_keep_16 : decode cX0_keep 16 = .ok (.aload_n 0, 1) := by decide +kernel
theorem dX0_keep_17 : decode cX0_keep 17 = .ok (.aload_n 0, 1) := by decide +kernel
theorem dX0_keep_18 : decode cX0_keep 18 = .ok (.getfield 24, 3) := by decide +kernel
theorem dX0_keep_21 : decode cX0_keep 21 = .ok (.iconst 1, 1) := by decide +kernel
theorem dX0_keep_22 : decode cX0_keep 22 = .ok (.iadd, 1) := by decide +kernel
theorem dX0_keep_23 : decode cX0_keep 23 = .ok (.bipush 24, 2) := by decide +kernel
theorem dX0_keep_25 : decode cX0_keep 25 = .ok (.if_icmp .ge 12, 3) := by decide +kernel
theorem dX0_keep_28 : decode cX0_keep 28 = .ok (.aload_n 0, 1) := by decide +kernel
theorem dX0_keep_29 : decode cX0_keep 29 = .ok (.getfield 24, 3) := by decide +kernel
theorem dX0_keep_32 : decode cX0_keep 32 = .ok (.iconst 1, 1) := by decide +kernel
theorem dX0_keep_33 : decode cX0_keep 33 = .ok (.iadd, 1) := by decide +kernel
theorem dX0_keep_34 : decode cX0_keep 34 = .ok (.goto 4, 3) := by decide +kernel
theorem dX0_keep_37 : decode cX0_keep 37 = .ok (.iconst 0, 1) := by decide +kernel
theorem dX0_keep_38 : decode cX0_keep 38 = .ok (.putfield 24, 3) := by decide +kernel
theorem dX0_keep_41 : decode cX0_keep 41 = .ok (.aload_n 0, 1) := by decide +kernel
theorem dX0_keep_42 : decode cX0_keep 42 = .ok (.aload_n 0, 1) := by decide +kernel
theorem dX0_keep_43 : decode cX0_keep 43 = .ok (.getfield 20, 3) := by decide +kernel
theorem dX0_keep_46 : decode cX0_keep 46 = .ok (.iconst 1, 1) := by decide +kernel
theorem dX0_keep_47 : decode cX0_keep 47 = .ok (.iadd, 1) := by decide +kernel
theorem dX0_keep_48 : decode cX0_keep 48 = .ok (.bipush 24, 2) := by decide +kernel
theorem dX0_keep_50 : decode cX0_keep 50 = .ok (.invokestatic 31, 3) := by decide +kernel
theorem dX0_keep_53 : decode cX0_keep 53 = .ok (.putfield 20, 3) := by decide +kernel
theorem dX0_keep_56 : decode cX0_keep 56 = .ok (.return_, 1) := by decide +kernel
theorem dX0_takeBack_0 : decode cX0_takeBack 0 = .ok (.aload_n 0, 1) := by decide +kernel
theorem dX0_takeBack_1 : decode cX0_takeBack 1 = .ok (.aload_n 0, 1) := by decide +kernel
theorem dX0_takeBack_2 : decode cX0_takeBack 2 = .ok (.getfield 24, 3) := by decide +kernel
theorem dX0_takeBack_5 : decode cX0_takeBack 5 = .ok (.ifCond .le 12, 3) := by decide +kernel
theorem dX0_takeBack_8 : decode cX0_takeBack 8 = .ok (.aload_n 0, 1) := by decide +kernel
theorem dX0_takeBack_9 : decode cX0_takeBack 9 = .ok (.getfield 24, 3) := by decide +kernel
theorem dX0_takeBack_12 : decode cX0_takeBack 12 = .ok (.iconst 1, 1) := by decide +kernel
theorem dX0_takeBack_13 : decode cX0_takeBack 13 = .ok (.isub, 1) := by decide +kernel
theorem dX0_takeBack_14 : decode cX0_takeBack 14 = .ok (.goto 5, 3) := by decide +kernel
theorem dX0_takeBack_17 : decode cX0_takeBack 17 = .ok (.bipush 23, 2) := by decide +kernel
theorem dX0_takeBack_19 : decode cX0_takeBack 19 = .ok (.putfield 24, 3) := by decide +kernel
theorem dX0_takeBack_22 : decode cX0_takeBack 22 = .ok (.aload_n 0, 1) := by decide +kernel
theorem dX0_takeBack_23 : decode cX0_takeBack 23 = .ok (.dup, 1) := by decide +kernel
theorem dX0_takeBack_24 : decode cX0_takeBack 24 = .ok (.getfield 20, 3) := by decide +kernel
theorem dX0_takeBack_27 : decode cX0_takeBack 27 = .ok (.iconst 1, 1) := by decide +kernel
theorem dX0_takeBack_28 : decode cX0_takeBack 28 = .ok (.isub, 1) := by decide +kernel
theorem dX0_takeBack_29 : decode cX0_takeBack 29 = .ok (.putfield 20, 3) := by decide +kernel
theorem dX0_takeBack_32 : decode cX0_takeBack 32 = .ok (.aload_n 0, 1) := by decide +kernel
theorem dX0_takeBack_33 : decode cX0_takeBack 33 = .ok (.getfield 15, 3) := by decide +kernel
theorem dX0_takeBack_36 : decode cX0_takeBack 36 = .ok (.aload_n 0, 1) := by decide +kernel
theorem dX0_takeBack_37 : decode cX0_takeBack 37 = .ok (.getfield 11, 3) := by decide +kernel
theorem dX0_takeBack_40 : decode cX0_takeBack 40 = .ok (.aload_n 0, 1) := by decide +kernel
theorem dX0_takeBack_41 : decode cX0_takeBack 41 = .ok (.getfield 24, 3) := by decide +kernel
theorem dX0_takeBack_44 : decode cX0_takeBack 44 = .ok (.aaload, 1) := by decide +kernel
theorem dX0_takeBack_45 : decode cX0_takeBack 45 = .ok (.invokevirtual 27, 3) := by decide +kernel
theorem dX0_takeBack_48 : decode cX0_takeBack 48 = .ok (.return_, 1) := by decide +kernel
theorem dX1_init_0 : decode cX1_init 0 = .ok (.aload_n 0, 1) := by decide +kernel
theorem dX1_init_1 : decode cX1_init 1 = .ok (.invokespecial 3, 3) := by decide +kernel
theorem dX1_init_4 : decode cX1_init 4 = .ok (.aload_n 0, 1) := by decide +kernel
theorem dX1_init_5 : decode cX1_init 5 = .ok (.bipush 16, 2) := by decide +kernel
theorem dX1_init_7 : decode cX1_init 7 = .ok (.newarray .int, 2) := by decide +kernel
theorem dX1_init_9 : decode cX1_init 9 = .ok (.putfield 11, 3) := by decide +kernel
theorem dX1_init_12 : decode cX1_init 12 = .ok (.aload_n 0, 1) := by decide +kernel
theorem dX1_init_13 : decode cX1_init 13 = .ok (.aload_n 1, 1) := by decide +kernel
theorem dX1_init_14 : decode cX1_init 14 = .ok (.putfield 15, 3) := by decide +kernel
theorem dX1_init_17 : decode cX1_init 17 = .ok (.return_, 1) := by decide +kernel
theorem dX1_begin_0 : decode cX1_begin 0 = .ok (.aload_n 0, 1) := by decide +kernel
theorem dX1_begin_1 : decode cX1_begin 1 = .ok (.iconst 0, 1) := by decide +kernel
theorem dX1_begin_2 : decode cX1_begin 2 = .ok (.putfield 19, 3) := by decide +kernel
theorem dX1_begin_5 : decode cX1_begin 5 = .ok (.aload_n 0, 1) := by decide +kernel
theorem dX1_begin_6 : decode cX1_begin 6 = .ok (.iload_n 1, 1) := by decide +kernel
theorem dX1_begin_7 : decode cX1_begin 7 = .ok (.iload_n 2, 1) := by decide +kernel
theorem dX1_begin_8 : decode cX1_begin 8 = .ok (.iconst 0, 1) := by decide +kernel
theorem dX1_begin_9 : decode cX1_begin 9 = .ok (.invokevirtual 23, 3) := by decide +kernel
theorem dX1_begin_12 : decode cX1_begin 12 = .ok (.ireturn, 1) := by decide +kernel
theorem dX1_answer_0 : decode cX1_answer 0 = .ok (.aload_n 0, 1) := by decide +kernel
theorem dX1_answer_1 : decode cX1_answer 1 = .ok (.aload_n 0, 1) := by decide +kernel
theorem dX1_answer_2 : decode cX1_answer 2 = .ok (.getfield 15, 3) := by decide +kernel
theorem dX1_answer_5 : decode cX1_answer 5 = .ok (.getfield 27, 3) := by decide +kernel
theorem dX1_answer_8 : decode cX1_answer 8 = .ok (.iload_n 1, 1) := by decide +kernel
theorem dX1_answer_9 : decode cX1_answer 9 = .ok (.iaload, 1) := by decide +kernel
theorem dX1_answer_10 : decode cX1_answer 10 = .ok (.iload_n 2, 1) := by decide +kernel
theorem dX1_answer_11 : decode cX1_answer 11 = .ok (.invokestatic 32, 3) := by decide +kernel
theorem dX1_answer_14 : decode cX1_answer 14 = .ok (.iload_n 1, 1) := by decide +kernel
theorem dX1_answer_15 : decode cX1_answer 15 = .ok (.iload_n 3, 1) := by decide +kernel
theorem dX1_answer_16 : decode cX1_answer 16 = .ok (.iconst 1, 1) := by decide +kernel
theorem dX1_answer_17 : decode cX1_answer 17 = .ok (.iadd, 1) := by decide +kernel
theorem dX1_answer_18 : decode cX1_answer 18 = .ok (.invokevirtual 36, 3) := by decide +kernel
theorem dX1_answer_21 : decode cX1_answer 21 = .ok (.ireturn, 1) := by decide +kernel
theorem dX1_bodyFor_0 : decode cX1_bodyFor 0 = .ok (.iload_n 0, 1) := by decide +kernel
theorem dX1_bodyFor_1 : decode cX1_bodyFor 1 = .ok (.istore_n 2, 1) := by decide +kernel
theorem dX1_bodyFor_2 : decode cX1_bodyFor 2 = .ok (.iconst 0, 1) := by decide +kernel
theorem dX1_bodyFor_3 : decode cX1_bodyFor 3 = .ok (.istore_n 3, 1) := by decide +kernel
theorem dX1_bodyFor_4 : decode cX1_bodyFor 4 = .ok (.iload_n 3, 1) := by decide +kernel
theorem dX1_bodyFor_5 : decode cX1_bodyFor 5 = .ok (.iconst 5, 1) := by decide +kernel
theorem dX1_bodyFor_6 : decode cX1_bodyFor 6 = .ok (.if_icmp .gt 51, 3) := by decide +kernel
theorem dX1_bodyFor_9 : decode cX1_bodyFor 9 = .ok (.iload_n 2, 1) := by decide +kernel
theorem dX1_bodyFor_10 : decode cX1_bodyFor 10 = .ok (.ifCond .lt 47, 3) := by decide +kernel
theorem dX1_bodyFor_13 : decode cX1_bodyFor 13 = .ok (.iload_n 2, 1) := by decide +kernel
theorem dX1_bodyFor_14 : decode cX1_bodyFor 14 = .ok (.iconst 5, 1) := by decide +kernel
theorem dX1_bodyFor_15 : decode cX1_bodyFor 15 = .ok (.if_icmp .gt 42, 3) := by decide +kernel
theorem dX1_bodyFor_18 : decode cX1_bodyFor 18 = .ok (.iload_n 1, 1) := by decide +kernel
theorem dX1_bodyFor_19 : decode cX1_bodyFor 19 = .ok (.ifCond .ne 11, 3) := by decide +kernel
theorem dX1_bodyFor_22 : decode cX1_bodyFor 22 = .ok (.getstatic 39, 3) := by decide +kernel
theorem dX1_bodyFor_25 : decode cX1_bodyFor 25 = .ok (.iload_n 2, 1) := by decide +kernel
theorem dX1_bodyFor_26 : decode cX1_bodyFor 26 = .ok (.iaload, 1) := by decide +kernel
theorem dX1_bodyFor_27 : decode cX1_bodyFor 27 = .ok (.goto 8, 3) := by decide +kernel
theorem dX1_bodyFor_30 : decode cX1_bodyFor 30 = .ok (.getstatic 42, 3) := by decide +kernel
theorem dX1_bodyFor_33 : decode cX1_bodyFor 33 = .ok (.iload_n 2, 1) := by decide +kernel
theorem dX1_bodyFor_34 : decode cX1_bodyFor 34 = .ok (.iaload, 1) := by decide +kernel
theorem dX1_bodyFor_35 : decode cX1_bodyFor 35 = .ok (.istore 4, 2) := by decide +kernel
theorem dX1_bodyFor_37 : decode cX1_bodyFor 37 = .ok (.iload 4, 2) := by decide +kernel
theorem dX1_bodyFor_39 : decode cX1_bodyFor 39 = .ok (.ifCond .eq 6, 3) := by decide +kernel
theorem dX1_bodyFor_42 : decode cX1_bodyFor 42 = .ok (.iload 4, 2) := by decide +kernel
theorem dX1_bodyFor_44 : decode cX1_bodyFor 44 = .ok (.ireturn, 1) := by decide +kernel
theorem dX1_bodyFor_45 : decode cX1_bodyFor 45 = .ok (.getstatic 45, 3) := by decide +kernel
theorem dX1_bodyFor_48 : decode cX1_bodyFor 48 = .ok (.iload_n 2, 1) := by decide +kernel
theorem dX1_bodyFor_49 : decode cX1_bodyFor 49 = .ok (.iaload, 1) := by decide +kernel
theorem dX1_bodyFor_50 : decode cX1_bodyFor 50 = .ok (.istore_n 2, 1) := by decide +kernel
theorem dX1_bodyFor_51 : decode cX1_bodyFor 51 = .ok (.iinc 3 1, 3) := by decide +kernel
theorem dX1_bodyFor_54 : decode cX1_bodyFor 54 = .ok (.goto (-50), 3) := by decide +kernel
theorem dX1_bodyFor_57 : decode cX1_bodyFor 57 = .ok (.iconst 0, 1) := by decide +kernel
theorem dX1_bodyFor_58 : decode cX1_bodyFor 58 = .ok (.ireturn, 1) := by decide +kernel
theorem dX1_body_0 : decode cX1_body 0 = .ok (.iload_n 3, 1) := by decide +kernel
theorem dX1_body_1 : decode cX1_body 1 = .ok (.bipush 20, 2) := by decide +kernel
theorem dX1_body_3 : decode cX1_body 3 = .ok (.if_icmp .le 5, 3) := by decide +kernel
theorem dX1_body_6 : decode cX1_body 6 = .ok (.iconst 0, 1) := by decide +kernel
theorem dX1_body_7 : decode cX1_body 7 = .ok (.ireturn, 1) := by decide +kernel
theorem dX1_body_8 : decode cX1_body 8 = .ok (.aload_n 0, 1) := by decide +kernel
theorem dX1_body_9 : decode cX1_body 9 = .ok (.iload_n 1, 1) := by decide +kernel
theorem dX1_body_10 : decode cX1_body 10 = .ok (.invokevirtual 48, 3) := by decide +kernel
theorem dX1_body_13 : decode cX1_body 13 = .ok (.iload_n 3, 1) := by decide +kernel
theorem dX1_body_14 : decode cX1_body 14 = .ok (.iconst 1, 1) := by decide +kernel
theorem dX1_body_15 : decode cX1_body 15 = .ok (.iadd, 1) := by decide +kernel
theorem dX1_body_16 : decode cX1_body 16 = .ok (.istore 4, 2) := by decide +kernel
theorem dX1_body_18 : decode cX1_body 18 = .ok (.iload_n 1, 1) := by decide +kernel
theorem dX1_body_19 : decode cX1_body 19 = .ok (.tableswitch 205 10 24 #[73, 83, 102, 113, 126, 205, 205, 205, 205, 205, 138, 140, 160, 174, 193], 73) := by decide +kernel
theorem dX1_body_92 : decode cX1_body 92 = .ok (.aload_n 0, 1) := by decide +kernel
theorem dX1_body_93 : decode cX1_body 93 = .ok (.getfield 15, 3) := by decide +kernel
theorem dX1_body_96 : decode cX1_body 96 = .ok (.getfield 52, 3) := by decide +kernel
theorem dX1_body_99 : decode cX1_body 99 = .ok (.iload_n 2, 1) := by decide +kernel
theorem dX1_body_100 : decode cX1_body 100 = .ok (.iaload, 1) := by decide +kernel
theorem dX1_body_101 : decode cX1_body 101 = .ok (.ireturn, 1) := by decide +kernel
theorem dX1_body_102 : decode cX1_body 102 = .ok (.aload_n 0, 1) := by decide +kernel
theorem dX1_body_103 : decode cX1_body 103 = .ok (.bipush 10, 2) := by decide +kernel
theorem dX1_body_105 : decode cX1_body 105 = .ok (.iload_n 2, 1) := by decide +kernel
theorem dX1_body_106 : decode cX1_body 106 = .ok (.iload 4, 2) := by decide +kernel
theorem dX1_body_108 : decode cX1_body 108 = .ok (.invokevirtual 36, 3) := by decide +kernel
theorem dX1_body_111 : decode cX1_body 111 = .ok (.aload_n 0, 1) := by decide +kernel
theorem dX1_body_112 : decode cX1_body 112 = .ok (.iload_n 2, 1) := by decide +kernel
theorem dX1_body_113 : decode cX1_body 113 = .ok (.iconst 1, 1) := by decide +kernel
theorem dX1_body_114 : decode cX1_body 114 = .ok (.iload 4, 2) := by decide +kernel
theorem dX1_body_116 : decode cX1_body 116 = .ok (.invokevirtual 23, 3) := by decide +kernel
theorem dX1_body_119 : decode cX1_body 119 = .ok (.iadd, 1) := by decide +kernel
theorem dX1_body_120 : decode cX1_body 120 = .ok (.ireturn, 1) := by decide +kernel
theorem dX1_body_121 : decode cX1_body 121 = .ok (.aload_n 0, 1) := by decide +kernel
theorem dX1_body_122 : decode cX1_body 122 = .ok (.bipush 11, 2) := by decide +kernel
theorem dX1_body_124 : decode cX1_body 124 = .ok (.iload_n 2, 1) := by decide +kernel
theorem dX1_body_125 : decode cX1_body 125 = .ok (.iload 4, 2) := by decide +kernel
theorem dX1_body_127 : decode cX1_body 127 = .ok (.invokevirtual 36, 3) := by decide +kernel
theorem dX1_body_130 : decode cX1_body 130 = .ok (.ineg, 1) := by decide +kernel
theorem dX1_body_131 : decode cX1_body 131 = .ok (.ireturn, 1) := by decide +kernel
theorem dX1_body_132 : decode cX1_body 132 = .ok (.aload_n 0, 1) := by decide +kernel
theorem dX1_body_133 : decode cX1_body 133 = .ok (.bipush 10, 2) := by decide +kernel
theorem dX1_body_135 : decode cX1_body 135 = .ok (.iload_n 2, 1) := by decide +kernel
theorem dX1_body_136 : decode cX1_body 136 = .ok (.iload 4, 2) := by decide +kernel
theorem dX1_body_138 : decode cX1_body 138 = .ok (.invokevirtual 36, 3) := by decide +kernel
theorem dX1_body_141 : decode cX1_body 141 = .ok (.bipush 100, 2) := by decide +kernel
theorem dX1_body_143 : decode cX1_body 143 = .ok (.isub, 1) := by decide +kernel
theorem dX1_body_144 : decode cX1_body 144 = .ok (.ireturn, 1) := by decide +kernel
theorem dX1_body_145 : decode cX1_body 145 = .ok (.iconst 2, 1) := by decide +kernel
theorem dX1_body_146 : decode cX1_body 146 = .ok (.aload_n 0, 1) := by decide +kernel
theorem dX1_body_147 : decode cX1_body 147 = .ok (.bipush 13, 2) := by decide +kernel
theorem dX1_body_149 : decode cX1_body 149 = .ok (.iload_n 2, 1) := by decide +kernel
theorem dX1_body_150 : decode cX1_body 150 = .ok (.iload 4, 2) := by decide +kernel
theorem dX1_body_152 : decode cX1_body 152 = .ok (.invokevirtual 36, 3) := by decide +kernel
theorem dX1_body_155 : decode cX1_body 155 = .ok (.imul, 1) := by decide +kernel
theorem dX1_body_156 : decode cX1_body 156 = .ok (.ireturn, 1) := by decide +kernel
theorem dX1_body_157 : decode cX1_body 157 = .ok (.iload_n 2, 1) := by decide +kernel
theorem dX1_body_158 : decode cX1_body 158 = .ok (.ireturn, 1) := by decide +kernel
theorem dX1_body_159 : decode cX1_body 159 = .ok (.aload_n 0, 1) := by decide +kernel
theorem dX1_body_160 : decode cX1_body 160 = .ok (.bipush 20, 2) := by decide +kernel
theorem dX1_body_162 : decode cX1_body 162 = .ok (.iload_n 2, 1) := by decide +kernel
theorem dX1_body_163 : decode cX1_body 163 = .ok (.iload 4, 2) := by decide +kernel
theorem dX1_body_165 : decode cX1_body 165 = .ok (.invokevirtual 36, 3) := by decide +kernel
theorem dX1_body_168 : decode cX1_body 168 = .ok (.aload_n 0, 1) := by decide +kernel
theorem dX1_body_169 : decode cX1_body 169 = .ok (.getfield 15, 3) := by decide +kernel
theorem dX1_body_172 : decode cX1_body 172 = .ok (.getfield 55, 3) := by decide +kernel
theorem dX1_body_175 : decode cX1_body 175 = .ok (.iload_n 2, 1) := by decide +kernel
theorem dX1_body_176 : decode cX1_body 176 = .ok (.iaload, 1) := by decide +kernel
theorem dX1_body_177 : decode cX1_body 177 = .ok (.iadd, 1) := by decide +kernel
theorem dX1_body_178 : decode cX1_body 178 = .ok (.ireturn, 1) := by decide +kernel
theorem dX1_body_179 : decode cX1_body 179 = .ok (.aload_n 0, 1) := by decide +kernel
theorem dX1_body_180 : decode cX1_body 180 = .ok (.bipush 21, 2) := by decide +kernel
theorem dX1_body_182 : decode cX1_body 182 = .ok (.iload_n 2, 1) := by decide +kernel
theorem dX1_body_183 : decode cX1_body 183 = .ok (.iload 4, 2) := by decide +kernel
theorem dX1_body_185 : decode cX1_body 185 = .ok (.invokevirtual 36, 3) := by decide +kernel
theorem dX1_body_188 : decode cX1_body 188 = .ok (.sipush 1000, 3) := by decide +kernel
theorem dX1_body_191 : decode cX1_body 191 = .ok (.isub, 1) := by decide +kernel
theorem dX1_body_192 : decode cX1_body 192 = .ok (.ireturn, 1) := by decide +kernel
theorem dX1_body_193 : decode cX1_body 193 = .ok (.aload_n 0, 1) := by decide +kernel
theorem dX1_body_194 : decode cX1_body 194 = .ok (.bipush 20, 2) := by decide +kernel
theorem dX1_body_196 : decode cX1_body 196 = .ok (.iload_n 2, 1) := by decide +kernel
theorem dX1_body_197 : decode cX1_body 197 = .ok (.iload 4, 2) := by decide +kernel
theorem dX1_body_199 : decode cX1_body 199 = .ok (.invokevirtual 36, 3) := by decide +kernel
theorem dX1_body_202 : decode cX1_body 202 = .ok (.aload_n 0, 1) := by decide +kernel
theorem dX1_body_203 : decode cX1_body 203 = .ok (.iload_n 2, 1) := by decide +kernel
theorem dX1_body_204 : decode cX1_body 204 = .ok (.iconst 0, 1) := by decide +kernel
theorem dX1_body_205 : decode cX1_body 205 = .ok (.iload 4, 2) := by decide +kernel
theorem dX1_body_207 : decode cX1_body 207 = .ok (.invokevirtual 23, 3) := by decide +kernel
theorem dX1_body_210 : decode cX1_body 210 = .ok (.isub, 1) := by decide +kernel
theorem dX1_body_211 : decode cX1_body 211 = .ok (.ireturn, 1) := by decide +kernel
theorem dX1_body_212 : decode cX1_body 212 = .ok (.iconst 2, 1) := by decide +kernel
theorem dX1_body_213 : decode cX1_body 213 = .ok (.aload_n 0, 1) := by decide +kernel
theorem dX1_body_214 : decode cX1_body 214 = .ok (.bipush 21, 2) := by decide +kernel
theorem dX1_body_216 : decode cX1_body 216 = .ok (.iload_n 2, 1) := by decide +kernel
theorem dX1_body_217 : decode cX1_body 217 = .ok (.iload 4, 2) := by decide +kernel
theorem dX1_body_219 : decode cX1_body 219 = .ok (.invokevirtual 36, 3) := by decide +kernel
theorem dX1_body_222 : decode cX1_body 222 = .ok (.imul, 1) := by decide +kernel
theorem dX1_body_223 : decode cX1_body 223 = .ok (.ireturn, 1) := by decide +kernel
theorem dX1_body_224 : decode cX1_body 224 = .ok (.iconst 0, 1) := by decide +kernel
theorem dX1_body_225 : decode cX1_body 225 = .ok (.ireturn, 1) := by decide +kernel
theorem dX1_leave_0 : decode cX1_leave 0 = .ok (.aload_n 0, 1) := by decide +kernel
theorem dX1_leave_1 : decode cX1_leave 1 = .ok (.getfield 19, 3) := by decide +kernel
theorem dX1_leave_4 : decode cX1_leave 4 = .ok (.bipush 16, 2) := by decide +kernel
theorem dX1_leave_6 : decode cX1_leave 6 = .ok (.if_icmp .ge 23, 3) := by decide +kernel
theorem dX1_leave_9 : decode cX1_leave 9 = .ok (.aload_n 0, 1) := by decide +kernel
theorem dX1_leave_10 : decode cX1_leave 10 = .ok (.getfield 11, 3) := by decide +kernel
theorem dX1_leave_13 : decode cX1_leave 13 = .ok (.aload_n 0, 1) := by decide +kernel
theorem dX1_leave_14 : decode cX1_leave 14 = .ok (.getfield 19, 3) := by decide +kernel
theorem dX1_leave_17 : decode cX1_leave 17 = .ok (.iload_n 1, 1) := by decide +kernel
theorem dX1_leave_18 : decode cX1_leave 18 = .ok (.iastore, 1) := by decide +kernel
theorem dX1_leave_19 : decode cX1_leave 19 = .ok (.aload_n 0, 1) := by decide +kernel
theorem dX1_leave_20 : decode cX1_leave 20 = .ok (.dup, 1) := by decide +kernel
theorem dX1_leave_21 : decode cX1_leave 21 = .ok (.getfield 19, 3) := by decide +kernel
theorem dX1_leave_24 : decode cX1_leave 24 = .ok (.iconst 1, 1) := by decide +kernel
theorem dX1_leave_25 : decode cX1_leave 25 = .ok (.iadd, 1) := by decide +kernel
theorem dX1_leave_26 : decode cX1_leave 26 = .ok (.putfield 19, 3) := by decide +kernel
theorem dX1_leave_29 : decode cX1_leave 29 = .ok (.return_, 1) := by decide +kernel
theorem dX2_init_0 : decode cX2_init 0 = .ok (.aload_n 0, 1) := by decide +kernel
theorem dX2_init_1 : decode cX2_init 1 = .ok (.invokespecial 3, 3) := by decide +kernel
theorem dX2_init_4 : decode cX2_init 4 = .ok (.aload_n 0, 1) := by decide +kernel
theorem dX2_init_5 : decode cX2_init 5 = .ok (.bipush 6, 2) := by decide +kernel
theorem dX2_init_7 : decode cX2_init 7 = .ok (.newarray .long, 2) := by decide +kernel
theorem dX2_init_9 : decode cX2_init 9 = .ok (.putfield 9, 3) := by decide +kernel
theorem dX2_init_12 : decode cX2_init 12 = .ok (.return_, 1) := by decide +kernel
theorem dX2_weigh_0 : decode cX2_weigh 0 = .ok (.aload_n 0, 1) := by decide +kernel
theorem dX2_weigh_1 : decode cX2_weigh 1 = .ok (.lconst 1, 1) := by decide +kernel
theorem dX2_weigh_2 : decode cX2_weigh 2 = .ok (.putfield 15, 3) := by decide +kernel
theorem dX2_weigh_5 : decode cX2_weigh 5 = .ok (.iconst 0, 1) := by decide +kernel
theorem dX2_weigh_6 : decode cX2_weigh 6 = .ok (.istore 4, 2) := by decide +kernel
theorem dX2_weigh_8 : decode cX2_weigh 8 = .ok (.iload 4, 2) := by decide +kernel
theorem dX2_weigh_10 : decode cX2_weigh 10 = .ok (.iconst 5, 1) := by decide +kernel
theorem dX2_weigh_11 : decode cX2_weigh 11 = .ok (.if_icmp .gt 26, 3) := by decide +kernel
theorem dX2_weigh_14 : decode cX2_weigh 14 = .ok (.aload_n 0, 1) := by decide +kernel
theorem dX2_weigh_15 : decode cX2_weigh 15 = .ok (.getfield 9, 3) := by decide +kernel
theorem dX2_weigh_18 : decode cX2_weigh 18 = .ok (.iload 4, 2) := by decide +kernel
theorem dX2_weigh_20 : decode cX2_weigh 20 = .ok (.iload 4, 2) := by decide +kernel
theorem dX2_weigh_22 : decode cX2_weigh 22 = .ok (.ifCond .ne 7, 3) := by decide +kernel
theorem dX2_weigh_25 : decode cX2_weigh 25 = .ok (.lconst 1, 1) := by decide +kernel
theorem dX2_weigh_26 : decode cX2_weigh 26 = .ok (.goto 4, 3) := by decide +kernel
theorem dX2_weigh_29 : decode cX2_weigh 29 = .ok (.lconst 0, 1) := by decide +kernel
theorem dX2_weigh_30 : decode cX2_weigh 30 = .ok (.lastore, 1) := by decide +kernel
theorem dX2_weigh_31 : decode cX2_weigh 31 = .ok (.iinc 4 1, 3) := by decide +kernel
theorem dX2_weigh_34 : decode cX2_weigh 34 = .ok (.goto (-26), 3) := by decide +kernel
theorem dX2_weigh_37 : decode cX2_weigh 37 = .ok (.iconst 0, 1) := by decide +kernel
theorem dX2_weigh_38 : decode cX2_weigh 38 = .ok (.istore 4, 2) := by decide +kernel
theorem dX2_weigh_40 : decode cX2_weigh 40 = .ok (.iload 4, 2) := by decide +kernel
theorem dX2_weigh_42 : decode cX2_weigh 42 = .ok (.iload_n 1, 1) := by decide +kernel
theorem dX2_weigh_43 : decode cX2_weigh 43 = .ok (.if_icmp .ge 81, 3) := by decide +kernel
theorem dX2_weigh_46 : decode cX2_weigh 46 = .ok (.aload_n 0, 1) := by decide +kernel
theorem dX2_weigh_47 : decode cX2_weigh 47 = .ok (.dup, 1) := by decide +kernel
theorem dX2_weigh_48 : decode cX2_weigh 48 = .ok (.getfield 15, 3) := by decide +kernel
theorem dX2_weigh_51 : decode cX2_weigh 51 = .ok (.ldc2_w 19, 3) := by decide +kernel
theorem dX2_weigh_54 : decode cX2_weigh 54 = .ok (.lmul, 1) := by decide +kernel
theorem dX2_weigh_55 : decode cX2_weigh 55 = .ok (.putfield 15, 3) := by decide +kernel
theorem dX2_weigh_58 : decode cX2_weigh 58 = .ok (.iconst 5, 1) := by decide +kernel
theorem dX2_weigh_59 : decode cX2_weigh 59 = .ok (.istore 5, 2) := by decide +kernel
theorem dX2_weigh_61 : decode cX2_weigh 61 = .ok (.iload 5, 2) := by decide +kernel
theorem dX2_weigh_63 : decode cX2_weigh 63 = .ok (.ifCond .lt 55, 3) := by decide +kernel
theorem dX2_weigh_66 : decode cX2_weigh 66 = .ok (.iload 5, 2) := by decide +kernel
theorem dX2_weigh_68 : decode cX2_weigh 68 = .ok (.ifCond .le 18, 3) := by decide +kernel
theorem dX2_weigh_71 : decode cX2_weigh 71 = .ok (.aload_n 0, 1) := by decide +kernel
theorem dX2_weigh_72 : decode cX2_weigh 72 = .ok (.getfield 9, 3) := by decide +kernel
theorem dX2_weigh_75 : decode cX2_weigh 75 = .ok (.iload 5, 2) := by decide +kernel
theorem dX2_weigh_77 : decode cX2_weigh 77 = .ok (.iconst 1, 1) := by decide +kernel
theorem dX2_weigh_78 : decode cX2_weigh 78 = .ok (.isub, 1) := by decide +kernel
theorem dX2_weigh_79 : decode cX2_weigh 79 = .ok (.laload, 1) := by decide +kernel
theorem dX2_weigh_80 : decode cX2_weigh 80 = .ok (.iload_n 3, 1) := by decide +kernel
theorem dX2_weigh_81 : decode cX2_weigh 81 = .ok (.i2l, 1) := by decide +kernel
theorem dX2_weigh_82 : decode cX2_weigh 82 = .ok (.lmul, 1) := by decide +kernel
theorem dX2_weigh_83 : decode cX2_weigh 83 = .ok (.goto 4, 3) := by decide +kernel
theorem dX2_weigh_86 : decode cX2_weigh 86 = .ok (.lconst 0, 1) := by decide +kernel
theorem dX2_weigh_87 : decode cX2_weigh 87 = .ok (.lstore 6, 2) := by decide +kernel
theorem dX2_weigh_89 : decode cX2_weigh 89 = .ok (.aload_n 0, 1) := by decide +kernel
theorem dX2_weigh_90 : decode cX2_weigh 90 = .ok (.getfield 9, 3) := by decide +kernel
theorem dX2_weigh_93 : decode cX2_weigh 93 = .ok (.iload 5, 2) := by decide +kernel
theorem dX2_weigh_95 : decode cX2_weigh 95 = .ok (.aload_n 0, 1) := by decide +kernel
theorem dX2_weigh_96 : decode cX2_weigh 96 = .ok (.getfield 9, 3) := by decide +kernel
theorem dX2_weigh_99 : decode cX2_weigh 99 = .ok (.iload 5, 2) := by decide +kernel
theorem dX2_weigh_101 : decode cX2_weigh 101 = .ok (.laload, 1) := by decide +kernel
theorem dX2_weigh_102 : decode cX2_weigh 102 = .ok (.bipush 10, 2) := by decide +kernel
theorem dX2_weigh_104 : decode cX2_weigh 104 = .ok (.iload_n 3, 1) := by decide +kernel
theorem dX2_weigh_105 : decode cX2_weigh 105 = .ok (.isub, 1) := by decide +kernel
theorem dX2_weigh_106 : decode cX2_weigh 106 = .ok (.i2l, 1) := by decide +kernel
theorem dX2_weigh_107 : decode cX2_weigh 107 = .ok (.lmul, 1) := by decide +kernel
theorem dX2_weigh_108 : decode cX2_weigh 108 = .ok (.lload 6, 2) := by decide +kernel
theorem dX2_weigh_110 : decode cX2_weigh 110 = .ok (.ladd, 1) := by decide +kernel
theorem dX2_weigh_111 : decode cX2_weigh 111 = .ok (.lastore, 1) := by decide +kernel
theorem dX2_weigh_112 : decode cX2_weigh 112 = .ok (.iinc 5 (-1), 3) := by decide +kernel
theorem dX2_weigh_115 : decode cX2_weigh 115 = .ok (.goto (-54), 3) := by decide +kernel
theorem dX2_weigh_118 : decode cX2_weigh 118 = .ok (.iinc 4 1, 3) := by decide +kernel
theorem dX2_weigh_121 : decode cX2_weigh 121 = .ok (.goto (-81), 3) := by decide +kernel
theorem dX2_weigh_124 : decode cX2_weigh 124 = .ok (.aload_n 0, 1) := by decide +kernel
theorem dX2_weigh_125 : decode cX2_weigh 125 = .ok (.lconst 0, 1) := by decide +kernel
theorem dX2_weigh_126 : decode cX2_weigh 126 = .ok (.putfield 21, 3) := by decide +kernel
theorem dX2_weigh_129 : decode cX2_weigh 129 = .ok (.iload_n 2, 1) := by decide +kernel
theorem dX2_weigh_130 : decode cX2_weigh 130 = .ok (.istore 4, 2) := by decide +kernel
theorem dX2_weigh_132 : decode cX2_weigh 132 = .ok (.iload 4, 2) := by decide +kernel
theorem dX2_weigh_134 : decode cX2_weigh 134 = .ok (.iconst 5, 1) := by decide +kernel
theorem dX2_weigh_135 : decode cX2_weigh 135 = .ok (.if_icmp .gt 25, 3) := by decide +kernel
theorem dX2_weigh_138 : decode cX2_weigh 138 = .ok (.aload_n 0, 1) := by decide +kernel
theorem dX2_weigh_139 : decode cX2_weigh 139 = .ok (.dup, 1) := by decide +kernel
theorem dX2_weigh_140 : decode cX2_weigh 140 = .ok (.getfield 21, 3) := by decide +kernel
theorem dX2_weigh_143 : decode cX2_weigh 143 = .ok (.aload_n 0, 1) := by decide +kernel
theorem dX2_weigh_144 : decode cX2_weigh 144 = .ok (.getfield 9, 3) := by decide +kernel
theorem dX2_weigh_147 : decode cX2_weigh 147 = .ok (.iload 4, 2) := by decide +kernel
theorem dX2_weigh_149 : decode cX2_weigh 149 = .ok (.laload, 1) := by decide +kernel
theorem dX2_weigh_150 : decode cX2_weigh 150 = .ok (.ladd, 1) := by decide +kernel
theorem dX2_weigh_151 : decode cX2_weigh 151 = .ok (.putfield 21, 3) := by decide +kernel
theorem dX2_weigh_154 : decode cX2_weigh 154 = .ok (.iinc 4 1, 3) := by decide +kernel
theorem dX2_weigh_157 : decode cX2_weigh 157 = .ok (.goto (-25), 3) := by decide +kernel
theorem dX2_weigh_160 : decode cX2_weigh 160 = .ok (.aload_n 0, 1) := by decide +kernel
theorem dX2_weigh_161 : decode cX2_weigh 161 = .ok (.getfield 15, 3) := by decide +kernel
theorem dX2_weigh_164 : decode cX2_weigh 164 = .ok (.aload_n 0, 1) := by decide +kernel
theorem dX2_weigh_165 : decode cX2_weigh 165 = .ok (.getfield 21, 3) := by decide +kernel
theorem dX2_weigh_168 : decode cX2_weigh 168 = .ok (.invokestatic 24, 3) := by decide +kernel
theorem dX2_weigh_171 : decode cX2_weigh 171 = .ok (.lstore 4, 2) := by decide +kernel
theorem dX2_weigh_173 : decode cX2_weigh 173 = .ok (.lload 4, 2) := by decide +kernel
theorem dX2_weigh_175 : decode cX2_weigh 175 = .ok (.lconst 1, 1) := by decide +kernel
theorem dX2_weigh_176 : decode cX2_weigh 176 = .ok (.lcmp, 1) := by decide +kernel
theorem dX2_weigh_177 : decode cX2_weigh 177 = .ok (.ifCond .le 25, 3) := by decide +kernel
theorem dX2_weigh_180 : decode cX2_weigh 180 = .ok (.aload_n 0, 1) := by decide +kernel
theorem dX2_weigh_181 : decode cX2_weigh 181 = .ok (.dup, 1) := by decide +kernel
theorem dX2_weigh_182 : decode cX2_weigh 182 = .ok (.getfield 21, 3) := by decide +kernel
theorem dX2_weigh_185 : decode cX2_weigh 185 = .ok (.lload 4, 2) := by decide +kernel
theorem dX2_weigh_187 : decode cX2_weigh 187 = .ok (.ldiv, 1) := by decide +kernel
theorem dX2_weigh_188 : decode cX2_weigh 188 = .ok (.putfield 21, 3) := by decide +kernel
theorem dX2_weigh_191 : decode cX2_weigh 191 = .ok (.aload_n 0, 1) := by decide +kernel
theorem dX2_weigh_192 : decode cX2_weigh 192 = .ok (.dup, 1) := by decide +kernel
theorem dX2_weigh_193 : decode cX2_weigh 193 = .ok (.getfield 15, 3) := by decide +kernel
theorem dX2_weigh_196 : decode cX2_weigh 196 = .ok (.lload 4, 2) := by decide +kernel
theorem dX2_weigh_198 : decode cX2_weigh 198 = .ok (.ldiv, 1) := by decide +kernel
theorem dX2_weigh_199 : decode cX2_weigh 199 = .ok (.putfield 15, 3) := by decide +kernel
theorem dX2_weigh_202 : decode cX2_weigh 202 = .ok (.return_, 1) := by decide +kernel
theorem dX2_commonDivisor_0 : decode cX2_commonDivisor 0 = .ok (.lload_n 0, 1) := by decide +kernel
theorem dX2_commonDivisor_1 : decode cX2_commonDivisor 1 = .ok (.lstore 4, 2) := by decide +kernel
theorem dX2_commonDivisor_3 : decode cX2_commonDivisor 3 = .ok (.lload_n 2, 1) := by decide +kernel
theorem dX2_commonDivisor_4 : decode cX2_commonDivisor 4 = .ok (.lstore 6, 2) := by decide +kernel
theorem dX2_commonDivisor_6 : decode cX2_commonDivisor 6 = .ok (.iconst 0, 1) := by decide +kernel
theorem dX2_commonDivisor_7 : decode cX2_commonDivisor 7 = .ok (.istore 8, 2) := by decide +kernel
theorem dX2_commonDivisor_9 : decode cX2_commonDivisor 9 = .ok (.iload 8, 2) := by decide +kernel
theorem dX2_commonDivisor_11 : decode cX2_commonDivisor 11 = .ok (.bipush 64, 2) := by decide +kernel
theorem dX2_commonDivisor_13 : decode cX2_commonDivisor 13 = .ok (.if_icmp .ge 31, 3) := by decide +kernel
theorem dX2_commonDivisor_16 : decode cX2_commonDivisor 16 = .ok (.lload 6, 2) := by decide +kernel
theorem dX2_commonDivisor_18 : decode cX2_commonDivisor 18 = .ok (.lconst 0, 1) := by decide +kernel
theorem dX2_commonDivisor_19 : decode cX2_commonDivisor 19 = .ok (.lcmp, 1) := by decide +kernel
theorem dX2_commonDivisor_20 : decode cX2_commonDivisor 20 = .ok (.ifCond .eq 24, 3) := by decide +kernel
theorem dX2_commonDivisor_23 : decode cX2_commonDivisor 23 = .ok (.lload 4, 2) := by decide +kernel
theorem dX2_commonDivisor_25 : decode cX2_commonDivisor 25 = .ok (.lload 6, 2) := by decide +kernel
theorem dX2_commonDivisor_27 : decode cX2_commonDivisor 27 = .ok (.lrem, 1) := by decide +kernel
theorem dX2_commonDivisor_28 : decode cX2_commonDivisor 28 = .ok (.lstore 9, 2) := by decide +kernel
theorem dX2_commonDivisor_30 : decode cX2_commonDivisor 30 = .ok (.lload 6, 2) := by decide +kernel
theorem dX2_commonDivisor_32 : decode cX2_commonDivisor 32 = .ok (.lstore 4, 2) := by decide +kernel
theorem dX2_commonDivisor_34 : decode cX2_commonDivisor 34 = .ok (.lload 9, 2) := by decide +kernel
theorem dX2_commonDivisor_36 : decode cX2_commonDivisor 36 = .ok (.lstore 6, 2) := by decide +kernel
theorem dX2_commonDivisor_38 : decode cX2_commonDivisor 38 = .ok (.iinc 8 1, 3) := by decide +kernel
theorem dX2_commonDivisor_41 : decode cX2_commonDivisor 41 = .ok (.goto (-32), 3) := by decide +kernel
theorem dX2_commonDivisor_44 : decode cX2_commonDivisor 44 = .ok (.lload 4, 2) := by decide +kernel
theorem dX2_commonDivisor_46 : decode cX2_commonDivisor 46 = .ok (.lreturn, 1) := by decide +kernel
theorem dX3_init_0 : decode cX3_init 0 = .ok (.aload_n 0, 1) := by decide +kernel
theorem dX3_init_1 : decode cX3_init 1 = .ok (.invokespecial 3, 3) := by decide +kernel
theorem dX3_init_4 : decode cX3_init 4 = .ok (.aload_n 0, 1) := by decide +kernel
theorem dX3_init_5 : decode cX3_init 5 = .ok (.new 9, 3) := by decide +kernel
theorem dX3_init_8 : decode cX3_init 8 = .ok (.dup, 1) := by decide +kernel
theorem dX3_init_9 : decode cX3_init 9 = .ok (.invokespecial 11, 3) := by decide +kernel
theorem dX3_init_12 : decode cX3_init 12 = .ok (.putfield 12, 3) := by decide +kernel
theorem dX3_init_15 : decode cX3_init 15 = .ok (.aload_n 0, 1) := by decide +kernel
theorem dX3_init_16 : decode cX3_init 16 = .ok (.aload_n 1, 1) := by decide +kernel
theorem dX3_init_17 : decode cX3_init 17 = .ok (.putfield 18, 3) := by decide +kernel
theorem dX3_init_20 : decode cX3_init 20 = .ok (.aload_n 0, 1) := by decide +kernel
theorem dX3_init_21 : decode cX3_init 21 = .ok (.aload_n 2, 1) := by decide +kernel
theorem dX3_init_22 : decode cX3_init 22 = .ok (.putfield 21, 3) := by decide +kernel
theorem dX3_init_25 : decode cX3_init 25 = .ok (.return_, 1) := by decide +kernel
theorem dX3_begin_0 : decode cX3_begin 0 = .ok (.aload_n 0, 1) := by decide +kernel
theorem dX3_begin_1 : decode cX3_begin 1 = .ok (.getfield 12, 3) := by decide +kernel
theorem dX3_begin_4 : decode cX3_begin 4 = .ok (.aload_n 0, 1) := by decide +kernel
theorem dX3_begin_5 : decode cX3_begin 5 = .ok (.getfield 18, 3) := by decide +kernel
theorem dX3_begin_8 : decode cX3_begin 8 = .ok (.invokevirtual 25, 3) := by decide +kernel
theorem dX3_begin_11 : decode cX3_begin 11 = .ok (.aload_n 0, 1) := by decide +kernel
theorem dX3_begin_12 : decode cX3_begin 12 = .ok (.getfield 12, 3) := by decide +kernel
theorem dX3_begin_15 : decode cX3_begin 15 = .ok (.invokevirtual 29, 3) := by decide +kernel
theorem dX3_begin_18 : decode cX3_begin 18 = .ok (.return_, 1) := by decide +kernel
theorem dX3_behind_0 : decode cX3_behind 0 = .ok (.aload_n 0, 1) := by decide +kernel
theorem dX3_behind_1 : decode cX3_behind 1 = .ok (.invokevirtual 32, 3) := by decide +kernel
theorem dX3_behind_4 : decode cX3_behind 4 = .ok (.iconst 0, 1) := by decide +kernel
theorem dX3_behind_5 : decode cX3_behind 5 = .ok (.istore_n 2, 1) := by decide +kernel
theorem dX3_behind_6 : decode cX3_behind 6 = .ok (.iload_n 2, 1) := by decide +kernel
theorem dX3_behind_7 : decode cX3_behind 7 = .ok (.iload_n 1, 1) := by decide +kernel
theorem dX3_behind_8 : decode cX3_behind 8 = .ok (.if_icmp .ge 17, 3) := by decide +kernel
theorem dX3_behind_11 : decode cX3_behind 11 = .ok (.aload_n 0, 1) := by decide +kernel
theorem dX3_behind_12 : decode cX3_behind 12 = .ok (.getfield 12, 3) := by decide +kernel
theorem dX3_behind_15 : decode cX3_behind 15 = .ok (.invokevirtual 35, 3) := by decide +kernel
theorem dX3_behind_18 : decode cX3_behind 18 = .ok (.pop, 1) := by decide +kernel
theorem dX3_behind_19 : decode cX3_behind 19 = .ok (.iinc 2 1, 3) := by decide +kernel
theorem dX3_behind_22 : decode cX3_behind 22 = .ok (.goto (-16), 3) := by decide +kernel
theorem dX3_behind_25 : decode cX3_behind 25 = .ok (.aload_n 0, 1) := by decide +kernel
theorem dX3_behind_26 : decode cX3_behind 26 = .ok (.getfield 12, 3) := by decide +kernel
theorem dX3_behind_29 : decode cX3_behind 29 = .ok (.areturn, 1) := by decide +kernel
theorem dX3_behindDraws_0 : decode cX3_behindDraws 0 = .ok (.aload_n 0, 1) := by decide +kernel
theorem dX3_behindDraws_1 : decode cX3_behindDraws 1 = .ok (.invokevirtual 32, 3) := by decide +kernel
theorem dX3_behindDraws_4 : decode cX3_behindDraws 4 = .ok (.iload_n 2, 1) := by decide +kernel
theorem dX3_behindDraws_5 : decode cX3_behindDraws 5 = .ok (.i2l, 1) := by decide +kernel
theorem dX3_behindDraws_6 : decode cX3_behindDraws 6 = .ok (.lstore_n 3, 1) := by decide +kernel
theorem dX3_behindDraws_7 : decode cX3_behindDraws 7 = .ok (.iconst 0, 1) := by decide +kernel
theorem dX3_behindDraws_8 : decode cX3_behindDraws 8 = .ok (.istore 5, 2) := by decide +kernel
theorem dX3_behindDraws_10 : decode cX3_behindDraws 10 = .ok (.iload 5, 2) := by decide +kernel
theorem dX3_behindDraws_12 : decode cX3_behindDraws 12 = .ok (.iload_n 1, 1) := by decide +kernel
theorem dX3_behindDraws_13 : decode cX3_behindDraws 13 = .ok (.if_icmp .ge 78, 3) := by decide +kernel
theorem dX3_behindDraws_16 : decode cX3_behindDraws 16 = .ok (.lload_n 3, 1) := by decide +kernel
theorem dX3_behindDraws_17 : decode cX3_behindDraws 17 = .ok (.ldc2_w 39, 3) := by decide +kernel
theorem dX3_behindDraws_20 : decode cX3_behindDraws 20 = .ok (.lmul, 1) := by decide +kernel
theorem dX3_behindDraws_21 : decode cX3_behindDraws 21 = .ok (.ldc2_w 41, 3) := by decide +kernel
theorem dX3_behindDraws_24 : decode cX3_behindDraws 24 = .ok (.lrem, 1) := by decide +kernel
theorem dX3_behindDraws_25 : decode cX3_behindDraws 25 = .ok (.lstore_n 3, 1) := by decide +kernel
theorem dX3_behindDraws_26 : decode cX3_behindDraws 26 = .ok (.aload_n 0, 1) := by decide +kernel
theorem dX3_behindDraws_27 : decode cX3_behindDraws 27 = .ok (.getfield 12, 3) := by decide +kernel
theorem dX3_behindDraws_30 : decode cX3_behindDraws 30 = .ok (.lload_n 3, 1) := by decide +kernel
theorem dX3_behindDraws_31 : decode cX3_behindDraws 31 = .ok (.ldc2_w 43, 3) := by decide +kernel
theorem dX3_behindDraws_34 : decode cX3_behindDraws 34 = .ok (.lrem, 1) := by decide +kernel
theorem dX3_behindDraws_35 : decode cX3_behindDraws 35 = .ok (.l2i, 1) := by decide +kernel
theorem dX3_behindDraws_36 : decode cX3_behindDraws 36 = .ok (.putfield 45, 3) := by decide +kernel
theorem dX3_behindDraws_39 : decode cX3_behindDraws 39 = .ok (.lload_n 3, 1) := by decide +kernel
theorem dX3_behindDraws_40 : decode cX3_behindDraws 40 = .ok (.ldc2_w 49, 3) := by decide +kernel
theorem dX3_behindDraws_43 : decode cX3_behindDraws 43 = .ok (.lrem, 1) := by decide +kernel
theorem dX3_behindDraws_44 : decode cX3_behindDraws 44 = .ok (.lconst 0, 1) := by decide +kernel
theorem dX3_behindDraws_45 : decode cX3_behindDraws 45 = .ok (.lcmp, 1) := by decide +kernel
theorem dX3_behindDraws_46 : decode cX3_behindDraws 46 = .ok (.ifCond .ne 31, 3) := by decide +kernel
theorem dX3_behindDraws_49 : decode cX3_behindDraws 49 = .ok (.aload_n 0, 1) := by decide +kernel
theorem dX3_behindDraws_50 : decode cX3_behindDraws 50 = .ok (.getfield 12, 3) := by decide +kernel
theorem dX3_behindDraws_53 : decode cX3_behindDraws 53 = .ok (.getfield 51, 3) := by decide +kernel
theorem dX3_behindDraws_56 : decode cX3_behindDraws 56 = .ok (.ifCond .le 21, 3) := by decide +kernel
theorem dX3_behindDraws_59 : decode cX3_behindDraws 59 = .ok (.aload_n 0, 1) := by decide +kernel
theorem dX3_behindDraws_60 : decode cX3_behindDraws 60 = .ok (.getfield 12, 3) := by decide +kernel
theorem dX3_behindDraws_63 : decode cX3_behindDraws 63 = .ok (.lload_n 3, 1) := by decide +kernel
theorem dX3_behindDraws_64 : decode cX3_behindDraws 64 = .ok (.aload_n 0, 1) := by decide +kernel
theorem dX3_behindDraws_65 : decode cX3_behindDraws 65 = .ok (.getfield 12, 3) := by decide +kernel
theorem dX3_behindDraws_68 : decode cX3_behindDraws 68 = .ok (.getfield 51, 3) := by decide +kernel
theorem dX3_behindDraws_71 : decode cX3_behindDraws 71 = .ok (.i2l, 1) := by decide +kernel
theorem dX3_behindDraws_72 : decode cX3_behindDraws 72 = .ok (.lrem, 1) := by decide +kernel
theorem dX3_behindDraws_73 : decode cX3_behindDraws 73 = .ok (.l2i, 1) := by decide +kernel
theorem dX3_behindDraws_74 : decode cX3_behindDraws 74 = .ok (.invokevirtual 54, 3) := by decide +kernel
theorem dX3_behindDraws_77 : decode cX3_behindDraws 77 = .ok (.aload_n 0, 1) := by decide +kernel
theorem dX3_behindDraws_78 : decode cX3_behindDraws 78 = .ok (.getfield 12, 3) := by decide +kernel
theorem dX3_behindDraws_81 : decode cX3_behindDraws 81 = .ok (.invokevirtual 35, 3) := by decide +kernel
theorem dX3_behindDraws_84 : decode cX3_behindDraws 84 = .ok (.pop, 1) := by decide +kernel
theorem dX3_behindDraws_85 : decode cX3_behindDraws 85 = .ok (.iinc 5 1, 3) := by decide +kernel
theorem dX3_behindDraws_88 : decode cX3_behindDraws 88 = .ok (.goto (-78), 3) := by decide +kernel
theorem dX3_behindDraws_91 : decode cX3_behindDraws 91 = .ok (.aload_n 0, 1) := by decide +kernel
theorem dX3_behindDraws_92 : decode cX3_behindDraws 92 = .ok (.getfield 12, 3) := by decide +kernel
theorem dX3_behindDraws_95 : decode cX3_behindDraws 95 = .ok (.areturn, 1) := by decide +kernel
theorem dX3_firstRain_0 : decode cX3_firstRain 0 = .ok (.aload_n 0, 1) := by decide +kernel
theorem dX3_firstRain_1 : decode cX3_firstRain 1 = .ok (.invokevirtual 32, 3) := by decide +kernel
theorem dX3_firstRain_4 : decode cX3_firstRain 4 = .ok (.iconst 1, 1) := by decide +kernel
theorem dX3_firstRain_5 : decode cX3_firstRain 5 = .ok (.istore_n 2, 1) := by decide +kernel
theorem dX3_firstRain_6 : decode cX3_firstRain 6 = .ok (.iload_n 2, 1) := by decide +kernel
theorem dX3_firstRain_7 : decode cX3_firstRain 7 = .ok (.bipush 60, 2) := by decide +kernel
theorem dX3_firstRain_9 : decode cX3_firstRain 9 = .ok (.if_icmp .gt 31, 3) := by decide +kernel
theorem dX3_firstRain_12 : decode cX3_firstRain 12 = .ok (.aload_n 0, 1) := by decide +kernel
theorem dX3_firstRain_13 : decode cX3_firstRain 13 = .ok (.getfield 12, 3) := by decide +kernel
theorem dX3_firstRain_16 : decode cX3_firstRain 16 = .ok (.invokevirtual 35, 3) := by decide +kernel
theorem dX3_firstRain_19 : decode cX3_firstRain 19 = .ok (.pop, 1) := by decide +kernel
theorem dX3_firstRain_20 : decode cX3_firstRain 20 = .ok (.aload_n 0, 1) := by decide +kernel
theorem dX3_firstRain_21 : decode cX3_firstRain 21 = .ok (.getfield 12, 3) := by decide +kernel
theorem dX3_firstRain_24 : decode cX3_firstRain 24 = .ok (.getfield 58, 3) := by decide +kernel
theorem dX3_firstRain_27 : decode cX3_firstRain 27 = .ok (.iload_n 1, 1) := by decide +kernel
theorem dX3_firstRain_28 : decode cX3_firstRain 28 = .ok (.iaload, 1) := by decide +kernel
theorem dX3_firstRain_29 : decode cX3_firstRain 29 = .ok (.ifCond .eq 5, 3) := by decide +kernel
theorem dX3_firstRain_32 : decode cX3_firstRain 32 = .ok (.iload_n 2, 1) := by decide +kernel
theorem dX3_firstRain_33 : decode cX3_firstRain 33 = .ok (.ireturn, 1) := by decide +kernel
theorem dX3_firstRain_34 : decode cX3_firstRain 34 = .ok (.iinc 2 1, 3) := by decide +kernel
theorem dX3_firstRain_37 : decode cX3_firstRain 37 = .ok (.goto (-31), 3) := by decide +kernel
theorem dX3_firstRain_40 : decode cX3_firstRain 40 = .ok (.ldc 62, 2) := by decide +kernel
theorem dX3_firstRain_42 : decode cX3_firstRain 42 = .ok (.ireturn, 1) := by decide +kernel
theorem dX3_firstGone_0 : decode cX3_firstGone 0 = .ok (.aload_n 0, 1) := by decide +kernel
theorem dX3_firstGone_1 : decode cX3_firstGone 1 = .ok (.invokevirtual 32, 3) := by decide +kernel
theorem dX3_firstGone_4 : decode cX3_firstGone 4 = .ok (.iconst 0, 1) := by decide +kernel
theorem dX3_firstGone_5 : decode cX3_firstGone 5 = .ok (.istore_n 2, 1) := by decide +kernel
theorem dX3_firstGone_6 : decode cX3_firstGone 6 = .ok (.iload_n 2, 1) := by decide +kernel
theorem dX3_firstGone_7 : decode cX3_firstGone 7 = .ok (.bipush 60, 2) := by decide +kernel
theorem dX3_firstGone_9 : decode cX3_firstGone 9 = .ok (.if_icmp .gt 30, 3) := by decide +kernel
theorem dX3_firstGone_12 : decode cX3_firstGone 12 = .ok (.aload_n 0, 1) := by decide +kernel
theorem dX3_firstGone_13 : decode cX3_firstGone 13 = .ok (.getfield 12, 3) := by decide +kernel
theorem dX3_firstGone_16 : decode cX3_firstGone 16 = .ok (.iload_n 1, 1) := by decide +kernel
theorem dX3_firstGone_17 : decode cX3_firstGone 17 = .ok (.invokevirtual 63, 3) := by decide +kernel
theorem dX3_firstGone_20 : decode cX3_firstGone 20 = .ok (.ifCond .eq 5, 3) := by decide +kernel
theorem dX3_firstGone_23 : decode cX3_firstGone 23 = .ok (.iload_n 2, 1) := by decide +kernel
theorem dX3_firstGone_24 : decode cX3_firstGone 24 = .ok (.ireturn, 1) := by decide +kernel
theorem dX3_firstGone_25 : decode cX3_firstGone 25 = .ok (.aload_n 0, 1) := by decide +kernel
theorem dX3_firstGone_26 : decode cX3_firstGone 26 = .ok (.getfield 12, 3) := by decide +kernel
theorem dX3_firstGone_29 : decode cX3_firstGone 29 = .ok (.invokevirtual 35, 3) := by decide +kernel
theorem dX3_firstGone_32 : decode cX3_firstGone 32 = .ok (.pop, 1) := by decide +kernel
theorem dX3_firstGone_33 : decode cX3_firstGone 33 = .ok (.iinc 2 1, 3) := by decide +kernel
theorem dX3_firstGone_36 : decode cX3_firstGone 36 = .ok (.goto (-30), 3) := by decide +kernel
theorem dX3_firstGone_39 : decode cX3_firstGone 39 = .ok (.ldc 62, 2) := by decide +kernel
theorem dX3_firstGone_41 : decode cX3_firstGone 41 = .ok (.ireturn, 1) := by decide +kernel
theorem dX3_firstMeeting_0 : decode cX3_firstMeeting 0 = .ok (.aload_n 0, 1) := by decide +kernel
theorem dX3_firstMeeting_1 : decode cX3_firstMeeting 1 = .ok (.getfield 18, 3) := by decide +kernel
theorem dX3_firstMeeting_4 : decode cX3_firstMeeting 4 = .ok (.getfield 67, 3) := by decide +kernel
theorem dX3_firstMeeting_7 : decode cX3_firstMeeting 7 = .ok (.iload_n 1, 1) := by decide +kernel
theorem dX3_firstMeeting_8 : decode cX3_firstMeeting 8 = .ok (.iaload, 1) := by decide +kernel
theorem dX3_firstMeeting_9 : decode cX3_firstMeeting 9 = .ok (.aload_n 0, 1) := by decide +kernel
theorem dX3_firstMeeting_10 : decode cX3_firstMeeting 10 = .ok (.getfield 18, 3) := by decide +kernel
theorem dX3_firstMeeting_13 : decode cX3_firstMeeting 13 = .ok (.getfield 67, 3) := by decide +kernel
theorem dX3_firstMeeting_16 : decode cX3_firstMeeting 16 = .ok (.iload_n 2, 1) := by decide +kernel
theorem dX3_firstMeeting_17 : decode cX3_firstMeeting 17 = .ok (.iaload, 1) := by decide +kernel
theorem dX3_firstMeeting_18 : decode cX3_firstMeeting 18 = .ok (.if_icmp .ne 6, 3) := by decide +kernel
theorem dX3_firstMeeting_21 : decode cX3_firstMeeting 21 = .ok (.ldc 62, 2) := by decide +kernel
theorem dX3_firstMeeting_23 : decode cX3_firstMeeting 23 = .ok (.ireturn, 1) := by decide +kernel
theorem dX3_firstMeeting_24 : decode cX3_firstMeeting 24 = .ok (.aload_n 0, 1) := by decide +kernel
theorem dX3_firstMeeting_25 : decode cX3_firstMeeting 25 = .ok (.invokevirtual 32, 3) := by decide +kernel
theorem dX3_firstMeeting_28 : decode cX3_firstMeeting 28 = .ok (.iconst 0, 1) := by decide +kernel
theorem dX3_firstMeeting_29 : decode cX3_firstMeeting 29 = .ok (.istore_n 3, 1) := by decide +kernel
theorem dX3_firstMeeting_30 : decode cX3_firstMeeting 30 = .ok (.iload_n 3, 1) := by decide +kernel
theorem dX3_firstMeeting_31 : decode cX3_firstMeeting 31 = .ok (.bipush 60, 2) := by decide +kernel
theorem dX3_firstMeeting_33 : decode cX3_firstMeeting 33 = .ok (.if_icmp .gt 39, 3) := by decide +kernel
theorem dX3_firstMeeting_36 : decode cX3_firstMeeting 36 = .ok (.aload_n 0, 1) := by decide +kernel
theorem dX3_firstMeeting_37 : decode cX3_firstMeeting 37 = .ok (.getfield 12, 3) := by decide +kernel
theorem dX3_firstMeeting_40 : decode cX3_firstMeeting 40 = .ok (.iload_n 1, 1) := by decide +kernel
theorem dX3_firstMeeting_41 : decode cX3_firstMeeting 41 = .ok (.invokevirtual 70, 3) := by decide +kernel
theorem dX3_firstMeeting_44 : decode cX3_firstMeeting 44 = .ok (.aload_n 0, 1) := by decide +kernel
theorem dX3_firstMeeting_45 : decode cX3_firstMeeting 45 = .ok (.getfield 12, 3) := by decide +kernel
theorem dX3_firstMeeting_48 : decode cX3_firstMeeting 48 = .ok (.iload_n 2, 1) := by decide +kernel
theorem dX3_firstMeeting_49 : decode cX3_firstMeeting 49 = .ok (.invokevirtual 70, 3) := by decide +kernel
theorem dX3_firstMeeting_52 : decode cX3_firstMeeting 52 = .ok (.iand, 1) := by decide +kernel
theorem dX3_firstMeeting_53 : decode cX3_firstMeeting 53 = .ok (.ifCond .eq 5, 3) := by decide +kernel
theorem dX3_firstMeeting_56 : decode cX3_firstMeeting 56 = .ok (.iload_n 3, 1) := by decide +kernel
theorem dX3_firstMeeting_57 : decode cX3_firstMeeting 57 = .ok (.ireturn, 1) := by decide +kernel
theorem dX3_firstMeeting_58 : decode cX3_firstMeeting 58 = .ok (.aload_n 0, 1) := by decide +kernel
theorem dX3_firstMeeting_59 : decode cX3_firstMeeting 59 = .ok (.getfield 12, 3) := by decide +kernel
theorem dX3_firstMeeting_62 : decode cX3_firstMeeting 62 = .ok (.invokevirtual 35, 3) := by decide +kernel
theorem dX3_firstMeeting_65 : decode cX3_firstMeeting 65 = .ok (.pop, 1) := by decide +kernel
theorem dX3_firstMeeting_66 : decode cX3_firstMeeting 66 = .ok (.iinc 3 1, 3) := by decide +kernel
theorem dX3_firstMeeting_69 : decode cX3_firstMeeting 69 = .ok (.goto (-39), 3) := by decide +kernel
theorem dX3_firstMeeting_72 : decode cX3_firstMeeting 72 = .ok (.ldc 62, 2) := by decide +kernel
theorem dX3_firstMeeting_74 : decode cX3_firstMeeting 74 = .ok (.ireturn, 1) := by decide +kernel
theorem dX3_firstDrySpell_0 : decode cX3_firstDrySpell 0 = .ok (.aload_n 0, 1) := by decide +kernel
theorem dX3_firstDrySpell_1 : decode cX3_firstDrySpell 1 = .ok (.invokevirtual 32, 3) := by decide +kernel
theorem dX3_firstDrySpell_4 : decode cX3_firstDrySpell 4 = .ok (.iconst 0, 1) := by decide +kernel
theorem dX3_firstDrySpell_5 : decode cX3_firstDrySpell 5 = .ok (.istore_n 3, 1) := by decide +kernel
theorem dX3_firstDrySpell_6 : decode cX3_firstDrySpell 6 = .ok (.iconst 0, 1) := by decide +kernel
theorem dX3_firstDrySpell_7 : decode cX3_firstDrySpell 7 = .ok (.istore 4, 2) := by decide +kernel
theorem dX3_firstDrySpell_9 : decode cX3_firstDrySpell 9 = .ok (.iload 4, 2) := by decide +kernel
theorem dX3_firstDrySpell_11 : decode cX3_firstDrySpell 11 = .ok (.bipush 30, 2) := by decide +kernel
theorem dX3_firstDrySpell_13 : decode cX3_firstDrySpell 13 = .ok (.iload_n 2, 1) := by decide +kernel
theorem dX3_firstDrySpell_14 : decode cX3_firstDrySpell 14 = .ok (.iadd, 1) := by decide +kernel
theorem dX3_firstDrySpell_15 : decode cX3_firstDrySpell 15 = .ok (.if_icmp .ge 68, 3) := by decide +kernel
theorem dX3_firstDrySpell_18 : decode cX3_firstDrySpell 18 = .ok (.iload_n 3, 1) := by decide +kernel
theorem dX3_firstDrySpell_19 : decode cX3_firstDrySpell 19 = .ok (.bipush 30, 2) := by decide +kernel
theorem dX3_firstDrySpell_21 : decode cX3_firstDrySpell 21 = .ok (.if_icmp .gt 62, 3) := by decide +kernel
theorem dX3_firstDrySpell_24 : decode cX3_firstDrySpell 24 = .ok (.aload_n 0, 1) := by decide +kernel
theorem dX3_firstDrySpell_25 : decode cX3_firstDrySpell 25 = .ok (.getfield 12, 3) := by decide +kernel
theorem dX3_firstDrySpell_28 : decode cX3_firstDrySpell 28 = .ok (.getfield 58, 3) := by decide +kernel
theorem dX3_firstDrySpell_31 : decode cX3_firstDrySpell 31 = .ok (.iload_n 1, 1) := by decide +kernel
theorem dX3_firstDrySpell_32 : decode cX3_firstDrySpell 32 = .ok (.iaload, 1) := by decide +kernel
theorem dX3_firstDrySpell_33 : decode cX3_firstDrySpell 33 = .ok (.istore 5, 2) := by decide +kernel
theorem dX3_firstDrySpell_35 : decode cX3_firstDrySpell 35 = .ok (.aload_n 0, 1) := by decide +kernel
theorem dX3_firstDrySpell_36 : decode cX3_firstDrySpell 36 = .ok (.getfield 12, 3) := by decide +kernel
theorem dX3_firstDrySpell_39 : decode cX3_firstDrySpell 39 = .ok (.invokevirtual 35, 3) := by decide +kernel
theorem dX3_firstDrySpell_42 : decode cX3_firstDrySpell 42 = .ok (.pop, 1) := by decide +kernel
theorem dX3_firstDrySpell_43 : decode cX3_firstDrySpell 43 = .ok (.aload_n 0, 1) := by decide +kernel
theorem dX3_firstDrySpell_44 : decode cX3_firstDrySpell 44 = .ok (.getfield 12, 3) := by decide +kernel
theorem dX3_firstDrySpell_47 : decode cX3_firstDrySpell 47 = .ok (.getfield 58, 3) := by decide +kernel
theorem dX3_firstDrySpell_50 : decode cX3_firstDrySpell 50 = .ok (.iload_n 1, 1) := by decide +kernel
theorem dX3_firstDrySpell_51 : decode cX3_firstDrySpell 51 = .ok (.iaload, 1) := by decide +kernel
theorem dX3_firstDrySpell_52 : decode cX3_firstDrySpell 52 = .ok (.iload 5, 2) := by decide +kernel
theorem dX3_firstDrySpell_54 : decode cX3_firstDrySpell 54 = .ok (.if_icmp .eq 11, 3) := by decide +kernel
theorem dX3_firstDrySpell_57 : decode cX3_firstDrySpell 57 = .ok (.iload 4, 2) := by decide +kernel
theorem dX3_firstDrySpell_59 : decode cX3_firstDrySpell 59 = .ok (.iconst 1, 1) := by decide +kernel
theorem dX3_firstDrySpell_60 : decode cX3_firstDrySpell 60 = .ok (.iadd, 1) := by decide +kernel
theorem dX3_firstDrySpell_61 : decode cX3_firstDrySpell 61 = .ok (.istore_n 3, 1) := by decide +kernel
theorem dX3_firstDrySpell_62 : decode cX3_firstDrySpell 62 = .ok (.goto 15, 3) := by decide +kernel
theorem dX3_firstDrySpell_65 : decode cX3_firstDrySpell 65 = .ok (.iload 4, 2) := by decide +kernel
theorem dX3_firstDrySpell_67 : decode cX3_firstDrySpell 67 = .ok (.iconst 1, 1) := by decide +kernel
theorem dX3_firstDrySpell_68 : decode cX3_firstDrySpell 68 = .ok (.iadd, 1) := by decide +kernel
theorem dX3_firstDrySpell_69 : decode cX3_firstDrySpell 69 = .ok (.iload_n 3, 1) := by decide +kernel
theorem dX3_firstDrySpell_70 : decode cX3_firstDrySpell 70 = .ok (.isub, 1) := by decide +kernel
theorem dX3_firstDrySpell_71 : decode cX3_firstDrySpell 71 = .ok (.iload_n 2, 1) := by decide +kernel
theorem dX3_firstDrySpell_72 : decode cX3_firstDrySpell 72 = .ok (.if_icmp .lt 5, 3) := by decide +kernel
theorem dX3_firstDrySpell_75 : decode cX3_firstDrySpell 75 = .ok (.iload_n 3, 1) := by decide +kernel
theorem dX3_firstDrySpell_76 : decode cX3_firstDrySpell 76 = .ok (.ireturn, 1) := by decide +kernel
theorem dX3_firstDrySpell_77 : decode cX3_firstDrySpell 77 = .ok (.iinc 4 1, 3) := by decide +kernel
theorem dX3_firstDrySpell_80 : decode cX3_firstDrySpell 80 = .ok (.goto (-71), 3) := by decide +kernel
theorem dX3_firstDrySpell_83 : decode cX3_firstDrySpell 83 = .ok (.ldc 62, 2) := by decide +kernel
theorem dX3_firstDrySpell_85 : decode cX3_firstDrySpell 85 = .ok (.ireturn, 1) := by decide +kernel
theorem dX3_kindsThatFit_0 : decode cX3_kindsThatFit 0 = .ok (.iconst 0, 1) := by decide +kernel
theorem dX3_kindsThatFit_1 : decode cX3_kindsThatFit 1 = .ok (.istore 6, 2) := by decide +kernel
theorem dX3_kindsThatFit_3 : decode cX3_kindsThatFit 3 = .ok (.iconst 1, 1) := by decide +kernel
theorem dX3_kindsThatFit_4 : decode cX3_kindsThatFit 4 = .ok (.istore 7, 2) := by decide +kernel
theorem dX3_kindsThatFit_6 : decode cX3_kindsThatFit 6 = .ok (.iload 7, 2) := by decide +kernel
theorem dX3_kindsThatFit_8 : decode cX3_kindsThatFit 8 = .ok (.iconst 5, 1) := by decide +kernel
theorem dX3_kindsThatFit_9 : decode cX3_kindsThatFit 9 = .ok (.if_icmp .gt 46, 3) := by decide +kernel
theorem dX3_kindsThatFit_12 : decode cX3_kindsThatFit 12 = .ok (.aload_n 0, 1) := by decide +kernel
theorem dX3_kindsThatFit_13 : decode cX3_kindsThatFit 13 = .ok (.invokevirtual 32, 3) := by decide +kernel
theorem dX3_kindsThatFit_16 : decode cX3_kindsThatFit 16 = .ok (.aload_n 0, 1) := by decide +kernel
theorem dX3_kindsThatFit_17 : decode cX3_kindsThatFit 17 = .ok (.getfield 12, 3) := by decide +kernel
theorem dX3_kindsThatFit_20 : decode cX3_kindsThatFit 20 = .ok (.getfield 74, 3) := by decide +kernel
theorem dX3_kindsThatFit_23 : decode cX3_kindsThatFit 23 = .ok (.iload_n 1, 1) := by decide +kernel
theorem dX3_kindsThatFit_24 : decode cX3_kindsThatFit 24 = .ok (.iload 7, 2) := by decide +kernel
theorem dX3_kindsThatFit_26 : decode cX3_kindsThatFit 26 = .ok (.iastore, 1) := by decide +kernel
theorem dX3_kindsThatFit_27 : decode cX3_kindsThatFit 27 = .ok (.aload_n 0, 1) := by decide +kernel
theorem dX3_kindsThatFit_28 : decode cX3_kindsThatFit 28 = .ok (.iload_n 2, 1) := by decide +kernel
theorem dX3_kindsThatFit_29 : decode cX3_kindsThatFit 29 = .ok (.iload_n 3, 1) := by decide +kernel
theorem dX3_kindsThatFit_30 : decode cX3_kindsThatFit 30 = .ok (.iload 4, 2) := by decide +kernel
theorem dX3_kindsThatFit_32 : decode cX3_kindsThatFit 32 = .ok (.iload 5, 2) := by decide +kernel
theorem dX3_kindsThatFit_34 : decode cX3_kindsThatFit 34 = .ok (.invokevirtual 77, 3) := by decide +kernel
theorem dX3_kindsThatFit_37 : decode cX3_kindsThatFit 37 = .ok (.ifCond .eq 12, 3) := by decide +kernel
theorem dX3_kindsThatFit_40 : decode cX3_kindsThatFit 40 = .ok (.iload 6, 2) := by decide +kernel
theorem dX3_kindsThatFit_42 : decode cX3_kindsThatFit 42 = .ok (.iconst 1, 1) := by decide +kernel
theorem dX3_kindsThatFit_43 : decode cX3_kindsThatFit 43 = .ok (.iload 7, 2) := by decide +kernel
theorem dX3_kindsThatFit_45 : decode cX3_kindsThatFit 45 = .ok (.ishl, 1) := by decide +kernel
theorem dX3_kindsThatFit_46 : decode cX3_kindsThatFit 46 = .ok (.ior, 1) := by decide +kernel
theorem dX3_kindsThatFit_47 : decode cX3_kindsThatFit 47 = .ok (.istore 6, 2) := by decide +kernel
theorem dX3_kindsThatFit_49 : decode cX3_kindsThatFit 49 = .ok (.iinc 7 1, 3) := by decide +kernel
theorem dX3_kindsThatFit_52 : decode cX3_kindsThatFit 52 = .ok (.goto (-46), 3) := by decide +kernel
theorem dX3_kindsThatFit_55 : decode cX3_kindsThatFit 55 = .ok (.iload 6, 2) := by decide +kernel
theorem dX3_kindsThatFit_57 : decode cX3_kindsThatFit 57 = .ok (.ireturn, 1) := by decide +kernel
theorem dX3_placesThatFit_0 : decode cX3_placesThatFit 0 = .ok (.iconst 0, 1) := by decide +kernel
theorem dX3_placesThatFit_1 : decode cX3_placesThatFit 1 = .ok (.istore 6, 2) := by decide +kernel
theorem dX3_placesThatFit_3 : decode cX3_placesThatFit 3 = .ok (.iconst 0, 1) := by decide +kernel
theorem dX3_placesThatFit_4 : decode cX3_placesThatFit 4 = .ok (.istore 7, 2) := by decide +kernel
theorem dX3_placesThatFit_6 : decode cX3_placesThatFit 6 = .ok (.iload 7, 2) := by decide +kernel
theorem dX3_placesThatFit_8 : decode cX3_placesThatFit 8 = .ok (.bipush 16, 2) := by decide +kernel
theorem dX3_placesThatFit_10 : decode cX3_placesThatFit 10 = .ok (.if_icmp .ge 46, 3) := by decide +kernel
theorem dX3_placesThatFit_13 : decode cX3_placesThatFit 13 = .ok (.aload_n 0, 1) := by decide +kernel
theorem dX3_placesThatFit_14 : decode cX3_placesThatFit 14 = .ok (.invokevirtual 32, 3) := by decide +kernel
theorem dX3_placesThatFit_17 : decode cX3_placesThatFit 17 = .ok (.aload_n 0, 1) := by decide +kernel
theorem dX3_placesThatFit_18 : decode cX3_placesThatFit 18 = .ok (.getfield 12, 3) := by decide +kernel
theorem dX3_placesThatFit_21 : decode cX3_placesThatFit 21 = .ok (.getfield 81, 3) := by decide +kernel
theorem dX3_placesThatFit_24 : decode cX3_placesThatFit 24 = .ok (.iload_n 1, 1) := by decide +kernel
theorem dX3_placesThatFit_25 : decode cX3_placesThatFit 25 = .ok (.iload 7, 2) := by decide +kernel
theorem dX3_placesThatFit_27 : decode cX3_placesThatFit 27 = .ok (.iastore, 1) := by decide +kernel
theorem dX3_placesThatFit_28 : decode cX3_placesThatFit 28 = .ok (.aload_n 0, 1) := by decide +kernel
theorem dX3_placesThatFit_29 : decode cX3_placesThatFit 29 = .ok (.iload_n 2, 1) := by decide +kernel
theorem dX3_placesThatFit_30 : decode cX3_placesThatFit 30 = .ok (.iload_n 3, 1) := by decide +kernel
theorem dX3_placesThatFit_31 : decode cX3_placesThatFit 31 = .ok (.iload 4, 2) := by decide +kernel
theorem dX3_placesThatFit_33 : decode cX3_placesThatFit 33 = .ok (.iload 5, 2) := by decide +kernel
theorem dX3_placesThatFit_35 : decode cX3_placesThatFit 35 = .ok (.invokevirtual 77, 3) := by decide +kernel
theorem dX3_placesThatFit_38 : decode cX3_placesThatFit 38 = .ok (.ifCond .eq 12, 3) := by decide +kernel
theorem dX3_placesThatFit_41 : decode cX3_placesThatFit 41 = .ok (.iload 6, 2) := by decide +kernel
theorem dX3_placesThatFit_43 : decode cX3_placesThatFit 43 = .ok (.iconst 1, 1) := by decide +kernel
theorem dX3_placesThatFit_44 : decode cX3_placesThatFit 44 = .ok (.iload 7, 2) := by decide +kernel
theorem dX3_placesThatFit_46 : decode cX3_placesThatFit 46 = .ok (.ishl, 1) := by decide +kernel
theorem dX3_placesThatFit_47 : decode cX3_placesThatFit 47 = .ok (.ior, 1) := by decide +kernel
theorem dX3_placesThatFit_48 : decode cX3_placesThatFit 48 = .ok (.istore 6, 2) := by decide +kernel
theorem dX3_placesThatFit_50 : decode cX3_placesThatFit 50 = .ok (.iinc 7 1, 3) := by decide +kernel
theorem dX3_placesThatFit_53 : decode cX3_placesThatFit 53 = .ok (.goto (-47), 3) := by decide +kernel
theorem dX3_placesThatFit_56 : decode cX3_placesThatFit 56 = .ok (.iload 6, 2) := by decide +kernel
theorem dX3_placesThatFit_58 : decode cX3_placesThatFit 58 = .ok (.ireturn, 1) := by decide +kernel
theorem dX3_fits_0 : decode cX3_fits 0 = .ok (.iconst 0, 1) := by decide +kernel
theorem dX3_fits_1 : decode cX3_fits 1 = .ok (.istore 5, 2) := by decide +kernel
theorem dX3_fits_3 : decode cX3_fits 3 = .ok (.iload 5, 2) := by decide +kernel
theorem dX3_fits_5 : decode cX3_fits 5 = .ok (.iload 4, 2) := by decide +kernel
theorem dX3_fits_7 : decode cX3_fits 7 = .ok (.if_icmp .ge 57, 3) := by decide +kernel
theorem dX3_fits_10 : decode cX3_fits 10 = .ok (.aload_n 0, 1) := by decide +kernel
theorem dX3_fits_11 : decode cX3_fits 11 = .ok (.getfield 12, 3) := by decide +kernel
theorem dX3_fits_14 : decode cX3_fits 14 = .ok (.getfield 58, 3) := by decide +kernel
theorem dX3_fits_17 : decode cX3_fits 17 = .ok (.iload_n 1, 1) := by decide +kernel
theorem dX3_fits_18 : decode cX3_fits 18 = .ok (.iaload, 1) := by decide +kernel
theorem dX3_fits_19 : decode cX3_fits 19 = .ok (.istore 6, 2) := by decide +kernel
theorem dX3_fits_21 : decode cX3_fits 21 = .ok (.aload_n 0, 1) := by decide +kernel
theorem dX3_fits_22 : decode cX3_fits 22 = .ok (.getfield 12, 3) := by decide +kernel
theorem dX3_fits_25 : decode cX3_fits 25 = .ok (.invokevirtual 35, 3) := by decide +kernel
theorem dX3_fits_28 : decode cX3_fits 28 = .ok (.pop, 1) := by decide +kernel
theorem dX3_fits_29 : decode cX3_fits 29 = .ok (.aload_n 0, 1) := by decide +kernel
theorem dX3_fits_30 : decode cX3_fits 30 = .ok (.getfield 12, 3) := by decide +kernel
theorem dX3_fits_33 : decode cX3_fits 33 = .ok (.getfield 58, 3) := by decide +kernel
theorem dX3_fits_36 : decode cX3_fits 36 = .ok (.iload_n 1, 1) := by decide +kernel
theorem dX3_fits_37 : decode cX3_fits 37 = .ok (.iaload, 1) := by decide +kernel
theorem dX3_fits_38 : decode cX3_fits 38 = .ok (.iload 6, 2) := by decide +kernel
theorem dX3_fits_40 : decode cX3_fits 40 = .ok (.isub, 1) := by decide +kernel
theorem dX3_fits_41 : decode cX3_fits 41 = .ok (.aload_n 0, 1) := by decide +kernel
theorem dX3_fits_42 : decode cX3_fits 42 = .ok (.getfield 21, 3) := by decide +kernel
theorem dX3_fits_45 : decode cX3_fits 45 = .ok (.iload_n 2, 1) := by decide +kernel
theorem dX3_fits_46 : decode cX3_fits 46 = .ok (.iload_n 3, 1) := by decide +kernel
theorem dX3_fits_47 : decode cX3_fits 47 = .ok (.iload 5, 2) := by decide +kernel
theorem dX3_fits_49 : decode cX3_fits 49 = .ok (.iadd, 1) := by decide +kernel
theorem dX3_fits_50 : decode cX3_fits 50 = .ok (.invokevirtual 84, 3) := by decide +kernel
theorem dX3_fits_53 : decode cX3_fits 53 = .ok (.if_icmp .eq 5, 3) := by decide +kernel
theorem dX3_fits_56 : decode cX3_fits 56 = .ok (.iconst 0, 1) := by decide +kernel
theorem dX3_fits_57 : decode cX3_fits 57 = .ok (.ireturn, 1) := by decide +kernel
theorem dX3_fits_58 : decode cX3_fits 58 = .ok (.iinc 5 1, 3) := by decide +kernel
theorem dX3_fits_61 : decode cX3_fits 61 = .ok (.goto (-58), 3) := by decide +kernel
theorem dX3_fits_64 : decode cX3_fits 64 = .ok (.iconst 1, 1) := by decide +kernel
theorem dX3_fits_65 : decode cX3_fits 65 = .ok (.ireturn, 1) := by decide +kernel
theorem dJ6_bitCount_0f7a4_0 : decode cJ6_bitCount_0f7a4 0 = .ok (.iload_n 0, 1) := by decide +kernel
theorem dJ6_bitCount_0f7a4_1 : decode cJ6_bitCount_0f7a4 1 = .ok (.iload_n 0, 1) := by decide +kernel
theorem dJ6_bitCount_0f7a4_2 : decode cJ6_bitCount_0f7a4 2 = .ok (.iconst 1, 1) := by decide +kernel
theorem dJ6_bitCount_0f7a4_3 : decode cJ6_bitCount_0f7a4 3 = .ok (.iushr, 1) := by decide +kernel
theorem dJ6_bitCount_0f7a4_4 : decode cJ6_bitCount_0f7a4 4 = .ok (.ldc_w 265, 3) := by decide +kernel
theorem dJ6_bitCount_0f7a4_7 : decode cJ6_bitCount_0f7a4 7 = .ok (.iand, 1) := by decide +kernel
theorem dJ6_bitCount_0f7a4_8 : decode cJ6_bitCount_0f7a4 8 = .ok (.isub, 1) := by decide +kernel
theorem dJ6_bitCount_0f7a4_9 : decode cJ6_bitCount_0f7a4 9 = .ok (.istore_n 0, 1) := by decide +kernel
theorem dJ6_bitCount_0f7a4_10 : decode cJ6_bitCount_0f7a4 10 = .ok (.iload_n 0, 1) := by decide +kernel
theorem dJ6_bitCount_0f7a4_11 : decode cJ6_bitCount_0f7a4 11 = .ok (.ldc_w 266, 3) := by decide +kernel
theorem dJ6_bitCount_0f7a4_14 : decode cJ6_bitCount_0f7a4 14 = .ok (.iand, 1) := by decide +kernel
theorem dJ6_bitCount_0f7a4_15 : decode cJ6_bitCount_0f7a4 15 = .ok (.iload_n 0, 1) := by decide +kernel
theorem dJ6_bitCount_0f7a4_16 : decode cJ6_bitCount_0f7a4 16 = .ok (.iconst 2, 1) := by decide +kernel
theorem dJ6_bitCount_0f7a4_17 : decode cJ6_bitCount_0f7a4 17 = .ok (.iushr, 1) := by decide +kernel
theorem dJ6_bitCount_0f7a4_18 : decode cJ6_bitCount_0f7a4 18 = .ok (.ldc_w 266, 3) := by decide +kernel
theorem dJ6_bitCount_0f7a4_21 : decode cJ6_bitCount_0f7a4 21 = .ok (.iand, 1) := by decide +kernel
theorem dJ6_bitCount_0f7a4_22 : decode cJ6_bitCount_0f7a4 22 = .ok (.iadd, 1) := by decide +kernel
theorem dJ6_bitCount_0f7a4_23 : decode cJ6_bitCount_0f7a4 23 = .ok (.istore_n 0, 1) := by decide +kernel
theorem dJ6_bitCount_0f7a4_24 : decode cJ6_bitCount_0f7a4 24 = .ok (.iload_n 0, 1) := by decide +kernel
theorem dJ6_bitCount_0f7a4_25 : decode cJ6_bitCount_0f7a4 25 = .ok (.iload_n 0, 1) := by decide +kernel
theorem dJ6_bitCount_0f7a4_26 : decode cJ6_bitCount_0f7a4 26 = .ok (.iconst 4, 1) := by decide +kernel
theorem dJ6_bitCount_0f7a4_27 : decode cJ6_bitCount_0f7a4 27 = .ok (.iushr, 1) := by decide +kernel
theorem dJ6_bitCount_0f7a4_28 : decode cJ6_bitCount_0f7a4 28 = .ok (.iadd, 1) := by decide +kernel
theorem dJ6_bitCount_0f7a4_29 : decode cJ6_bitCount_0f7a4 29 = .ok (.ldc_w 267, 3) := by decide +kernel
theorem dJ6_bitCount_0f7a4_32 : decode cJ6_bitCount_0f7a4 32 = .ok (.iand, 1) := by decide +kernel
theorem dJ6_bitCount_0f7a4_33 : decode cJ6_bitCount_0f7a4 33 = .ok (.istore_n 0, 1) := by decide +kernel
theorem dJ6_bitCount_0f7a4_34 : decode cJ6_bitCount_0f7a4 34 = .ok (.iload_n 0, 1) := by decide +kernel
theorem dJ6_bitCount_0f7a4_35 : decode cJ6_bitCount_0f7a4 35 = .ok (.iload_n 0, 1) := by decide +kernel
theorem dJ6_bitCount_0f7a4_36 : decode cJ6_bitCount_0f7a4 36 = .ok (.bipush 8, 2) := by decide +kernel
theorem dJ6_bitCount_0f7a4_38 : decode cJ6_bitCount_0f7a4 38 = .ok (.iushr, 1) := by decide +kernel
theorem dJ6_bitCount_0f7a4_39 : decode cJ6_bitCount_0f7a4 39 = .ok (.iadd, 1) := by decide +kernel
theorem dJ6_bitCount_0f7a4_40 : decode cJ6_bitCount_0f7a4 40 = .ok (.istore_n 0, 1) := by decide +kernel
theorem dJ6_bitCount_0f7a4_41 : decode cJ6_bitCount_0f7a4 41 = .ok (.iload_n 0, 1) := by decide +kernel
theorem dJ6_bitCount_0f7a4_42 : decode cJ6_bitCount_0f7a4 42 = .ok (.iload_n 0, 1) := by decide +kernel
theorem dJ6_bitCount_0f7a4_43 : decode cJ6_bitCount_0f7a4 43 = .ok (.bipush 16, 2) := by decide +kernel
theorem dJ6_bitCount_0f7a4_45 : decode cJ6_bitCount_0f7a4 45 = .ok (.iushr, 1) := by decide +kernel
theorem dJ6_bitCount_0f7a4_46 : decode cJ6_bitCount_0f7a4 46 = .ok (.iadd, 1) := by decide +kernel
theorem dJ6_bitCount_0f7a4_47 : decode cJ6_bitCount_0f7a4 47 = .ok (.istore_n 0, 1) := by decide +kernel
theorem dJ6_bitCount_0f7a4_48 : decode cJ6_bitCount_0f7a4 48 = .ok (.iload_n 0, 1) := by decide +kernel
theorem dJ6_bitCount_0f7a4_49 : decode cJ6_bitCount_0f7a4 49 = .ok (.bipush 63, 2) := by decide +kernel
theorem dJ6_bitCount_0f7a4_51 : decode cJ6_bitCount_0f7a4 51 = .ok (.iand, 1) := by decide +kernel
theorem dJ6_bitCount_0f7a4_52 : decode cJ6_bitCount_0f7a4 52 = .ok (.ireturn, 1) := by decide +kernel
theorem dJ9_abs_0f7a4_0 : decode cJ9_abs_0f7a4 0 = .ok (.iload_n 0, 1) := by decide +kernel
theorem dJ9_abs_0f7a4_1 : decode cJ9_abs_0f7a4 1 = .ok (.ifCond .ge 8, 3) := by decide +kernel
theorem dJ9_abs_0f7a4_4 : decode cJ9_abs_0f7a4 4 = .ok (.iload_n 0, 1) := by decide +kernel
theorem dJ9_abs_0f7a4_5 : decode cJ9_abs_0f7a4 5 = .ok (.ineg, 1) := by decide +kernel
theorem dJ9_abs_0f7a4_6 : decode cJ9_abs_0f7a4 6 = .ok (.goto 4, 3) := by decide +kernel
theorem dJ9_abs_0f7a4_9 : decode cJ9_abs_0f7a4 9 = .ok (.iload_n 0, 1) := by decide +kernel
theorem dJ9_abs_0f7a4_10 : decode cJ9_abs_0f7a4 10 = .ok (.ireturn, 1) := by decide +kernel
theorem dJ9_max_7cf53_0 : decode cJ9_max_7cf53 0 = .ok (.iload_n 0, 1) := by decide +kernel
theorem dJ9_max_7cf53_1 : decode cJ9_max_7cf53 1 = .ok (.iload_n 1, 1) := by decide +kernel
theorem dJ9_max_7cf53_2 : decode cJ9_max_7cf53 2 = .ok (.if_icmp .lt 7, 3) := by decide +kernel
theorem dJ9_max_7cf53_5 : decode cJ9_max_7cf53 5 = .ok (.iload_n 0, 1) := by decide +kernel
theorem dJ9_max_7cf53_6 : decode cJ9_max_7cf53 6 = .ok (.goto 4, 3) := by decide +kernel
theorem dJ9_max_7cf53_9 : decode cJ9_max_7cf53 9 = .ok (.iload_n 1, 1) := by decide +kernel
theorem dJ9_max_7cf53_10 : decode cJ9_max_7cf53 10 = .ok (.ireturn, 1) := by decide +kernel
theorem dJ9_min_7cf53_0 : decode cJ9_min_7cf53 0 = .ok (.iload_n 0, 1) := by decide +kernel
theorem dJ9_min_7cf53_1 : decode cJ9_min_7cf53 1 = .ok (.iload_n 1, 1) := by decide +kernel
theorem dJ9_min_7cf53_2 : decode cJ9_min_7cf53 2 = .ok (.if_icmp .gt 7, 3) := by decide +kernel
theorem dJ9_min_7cf53_5 : decode cJ9_min_7cf53 5 = .ok (.iload_n 0, 1) := by decide +kernel
theorem dJ9_min_7cf53_6 : decode cJ9_min_7cf53 6 = .ok (.goto 4, 3) := by decide +kernel
theorem dJ9_min_7cf53_9 : decode cJ9_min_7cf53 9 = .ok (.iload_n 1, 1) := by decide +kernel
theorem dJ9_min_7cf53_10 : decode cJ9_min_7cf53 10 = .ok (.ireturn, 1) := by decide +kernel
