theorem dX9_init_0 : decode cX9_init 0 = .ok (.aload_n 0, 1) := by decide +kernel
theorem dX9_init_1 : decode cX9_init 1 = .ok (.invokespecial 1, 3) := by decide +kernel
theorem dX9_init_4 : decode cX9_init 4 = .ok (.aload_n 0, 1) := by decide +kernel
theorem dX9_init_5 : decode cX9_init 5 = .ok (.new 7, 3) := by decide +kernel
theorem dX9_init_8 : decode cX9_init 8 = .ok (.dup, 1) := by decide +kernel
theorem dX9_init_9 : decode cX9_init 9 = .ok (.invokespecial 9, 3) := by decide +kernel
theorem dX9_init_12 : decode cX9_init 12 = .ok (.putfield 10, 3) := by decide +kernel
theorem dX9_init_15 : decode cX9_init 15 = .ok (.aload_n 0, 1) := by decide +kernel
theorem dX9_init_16 : decode cX9_init 16 = .ok (.new 16, 3) := by decide +kernel
theorem dX9_init_19 : decode cX9_init 19 = .ok (.dup, 1) := by decide +kernel
theorem dX9_init_20 : decode cX9_init 20 = .ok (.invokespecial 18, 3) := by decide +kernel
theorem dX9_init_23 : decode cX9_init 23 = .ok (.putfield 19, 3) := by decide +kernel
theorem dX9_init_26 : decode cX9_init 26 = .ok (.aload_n 0, 1) := by decide +kernel
theorem dX9_init_27 : decode cX9_init 27 = .ok (.new 23, 3) := by decide +kernel
theorem dX9_init_30 : decode cX9_init 30 = .ok (.dup, 1) := by decide +kernel
theorem dX9_init_31 : decode cX9_init 31 = .ok (.aload_n 0, 1) := by decide +kernel
theorem dX9_init_32 : decode cX9_init 32 = .ok (.getfield 19, 3) := by decide +kernel
theorem dX9_init_35 : decode cX9_init 35 = .ok (.invokespecial 25, 3) := by decide +kernel
theorem dX9_init_38 : decode cX9_init 38 = .ok (.putfield 28, 3) := by decide +kernel
theorem dX9_init_41 : decode cX9_init 41 = .ok (.aload_n 0, 1) := by decide +kernel
theorem dX9_init_42 : decode cX9_init 42 = .ok (.new 32, 3) := by decide +kernel
theorem dX9_init_45 : decode cX9_init 45 = .ok (.dup, 1) := by decide +kernel
theorem dX9_init_46 : decode cX9_init 46 = .ok (.invokespecial 34, 3) := by decide +kernel
theorem dX9_init_49 : decode cX9_init 49 = .ok (.putfield 35, 3) := by decide +kernel
theorem dX9_init_52 : decode cX9_init 52 = .ok (.aload_n 0, 1) := by decide +kernel
theorem dX9_init_53 : decode cX9_init 53 = .ok (.new 39, 3) := by decide +kernel
theorem dX9_init_56 : decode cX9_init 56 = .ok (.dup, 1) := by decide +kernel
theorem dX9_init_57 : decode cX9_init 57 = .ok (.aload_n 0, 1) := by decide +kernel
theorem dX9_init_58 : decode cX9_init 58 = .ok (.getfield 35, 3) := by decide +kernel
theorem dX9_init_61 : decode cX9_init 61 = .ok (.invokespecial 41, 3) := by decide +kernel
theorem dX9_init_64 : decode cX9_init 64 = .ok (.putfield 44, 3) := by decide +kernel
theorem dX9_init_67 : decode cX9_init 67 = .ok (.aload_n 0, 1) := by decide +kernel
theorem dX9_init_68 : decode cX9_init 68 = .ok (.iconst 2, 1) := by decide +kernel
theorem dX9_init_69 : decode cX9_init 69 = .ok (.anewarray 32, 3) := by decide +kernel
theorem dX9_init_72 : decode cX9_init 72 = .ok (.putfield 48, 3) := by decide +kernel
theorem dX9_init_75 : decode cX9_init 75 = .ok (.aload_n 0, 1) := by decide +kernel
theorem dX9_init_76 : decode cX9_init 76 = .ok (.new 52, 3) := by decide +kernel
theorem dX9_init_79 : decode cX9_init 79 = .ok (.dup, 1) := by decide +kernel
theorem dX9_init_80 : decode cX9_init 80 = .ok (.aload_n 0, 1) := by decide +kernel
theorem dX9_init_81 : decode cX9_init 81 = .ok (.getfield 35, 3) := by decide +kernel
theorem dX9_init_84 : decode cX9_init 84 = .ok (.aload_n 0, 1) := by decide +kernel
theorem dX9_init_85 : decode cX9_init 85 = .ok (.getfield 10, 3) := by decide +kernel
theorem dX9_init_88 : decode cX9_init 88 = .ok (.invokespecial 54, 3) := by decide +kernel
theorem dX9_init_91 : decode cX9_init 91 = .ok (.putfield 57, 3) := by decide +kernel
theorem dX9_init_94 : decode cX9_init 94 = .ok (.aload_n 0, 1) := by decide +kernel
theorem dX9_init_95 : decode cX9_init 95 = .ok (.new 61, 3) := by decide +kernel
theorem dX9_init_98 : decode cX9_init 98 = .ok (.dup, 1) := by decide +kernel
theorem dX9_init_99 : decode cX9_init 99 = .ok (.aload_n 0, 1) := by decide +kernel
theorem dX9_init_100 : decode cX9_init 100 = .ok (.getfield 35, 3) := by decide +kernel
theorem dX9_init_103 : decode cX9_init 103 = .ok (.invokespecial 63, 3) := by decide +kernel
theorem dX9_init_106 : decode cX9_init 106 = .ok (.putfield 64, 3) := by decide +kernel
theorem dX9_init_109 : decode cX9_init 109 = .ok (.aload_n 0, 1) := by decide +kernel
theorem dX9_init_110 : decode cX9_init 110 = .ok (.new 68, 3) := by decide +kernel
theorem dX9_init_113 : decode cX9_init 113 = .ok (.dup, 1) := by decide +kernel
theorem dX9_init_114 : decode cX9_init 114 = .ok (.invokespecial 70, 3) := by decide +kernel
theorem dX9_init_117 : decode cX9_init 117 = .ok (.putfield 71, 3) := by decide +kernel
theorem dX9_init_120 : decode cX9_init 120 = .ok (.aload_n 0, 1) := by decide +kernel
theorem dX9_init_121 : decode cX9_init 121 = .ok (.new 75, 3) := by decide +kernel
theorem dX9_init_124 : decode cX9_init 124 = .ok (.dup, 1) := by decide +kernel
theorem dX9_init_125 : decode cX9_init 125 = .ok (.aload_n 0, 1) := by decide +kernel
theorem dX9_init_126 : decode cX9_init 126 = .ok (.getfield 35, 3) := by decide +kernel
theorem dX9_init_129 : decode cX9_init 129 = .ok (.invokespecial 77, 3) := by decide +kernel
theorem dX9_init_132 : decode cX9_init 132 = .ok (.putfield 78, 3) := by decide +kernel
theorem dX9_init_135 : decode cX9_init 135 = .ok (.iconst 0, 1) := by decide +kernel
theorem dX9_init_136 : decode cX9_init 136 = .ok (.istore_n 1, 1) := by decide +kernel
theorem dX9_init_137 : decode cX9_init 137 = .ok (.iload_n 1, 1) := by decide +kernel
theorem dX9_init_138 : decode cX9_init 138 = .ok (.iconst 1, 1) := by decide +kernel
theorem dX9_init_139 : decode cX9_init 139 = .ok (.if_icmp .gt 22, 3) := by decide +kernel
theorem dX9_init_142 : decode cX9_init 142 = .ok (.aload_n 0, 1) := by decide +kernel
theorem dX9_init_143 : decode cX9_init 143 = .ok (.getfield 48, 3) := by decide +kernel
theorem dX9_init_146 : decode cX9_init 146 = .ok (.iload_n 1, 1) := by decide +kernel
theorem dX9_init_147 : decode cX9_init 147 = .ok (.new 32, 3) := by decide +kernel
theorem dX9_init_150 : decode cX9_init 150 = .ok (.dup, 1) := by decide +kernel
theorem dX9_init_151 : decode cX9_init 151 = .ok (.invokespecial 34, 3) := by decide +kernel
theorem dX9_init_154 : decode cX9_init 154 = .ok (.aastore, 1) := by decide +kernel
theorem dX9_init_155 : decode cX9_init 155 = .ok (.iinc 1 1, 3) := by decide +kernel
theorem dX9_init_158 : decode cX9_init 158 = .ok (.goto (-21), 3) := by decide +kernel
theorem dX9_init_161 : decode cX9_init 161 = .ok (.return_, 1) := by decide +kernel
theorem dX9_row_0 : decode cX9_row 0 = .ok (.iload_n 1, 1) := by decide +kernel
theorem dX9_row_1 : decode cX9_row 1 = .ok (.invokestatic 82, 3) := by decide +kernel
theorem dX9_row_4 : decode cX9_row 4 = .ok (.ifCond .eq 18, 3) := by decide +kernel
theorem dX9_row_7 : decode cX9_row 7 = .ok (.iload_n 2, 1) := by decide +kernel
theorem dX9_row_8 : decode cX9_row 8 = .ok (.iconst 0, 1) := by decide +kernel
theorem dX9_row_9 : decode cX9_row 9 = .ok (.iconst 2, 1) := by decide +kernel
theorem dX9_row_10 : decode cX9_row 10 = .ok (.invokestatic 86, 3) := by decide +kernel
theorem dX9_row_13 : decode cX9_row 13 = .ok (.ifCond .eq 9, 3) := by decide +kernel
theorem dX9_row_16 : decode cX9_row 16 = .ok (.iload_n 3, 1) := by decide +kernel
theorem dX9_row_17 : decode cX9_row 17 = .ok (.bipush 40, 2) := by decide +kernel
theorem dX9_row_19 : decode cX9_row 19 = .ok (.if_icmp .le 6, 3) := by decide +kernel
theorem dX9_row_22 : decode cX9_row 22 = .ok (.ldc 90, 2) := by decide +kernel
theorem dX9_row_24 : decode cX9_row 24 = .ok (.ireturn, 1) := by decide +kernel
theorem dX9_row_25 : decode cX9_row 25 = .ok (.iload_n 3, 1) := by decide +kernel
theorem dX9_row_26 : decode cX9_row 26 = .ok (.ifCond .ge 9, 3) := by decide +kernel
theorem dX9_row_29 : decode cX9_row 29 = .ok (.aload_n 0, 1) := by decide +kernel
theorem dX9_row_30 : decode cX9_row 30 = .ok (.iconst 4, 1) := by decide +kernel
theorem dX9_row_31 : decode cX9_row 31 = .ok (.invokevirtual 91, 3) := by decide +kernel
theorem dX9_row_34 : decode cX9_row 34 = .ok (.ireturn, 1) := by decide +kernel
theorem dX9_row_35 : decode cX9_row 35 = .ok (.aload_n 0, 1) := by decide +kernel
theorem dX9_row_36 : decode cX9_row 36 = .ok (.getfield 10, 3) := by decide +kernel
theorem dX9_row_39 : decode cX9_row 39 = .ok (.iload_n 1, 1) := by decide +kernel
theorem dX9_row_40 : decode cX9_row 40 = .ok (.iload_n 2, 1) := by decide +kernel
theorem dX9_row_41 : decode cX9_row 41 = .ok (.iload_n 3, 1) := by decide +kernel
theorem dX9_row_42 : decode cX9_row 42 = .ok (.invokevirtual 95, 3) := by decide +kernel
theorem dX9_row_45 : decode cX9_row 45 = .ok (.aload_n 0, 1) := by decide +kernel
theorem dX9_row_46 : decode cX9_row 46 = .ok (.iload_n 3, 1) := by decide +kernel
theorem dX9_row_47 : decode cX9_row 47 = .ok (.invokevirtual 99, 3) := by decide +kernel
theorem dX9_row_50 : decode cX9_row 50 = .ok (.ireturn, 1) := by decide +kernel
theorem dX9_set_0 : decode cX9_set 0 = .ok (.iload_n 1, 1) := by decide +kernel
theorem dX9_set_1 : decode cX9_set 1 = .ok (.invokestatic 82, 3) := by decide +kernel
theorem dX9_set_4 : decode cX9_set 4 = .ok (.ifCond .ne 6, 3) := by decide +kernel
theorem dX9_set_7 : decode cX9_set 7 = .ok (.ldc 90, 2) := by decide +kernel
theorem dX9_set_9 : decode cX9_set 9 = .ok (.ireturn, 1) := by decide +kernel
theorem dX9_set_10 : decode cX9_set 10 = .ok (.aload_n 0, 1) := by decide +kernel
theorem dX9_set_11 : decode cX9_set 11 = .ok (.getfield 10, 3) := by decide +kernel
theorem dX9_set_14 : decode cX9_set 14 = .ok (.iload_n 1, 1) := by decide +kernel
theorem dX9_set_15 : decode cX9_set 15 = .ok (.invokevirtual 102, 3) := by decide +kernel
theorem dX9_set_18 : decode cX9_set 18 = .ok (.ifCond .eq 9, 3) := by decide +kernel
theorem dX9_set_21 : decode cX9_set 21 = .ok (.aload_n 0, 1) := by decide +kernel
theorem dX9_set_22 : decode cX9_set 22 = .ok (.iconst 1, 1) := by decide +kernel
theorem dX9_set_23 : decode cX9_set 23 = .ok (.invokevirtual 91, 3) := by decide +kernel
theorem dX9_set_26 : decode cX9_set 26 = .ok (.ireturn, 1) := by decide +kernel
theorem dX9_set_27 : decode cX9_set 27 = .ok (.aload_n 0, 1) := by decide +kernel
theorem dX9_set_28 : decode cX9_set 28 = .ok (.getfield 10, 3) := by decide +kernel
theorem dX9_set_31 : decode cX9_set 31 = .ok (.iload_n 1, 1) := by decide +kernel
theorem dX9_set_32 : decode cX9_set 32 = .ok (.iload_n 2, 1) := by decide +kernel
theorem dX9_set_33 : decode cX9_set 33 = .ok (.iconst 1, 1) := by decide +kernel
theorem dX9_set_34 : decode cX9_set 34 = .ok (.invokevirtual 105, 3) := by decide +kernel
theorem dX9_set_37 : decode cX9_set 37 = .ok (.ifCond .ne 9, 3) := by decide +kernel
theorem dX9_set_40 : decode cX9_set 40 = .ok (.aload_n 0, 1) := by decide +kernel
theorem dX9_set_41 : decode cX9_set 41 = .ok (.iconst 2, 1) := by decide +kernel
theorem dX9_set_42 : decode cX9_set 42 = .ok (.invokevirtual 91, 3) := by decide +kernel
theorem dX9_set_45 : decode cX9_set 45 = .ok (.ireturn, 1) := by decide +kernel
theorem dX9_set_46 : decode cX9_set 46 = .ok (.aload_n 0, 1) := by decide +kernel
theorem dX9_set_47 : decode cX9_set 47 = .ok (.aload_n 0, 1) := by decide +kernel
theorem dX9_set_48 : decode cX9_set 48 = .ok (.getfield 10, 3) := by decide +kernel
theorem dX9_set_51 : decode cX9_set 51 = .ok (.iload_n 1, 1) := by decide +kernel
theorem dX9_set_52 : decode cX9_set 52 = .ok (.iload_n 2, 1) := by decide +kernel
theorem dX9_set_53 : decode cX9_set 53 = .ok (.iload_n 3, 1) := by decide +kernel
theorem dX9_set_54 : decode cX9_set 54 = .ok (.invokevirtual 108, 3) := by decide +kernel
theorem dX9_set_57 : decode cX9_set 57 = .ok (.invokevirtual 99, 3) := by decide +kernel
theorem dX9_set_60 : decode cX9_set 60 = .ok (.ireturn, 1) := by decide +kernel
theorem dX9_copy_0 : decode cX9_copy 0 = .ok (.iload_n 1, 1) := by decide +kernel
theorem dX9_copy_1 : decode cX9_copy 1 = .ok (.invokestatic 82, 3) := by decide +kernel
theorem dX9_copy_4 : decode cX9_copy 4 = .ok (.ifCond .eq 10, 3) := by decide +kernel
theorem dX9_copy_7 : decode cX9_copy 7 = .ok (.iload_n 3, 1) := by decide +kernel
theorem dX9_copy_8 : decode cX9_copy 8 = .ok (.invokestatic 82, 3) := by decide +kernel
theorem dX9_copy_11 : decode cX9_copy 11 = .ok (.ifCond .ne 6, 3) := by decide +kernel
theorem dX9_copy_14 : decode cX9_copy 14 = .ok (.ldc 90, 2) := by decide +kernel
theorem dX9_copy_16 : decode cX9_copy 16 = .ok (.ireturn, 1) := by decide +kernel
theorem dX9_copy_17 : decode cX9_copy 17 = .ok (.aload_n 0, 1) := by decide +kernel
theorem dX9_copy_18 : decode cX9_copy 18 = .ok (.getfield 10, 3) := by decide +kernel
theorem dX9_copy_21 : decode cX9_copy 21 = .ok (.iload_n 1, 1) := by decide +kernel
theorem dX9_copy_22 : decode cX9_copy 22 = .ok (.invokevirtual 102, 3) := by decide +kernel
theorem dX9_copy_25 : decode cX9_copy 25 = .ok (.ifCond .ne 14, 3) := by decide +kernel
theorem dX9_copy_28 : decode cX9_copy 28 = .ok (.aload_n 0, 1) := by decide +kernel
theorem dX9_copy_29 : decode cX9_copy 29 = .ok (.getfield 10, 3) := by decide +kernel
theorem dX9_copy_32 : decode cX9_copy 32 = .ok (.iload_n 3, 1) := by decide +kernel
theorem dX9_copy_33 : decode cX9_copy 33 = .ok (.invokevirtual 102, 3) := by decide +kernel
theorem dX9_copy_36 : decode cX9_copy 36 = .ok (.ifCond .eq 9, 3) := by decide +kernel
theorem dX9_copy_39 : decode cX9_copy 39 = .ok (.aload_n 0, 1) := by decide +kernel
theorem dX9_copy_40 : decode cX9_copy 40 = .ok (.iconst 1, 1) := by decide +kernel
theorem dX9_copy_41 : decode cX9_copy 41 = .ok (.invokevirtual 91, 3) := by decide +kernel
theorem dX9_copy_44 : decode cX9_copy 44 = .ok (.ireturn, 1) := by decide +kernel
theorem dX9_copy_45 : decode cX9_copy 45 = .ok (.aload_n 0, 1) := by decide +kernel
theorem dX9_copy_46 : decode cX9_copy 46 = .ok (.getfield 10, 3) := by decide +kernel
theorem dX9_copy_49 : decode cX9_copy 49 = .ok (.getfield 112, 3) := by decide +kernel
theorem dX9_copy_52 : decode cX9_copy 52 = .ok (.iload_n 1, 1) := by decide +kernel
theorem dX9_copy_53 : decode cX9_copy 53 = .ok (.iaload, 1) := by decide +kernel
theorem dX9_copy_54 : decode cX9_copy 54 = .ok (.aload_n 0, 1) := by decide +kernel
theorem dX9_copy_55 : decode cX9_copy 55 = .ok (.getfield 10, 3) := by decide +kernel
theorem dX9_copy_58 : decode cX9_copy 58 = .ok (.getfield 112, 3) := by decide +kernel
theorem dX9_copy_61 : decode cX9_copy 61 = .ok (.iload_n 3, 1) := by decide +kernel
theorem dX9_copy_62 : decode cX9_copy 62 = .ok (.iaload, 1) := by decide +kernel
theorem dX9_copy_63 : decode cX9_copy 63 = .ok (.if_icmp .eq 9, 3) := by decide +kernel
theorem dX9_copy_66 : decode cX9_copy 66 = .ok (.aload_n 0, 1) := by decide +kernel
theorem dX9_copy_67 : decode cX9_copy 67 = .ok (.iconst 5, 1) := by decide +kernel
theorem dX9_copy_68 : decode cX9_copy 68 = .ok (.invokevirtual 91, 3) := by decide +kernel
theorem dX9_copy_71 : decode cX9_copy 71 = .ok (.ireturn, 1) := by decide +kernel
theorem dX9_copy_72 : decode cX9_copy 72 = .ok (.aload_n 0, 1) := by decide +kernel
theorem dX9_copy_73 : decode cX9_copy 73 = .ok (.getfield 10, 3) := by decide +kernel
theorem dX9_copy_76 : decode cX9_copy 76 = .ok (.iload_n 1, 1) := by decide +kernel
theorem dX9_copy_77 : decode cX9_copy 77 = .ok (.iload_n 2, 1) := by decide +kernel
theorem dX9_copy_78 : decode cX9_copy 78 = .ok (.iload 5, 2) := by decide +kernel
theorem dX9_copy_80 : decode cX9_copy 80 = .ok (.invokevirtual 105, 3) := by decide +kernel
theorem dX9_copy_83 : decode cX9_copy 83 = .ok (.ifCond .eq 18, 3) := by decide +kernel
theorem dX9_copy_86 : decode cX9_copy 86 = .ok (.aload_n 0, 1) := by decide +kernel
theorem dX9_copy_87 : decode cX9_copy 87 = .ok (.getfield 10, 3) := by decide +kernel
theorem dX9_copy_90 : decode cX9_copy 90 = .ok (.iload_n 3, 1) := by decide +kernel
theorem dX9_copy_91 : decode cX9_copy 91 = .ok (.iload 4, 2) := by decide +kernel
theorem dX9_copy_93 : decode cX9_copy 93 = .ok (.iload 5, 2) := by decide +kernel
theorem dX9_copy_95 : decode cX9_copy 95 = .ok (.invokevirtual 105, 3) := by decide +kernel
theorem dX9_copy_98 : decode cX9_copy 98 = .ok (.ifCond .ne 9, 3) := by decide +kernel
theorem dX9_copy_101 : decode cX9_copy 101 = .ok (.aload_n 0, 1) := by decide +kernel
theorem dX9_copy_102 : decode cX9_copy 102 = .ok (.iconst 2, 1) := by decide +kernel
theorem dX9_copy_103 : decode cX9_copy 103 = .ok (.invokevirtual 91, 3) := by decide +kernel
theorem dX9_copy_106 : decode cX9_copy 106 = .ok (.ireturn, 1) := by decide +kernel
theorem dX9_copy_107 : decode cX9_copy 107 = .ok (.aload_n 0, 1) := by decide +kernel
theorem dX9_copy_108 : decode cX9_copy 108 = .ok (.getfield 10, 3) := by decide +kernel
theorem dX9_copy_111 : decode cX9_copy 111 = .ok (.iload_n 1, 1) := by decide +kernel
theorem dX9_copy_112 : decode cX9_copy 112 = .ok (.iload_n 2, 1) := by decide +kernel
theorem dX9_copy_113 : decode cX9_copy 113 = .ok (.iload_n 3, 1) := by decide +kernel
theorem dX9_copy_114 : decode cX9_copy 114 = .ok (.iload 4, 2) := by decide +kernel
theorem dX9_copy_116 : decode cX9_copy 116 = .ok (.iload 5, 2) := by decide +kernel
theorem dX9_copy_118 : decode cX9_copy 118 = .ok (.invokevirtual 116, 3) := by decide +kernel
theorem dX9_copy_121 : decode cX9_copy 121 = .ok (.aload_n 0, 1) := by decide +kernel
theorem dX9_copy_122 : decode cX9_copy 122 = .ok (.iload 5, 2) := by decide +kernel
theorem dX9_copy_124 : decode cX9_copy 124 = .ok (.invokevirtual 99, 3) := by decide +kernel
theorem dX9_copy_127 : decode cX9_copy 127 = .ok (.ireturn, 1) := by decide +kernel
theorem dX9_drop_0 : decode cX9_drop 0 = .ok (.iload_n 1, 1) := by decide +kernel
theorem dX9_drop_1 : decode cX9_drop 1 = .ok (.invokestatic 82, 3) := by decide +kernel
theorem dX9_drop_4 : decode cX9_drop 4 = .ok (.ifCond .ne 6, 3) := by decide +kernel
theorem dX9_drop_7 : decode cX9_drop 7 = .ok (.ldc 90, 2) := by decide +kernel
theorem dX9_drop_9 : decode cX9_drop 9 = .ok (.ireturn, 1) := by decide +kernel
theorem dX9_drop_10 : decode cX9_drop 10 = .ok (.aload_n 0, 1) := by decide +kernel
theorem dX9_drop_11 : decode cX9_drop 11 = .ok (.getfield 10, 3) := by decide +kernel
theorem dX9_drop_14 : decode cX9_drop 14 = .ok (.iload_n 1, 1) := by decide +kernel
theorem dX9_drop_15 : decode cX9_drop 15 = .ok (.invokevirtual 102, 3) := by decide +kernel
theorem dX9_drop_18 : decode cX9_drop 18 = .ok (.ifCond .eq 9, 3) := by decide +kernel
theorem dX9_drop_21 : decode cX9_drop 21 = .ok (.aload_n 0, 1) := by decide +kernel
theorem dX9_drop_22 : decode cX9_drop 22 = .ok (.iconst 1, 1) := by decide +kernel
theorem dX9_drop_23 : decode cX9_drop 23 = .ok (.invokevirtual 91, 3) := by decide +kernel
theorem dX9_drop_26 : decode cX9_drop 26 = .ok (.ireturn, 1) := by decide +kernel
theorem dX9_drop_27 : decode cX9_drop 27 = .ok (.aload_n 0, 1) := by decide +kernel
theorem dX9_drop_28 : decode cX9_drop 28 = .ok (.aload_n 0, 1) := by decide +kernel
theorem dX9_drop_29 : decode cX9_drop 29 = .ok (.getfield 10, 3) := by decide +kernel
theorem dX9_drop_32 : decode cX9_drop 32 = .ok (.iload_n 1, 1) := by decide +kernel
theorem dX9_drop_33 : decode cX9_drop 33 = .ok (.invokevirtual 120, 3) := by decide +kernel
theorem dX9_drop_36 : decode cX9_drop 36 = .ok (.invokevirtual 99, 3) := by decide +kernel
theorem dX9_drop_39 : decode cX9_drop 39 = .ok (.ireturn, 1) := by decide +kernel
theorem dX9_feed_0 : decode cX9_feed 0 = .ok (.iload_n 1, 1) := by decide +kernel
theorem dX9_feed_1 : decode cX9_feed 1 = .ok (.iconst 0, 1) := by decide +kernel
theorem dX9_feed_2 : decode cX9_feed 2 = .ok (.sipush 255, 3) := by decide +kernel
theorem dX9_feed_5 : decode cX9_feed 5 = .ok (.invokestatic 86, 3) := by decide +kernel
theorem dX9_feed_8 : decode cX9_feed 8 = .ok (.ifCond .ne 6, 3) := by decide +kernel
theorem dX9_feed_11 : decode cX9_feed 11 = .ok (.ldc 90, 2) := by decide +kernel
theorem dX9_feed_13 : decode cX9_feed 13 = .ok (.ireturn, 1) := by decide +kernel
theorem dX9_feed_14 : decode cX9_feed 14 = .ok (.aload_n 0, 1) := by decide +kernel
theorem dX9_feed_15 : decode cX9_feed 15 = .ok (.getfield 19, 3) := by decide +kernel
theorem dX9_feed_18 : decode cX9_feed 18 = .ok (.invokevirtual 123, 3) := by decide +kernel
theorem dX9_feed_21 : decode cX9_feed 21 = .ok (.ifCond .eq 8, 3) := by decide +kernel
theorem dX9_feed_24 : decode cX9_feed 24 = .ok (.ldc 127, 2) := by decide +kernel
theorem dX9_feed_26 : decode cX9_feed 26 = .ok (.goto 11, 3) := by decide +kernel
theorem dX9_feed_29 : decode cX9_feed 29 = .ok (.aload_n 0, 1) := by decide +kernel
theorem dX9_feed_30 : decode cX9_feed 30 = .ok (.getfield 19, 3) := by decide +kernel
theorem dX9_feed_33 : decode cX9_feed 33 = .ok (.iload_n 1, 1) := by decide +kernel
theorem dX9_feed_34 : decode cX9_feed 34 = .ok (.invokevirtual 128, 3) := by decide +kernel
theorem dX9_feed_37 : decode cX9_feed 37 = .ok (.ireturn, 1) := by decide +kernel
theorem dX9_sky_0 : decode cX9_sky 0 = .ok (.aload_n 0, 1) := by decide +kernel
theorem dX9_sky_1 : decode cX9_sky 1 = .ok (.getfield 28, 3) := by decide +kernel
theorem dX9_sky_4 : decode cX9_sky 4 = .ok (.invokevirtual 131, 3) := by decide +kernel
theorem dX9_sky_7 : decode cX9_sky 7 = .ok (.istore_n 1, 1) := by decide +kernel
theorem dX9_sky_8 : decode cX9_sky 8 = .ok (.aload_n 0, 1) := by decide +kernel
theorem dX9_sky_9 : decode cX9_sky 9 = .ok (.getfield 28, 3) := by decide +kernel
theorem dX9_sky_12 : decode cX9_sky 12 = .ok (.getfield 135, 3) := by decide +kernel
theorem dX9_sky_15 : decode cX9_sky 15 = .ok (.istore_n 2, 1) := by decide +kernel
theorem dX9_sky_16 : decode cX9_sky 16 = .ok (.aload_n 0, 1) := by decide +kernel
theorem dX9_sky_17 : decode cX9_sky 17 = .ok (.getfield 19, 3) := by decide +kernel
theorem dX9_sky_20 : decode cX9_sky 20 = .ok (.iconst 0, 1) := by decide +kernel
theorem dX9_sky_21 : decode cX9_sky 21 = .ok (.putfield 139, 3) := by decide +kernel
theorem dX9_sky_24 : decode cX9_sky 24 = .ok (.iload_n 1, 1) := by decide +kernel
theorem dX9_sky_25 : decode cX9_sky 25 = .ok (.ifCond .eq 13, 3) := by decide +kernel
theorem dX9_sky_28 : decode cX9_sky 28 = .ok (.aload_n 0, 1) := by decide +kernel
theorem dX9_sky_29 : decode cX9_sky 29 = .ok (.iload_n 1, 1) := by decide +kernel
theorem dX9_sky_30 : decode cX9_sky 30 = .ok (.putfield 142, 3) := by decide +kernel
theorem dX9_sky_33 : decode cX9_sky 33 = .ok (.ldc 145, 2) := by decide +kernel
theorem dX9_sky_35 : decode cX9_sky 35 = .ok (.iload_n 2, 1) := by decide +kernel
theorem dX9_sky_36 : decode cX9_sky 36 = .ok (.isub, 1) := by decide +kernel
theorem dX9_sky_37 : decode cX9_sky 37 = .ok (.ireturn, 1) := by decide +kernel
theorem dX9_sky_38 : decode cX9_sky 38 = .ok (.aload_n 0, 1) := by decide +kernel
theorem dX9_sky_39 : decode cX9_sky 39 = .ok (.getfield 35, 3) := by decide +kernel
theorem dX9_sky_42 : decode cX9_sky 42 = .ok (.aload_n 0, 1) := by decide +kernel
theorem dX9_sky_43 : decode cX9_sky 43 = .ok (.getfield 28, 3) := by decide +kernel
theorem dX9_sky_46 : decode cX9_sky 46 = .ok (.getfield 146, 3) := by decide +kernel
theorem dX9_sky_49 : decode cX9_sky 49 = .ok (.invokevirtual 149, 3) := by decide +kernel
theorem dX9_sky_52 : decode cX9_sky 52 = .ok (.aload_n 0, 1) := by decide +kernel
theorem dX9_sky_53 : decode cX9_sky 53 = .ok (.getfield 44, 3) := by decide +kernel
theorem dX9_sky_56 : decode cX9_sky 56 = .ok (.invokevirtual 152, 3) := by decide +kernel
theorem dX9_sky_59 : decode cX9_sky 59 = .ok (.aload_n 0, 1) := by decide +kernel
theorem dX9_sky_60 : decode cX9_sky 60 = .ok (.getfield 35, 3) := by decide +kernel
theorem dX9_sky_63 : decode cX9_sky 63 = .ok (.getfield 155, 3) := by decide +kernel
theorem dX9_sky_66 : decode cX9_sky 66 = .ok (.ireturn, 1) := by decide +kernel
theorem dX9_fault_0 : decode cX9_fault 0 = .ok (.aload_n 0, 1) := by decide +kernel
theorem dX9_fault_1 : decode cX9_fault 1 = .ok (.getfield 142, 3) := by decide +kernel
theorem dX9_fault_4 : decode cX9_fault 4 = .ok (.ireturn, 1) := by decide +kernel
theorem dX9_undo_0 : decode cX9_undo 0 = .ok (.aload_n 0, 1) := by decide +kernel
theorem dX9_undo_1 : decode cX9_undo 1 = .ok (.getfield 44, 3) := by decide +kernel
theorem dX9_undo_4 : decode cX9_undo 4 = .ok (.getfield 158, 3) := by decide +kernel
theorem dX9_undo_7 : decode cX9_undo 7 = .ok (.ifCond .ne 6, 3) := by decide +kernel
theorem dX9_undo_10 : decode cX9_undo 10 = .ok (.ldc 161, 2) := by decide +kernel
theorem dX9_undo_12 : decode cX9_undo 12 = .ok (.ireturn, 1) := by decide +kernel
theorem dX9_undo_13 : decode cX9_undo 13 = .ok (.aload_n 0, 1) := by decide +kernel
theorem dX9_undo_14 : decode cX9_undo 14 = .ok (.getfield 44, 3) := by decide +kernel
theorem dX9_undo_17 : decode cX9_undo 17 = .ok (.invokevirtual 162, 3) := by decide +kernel
theorem dX9_undo_20 : decode cX9_undo 20 = .ok (.aload_n 0, 1) := by decide +kernel
theorem dX9_undo_21 : decode cX9_undo 21 = .ok (.getfield 44, 3) := by decide +kernel
theorem dX9_undo_24 : decode cX9_undo 24 = .ok (.getfield 158, 3) := by decide +kernel
theorem dX9_undo_27 : decode cX9_undo 27 = .ok (.ireturn, 1) := by decide +kernel
theorem dX9_days_0 : decode cX9_days 0 = .ok (.aload_n 0, 1) := by decide +kernel
theorem dX9_days_1 : decode cX9_days 1 = .ok (.invokevirtual 165, 3) := by decide +kernel
theorem dX9_days_4 : decode cX9_days 4 = .ok (.ifCond .eq 6, 3) := by decide +kernel
theorem dX9_days_7 : decode cX9_days 7 = .ok (.ldc 161, 2) := by decide +kernel
theorem dX9_days_9 : decode cX9_days 9 = .ok (.ireturn, 1) := by decide +kernel
theorem dX9_days_10 : decode cX9_days 10 = .ok (.iload_n 1, 1) := by decide +kernel
theorem dX9_days_11 : decode cX9_days 11 = .ok (.iconst 1, 1) := by decide +kernel
theorem dX9_days_12 : decode cX9_days 12 = .ok (.bipush 24, 2) := by decide +kernel
theorem dX9_days_14 : decode cX9_days 14 = .ok (.invokestatic 86, 3) := by decide +kernel
theorem dX9_days_17 : decode cX9_days 17 = .ok (.ifCond .ne 6, 3) := by decide +kernel
theorem dX9_days_20 : decode cX9_days 20 = .ok (.ldc 90, 2) := by decide +kernel
theorem dX9_days_22 : decode cX9_days 22 = .ok (.ireturn, 1) := by decide +kernel
theorem dX9_days_23 : decode cX9_days 23 = .ok (.aload_n 0, 1) := by decide +kernel
theorem dX9_days_24 : decode cX9_days 24 = .ok (.getfield 35, 3) := by decide +kernel
theorem dX9_days_27 : decode cX9_days 27 = .ok (.getfield 168, 3) := by decide +kernel
theorem dX9_days_30 : decode cX9_days 30 = .ok (.iload_n 1, 1) := by decide +kernel
theorem dX9_days_31 : decode cX9_days 31 = .ok (.iadd, 1) := by decide +kernel
theorem dX9_days_32 : decode cX9_days 32 = .ok (.sipush 999, 3) := by decide +kernel
theorem dX9_days_35 : decode cX9_days 35 = .ok (.if_icmp .le 6, 3) := by decide +kernel
theorem dX9_days_38 : decode cX9_days 38 = .ok (.ldc 127, 2) := by decide +kernel
theorem dX9_days_40 : decode cX9_days 40 = .ok (.ireturn, 1) := by decide +kernel
theorem dX9_days_41 : decode cX9_days 41 = .ok (.iconst 0, 1) := by decide +kernel
theorem dX9_days_42 : decode cX9_days 42 = .ok (.istore_n 2, 1) := by decide +kernel
theorem dX9_days_43 : decode cX9_days 43 = .ok (.iconst 0, 1) := by decide +kernel
theorem dX9_days_44 : decode cX9_days 44 = .ok (.istore_n 3, 1) := by decide +kernel
theorem dX9_days_45 : decode cX9_days 45 = .ok (.iload_n 3, 1) := by decide +kernel
theorem dX9_days_46 : decode cX9_days 46 = .ok (.iload_n 1, 1) := by decide +kernel
theorem dX9_days_47 : decode cX9_days 47 = .ok (.if_icmp .ge 26, 3) := by decide +kernel
theorem dX9_days_50 : decode cX9_days 50 = .ok (.aload_n 0, 1) := by decide +kernel
theorem dX9_days_51 : decode cX9_days 51 = .ok (.getfield 44, 3) := by decide +kernel
theorem dX9_days_54 : decode cX9_days 54 = .ok (.invokevirtual 171, 3) := by decide +kernel
theorem dX9_days_57 : decode cX9_days 57 = .ok (.iload_n 2, 1) := by decide +kernel
theorem dX9_days_58 : decode cX9_days 58 = .ok (.aload_n 0, 1) := by decide +kernel
theorem dX9_days_59 : decode cX9_days 59 = .ok (.getfield 35, 3) := by decide +kernel
theorem dX9_days_62 : decode cX9_days 62 = .ok (.invokevirtual 174, 3) := by decide +kernel
theorem dX9_days_65 : decode cX9_days 65 = .ok (.iadd, 1) := by decide +kernel
theorem dX9_days_66 : decode cX9_days 66 = .ok (.istore_n 2, 1) := by decide +kernel
theorem dX9_days_67 : decode cX9_days 67 = .ok (.iinc 3 1, 3) := by decide +kernel
theorem dX9_days_70 : decode cX9_days 70 = .ok (.goto (-25), 3) := by decide +kernel
theorem dX9_days_73 : decode cX9_days 73 = .ok (.iload_n 2, 1) := by decide +kernel
theorem dX9_days_74 : decode cX9_days 74 = .ok (.ireturn, 1) := by decide +kernel
theorem dX9_wind_0 : decode cX9_wind 0 = .ok (.aload_n 0, 1) := by decide +kernel
theorem dX9_wind_1 : decode cX9_wind 1 = .ok (.invokevirtual 165, 3) := by decide +kernel
theorem dX9_wind_4 : decode cX9_wind 4 = .ok (.ifCond .eq 6, 3) := by decide +kernel
theorem dX9_wind_7 : decode cX9_wind 7 = .ok (.ldc 161, 2) := by decide +kernel
theorem dX9_wind_9 : decode cX9_wind 9 = .ok (.ireturn, 1) := by decide +kernel
theorem dX9_wind_10 : decode cX9_wind 10 = .ok (.iload_n 1, 1) := by decide +kernel
theorem dX9_wind_11 : decode cX9_wind 11 = .ok (.iconst 0, 1) := by decide +kernel
theorem dX9_wind_12 : decode cX9_wind 12 = .ok (.bipush 15, 2) := by decide +kernel
theorem dX9_wind_14 : decode cX9_wind 14 = .ok (.invokestatic 86, 3) := by decide +kernel
theorem dX9_wind_17 : decode cX9_wind 17 = .ok (.ifCond .ne 6, 3) := by decide +kernel
theorem dX9_wind_20 : decode cX9_wind 20 = .ok (.ldc 90, 2) := by decide +kernel
theorem dX9_wind_22 : decode cX9_wind 22 = .ok (.ireturn, 1) := by decide +kernel
theorem dX9_wind_23 : decode cX9_wind 23 = .ok (.aload_n 0, 1) := by decide +kernel
theorem dX9_wind_24 : decode cX9_wind 24 = .ok (.getfield 35, 3) := by decide +kernel
theorem dX9_wind_27 : decode cX9_wind 27 = .ok (.getfield 177, 3) := by decide +kernel
theorem dX9_wind_30 : decode cX9_wind 30 = .ok (.istore_n 2, 1) := by decide +kernel
theorem dX9_wind_31 : decode cX9_wind 31 = .ok (.aload_n 0, 1) := by decide +kernel
theorem dX9_wind_32 : decode cX9_wind 32 = .ok (.getfield 44, 3) := by decide +kernel
theorem dX9_wind_35 : decode cX9_wind 35 = .ok (.invokevirtual 171, 3) := by decide +kernel
theorem dX9_wind_38 : decode cX9_wind 38 = .ok (.aload_n 0, 1) := by decide +kernel
theorem dX9_wind_39 : decode cX9_wind 39 = .ok (.getfield 35, 3) := by decide +kernel
theorem dX9_wind_42 : decode cX9_wind 42 = .ok (.iload_n 1, 1) := by decide +kernel
theorem dX9_wind_43 : decode cX9_wind 43 = .ok (.putfield 177, 3) := by decide +kernel
theorem dX9_wind_46 : decode cX9_wind 46 = .ok (.iload_n 2, 1) := by decide +kernel
theorem dX9_wind_47 : decode cX9_wind 47 = .ok (.ireturn, 1) := by decide +kernel
theorem dX9_tow_0 : decode cX9_tow 0 = .ok (.aload_n 0, 1) := by decide +kernel
theorem dX9_tow_1 : decode cX9_tow 1 = .ok (.iload_n 1, 1) := by decide +kernel
theorem dX9_tow_2 : decode cX9_tow 2 = .ok (.invokevirtual 180, 3) := by decide +kernel
theorem dX9_tow_5 : decode cX9_tow 5 = .ok (.ifCond .eq 13, 3) := by decide +kernel
theorem dX9_tow_8 : decode cX9_tow 8 = .ok (.iload_n 2, 1) := by decide +kernel
theorem dX9_tow_9 : decode cX9_tow 9 = .ok (.iconst 1, 1) := by decide +kernel
theorem dX9_tow_10 : decode cX9_tow 10 = .ok (.bipush 15, 2) := by decide +kernel
theorem dX9_tow_12 : decode cX9_tow 12 = .ok (.invokestatic 86, 3) := by decide +kernel
theorem dX9_tow_15 : decode cX9_tow 15 = .ok (.ifCond .ne 6, 3) := by decide +kernel
theorem dX9_tow_18 : decode cX9_tow 18 = .ok (.ldc 90, 2) := by decide +kernel
theorem dX9_tow_20 : decode cX9_tow 20 = .ok (.ireturn, 1) := by decide +kernel
theorem dX9_tow_21 : decode cX9_tow 21 = .ok (.aload_n 0, 1) := by decide +kernel
theorem dX9_tow_22 : decode cX9_tow 22 = .ok (.getfield 35, 3) := by decide +kernel
theorem dX9_tow_25 : decode cX9_tow 25 = .ok (.iload_n 1, 1) := by decide +kernel
theorem dX9_tow_26 : decode cX9_tow 26 = .ok (.invokevirtual 183, 3) := by decide +kernel
theorem dX9_tow_29 : decode cX9_tow 29 = .ok (.ifCond .eq 6, 3) := by decide +kernel
theorem dX9_tow_32 : decode cX9_tow 32 = .ok (.ldc 161, 2) := by decide +kernel
theorem dX9_tow_34 : decode cX9_tow 34 = .ok (.ireturn, 1) := by decide +kernel
theorem dX9_tow_35 : decode cX9_tow 35 = .ok (.aload_n 0, 1) := by decide +kernel
theorem dX9_tow_36 : decode cX9_tow 36 = .ok (.getfield 44, 3) := by decide +kernel
theorem dX9_tow_39 : decode cX9_tow 39 = .ok (.invokevirtual 171, 3) := by decide +kernel
theorem dX9_tow_42 : decode cX9_tow 42 = .ok (.aload_n 0, 1) := by decide +kernel
theorem dX9_tow_43 : decode cX9_tow 43 = .ok (.getfield 35, 3) := by decide +kernel
theorem dX9_tow_46 : decode cX9_tow 46 = .ok (.getfield 186, 3) := by decide +kernel
theorem dX9_tow_49 : decode cX9_tow 49 = .ok (.iload_n 1, 1) := by decide +kernel
theorem dX9_tow_50 : decode cX9_tow 50 = .ok (.aload_n 0, 1) := by decide +kernel
theorem dX9_tow_51 : decode cX9_tow 51 = .ok (.getfield 35, 3) := by decide +kernel
theorem dX9_tow_54 : decode cX9_tow 54 = .ok (.getfield 186, 3) := by decide +kernel
theorem dX9_tow_57 : decode cX9_tow 57 = .ok (.iload_n 1, 1) := by decide +kernel
theorem dX9_tow_58 : decode cX9_tow 58 = .ok (.iaload, 1) := by decide +kernel
theorem dX9_tow_59 : decode cX9_tow 59 = .ok (.iload_n 2, 1) := by decide +kernel
theorem dX9_tow_60 : decode cX9_tow 60 = .ok (.iadd, 1) := by decide +kernel
theorem dX9_tow_61 : decode cX9_tow 61 = .ok (.invokestatic 189, 3) := by decide +kernel
theorem dX9_tow_64 : decode cX9_tow 64 = .ok (.iastore, 1) := by decide +kernel
theorem dX9_tow_65 : decode cX9_tow 65 = .ok (.aload_n 0, 1) := by decide +kernel
theorem dX9_tow_66 : decode cX9_tow 66 = .ok (.getfield 35, 3) := by decide +kernel
theorem dX9_tow_69 : decode cX9_tow 69 = .ok (.getfield 186, 3) := by decide +kernel
theorem dX9_tow_72 : decode cX9_tow 72 = .ok (.iload_n 1, 1) := by decide +kernel
theorem dX9_tow_73 : decode cX9_tow 73 = .ok (.iaload, 1) := by decide +kernel
theorem dX9_tow_74 : decode cX9_tow 74 = .ok (.ireturn, 1) := by decide +kernel
theorem dX9_silk_0 : decode cX9_silk 0 = .ok (.aload_n 0, 1) := by decide +kernel
theorem dX9_silk_1 : decode cX9_silk 1 = .ok (.iload_n 1, 1) := by decide +kernel
theorem dX9_silk_2 : decode cX9_silk 2 = .ok (.invokevirtual 180, 3) := by decide +kernel
theorem dX9_silk_5 : decode cX9_silk 5 = .ok (.ifCond .ne 6, 3) := by decide +kernel
theorem dX9_silk_8 : decode cX9_silk 8 = .ok (.ldc 90, 2) := by decide +kernel
theorem dX9_silk_10 : decode cX9_silk 10 = .ok (.ireturn, 1) := by decide +kernel
theorem dX9_silk_11 : decode cX9_silk 11 = .ok (.aload_n 0, 1) := by decide +kernel
theorem dX9_silk_12 : decode cX9_silk 12 = .ok (.getfield 35, 3) := by decide +kernel
theorem dX9_silk_15 : decode cX9_silk 15 = .ok (.getfield 192, 3) := by decide +kernel
theorem dX9_silk_18 : decode cX9_silk 18 = .ok (.iload_n 1, 1) := by decide +kernel
theorem dX9_silk_19 : decode cX9_silk 19 = .ok (.iaload, 1) := by decide +kernel
theorem dX9_silk_20 : decode cX9_silk 20 = .ok (.aload_n 0, 1) := by decide +kernel
theorem dX9_silk_21 : decode cX9_silk 21 = .ok (.getfield 35, 3) := by decide +kernel
theorem dX9_silk_24 : decode cX9_silk 24 = .ok (.getfield 195, 3) := by decide +kernel
theorem dX9_silk_27 : decode cX9_silk 27 = .ok (.iadd, 1) := by decide +kernel
theorem dX9_silk_28 : decode cX9_silk 28 = .ok (.bipush 99, 2) := by decide +kernel
theorem dX9_silk_30 : decode cX9_silk 30 = .ok (.if_icmp .le 6, 3) := by decide +kernel
theorem dX9_silk_33 : decode cX9_silk 33 = .ok (.ldc 127, 2) := by decide +kernel
theorem dX9_silk_35 : decode cX9_silk 35 = .ok (.ireturn, 1) := by decide +kernel
theorem dX9_silk_36 : decode cX9_silk 36 = .ok (.aload_n 0, 1) := by decide +kernel
theorem dX9_silk_37 : decode cX9_silk 37 = .ok (.getfield 44, 3) := by decide +kernel
theorem dX9_silk_40 : decode cX9_silk 40 = .ok (.invokevirtual 171, 3) := by decide +kernel
theorem dX9_silk_43 : decode cX9_silk 43 = .ok (.aload_n 0, 1) := by decide +kernel
theorem dX9_silk_44 : decode cX9_silk 44 = .ok (.getfield 35, 3) := by decide +kernel
theorem dX9_silk_47 : decode cX9_silk 47 = .ok (.iload_n 1, 1) := by decide +kernel
theorem dX9_silk_48 : decode cX9_silk 48 = .ok (.invokevirtual 198, 3) := by decide +kernel
theorem dX9_silk_51 : decode cX9_silk 51 = .ok (.aload_n 0, 1) := by decide +kernel
theorem dX9_silk_52 : decode cX9_silk 52 = .ok (.getfield 35, 3) := by decide +kernel
theorem dX9_silk_55 : decode cX9_silk 55 = .ok (.getfield 192, 3) := by decide +kernel
theorem dX9_silk_58 : decode cX9_silk 58 = .ok (.iload_n 1, 1) := by decide +kernel
theorem dX9_silk_59 : decode cX9_silk 59 = .ok (.iaload, 1) := by decide +kernel
theorem dX9_silk_60 : decode cX9_silk 60 = .ok (.ireturn, 1) := by decide +kernel
theorem dX9_sign_0 : decode cX9_sign 0 = .ok (.aload_n 0, 1) := by decide +kernel
theorem dX9_sign_1 : decode cX9_sign 1 = .ok (.iload_n 1, 1) := by decide +kernel
theorem dX9_sign_2 : decode cX9_sign 2 = .ok (.invokevirtual 180, 3) := by decide +kernel
theorem dX9_sign_5 : decode cX9_sign 5 = .ok (.ifCond .eq 13, 3) := by decide +kernel
theorem dX9_sign_8 : decode cX9_sign 8 = .ok (.iload_n 2, 1) := by decide +kernel
theorem dX9_sign_9 : decode cX9_sign 9 = .ok (.iconst 0, 1) := by decide +kernel
theorem dX9_sign_10 : decode cX9_sign 10 = .ok (.bipush 9, 2) := by decide +kernel
theorem dX9_sign_12 : decode cX9_sign 12 = .ok (.invokestatic 86, 3) := by decide +kernel
theorem dX9_sign_15 : decode cX9_sign 15 = .ok (.ifCond .ne 6, 3) := by decide +kernel
theorem dX9_sign_18 : decode cX9_sign 18 = .ok (.ldc 90, 2) := by decide +kernel
theorem dX9_sign_20 : decode cX9_sign 20 = .ok (.ireturn, 1) := by decide +kernel
theorem dX9_sign_21 : decode cX9_sign 21 = .ok (.aload_n 0, 1) := by decide +kernel
theorem dX9_sign_22 : decode cX9_sign 22 = .ok (.getfield 35, 3) := by decide +kernel
theorem dX9_sign_25 : decode cX9_sign 25 = .ok (.getfield 202, 3) := by decide +kernel
theorem dX9_sign_28 : decode cX9_sign 28 = .ok (.iload_n 1, 1) := by decide +kernel
theorem dX9_sign_29 : decode cX9_sign 29 = .ok (.iaload, 1) := by decide +kernel
theorem dX9_sign_30 : decode cX9_sign 30 = .ok (.istore_n 3, 1) := by decide +kernel
theorem dX9_sign_31 : decode cX9_sign 31 = .ok (.aload_n 0, 1) := by decide +kernel
theorem dX9_sign_32 : decode cX9_sign 32 = .ok (.getfield 44, 3) := by decide +kernel
theorem dX9_sign_35 : decode cX9_sign 35 = .ok (.invokevirtual 171, 3) := by decide +kernel
theorem dX9_sign_38 : decode cX9_sign 38 = .ok (.aload_n 0, 1) := by decide +kernel
theorem dX9_sign_39 : decode cX9_sign 39 = .ok (.getfield 35, 3) := by decide +kernel
theorem dX9_sign_42 : decode cX9_sign 42 = .ok (.getfield 202, 3) := by decide +kernel
theorem dX9_sign_45 : decode cX9_sign 45 = .ok (.iload_n 1, 1) := by decide +kernel
theorem dX9_sign_46 : decode cX9_sign 46 = .ok (.iload_n 2, 1) := by decide +kernel
theorem dX9_sign_47 : decode cX9_sign 47 = .ok (.iastore, 1) := by decide +kernel
theorem dX9_sign_48 : decode cX9_sign 48 = .ok (.iload_n 3, 1) := by decide +kernel
theorem dX9_sign_49 : decode cX9_sign 49 = .ok (.ireturn, 1) := by decide +kernel
theorem dX9_cloud_0 : decode cX9_cloud 0 = .ok (.aload_n 0, 1) := by decide +kernel
theorem dX9_cloud_1 : decode cX9_cloud 1 = .ok (.iload_n 1, 1) := by decide +kernel
theorem dX9_cloud_2 : decode cX9_cloud 2 = .ok (.invokevirtual 180, 3) := by decide +kernel
theorem dX9_cloud_5 : decode cX9_cloud 5 = .ok (.ifCond .ne 6, 3) := by decide +kernel
theorem dX9_cloud_8 : decode cX9_cloud 8 = .ok (.ldc 90, 2) := by decide +kernel
theorem dX9_cloud_10 : decode cX9_cloud 10 = .ok (.ireturn, 1) := by decide +kernel
theorem dX9_cloud_11 : decode cX9_cloud 11 = .ok (.iload_n 2, 1) := by decide +kernel
theorem dX9_cloud_12 : decode cX9_cloud 12 = .ok (.tableswitch 98 0 5 #[40, 50, 60, 70, 80, 89], 40) := by decide +kernel
theorem dX9_cloud_52 : decode cX9_cloud 52 = .ok (.aload_n 0, 1) := by decide +kernel
theorem dX9_cloud_53 : decode cX9_cloud 53 = .ok (.getfield 35, 3) := by decide +kernel
theorem dX9_cloud_56 : decode cX9_cloud 56 = .ok (.getfield 186, 3) := by decide +kernel
theorem dX9_cloud_59 : decode cX9_cloud 59 = .ok (.iload_n 1, 1) := by decide +kernel
theorem dX9_cloud_60 : decode cX9_cloud 60 = .ok (.iaload, 1) := by decide +kernel
theorem dX9_cloud_61 : decode cX9_cloud 61 = .ok (.ireturn, 1) := by decide +kernel
theorem dX9_cloud_62 : decode cX9_cloud 62 = .ok (.aload_n 0, 1) := by decide +kernel
theorem dX9_cloud_63 : decode cX9_cloud 63 = .ok (.getfield 35, 3) := by decide +kernel
theorem dX9_cloud_66 : decode cX9_cloud 66 = .ok (.getfield 205, 3) := by decide +kernel
theorem dX9_cloud_69 : decode cX9_cloud 69 = .ok (.iload_n 1, 1) := by decide +kernel
theorem dX9_cloud_70 : decode cX9_cloud 70 = .ok (.iaload, 1) := by decide +kernel
theorem dX9_cloud_71 : decode cX9_cloud 71 = .ok (.ireturn, 1) := by decide +kernel
theorem dX9_cloud_72 : decode cX9_cloud 72 = .ok (.aload_n 0, 1) := by decide +kernel
theorem dX9_cloud_73 : decode cX9_cloud 73 = .ok (.getfield 35, 3) := by decide +kernel
theorem dX9_cloud_76 : decode cX9_cloud 76 = .ok (.getfield 192, 3) := by decide +kernel
theorem dX9_cloud_79 : decode cX9_cloud 79 = .ok (.iload_n 1, 1) := by decide +kernel
theorem dX9_cloud_80 : decode cX9_cloud 80 = .ok (.iaload, 1) := by decide +kernel
theorem dX9_cloud_81 : decode cX9_cloud 81 = .ok (.ireturn, 1) := by decide +kernel
theorem dX9_cloud_82 : decode cX9_cloud 82 = .ok (.aload_n 0, 1) := by decide +kernel
theorem dX9_cloud_83 : decode cX9_cloud 83 = .ok (.getfield 35, 3) := by decide +kernel
theorem dX9_cloud_86 : decode cX9_cloud 86 = .ok (.getfield 202, 3) := by decide +kernel
theorem dX9_cloud_89 : decode cX9_cloud 89 = .ok (.iload_n 1, 1) := by decide +kernel
theorem dX9_cloud_90 : decode cX9_cloud 90 = .ok (.iaload, 1) := by decide +kernel
theorem dX9_cloud_91 : decode cX9_cloud 91 = .ok (.ireturn, 1) := by decide +kernel
theorem dX9_cloud_92 : decode cX9_cloud 92 = .ok (.aload_n 0, 1) := by decide +kernel
theorem dX9_cloud_93 : decode cX9_cloud 93 = .ok (.getfield 35, 3) := by decide +kernel
theorem dX9_cloud_96 : decode cX9_cloud 96 = .ok (.iload_n 1, 1) := by decide +kernel
theorem dX9_cloud_97 : decode cX9_cloud 97 = .ok (.invokevirtual 208, 3) := by decide +kernel
theorem dX9_cloud_100 : decode cX9_cloud 100 = .ok (.ireturn, 1) := by decide +kernel
theorem dX9_cloud_101 : decode cX9_cloud 101 = .ok (.aload_n 0, 1) := by decide +kernel
theorem dX9_cloud_102 : decode cX9_cloud 102 = .ok (.getfield 35, 3) := by decide +kernel
theorem dX9_cloud_105 : decode cX9_cloud 105 = .ok (.iload_n 1, 1) := by decide +kernel
theorem dX9_cloud_106 : decode cX9_cloud 106 = .ok (.invokevirtual 211, 3) := by decide +kernel
theorem dX9_cloud_109 : decode cX9_cloud 109 = .ok (.ireturn, 1) := by decide +kernel
theorem dX9_cloud_110 : decode cX9_cloud 110 = .ok (.ldc 90, 2) := by decide +kernel
theorem dX9_cloud_112 : decode cX9_cloud 112 = .ok (.ireturn, 1) := by decide +kernel
theorem dX9_field_0 : decode cX9_field 0 = .ok (.aload_n 0, 1) := by decide +kernel
theorem dX9_field_1 : decode cX9_field 1 = .ok (.invokevirtual 165, 3) := by decide +kernel
theorem dX9_field_4 : decode cX9_field 4 = .ok (.ifCond .eq 6, 3) := by decide +kernel
theorem dX9_field_7 : decode cX9_field 7 = .ok (.ldc 161, 2) := by decide +kernel
theorem dX9_field_9 : decode cX9_field 9 = .ok (.ireturn, 1) := by decide +kernel
theorem dX9_field_10 : decode cX9_field 10 = .ok (.iload_n 1, 1) := by decide +kernel
theorem dX9_field_11 : decode cX9_field 11 = .ok (.invokestatic 214, 3) := by decide +kernel
theorem dX9_field_14 : decode cX9_field 14 = .ok (.ifCond .eq 10, 3) := by decide +kernel
theorem dX9_field_17 : decode cX9_field 17 = .ok (.iload_n 2, 1) := by decide +kernel
theorem dX9_field_18 : decode cX9_field 18 = .ok (.invokestatic 217, 3) := by decide +kernel
theorem dX9_field_21 : decode cX9_field 21 = .ok (.ifCond .ne 6, 3) := by decide +kernel
theorem dX9_field_24 : decode cX9_field 24 = .ok (.ldc 90, 2) := by decide +kernel
theorem dX9_field_26 : decode cX9_field 26 = .ok (.ireturn, 1) := by decide +kernel
theorem dX9_field_27 : decode cX9_field 27 = .ok (.iload_n 2, 1) := by decide +kernel
theorem dX9_field_28 : decode cX9_field 28 = .ok (.ifCond .ne 15, 3) := by decide +kernel
theorem dX9_field_31 : decode cX9_field 31 = .ok (.aload_n 0, 1) := by decide +kernel
theorem dX9_field_32 : decode cX9_field 32 = .ok (.getfield 35, 3) := by decide +kernel
theorem dX9_field_35 : decode cX9_field 35 = .ok (.getfield 220, 3) := by decide +kernel
theorem dX9_field_38 : decode cX9_field 38 = .ok (.iload_n 1, 1) := by decide +kernel
theorem dX9_field_39 : decode cX9_field 39 = .ok (.iaload, 1) := by decide +kernel
theorem dX9_field_40 : decode cX9_field 40 = .ok (.goto 11, 3) := by decide +kernel
theorem dX9_field_43 : decode cX9_field 43 = .ok (.aload_n 0, 1) := by decide +kernel
theorem dX9_field_44 : decode cX9_field 44 = .ok (.getfield 35, 3) := by decide +kernel
theorem dX9_field_47 : decode cX9_field 47 = .ok (.iload_n 1, 1) := by decide +kernel
theorem dX9_field_48 : decode cX9_field 48 = .ok (.invokevirtual 223, 3) := by decide +kernel
theorem dX9_field_51 : decode cX9_field 51 = .ok (.ireturn, 1) := by decide +kernel
theorem dX9_ahead_0 : decode cX9_ahead 0 = .ok (.aload_n 0, 1) := by decide +kernel
theorem dX9_ahead_1 : decode cX9_ahead 1 = .ok (.iload_n 1, 1) := by decide +kernel
theorem dX9_ahead_2 : decode cX9_ahead 2 = .ok (.invokevirtual 180, 3) := by decide +kernel
theorem dX9_ahead_5 : decode cX9_ahead 5 = .ok (.ifCond .eq 20, 3) := by decide +kernel
theorem dX9_ahead_8 : decode cX9_ahead 8 = .ok (.iload_n 2, 1) := by decide +kernel
theorem dX9_ahead_9 : decode cX9_ahead 9 = .ok (.iconst 0, 1) := by decide +kernel
theorem dX9_ahead_10 : decode cX9_ahead 10 = .ok (.bipush 60, 2) := by decide +kernel
theorem dX9_ahead_12 : decode cX9_ahead 12 = .ok (.invokestatic 86, 3) := by decide +kernel
theorem dX9_ahead_15 : decode cX9_ahead 15 = .ok (.ifCond .eq 10, 3) := by decide +kernel
theorem dX9_ahead_18 : decode cX9_ahead 18 = .ok (.iload_n 3, 1) := by decide +kernel
theorem dX9_ahead_19 : decode cX9_ahead 19 = .ok (.invokestatic 217, 3) := by decide +kernel
theorem dX9_ahead_22 : decode cX9_ahead 22 = .ok (.ifCond .ne 6, 3) := by decide +kernel
theorem dX9_ahead_25 : decode cX9_ahead 25 = .ok (.ldc 90, 2) := by decide +kernel
theorem dX9_ahead_27 : decode cX9_ahead 27 = .ok (.ireturn, 1) := by decide +kernel
theorem dX9_ahead_28 : decode cX9_ahead 28 = .ok (.aload_n 0, 1) := by decide +kernel
theorem dX9_ahead_29 : decode cX9_ahead 29 = .ok (.getfield 57, 3) := by decide +kernel
theorem dX9_ahead_32 : decode cX9_ahead 32 = .ok (.iload_n 2, 1) := by decide +kernel
theorem dX9_ahead_33 : decode cX9_ahead 33 = .ok (.invokevirtual 226, 3) := by decide +kernel
theorem dX9_ahead_36 : decode cX9_ahead 36 = .ok (.astore 4, 2) := by decide +kernel
theorem dX9_ahead_38 : decode cX9_ahead 38 = .ok (.aload 4, 2) := by decide +kernel
theorem dX9_ahead_40 : decode cX9_ahead 40 = .ok (.iload_n 1, 1) := by decide +kernel
theorem dX9_ahead_41 : decode cX9_ahead 41 = .ok (.invokevirtual 183, 3) := by decide +kernel
theorem dX9_ahead_44 : decode cX9_ahead 44 = .ok (.ifCond .eq 6, 3) := by decide +kernel
theorem dX9_ahead_47 : decode cX9_ahead 47 = .ok (.ldc 230, 2) := by decide +kernel
theorem dX9_ahead_49 : decode cX9_ahead 49 = .ok (.ireturn, 1) := by decide +kernel
theorem dX9_ahead_50 : decode cX9_ahead 50 = .ok (.iload_n 3, 1) := by decide +kernel
theorem dX9_ahead_51 : decode cX9_ahead 51 = .ok (.ifCond .ne 13, 3) := by decide +kernel
theorem dX9_ahead_54 : decode cX9_ahead 54 = .ok (.aload 4, 2) := by decide +kernel
theorem dX9_ahead_56 : decode cX9_ahead 56 = .ok (.getfield 186, 3) := by decide +kernel
theorem dX9_ahead_59 : decode cX9_ahead 59 = .ok (.iload_n 1, 1) := by decide +kernel
theorem dX9_ahead_60 : decode cX9_ahead 60 = .ok (.iaload, 1) := by decide +kernel
theorem dX9_ahead_61 : decode cX9_ahead 61 = .ok (.goto 10, 3) := by decide +kernel
theorem dX9_ahead_64 : decode cX9_ahead 64 = .ok (.aload 4, 2) := by decide +kernel
theorem dX9_ahead_66 : decode cX9_ahead 66 = .ok (.getfield 205, 3) := by decide +kernel
theorem dX9_ahead_69 : decode cX9_ahead 69 = .ok (.iload_n 1, 1) := by decide +kernel
theorem dX9_ahead_70 : decode cX9_ahead 70 = .ok (.iaload, 1) := by decide +kernel
theorem dX9_ahead_71 : decode cX9_ahead 71 = .ok (.ireturn, 1) := by decide +kernel
theorem dX9_over_0 : decode cX9_over 0 = .ok (.aload_n 0, 1) := by decide +kernel
theorem dX9_over_1 : decode cX9_over 1 = .ok (.invokevirtual 165, 3) := by decide +kernel
theorem dX9_over_4 : decode cX9_over 4 = .ok (.ifCond .eq 6, 3) := by decide +kernel
theorem dX9_over_7 : decode cX9_over 7 = .ok (.ldc 161, 2) := by decide +kernel
theorem dX9_over_9 : decode cX9_over 9 = .ok (.ireturn, 1) := by decide +kernel
theorem dX9_over_10 : decode cX9_over 10 = .ok (.iload_n 1, 1) := by decide +kernel
theorem dX9_over_11 : decode cX9_over 11 = .ok (.invokestatic 214, 3) := by decide +kernel
theorem dX9_over_14 : decode cX9_over 14 = .ok (.ifCond .eq 13, 3) := by decide +kernel
theorem dX9_over_17 : decode cX9_over 17 = .ok (.iload_n 2, 1) := by decide +kernel
theorem dX9_over_18 : decode cX9_over 18 = .ok (.iconst 0, 1) := by decide +kernel
theorem dX9_over_19 : decode cX9_over 19 = .ok (.bipush 60, 2) := by decide +kernel
theorem dX9_over_21 : decode cX9_over 21 = .ok (.invokestatic 86, 3) := by decide +kernel
theorem dX9_over_24 : decode cX9_over 24 = .ok (.ifCond .ne 6, 3) := by decide +kernel
theorem dX9_over_27 : decode cX9_over 27 = .ok (.ldc 90, 2) := by decide +kernel
theorem dX9_over_29 : decode cX9_over 29 = .ok (.ireturn, 1) := by decide +kernel
theorem dX9_over_30 : decode cX9_over 30 = .ok (.aload_n 0, 1) := by decide +kernel
theorem dX9_over_31 : decode cX9_over 31 = .ok (.getfield 57, 3) := by decide +kernel
theorem dX9_over_34 : decode cX9_over 34 = .ok (.iload_n 2, 1) := by decide +kernel
theorem dX9_over_35 : decode cX9_over 35 = .ok (.invokevirtual 226, 3) := by decide +kernel
theorem dX9_over_38 : decode cX9_over 38 = .ok (.iload_n 1, 1) := by decide +kernel
theorem dX9_over_39 : decode cX9_over 39 = .ok (.invokevirtual 223, 3) := by decide +kernel
theorem dX9_over_42 : decode cX9_over 42 = .ok (.ireturn, 1) := by decide +kernel
theorem dX9_falls_0 : decode cX9_falls 0 = .ok (.aload_n 0, 1) := by decide +kernel
theorem dX9_falls_1 : decode cX9_falls 1 = .ok (.invokevirtual 165, 3) := by decide +kernel
theorem dX9_falls_4 : decode cX9_falls 4 = .ok (.ifCond .eq 6, 3) := by decide +kernel
theorem dX9_falls_7 : decode cX9_falls 7 = .ok (.ldc 161, 2) := by decide +kernel
theorem dX9_falls_9 : decode cX9_falls 9 = .ok (.ireturn, 1) := by decide +kernel
theorem dX9_falls_10 : decode cX9_falls 10 = .ok (.iload_n 1, 1) := by decide +kernel
theorem dX9_falls_11 : decode cX9_falls 11 = .ok (.invokestatic 214, 3) := by decide +kernel
theorem dX9_falls_14 : decode cX9_falls 14 = .ok (.ifCond .eq 13, 3) := by decide +kernel
theorem dX9_falls_17 : decode cX9_falls 17 = .ok (.iload_n 2, 1) := by decide +kernel
theorem dX9_falls_18 : decode cX9_falls 18 = .ok (.iconst 0, 1) := by decide +kernel
theorem dX9_falls_19 : decode cX9_falls 19 = .ok (.bipush 60, 2) := by decide +kernel
theorem dX9_falls_21 : decode cX9_falls 21 = .ok (.invokestatic 86, 3) := by decide +kernel
theorem dX9_falls_24 : decode cX9_falls 24 = .ok (.ifCond .ne 6, 3) := by decide +kernel
theorem dX9_falls_27 : decode cX9_falls 27 = .ok (.ldc 90, 2) := by decide +kernel
theorem dX9_falls_29 : decode cX9_falls 29 = .ok (.ireturn, 1) := by decide +kernel
theorem dX9_falls_30 : decode cX9_falls 30 = .ok (.aload_n 0, 1) := by decide +kernel
theorem dX9_falls_31 : decode cX9_falls 31 = .ok (.getfield 57, 3) := by decide +kernel
theorem dX9_falls_34 : decode cX9_falls 34 = .ok (.iload_n 2, 1) := by decide +kernel
theorem dX9_falls_35 : decode cX9_falls 35 = .ok (.invokevirtual 226, 3) := by decide +kernel
theorem dX9_falls_38 : decode cX9_falls 38 = .ok (.getfield 220, 3) := by decide +kernel
theorem dX9_falls_41 : decode cX9_falls 41 = .ok (.iload_n 1, 1) := by decide +kernel
theorem dX9_falls_42 : decode cX9_falls 42 = .ok (.iaload, 1) := by decide +kernel
theorem dX9_falls_43 : decode cX9_falls 43 = .ok (.ireturn, 1) := by decide +kernel
theorem dX9_dry_0 : decode cX9_dry 0 = .ok (.aload_n 0, 1) := by decide +kernel
theorem dX9_dry_1 : decode cX9_dry 1 = .ok (.invokevirtual 165, 3) := by decide +kernel
theorem dX9_dry_4 : decode cX9_dry 4 = .ok (.ifCond .eq 6, 3) := by decide +kernel
theorem dX9_dry_7 : decode cX9_dry 7 = .ok (.ldc 161, 2) := by decide +kernel
theorem dX9_dry_9 : decode cX9_dry 9 = .ok (.ireturn, 1) := by decide +kernel
theorem dX9_dry_10 : decode cX9_dry 10 = .ok (.iload_n 1, 1) := by decide +kernel
theorem dX9_dry_11 : decode cX9_dry 11 = .ok (.iconst 0, 1) := by decide +kernel
theorem dX9_dry_12 : decode cX9_dry 12 = .ok (.bipush 60, 2) := by decide +kernel
theorem dX9_dry_14 : decode cX9_dry 14 = .ok (.invokestatic 86, 3) := by decide +kernel
theorem dX9_dry_17 : decode cX9_dry 17 = .ok (.ifCond .ne 6, 3) := by decide +kernel
theorem dX9_dry_20 : decode cX9_dry 20 = .ok (.ldc 90, 2) := by decide +kernel
theorem dX9_dry_22 : decode cX9_dry 22 = .ok (.ireturn, 1) := by decide +kernel
theorem dX9_dry_23 : decode cX9_dry 23 = .ok (.aload_n 0, 1) := by decide +kernel
theorem dX9_dry_24 : decode cX9_dry 24 = .ok (.getfield 57, 3) := by decide +kernel
theorem dX9_dry_27 : decode cX9_dry 27 = .ok (.iload_n 1, 1) := by decide +kernel
theorem dX9_dry_28 : decode cX9_dry 28 = .ok (.invokevirtual 226, 3) := by decide +kernel
theorem dX9_dry_31 : decode cX9_dry 31 = .ok (.invokevirtual 231, 3) := by decide +kernel
theorem dX9_dry_34 : decode cX9_dry 34 = .ok (.ireturn, 1) := by decide +kernel
theorem dX9_first_0 : decode cX9_first 0 = .ok (.aload_n 0, 1) := by decide +kernel
theorem dX9_first_1 : decode cX9_first 1 = .ok (.invokevirtual 165, 3) := by decide +kernel
theorem dX9_first_4 : decode cX9_first 4 = .ok (.ifCond .eq 6, 3) := by decide +kernel
theorem dX9_first_7 : decode cX9_first 7 = .ok (.ldc 161, 2) := by decide +kernel
theorem dX9_first_9 : decode cX9_first 9 = .ok (.ireturn, 1) := by decide +kernel
theorem dX9_first_10 : decode cX9_first 10 = .ok (.iload_n 1, 1) := by decide +kernel
theorem dX9_first_11 : decode cX9_first 11 = .ok (.invokestatic 214, 3) := by decide +kernel
theorem dX9_first_14 : decode cX9_first 14 = .ok (.ifCond .eq 14, 3) := by decide +kernel
theorem dX9_first_17 : decode cX9_first 17 = .ok (.aload_n 0, 1) := by decide +kernel
theorem dX9_first_18 : decode cX9_first 18 = .ok (.getfield 57, 3) := by decide +kernel
theorem dX9_first_21 : decode cX9_first 21 = .ok (.iload_n 1, 1) := by decide +kernel
theorem dX9_first_22 : decode cX9_first 22 = .ok (.invokevirtual 234, 3) := by decide +kernel
theorem dX9_first_25 : decode cX9_first 25 = .ok (.goto 5, 3) := by decide +kernel
theorem dX9_first_28 : decode cX9_first 28 = .ok (.ldc 90, 2) := by decide +kernel
theorem dX9_first_30 : decode cX9_first 30 = .ok (.ireturn, 1) := by decide +kernel
theorem dX9_gone_0 : decode cX9_gone 0 = .ok (.aload_n 0, 1) := by decide +kernel
theorem dX9_gone_1 : decode cX9_gone 1 = .ok (.iload_n 1, 1) := by decide +kernel
theorem dX9_gone_2 : decode cX9_gone 2 = .ok (.invokevirtual 180, 3) := by decide +kernel
theorem dX9_gone_5 : decode cX9_gone 5 = .ok (.ifCond .eq 14, 3) := by decide +kernel
theorem dX9_gone_8 : decode cX9_gone 8 = .ok (.aload_n 0, 1) := by decide +kernel
theorem dX9_gone_9 : decode cX9_gone 9 = .ok (.getfield 57, 3) := by decide +kernel
theorem dX9_gone_12 : decode cX9_gone 12 = .ok (.iload_n 1, 1) := by decide +kernel
theorem dX9_gone_13 : decode cX9_gone 13 = .ok (.invokevirtual 237, 3) := by decide +kernel
theorem dX9_gone_16 : decode cX9_gone 16 = .ok (.goto 5, 3) := by decide +kernel
theorem dX9_gone_19 : decode cX9_gone 19 = .ok (.ldc 90, 2) := by decide +kernel
theorem dX9_gone_21 : decode cX9_gone 21 = .ok (.ireturn, 1) := by decide +kernel
theorem dX9_storm_0 : decode cX9_storm 0 = .ok (.aload_n 0, 1) := by decide +kernel
theorem dX9_storm_1 : decode cX9_storm 1 = .ok (.iload_n 1, 1) := by decide +kernel
theorem dX9_storm_2 : decode cX9_storm 2 = .ok (.iload_n 2, 1) := by decide +kernel
theorem dX9_storm_3 : decode cX9_storm 3 = .ok (.invokevirtual 240, 3) := by decide +kernel
theorem dX9_storm_6 : decode cX9_storm 6 = .ok (.ifCond .eq 15, 3) := by decide +kernel
theorem dX9_storm_9 : decode cX9_storm 9 = .ok (.aload_n 0, 1) := by decide +kernel
theorem dX9_storm_10 : decode cX9_storm 10 = .ok (.getfield 57, 3) := by decide +kernel
theorem dX9_storm_13 : decode cX9_storm 13 = .ok (.iload_n 1, 1) := by decide +kernel
theorem dX9_storm_14 : decode cX9_storm 14 = .ok (.iload_n 2, 1) := by decide +kernel
theorem dX9_storm_15 : decode cX9_storm 15 = .ok (.invokevirtual 244, 3) := by decide +kernel
theorem dX9_storm_18 : decode cX9_storm 18 = .ok (.goto 5, 3) := by decide +kernel
theorem dX9_storm_21 : decode cX9_storm 21 = .ok (.ldc 90, 2) := by decide +kernel
theorem dX9_storm_23 : decode cX9_storm 23 = .ok (.ireturn, 1) := by decide +kernel
theorem dX9_blue_0 : decode cX9_blue 0 = .ok (.aload_n 0, 1) := by decide +kernel
theorem dX9_blue_1 : decode cX9_blue 1 = .ok (.invokevirtual 165, 3) := by decide +kernel
theorem dX9_blue_4 : decode cX9_blue 4 = .ok (.ifCond .eq 6, 3) := by decide +kernel
theorem dX9_blue_7 : decode cX9_blue 7 = .ok (.ldc 161, 2) := by decide +kernel
theorem dX9_blue_9 : decode cX9_blue 9 = .ok (.ireturn, 1) := by decide +kernel
theorem dX9_blue_10 : decode cX9_blue 10 = .ok (.iload_n 1, 1) := by decide +kernel
theorem dX9_blue_11 : decode cX9_blue 11 = .ok (.invokestatic 217, 3) := by decide +kernel
theorem dX9_blue_14 : decode cX9_blue 14 = .ok (.ifCond .ne 6, 3) := by decide +kernel
theorem dX9_blue_17 : decode cX9_blue 17 = .ok (.ldc 90, 2) := by decide +kernel
theorem dX9_blue_19 : decode cX9_blue 19 = .ok (.ireturn, 1) := by decide +kernel
theorem dX9_blue_20 : decode cX9_blue 20 = .ok (.aload_n 0, 1) := by decide +kernel
theorem dX9_blue_21 : decode cX9_blue 21 = .ok (.getfield 35, 3) := by decide +kernel
theorem dX9_blue_24 : decode cX9_blue 24 = .ok (.invokevirtual 248, 3) := by decide +kernel
theorem dX9_blue_27 : decode cX9_blue 27 = .ok (.istore_n 2, 1) := by decide +kernel
theorem dX9_blue_28 : decode cX9_blue 28 = .ok (.iconst 0, 1) := by decide +kernel
theorem dX9_blue_29 : decode cX9_blue 29 = .ok (.istore_n 3, 1) := by decide +kernel
theorem dX9_blue_30 : decode cX9_blue 30 = .ok (.ldc 230, 2) := by decide +kernel
theorem dX9_blue_32 : decode cX9_blue 32 = .ok (.istore 4, 2) := by decide +kernel
theorem dX9_blue_34 : decode cX9_blue 34 = .ok (.iconst 0, 1) := by decide +kernel
theorem dX9_blue_35 : decode cX9_blue 35 = .ok (.istore 5, 2) := by decide +kernel
theorem dX9_blue_37 : decode cX9_blue 37 = .ok (.iload 5, 2) := by decide +kernel
theorem dX9_blue_39 : decode cX9_blue 39 = .ok (.bipush 16, 2) := by decide +kernel
theorem dX9_blue_41 : decode cX9_blue 41 = .ok (.if_icmp .ge 30, 3) := by decide +kernel
theorem dX9_blue_44 : decode cX9_blue 44 = .ok (.iload 5, 2) := by decide +kernel
theorem dX9_blue_46 : decode cX9_blue 46 = .ok (.iload_n 2, 1) := by decide +kernel
theorem dX9_blue_47 : decode cX9_blue 47 = .ok (.invokestatic 251, 3) := by decide +kernel
theorem dX9_blue_50 : decode cX9_blue 50 = .ok (.istore 6, 2) := by decide +kernel
theorem dX9_blue_52 : decode cX9_blue 52 = .ok (.iload 6, 2) := by decide +kernel
theorem dX9_blue_54 : decode cX9_blue 54 = .ok (.iload_n 3, 1) := by decide +kernel
theorem dX9_blue_55 : decode cX9_blue 55 = .ok (.if_icmp .le 10, 3) := by decide +kernel
theorem dX9_blue_58 : decode cX9_blue 58 = .ok (.iload 6, 2) := by decide +kernel
theorem dX9_blue_60 : decode cX9_blue 60 = .ok (.istore_n 3, 1) := by decide +kernel
theorem dX9_blue_61 : decode cX9_blue 61 = .ok (.iload 5, 2) := by decide +kernel
theorem dX9_blue_63 : decode cX9_blue 63 = .ok (.istore 4, 2) := by decide +kernel
theorem dX9_blue_65 : decode cX9_blue 65 = .ok (.iinc 5 1, 3) := by decide +kernel
theorem dX9_blue_68 : decode cX9_blue 68 = .ok (.goto (-31), 3) := by decide +kernel
theorem dX9_blue_71 : decode cX9_blue 71 = .ok (.iload_n 1, 1) := by decide +kernel
theorem dX9_blue_72 : decode cX9_blue 72 = .ok (.ifCond .ne 7, 3) := by decide +kernel
theorem dX9_blue_75 : decode cX9_blue 75 = .ok (.iload_n 3, 1) := by decide +kernel
theorem dX9_blue_76 : decode cX9_blue 76 = .ok (.goto 5, 3) := by decide +kernel
theorem dX9_blue_79 : decode cX9_blue 79 = .ok (.iload 4, 2) := by decide +kernel
theorem dX9_blue_81 : decode cX9_blue 81 = .ok (.ireturn, 1) := by decide +kernel
theorem dX9_leastTow_0 : decode cX9_leastTow 0 = .ok (.aload_n 0, 1) := by decide +kernel
theorem dX9_leastTow_1 : decode cX9_leastTow 1 = .ok (.invokevirtual 165, 3) := by decide +kernel
theorem dX9_leastTow_4 : decode cX9_leastTow 4 = .ok (.ifCond .eq 6, 3) := by decide +kernel
theorem dX9_leastTow_7 : decode cX9_leastTow 7 = .ok (.ldc 161, 2) := by decide +kernel
theorem dX9_leastTow_9 : decode cX9_leastTow 9 = .ok (.ireturn, 1) := by decide +kernel
theorem dX9_leastTow_10 : decode cX9_leastTow 10 = .ok (.iload_n 2, 1) := by decide +kernel
theorem dX9_leastTow_11 : decode cX9_leastTow 11 = .ok (.iconst 1, 1) := by decide +kernel
theorem dX9_leastTow_12 : decode cX9_leastTow 12 = .ok (.bipush 24, 2) := by decide +kernel
theorem dX9_leastTow_14 : decode cX9_leastTow 14 = .ok (.invokestatic 86, 3) := by decide +kernel
theorem dX9_leastTow_17 : decode cX9_leastTow 17 = .ok (.ifCond .eq 30, 3) := by decide +kernel
theorem dX9_leastTow_20 : decode cX9_leastTow 20 = .ok (.iload_n 1, 1) := by decide +kernel
theorem dX9_leastTow_21 : decode cX9_leastTow 21 = .ok (.iconst 0, 1) := by decide +kernel
theorem dX9_leastTow_22 : decode cX9_leastTow 22 = .ok (.ldc 254, 2) := by decide +kernel
theorem dX9_leastTow_24 : decode cX9_leastTow 24 = .ok (.invokestatic 86, 3) := by decide +kernel
theorem dX9_leastTow_27 : decode cX9_leastTow 27 = .ok (.ifCond .eq 20, 3) := by decide +kernel
theorem dX9_leastTow_30 : decode cX9_leastTow 30 = .ok (.iload_n 3, 1) := by decide +kernel
theorem dX9_leastTow_31 : decode cX9_leastTow 31 = .ok (.iconst (-1), 1) := by decide +kernel
theorem dX9_leastTow_32 : decode cX9_leastTow 32 = .ok (.aload_n 0, 1) := by decide +kernel
theorem dX9_leastTow_33 : decode cX9_leastTow 33 = .ok (.getfield 35, 3) := by decide +kernel
theorem dX9_leastTow_36 : decode cX9_leastTow 36 = .ok (.getfield 155, 3) := by decide +kernel
theorem dX9_leastTow_39 : decode cX9_leastTow 39 = .ok (.iconst 1, 1) := by decide +kernel
theorem dX9_leastTow_40 : decode cX9_leastTow 40 = .ok (.isub, 1) := by decide +kernel
theorem dX9_leastTow_41 : decode cX9_leastTow 41 = .ok (.invokestatic 86, 3) := by decide +kernel
theorem dX9_leastTow_44 : decode cX9_leastTow 44 = .ok (.ifCond .ne 6, 3) := by decide +kernel
theorem dX9_leastTow_47 : decode cX9_leastTow 47 = .ok (.ldc 90, 2) := by decide +kernel
theorem dX9_leastTow_49 : decode cX9_leastTow 49 = .ok (.ireturn, 1) := by decide +kernel
theorem dX9_leastTow_50 : decode cX9_leastTow 50 = .ok (.aload_n 0, 1) := by decide +kernel
theorem dX9_leastTow_51 : decode cX9_leastTow 51 = .ok (.getfield 64, 3) := by decide +kernel
theorem dX9_leastTow_54 : decode cX9_leastTow 54 = .ok (.iload_n 1, 1) := by decide +kernel
theorem dX9_leastTow_55 : decode cX9_leastTow 55 = .ok (.iload_n 2, 1) := by decide +kernel
theorem dX9_leastTow_56 : decode cX9_leastTow 56 = .ok (.invokevirtual 255, 3) := by decide +kernel
theorem dX9_leastTow_59 : decode cX9_leastTow 59 = .ok (.ifCond .ne 6, 3) := by decide +kernel
theorem dX9_leastTow_62 : decode cX9_leastTow 62 = .ok (.ldc 230, 2) := by decide +kernel
theorem dX9_leastTow_64 : decode cX9_leastTow 64 = .ok (.ireturn, 1) := by decide +kernel
theorem dX9_leastTow_65 : decode cX9_leastTow 65 = .ok (.iload_n 3, 1) := by decide +kernel
theorem dX9_leastTow_66 : decode cX9_leastTow 66 = .ok (.ifCond .ge 13, 3) := by decide +kernel
theorem dX9_leastTow_69 : decode cX9_leastTow 69 = .ok (.aload_n 0, 1) := by decide +kernel
theorem dX9_leastTow_70 : decode cX9_leastTow 70 = .ok (.getfield 64, 3) := by decide +kernel
theorem dX9_leastTow_73 : decode cX9_leastTow 73 = .ok (.getfield 258, 3) := by decide +kernel
theorem dX9_leastTow_76 : decode cX9_leastTow 76 = .ok (.goto 12, 3) := by decide +kernel
theorem dX9_leastTow_79 : decode cX9_leastTow 79 = .ok (.aload_n 0, 1) := by decide +kernel
theorem dX9_leastTow_80 : decode cX9_leastTow 80 = .ok (.getfield 64, 3) := by decide +kernel
theorem dX9_leastTow_83 : decode cX9_leastTow 83 = .ok (.getfield 261, 3) := by decide +kernel
theorem dX9_leastTow_86 : decode cX9_leastTow 86 = .ok (.iload_n 3, 1) := by decide +kernel
theorem dX9_leastTow_87 : decode cX9_leastTow 87 = .ok (.iaload, 1) := by decide +kernel
theorem dX9_leastTow_88 : decode cX9_leastTow 88 = .ok (.ireturn, 1) := by decide +kernel
theorem dX9_harvest_0 : decode cX9_harvest 0 = .ok (.aload_n 0, 1) := by decide +kernel
theorem dX9_harvest_1 : decode cX9_harvest 1 = .ok (.invokevirtual 165, 3) := by decide +kernel
theorem dX9_harvest_4 : decode cX9_harvest 4 = .ok (.ifCond .eq 6, 3) := by decide +kernel
theorem dX9_harvest_7 : decode cX9_harvest 7 = .ok (.ldc 161, 2) := by decide +kernel
theorem dX9_harvest_9 : decode cX9_harvest 9 = .ok (.ireturn, 1) := by decide +kernel
theorem dX9_harvest_10 : decode cX9_harvest 10 = .ok (.iload_n 1, 1) := by decide +kernel
theorem dX9_harvest_11 : decode cX9_harvest 11 = .ok (.invokestatic 214, 3) := by decide +kernel
theorem dX9_harvest_14 : decode cX9_harvest 14 = .ok (.ifCond .eq 13, 3) := by decide +kernel
theorem dX9_harvest_17 : decode cX9_harvest 17 = .ok (.iload_n 2, 1) := by decide +kernel
theorem dX9_harvest_18 : decode cX9_harvest 18 = .ok (.iconst 1, 1) := by decide +kernel
theorem dX9_harvest_19 : decode cX9_harvest 19 = .ok (.bipush 9, 2) := by decide +kernel
theorem dX9_harvest_21 : decode cX9_harvest 21 = .ok (.invokestatic 86, 3) := by decide +kernel
theorem dX9_harvest_24 : decode cX9_harvest 24 = .ok (.ifCond .ne 6, 3) := by decide +kernel
theorem dX9_harvest_27 : decode cX9_harvest 27 = .ok (.ldc 90, 2) := by decide +kernel
theorem dX9_harvest_29 : decode cX9_harvest 29 = .ok (.ireturn, 1) := by decide +kernel
theorem dX9_harvest_30 : decode cX9_harvest 30 = .ok (.aload_n 0, 1) := by decide +kernel
theorem dX9_harvest_31 : decode cX9_harvest 31 = .ok (.getfield 57, 3) := by decide +kernel
theorem dX9_harvest_34 : decode cX9_harvest 34 = .ok (.iload_n 1, 1) := by decide +kernel
theorem dX9_harvest_35 : decode cX9_harvest 35 = .ok (.iload_n 2, 1) := by decide +kernel
theorem dX9_harvest_36 : decode cX9_harvest 36 = .ok (.invokevirtual 264, 3) := by decide +kernel
theorem dX9_harvest_39 : decode cX9_harvest 39 = .ok (.ireturn, 1) := by decide +kernel
theorem dX9_who_0 : decode cX9_who 0 = .ok (.aload_n 0, 1) := by decide +kernel
theorem dX9_who_1 : decode cX9_who 1 = .ok (.iload_n 1, 1) := by decide +kernel
theorem dX9_who_2 : decode cX9_who 2 = .ok (.iload_n 2, 1) := by decide +kernel
theorem dX9_who_3 : decode cX9_who 3 = .ok (.iload_n 3, 1) := by decide +kernel
theorem dX9_who_4 : decode cX9_who 4 = .ok (.iload 4, 2) := by decide +kernel
theorem dX9_who_6 : decode cX9_who 6 = .ok (.iload 5, 2) := by decide +kernel
theorem dX9_who_8 : decode cX9_who 8 = .ok (.invokevirtual 267, 3) := by decide +kernel
theorem dX9_who_11 : decode cX9_who 11 = .ok (.istore 6, 2) := by decide +kernel
theorem dX9_who_13 : decode cX9_who 13 = .ok (.iload 6, 2) := by decide +kernel
theorem dX9_who_15 : decode cX9_who 15 = .ok (.ifCond .eq 6, 3) := by decide +kernel
theorem dX9_who_18 : decode cX9_who 18 = .ok (.iload 6, 2) := by decide +kernel
theorem dX9_who_20 : decode cX9_who 20 = .ok (.ireturn, 1) := by decide +kernel
theorem dX9_who_21 : decode cX9_who 21 = .ok (.aload_n 0, 1) := by decide +kernel
theorem dX9_who_22 : decode cX9_who 22 = .ok (.aload_n 0, 1) := by decide +kernel
theorem dX9_who_23 : decode cX9_who 23 = .ok (.getfield 57, 3) := by decide +kernel
theorem dX9_who_26 : decode cX9_who 26 = .ok (.iload_n 1, 1) := by decide +kernel
theorem dX9_who_27 : decode cX9_who 27 = .ok (.iload_n 2, 1) := by decide +kernel
theorem dX9_who_28 : decode cX9_who 28 = .ok (.iload_n 3, 1) := by decide +kernel
theorem dX9_who_29 : decode cX9_who 29 = .ok (.iload 4, 2) := by decide +kernel
theorem dX9_who_31 : decode cX9_who 31 = .ok (.iload 5, 2) := by decide +kernel
theorem dX9_who_33 : decode cX9_who 33 = .ok (.invokevirtual 271, 3) := by decide +kernel
theorem dX9_who_36 : decode cX9_who 36 = .ok (.invokevirtual 99, 3) := by decide +kernel
theorem dX9_who_39 : decode cX9_who 39 = .ok (.ireturn, 1) := by decide +kernel
theorem dX9_places_0 : decode cX9_places 0 = .ok (.aload_n 0, 1) := by decide +kernel
theorem dX9_places_1 : decode cX9_places 1 = .ok (.iload_n 1, 1) := by decide +kernel
theorem dX9_places_2 : decode cX9_places 2 = .ok (.iload_n 2, 1) := by decide +kernel
theorem dX9_places_3 : decode cX9_places 3 = .ok (.iload_n 3, 1) := by decide +kernel
theorem dX9_places_4 : decode cX9_places 4 = .ok (.iload 4, 2) := by decide +kernel
theorem dX9_places_6 : decode cX9_places 6 = .ok (.iload 5, 2) := by decide +kernel
theorem dX9_places_8 : decode cX9_places 8 = .ok (.invokevirtual 267, 3) := by decide +kernel
theorem dX9_places_11 : decode cX9_places 11 = .ok (.istore 6, 2) := by decide +kernel
theorem dX9_places_13 : decode cX9_places 13 = .ok (.iload 6, 2) := by decide +kernel
theorem dX9_places_15 : decode cX9_places 15 = .ok (.ifCond .eq 6, 3) := by decide +kernel
theorem dX9_places_18 : decode cX9_places 18 = .ok (.iload 6, 2) := by decide +kernel
theorem dX9_places_20 : decode cX9_places 20 = .ok (.ireturn, 1) := by decide +kernel
theorem dX9_places_21 : decode cX9_places 21 = .ok (.aload_n 0, 1) := by decide +kernel
theorem dX9_places_22 : decode cX9_places 22 = .ok (.getfield 35, 3) := by decide +kernel
theorem dX9_places_25 : decode cX9_places 25 = .ok (.iload_n 1, 1) := by decide +kernel
theorem dX9_places_26 : decode cX9_places 26 = .ok (.invokevirtual 183, 3) := by decide +kernel
theorem dX9_places_29 : decode cX9_places 29 = .ok (.ifCond .eq 6, 3) := by decide +kernel
theorem dX9_places_32 : decode cX9_places 32 = .ok (.ldc 161, 2) := by decide +kernel
theorem dX9_places_34 : decode cX9_places 34 = .ok (.ireturn, 1) := by decide +kernel
theorem dX9_places_35 : decode cX9_places 35 = .ok (.aload_n 0, 1) := by decide +kernel
theorem dX9_places_36 : decode cX9_places 36 = .ok (.aload_n 0, 1) := by decide +kernel
theorem dX9_places_37 : decode cX9_places 37 = .ok (.getfield 57, 3) := by decide +kernel
theorem dX9_places_40 : decode cX9_places 40 = .ok (.iload_n 1, 1) := by decide +kernel
theorem dX9_places_41 : decode cX9_places 41 = .ok (.iload_n 2, 1) := by decide +kernel
theorem dX9_places_42 : decode cX9_places 42 = .ok (.iload_n 3, 1) := by decide +kernel
theorem dX9_places_43 : decode cX9_places 43 = .ok (.iload 4, 2) := by decide +kernel
theorem dX9_places_45 : decode cX9_places 45 = .ok (.iload 5, 2) := by decide +kernel
theorem dX9_places_47 : decode cX9_places 47 = .ok (.invokevirtual 274, 3) := by decide +kernel
theorem dX9_places_50 : decode cX9_places 50 = .ok (.invokevirtual 99, 3) := by decide +kernel
theorem dX9_places_53 : decode cX9_places 53 = .ok (.ireturn, 1) := by decide +kernel
theorem dX9_from_0 : decode cX9_from 0 = .ok (.aload_n 0, 1) := by decide +kernel
theorem dX9_from_1 : decode cX9_from 1 = .ok (.iload_n 1, 1) := by decide +kernel
theorem dX9_from_2 : decode cX9_from 2 = .ok (.invokevirtual 180, 3) := by decide +kernel
theorem dX9_from_5 : decode cX9_from 5 = .ok (.ifCond .eq 13, 3) := by decide +kernel
theorem dX9_from_8 : decode cX9_from 8 = .ok (.iload_n 2, 1) := by decide +kernel
theorem dX9_from_9 : decode cX9_from 9 = .ok (.iconst 0, 1) := by decide +kernel
theorem dX9_from_10 : decode cX9_from 10 = .ok (.bipush 60, 2) := by decide +kernel
theorem dX9_from_12 : decode cX9_from 12 = .ok (.invokestatic 86, 3) := by decide +kernel
theorem dX9_from_15 : decode cX9_from 15 = .ok (.ifCond .ne 6, 3) := by decide +kernel
theorem dX9_from_18 : decode cX9_from 18 = .ok (.ldc 90, 2) := by decide +kernel
theorem dX9_from_20 : decode cX9_from 20 = .ok (.ireturn, 1) := by decide +kernel
theorem dX9_from_21 : decode cX9_from 21 = .ok (.aload_n 0, 1) := by decide +kernel
theorem dX9_from_22 : decode cX9_from 22 = .ok (.getfield 35, 3) := by decide +kernel
theorem dX9_from_25 : decode cX9_from 25 = .ok (.iload_n 1, 1) := by decide +kernel
theorem dX9_from_26 : decode cX9_from 26 = .ok (.invokevirtual 183, 3) := by decide +kernel
theorem dX9_from_29 : decode cX9_from 29 = .ok (.ifCond .eq 6, 3) := by decide +kernel
theorem dX9_from_32 : decode cX9_from 32 = .ok (.ldc 161, 2) := by decide +kernel
theorem dX9_from_34 : decode cX9_from 34 = .ok (.ireturn, 1) := by decide +kernel
theorem dX9_from_35 : decode cX9_from 35 = .ok (.aload_n 0, 1) := by decide +kernel
theorem dX9_from_36 : decode cX9_from 36 = .ok (.getfield 35, 3) := by decide +kernel
theorem dX9_from_39 : decode cX9_from 39 = .ok (.getfield 186, 3) := by decide +kernel
theorem dX9_from_42 : decode cX9_from 42 = .ok (.iload_n 1, 1) := by decide +kernel
theorem dX9_from_43 : decode cX9_from 43 = .ok (.iaload, 1) := by decide +kernel
theorem dX9_from_44 : decode cX9_from 44 = .ok (.iload_n 2, 1) := by decide +kernel
theorem dX9_from_45 : decode cX9_from 45 = .ok (.aload_n 0, 1) := by decide +kernel
theorem dX9_from_46 : decode cX9_from 46 = .ok (.getfield 35, 3) := by decide +kernel
theorem dX9_from_49 : decode cX9_from 49 = .ok (.iload_n 1, 1) := by decide +kernel
theorem dX9_from_50 : decode cX9_from 50 = .ok (.invokevirtual 277, 3) := by decide +kernel
theorem dX9_from_53 : decode cX9_from 53 = .ok (.imul, 1) := by decide +kernel
theorem dX9_from_54 : decode cX9_from 54 = .ok (.isub, 1) := by decide +kernel
theorem dX9_from_55 : decode cX9_from 55 = .ok (.invokestatic 189, 3) := by decide +kernel
theorem dX9_from_58 : decode cX9_from 58 = .ok (.ireturn, 1) := by decide +kernel
theorem dX9_alike_0 : decode cX9_alike 0 = .ok (.aload_n 0, 1) := by decide +kernel
theorem dX9_alike_1 : decode cX9_alike 1 = .ok (.invokevirtual 165, 3) := by decide +kernel
theorem dX9_alike_4 : decode cX9_alike 4 = .ok (.ifCond .eq 6, 3) := by decide +kernel
theorem dX9_alike_7 : decode cX9_alike 7 = .ok (.ldc 161, 2) := by decide +kernel
theorem dX9_alike_9 : decode cX9_alike 9 = .ok (.ireturn, 1) := by decide +kernel
theorem dX9_alike_10 : decode cX9_alike 10 = .ok (.iload_n 1, 1) := by decide +kernel
theorem dX9_alike_11 : decode cX9_alike 11 = .ok (.invokestatic 217, 3) := by decide +kernel
theorem dX9_alike_14 : decode cX9_alike 14 = .ok (.ifCond .ne 6, 3) := by decide +kernel
theorem dX9_alike_17 : decode cX9_alike 17 = .ok (.ldc 90, 2) := by decide +kernel
theorem dX9_alike_19 : decode cX9_alike 19 = .ok (.ireturn, 1) := by decide +kernel
theorem dX9_alike_20 : decode cX9_alike 20 = .ok (.iload_n 1, 1) := by decide +kernel
theorem dX9_alike_21 : decode cX9_alike 21 = .ok (.ifCond .ne 13, 3) := by decide +kernel
theorem dX9_alike_24 : decode cX9_alike 24 = .ok (.aload_n 0, 1) := by decide +kernel
theorem dX9_alike_25 : decode cX9_alike 25 = .ok (.getfield 35, 3) := by decide +kernel
theorem dX9_alike_28 : decode cX9_alike 28 = .ok (.invokevirtual 280, 3) := by decide +kernel
theorem dX9_alike_31 : decode cX9_alike 31 = .ok (.goto 10, 3) := by decide +kernel
theorem dX9_alike_34 : decode cX9_alike 34 = .ok (.aload_n 0, 1) := by decide +kernel
theorem dX9_alike_35 : decode cX9_alike 35 = .ok (.getfield 35, 3) := by decide +kernel
theorem dX9_alike_38 : decode cX9_alike 38 = .ok (.invokevirtual 283, 3) := by decide +kernel
theorem dX9_alike_41 : decode cX9_alike 41 = .ok (.ireturn, 1) := by decide +kernel
theorem dX9_likeness_0 : decode cX9_likeness 0 = .ok (.aload_n 0, 1) := by decide +kernel
theorem dX9_likeness_1 : decode cX9_likeness 1 = .ok (.iload_n 1, 1) := by decide +kernel
theorem dX9_likeness_2 : decode cX9_likeness 2 = .ok (.iload_n 2, 1) := by decide +kernel
theorem dX9_likeness_3 : decode cX9_likeness 3 = .ok (.invokevirtual 240, 3) := by decide +kernel
theorem dX9_likeness_6 : decode cX9_likeness 6 = .ok (.ifCond .ne 6, 3) := by decide +kernel
theorem dX9_likeness_9 : decode cX9_likeness 9 = .ok (.ldc 90, 2) := by decide +kernel
theorem dX9_likeness_11 : decode cX9_likeness 11 = .ok (.ireturn, 1) := by decide +kernel
theorem dX9_likeness_12 : decode cX9_likeness 12 = .ok (.aload_n 0, 1) := by decide +kernel
theorem dX9_likeness_13 : decode cX9_likeness 13 = .ok (.getfield 35, 3) := by decide +kernel
theorem dX9_likeness_16 : decode cX9_likeness 16 = .ok (.getfield 286, 3) := by decide +kernel
theorem dX9_likeness_19 : decode cX9_likeness 19 = .ok (.iload_n 1, 1) := by decide +kernel
theorem dX9_likeness_20 : decode cX9_likeness 20 = .ok (.iaload, 1) := by decide +kernel
theorem dX9_likeness_21 : decode cX9_likeness 21 = .ok (.aload_n 0, 1) := by decide +kernel
theorem dX9_likeness_22 : decode cX9_likeness 22 = .ok (.getfield 35, 3) := by decide +kernel
theorem dX9_likeness_25 : decode cX9_likeness 25 = .ok (.getfield 286, 3) := by decide +kernel
theorem dX9_likeness_28 : decode cX9_likeness 28 = .ok (.iload_n 2, 1) := by decide +kernel
theorem dX9_likeness_29 : decode cX9_likeness 29 = .ok (.iaload, 1) := by decide +kernel
theorem dX9_likeness_30 : decode cX9_likeness 30 = .ok (.if_icmp .ne 8, 3) := by decide +kernel
theorem dX9_likeness_33 : decode cX9_likeness 33 = .ok (.bipush 100, 2) := by decide +kernel
theorem dX9_likeness_35 : decode cX9_likeness 35 = .ok (.goto 5, 3) := by decide +kernel
theorem dX9_likeness_38 : decode cX9_likeness 38 = .ok (.bipush 80, 2) := by decide +kernel
theorem dX9_likeness_40 : decode cX9_likeness 40 = .ok (.istore_n 3, 1) := by decide +kernel
theorem dX9_likeness_41 : decode cX9_likeness 41 = .ok (.iload_n 3, 1) := by decide +kernel
theorem dX9_likeness_42 : decode cX9_likeness 42 = .ok (.iconst 5, 1) := by decide +kernel
theorem dX9_likeness_43 : decode cX9_likeness 43 = .ok (.aload_n 0, 1) := by decide +kernel
theorem dX9_likeness_44 : decode cX9_likeness 44 = .ok (.getfield 35, 3) := by decide +kernel
theorem dX9_likeness_47 : decode cX9_likeness 47 = .ok (.getfield 205, 3) := by decide +kernel
theorem dX9_likeness_50 : decode cX9_likeness 50 = .ok (.iload_n 1, 1) := by decide +kernel
theorem dX9_likeness_51 : decode cX9_likeness 51 = .ok (.iaload, 1) := by decide +kernel
theorem dX9_likeness_52 : decode cX9_likeness 52 = .ok (.aload_n 0, 1) := by decide +kernel
theorem dX9_likeness_53 : decode cX9_likeness 53 = .ok (.getfield 35, 3) := by decide +kernel
theorem dX9_likeness_56 : decode cX9_likeness 56 = .ok (.getfield 205, 3) := by decide +kernel
theorem dX9_likeness_59 : decode cX9_likeness 59 = .ok (.iload_n 2, 1) := by decide +kernel
theorem dX9_likeness_60 : decode cX9_likeness 60 = .ok (.iaload, 1) := by decide +kernel
theorem dX9_likeness_61 : decode cX9_likeness 61 = .ok (.isub, 1) := by decide +kernel
theorem dX9_likeness_62 : decode cX9_likeness 62 = .ok (.invokestatic 289, 3) := by decide +kernel
theorem dX9_likeness_65 : decode cX9_likeness 65 = .ok (.imul, 1) := by decide +kernel
theorem dX9_likeness_66 : decode cX9_likeness 66 = .ok (.isub, 1) := by decide +kernel
theorem dX9_likeness_67 : decode cX9_likeness 67 = .ok (.istore_n 3, 1) := by decide +kernel
theorem dX9_likeness_68 : decode cX9_likeness 68 = .ok (.iload_n 3, 1) := by decide +kernel
theorem dX9_likeness_69 : decode cX9_likeness 69 = .ok (.aload_n 0, 1) := by decide +kernel
theorem dX9_likeness_70 : decode cX9_likeness 70 = .ok (.getfield 35, 3) := by decide +kernel
theorem dX9_likeness_73 : decode cX9_likeness 73 = .ok (.getfield 192, 3) := by decide +kernel
theorem dX9_likeness_76 : decode cX9_likeness 76 = .ok (.iload_n 1, 1) := by decide +kernel
theorem dX9_likeness_77 : decode cX9_likeness 77 = .ok (.iaload, 1) := by decide +kernel
theorem dX9_likeness_78 : decode cX9_likeness 78 = .ok (.aload_n 0, 1) := by decide +kernel
theorem dX9_likeness_79 : decode cX9_likeness 79 = .ok (.getfield 35, 3) := by decide +kernel
theorem dX9_likeness_82 : decode cX9_likeness 82 = .ok (.getfield 192, 3) := by decide +kernel
theorem dX9_likeness_85 : decode cX9_likeness 85 = .ok (.iload_n 2, 1) := by decide +kernel
theorem dX9_likeness_86 : decode cX9_likeness 86 = .ok (.iaload, 1) := by decide +kernel
theorem dX9_likeness_87 : decode cX9_likeness 87 = .ok (.isub, 1) := by decide +kernel
theorem dX9_likeness_88 : decode cX9_likeness 88 = .ok (.invokestatic 289, 3) := by decide +kernel
theorem dX9_likeness_91 : decode cX9_likeness 91 = .ok (.isub, 1) := by decide +kernel
theorem dX9_likeness_92 : decode cX9_likeness 92 = .ok (.istore_n 3, 1) := by decide +kernel
theorem dX9_likeness_93 : decode cX9_likeness 93 = .ok (.iload_n 3, 1) := by decide +kernel
theorem dX9_likeness_94 : decode cX9_likeness 94 = .ok (.iconst 0, 1) := by decide +kernel
theorem dX9_likeness_95 : decode cX9_likeness 95 = .ok (.invokestatic 294, 3) := by decide +kernel
theorem dX9_likeness_98 : decode cX9_likeness 98 = .ok (.ireturn, 1) := by decide +kernel
theorem dX9_estate_0 : decode cX9_estate 0 = .ok (.aload_n 0, 1) := by decide +kernel
theorem dX9_estate_1 : decode cX9_estate 1 = .ok (.invokevirtual 165, 3) := by decide +kernel
theorem dX9_estate_4 : decode cX9_estate 4 = .ok (.ifCond .eq 6, 3) := by decide +kernel
theorem dX9_estate_7 : decode cX9_estate 7 = .ok (.ldc 161, 2) := by decide +kernel
theorem dX9_estate_9 : decode cX9_estate 9 = .ok (.ireturn, 1) := by decide +kernel
theorem dX9_estate_10 : decode cX9_estate 10 = .ok (.iload_n 1, 1) := by decide +kernel
theorem dX9_estate_11 : decode cX9_estate 11 = .ok (.iconst 0, 1) := by decide +kernel
theorem dX9_estate_12 : decode cX9_estate 12 = .ok (.bipush 9, 2) := by decide +kernel
theorem dX9_estate_14 : decode cX9_estate 14 = .ok (.invokestatic 86, 3) := by decide +kernel
theorem dX9_estate_17 : decode cX9_estate 17 = .ok (.ifCond .eq 14, 3) := by decide +kernel
theorem dX9_estate_20 : decode cX9_estate 20 = .ok (.aload_n 0, 1) := by decide +kernel
theorem dX9_estate_21 : decode cX9_estate 21 = .ok (.getfield 35, 3) := by decide +kernel
theorem dX9_estate_24 : decode cX9_estate 24 = .ok (.iload_n 1, 1) := by decide +kernel
theorem dX9_estate_25 : decode cX9_estate 25 = .ok (.invokevirtual 297, 3) := by decide +kernel
theorem dX9_estate_28 : decode cX9_estate 28 = .ok (.goto 5, 3) := by decide +kernel
theorem dX9_estate_31 : decode cX9_estate 31 = .ok (.ldc 90, 2) := by decide +kernel
theorem dX9_estate_33 : decode cX9_estate 33 = .ok (.ireturn, 1) := by decide +kernel
theorem dX9_seen_0 : decode cX9_seen 0 = .ok (.aload_n 0, 1) := by decide +kernel
theorem dX9_seen_1 : decode cX9_seen 1 = .ok (.invokevirtual 165, 3) := by decide +kernel
theorem dX9_seen_4 : decode cX9_seen 4 = .ok (.ifCond .eq 7, 3) := by decide +kernel
theorem dX9_seen_7 : decode cX9_seen 7 = .ok (.ldc2_w 300, 3) := by decide +kernel
theorem dX9_seen_10 : decode cX9_seen 10 = .ok (.lreturn, 1) := by decide +kernel
theorem dX9_seen_11 : decode cX9_seen 11 = .ok (.iload_n 1, 1) := by decide +kernel
theorem dX9_seen_12 : decode cX9_seen 12 = .ok (.iconst 0, 1) := by decide +kernel
theorem dX9_seen_13 : decode cX9_seen 13 = .ok (.iconst 5, 1) := by decide +kernel
theorem dX9_seen_14 : decode cX9_seen 14 = .ok (.invokestatic 86, 3) := by decide +kernel
theorem dX9_seen_17 : decode cX9_seen 17 = .ok (.ifCond .eq 20, 3) := by decide +kernel
theorem dX9_seen_20 : decode cX9_seen 20 = .ok (.iload_n 2, 1) := by decide +kernel
theorem dX9_seen_21 : decode cX9_seen 21 = .ok (.iconst 0, 1) := by decide +kernel
theorem dX9_seen_22 : decode cX9_seen 22 = .ok (.bipush 10, 2) := by decide +kernel
theorem dX9_seen_24 : decode cX9_seen 24 = .ok (.invokestatic 86, 3) := by decide +kernel
theorem dX9_seen_27 : decode cX9_seen 27 = .ok (.ifCond .eq 10, 3) := by decide +kernel
theorem dX9_seen_30 : decode cX9_seen 30 = .ok (.iload_n 3, 1) := by decide +kernel
theorem dX9_seen_31 : decode cX9_seen 31 = .ok (.invokestatic 217, 3) := by decide +kernel
theorem dX9_seen_34 : decode cX9_seen 34 = .ok (.ifCond .ne 7, 3) := by decide +kernel
theorem dX9_seen_37 : decode cX9_seen 37 = .ok (.ldc2_w 302, 3) := by decide +kernel
theorem dX9_seen_40 : decode cX9_seen 40 = .ok (.lreturn, 1) := by decide +kernel
theorem dX9_seen_41 : decode cX9_seen 41 = .ok (.aload_n 0, 1) := by decide +kernel
theorem dX9_seen_42 : decode cX9_seen 42 = .ok (.getfield 71, 3) := by decide +kernel
theorem dX9_seen_45 : decode cX9_seen 45 = .ok (.aload_n 0, 1) := by decide +kernel
theorem dX9_seen_46 : decode cX9_seen 46 = .ok (.getfield 35, 3) := by decide +kernel
theorem dX9_seen_49 : decode cX9_seen 49 = .ok (.invokevirtual 304, 3) := by decide +kernel
theorem dX9_seen_52 : decode cX9_seen 52 = .ok (.invokestatic 307, 3) := by decide +kernel
theorem dX9_seen_55 : decode cX9_seen 55 = .ok (.iload_n 1, 1) := by decide +kernel
theorem dX9_seen_56 : decode cX9_seen 56 = .ok (.iload_n 2, 1) := by decide +kernel
theorem dX9_seen_57 : decode cX9_seen 57 = .ok (.invokevirtual 312, 3) := by decide +kernel
theorem dX9_seen_60 : decode cX9_seen 60 = .ok (.iload_n 3, 1) := by decide +kernel
theorem dX9_seen_61 : decode cX9_seen 61 = .ok (.ifCond .ne 13, 3) := by decide +kernel
theorem dX9_seen_64 : decode cX9_seen 64 = .ok (.aload_n 0, 1) := by decide +kernel
theorem dX9_seen_65 : decode cX9_seen 65 = .ok (.getfield 71, 3) := by decide +kernel
theorem dX9_seen_68 : decode cX9_seen 68 = .ok (.getfield 315, 3) := by decide +kernel
theorem dX9_seen_71 : decode cX9_seen 71 = .ok (.goto 10, 3) := by decide +kernel
theorem dX9_seen_74 : decode cX9_seen 74 = .ok (.aload_n 0, 1) := by decide +kernel
theorem dX9_seen_75 : decode cX9_seen 75 = .ok (.getfield 71, 3) := by decide +kernel
theorem dX9_seen_78 : decode cX9_seen 78 = .ok (.getfield 319, 3) := by decide +kernel
theorem dX9_seen_81 : decode cX9_seen 81 = .ok (.lreturn, 1) := by decide +kernel
theorem dX9_drawn_0 : decode cX9_drawn 0 = .ok (.aload_n 0, 1) := by decide +kernel
theorem dX9_drawn_1 : decode cX9_drawn 1 = .ok (.invokevirtual 165, 3) := by decide +kernel
theorem dX9_drawn_4 : decode cX9_drawn 4 = .ok (.ifCond .eq 6, 3) := by decide +kernel
theorem dX9_drawn_7 : decode cX9_drawn 7 = .ok (.ldc 161, 2) := by decide +kernel
theorem dX9_drawn_9 : decode cX9_drawn 9 = .ok (.ireturn, 1) := by decide +kernel
theorem dX9_drawn_10 : decode cX9_drawn 10 = .ok (.iload_n 1, 1) := by decide +kernel
theorem dX9_drawn_11 : decode cX9_drawn 11 = .ok (.iconst 0, 1) := by decide +kernel
theorem dX9_drawn_12 : decode cX9_drawn 12 = .ok (.bipush 60, 2) := by decide +kernel
theorem dX9_drawn_14 : decode cX9_drawn 14 = .ok (.invokestatic 86, 3) := by decide +kernel
theorem dX9_drawn_17 : decode cX9_drawn 17 = .ok (.ifCond .eq 21, 3) := by decide +kernel
theorem dX9_drawn_20 : decode cX9_drawn 20 = .ok (.iload_n 2, 1) := by decide +kernel
theorem dX9_drawn_21 : decode cX9_drawn 21 = .ok (.iconst 1, 1) := by decide +kernel
theorem dX9_drawn_22 : decode cX9_drawn 22 = .ok (.ldc_w 322, 3) := by decide +kernel
theorem dX9_drawn_25 : decode cX9_drawn 25 = .ok (.invokestatic 86, 3) := by decide +kernel
theorem dX9_drawn_28 : decode cX9_drawn 28 = .ok (.ifCond .eq 10, 3) := by decide +kernel
theorem dX9_drawn_31 : decode cX9_drawn 31 = .ok (.iload_n 3, 1) := by decide +kernel
theorem dX9_drawn_32 : decode cX9_drawn 32 = .ok (.invokestatic 217, 3) := by decide +kernel
theorem dX9_drawn_35 : decode cX9_drawn 35 = .ok (.ifCond .ne 6, 3) := by decide +kernel
theorem dX9_drawn_38 : decode cX9_drawn 38 = .ok (.ldc 90, 2) := by decide +kernel
theorem dX9_drawn_40 : decode cX9_drawn 40 = .ok (.ireturn, 1) := by decide +kernel
theorem dX9_drawn_41 : decode cX9_drawn 41 = .ok (.aload_n 0, 1) := by decide +kernel
theorem dX9_drawn_42 : decode cX9_drawn 42 = .ok (.getfield 57, 3) := by decide +kernel
theorem dX9_drawn_45 : decode cX9_drawn 45 = .ok (.iload_n 1, 1) := by decide +kernel
theorem dX9_drawn_46 : decode cX9_drawn 46 = .ok (.iload_n 2, 1) := by decide +kernel
theorem dX9_drawn_47 : decode cX9_drawn 47 = .ok (.invokevirtual 323, 3) := by decide +kernel
theorem dX9_drawn_50 : decode cX9_drawn 50 = .ok (.astore 4, 2) := by decide +kernel
theorem dX9_drawn_52 : decode cX9_drawn 52 = .ok (.iload_n 3, 1) := by decide +kernel
theorem dX9_drawn_53 : decode cX9_drawn 53 = .ok (.ifCond .ne 11, 3) := by decide +kernel
theorem dX9_drawn_56 : decode cX9_drawn 56 = .ok (.aload 4, 2) := by decide +kernel
theorem dX9_drawn_58 : decode cX9_drawn 58 = .ok (.invokevirtual 327, 3) := by decide +kernel
theorem dX9_drawn_61 : decode cX9_drawn 61 = .ok (.goto 8, 3) := by decide +kernel
theorem dX9_drawn_64 : decode cX9_drawn 64 = .ok (.aload 4, 2) := by decide +kernel
theorem dX9_drawn_66 : decode cX9_drawn 66 = .ok (.invokevirtual 304, 3) := by decide +kernel
theorem dX9_drawn_69 : decode cX9_drawn 69 = .ok (.ireturn, 1) := by decide +kernel
theorem dX9_image_0 : decode cX9_image 0 = .ok (.iload_n 1, 1) := by decide +kernel
theorem dX9_image_1 : decode cX9_image 1 = .ok (.iconst 0, 1) := by decide +kernel
theorem dX9_image_2 : decode cX9_image 2 = .ok (.iconst 1, 1) := by decide +kernel
theorem dX9_image_3 : decode cX9_image 3 = .ok (.invokestatic 86, 3) := by decide +kernel
theorem dX9_image_6 : decode cX9_image 6 = .ok (.ifCond .ne 6, 3) := by decide +kernel
theorem dX9_image_9 : decode cX9_image 9 = .ok (.ldc 90, 2) := by decide +kernel
theorem dX9_image_11 : decode cX9_image 11 = .ok (.ireturn, 1) := by decide +kernel
theorem dX9_image_12 : decode cX9_image 12 = .ok (.aload_n 0, 1) := by decide +kernel
theorem dX9_image_13 : decode cX9_image 13 = .ok (.invokevirtual 165, 3) := by decide +kernel
theorem dX9_image_16 : decode cX9_image 16 = .ok (.ifCond .eq 6, 3) := by decide +kernel
theorem dX9_image_19 : decode cX9_image 19 = .ok (.ldc 161, 2) := by decide +kernel
theorem dX9_image_21 : decode cX9_image 21 = .ok (.ireturn, 1) := by decide +kernel
theorem dX9_image_22 : decode cX9_image 22 = .ok (.aload_n 0, 1) := by decide +kernel
theorem dX9_image_23 : decode cX9_image 23 = .ok (.getfield 48, 3) := by decide +kernel
theorem dX9_image_26 : decode cX9_image 26 = .ok (.iload_n 1, 1) := by decide +kernel
theorem dX9_image_27 : decode cX9_image 27 = .ok (.aaload, 1) := by decide +kernel
theorem dX9_image_28 : decode cX9_image 28 = .ok (.aload_n 0, 1) := by decide +kernel
theorem dX9_image_29 : decode cX9_image 29 = .ok (.getfield 35, 3) := by decide +kernel
theorem dX9_image_32 : decode cX9_image 32 = .ok (.invokevirtual 149, 3) := by decide +kernel
theorem dX9_image_35 : decode cX9_image 35 = .ok (.iconst 1, 1) := by decide +kernel
theorem dX9_image_36 : decode cX9_image 36 = .ok (.ireturn, 1) := by decide +kernel
theorem dX9_restore_0 : decode cX9_restore 0 = .ok (.iload_n 1, 1) := by decide +kernel
theorem dX9_restore_1 : decode cX9_restore 1 = .ok (.iconst 0, 1) := by decide +kernel
theorem dX9_restore_2 : decode cX9_restore 2 = .ok (.iconst 1, 1) := by decide +kernel
theorem dX9_restore_3 : decode cX9_restore 3 = .ok (.invokestatic 86, 3) := by decide +kernel
theorem dX9_restore_6 : decode cX9_restore 6 = .ok (.ifCond .ne 6, 3) := by decide +kernel
theorem dX9_restore_9 : decode cX9_restore 9 = .ok (.ldc 90, 2) := by decide +kernel
theorem dX9_restore_11 : decode cX9_restore 11 = .ok (.ireturn, 1) := by decide +kernel
theorem dX9_restore_12 : decode cX9_restore 12 = .ok (.aload_n 0, 1) := by decide +kernel
theorem dX9_restore_13 : decode cX9_restore 13 = .ok (.getfield 48, 3) := by decide +kernel
theorem dX9_restore_16 : decode cX9_restore 16 = .ok (.iload_n 1, 1) := by decide +kernel
theorem dX9_restore_17 : decode cX9_restore 17 = .ok (.aaload, 1) := by decide +kernel
theorem dX9_restore_18 : decode cX9_restore 18 = .ok (.getfield 155, 3) := by decide +kernel
theorem dX9_restore_21 : decode cX9_restore 21 = .ok (.ifCond .ne 6, 3) := by decide +kernel
theorem dX9_restore_24 : decode cX9_restore 24 = .ok (.ldc 161, 2) := by decide +kernel
theorem dX9_restore_26 : decode cX9_restore 26 = .ok (.ireturn, 1) := by decide +kernel
theorem dX9_restore_27 : decode cX9_restore 27 = .ok (.aload_n 0, 1) := by decide +kernel
theorem dX9_restore_28 : decode cX9_restore 28 = .ok (.getfield 35, 3) := by decide +kernel
theorem dX9_restore_31 : decode cX9_restore 31 = .ok (.aload_n 0, 1) := by decide +kernel
theorem dX9_restore_32 : decode cX9_restore 32 = .ok (.getfield 48, 3) := by decide +kernel
theorem dX9_restore_35 : decode cX9_restore 35 = .ok (.iload_n 1, 1) := by decide +kernel
theorem dX9_restore_36 : decode cX9_restore 36 = .ok (.aaload, 1) := by decide +kernel
theorem dX9_restore_37 : decode cX9_restore 37 = .ok (.invokevirtual 149, 3) := by decide +kernel
theorem dX9_restore_40 : decode cX9_restore 40 = .ok (.aload_n 0, 1) := by decide +kernel
theorem dX9_restore_41 : decode cX9_restore 41 = .ok (.getfield 44, 3) := by decide +kernel
theorem dX9_restore_44 : decode cX9_restore 44 = .ok (.invokevirtual 152, 3) := by decide +kernel
theorem dX9_restore_47 : decode cX9_restore 47 = .ok (.iconst 1, 1) := by decide +kernel
theorem dX9_restore_48 : decode cX9_restore 48 = .ok (.ireturn, 1) := by decide +kernel
theorem dX9_kind_0 : decode cX9_kind 0 = .ok (.aload_n 0, 1) := by decide +kernel
theorem dX9_kind_1 : decode cX9_kind 1 = .ok (.iload_n 1, 1) := by decide +kernel
theorem dX9_kind_2 : decode cX9_kind 2 = .ok (.invokevirtual 180, 3) := by decide +kernel
theorem dX9_kind_5 : decode cX9_kind 5 = .ok (.ifCond .eq 15, 3) := by decide +kernel
theorem dX9_kind_8 : decode cX9_kind 8 = .ok (.aload_n 0, 1) := by decide +kernel
theorem dX9_kind_9 : decode cX9_kind 9 = .ok (.getfield 35, 3) := by decide +kernel
theorem dX9_kind_12 : decode cX9_kind 12 = .ok (.getfield 286, 3) := by decide +kernel
theorem dX9_kind_15 : decode cX9_kind 15 = .ok (.iload_n 1, 1) := by decide +kernel
theorem dX9_kind_16 : decode cX9_kind 16 = .ok (.iaload, 1) := by decide +kernel
theorem dX9_kind_17 : decode cX9_kind 17 = .ok (.goto 5, 3) := by decide +kernel
theorem dX9_kind_20 : decode cX9_kind 20 = .ok (.ldc 90, 2) := by decide +kernel
theorem dX9_kind_22 : decode cX9_kind 22 = .ok (.ireturn, 1) := by decide +kernel
theorem dX9_as_0 : decode cX9_as 0 = .ok (.aload_n 0, 1) := by decide +kernel
theorem dX9_as_1 : decode cX9_as 1 = .ok (.iload_n 1, 1) := by decide +kernel
theorem dX9_as_2 : decode cX9_as 2 = .ok (.invokevirtual 180, 3) := by decide +kernel
theorem dX9_as_5 : decode cX9_as 5 = .ok (.ifCond .eq 12, 3) := by decide +kernel
theorem dX9_as_8 : decode cX9_as 8 = .ok (.iload_n 2, 1) := by decide +kernel
theorem dX9_as_9 : decode cX9_as 9 = .ok (.iconst 0, 1) := by decide +kernel
theorem dX9_as_10 : decode cX9_as 10 = .ok (.iconst 5, 1) := by decide +kernel
theorem dX9_as_11 : decode cX9_as 11 = .ok (.invokestatic 86, 3) := by decide +kernel
theorem dX9_as_14 : decode cX9_as 14 = .ok (.ifCond .ne 6, 3) := by decide +kernel
theorem dX9_as_17 : decode cX9_as 17 = .ok (.ldc 90, 2) := by decide +kernel
theorem dX9_as_19 : decode cX9_as 19 = .ok (.ireturn, 1) := by decide +kernel
theorem dX9_as_20 : decode cX9_as 20 = .ok (.aload_n 0, 1) := by decide +kernel
theorem dX9_as_21 : decode cX9_as 21 = .ok (.getfield 35, 3) := by decide +kernel
theorem dX9_as_24 : decode cX9_as 24 = .ok (.getfield 286, 3) := by decide +kernel
theorem dX9_as_27 : decode cX9_as 27 = .ok (.iload_n 1, 1) := by decide +kernel
theorem dX9_as_28 : decode cX9_as 28 = .ok (.iaload, 1) := by decide +kernel
theorem dX9_as_29 : decode cX9_as 29 = .ok (.iload_n 2, 1) := by decide +kernel
theorem dX9_as_30 : decode cX9_as 30 = .ok (.invokestatic 330, 3) := by decide +kernel
theorem dX9_as_33 : decode cX9_as 33 = .ok (.ifCond .eq 11, 3) := by decide +kernel
theorem dX9_as_36 : decode cX9_as 36 = .ok (.aload_n 0, 1) := by decide +kernel
theorem dX9_as_37 : decode cX9_as 37 = .ok (.iload_n 1, 1) := by decide +kernel
theorem dX9_as_38 : decode cX9_as 38 = .ok (.invokevirtual 99, 3) := by decide +kernel
theorem dX9_as_41 : decode cX9_as 41 = .ok (.goto 8, 3) := by decide +kernel
theorem dX9_as_44 : decode cX9_as 44 = .ok (.aload_n 0, 1) := by decide +kernel
theorem dX9_as_45 : decode cX9_as 45 = .ok (.iconst 3, 1) := by decide +kernel
theorem dX9_as_46 : decode cX9_as 46 = .ok (.invokevirtual 91, 3) := by decide +kernel
theorem dX9_as_49 : decode cX9_as 49 = .ok (.ireturn, 1) := by decide +kernel
theorem dX9_ask_0 : decode cX9_ask 0 = .ok (.aload_n 0, 1) := by decide +kernel
theorem dX9_ask_1 : decode cX9_ask 1 = .ok (.iload_n 1, 1) := by decide +kernel
theorem dX9_ask_2 : decode cX9_ask 2 = .ok (.invokevirtual 180, 3) := by decide +kernel
theorem dX9_ask_5 : decode cX9_ask 5 = .ok (.ifCond .eq 10, 3) := by decide +kernel
theorem dX9_ask_8 : decode cX9_ask 8 = .ok (.iload_n 2, 1) := by decide +kernel
theorem dX9_ask_9 : decode cX9_ask 9 = .ok (.invokestatic 217, 3) := by decide +kernel
theorem dX9_ask_12 : decode cX9_ask 12 = .ok (.ifCond .ne 6, 3) := by decide +kernel
theorem dX9_ask_15 : decode cX9_ask 15 = .ok (.ldc 90, 2) := by decide +kernel
theorem dX9_ask_17 : decode cX9_ask 17 = .ok (.ireturn, 1) := by decide +kernel
theorem dX9_ask_18 : decode cX9_ask 18 = .ok (.aload_n 0, 1) := by decide +kernel
theorem dX9_ask_19 : decode cX9_ask 19 = .ok (.getfield 78, 3) := by decide +kernel
theorem dX9_ask_22 : decode cX9_ask 22 = .ok (.iload_n 1, 1) := by decide +kernel
theorem dX9_ask_23 : decode cX9_ask 23 = .ok (.iload_n 2, 1) := by decide +kernel
theorem dX9_ask_24 : decode cX9_ask 24 = .ok (.invokevirtual 333, 3) := by decide +kernel
theorem dX9_ask_27 : decode cX9_ask 27 = .ok (.ireturn, 1) := by decide +kernel
theorem dX9_trace_0 : decode cX9_trace 0 = .ok (.iload_n 1, 1) := by decide +kernel
theorem dX9_trace_1 : decode cX9_trace 1 = .ok (.iconst 0, 1) := by decide +kernel
theorem dX9_trace_2 : decode cX9_trace 2 = .ok (.aload_n 0, 1) := by decide +kernel
theorem dX9_trace_3 : decode cX9_trace 3 = .ok (.getfield 78, 3) := by decide +kernel
theorem dX9_trace_6 : decode cX9_trace 6 = .ok (.getfield 336, 3) := by decide +kernel
theorem dX9_trace_9 : decode cX9_trace 9 = .ok (.iconst 1, 1) := by decide +kernel
theorem dX9_trace_10 : decode cX9_trace 10 = .ok (.isub, 1) := by decide +kernel
theorem dX9_trace_11 : decode cX9_trace 11 = .ok (.invokestatic 86, 3) := by decide +kernel
theorem dX9_trace_14 : decode cX9_trace 14 = .ok (.ifCond .eq 15, 3) := by decide +kernel
theorem dX9_trace_17 : decode cX9_trace 17 = .ok (.aload_n 0, 1) := by decide +kernel
theorem dX9_trace_18 : decode cX9_trace 18 = .ok (.getfield 78, 3) := by decide +kernel
theorem dX9_trace_21 : decode cX9_trace 21 = .ok (.getfield 339, 3) := by decide +kernel
theorem dX9_trace_24 : decode cX9_trace 24 = .ok (.iload_n 1, 1) := by decide +kernel
theorem dX9_trace_25 : decode cX9_trace 25 = .ok (.iaload, 1) := by decide +kernel
theorem dX9_trace_26 : decode cX9_trace 26 = .ok (.goto 5, 3) := by decide +kernel
theorem dX9_trace_29 : decode cX9_trace 29 = .ok (.ldc 230, 2) := by decide +kernel
theorem dX9_trace_31 : decode cX9_trace 31 = .ok (.ireturn, 1) := by decide +kernel
theorem dX9_count_0 : decode cX9_count 0 = .ok (.iload_n 1, 1) := by decide +kernel
theorem dX9_count_1 : decode cX9_count 1 = .ok (.tableswitch 111 0 7 #[47, 55, 63, 71, 79, 87, 95, 103], 47) := by decide +kernel
theorem dX9_count_48 : decode cX9_count 48 = .ok (.aload_n 0, 1) := by decide +kernel
theorem dX9_count_49 : decode cX9_count 49 = .ok (.getfield 10, 3) := by decide +kernel
theorem dX9_count_52 : decode cX9_count 52 = .ok (.invokevirtual 342, 3) := by decide +kernel
theorem dX9_count_55 : decode cX9_count 55 = .ok (.ireturn, 1) := by decide +kernel
theorem dX9_count_56 : decode cX9_count 56 = .ok (.aload_n 0, 1) := by decide +kernel
theorem dX9_count_57 : decode cX9_count 57 = .ok (.getfield 35, 3) := by decide +kernel
theorem dX9_count_60 : decode cX9_count 60 = .ok (.getfield 155, 3) := by decide +kernel
theorem dX9_count_63 : decode cX9_count 63 = .ok (.ireturn, 1) := by decide +kernel
theorem dX9_count_64 : decode cX9_count 64 = .ok (.aload_n 0, 1) := by decide +kernel
theorem dX9_count_65 : decode cX9_count 65 = .ok (.getfield 35, 3) := by decide +kernel
theorem dX9_count_68 : decode cX9_count 68 = .ok (.invokevirtual 304, 3) := by decide +kernel
theorem dX9_count_71 : decode cX9_count 71 = .ok (.ireturn, 1) := by decide +kernel
theorem dX9_count_72 : decode cX9_count 72 = .ok (.aload_n 0, 1) := by decide +kernel
theorem dX9_count_73 : decode cX9_count 73 = .ok (.getfield 35, 3) := by decide +kernel
theorem dX9_count_76 : decode cX9_count 76 = .ok (.getfield 168, 3) := by decide +kernel
theorem dX9_count_79 : decode cX9_count 79 = .ok (.ireturn, 1) := by decide +kernel
theorem dX9_count_80 : decode cX9_count 80 = .ok (.aload_n 0, 1) := by decide +kernel
theorem dX9_count_81 : decode cX9_count 81 = .ok (.getfield 35, 3) := by decide +kernel
theorem dX9_count_84 : decode cX9_count 84 = .ok (.getfield 177, 3) := by decide +kernel
theorem dX9_count_87 : decode cX9_count 87 = .ok (.ireturn, 1) := by decide +kernel
theorem dX9_count_88 : decode cX9_count 88 = .ok (.aload_n 0, 1) := by decide +kernel
theorem dX9_count_89 : decode cX9_count 89 = .ok (.getfield 35, 3) := by decide +kernel
theorem dX9_count_92 : decode cX9_count 92 = .ok (.invokevirtual 327, 3) := by decide +kernel
theorem dX9_count_95 : decode cX9_count 95 = .ok (.ireturn, 1) := by decide +kernel
theorem dX9_count_96 : decode cX9_count 96 = .ok (.aload_n 0, 1) := by decide +kernel
theorem dX9_count_97 : decode cX9_count 97 = .ok (.getfield 44, 3) := by decide +kernel
theorem dX9_count_100 : decode cX9_count 100 = .ok (.getfield 158, 3) := by decide +kernel
theorem dX9_count_103 : decode cX9_count 103 = .ok (.ireturn, 1) := by decide +kernel
theorem dX9_count_104 : decode cX9_count 104 = .ok (.aload_n 0, 1) := by decide +kernel
theorem dX9_count_105 : decode cX9_count 105 = .ok (.getfield 19, 3) := by decide +kernel
theorem dX9_count_108 : decode cX9_count 108 = .ok (.getfield 139, 3) := by decide +kernel
theorem dX9_count_111 : decode cX9_count 111 = .ok (.ireturn, 1) := by decide +kernel
theorem dX9_count_112 : decode cX9_count 112 = .ok (.ldc 90, 2) := by decide +kernel
theorem dX9_count_114 : decode cX9_count 114 = .ok (.ireturn, 1) := by decide +kernel
theorem dX9_status_0 : decode cX9_status 0 = .ok (.aload_n 0, 1) := by decide +kernel
theorem dX9_status_1 : decode cX9_status 1 = .ok (.getfield 345, 3) := by decide +kernel
theorem dX9_status_4 : decode cX9_status 4 = .ok (.ireturn, 1) := by decide +kernel
theorem dX9_found_0 : decode cX9_found 0 = .ok (.aload_n 0, 1) := by decide +kernel
theorem dX9_found_1 : decode cX9_found 1 = .ok (.iload_n 1, 1) := by decide +kernel
theorem dX9_found_2 : decode cX9_found 2 = .ok (.putfield 345, 3) := by decide +kernel
theorem dX9_found_5 : decode cX9_found 5 = .ok (.ldc_w 348, 3) := by decide +kernel
theorem dX9_found_8 : decode cX9_found 8 = .ok (.iload_n 1, 1) := by decide +kernel
theorem dX9_found_9 : decode cX9_found 9 = .ok (.isub, 1) := by decide +kernel
theorem dX9_found_10 : decode cX9_found 10 = .ok (.ireturn, 1) := by decide +kernel
theorem dX9_fine_0 : decode cX9_fine 0 = .ok (.aload_n 0, 1) := by decide +kernel
theorem dX9_fine_1 : decode cX9_fine 1 = .ok (.iconst 0, 1) := by decide +kernel
theorem dX9_fine_2 : decode cX9_fine 2 = .ok (.putfield 345, 3) := by decide +kernel
theorem dX9_fine_5 : decode cX9_fine 5 = .ok (.iload_n 1, 1) := by decide +kernel
theorem dX9_fine_6 : decode cX9_fine 6 = .ok (.ireturn, 1) := by decide +kernel
theorem dX9_noSky_0 : decode cX9_noSky 0 = .ok (.aload_n 0, 1) := by decide +kernel
theorem dX9_noSky_1 : decode cX9_noSky 1 = .ok (.getfield 35, 3) := by decide +kernel
theorem dX9_noSky_4 : decode cX9_noSky 4 = .ok (.getfield 155, 3) := by decide +kernel
theorem dX9_noSky_7 : decode cX9_noSky 7 = .ok (.ifCond .ne 7, 3) := by decide +kernel
theorem dX9_noSky_10 : decode cX9_noSky 10 = .ok (.iconst 1, 1) := by decide +kernel
theorem dX9_noSky_11 : decode cX9_noSky 11 = .ok (.goto 4, 3) := by decide +kernel
theorem dX9_noSky_14 : decode cX9_noSky 14 = .ok (.iconst 0, 1) := by decide +kernel
theorem dX9_noSky_15 : decode cX9_noSky 15 = .ok (.ireturn, 1) := by decide +kernel
theorem dX9_isCloud_0 : decode cX9_isCloud 0 = .ok (.iload_n 1, 1) := by decide +kernel
theorem dX9_isCloud_1 : decode cX9_isCloud 1 = .ok (.iconst 0, 1) := by decide +kernel
theorem dX9_isCloud_2 : decode cX9_isCloud 2 = .ok (.aload_n 0, 1) := by decide +kernel
theorem dX9_isCloud_3 : decode cX9_isCloud 3 = .ok (.getfield 35, 3) := by decide +kernel
theorem dX9_isCloud_6 : decode cX9_isCloud 6 = .ok (.getfield 155, 3) := by decide +kernel
theorem dX9_isCloud_9 : decode cX9_isCloud 9 = .ok (.iconst 1, 1) := by decide +kernel
theorem dX9_isCloud_10 : decode cX9_isCloud 10 = .ok (.isub, 1) := by decide +kernel
theorem dX9_isCloud_11 : decode cX9_isCloud 11 = .ok (.invokestatic 86, 3) := by decide +kernel
theorem dX9_isCloud_14 : decode cX9_isCloud 14 = .ok (.ireturn, 1) := by decide +kernel
theorem dX9_areTwoClouds_0 : decode cX9_areTwoClouds 0 = .ok (.aload_n 0, 1) := by decide +kernel
theorem dX9_areTwoClouds_1 : decode cX9_areTwoClouds 1 = .ok (.iload_n 1, 1) := by decide +kernel
theorem dX9_areTwoClouds_2 : decode cX9_areTwoClouds 2 = .ok (.invokevirtual 180, 3) := by decide +kernel
theorem dX9_areTwoClouds_5 : decode cX9_areTwoClouds 5 = .ok (.ifCond .eq 20, 3) := by decide +kernel
theorem dX9_areTwoClouds_8 : decode cX9_areTwoClouds 8 = .ok (.aload_n 0, 1) := by decide +kernel
theorem dX9_areTwoClouds_9 : decode cX9_areTwoClouds 9 = .ok (.iload_n 2, 1) := by decide +kernel
theorem dX9_areTwoClouds_10 : decode cX9_areTwoClouds 10 = .ok (.invokevirtual 180, 3) := by decide +kernel
theorem dX9_areTwoClouds_13 : decode cX9_areTwoClouds 13 = .ok (.ifCond .eq 12, 3) := by decide +kernel
theorem dX9_areTwoClouds_16 : decode cX9_areTwoClouds 16 = .ok (.iload_n 1, 1) := by decide +kernel
theorem dX9_areTwoClouds_17 : decode cX9_areTwoClouds 17 = .ok (.iload_n 2, 1) := by decide +kernel
theorem dX9_areTwoClouds_18 : decode cX9_areTwoClouds 18 = .ok (.if_icmp .eq 7, 3) := by decide +kernel
theorem dX9_areTwoClouds_21 : decode cX9_areTwoClouds 21 = .ok (.iconst 1, 1) := by decide +kernel
theorem dX9_areTwoClouds_22 : decode cX9_areTwoClouds 22 = .ok (.goto 4, 3) := by decide +kernel
theorem dX9_areTwoClouds_25 : decode cX9_areTwoClouds 25 = .ok (.iconst 0, 1) := by decide +kernel
theorem dX9_areTwoClouds_26 : decode cX9_areTwoClouds 26 = .ok (.ireturn, 1) := by decide +kernel
theorem dX9_refusalOfRain_0 : decode cX9_refusalOfRain 0 = .ok (.aload_n 0, 1) := by decide +kernel
theorem dX9_refusalOfRain_1 : decode cX9_refusalOfRain 1 = .ok (.iload_n 1, 1) := by decide +kernel
theorem dX9_refusalOfRain_2 : decode cX9_refusalOfRain 2 = .ok (.invokevirtual 180, 3) := by decide +kernel
theorem dX9_refusalOfRain_5 : decode cX9_refusalOfRain 5 = .ok (.ifCond .eq 28, 3) := by decide +kernel
theorem dX9_refusalOfRain_8 : decode cX9_refusalOfRain 8 = .ok (.iload_n 2, 1) := by decide +kernel
theorem dX9_refusalOfRain_9 : decode cX9_refusalOfRain 9 = .ok (.invokestatic 214, 3) := by decide +kernel
theorem dX9_refusalOfRain_12 : decode cX9_refusalOfRain 12 = .ok (.ifCond .eq 21, 3) := by decide +kernel
theorem dX9_refusalOfRain_15 : decode cX9_refusalOfRain 15 = .ok (.iload_n 3, 1) := by decide +kernel
theorem dX9_refusalOfRain_16 : decode cX9_refusalOfRain 16 = .ok (.invokestatic 82, 3) := by decide +kernel
theorem dX9_refusalOfRain_19 : decode cX9_refusalOfRain 19 = .ok (.ifCond .eq 14, 3) := by decide +kernel
theorem dX9_refusalOfRain_22 : decode cX9_refusalOfRain 22 = .ok (.iload 5, 2) := by decide +kernel
theorem dX9_refusalOfRain_24 : decode cX9_refusalOfRain 24 = .ok (.iconst 1, 1) := by decide +kernel
theorem dX9_refusalOfRain_25 : decode cX9_refusalOfRain 25 = .ok (.bipush 12, 2) := by decide +kernel
theorem dX9_refusalOfRain_27 : decode cX9_refusalOfRain 27 = .ok (.invokestatic 86, 3) := by decide +kernel
theorem dX9_refusalOfRain_30 : decode cX9_refusalOfRain 30 = .ok (.ifCond .ne 6, 3) := by decide +kernel
theorem dX9_refusalOfRain_33 : decode cX9_refusalOfRain 33 = .ok (.ldc 90, 2) := by decide +kernel
theorem dX9_refusalOfRain_35 : decode cX9_refusalOfRain 35 = .ok (.ireturn, 1) := by decide +kernel
theorem dX9_refusalOfRain_36 : decode cX9_refusalOfRain 36 = .ok (.aload_n 0, 1) := by decide +kernel
theorem dX9_refusalOfRain_37 : decode cX9_refusalOfRain 37 = .ok (.getfield 10, 3) := by decide +kernel
theorem dX9_refusalOfRain_40 : decode cX9_refusalOfRain 40 = .ok (.iload_n 3, 1) := by decide +kernel
theorem dX9_refusalOfRain_41 : decode cX9_refusalOfRain 41 = .ok (.invokevirtual 102, 3) := by decide +kernel
theorem dX9_refusalOfRain_44 : decode cX9_refusalOfRain 44 = .ok (.ifCond .eq 9, 3) := by decide +kernel
theorem dX9_refusalOfRain_47 : decode cX9_refusalOfRain 47 = .ok (.aload_n 0, 1) := by decide +kernel
theorem dX9_refusalOfRain_48 : decode cX9_refusalOfRain 48 = .ok (.iconst 1, 1) := by decide +kernel
theorem dX9_refusalOfRain_49 : decode cX9_refusalOfRain 49 = .ok (.invokevirtual 91, 3) := by decide +kernel
theorem dX9_refusalOfRain_52 : decode cX9_refusalOfRain 52 = .ok (.ireturn, 1) := by decide +kernel
theorem dX9_refusalOfRain_53 : decode cX9_refusalOfRain 53 = .ok (.aload_n 0, 1) := by decide +kernel
theorem dX9_refusalOfRain_54 : decode cX9_refusalOfRain 54 = .ok (.getfield 10, 3) := by decide +kernel
theorem dX9_refusalOfRain_57 : decode cX9_refusalOfRain 57 = .ok (.iload_n 3, 1) := by decide +kernel
theorem dX9_refusalOfRain_58 : decode cX9_refusalOfRain 58 = .ok (.iload 4, 2) := by decide +kernel
theorem dX9_refusalOfRain_60 : decode cX9_refusalOfRain 60 = .ok (.iload 5, 2) := by decide +kernel
theorem dX9_refusalOfRain_62 : decode cX9_refusalOfRain 62 = .ok (.invokevirtual 105, 3) := by decide +kernel
theorem dX9_refusalOfRain_65 : decode cX9_refusalOfRain 65 = .ok (.ifCond .eq 7, 3) := by decide +kernel
theorem dX9_refusalOfRain_68 : decode cX9_refusalOfRain 68 = .ok (.iconst 0, 1) := by decide +kernel
theorem dX9_refusalOfRain_69 : decode cX9_refusalOfRain 69 = .ok (.goto 8, 3) := by decide +kernel
theorem dX9_refusalOfRain_72 : decode cX9_refusalOfRain 72 = .ok (.aload_n 0, 1) := by decide +kernel
theorem dX9_refusalOfRain_73 : decode cX9_refusalOfRain 73 = .ok (.iconst 2, 1) := by decide +kernel
theorem dX9_refusalOfRain_74 : decode cX9_refusalOfRain 74 = .ok (.invokevirtual 91, 3) := by decide +kernel
theorem dX9_refusalOfRain_77 : decode cX9_refusalOfRain 77 = .ok (.ireturn, 1) := by decide +kernel
theorem dX9_isField_0 : decode cX9_isField 0 = .ok (.iload_n 0, 1) := by decide +kernel
theorem dX9_isField_1 : decode cX9_isField 1 = .ok (.iconst 0, 1) := by decide +kernel
theorem dX9_isField_2 : decode cX9_isField 2 = .ok (.bipush 15, 2) := by decide +kernel
theorem dX9_isField_4 : decode cX9_isField 4 = .ok (.invokestatic 86, 3) := by decide +kernel
theorem dX9_isField_7 : decode cX9_isField 7 = .ok (.ireturn, 1) := by decide +kernel
theorem dX9_isZeroOrOne_0 : decode cX9_isZeroOrOne 0 = .ok (.iload_n 0, 1) := by decide +kernel
theorem dX9_isZeroOrOne_1 : decode cX9_isZeroOrOne 1 = .ok (.ifCond .eq 8, 3) := by decide +kernel
theorem dX9_isZeroOrOne_4 : decode cX9_isZeroOrOne 4 = .ok (.iload_n 0, 1) := by decide +kernel
theorem dX9_isZeroOrOne_5 : decode cX9_isZeroOrOne 5 = .ok (.iconst 1, 1) := by decide +kernel
theorem dX9_isZeroOrOne_6 : decode cX9_isZeroOrOne 6 = .ok (.if_icmp .ne 7, 3) := by decide +kernel
theorem dX9_isZeroOrOne_9 : decode cX9_isZeroOrOne 9 = .ok (.iconst 1, 1) := by decide +kernel
theorem dX9_isZeroOrOne_10 : decode cX9_isZeroOrOne 10 = .ok (.goto 4, 3) := by decide +kernel
theorem dX9_isZeroOrOne_13 : decode cX9_isZeroOrOne 13 = .ok (.iconst 0, 1) := by decide +kernel
theorem dX9_isZeroOrOne_14 : decode cX9_isZeroOrOne 14 = .ok (.ireturn, 1) := by decide +kernel
theorem dX9_within_0 : decode cX9_within 0 = .ok (.iload_n 0, 1) := by decide +kernel
theorem dX9_within_1 : decode cX9_within 1 = .ok (.iload_n 1, 1) := by decide +kernel
theorem dX9_within_2 : decode cX9_within 2 = .ok (.if_icmp .lt 12, 3) := by decide +kernel
theorem dX9_within_5 : decode cX9_within 5 = .ok (.iload_n 0, 1) := by decide +kernel
theorem dX9_within_6 : decode cX9_within 6 = .ok (.iload_n 2, 1) := by decide +kernel
theorem dX9_within_7 : decode cX9_within 7 = .ok (.if_icmp .gt 7, 3) := by decide +kernel
theorem dX9_within_10 : decode cX9_within 10 = .ok (.iconst 1, 1) := by decide +kernel
theorem dX9_within_11 : decode cX9_within 11 = .ok (.goto 4, 3) := by decide +kernel
theorem dX9_within_14 : decode cX9_within 14 = .ok (.iconst 0, 1) := by decide +kernel
theorem dX9_within_15 : decode cX9_within 15 = .ok (.ireturn, 1) := by decide +kernel
theorem dX9_ring_0 : decode cX9_ring 0 = .ok (.iload_n 0, 1) := by decide +kernel
theorem dX9_ring_1 : decode cX9_ring 1 = .ok (.bipush 15, 2) := by decide +kernel
theorem dX9_ring_3 : decode cX9_ring 3 = .ok (.iand, 1) := by decide +kernel
theorem dX9_ring_4 : decode cX9_ring 4 = .ok (.ireturn, 1) := by decide +kernel
theorem dX9_turned_0 : decode cX9_turned 0 = .ok (.iload_n 0, 1) := by decide +kernel
theorem dX9_turned_1 : decode cX9_turned 1 = .ok (.iload_n 1, 1) := by decide +kernel
theorem dX9_turned_2 : decode cX9_turned 2 = .ok (.ishl, 1) := by decide +kernel
theorem dX9_turned_3 : decode cX9_turned 3 = .ok (.iload_n 0, 1) := by decide +kernel
theorem dX9_turned_4 : decode cX9_turned 4 = .ok (.bipush 16, 2) := by decide +kernel
theorem dX9_turned_6 : decode cX9_turned 6 = .ok (.iload_n 1, 1) := by decide +kernel
theorem dX9_turned_7 : decode cX9_turned 7 = .ok (.isub, 1) := by decide +kernel
theorem dX9_turned_8 : decode cX9_turned 8 = .ok (.iushr, 1) := by decide +kernel
theorem dX9_turned_9 : decode cX9_turned 9 = .ok (.ior, 1) := by decide +kernel
theorem dX9_turned_10 : decode cX9_turned 10 = .ok (.ldc 254, 2) := by decide +kernel
theorem dX9_turned_12 : decode cX9_turned 12 = .ok (.iand, 1) := by decide +kernel
theorem dX9_turned_13 : decode cX9_turned 13 = .ok (.ireturn, 1) := by decide +kernel
theorem dX9_blueFrom_0 : decode cX9_blueFrom 0 = .ok (.iconst 0, 1) := by decide +kernel
theorem dX9_blueFrom_1 : decode cX9_blueFrom 1 = .ok (.istore_n 2, 1) := by decide +kernel
theorem dX9_blueFrom_2 : decode cX9_blueFrom 2 = .ok (.iload_n 2, 1) := by decide +kernel
theorem dX9_blueFrom_3 : decode cX9_blueFrom 3 = .ok (.bipush 16, 2) := by decide +kernel
theorem dX9_blueFrom_5 : decode cX9_blueFrom 5 = .ok (.if_icmp .ge 22, 3) := by decide +kernel
theorem dX9_blueFrom_8 : decode cX9_blueFrom 8 = .ok (.iload_n 1, 1) := by decide +kernel
theorem dX9_blueFrom_9 : decode cX9_blueFrom 9 = .ok (.iload_n 0, 1) := by decide +kernel
theorem dX9_blueFrom_10 : decode cX9_blueFrom 10 = .ok (.iload_n 2, 1) := by decide +kernel
theorem dX9_blueFrom_11 : decode cX9_blueFrom 11 = .ok (.iadd, 1) := by decide +kernel
theorem dX9_blueFrom_12 : decode cX9_blueFrom 12 = .ok (.invokestatic 189, 3) := by decide +kernel
theorem dX9_blueFrom_15 : decode cX9_blueFrom 15 = .ok (.ishr, 1) := by decide +kernel
theorem dX9_blueFrom_16 : decode cX9_blueFrom 16 = .ok (.iconst 1, 1) := by decide +kernel
theorem dX9_blueFrom_17 : decode cX9_blueFrom 17 = .ok (.iand, 1) := by decide +kernel
theorem dX9_blueFrom_18 : decode cX9_blueFrom 18 = .ok (.ifCond .ne 9, 3) := by decide +kernel
theorem dX9_blueFrom_21 : decode cX9_blueFrom 21 = .ok (.iinc 2 1, 3) := by decide +kernel
theorem dX9_blueFrom_24 : decode cX9_blueFrom 24 = .ok (.goto (-22), 3) := by decide +kernel
theorem dX9_blueFrom_27 : decode cX9_blueFrom 27 = .ok (.iload_n 2, 1) := by decide +kernel
theorem dX9_blueFrom_28 : decode cX9_blueFrom 28 = .ok (.ireturn, 1) := by decide +kernel
theorem dX9_isOfKind_0 : decode cX9_isOfKind 0 = .ok (.iload_n 0, 1) := by decide +kernel
theorem dX9_isOfKind_1 : decode cX9_isOfKind 1 = .ok (.istore_n 2, 1) := by decide +kernel
theorem dX9_isOfKind_2 : decode cX9_isOfKind 2 = .ok (.iconst 0, 1) := by decide +kernel
theorem dX9_isOfKind_3 : decode cX9_isOfKind 3 = .ok (.istore_n 3, 1) := by decide +kernel
theorem dX9_isOfKind_4 : decode cX9_isOfKind 4 = .ok (.iload_n 3, 1) := by decide +kernel
theorem dX9_isOfKind_5 : decode cX9_isOfKind 5 = .ok (.iconst 5, 1) := by decide +kernel
theorem dX9_isOfKind_6 : decode cX9_isOfKind 6 = .ok (.if_icmp .gt 31, 3) := by decide +kernel
theorem dX9_isOfKind_9 : decode cX9_isOfKind 9 = .ok (.iload_n 2, 1) := by decide +kernel
theorem dX9_isOfKind_10 : decode cX9_isOfKind 10 = .ok (.ifCond .lt 27, 3) := by decide +kernel
theorem dX9_isOfKind_13 : decode cX9_isOfKind 13 = .ok (.iload_n 2, 1) := by decide +kernel
theorem dX9_isOfKind_14 : decode cX9_isOfKind 14 = .ok (.iconst 5, 1) := by decide +kernel
theorem dX9_isOfKind_15 : decode cX9_isOfKind 15 = .ok (.if_icmp .gt 22, 3) := by decide +kernel
theorem dX9_isOfKind_18 : decode cX9_isOfKind 18 = .ok (.iload_n 2, 1) := by decide +kernel
theorem dX9_isOfKind_19 : decode cX9_isOfKind 19 = .ok (.iload_n 1, 1) := by decide +kernel
theorem dX9_isOfKind_20 : decode cX9_isOfKind 20 = .ok (.if_icmp .ne 5, 3) := by decide +kernel
theorem dX9_isOfKind_23 : decode cX9_isOfKind 23 = .ok (.iconst 1, 1) := by decide +kernel
theorem dX9_isOfKind_24 : decode cX9_isOfKind 24 = .ok (.ireturn, 1) := by decide +kernel
theorem dX9_isOfKind_25 : decode cX9_isOfKind 25 = .ok (.getstatic 349, 3) := by decide +kernel
theorem dX9_isOfKind_28 : decode cX9_isOfKind 28 = .ok (.iload_n 2, 1) := by decide +kernel
theorem dX9_isOfKind_29 : decode cX9_isOfKind 29 = .ok (.iaload, 1) := by decide +kernel
theorem dX9_isOfKind_30 : decode cX9_isOfKind 30 = .ok (.istore_n 2, 1) := by decide +kernel
theorem dX9_isOfKind_31 : decode cX9_isOfKind 31 = .ok (.iinc 3 1, 3) := by decide +kernel
theorem dX9_isOfKind_34 : decode cX9_isOfKind 34 = .ok (.goto (-30), 3) := by decide +kernel
theorem dX9_isOfKind_37 : decode cX9_isOfKind 37 = .ok (.iconst 0, 1) := by decide +kernel
theorem dX9_isOfKind_38 : decode cX9_isOfKind 38 = .ok (.ireturn, 1) := by decide +kernel
