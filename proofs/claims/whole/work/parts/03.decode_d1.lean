theorem dX10_in_0 : decode cX10_in 0 = .ok (.lload_n 0, 1) := by decide +kernel
theorem dX10_in_1 : decode cX10_in 1 = .ok (.lload_n 2, 1) := by decide +kernel
theorem dX10_in_2 : decode cX10_in 2 = .ok (.lcmp, 1) := by decide +kernel
theorem dX10_in_3 : decode cX10_in 3 = .ok (.ifCond .lt 14, 3) := by decide +kernel
theorem dX10_in_6 : decode cX10_in 6 = .ok (.lload_n 0, 1) := by decide +kernel
theorem dX10_in_7 : decode cX10_in 7 = .ok (.lload 4, 2) := by decide +kernel
theorem dX10_in_9 : decode cX10_in 9 = .ok (.lcmp, 1) := by decide +kernel
theorem dX10_in_10 : decode cX10_in 10 = .ok (.ifCond .gt 7, 3) := by decide +kernel
theorem dX10_in_13 : decode cX10_in 13 = .ok (.iconst 1, 1) := by decide +kernel
theorem dX10_in_14 : decode cX10_in 14 = .ok (.goto 4, 3) := by decide +kernel
theorem dX10_in_17 : decode cX10_in 17 = .ok (.iconst 0, 1) := by decide +kernel
theorem dX10_in_18 : decode cX10_in 18 = .ok (.ireturn, 1) := by decide +kernel
theorem dX10_init_0 : decode cX10_init 0 = .ok (.aload_n 0, 1) := by decide +kernel
theorem dX10_init_1 : decode cX10_init 1 = .ok (.invokespecial 1, 3) := by decide +kernel
theorem dX10_init_4 : decode cX10_init 4 = .ok (.aload_n 0, 1) := by decide +kernel
theorem dX10_init_5 : decode cX10_init 5 = .ok (.bipush 8, 2) := by decide +kernel
theorem dX10_init_7 : decode cX10_init 7 = .ok (.newarray .int, 2) := by decide +kernel
theorem dX10_init_9 : decode cX10_init 9 = .ok (.putfield 7, 3) := by decide +kernel
theorem dX10_init_12 : decode cX10_init 12 = .ok (.aload_n 0, 1) := by decide +kernel
theorem dX10_init_13 : decode cX10_init 13 = .ok (.bipush 8, 2) := by decide +kernel
theorem dX10_init_15 : decode cX10_init 15 = .ok (.newarray .int, 2) := by decide +kernel
theorem dX10_init_17 : decode cX10_init 17 = .ok (.putfield 13, 3) := by decide +kernel
theorem dX10_init_20 : decode cX10_init 20 = .ok (.aload_n 0, 1) := by decide +kernel
theorem dX10_init_21 : decode cX10_init 21 = .ok (.sipush 320, 3) := by decide +kernel
theorem dX10_init_24 : decode cX10_init 24 = .ok (.newarray .int, 2) := by decide +kernel
theorem dX10_init_26 : decode cX10_init 26 = .ok (.putfield 16, 3) := by decide +kernel
theorem dX10_init_29 : decode cX10_init 29 = .ok (.aload_n 0, 1) := by decide +kernel
theorem dX10_init_30 : decode cX10_init 30 = .ok (.bipush 40, 2) := by decide +kernel
theorem dX10_init_32 : decode cX10_init 32 = .ok (.newarray .int, 2) := by decide +kernel
theorem dX10_init_34 : decode cX10_init 34 = .ok (.putfield 19, 3) := by decide +kernel
theorem dX10_init_37 : decode cX10_init 37 = .ok (.aload_n 0, 1) := by decide +kernel
theorem dX10_init_38 : decode cX10_init 38 = .ok (.bipush 45, 2) := by decide +kernel
theorem dX10_init_40 : decode cX10_init 40 = .ok (.newarray .int, 2) := by decide +kernel
theorem dX10_init_42 : decode cX10_init 42 = .ok (.putfield 22, 3) := by decide +kernel
theorem dX10_init_45 : decode cX10_init 45 = .ok (.aload_n 0, 1) := by decide +kernel
theorem dX10_init_46 : decode cX10_init 46 = .ok (.bipush 45, 2) := by decide +kernel
theorem dX10_init_48 : decode cX10_init 48 = .ok (.newarray .int, 2) := by decide +kernel
theorem dX10_init_50 : decode cX10_init 50 = .ok (.putfield 25, 3) := by decide +kernel
theorem dX10_init_53 : decode cX10_init 53 = .ok (.aload_n 0, 1) := by decide +kernel
theorem dX10_init_54 : decode cX10_init 54 = .ok (.bipush 100, 2) := by decide +kernel
theorem dX10_init_56 : decode cX10_init 56 = .ok (.newarray .int, 2) := by decide +kernel
theorem dX10_init_58 : decode cX10_init 58 = .ok (.putfield 28, 3) := by decide +kernel
theorem dX10_init_61 : decode cX10_init 61 = .ok (.aload_n 0, 1) := by decide +kernel
theorem dX10_init_62 : decode cX10_init 62 = .ok (.sipush 1080, 3) := by decide +kernel
theorem dX10_init_65 : decode cX10_init 65 = .ok (.newarray .int, 2) := by decide +kernel
theorem dX10_init_67 : decode cX10_init 67 = .ok (.putfield 31, 3) := by decide +kernel
theorem dX10_init_70 : decode cX10_init 70 = .ok (.aload_n 0, 1) := by decide +kernel
theorem dX10_init_71 : decode cX10_init 71 = .ok (.bipush 45, 2) := by decide +kernel
theorem dX10_init_73 : decode cX10_init 73 = .ok (.newarray .int, 2) := by decide +kernel
theorem dX10_init_75 : decode cX10_init 75 = .ok (.putfield 34, 3) := by decide +kernel
theorem dX10_init_78 : decode cX10_init 78 = .ok (.aload_n 0, 1) := by decide +kernel
theorem dX10_init_79 : decode cX10_init 79 = .ok (.bipush 92, 2) := by decide +kernel
theorem dX10_init_81 : decode cX10_init 81 = .ok (.newarray .int, 2) := by decide +kernel
theorem dX10_init_83 : decode cX10_init 83 = .ok (.putfield 37, 3) := by decide +kernel
theorem dX10_init_86 : decode cX10_init 86 = .ok (.aload_n 0, 1) := by decide +kernel
theorem dX10_init_87 : decode cX10_init 87 = .ok (.bipush 16, 2) := by decide +kernel
theorem dX10_init_89 : decode cX10_init 89 = .ok (.newarray .int, 2) := by decide +kernel
theorem dX10_init_91 : decode cX10_init 91 = .ok (.putfield 40, 3) := by decide +kernel
theorem dX10_init_94 : decode cX10_init 94 = .ok (.iconst 0, 1) := by decide +kernel
theorem dX10_init_95 : decode cX10_init 95 = .ok (.istore_n 1, 1) := by decide +kernel
theorem dX10_init_96 : decode cX10_init 96 = .ok (.iload_n 1, 1) := by decide +kernel
theorem dX10_init_97 : decode cX10_init 97 = .ok (.bipush 8, 2) := by decide +kernel
theorem dX10_init_99 : decode cX10_init 99 = .ok (.if_icmp .ge 16, 3) := by decide +kernel
theorem dX10_init_102 : decode cX10_init 102 = .ok (.aload_n 0, 1) := by decide +kernel
theorem dX10_init_103 : decode cX10_init 103 = .ok (.getfield 7, 3) := by decide +kernel
theorem dX10_init_106 : decode cX10_init 106 = .ok (.iload_n 1, 1) := by decide +kernel
theorem dX10_init_107 : decode cX10_init 107 = .ok (.iconst (-1), 1) := by decide +kernel
theorem dX10_init_108 : decode cX10_init 108 = .ok (.iastore, 1) := by decide +kernel
theorem dX10_init_109 : decode cX10_init 109 = .ok (.iinc 1 1, 3) := by decide +kernel
theorem dX10_init_112 : decode cX10_init 112 = .ok (.goto (-16), 3) := by decide +kernel
theorem dX10_init_115 : decode cX10_init 115 = .ok (.return_, 1) := by decide +kernel
theorem dX10_finds_0 : decode cX10_finds 0 = .ok (.aload_n 0, 1) := by decide +kernel
theorem dX10_finds_1 : decode cX10_finds 1 = .ok (.iload_n 1, 1) := by decide +kernel
theorem dX10_finds_2 : decode cX10_finds 2 = .ok (.putfield 43, 3) := by decide +kernel
theorem dX10_finds_5 : decode cX10_finds 5 = .ok (.ldc 47, 2) := by decide +kernel
theorem dX10_finds_7 : decode cX10_finds 7 = .ok (.iload_n 1, 1) := by decide +kernel
theorem dX10_finds_8 : decode cX10_finds 8 = .ok (.isub, 1) := by decide +kernel
theorem dX10_finds_9 : decode cX10_finds 9 = .ok (.ireturn, 1) := by decide +kernel
theorem dX10_well_0 : decode cX10_well 0 = .ok (.aload_n 0, 1) := by decide +kernel
theorem dX10_well_1 : decode cX10_well 1 = .ok (.iconst 0, 1) := by decide +kernel
theorem dX10_well_2 : decode cX10_well 2 = .ok (.putfield 43, 3) := by decide +kernel
theorem dX10_well_5 : decode cX10_well 5 = .ok (.iload_n 1, 1) := by decide +kernel
theorem dX10_well_6 : decode cX10_well 6 = .ok (.ireturn, 1) := by decide +kernel
theorem dX10_isRow_0 : decode cX10_isRow 0 = .ok (.iload_n 0, 1) := by decide +kernel
theorem dX10_isRow_1 : decode cX10_isRow 1 = .ok (.i2l, 1) := by decide +kernel
theorem dX10_isRow_2 : decode cX10_isRow 2 = .ok (.lconst 0, 1) := by decide +kernel
theorem dX10_isRow_3 : decode cX10_isRow 3 = .ok (.ldc2_w 48, 3) := by decide +kernel
theorem dX10_isRow_6 : decode cX10_isRow 6 = .ok (.invokestatic 50, 3) := by decide +kernel
theorem dX10_isRow_9 : decode cX10_isRow 9 = .ok (.ireturn, 1) := by decide +kernel
theorem dX10_row_0 : decode cX10_row 0 = .ok (.iload_n 1, 1) := by decide +kernel
theorem dX10_row_1 : decode cX10_row 1 = .ok (.invokestatic 54, 3) := by decide +kernel
theorem dX10_row_4 : decode cX10_row 4 = .ok (.ifCond .eq 21, 3) := by decide +kernel
theorem dX10_row_7 : decode cX10_row 7 = .ok (.iload_n 2, 1) := by decide +kernel
theorem dX10_row_8 : decode cX10_row 8 = .ok (.i2l, 1) := by decide +kernel
theorem dX10_row_9 : decode cX10_row 9 = .ok (.lconst 0, 1) := by decide +kernel
theorem dX10_row_10 : decode cX10_row 10 = .ok (.ldc2_w 58, 3) := by decide +kernel
theorem dX10_row_13 : decode cX10_row 13 = .ok (.invokestatic 50, 3) := by decide +kernel
theorem dX10_row_16 : decode cX10_row 16 = .ok (.ifCond .eq 9, 3) := by decide +kernel
theorem dX10_row_19 : decode cX10_row 19 = .ok (.iload_n 3, 1) := by decide +kernel
theorem dX10_row_20 : decode cX10_row 20 = .ok (.bipush 40, 2) := by decide +kernel
theorem dX10_row_22 : decode cX10_row 22 = .ok (.if_icmp .le 6, 3) := by decide +kernel
theorem dX10_row_25 : decode cX10_row 25 = .ok (.ldc 60, 2) := by decide +kernel
theorem dX10_row_27 : decode cX10_row 27 = .ok (.ireturn, 1) := by decide +kernel
theorem dX10_row_28 : decode cX10_row 28 = .ok (.iload_n 3, 1) := by decide +kernel
theorem dX10_row_29 : decode cX10_row 29 = .ok (.ifCond .ge 9, 3) := by decide +kernel
theorem dX10_row_32 : decode cX10_row 32 = .ok (.aload_n 0, 1) := by decide +kernel
theorem dX10_row_33 : decode cX10_row 33 = .ok (.iconst 4, 1) := by decide +kernel
theorem dX10_row_34 : decode cX10_row 34 = .ok (.invokevirtual 61, 3) := by decide +kernel
theorem dX10_row_37 : decode cX10_row 37 = .ok (.ireturn, 1) := by decide +kernel
theorem dX10_row_38 : decode cX10_row 38 = .ok (.aload_n 0, 1) := by decide +kernel
theorem dX10_row_39 : decode cX10_row 39 = .ok (.getfield 7, 3) := by decide +kernel
theorem dX10_row_42 : decode cX10_row 42 = .ok (.iload_n 1, 1) := by decide +kernel
theorem dX10_row_43 : decode cX10_row 43 = .ok (.iload_n 2, 1) := by decide +kernel
theorem dX10_row_44 : decode cX10_row 44 = .ok (.iastore, 1) := by decide +kernel
theorem dX10_row_45 : decode cX10_row 45 = .ok (.aload_n 0, 1) := by decide +kernel
theorem dX10_row_46 : decode cX10_row 46 = .ok (.getfield 13, 3) := by decide +kernel
theorem dX10_row_49 : decode cX10_row 49 = .ok (.iload_n 1, 1) := by decide +kernel
theorem dX10_row_50 : decode cX10_row 50 = .ok (.iload_n 3, 1) := by decide +kernel
theorem dX10_row_51 : decode cX10_row 51 = .ok (.iastore, 1) := by decide +kernel
theorem dX10_row_52 : decode cX10_row 52 = .ok (.iconst 0, 1) := by decide +kernel
theorem dX10_row_53 : decode cX10_row 53 = .ok (.istore 4, 2) := by decide +kernel
theorem dX10_row_55 : decode cX10_row 55 = .ok (.iload 4, 2) := by decide +kernel
theorem dX10_row_57 : decode cX10_row 57 = .ok (.bipush 40, 2) := by decide +kernel
theorem dX10_row_59 : decode cX10_row 59 = .ok (.if_icmp .ge 22, 3) := by decide +kernel
theorem dX10_row_62 : decode cX10_row 62 = .ok (.aload_n 0, 1) := by decide +kernel
theorem dX10_row_63 : decode cX10_row 63 = .ok (.getfield 16, 3) := by decide +kernel
theorem dX10_row_66 : decode cX10_row 66 = .ok (.bipush 40, 2) := by decide +kernel
theorem dX10_row_68 : decode cX10_row 68 = .ok (.iload_n 1, 1) := by decide +kernel
theorem dX10_row_69 : decode cX10_row 69 = .ok (.imul, 1) := by decide +kernel
theorem dX10_row_70 : decode cX10_row 70 = .ok (.iload 4, 2) := by decide +kernel
theorem dX10_row_72 : decode cX10_row 72 = .ok (.iadd, 1) := by decide +kernel
theorem dX10_row_73 : decode cX10_row 73 = .ok (.iconst 0, 1) := by decide +kernel
theorem dX10_row_74 : decode cX10_row 74 = .ok (.iastore, 1) := by decide +kernel
theorem dX10_row_75 : decode cX10_row 75 = .ok (.iinc 4 1, 3) := by decide +kernel
theorem dX10_row_78 : decode cX10_row 78 = .ok (.goto (-23), 3) := by decide +kernel
theorem dX10_row_81 : decode cX10_row 81 = .ok (.aload_n 0, 1) := by decide +kernel
theorem dX10_row_82 : decode cX10_row 82 = .ok (.iload_n 3, 1) := by decide +kernel
theorem dX10_row_83 : decode cX10_row 83 = .ok (.invokevirtual 65, 3) := by decide +kernel
theorem dX10_row_86 : decode cX10_row 86 = .ok (.ireturn, 1) := by decide +kernel
theorem dX10_set_0 : decode cX10_set 0 = .ok (.iload_n 1, 1) := by decide +kernel
theorem dX10_set_1 : decode cX10_set 1 = .ok (.invokestatic 54, 3) := by decide +kernel
theorem dX10_set_4 : decode cX10_set 4 = .ok (.ifCond .ne 6, 3) := by decide +kernel
theorem dX10_set_7 : decode cX10_set 7 = .ok (.ldc 60, 2) := by decide +kernel
theorem dX10_set_9 : decode cX10_set 9 = .ok (.ireturn, 1) := by decide +kernel
theorem dX10_set_10 : decode cX10_set 10 = .ok (.aload_n 0, 1) := by decide +kernel
theorem dX10_set_11 : decode cX10_set 11 = .ok (.getfield 7, 3) := by decide +kernel
theorem dX10_set_14 : decode cX10_set 14 = .ok (.iload_n 1, 1) := by decide +kernel
theorem dX10_set_15 : decode cX10_set 15 = .ok (.iaload, 1) := by decide +kernel
theorem dX10_set_16 : decode cX10_set 16 = .ok (.ifCond .ge 9, 3) := by decide +kernel
theorem dX10_set_19 : decode cX10_set 19 = .ok (.aload_n 0, 1) := by decide +kernel
theorem dX10_set_20 : decode cX10_set 20 = .ok (.iconst 1, 1) := by decide +kernel
theorem dX10_set_21 : decode cX10_set 21 = .ok (.invokevirtual 61, 3) := by decide +kernel
theorem dX10_set_24 : decode cX10_set 24 = .ok (.ireturn, 1) := by decide +kernel
theorem dX10_set_25 : decode cX10_set 25 = .ok (.iload_n 2, 1) := by decide +kernel
theorem dX10_set_26 : decode cX10_set 26 = .ok (.i2l, 1) := by decide +kernel
theorem dX10_set_27 : decode cX10_set 27 = .ok (.lconst 0, 1) := by decide +kernel
theorem dX10_set_28 : decode cX10_set 28 = .ok (.aload_n 0, 1) := by decide +kernel
theorem dX10_set_29 : decode cX10_set 29 = .ok (.getfield 13, 3) := by decide +kernel
theorem dX10_set_32 : decode cX10_set 32 = .ok (.iload_n 1, 1) := by decide +kernel
theorem dX10_set_33 : decode cX10_set 33 = .ok (.iaload, 1) := by decide +kernel
theorem dX10_set_34 : decode cX10_set 34 = .ok (.iconst 1, 1) := by decide +kernel
theorem dX10_set_35 : decode cX10_set 35 = .ok (.isub, 1) := by decide +kernel
theorem dX10_set_36 : decode cX10_set 36 = .ok (.i2l, 1) := by decide +kernel
theorem dX10_set_37 : decode cX10_set 37 = .ok (.invokestatic 50, 3) := by decide +kernel
theorem dX10_set_40 : decode cX10_set 40 = .ok (.ifCond .ne 9, 3) := by decide +kernel
theorem dX10_set_43 : decode cX10_set 43 = .ok (.aload_n 0, 1) := by decide +kernel
theorem dX10_set_44 : decode cX10_set 44 = .ok (.iconst 2, 1) := by decide +kernel
theorem dX10_set_45 : decode cX10_set 45 = .ok (.invokevirtual 61, 3) := by decide +kernel
theorem dX10_set_48 : decode cX10_set 48 = .ok (.ireturn, 1) := by decide +kernel
theorem dX10_set_49 : decode cX10_set 49 = .ok (.aload_n 0, 1) := by decide +kernel
theorem dX10_set_50 : decode cX10_set 50 = .ok (.getfield 7, 3) := by decide +kernel
theorem dX10_set_53 : decode cX10_set 53 = .ok (.iload_n 1, 1) := by decide +kernel
theorem dX10_set_54 : decode cX10_set 54 = .ok (.iaload, 1) := by decide +kernel
theorem dX10_set_55 : decode cX10_set 55 = .ok (.istore 4, 2) := by decide +kernel
theorem dX10_set_57 : decode cX10_set 57 = .ok (.aload_n 0, 1) := by decide +kernel
theorem dX10_set_58 : decode cX10_set 58 = .ok (.getfield 16, 3) := by decide +kernel
theorem dX10_set_61 : decode cX10_set 61 = .ok (.bipush 40, 2) := by decide +kernel
theorem dX10_set_63 : decode cX10_set 63 = .ok (.iload_n 1, 1) := by decide +kernel
theorem dX10_set_64 : decode cX10_set 64 = .ok (.imul, 1) := by decide +kernel
theorem dX10_set_65 : decode cX10_set 65 = .ok (.iload_n 2, 1) := by decide +kernel
theorem dX10_set_66 : decode cX10_set 66 = .ok (.iadd, 1) := by decide +kernel
theorem dX10_set_67 : decode cX10_set 67 = .ok (.iload 4, 2) := by decide +kernel
theorem dX10_set_69 : decode cX10_set 69 = .ok (.ifCond .ne 8, 3) := by decide +kernel
theorem dX10_set_72 : decode cX10_set 72 = .ok (.iload_n 3, 1) := by decide +kernel
theorem dX10_set_73 : decode cX10_set 73 = .ok (.i2b, 1) := by decide +kernel
theorem dX10_set_74 : decode cX10_set 74 = .ok (.goto 15, 3) := by decide +kernel
theorem dX10_set_77 : decode cX10_set 77 = .ok (.iload 4, 2) := by decide +kernel
theorem dX10_set_79 : decode cX10_set 79 = .ok (.iconst 1, 1) := by decide +kernel
theorem dX10_set_80 : decode cX10_set 80 = .ok (.if_icmp .ne 8, 3) := by decide +kernel
theorem dX10_set_83 : decode cX10_set 83 = .ok (.iload_n 3, 1) := by decide +kernel
theorem dX10_set_84 : decode cX10_set 84 = .ok (.i2s, 1) := by decide +kernel
theorem dX10_set_85 : decode cX10_set 85 = .ok (.goto 4, 3) := by decide +kernel
theorem dX10_set_88 : decode cX10_set 88 = .ok (.iload_n 3, 1) := by decide +kernel
theorem dX10_set_89 : decode cX10_set 89 = .ok (.iastore, 1) := by decide +kernel
theorem dX10_set_90 : decode cX10_set 90 = .ok (.aload_n 0, 1) := by decide +kernel
theorem dX10_set_91 : decode cX10_set 91 = .ok (.aload_n 0, 1) := by decide +kernel
theorem dX10_set_92 : decode cX10_set 92 = .ok (.getfield 16, 3) := by decide +kernel
theorem dX10_set_95 : decode cX10_set 95 = .ok (.bipush 40, 2) := by decide +kernel
theorem dX10_set_97 : decode cX10_set 97 = .ok (.iload_n 1, 1) := by decide +kernel
theorem dX10_set_98 : decode cX10_set 98 = .ok (.imul, 1) := by decide +kernel
theorem dX10_set_99 : decode cX10_set 99 = .ok (.iload_n 2, 1) := by decide +kernel
theorem dX10_set_100 : decode cX10_set 100 = .ok (.iadd, 1) := by decide +kernel
theorem dX10_set_101 : decode cX10_set 101 = .ok (.iaload, 1) := by decide +kernel
theorem dX10_set_102 : decode cX10_set 102 = .ok (.invokevirtual 65, 3) := by decide +kernel
theorem dX10_set_105 : decode cX10_set 105 = .ok (.ireturn, 1) := by decide +kernel
theorem dX10_isPart_0 : decode cX10_isPart 0 = .ok (.iload_n 2, 1) := by decide +kernel
theorem dX10_isPart_1 : decode cX10_isPart 1 = .ok (.ifCond .lt 27, 3) := by decide +kernel
theorem dX10_isPart_4 : decode cX10_isPart 4 = .ok (.iload_n 3, 1) := by decide +kernel
theorem dX10_isPart_5 : decode cX10_isPart 5 = .ok (.ifCond .lt 23, 3) := by decide +kernel
theorem dX10_isPart_8 : decode cX10_isPart 8 = .ok (.iload_n 2, 1) := by decide +kernel
theorem dX10_isPart_9 : decode cX10_isPart 9 = .ok (.i2l, 1) := by decide +kernel
theorem dX10_isPart_10 : decode cX10_isPart 10 = .ok (.iload_n 3, 1) := by decide +kernel
theorem dX10_isPart_11 : decode cX10_isPart 11 = .ok (.i2l, 1) := by decide +kernel
theorem dX10_isPart_12 : decode cX10_isPart 12 = .ok (.ladd, 1) := by decide +kernel
theorem dX10_isPart_13 : decode cX10_isPart 13 = .ok (.aload_n 0, 1) := by decide +kernel
theorem dX10_isPart_14 : decode cX10_isPart 14 = .ok (.getfield 13, 3) := by decide +kernel
theorem dX10_isPart_17 : decode cX10_isPart 17 = .ok (.iload_n 1, 1) := by decide +kernel
theorem dX10_isPart_18 : decode cX10_isPart 18 = .ok (.iaload, 1) := by decide +kernel
theorem dX10_isPart_19 : decode cX10_isPart 19 = .ok (.i2l, 1) := by decide +kernel
theorem dX10_isPart_20 : decode cX10_isPart 20 = .ok (.lcmp, 1) := by decide +kernel
theorem dX10_isPart_21 : decode cX10_isPart 21 = .ok (.ifCond .gt 7, 3) := by decide +kernel
theorem dX10_isPart_24 : decode cX10_isPart 24 = .ok (.iconst 1, 1) := by decide +kernel
theorem dX10_isPart_25 : decode cX10_isPart 25 = .ok (.goto 4, 3) := by decide +kernel
theorem dX10_isPart_28 : decode cX10_isPart 28 = .ok (.iconst 0, 1) := by decide +kernel
theorem dX10_isPart_29 : decode cX10_isPart 29 = .ok (.ireturn, 1) := by decide +kernel
theorem dX10_copy_0 : decode cX10_copy 0 = .ok (.iload_n 1, 1) := by decide +kernel
theorem dX10_copy_1 : decode cX10_copy 1 = .ok (.invokestatic 54, 3) := by decide +kernel
theorem dX10_copy_4 : decode cX10_copy 4 = .ok (.ifCond .eq 10, 3) := by decide +kernel
theorem dX10_copy_7 : decode cX10_copy 7 = .ok (.iload_n 3, 1) := by decide +kernel
theorem dX10_copy_8 : decode cX10_copy 8 = .ok (.invokestatic 54, 3) := by decide +kernel
theorem dX10_copy_11 : decode cX10_copy 11 = .ok (.ifCond .ne 6, 3) := by decide +kernel
theorem dX10_copy_14 : decode cX10_copy 14 = .ok (.ldc 60, 2) := by decide +kernel
theorem dX10_copy_16 : decode cX10_copy 16 = .ok (.ireturn, 1) := by decide +kernel
theorem dX10_copy_17 : decode cX10_copy 17 = .ok (.aload_n 0, 1) := by decide +kernel
theorem dX10_copy_18 : decode cX10_copy 18 = .ok (.getfield 7, 3) := by decide +kernel
theorem dX10_copy_21 : decode cX10_copy 21 = .ok (.iload_n 1, 1) := by decide +kernel
theorem dX10_copy_22 : decode cX10_copy 22 = .ok (.iaload, 1) := by decide +kernel
theorem dX10_copy_23 : decode cX10_copy 23 = .ok (.ifCond .lt 12, 3) := by decide +kernel
theorem dX10_copy_26 : decode cX10_copy 26 = .ok (.aload_n 0, 1) := by decide +kernel
theorem dX10_copy_27 : decode cX10_copy 27 = .ok (.getfield 7, 3) := by decide +kernel
theorem dX10_copy_30 : decode cX10_copy 30 = .ok (.iload_n 3, 1) := by decide +kernel
theorem dX10_copy_31 : decode cX10_copy 31 = .ok (.iaload, 1) := by decide +kernel
theorem dX10_copy_32 : decode cX10_copy 32 = .ok (.ifCond .ge 9, 3) := by decide +kernel
theorem dX10_copy_35 : decode cX10_copy 35 = .ok (.aload_n 0, 1) := by decide +kernel
theorem dX10_copy_36 : decode cX10_copy 36 = .ok (.iconst 1, 1) := by decide +kernel
theorem dX10_copy_37 : decode cX10_copy 37 = .ok (.invokevirtual 61, 3) := by decide +kernel
theorem dX10_copy_40 : decode cX10_copy 40 = .ok (.ireturn, 1) := by decide +kernel
theorem dX10_copy_41 : decode cX10_copy 41 = .ok (.aload_n 0, 1) := by decide +kernel
theorem dX10_copy_42 : decode cX10_copy 42 = .ok (.getfield 7, 3) := by decide +kernel
theorem dX10_copy_45 : decode cX10_copy 45 = .ok (.iload_n 1, 1) := by decide +kernel
theorem dX10_copy_46 : decode cX10_copy 46 = .ok (.iaload, 1) := by decide +kernel
theorem dX10_copy_47 : decode cX10_copy 47 = .ok (.aload_n 0, 1) := by decide +kernel
theorem dX10_copy_48 : decode cX10_copy 48 = .ok (.getfield 7, 3) := by decide +kernel
theorem dX10_copy_51 : decode cX10_copy 51 = .ok (.iload_n 3, 1) := by decide +kernel
theorem dX10_copy_52 : decode cX10_copy 52 = .ok (.iaload, 1) := by decide +kernel
theorem dX10_copy_53 : decode cX10_copy 53 = .ok (.if_icmp .eq 9, 3) := by decide +kernel
theorem dX10_copy_56 : decode cX10_copy 56 = .ok (.aload_n 0, 1) := by decide +kernel
theorem dX10_copy_57 : decode cX10_copy 57 = .ok (.iconst 5, 1) := by decide +kernel
theorem dX10_copy_58 : decode cX10_copy 58 = .ok (.invokevirtual 61, 3) := by decide +kernel
theorem dX10_copy_61 : decode cX10_copy 61 = .ok (.ireturn, 1) := by decide +kernel
theorem dX10_copy_62 : decode cX10_copy 62 = .ok (.aload_n 0, 1) := by decide +kernel
theorem dX10_copy_63 : decode cX10_copy 63 = .ok (.iload_n 1, 1) := by decide +kernel
theorem dX10_copy_64 : decode cX10_copy 64 = .ok (.iload_n 2, 1) := by decide +kernel
theorem dX10_copy_65 : decode cX10_copy 65 = .ok (.iload 5, 2) := by decide +kernel
theorem dX10_copy_67 : decode cX10_copy 67 = .ok (.invokevirtual 68, 3) := by decide +kernel
theorem dX10_copy_70 : decode cX10_copy 70 = .ok (.ifCond .eq 15, 3) := by decide +kernel
theorem dX10_copy_73 : decode cX10_copy 73 = .ok (.aload_n 0, 1) := by decide +kernel
theorem dX10_copy_74 : decode cX10_copy 74 = .ok (.iload_n 3, 1) := by decide +kernel
theorem dX10_copy_75 : decode cX10_copy 75 = .ok (.iload 4, 2) := by decide +kernel
theorem dX10_copy_77 : decode cX10_copy 77 = .ok (.iload 5, 2) := by decide +kernel
theorem dX10_copy_79 : decode cX10_copy 79 = .ok (.invokevirtual 68, 3) := by decide +kernel
theorem dX10_copy_82 : decode cX10_copy 82 = .ok (.ifCond .ne 9, 3) := by decide +kernel
theorem dX10_copy_85 : decode cX10_copy 85 = .ok (.aload_n 0, 1) := by decide +kernel
theorem dX10_copy_86 : decode cX10_copy 86 = .ok (.iconst 2, 1) := by decide +kernel
theorem dX10_copy_87 : decode cX10_copy 87 = .ok (.invokevirtual 61, 3) := by decide +kernel
theorem dX10_copy_90 : decode cX10_copy 90 = .ok (.ireturn, 1) := by decide +kernel
theorem dX10_copy_91 : decode cX10_copy 91 = .ok (.iconst 0, 1) := by decide +kernel
theorem dX10_copy_92 : decode cX10_copy 92 = .ok (.istore 6, 2) := by decide +kernel
theorem dX10_copy_94 : decode cX10_copy 94 = .ok (.iload 6, 2) := by decide +kernel
theorem dX10_copy_96 : decode cX10_copy 96 = .ok (.iload 5, 2) := by decide +kernel
theorem dX10_copy_98 : decode cX10_copy 98 = .ok (.if_icmp .ge 30, 3) := by decide +kernel
theorem dX10_copy_101 : decode cX10_copy 101 = .ok (.aload_n 0, 1) := by decide +kernel
theorem dX10_copy_102 : decode cX10_copy 102 = .ok (.getfield 19, 3) := by decide +kernel
theorem dX10_copy_105 : decode cX10_copy 105 = .ok (.iload 6, 2) := by decide +kernel
theorem dX10_copy_107 : decode cX10_copy 107 = .ok (.aload_n 0, 1) := by decide +kernel
theorem dX10_copy_108 : decode cX10_copy 108 = .ok (.getfield 16, 3) := by decide +kernel
theorem dX10_copy_111 : decode cX10_copy 111 = .ok (.bipush 40, 2) := by decide +kernel
theorem dX10_copy_113 : decode cX10_copy 113 = .ok (.iload_n 1, 1) := by decide +kernel
theorem dX10_copy_114 : decode cX10_copy 114 = .ok (.imul, 1) := by decide +kernel
theorem dX10_copy_115 : decode cX10_copy 115 = .ok (.iload_n 2, 1) := by decide +kernel
theorem dX10_copy_116 : decode cX10_copy 116 = .ok (.iadd, 1) := by decide +kernel
theorem dX10_copy_117 : decode cX10_copy 117 = .ok (.iload 6, 2) := by decide +kernel
theorem dX10_copy_119 : decode cX10_copy 119 = .ok (.iadd, 1) := by decide +kernel
theorem dX10_copy_120 : decode cX10_copy 120 = .ok (.iaload, 1) := by decide +kernel
theorem dX10_copy_121 : decode cX10_copy 121 = .ok (.iastore, 1) := by decide +kernel
theorem dX10_copy_122 : decode cX10_copy 122 = .ok (.iinc 6 1, 3) := by decide +kernel
theorem dX10_copy_125 : decode cX10_copy 125 = .ok (.goto (-31), 3) := by decide +kernel
theorem dX10_copy_128 : decode cX10_copy 128 = .ok (.iconst 0, 1) := by decide +kernel
theorem dX10_copy_129 : decode cX10_copy 129 = .ok (.istore 6, 2) := by decide +kernel
theorem dX10_copy_131 : decode cX10_copy 131 = .ok (.iload 6, 2) := by decide +kernel
theorem dX10_copy_133 : decode cX10_copy 133 = .ok (.iload 5, 2) := by decide +kernel
theorem dX10_copy_135 : decode cX10_copy 135 = .ok (.if_icmp .ge 31, 3) := by decide +kernel
theorem dX10_copy_138 : decode cX10_copy 138 = .ok (.aload_n 0, 1) := by decide +kernel
theorem dX10_copy_139 : decode cX10_copy 139 = .ok (.getfield 16, 3) := by decide +kernel
theorem dX10_copy_142 : decode cX10_copy 142 = .ok (.bipush 40, 2) := by decide +kernel
theorem dX10_copy_144 : decode cX10_copy 144 = .ok (.iload_n 3, 1) := by decide +kernel
theorem dX10_copy_145 : decode cX10_copy 145 = .ok (.imul, 1) := by decide +kernel
theorem dX10_copy_146 : decode cX10_copy 146 = .ok (.iload 4, 2) := by decide +kernel
theorem dX10_copy_148 : decode cX10_copy 148 = .ok (.iadd, 1) := by decide +kernel
theorem dX10_copy_149 : decode cX10_copy 149 = .ok (.iload 6, 2) := by decide +kernel
theorem dX10_copy_151 : decode cX10_copy 151 = .ok (.iadd, 1) := by decide +kernel
theorem dX10_copy_152 : decode cX10_copy 152 = .ok (.aload_n 0, 1) := by decide +kernel
theorem dX10_copy_153 : decode cX10_copy 153 = .ok (.getfield 19, 3) := by decide +kernel
theorem dX10_copy_156 : decode cX10_copy 156 = .ok (.iload 6, 2) := by decide +kernel
theorem dX10_copy_158 : decode cX10_copy 158 = .ok (.iaload, 1) := by decide +kernel
theorem dX10_copy_159 : decode cX10_copy 159 = .ok (.iastore, 1) := by decide +kernel
theorem dX10_copy_160 : decode cX10_copy 160 = .ok (.iinc 6 1, 3) := by decide +kernel
theorem dX10_copy_163 : decode cX10_copy 163 = .ok (.goto (-32), 3) := by decide +kernel
theorem dX10_copy_166 : decode cX10_copy 166 = .ok (.aload_n 0, 1) := by decide +kernel
theorem dX10_copy_167 : decode cX10_copy 167 = .ok (.iload 5, 2) := by decide +kernel
theorem dX10_copy_169 : decode cX10_copy 169 = .ok (.invokevirtual 65, 3) := by decide +kernel
theorem dX10_copy_172 : decode cX10_copy 172 = .ok (.ireturn, 1) := by decide +kernel
theorem dX10_drop_0 : decode cX10_drop 0 = .ok (.iload_n 1, 1) := by decide +kernel
theorem dX10_drop_1 : decode cX10_drop 1 = .ok (.invokestatic 54, 3) := by decide +kernel
theorem dX10_drop_4 : decode cX10_drop 4 = .ok (.ifCond .ne 6, 3) := by decide +kernel
theorem dX10_drop_7 : decode cX10_drop 7 = .ok (.ldc 60, 2) := by decide +kernel
theorem dX10_drop_9 : decode cX10_drop 9 = .ok (.ireturn, 1) := by decide +kernel
theorem dX10_drop_10 : decode cX10_drop 10 = .ok (.aload_n 0, 1) := by decide +kernel
theorem dX10_drop_11 : decode cX10_drop 11 = .ok (.getfield 7, 3) := by decide +kernel
theorem dX10_drop_14 : decode cX10_drop 14 = .ok (.iload_n 1, 1) := by decide +kernel
theorem dX10_drop_15 : decode cX10_drop 15 = .ok (.iaload, 1) := by decide +kernel
theorem dX10_drop_16 : decode cX10_drop 16 = .ok (.ifCond .ge 9, 3) := by decide +kernel
theorem dX10_drop_19 : decode cX10_drop 19 = .ok (.aload_n 0, 1) := by decide +kernel
theorem dX10_drop_20 : decode cX10_drop 20 = .ok (.iconst 1, 1) := by decide +kernel
theorem dX10_drop_21 : decode cX10_drop 21 = .ok (.invokevirtual 61, 3) := by decide +kernel
theorem dX10_drop_24 : decode cX10_drop 24 = .ok (.ireturn, 1) := by decide +kernel
theorem dX10_drop_25 : decode cX10_drop 25 = .ok (.aload_n 0, 1) := by decide +kernel
theorem dX10_drop_26 : decode cX10_drop 26 = .ok (.getfield 7, 3) := by decide +kernel
theorem dX10_drop_29 : decode cX10_drop 29 = .ok (.iload_n 1, 1) := by decide +kernel
theorem dX10_drop_30 : decode cX10_drop 30 = .ok (.iconst (-1), 1) := by decide +kernel
theorem dX10_drop_31 : decode cX10_drop 31 = .ok (.iastore, 1) := by decide +kernel
theorem dX10_drop_32 : decode cX10_drop 32 = .ok (.aload_n 0, 1) := by decide +kernel
theorem dX10_drop_33 : decode cX10_drop 33 = .ok (.aload_n 0, 1) := by decide +kernel
theorem dX10_drop_34 : decode cX10_drop 34 = .ok (.getfield 13, 3) := by decide +kernel
theorem dX10_drop_37 : decode cX10_drop 37 = .ok (.iload_n 1, 1) := by decide +kernel
theorem dX10_drop_38 : decode cX10_drop 38 = .ok (.iaload, 1) := by decide +kernel
theorem dX10_drop_39 : decode cX10_drop 39 = .ok (.invokevirtual 65, 3) := by decide +kernel
theorem dX10_drop_42 : decode cX10_drop 42 = .ok (.ireturn, 1) := by decide +kernel
theorem dX10_partOf_0 : decode cX10_partOf 0 = .ok (.aload_n 0, 1) := by decide +kernel
theorem dX10_partOf_1 : decode cX10_partOf 1 = .ok (.getfield 7, 3) := by decide +kernel
theorem dX10_partOf_4 : decode cX10_partOf 4 = .ok (.iload_n 1, 1) := by decide +kernel
theorem dX10_partOf_5 : decode cX10_partOf 5 = .ok (.iaload, 1) := by decide +kernel
theorem dX10_partOf_6 : decode cX10_partOf 6 = .ok (.ifCond .ge 7, 3) := by decide +kernel
theorem dX10_partOf_9 : decode cX10_partOf 9 = .ok (.iconst 1, 1) := by decide +kernel
theorem dX10_partOf_10 : decode cX10_partOf 10 = .ok (.goto 18, 3) := by decide +kernel
theorem dX10_partOf_13 : decode cX10_partOf 13 = .ok (.aload_n 0, 1) := by decide +kernel
theorem dX10_partOf_14 : decode cX10_partOf 14 = .ok (.iload_n 1, 1) := by decide +kernel
theorem dX10_partOf_15 : decode cX10_partOf 15 = .ok (.iload_n 2, 1) := by decide +kernel
theorem dX10_partOf_16 : decode cX10_partOf 16 = .ok (.iload_n 3, 1) := by decide +kernel
theorem dX10_partOf_17 : decode cX10_partOf 17 = .ok (.invokevirtual 68, 3) := by decide +kernel
theorem dX10_partOf_20 : decode cX10_partOf 20 = .ok (.ifCond .eq 7, 3) := by decide +kernel
theorem dX10_partOf_23 : decode cX10_partOf 23 = .ok (.iconst 0, 1) := by decide +kernel
theorem dX10_partOf_24 : decode cX10_partOf 24 = .ok (.goto 4, 3) := by decide +kernel
theorem dX10_partOf_27 : decode cX10_partOf 27 = .ok (.iconst 2, 1) := by decide +kernel
theorem dX10_partOf_28 : decode cX10_partOf 28 = .ok (.ireturn, 1) := by decide +kernel
theorem dX10_feed_0 : decode cX10_feed 0 = .ok (.iload_n 1, 1) := by decide +kernel
theorem dX10_feed_1 : decode cX10_feed 1 = .ok (.i2l, 1) := by decide +kernel
theorem dX10_feed_2 : decode cX10_feed 2 = .ok (.lconst 0, 1) := by decide +kernel
theorem dX10_feed_3 : decode cX10_feed 3 = .ok (.ldc2_w 72, 3) := by decide +kernel
theorem dX10_feed_6 : decode cX10_feed 6 = .ok (.invokestatic 50, 3) := by decide +kernel
theorem dX10_feed_9 : decode cX10_feed 9 = .ok (.ifCond .ne 6, 3) := by decide +kernel
theorem dX10_feed_12 : decode cX10_feed 12 = .ok (.ldc 60, 2) := by decide +kernel
theorem dX10_feed_14 : decode cX10_feed 14 = .ok (.ireturn, 1) := by decide +kernel
theorem dX10_feed_15 : decode cX10_feed 15 = .ok (.aload_n 0, 1) := by decide +kernel
theorem dX10_feed_16 : decode cX10_feed 16 = .ok (.getfield 74, 3) := by decide +kernel
theorem dX10_feed_19 : decode cX10_feed 19 = .ok (.bipush 100, 2) := by decide +kernel
theorem dX10_feed_21 : decode cX10_feed 21 = .ok (.if_icmp .ne 6, 3) := by decide +kernel
theorem dX10_feed_24 : decode cX10_feed 24 = .ok (.ldc 77, 2) := by decide +kernel
theorem dX10_feed_26 : decode cX10_feed 26 = .ok (.ireturn, 1) := by decide +kernel
theorem dX10_feed_27 : decode cX10_feed 27 = .ok (.aload_n 0, 1) := by decide +kernel
theorem dX10_feed_28 : decode cX10_feed 28 = .ok (.getfield 28, 3) := by decide +kernel
theorem dX10_feed_31 : decode cX10_feed 31 = .ok (.aload_n 0, 1) := by decide +kernel
theorem dX10_feed_32 : decode cX10_feed 32 = .ok (.getfield 74, 3) := by decide +kernel
theorem dX10_feed_35 : decode cX10_feed 35 = .ok (.iload_n 1, 1) := by decide +kernel
theorem dX10_feed_36 : decode cX10_feed 36 = .ok (.iastore, 1) := by decide +kernel
theorem dX10_feed_37 : decode cX10_feed 37 = .ok (.aload_n 0, 1) := by decide +kernel
theorem dX10_feed_38 : decode cX10_feed 38 = .ok (.dup, 1) := by decide +kernel
theorem dX10_feed_39 : decode cX10_feed 39 = .ok (.getfield 74, 3) := by decide +kernel
theorem dX10_feed_42 : decode cX10_feed 42 = .ok (.iconst 1, 1) := by decide +kernel
theorem dX10_feed_43 : decode cX10_feed 43 = .ok (.iadd, 1) := by decide +kernel
theorem dX10_feed_44 : decode cX10_feed 44 = .ok (.putfield 74, 3) := by decide +kernel
theorem dX10_feed_47 : decode cX10_feed 47 = .ok (.aload_n 0, 1) := by decide +kernel
theorem dX10_feed_48 : decode cX10_feed 48 = .ok (.getfield 74, 3) := by decide +kernel
theorem dX10_feed_51 : decode cX10_feed 51 = .ok (.ireturn, 1) := by decide +kernel
theorem dX10_here_0 : decode cX10_here 0 = .ok (.aload_n 0, 1) := by decide +kernel
theorem dX10_here_1 : decode cX10_here 1 = .ok (.getfield 78, 3) := by decide +kernel
theorem dX10_here_4 : decode cX10_here 4 = .ok (.aload_n 0, 1) := by decide +kernel
theorem dX10_here_5 : decode cX10_here 5 = .ok (.getfield 74, 3) := by decide +kernel
theorem dX10_here_8 : decode cX10_here 8 = .ok (.if_icmp .ge 15, 3) := by decide +kernel
theorem dX10_here_11 : decode cX10_here 11 = .ok (.aload_n 0, 1) := by decide +kernel
theorem dX10_here_12 : decode cX10_here 12 = .ok (.getfield 28, 3) := by decide +kernel
theorem dX10_here_15 : decode cX10_here 15 = .ok (.aload_n 0, 1) := by decide +kernel
theorem dX10_here_16 : decode cX10_here 16 = .ok (.getfield 78, 3) := by decide +kernel
theorem dX10_here_19 : decode cX10_here 19 = .ok (.iaload, 1) := by decide +kernel
theorem dX10_here_20 : decode cX10_here 20 = .ok (.goto 4, 3) := by decide +kernel
theorem dX10_here_23 : decode cX10_here 23 = .ok (.iconst 0, 1) := by decide +kernel
theorem dX10_here_24 : decode cX10_here 24 = .ok (.ireturn, 1) := by decide +kernel
theorem dX10_wrong_0 : decode cX10_wrong 0 = .ok (.aload_n 0, 1) := by decide +kernel
theorem dX10_wrong_1 : decode cX10_wrong 1 = .ok (.getfield 81, 3) := by decide +kernel
theorem dX10_wrong_4 : decode cX10_wrong 4 = .ok (.ifCond .ne 13, 3) := by decide +kernel
theorem dX10_wrong_7 : decode cX10_wrong 7 = .ok (.aload_n 0, 1) := by decide +kernel
theorem dX10_wrong_8 : decode cX10_wrong 8 = .ok (.iload_n 1, 1) := by decide +kernel
theorem dX10_wrong_9 : decode cX10_wrong 9 = .ok (.putfield 81, 3) := by decide +kernel
theorem dX10_wrong_12 : decode cX10_wrong 12 = .ok (.aload_n 0, 1) := by decide +kernel
theorem dX10_wrong_13 : decode cX10_wrong 13 = .ok (.iload_n 2, 1) := by decide +kernel
theorem dX10_wrong_14 : decode cX10_wrong 14 = .ok (.putfield 84, 3) := by decide +kernel
theorem dX10_wrong_17 : decode cX10_wrong 17 = .ok (.return_, 1) := by decide +kernel
theorem dX10_must_0 : decode cX10_must 0 = .ok (.aload_n 0, 1) := by decide +kernel
theorem dX10_must_1 : decode cX10_must 1 = .ok (.getfield 81, 3) := by decide +kernel
theorem dX10_must_4 : decode cX10_must 4 = .ok (.ifCond .ne 31, 3) := by decide +kernel
theorem dX10_must_7 : decode cX10_must 7 = .ok (.aload_n 0, 1) := by decide +kernel
theorem dX10_must_8 : decode cX10_must 8 = .ok (.getfield 78, 3) := by decide +kernel
theorem dX10_must_11 : decode cX10_must 11 = .ok (.aload_n 0, 1) := by decide +kernel
theorem dX10_must_12 : decode cX10_must 12 = .ok (.getfield 74, 3) := by decide +kernel
theorem dX10_must_15 : decode cX10_must 15 = .ok (.if_icmp .eq 11, 3) := by decide +kernel
theorem dX10_must_18 : decode cX10_must 18 = .ok (.aload_n 0, 1) := by decide +kernel
theorem dX10_must_19 : decode cX10_must 19 = .ok (.invokevirtual 87, 3) := by decide +kernel
theorem dX10_must_22 : decode cX10_must 22 = .ok (.iload_n 1, 1) := by decide +kernel
theorem dX10_must_23 : decode cX10_must 23 = .ok (.if_icmp .eq 12, 3) := by decide +kernel
theorem dX10_must_26 : decode cX10_must 26 = .ok (.aload_n 0, 1) := by decide +kernel
theorem dX10_must_27 : decode cX10_must 27 = .ok (.iconst 1, 1) := by decide +kernel
theorem dX10_must_28 : decode cX10_must 28 = .ok (.aload_n 0, 1) := by decide +kernel
theorem dX10_must_29 : decode cX10_must 29 = .ok (.getfield 78, 3) := by decide +kernel
theorem dX10_must_32 : decode cX10_must 32 = .ok (.invokevirtual 91, 3) := by decide +kernel
theorem dX10_must_35 : decode cX10_must 35 = .ok (.aload_n 0, 1) := by decide +kernel
theorem dX10_must_36 : decode cX10_must 36 = .ok (.dup, 1) := by decide +kernel
theorem dX10_must_37 : decode cX10_must 37 = .ok (.getfield 78, 3) := by decide +kernel
theorem dX10_must_40 : decode cX10_must 40 = .ok (.aload_n 0, 1) := by decide +kernel
theorem dX10_must_41 : decode cX10_must 41 = .ok (.getfield 81, 3) := by decide +kernel
theorem dX10_must_44 : decode cX10_must 44 = .ok (.ifCond .ne 7, 3) := by decide +kernel
theorem dX10_must_47 : decode cX10_must 47 = .ok (.iconst 1, 1) := by decide +kernel
theorem dX10_must_48 : decode cX10_must 48 = .ok (.goto 4, 3) := by decide +kernel
theorem dX10_must_51 : decode cX10_must 51 = .ok (.iconst 0, 1) := by decide +kernel
theorem dX10_must_52 : decode cX10_must 52 = .ok (.iadd, 1) := by decide +kernel
theorem dX10_must_53 : decode cX10_must 53 = .ok (.putfield 78, 3) := by decide +kernel
theorem dX10_must_56 : decode cX10_must 56 = .ok (.return_, 1) := by decide +kernel
theorem dX10_number_0 : decode cX10_number 0 = .ok (.aload_n 0, 1) := by decide +kernel
theorem dX10_number_1 : decode cX10_number 1 = .ok (.getfield 81, 3) := by decide +kernel
theorem dX10_number_4 : decode cX10_number 4 = .ok (.ifCond .eq 5, 3) := by decide +kernel
theorem dX10_number_7 : decode cX10_number 7 = .ok (.iload_n 1, 1) := by decide +kernel
theorem dX10_number_8 : decode cX10_number 8 = .ok (.ireturn, 1) := by decide +kernel
theorem dX10_number_9 : decode cX10_number 9 = .ok (.aload_n 0, 1) := by decide +kernel
theorem dX10_number_10 : decode cX10_number 10 = .ok (.getfield 78, 3) := by decide +kernel
theorem dX10_number_13 : decode cX10_number 13 = .ok (.istore_n 3, 1) := by decide +kernel
theorem dX10_number_14 : decode cX10_number 14 = .ok (.iconst 0, 1) := by decide +kernel
theorem dX10_number_15 : decode cX10_number 15 = .ok (.istore 4, 2) := by decide +kernel
theorem dX10_number_17 : decode cX10_number 17 = .ok (.aload_n 0, 1) := by decide +kernel
theorem dX10_number_18 : decode cX10_number 18 = .ok (.getfield 78, 3) := by decide +kernel
theorem dX10_number_21 : decode cX10_number 21 = .ok (.aload_n 0, 1) := by decide +kernel
theorem dX10_number_22 : decode cX10_number 22 = .ok (.getfield 74, 3) := by decide +kernel
theorem dX10_number_25 : decode cX10_number 25 = .ok (.if_icmp .ge 63, 3) := by decide +kernel
theorem dX10_number_28 : decode cX10_number 28 = .ok (.aload_n 0, 1) := by decide +kernel
theorem dX10_number_29 : decode cX10_number 29 = .ok (.invokevirtual 87, 3) := by decide +kernel
theorem dX10_number_32 : decode cX10_number 32 = .ok (.i2l, 1) := by decide +kernel
theorem dX10_number_33 : decode cX10_number 33 = .ok (.ldc2_w 95, 3) := by decide +kernel
theorem dX10_number_36 : decode cX10_number 36 = .ok (.ldc2_w 97, 3) := by decide +kernel
theorem dX10_number_39 : decode cX10_number 39 = .ok (.invokestatic 50, 3) := by decide +kernel
theorem dX10_number_42 : decode cX10_number 42 = .ok (.ifCond .eq 46, 3) := by decide +kernel
theorem dX10_number_45 : decode cX10_number 45 = .ok (.aload_n 0, 1) := by decide +kernel
theorem dX10_number_46 : decode cX10_number 46 = .ok (.getfield 78, 3) := by decide +kernel
theorem dX10_number_49 : decode cX10_number 49 = .ok (.iload_n 3, 1) := by decide +kernel
theorem dX10_number_50 : decode cX10_number 50 = .ok (.isub, 1) := by decide +kernel
theorem dX10_number_51 : decode cX10_number 51 = .ok (.iconst 2, 1) := by decide +kernel
theorem dX10_number_52 : decode cX10_number 52 = .ok (.if_icmp .le 8, 3) := by decide +kernel
theorem dX10_number_55 : decode cX10_number 55 = .ok (.iload 4, 2) := by decide +kernel
theorem dX10_number_57 : decode cX10_number 57 = .ok (.goto 16, 3) := by decide +kernel
theorem dX10_number_60 : decode cX10_number 60 = .ok (.bipush 10, 2) := by decide +kernel
theorem dX10_number_62 : decode cX10_number 62 = .ok (.iload 4, 2) := by decide +kernel
theorem dX10_number_64 : decode cX10_number 64 = .ok (.imul, 1) := by decide +kernel
theorem dX10_number_65 : decode cX10_number 65 = .ok (.aload_n 0, 1) := by decide +kernel
theorem dX10_number_66 : decode cX10_number 66 = .ok (.invokevirtual 87, 3) := by decide +kernel
theorem dX10_number_69 : decode cX10_number 69 = .ok (.iadd, 1) := by decide +kernel
theorem dX10_number_70 : decode cX10_number 70 = .ok (.bipush 48, 2) := by decide +kernel
theorem dX10_number_72 : decode cX10_number 72 = .ok (.isub, 1) := by decide +kernel
theorem dX10_number_73 : decode cX10_number 73 = .ok (.istore 4, 2) := by decide +kernel
theorem dX10_number_75 : decode cX10_number 75 = .ok (.aload_n 0, 1) := by decide +kernel
theorem dX10_number_76 : decode cX10_number 76 = .ok (.dup, 1) := by decide +kernel
theorem dX10_number_77 : decode cX10_number 77 = .ok (.getfield 78, 3) := by decide +kernel
theorem dX10_number_80 : decode cX10_number 80 = .ok (.iconst 1, 1) := by decide +kernel
theorem dX10_number_81 : decode cX10_number 81 = .ok (.iadd, 1) := by decide +kernel
theorem dX10_number_82 : decode cX10_number 82 = .ok (.putfield 78, 3) := by decide +kernel
theorem dX10_number_85 : decode cX10_number 85 = .ok (.goto (-68), 3) := by decide +kernel
theorem dX10_number_88 : decode cX10_number 88 = .ok (.aload_n 0, 1) := by decide +kernel
theorem dX10_number_89 : decode cX10_number 89 = .ok (.getfield 78, 3) := by decide +kernel
theorem dX10_number_92 : decode cX10_number 92 = .ok (.iload_n 3, 1) := by decide +kernel
theorem dX10_number_93 : decode cX10_number 93 = .ok (.if_icmp .eq 13, 3) := by decide +kernel
theorem dX10_number_96 : decode cX10_number 96 = .ok (.aload_n 0, 1) := by decide +kernel
theorem dX10_number_97 : decode cX10_number 97 = .ok (.getfield 78, 3) := by decide +kernel
theorem dX10_number_100 : decode cX10_number 100 = .ok (.iload_n 3, 1) := by decide +kernel
theorem dX10_number_101 : decode cX10_number 101 = .ok (.isub, 1) := by decide +kernel
theorem dX10_number_102 : decode cX10_number 102 = .ok (.iconst 2, 1) := by decide +kernel
theorem dX10_number_103 : decode cX10_number 103 = .ok (.if_icmp .le 12, 3) := by decide +kernel
theorem dX10_number_106 : decode cX10_number 106 = .ok (.aload_n 0, 1) := by decide +kernel
theorem dX10_number_107 : decode cX10_number 107 = .ok (.iconst 1, 1) := by decide +kernel
theorem dX10_number_108 : decode cX10_number 108 = .ok (.iload_n 3, 1) := by decide +kernel
theorem dX10_number_109 : decode cX10_number 109 = .ok (.invokevirtual 91, 3) := by decide +kernel
theorem dX10_number_112 : decode cX10_number 112 = .ok (.goto 22, 3) := by decide +kernel
theorem dX10_number_115 : decode cX10_number 115 = .ok (.iload 4, 2) := by decide +kernel
theorem dX10_number_117 : decode cX10_number 117 = .ok (.i2l, 1) := by decide +kernel
theorem dX10_number_118 : decode cX10_number 118 = .ok (.iload_n 1, 1) := by decide +kernel
theorem dX10_number_119 : decode cX10_number 119 = .ok (.i2l, 1) := by decide +kernel
theorem dX10_number_120 : decode cX10_number 120 = .ok (.iload_n 2, 1) := by decide +kernel
theorem dX10_number_121 : decode cX10_number 121 = .ok (.i2l, 1) := by decide +kernel
theorem dX10_number_122 : decode cX10_number 122 = .ok (.invokestatic 50, 3) := by decide +kernel
theorem dX10_number_125 : decode cX10_number 125 = .ok (.ifCond .ne 9, 3) := by decide +kernel
theorem dX10_number_128 : decode cX10_number 128 = .ok (.aload_n 0, 1) := by decide +kernel
theorem dX10_number_129 : decode cX10_number 129 = .ok (.iconst 2, 1) := by decide +kernel
theorem dX10_number_130 : decode cX10_number 130 = .ok (.iload_n 3, 1) := by decide +kernel
theorem dX10_number_131 : decode cX10_number 131 = .ok (.invokevirtual 91, 3) := by decide +kernel
theorem dX10_number_134 : decode cX10_number 134 = .ok (.iload 4, 2) := by decide +kernel
theorem dX10_number_136 : decode cX10_number 136 = .ok (.ireturn, 1) := by decide +kernel
theorem dX10_kindOf_0 : decode cX10_kindOf 0 = .ok (.iload_n 0, 1) := by decide +kernel
theorem dX10_kindOf_1 : decode cX10_kindOf 1 = .ok (.bipush 99, 2) := by decide +kernel
theorem dX10_kindOf_3 : decode cX10_kindOf 3 = .ok (.if_icmp .ne 7, 3) := by decide +kernel
theorem dX10_kindOf_6 : decode cX10_kindOf 6 = .ok (.iconst 1, 1) := by decide +kernel
theorem dX10_kindOf_7 : decode cX10_kindOf 7 = .ok (.goto 44, 3) := by decide +kernel
theorem dX10_kindOf_10 : decode cX10_kindOf 10 = .ok (.iload_n 0, 1) := by decide +kernel
theorem dX10_kindOf_11 : decode cX10_kindOf 11 = .ok (.bipush 97, 2) := by decide +kernel
theorem dX10_kindOf_13 : decode cX10_kindOf 13 = .ok (.if_icmp .ne 7, 3) := by decide +kernel
theorem dX10_kindOf_16 : decode cX10_kindOf 16 = .ok (.iconst 2, 1) := by decide +kernel
theorem dX10_kindOf_17 : decode cX10_kindOf 17 = .ok (.goto 34, 3) := by decide +kernel
theorem dX10_kindOf_20 : decode cX10_kindOf 20 = .ok (.iload_n 0, 1) := by decide +kernel
theorem dX10_kindOf_21 : decode cX10_kindOf 21 = .ok (.bipush 109, 2) := by decide +kernel
theorem dX10_kindOf_23 : decode cX10_kindOf 23 = .ok (.if_icmp .ne 7, 3) := by decide +kernel
theorem dX10_kindOf_26 : decode cX10_kindOf 26 = .ok (.iconst 3, 1) := by decide +kernel
theorem dX10_kindOf_27 : decode cX10_kindOf 27 = .ok (.goto 24, 3) := by decide +kernel
theorem dX10_kindOf_30 : decode cX10_kindOf 30 = .ok (.iload_n 0, 1) := by decide +kernel
theorem dX10_kindOf_31 : decode cX10_kindOf 31 = .ok (.bipush 102, 2) := by decide +kernel
theorem dX10_kindOf_33 : decode cX10_kindOf 33 = .ok (.if_icmp .ne 7, 3) := by decide +kernel
theorem dX10_kindOf_36 : decode cX10_kindOf 36 = .ok (.iconst 4, 1) := by decide +kernel
theorem dX10_kindOf_37 : decode cX10_kindOf 37 = .ok (.goto 14, 3) := by decide +kernel
theorem dX10_kindOf_40 : decode cX10_kindOf 40 = .ok (.iload_n 0, 1) := by decide +kernel
theorem dX10_kindOf_41 : decode cX10_kindOf 41 = .ok (.bipush 98, 2) := by decide +kernel
theorem dX10_kindOf_43 : decode cX10_kindOf 43 = .ok (.if_icmp .ne 7, 3) := by decide +kernel
theorem dX10_kindOf_46 : decode cX10_kindOf 46 = .ok (.iconst 5, 1) := by decide +kernel
theorem dX10_kindOf_47 : decode cX10_kindOf 47 = .ok (.goto 4, 3) := by decide +kernel
theorem dX10_kindOf_50 : decode cX10_kindOf 50 = .ok (.iconst (-1), 1) := by decide +kernel
theorem dX10_kindOf_51 : decode cX10_kindOf 51 = .ok (.ireturn, 1) := by decide +kernel
theorem dX10_readCloud_0 : decode cX10_readCloud 0 = .ok (.aload_n 0, 1) := by decide +kernel
theorem dX10_readCloud_1 : decode cX10_readCloud 1 = .ok (.invokevirtual 87, 3) := by decide +kernel
theorem dX10_readCloud_4 : decode cX10_readCloud 4 = .ok (.invokestatic 99, 3) := by decide +kernel
theorem dX10_readCloud_7 : decode cX10_readCloud 7 = .ok (.istore_n 1, 1) := by decide +kernel
theorem dX10_readCloud_8 : decode cX10_readCloud 8 = .ok (.iload_n 1, 1) := by decide +kernel
theorem dX10_readCloud_9 : decode cX10_readCloud 9 = .ok (.ifCond .ge 15, 3) := by decide +kernel
theorem dX10_readCloud_12 : decode cX10_readCloud 12 = .ok (.aload_n 0, 1) := by decide +kernel
theorem dX10_readCloud_13 : decode cX10_readCloud 13 = .ok (.iconst 1, 1) := by decide +kernel
theorem dX10_readCloud_14 : decode cX10_readCloud 14 = .ok (.aload_n 0, 1) := by decide +kernel
theorem dX10_readCloud_15 : decode cX10_readCloud 15 = .ok (.getfield 78, 3) := by decide +kernel
theorem dX10_readCloud_18 : decode cX10_readCloud 18 = .ok (.invokevirtual 91, 3) := by decide +kernel
theorem dX10_readCloud_21 : decode cX10_readCloud 21 = .ok (.goto 22, 3) := by decide +kernel
theorem dX10_readCloud_24 : decode cX10_readCloud 24 = .ok (.aload_n 0, 1) := by decide +kernel
theorem dX10_readCloud_25 : decode cX10_readCloud 25 = .ok (.getfield 25, 3) := by decide +kernel
theorem dX10_readCloud_28 : decode cX10_readCloud 28 = .ok (.iconst 0, 1) := by decide +kernel
theorem dX10_readCloud_29 : decode cX10_readCloud 29 = .ok (.iaload, 1) := by decide +kernel
theorem dX10_readCloud_30 : decode cX10_readCloud 30 = .ok (.iconst 5, 1) := by decide +kernel
theorem dX10_readCloud_31 : decode cX10_readCloud 31 = .ok (.if_icmp .ne 12, 3) := by decide +kernel
theorem dX10_readCloud_34 : decode cX10_readCloud 34 = .ok (.aload_n 0, 1) := by decide +kernel
theorem dX10_readCloud_35 : decode cX10_readCloud 35 = .ok (.iconst 3, 1) := by decide +kernel
theorem dX10_readCloud_36 : decode cX10_readCloud 36 = .ok (.aload_n 0, 1) := by decide +kernel
theorem dX10_readCloud_37 : decode cX10_readCloud 37 = .ok (.getfield 78, 3) := by decide +kernel
theorem dX10_readCloud_40 : decode cX10_readCloud 40 = .ok (.invokevirtual 91, 3) := by decide +kernel
theorem dX10_readCloud_43 : decode cX10_readCloud 43 = .ok (.aload_n 0, 1) := by decide +kernel
theorem dX10_readCloud_44 : decode cX10_readCloud 44 = .ok (.getfield 81, 3) := by decide +kernel
theorem dX10_readCloud_47 : decode cX10_readCloud 47 = .ok (.ifCond .ne 125, 3) := by decide +kernel
theorem dX10_readCloud_50 : decode cX10_readCloud 50 = .ok (.aload_n 0, 1) := by decide +kernel
theorem dX10_readCloud_51 : decode cX10_readCloud 51 = .ok (.dup, 1) := by decide +kernel
theorem dX10_readCloud_52 : decode cX10_readCloud 52 = .ok (.getfield 78, 3) := by decide +kernel
theorem dX10_readCloud_55 : decode cX10_readCloud 55 = .ok (.iconst 1, 1) := by decide +kernel
theorem dX10_readCloud_56 : decode cX10_readCloud 56 = .ok (.iadd, 1) := by decide +kernel
theorem dX10_readCloud_57 : decode cX10_readCloud 57 = .ok (.putfield 78, 3) := by decide +kernel
theorem dX10_readCloud_60 : decode cX10_readCloud 60 = .ok (.iconst 4, 1) := by decide +kernel
theorem dX10_readCloud_61 : decode cX10_readCloud 61 = .ok (.iconst 5, 1) := by decide +kernel
theorem dX10_readCloud_62 : decode cX10_readCloud 62 = .ok (.aload_n 0, 1) := by decide +kernel
theorem dX10_readCloud_63 : decode cX10_readCloud 63 = .ok (.getfield 25, 3) := by decide +kernel
theorem dX10_readCloud_66 : decode cX10_readCloud 66 = .ok (.iconst 0, 1) := by decide +kernel
theorem dX10_readCloud_67 : decode cX10_readCloud 67 = .ok (.iaload, 1) := by decide +kernel
theorem dX10_readCloud_68 : decode cX10_readCloud 68 = .ok (.imul, 1) := by decide +kernel
theorem dX10_readCloud_69 : decode cX10_readCloud 69 = .ok (.iadd, 1) := by decide +kernel
theorem dX10_readCloud_70 : decode cX10_readCloud 70 = .ok (.istore_n 2, 1) := by decide +kernel
theorem dX10_readCloud_71 : decode cX10_readCloud 71 = .ok (.aload_n 0, 1) := by decide +kernel
theorem dX10_readCloud_72 : decode cX10_readCloud 72 = .ok (.getfield 25, 3) := by decide +kernel
theorem dX10_readCloud_75 : decode cX10_readCloud 75 = .ok (.iload_n 2, 1) := by decide +kernel
theorem dX10_readCloud_76 : decode cX10_readCloud 76 = .ok (.iload_n 1, 1) := by decide +kernel
theorem dX10_readCloud_77 : decode cX10_readCloud 77 = .ok (.iastore, 1) := by decide +kernel
theorem dX10_readCloud_78 : decode cX10_readCloud 78 = .ok (.aload_n 0, 1) := by decide +kernel
theorem dX10_readCloud_79 : decode cX10_readCloud 79 = .ok (.getfield 25, 3) := by decide +kernel
theorem dX10_readCloud_82 : decode cX10_readCloud 82 = .ok (.iload_n 2, 1) := by decide +kernel
theorem dX10_readCloud_83 : decode cX10_readCloud 83 = .ok (.iconst 1, 1) := by decide +kernel
theorem dX10_readCloud_84 : decode cX10_readCloud 84 = .ok (.iadd, 1) := by decide +kernel
theorem dX10_readCloud_85 : decode cX10_readCloud 85 = .ok (.aload_n 0, 1) := by decide +kernel
theorem dX10_readCloud_86 : decode cX10_readCloud 86 = .ok (.iconst 0, 1) := by decide +kernel
theorem dX10_readCloud_87 : decode cX10_readCloud 87 = .ok (.bipush 15, 2) := by decide +kernel
theorem dX10_readCloud_89 : decode cX10_readCloud 89 = .ok (.invokevirtual 102, 3) := by decide +kernel
theorem dX10_readCloud_92 : decode cX10_readCloud 92 = .ok (.iastore, 1) := by decide +kernel
theorem dX10_readCloud_93 : decode cX10_readCloud 93 = .ok (.aload_n 0, 1) := by decide +kernel
theorem dX10_readCloud_94 : decode cX10_readCloud 94 = .ok (.bipush 44, 2) := by decide +kernel
theorem dX10_readCloud_96 : decode cX10_readCloud 96 = .ok (.invokevirtual 106, 3) := by decide +kernel
theorem dX10_readCloud_99 : decode cX10_readCloud 99 = .ok (.aload_n 0, 1) := by decide +kernel
theorem dX10_readCloud_100 : decode cX10_readCloud 100 = .ok (.getfield 25, 3) := by decide +kernel
theorem dX10_readCloud_103 : decode cX10_readCloud 103 = .ok (.iload_n 2, 1) := by decide +kernel
theorem dX10_readCloud_104 : decode cX10_readCloud 104 = .ok (.iconst 2, 1) := by decide +kernel
theorem dX10_readCloud_105 : decode cX10_readCloud 105 = .ok (.iadd, 1) := by decide +kernel
theorem dX10_readCloud_106 : decode cX10_readCloud 106 = .ok (.aload_n 0, 1) := by decide +kernel
theorem dX10_readCloud_107 : decode cX10_readCloud 107 = .ok (.iconst 1, 1) := by decide +kernel
theorem dX10_readCloud_108 : decode cX10_readCloud 108 = .ok (.bipush 8, 2) := by decide +kernel
theorem dX10_readCloud_110 : decode cX10_readCloud 110 = .ok (.invokevirtual 102, 3) := by decide +kernel
theorem dX10_readCloud_113 : decode cX10_readCloud 113 = .ok (.iastore, 1) := by decide +kernel
theorem dX10_readCloud_114 : decode cX10_readCloud 114 = .ok (.aload_n 0, 1) := by decide +kernel
theorem dX10_readCloud_115 : decode cX10_readCloud 115 = .ok (.bipush 44, 2) := by decide +kernel
theorem dX10_readCloud_117 : decode cX10_readCloud 117 = .ok (.invokevirtual 106, 3) := by decide +kernel
theorem dX10_readCloud_120 : decode cX10_readCloud 120 = .ok (.aload_n 0, 1) := by decide +kernel
theorem dX10_readCloud_121 : decode cX10_readCloud 121 = .ok (.getfield 25, 3) := by decide +kernel
theorem dX10_readCloud_124 : decode cX10_readCloud 124 = .ok (.iload_n 2, 1) := by decide +kernel
theorem dX10_readCloud_125 : decode cX10_readCloud 125 = .ok (.iconst 3, 1) := by decide +kernel
theorem dX10_readCloud_126 : decode cX10_readCloud 126 = .ok (.iadd, 1) := by decide +kernel
theorem dX10_readCloud_127 : decode cX10_readCloud 127 = .ok (.aload_n 0, 1) := by decide +kernel
theorem dX10_readCloud_128 : decode cX10_readCloud 128 = .ok (.iconst 1, 1) := by decide +kernel
theorem dX10_readCloud_129 : decode cX10_readCloud 129 = .ok (.bipush 60, 2) := by decide +kernel
theorem dX10_readCloud_131 : decode cX10_readCloud 131 = .ok (.invokevirtual 102, 3) := by decide +kernel
theorem dX10_readCloud_134 : decode cX10_readCloud 134 = .ok (.iastore, 1) := by decide +kernel
theorem dX10_readCloud_135 : decode cX10_readCloud 135 = .ok (.aload_n 0, 1) := by decide +kernel
theorem dX10_readCloud_136 : decode cX10_readCloud 136 = .ok (.bipush 44, 2) := by decide +kernel
theorem dX10_readCloud_138 : decode cX10_readCloud 138 = .ok (.invokevirtual 106, 3) := by decide +kernel
theorem dX10_readCloud_141 : decode cX10_readCloud 141 = .ok (.aload_n 0, 1) := by decide +kernel
theorem dX10_readCloud_142 : decode cX10_readCloud 142 = .ok (.getfield 25, 3) := by decide +kernel
theorem dX10_readCloud_145 : decode cX10_readCloud 145 = .ok (.iload_n 2, 1) := by decide +kernel
theorem dX10_readCloud_146 : decode cX10_readCloud 146 = .ok (.iconst 4, 1) := by decide +kernel
theorem dX10_readCloud_147 : decode cX10_readCloud 147 = .ok (.iadd, 1) := by decide +kernel
theorem dX10_readCloud_148 : decode cX10_readCloud 148 = .ok (.aload_n 0, 1) := by decide +kernel
theorem dX10_readCloud_149 : decode cX10_readCloud 149 = .ok (.iconst 0, 1) := by decide +kernel
theorem dX10_readCloud_150 : decode cX10_readCloud 150 = .ok (.bipush 9, 2) := by decide +kernel
theorem dX10_readCloud_152 : decode cX10_readCloud 152 = .ok (.invokevirtual 102, 3) := by decide +kernel
theorem dX10_readCloud_155 : decode cX10_readCloud 155 = .ok (.iastore, 1) := by decide +kernel
theorem dX10_readCloud_156 : decode cX10_readCloud 156 = .ok (.aload_n 0, 1) := by decide +kernel
theorem dX10_readCloud_157 : decode cX10_readCloud 157 = .ok (.bipush 59, 2) := by decide +kernel
theorem dX10_readCloud_159 : decode cX10_readCloud 159 = .ok (.invokevirtual 106, 3) := by decide +kernel
theorem dX10_readCloud_162 : decode cX10_readCloud 162 = .ok (.aload_n 0, 1) := by decide +kernel
theorem dX10_readCloud_163 : decode cX10_readCloud 163 = .ok (.getfield 25, 3) := by decide +kernel
theorem dX10_readCloud_166 : decode cX10_readCloud 166 = .ok (.iconst 0, 1) := by decide +kernel
theorem dX10_readCloud_167 : decode cX10_readCloud 167 = .ok (.dup2, 1) := by decide +kernel
theorem dX10_readCloud_168 : decode cX10_readCloud 168 = .ok (.iaload, 1) := by decide +kernel
theorem dX10_readCloud_169 : decode cX10_readCloud 169 = .ok (.iconst 1, 1) := by decide +kernel
theorem dX10_readCloud_170 : decode cX10_readCloud 170 = .ok (.iadd, 1) := by decide +kernel
theorem dX10_readCloud_171 : decode cX10_readCloud 171 = .ok (.iastore, 1) := by decide +kernel
theorem dX10_readCloud_172 : decode cX10_readCloud 172 = .ok (.return_, 1) := by decide +kernel
theorem dX10_sky_0 : decode cX10_sky 0 = .ok (.aload_n 0, 1) := by decide +kernel
theorem dX10_sky_1 : decode cX10_sky 1 = .ok (.iconst 0, 1) := by decide +kernel
theorem dX10_sky_2 : decode cX10_sky 2 = .ok (.putfield 78, 3) := by decide +kernel
theorem dX10_sky_5 : decode cX10_sky 5 = .ok (.aload_n 0, 1) := by decide +kernel
theorem dX10_sky_6 : decode cX10_sky 6 = .ok (.iconst 0, 1) := by decide +kernel
theorem dX10_sky_7 : decode cX10_sky 7 = .ok (.putfield 81, 3) := by decide +kernel
theorem dX10_sky_10 : decode cX10_sky 10 = .ok (.iconst 0, 1) := by decide +kernel
theorem dX10_sky_11 : decode cX10_sky 11 = .ok (.istore_n 1, 1) := by decide +kernel
theorem dX10_sky_12 : decode cX10_sky 12 = .ok (.iload_n 1, 1) := by decide +kernel
theorem dX10_sky_13 : decode cX10_sky 13 = .ok (.bipush 45, 2) := by decide +kernel
theorem dX10_sky_15 : decode cX10_sky 15 = .ok (.if_icmp .ge 16, 3) := by decide +kernel
theorem dX10_sky_18 : decode cX10_sky 18 = .ok (.aload_n 0, 1) := by decide +kernel
theorem dX10_sky_19 : decode cX10_sky 19 = .ok (.getfield 25, 3) := by decide +kernel
theorem dX10_sky_22 : decode cX10_sky 22 = .ok (.iload_n 1, 1) := by decide +kernel
theorem dX10_sky_23 : decode cX10_sky 23 = .ok (.iconst 0, 1) := by decide +kernel
theorem dX10_sky_24 : decode cX10_sky 24 = .ok (.iastore, 1) := by decide +kernel
theorem dX10_sky_25 : decode cX10_sky 25 = .ok (.iinc 1 1, 3) := by decide +kernel
theorem dX10_sky_28 : decode cX10_sky 28 = .ok (.goto (-16), 3) := by decide +kernel
theorem dX10_sky_31 : decode cX10_sky 31 = .ok (.aload_n 0, 1) := by decide +kernel
theorem dX10_sky_32 : decode cX10_sky 32 = .ok (.bipush 119, 2) := by decide +kernel
theorem dX10_sky_34 : decode cX10_sky 34 = .ok (.invokevirtual 106, 3) := by decide +kernel
theorem dX10_sky_37 : decode cX10_sky 37 = .ok (.aload_n 0, 1) := by decide +kernel
theorem dX10_sky_38 : decode cX10_sky 38 = .ok (.getfield 25, 3) := by decide +kernel
theorem dX10_sky_41 : decode cX10_sky 41 = .ok (.iconst 1, 1) := by decide +kernel
theorem dX10_sky_42 : decode cX10_sky 42 = .ok (.aload_n 0, 1) := by decide +kernel
theorem dX10_sky_43 : decode cX10_sky 43 = .ok (.iconst 0, 1) := by decide +kernel
theorem dX10_sky_44 : decode cX10_sky 44 = .ok (.bipush 15, 2) := by decide +kernel
theorem dX10_sky_46 : decode cX10_sky 46 = .ok (.invokevirtual 102, 3) := by decide +kernel
theorem dX10_sky_49 : decode cX10_sky 49 = .ok (.iastore, 1) := by decide +kernel
theorem dX10_sky_50 : decode cX10_sky 50 = .ok (.aload_n 0, 1) := by decide +kernel
theorem dX10_sky_51 : decode cX10_sky 51 = .ok (.bipush 44, 2) := by decide +kernel
theorem dX10_sky_53 : decode cX10_sky 53 = .ok (.invokevirtual 106, 3) := by decide +kernel
theorem dX10_sky_56 : decode cX10_sky 56 = .ok (.aload_n 0, 1) := by decide +kernel
theorem dX10_sky_57 : decode cX10_sky 57 = .ok (.getfield 25, 3) := by decide +kernel
theorem dX10_sky_60 : decode cX10_sky 60 = .ok (.iconst 2, 1) := by decide +kernel
theorem dX10_sky_61 : decode cX10_sky 61 = .ok (.aload_n 0, 1) := by decide +kernel
theorem dX10_sky_62 : decode cX10_sky 62 = .ok (.iconst 1, 1) := by decide +kernel
theorem dX10_sky_63 : decode cX10_sky 63 = .ok (.bipush 20, 2) := by decide +kernel
theorem dX10_sky_65 : decode cX10_sky 65 = .ok (.invokevirtual 102, 3) := by decide +kernel
theorem dX10_sky_68 : decode cX10_sky 68 = .ok (.iastore, 1) := by decide +kernel
theorem dX10_sky_69 : decode cX10_sky 69 = .ok (.aload_n 0, 1) := by decide +kernel
theorem dX10_sky_70 : decode cX10_sky 70 = .ok (.bipush 59, 2) := by decide +kernel
theorem dX10_sky_72 : decode cX10_sky 72 = .ok (.invokevirtual 106, 3) := by decide +kernel
theorem dX10_sky_75 : decode cX10_sky 75 = .ok (.aload_n 0, 1) := by decide +kernel
theorem dX10_sky_76 : decode cX10_sky 76 = .ok (.getfield 81, 3) := by decide +kernel
theorem dX10_sky_79 : decode cX10_sky 79 = .ok (.ifCond .ne 30, 3) := by decide +kernel
theorem dX10_sky_82 : decode cX10_sky 82 = .ok (.aload_n 0, 1) := by decide +kernel
theorem dX10_sky_83 : decode cX10_sky 83 = .ok (.getfield 25, 3) := by decide +kernel
theorem dX10_sky_86 : decode cX10_sky 86 = .ok (.iconst 0, 1) := by decide +kernel
theorem dX10_sky_87 : decode cX10_sky 87 = .ok (.iaload, 1) := by decide +kernel
theorem dX10_sky_88 : decode cX10_sky 88 = .ok (.ifCond .eq 14, 3) := by decide +kernel
theorem dX10_sky_91 : decode cX10_sky 91 = .ok (.aload_n 0, 1) := by decide +kernel
theorem dX10_sky_92 : decode cX10_sky 92 = .ok (.getfield 78, 3) := by decide +kernel
theorem dX10_sky_95 : decode cX10_sky 95 = .ok (.aload_n 0, 1) := by decide +kernel
theorem dX10_sky_96 : decode cX10_sky 96 = .ok (.getfield 74, 3) := by decide +kernel
theorem dX10_sky_99 : decode cX10_sky 99 = .ok (.if_icmp .ge 10, 3) := by decide +kernel
theorem dX10_sky_102 : decode cX10_sky 102 = .ok (.aload_n 0, 1) := by decide +kernel
theorem dX10_sky_103 : decode cX10_sky 103 = .ok (.invokevirtual 110, 3) := by decide +kernel
theorem dX10_sky_106 : decode cX10_sky 106 = .ok (.goto (-31), 3) := by decide +kernel
theorem dX10_sky_109 : decode cX10_sky 109 = .ok (.aload_n 0, 1) := by decide +kernel
theorem dX10_sky_110 : decode cX10_sky 110 = .ok (.iconst 0, 1) := by decide +kernel
theorem dX10_sky_111 : decode cX10_sky 111 = .ok (.putfield 74, 3) := by decide +kernel
theorem dX10_sky_114 : decode cX10_sky 114 = .ok (.aload_n 0, 1) := by decide +kernel
theorem dX10_sky_115 : decode cX10_sky 115 = .ok (.getfield 81, 3) := by decide +kernel
theorem dX10_sky_118 : decode cX10_sky 118 = .ok (.ifCond .eq 19, 3) := by decide +kernel
theorem dX10_sky_121 : decode cX10_sky 121 = .ok (.aload_n 0, 1) := by decide +kernel
theorem dX10_sky_122 : decode cX10_sky 122 = .ok (.aload_n 0, 1) := by decide +kernel
theorem dX10_sky_123 : decode cX10_sky 123 = .ok (.getfield 81, 3) := by decide +kernel
theorem dX10_sky_126 : decode cX10_sky 126 = .ok (.putfield 113, 3) := by decide +kernel
theorem dX10_sky_129 : decode cX10_sky 129 = .ok (.ldc 116, 2) := by decide +kernel
theorem dX10_sky_131 : decode cX10_sky 131 = .ok (.aload_n 0, 1) := by decide +kernel
theorem dX10_sky_132 : decode cX10_sky 132 = .ok (.getfield 84, 3) := by decide +kernel
theorem dX10_sky_135 : decode cX10_sky 135 = .ok (.isub, 1) := by decide +kernel
theorem dX10_sky_136 : decode cX10_sky 136 = .ok (.ireturn, 1) := by decide +kernel
theorem dX10_sky_137 : decode cX10_sky 137 = .ok (.iconst 0, 1) := by decide +kernel
theorem dX10_sky_138 : decode cX10_sky 138 = .ok (.istore_n 1, 1) := by decide +kernel
theorem dX10_sky_139 : decode cX10_sky 139 = .ok (.iload_n 1, 1) := by decide +kernel
theorem dX10_sky_140 : decode cX10_sky 140 = .ok (.bipush 45, 2) := by decide +kernel
theorem dX10_sky_142 : decode cX10_sky 142 = .ok (.if_icmp .ge 21, 3) := by decide +kernel
theorem dX10_sky_145 : decode cX10_sky 145 = .ok (.aload_n 0, 1) := by decide +kernel
theorem dX10_sky_146 : decode cX10_sky 146 = .ok (.getfield 22, 3) := by decide +kernel
theorem dX10_sky_149 : decode cX10_sky 149 = .ok (.iload_n 1, 1) := by decide +kernel
theorem dX10_sky_150 : decode cX10_sky 150 = .ok (.aload_n 0, 1) := by decide +kernel
theorem dX10_sky_151 : decode cX10_sky 151 = .ok (.getfield 25, 3) := by decide +kernel
theorem dX10_sky_154 : decode cX10_sky 154 = .ok (.iload_n 1, 1) := by decide +kernel
theorem dX10_sky_155 : decode cX10_sky 155 = .ok (.iaload, 1) := by decide +kernel
theorem dX10_sky_156 : decode cX10_sky 156 = .ok (.iastore, 1) := by decide +kernel
theorem dX10_sky_157 : decode cX10_sky 157 = .ok (.iinc 1 1, 3) := by decide +kernel
theorem dX10_sky_160 : decode cX10_sky 160 = .ok (.goto (-21), 3) := by decide +kernel
theorem dX10_sky_163 : decode cX10_sky 163 = .ok (.aload_n 0, 1) := by decide +kernel
theorem dX10_sky_164 : decode cX10_sky 164 = .ok (.iconst 1, 1) := by decide +kernel
theorem dX10_sky_165 : decode cX10_sky 165 = .ok (.putfield 117, 3) := by decide +kernel
theorem dX10_sky_168 : decode cX10_sky 168 = .ok (.aload_n 0, 1) := by decide +kernel
theorem dX10_sky_169 : decode cX10_sky 169 = .ok (.iconst 0, 1) := by decide +kernel
theorem dX10_sky_170 : decode cX10_sky 170 = .ok (.putfield 121, 3) := by decide +kernel
theorem dX10_sky_173 : decode cX10_sky 173 = .ok (.aload_n 0, 1) := by decide +kernel
theorem dX10_sky_174 : decode cX10_sky 174 = .ok (.getfield 22, 3) := by decide +kernel
theorem dX10_sky_177 : decode cX10_sky 177 = .ok (.iconst 0, 1) := by decide +kernel
theorem dX10_sky_178 : decode cX10_sky 178 = .ok (.iaload, 1) := by decide +kernel
theorem dX10_sky_179 : decode cX10_sky 179 = .ok (.ireturn, 1) := by decide +kernel
theorem dX10_fault_0 : decode cX10_fault 0 = .ok (.aload_n 0, 1) := by decide +kernel
theorem dX10_fault_1 : decode cX10_fault 1 = .ok (.getfield 113, 3) := by decide +kernel
theorem dX10_fault_4 : decode cX10_fault 4 = .ok (.ireturn, 1) := by decide +kernel
theorem dX10_isCloud_0 : decode cX10_isCloud 0 = .ok (.iload_n 1, 1) := by decide +kernel
theorem dX10_isCloud_1 : decode cX10_isCloud 1 = .ok (.i2l, 1) := by decide +kernel
theorem dX10_isCloud_2 : decode cX10_isCloud 2 = .ok (.lconst 0, 1) := by decide +kernel
theorem dX10_isCloud_3 : decode cX10_isCloud 3 = .ok (.aload_n 0, 1) := by decide +kernel
theorem dX10_isCloud_4 : decode cX10_isCloud 4 = .ok (.getfield 22, 3) := by decide +kernel
theorem dX10_isCloud_7 : decode cX10_isCloud 7 = .ok (.iconst 0, 1) := by decide +kernel
theorem dX10_isCloud_8 : decode cX10_isCloud 8 = .ok (.iaload, 1) := by decide +kernel
theorem dX10_isCloud_9 : decode cX10_isCloud 9 = .ok (.iconst 1, 1) := by decide +kernel
theorem dX10_isCloud_10 : decode cX10_isCloud 10 = .ok (.isub, 1) := by decide +kernel
theorem dX10_isCloud_11 : decode cX10_isCloud 11 = .ok (.i2l, 1) := by decide +kernel
theorem dX10_isCloud_12 : decode cX10_isCloud 12 = .ok (.invokestatic 50, 3) := by decide +kernel
theorem dX10_isCloud_15 : decode cX10_isCloud 15 = .ok (.ireturn, 1) := by decide +kernel
theorem dX10_isField_0 : decode cX10_isField 0 = .ok (.iload_n 0, 1) := by decide +kernel
theorem dX10_isField_1 : decode cX10_isField 1 = .ok (.i2l, 1) := by decide +kernel
theorem dX10_isField_2 : decode cX10_isField 2 = .ok (.lconst 0, 1) := by decide +kernel
theorem dX10_isField_3 : decode cX10_isField 3 = .ok (.ldc2_w 124, 3) := by decide +kernel
theorem dX10_isField_6 : decode cX10_isField 6 = .ok (.invokestatic 50, 3) := by decide +kernel
theorem dX10_isField_9 : decode cX10_isField 9 = .ok (.ireturn, 1) := by decide +kernel
theorem dX10_of_0 : decode cX10_of 0 = .ok (.aload_n 0, 1) := by decide +kernel
theorem dX10_of_1 : decode cX10_of 1 = .ok (.getfield 22, 3) := by decide +kernel
theorem dX10_of_4 : decode cX10_of 4 = .ok (.iconst 4, 1) := by decide +kernel
theorem dX10_of_5 : decode cX10_of 5 = .ok (.iconst 5, 1) := by decide +kernel
theorem dX10_of_6 : decode cX10_of 6 = .ok (.iload_n 1, 1) := by decide +kernel
theorem dX10_of_7 : decode cX10_of 7 = .ok (.imul, 1) := by decide +kernel
theorem dX10_of_8 : decode cX10_of 8 = .ok (.iadd, 1) := by decide +kernel
theorem dX10_of_9 : decode cX10_of 9 = .ok (.iload_n 2, 1) := by decide +kernel
theorem dX10_of_10 : decode cX10_of 10 = .ok (.iadd, 1) := by decide +kernel
theorem dX10_of_11 : decode cX10_of 11 = .ok (.iaload, 1) := by decide +kernel
theorem dX10_of_12 : decode cX10_of 12 = .ok (.ireturn, 1) := by decide +kernel
theorem dX10_isGone_0 : decode cX10_isGone 0 = .ok (.aload_n 0, 1) := by decide +kernel
theorem dX10_isGone_1 : decode cX10_isGone 1 = .ok (.iload_n 1, 1) := by decide +kernel
theorem dX10_isGone_2 : decode cX10_isGone 2 = .ok (.iconst 3, 1) := by decide +kernel
theorem dX10_isGone_3 : decode cX10_isGone 3 = .ok (.invokevirtual 126, 3) := by decide +kernel
theorem dX10_isGone_6 : decode cX10_isGone 6 = .ok (.ifCond .ne 7, 3) := by decide +kernel
theorem dX10_isGone_9 : decode cX10_isGone 9 = .ok (.iconst 1, 1) := by decide +kernel
theorem dX10_isGone_10 : decode cX10_isGone 10 = .ok (.goto 4, 3) := by decide +kernel
theorem dX10_isGone_13 : decode cX10_isGone 13 = .ok (.iconst 0, 1) := by decide +kernel
theorem dX10_isGone_14 : decode cX10_isGone 14 = .ok (.ireturn, 1) := by decide +kernel
theorem dX10_rains_0 : decode cX10_rains 0 = .ok (.aload_n 0, 1) := by decide +kernel
theorem dX10_rains_1 : decode cX10_rains 1 = .ok (.iload_n 1, 1) := by decide +kernel
theorem dX10_rains_2 : decode cX10_rains 2 = .ok (.iconst 0, 1) := by decide +kernel
theorem dX10_rains_3 : decode cX10_rains 3 = .ok (.invokevirtual 126, 3) := by decide +kernel
theorem dX10_rains_6 : decode cX10_rains 6 = .ok (.istore_n 3, 1) := by decide +kernel
theorem dX10_rains_7 : decode cX10_rains 7 = .ok (.iload_n 3, 1) := by decide +kernel
theorem dX10_rains_8 : decode cX10_rains 8 = .ok (.iconst 2, 1) := by decide +kernel
theorem dX10_rains_9 : decode cX10_rains 9 = .ok (.if_icmp .ne 7, 3) := by decide +kernel
theorem dX10_rains_12 : decode cX10_rains 12 = .ok (.iconst 2, 1) := by decide +kernel
theorem dX10_rains_13 : decode cX10_rains 13 = .ok (.goto 24, 3) := by decide +kernel
theorem dX10_rains_16 : decode cX10_rains 16 = .ok (.iload_n 3, 1) := by decide +kernel
theorem dX10_rains_17 : decode cX10_rains 17 = .ok (.iconst 3, 1) := by decide +kernel
theorem dX10_rains_18 : decode cX10_rains 18 = .ok (.if_icmp .eq 14, 3) := by decide +kernel
theorem dX10_rains_21 : decode cX10_rains 21 = .ok (.iload_n 3, 1) := by decide +kernel
theorem dX10_rains_22 : decode cX10_rains 22 = .ok (.iconst 5, 1) := by decide +kernel
theorem dX10_rains_23 : decode cX10_rains 23 = .ok (.if_icmp .ne 13, 3) := by decide +kernel
theorem dX10_rains_26 : decode cX10_rains 26 = .ok (.iload_n 2, 1) := by decide +kernel
theorem dX10_rains_27 : decode cX10_rains 27 = .ok (.iconst 2, 1) := by decide +kernel
theorem dX10_rains_28 : decode cX10_rains 28 = .ok (.irem, 1) := by decide +kernel
theorem dX10_rains_29 : decode cX10_rains 29 = .ok (.ifCond .ne 7, 3) := by decide +kernel
theorem dX10_rains_32 : decode cX10_rains 32 = .ok (.iconst 0, 1) := by decide +kernel
theorem dX10_rains_33 : decode cX10_rains 33 = .ok (.goto 4, 3) := by decide +kernel
theorem dX10_rains_36 : decode cX10_rains 36 = .ok (.iconst 1, 1) := by decide +kernel
theorem dX10_rains_37 : decode cX10_rains 37 = .ok (.ireturn, 1) := by decide +kernel
theorem dX10_fields_0 : decode cX10_fields 0 = .ok (.iconst 0, 1) := by decide +kernel
theorem dX10_fields_1 : decode cX10_fields 1 = .ok (.istore_n 2, 1) := by decide +kernel
theorem dX10_fields_2 : decode cX10_fields 2 = .ok (.iconst 0, 1) := by decide +kernel
theorem dX10_fields_3 : decode cX10_fields 3 = .ok (.istore_n 3, 1) := by decide +kernel
theorem dX10_fields_4 : decode cX10_fields 4 = .ok (.iload_n 3, 1) := by decide +kernel
theorem dX10_fields_5 : decode cX10_fields 5 = .ok (.aload_n 0, 1) := by decide +kernel
theorem dX10_fields_6 : decode cX10_fields 6 = .ok (.iload_n 1, 1) := by decide +kernel
theorem dX10_fields_7 : decode cX10_fields 7 = .ok (.iconst 2, 1) := by decide +kernel
theorem dX10_fields_8 : decode cX10_fields 8 = .ok (.invokevirtual 126, 3) := by decide +kernel
theorem dX10_fields_11 : decode cX10_fields 11 = .ok (.if_icmp .ge 33, 3) := by decide +kernel
theorem dX10_fields_14 : decode cX10_fields 14 = .ok (.aload_n 0, 1) := by decide +kernel
theorem dX10_fields_15 : decode cX10_fields 15 = .ok (.iload_n 1, 1) := by decide +kernel
theorem dX10_fields_16 : decode cX10_fields 16 = .ok (.invokevirtual 129, 3) := by decide +kernel
theorem dX10_fields_19 : decode cX10_fields 19 = .ok (.ifCond .ne 25, 3) := by decide +kernel
theorem dX10_fields_22 : decode cX10_fields 22 = .ok (.iload_n 2, 1) := by decide +kernel
theorem dX10_fields_23 : decode cX10_fields 23 = .ok (.iconst 1, 1) := by decide +kernel
theorem dX10_fields_24 : decode cX10_fields 24 = .ok (.aload_n 0, 1) := by decide +kernel
theorem dX10_fields_25 : decode cX10_fields 25 = .ok (.iload_n 1, 1) := by decide +kernel
theorem dX10_fields_26 : decode cX10_fields 26 = .ok (.iconst 1, 1) := by decide +kernel
theorem dX10_fields_27 : decode cX10_fields 27 = .ok (.invokevirtual 126, 3) := by decide +kernel
theorem dX10_fields_30 : decode cX10_fields 30 = .ok (.iload_n 3, 1) := by decide +kernel
theorem dX10_fields_31 : decode cX10_fields 31 = .ok (.iadd, 1) := by decide +kernel
theorem dX10_fields_32 : decode cX10_fields 32 = .ok (.bipush 16, 2) := by decide +kernel
theorem dX10_fields_34 : decode cX10_fields 34 = .ok (.irem, 1) := by decide +kernel
theorem dX10_fields_35 : decode cX10_fields 35 = .ok (.ishl, 1) := by decide +kernel
theorem dX10_fields_36 : decode cX10_fields 36 = .ok (.ior, 1) := by decide +kernel
theorem dX10_fields_37 : decode cX10_fields 37 = .ok (.istore_n 2, 1) := by decide +kernel
theorem dX10_fields_38 : decode cX10_fields 38 = .ok (.iinc 3 1, 3) := by decide +kernel
theorem dX10_fields_41 : decode cX10_fields 41 = .ok (.goto (-37), 3) := by decide +kernel
theorem dX10_fields_44 : decode cX10_fields 44 = .ok (.iload_n 2, 1) := by decide +kernel
theorem dX10_fields_45 : decode cX10_fields 45 = .ok (.ireturn, 1) := by decide +kernel
theorem dX10_clouds_0 : decode cX10_clouds 0 = .ok (.iconst 0, 1) := by decide +kernel
theorem dX10_clouds_1 : decode cX10_clouds 1 = .ok (.istore_n 2, 1) := by decide +kernel
theorem dX10_clouds_2 : decode cX10_clouds 2 = .ok (.iconst 0, 1) := by decide +kernel
theorem dX10_clouds_3 : decode cX10_clouds 3 = .ok (.istore_n 3, 1) := by decide +kernel
theorem dX10_clouds_4 : decode cX10_clouds 4 = .ok (.iload_n 3, 1) := by decide +kernel
theorem dX10_clouds_5 : decode cX10_clouds 5 = .ok (.aload_n 0, 1) := by decide +kernel
theorem dX10_clouds_6 : decode cX10_clouds 6 = .ok (.getfield 22, 3) := by decide +kernel
theorem dX10_clouds_9 : decode cX10_clouds 9 = .ok (.iconst 0, 1) := by decide +kernel
theorem dX10_clouds_10 : decode cX10_clouds 10 = .ok (.iaload, 1) := by decide +kernel
theorem dX10_clouds_11 : decode cX10_clouds 11 = .ok (.if_icmp .ge 23, 3) := by decide +kernel
theorem dX10_clouds_14 : decode cX10_clouds 14 = .ok (.iload_n 2, 1) := by decide +kernel
theorem dX10_clouds_15 : decode cX10_clouds 15 = .ok (.aload_n 0, 1) := by decide +kernel
theorem dX10_clouds_16 : decode cX10_clouds 16 = .ok (.iload_n 3, 1) := by decide +kernel
theorem dX10_clouds_17 : decode cX10_clouds 17 = .ok (.invokevirtual 132, 3) := by decide +kernel
theorem dX10_clouds_20 : decode cX10_clouds 20 = .ok (.iload_n 1, 1) := by decide +kernel
theorem dX10_clouds_21 : decode cX10_clouds 21 = .ok (.ishr, 1) := by decide +kernel
theorem dX10_clouds_22 : decode cX10_clouds 22 = .ok (.iconst 1, 1) := by decide +kernel
theorem dX10_clouds_23 : decode cX10_clouds 23 = .ok (.iand, 1) := by decide +kernel
theorem dX10_clouds_24 : decode cX10_clouds 24 = .ok (.iload_n 3, 1) := by decide +kernel
theorem dX10_clouds_25 : decode cX10_clouds 25 = .ok (.ishl, 1) := by decide +kernel
theorem dX10_clouds_26 : decode cX10_clouds 26 = .ok (.ior, 1) := by decide +kernel
theorem dX10_clouds_27 : decode cX10_clouds 27 = .ok (.istore_n 2, 1) := by decide +kernel
theorem dX10_clouds_28 : decode cX10_clouds 28 = .ok (.iinc 3 1, 3) := by decide +kernel
theorem dX10_clouds_31 : decode cX10_clouds 31 = .ok (.goto (-27), 3) := by decide +kernel
theorem dX10_clouds_34 : decode cX10_clouds 34 = .ok (.iload_n 2, 1) := by decide +kernel
theorem dX10_clouds_35 : decode cX10_clouds 35 = .ok (.ireturn, 1) := by decide +kernel
theorem dX10_notGone_0 : decode cX10_notGone 0 = .ok (.iconst 0, 1) := by decide +kernel
theorem dX10_notGone_1 : decode cX10_notGone 1 = .ok (.istore_n 1, 1) := by decide +kernel
theorem dX10_notGone_2 : decode cX10_notGone 2 = .ok (.iconst 0, 1) := by decide +kernel
theorem dX10_notGone_3 : decode cX10_notGone 3 = .ok (.istore_n 2, 1) := by decide +kernel
theorem dX10_notGone_4 : decode cX10_notGone 4 = .ok (.iload_n 2, 1) := by decide +kernel
theorem dX10_notGone_5 : decode cX10_notGone 5 = .ok (.aload_n 0, 1) := by decide +kernel
theorem dX10_notGone_6 : decode cX10_notGone 6 = .ok (.getfield 22, 3) := by decide +kernel
theorem dX10_notGone_9 : decode cX10_notGone 9 = .ok (.iconst 0, 1) := by decide +kernel
theorem dX10_notGone_10 : decode cX10_notGone 10 = .ok (.iaload, 1) := by decide +kernel
theorem dX10_notGone_11 : decode cX10_notGone 11 = .ok (.if_icmp .ge 27, 3) := by decide +kernel
theorem dX10_notGone_14 : decode cX10_notGone 14 = .ok (.iload_n 1, 1) := by decide +kernel
theorem dX10_notGone_15 : decode cX10_notGone 15 = .ok (.aload_n 0, 1) := by decide +kernel
theorem dX10_notGone_16 : decode cX10_notGone 16 = .ok (.iload_n 2, 1) := by decide +kernel
theorem dX10_notGone_17 : decode cX10_notGone 17 = .ok (.invokevirtual 129, 3) := by decide +kernel
theorem dX10_notGone_20 : decode cX10_notGone 20 = .ok (.ifCond .eq 7, 3) := by decide +kernel
theorem dX10_notGone_23 : decode cX10_notGone 23 = .ok (.iconst 0, 1) := by decide +kernel
theorem dX10_notGone_24 : decode cX10_notGone 24 = .ok (.goto 6, 3) := by decide +kernel
theorem dX10_notGone_27 : decode cX10_notGone 27 = .ok (.iconst 1, 1) := by decide +kernel
theorem dX10_notGone_28 : decode cX10_notGone 28 = .ok (.iload_n 2, 1) := by decide +kernel
theorem dX10_notGone_29 : decode cX10_notGone 29 = .ok (.ishl, 1) := by decide +kernel
theorem dX10_notGone_30 : decode cX10_notGone 30 = .ok (.ior, 1) := by decide +kernel
theorem dX10_notGone_31 : decode cX10_notGone 31 = .ok (.istore_n 1, 1) := by decide +kernel
theorem dX10_notGone_32 : decode cX10_notGone 32 = .ok (.iinc 2 1, 3) := by decide +kernel
theorem dX10_notGone_35 : decode cX10_notGone 35 = .ok (.goto (-31), 3) := by decide +kernel
theorem dX10_notGone_38 : decode cX10_notGone 38 = .ok (.iload_n 1, 1) := by decide +kernel
theorem dX10_notGone_39 : decode cX10_notGone 39 = .ok (.ireturn, 1) := by decide +kernel
theorem dX10_fell_0 : decode cX10_fell 0 = .ok (.iconst 0, 1) := by decide +kernel
theorem dX10_fell_1 : decode cX10_fell 1 = .ok (.istore_n 1, 1) := by decide +kernel
theorem dX10_fell_2 : decode cX10_fell 2 = .ok (.iconst 0, 1) := by decide +kernel
theorem dX10_fell_3 : decode cX10_fell 3 = .ok (.istore_n 2, 1) := by decide +kernel
theorem dX10_fell_4 : decode cX10_fell 4 = .ok (.iload_n 2, 1) := by decide +kernel
theorem dX10_fell_5 : decode cX10_fell 5 = .ok (.bipush 16, 2) := by decide +kernel
theorem dX10_fell_7 : decode cX10_fell 7 = .ok (.if_icmp .ge 21, 3) := by decide +kernel
theorem dX10_fell_10 : decode cX10_fell 10 = .ok (.iload_n 1, 1) := by decide +kernel
theorem dX10_fell_11 : decode cX10_fell 11 = .ok (.aload_n 0, 1) := by decide +kernel
theorem dX10_fell_12 : decode cX10_fell 12 = .ok (.getfield 22, 3) := by decide +kernel
theorem dX10_fell_15 : decode cX10_fell 15 = .ok (.bipush 29, 2) := by decide +kernel
theorem dX10_fell_17 : decode cX10_fell 17 = .ok (.iload_n 2, 1) := by decide +kernel
theorem dX10_fell_18 : decode cX10_fell 18 = .ok (.iadd, 1) := by decide +kernel
theorem dX10_fell_19 : decode cX10_fell 19 = .ok (.iaload, 1) := by decide +kernel
theorem dX10_fell_20 : decode cX10_fell 20 = .ok (.iadd, 1) := by decide +kernel
theorem dX10_fell_21 : decode cX10_fell 21 = .ok (.istore_n 1, 1) := by decide +kernel
theorem dX10_fell_22 : decode cX10_fell 22 = .ok (.iinc 2 1, 3) := by decide +kernel
theorem dX10_fell_25 : decode cX10_fell 25 = .ok (.goto (-21), 3) := by decide +kernel
theorem dX10_fell_28 : decode cX10_fell 28 = .ok (.iload_n 1, 1) := by decide +kernel
theorem dX10_fell_29 : decode cX10_fell 29 = .ok (.ireturn, 1) := by decide +kernel
theorem dX10_goesOn_0 : decode cX10_goesOn 0 = .ok (.iconst 4, 1) := by decide +kernel
theorem dX10_goesOn_1 : decode cX10_goesOn 1 = .ok (.iconst 5, 1) := by decide +kernel
theorem dX10_goesOn_2 : decode cX10_goesOn 2 = .ok (.iload_n 1, 1) := by decide +kernel
theorem dX10_goesOn_3 : decode cX10_goesOn 3 = .ok (.imul, 1) := by decide +kernel
theorem dX10_goesOn_4 : decode cX10_goesOn 4 = .ok (.iadd, 1) := by decide +kernel
theorem dX10_goesOn_5 : decode cX10_goesOn 5 = .ok (.istore_n 2, 1) := by decide +kernel
theorem dX10_goesOn_6 : decode cX10_goesOn 6 = .ok (.aload_n 0, 1) := by decide +kernel
theorem dX10_goesOn_7 : decode cX10_goesOn 7 = .ok (.getfield 22, 3) := by decide +kernel
theorem dX10_goesOn_10 : decode cX10_goesOn 10 = .ok (.iload_n 2, 1) := by decide +kernel
theorem dX10_goesOn_11 : decode cX10_goesOn 11 = .ok (.iaload, 1) := by decide +kernel
theorem dX10_goesOn_12 : decode cX10_goesOn 12 = .ok (.istore_n 3, 1) := by decide +kernel
theorem dX10_goesOn_13 : decode cX10_goesOn 13 = .ok (.aload_n 0, 1) := by decide +kernel
theorem dX10_goesOn_14 : decode cX10_goesOn 14 = .ok (.getfield 22, 3) := by decide +kernel
theorem dX10_goesOn_17 : decode cX10_goesOn 17 = .ok (.iload_n 2, 1) := by decide +kernel
theorem dX10_goesOn_18 : decode cX10_goesOn 18 = .ok (.iconst 1, 1) := by decide +kernel
theorem dX10_goesOn_19 : decode cX10_goesOn 19 = .ok (.iadd, 1) := by decide +kernel
theorem dX10_goesOn_20 : decode cX10_goesOn 20 = .ok (.iload_n 3, 1) := by decide +kernel
theorem dX10_goesOn_21 : decode cX10_goesOn 21 = .ok (.iconst 3, 1) := by decide +kernel
theorem dX10_goesOn_22 : decode cX10_goesOn 22 = .ok (.if_icmp .le 14, 3) := by decide +kernel
theorem dX10_goesOn_25 : decode cX10_goesOn 25 = .ok (.aload_n 0, 1) := by decide +kernel
theorem dX10_goesOn_26 : decode cX10_goesOn 26 = .ok (.getfield 22, 3) := by decide +kernel
theorem dX10_goesOn_29 : decode cX10_goesOn 29 = .ok (.iload_n 2, 1) := by decide +kernel
theorem dX10_goesOn_30 : decode cX10_goesOn 30 = .ok (.iconst 1, 1) := by decide +kernel
theorem dX10_goesOn_31 : decode cX10_goesOn 31 = .ok (.iadd, 1) := by decide +kernel
theorem dX10_goesOn_32 : decode cX10_goesOn 32 = .ok (.iaload, 1) := by decide +kernel
theorem dX10_goesOn_33 : decode cX10_goesOn 33 = .ok (.goto 32, 3) := by decide +kernel
theorem dX10_goesOn_36 : decode cX10_goesOn 36 = .ok (.aload_n 0, 1) := by decide +kernel
theorem dX10_goesOn_37 : decode cX10_goesOn 37 = .ok (.getfield 22, 3) := by decide +kernel
theorem dX10_goesOn_40 : decode cX10_goesOn 40 = .ok (.iload_n 2, 1) := by decide +kernel
theorem dX10_goesOn_41 : decode cX10_goesOn 41 = .ok (.iconst 1, 1) := by decide +kernel
theorem dX10_goesOn_42 : decode cX10_goesOn 42 = .ok (.iadd, 1) := by decide +kernel
theorem dX10_goesOn_43 : decode cX10_goesOn 43 = .ok (.iaload, 1) := by decide +kernel
theorem dX10_goesOn_44 : decode cX10_goesOn 44 = .ok (.aload_n 0, 1) := by decide +kernel
theorem dX10_goesOn_45 : decode cX10_goesOn 45 = .ok (.getfield 22, 3) := by decide +kernel
theorem dX10_goesOn_48 : decode cX10_goesOn 48 = .ok (.iconst 1, 1) := by decide +kernel
theorem dX10_goesOn_49 : decode cX10_goesOn 49 = .ok (.iaload, 1) := by decide +kernel
theorem dX10_goesOn_50 : decode cX10_goesOn 50 = .ok (.iadd, 1) := by decide +kernel
theorem dX10_goesOn_51 : decode cX10_goesOn 51 = .ok (.iload_n 3, 1) := by decide +kernel
theorem dX10_goesOn_52 : decode cX10_goesOn 52 = .ok (.iconst 2, 1) := by decide +kernel
theorem dX10_goesOn_53 : decode cX10_goesOn 53 = .ok (.if_icmp .ne 7, 3) := by decide +kernel
theorem dX10_goesOn_56 : decode cX10_goesOn 56 = .ok (.iconst 1, 1) := by decide +kernel
theorem dX10_goesOn_57 : decode cX10_goesOn 57 = .ok (.goto 4, 3) := by decide +kernel
theorem dX10_goesOn_60 : decode cX10_goesOn 60 = .ok (.iconst 0, 1) := by decide +kernel
theorem dX10_goesOn_61 : decode cX10_goesOn 61 = .ok (.iadd, 1) := by decide +kernel
theorem dX10_goesOn_62 : decode cX10_goesOn 62 = .ok (.bipush 16, 2) := by decide +kernel
theorem dX10_goesOn_64 : decode cX10_goesOn 64 = .ok (.irem, 1) := by decide +kernel
theorem dX10_goesOn_65 : decode cX10_goesOn 65 = .ok (.iastore, 1) := by decide +kernel
theorem dX10_goesOn_66 : decode cX10_goesOn 66 = .ok (.aload_n 0, 1) := by decide +kernel
theorem dX10_goesOn_67 : decode cX10_goesOn 67 = .ok (.getfield 22, 3) := by decide +kernel
theorem dX10_goesOn_70 : decode cX10_goesOn 70 = .ok (.iload_n 2, 1) := by decide +kernel
theorem dX10_goesOn_71 : decode cX10_goesOn 71 = .ok (.iconst 2, 1) := by decide +kernel
theorem dX10_goesOn_72 : decode cX10_goesOn 72 = .ok (.iadd, 1) := by decide +kernel
theorem dX10_goesOn_73 : decode cX10_goesOn 73 = .ok (.dup2, 1) := by decide +kernel
theorem dX10_goesOn_74 : decode cX10_goesOn 74 = .ok (.iaload, 1) := by decide +kernel
theorem dX10_goesOn_75 : decode cX10_goesOn 75 = .ok (.iload_n 3, 1) := by decide +kernel
theorem dX10_goesOn_76 : decode cX10_goesOn 76 = .ok (.iconst 2, 1) := by decide +kernel
theorem dX10_goesOn_77 : decode cX10_goesOn 77 = .ok (.if_icmp .ne 31, 3) := by decide +kernel
theorem dX10_goesOn_80 : decode cX10_goesOn 80 = .ok (.aload_n 0, 1) := by decide +kernel
theorem dX10_goesOn_81 : decode cX10_goesOn 81 = .ok (.getfield 22, 3) := by decide +kernel
theorem dX10_goesOn_84 : decode cX10_goesOn 84 = .ok (.iconst 3, 1) := by decide +kernel
theorem dX10_goesOn_85 : decode cX10_goesOn 85 = .ok (.iaload, 1) := by decide +kernel
theorem dX10_goesOn_86 : decode cX10_goesOn 86 = .ok (.iconst 2, 1) := by decide +kernel
theorem dX10_goesOn_87 : decode cX10_goesOn 87 = .ok (.irem, 1) := by decide +kernel
theorem dX10_goesOn_88 : decode cX10_goesOn 88 = .ok (.ifCond .ne 20, 3) := by decide +kernel
theorem dX10_goesOn_91 : decode cX10_goesOn 91 = .ok (.aload_n 0, 1) := by decide +kernel
theorem dX10_goesOn_92 : decode cX10_goesOn 92 = .ok (.getfield 22, 3) := by decide +kernel
theorem dX10_goesOn_95 : decode cX10_goesOn 95 = .ok (.iload_n 2, 1) := by decide +kernel
theorem dX10_goesOn_96 : decode cX10_goesOn 96 = .ok (.iconst 2, 1) := by decide +kernel
theorem dX10_goesOn_97 : decode cX10_goesOn 97 = .ok (.iadd, 1) := by decide +kernel
theorem dX10_goesOn_98 : decode cX10_goesOn 98 = .ok (.iaload, 1) := by decide +kernel
theorem dX10_goesOn_99 : decode cX10_goesOn 99 = .ok (.bipush 8, 2) := by decide +kernel
theorem dX10_goesOn_101 : decode cX10_goesOn 101 = .ok (.if_icmp .ge 7, 3) := by decide +kernel
theorem dX10_goesOn_104 : decode cX10_goesOn 104 = .ok (.iconst 1, 1) := by decide +kernel
theorem dX10_goesOn_105 : decode cX10_goesOn 105 = .ok (.goto 4, 3) := by decide +kernel
theorem dX10_goesOn_108 : decode cX10_goesOn 108 = .ok (.iconst 0, 1) := by decide +kernel
theorem dX10_goesOn_109 : decode cX10_goesOn 109 = .ok (.iadd, 1) := by decide +kernel
theorem dX10_goesOn_110 : decode cX10_goesOn 110 = .ok (.iastore, 1) := by decide +kernel
theorem dX10_goesOn_111 : decode cX10_goesOn 111 = .ok (.return_, 1) := by decide +kernel
theorem dX10_rainsOf_0 : decode cX10_rainsOf 0 = .ok (.iconst 4, 1) := by decide +kernel
theorem dX10_rainsOf_1 : decode cX10_rainsOf 1 = .ok (.iconst 5, 1) := by decide +kernel
theorem dX10_rainsOf_2 : decode cX10_rainsOf 2 = .ok (.iload_n 1, 1) := by decide +kernel
theorem dX10_rainsOf_3 : decode cX10_rainsOf 3 = .ok (.imul, 1) := by decide +kernel
theorem dX10_rainsOf_4 : decode cX10_rainsOf 4 = .ok (.iadd, 1) := by decide +kernel
theorem dX10_rainsOf_5 : decode cX10_rainsOf 5 = .ok (.istore_n 2, 1) := by decide +kernel
theorem dX10_rainsOf_6 : decode cX10_rainsOf 6 = .ok (.aload_n 0, 1) := by decide +kernel
theorem dX10_rainsOf_7 : decode cX10_rainsOf 7 = .ok (.iload_n 1, 1) := by decide +kernel
theorem dX10_rainsOf_8 : decode cX10_rainsOf 8 = .ok (.aload_n 0, 1) := by decide +kernel
theorem dX10_rainsOf_9 : decode cX10_rainsOf 9 = .ok (.getfield 22, 3) := by decide +kernel
theorem dX10_rainsOf_12 : decode cX10_rainsOf 12 = .ok (.iconst 3, 1) := by decide +kernel
theorem dX10_rainsOf_13 : decode cX10_rainsOf 13 = .ok (.iaload, 1) := by decide +kernel
theorem dX10_rainsOf_14 : decode cX10_rainsOf 14 = .ok (.invokevirtual 135, 3) := by decide +kernel
theorem dX10_rainsOf_17 : decode cX10_rainsOf 17 = .ok (.istore_n 3, 1) := by decide +kernel
theorem dX10_rainsOf_18 : decode cX10_rainsOf 18 = .ok (.aload_n 0, 1) := by decide +kernel
theorem dX10_rainsOf_19 : decode cX10_rainsOf 19 = .ok (.getfield 22, 3) := by decide +kernel
theorem dX10_rainsOf_22 : decode cX10_rainsOf 22 = .ok (.iload_n 2, 1) := by decide +kernel
theorem dX10_rainsOf_23 : decode cX10_rainsOf 23 = .ok (.iconst 2, 1) := by decide +kernel
theorem dX10_rainsOf_24 : decode cX10_rainsOf 24 = .ok (.iadd, 1) := by decide +kernel
theorem dX10_rainsOf_25 : decode cX10_rainsOf 25 = .ok (.iaload, 1) := by decide +kernel
theorem dX10_rainsOf_26 : decode cX10_rainsOf 26 = .ok (.iload_n 3, 1) := by decide +kernel
theorem dX10_rainsOf_27 : decode cX10_rainsOf 27 = .ok (.imul, 1) := by decide +kernel
theorem dX10_rainsOf_28 : decode cX10_rainsOf 28 = .ok (.istore 4, 2) := by decide +kernel
theorem dX10_rainsOf_30 : decode cX10_rainsOf 30 = .ok (.iload 4, 2) := by decide +kernel
theorem dX10_rainsOf_32 : decode cX10_rainsOf 32 = .ok (.ifCond .eq 16, 3) := by decide +kernel
theorem dX10_rainsOf_35 : decode cX10_rainsOf 35 = .ok (.aload_n 0, 1) := by decide +kernel
theorem dX10_rainsOf_36 : decode cX10_rainsOf 36 = .ok (.getfield 22, 3) := by decide +kernel
theorem dX10_rainsOf_39 : decode cX10_rainsOf 39 = .ok (.iload_n 2, 1) := by decide +kernel
theorem dX10_rainsOf_40 : decode cX10_rainsOf 40 = .ok (.iconst 3, 1) := by decide +kernel
theorem dX10_rainsOf_41 : decode cX10_rainsOf 41 = .ok (.iadd, 1) := by decide +kernel
theorem dX10_rainsOf_42 : decode cX10_rainsOf 42 = .ok (.iaload, 1) := by decide +kernel
theorem dX10_rainsOf_43 : decode cX10_rainsOf 43 = .ok (.iload 4, 2) := by decide +kernel
theorem dX10_rainsOf_45 : decode cX10_rainsOf 45 = .ok (.if_icmp .ge 16, 3) := by decide +kernel
theorem dX10_rainsOf_48 : decode cX10_rainsOf 48 = .ok (.aload_n 0, 1) := by decide +kernel
theorem dX10_rainsOf_49 : decode cX10_rainsOf 49 = .ok (.getfield 22, 3) := by decide +kernel
theorem dX10_rainsOf_52 : decode cX10_rainsOf 52 = .ok (.iload_n 2, 1) := by decide +kernel
theorem dX10_rainsOf_53 : decode cX10_rainsOf 53 = .ok (.iconst 3, 1) := by decide +kernel
theorem dX10_rainsOf_54 : decode cX10_rainsOf 54 = .ok (.iadd, 1) := by decide +kernel
theorem dX10_rainsOf_55 : decode cX10_rainsOf 55 = .ok (.dup2, 1) := by decide +kernel
theorem dX10_rainsOf_56 : decode cX10_rainsOf 56 = .ok (.iaload, 1) := by decide +kernel
theorem dX10_rainsOf_57 : decode cX10_rainsOf 57 = .ok (.iconst 1, 1) := by decide +kernel
theorem dX10_rainsOf_58 : decode cX10_rainsOf 58 = .ok (.isub, 1) := by decide +kernel
theorem dX10_rainsOf_59 : decode cX10_rainsOf 59 = .ok (.iastore, 1) := by decide +kernel
theorem dX10_rainsOf_60 : decode cX10_rainsOf 60 = .ok (.return_, 1) := by decide +kernel
theorem dX10_rainsOf_61 : decode cX10_rainsOf 61 = .ok (.aload_n 0, 1) := by decide +kernel
theorem dX10_rainsOf_62 : decode cX10_rainsOf 62 = .ok (.iload_n 1, 1) := by decide +kernel
theorem dX10_rainsOf_63 : decode cX10_rainsOf 63 = .ok (.invokevirtual 132, 3) := by decide +kernel
theorem dX10_rainsOf_66 : decode cX10_rainsOf 66 = .ok (.istore 5, 2) := by decide +kernel
theorem dX10_rainsOf_68 : decode cX10_rainsOf 68 = .ok (.iconst 0, 1) := by decide +kernel
theorem dX10_rainsOf_69 : decode cX10_rainsOf 69 = .ok (.istore 6, 2) := by decide +kernel
theorem dX10_rainsOf_71 : decode cX10_rainsOf 71 = .ok (.iload 6, 2) := by decide +kernel
theorem dX10_rainsOf_73 : decode cX10_rainsOf 73 = .ok (.bipush 16, 2) := by decide +kernel
theorem dX10_rainsOf_75 : decode cX10_rainsOf 75 = .ok (.if_icmp .ge 31, 3) := by decide +kernel
theorem dX10_rainsOf_78 : decode cX10_rainsOf 78 = .ok (.aload_n 0, 1) := by decide +kernel
theorem dX10_rainsOf_79 : decode cX10_rainsOf 79 = .ok (.getfield 22, 3) := by decide +kernel
theorem dX10_rainsOf_82 : decode cX10_rainsOf 82 = .ok (.bipush 29, 2) := by decide +kernel
theorem dX10_rainsOf_84 : decode cX10_rainsOf 84 = .ok (.iload 6, 2) := by decide +kernel
theorem dX10_rainsOf_86 : decode cX10_rainsOf 86 = .ok (.iadd, 1) := by decide +kernel
theorem dX10_rainsOf_87 : decode cX10_rainsOf 87 = .ok (.dup2, 1) := by decide +kernel
theorem dX10_rainsOf_88 : decode cX10_rainsOf 88 = .ok (.iaload, 1) := by decide +kernel
theorem dX10_rainsOf_89 : decode cX10_rainsOf 89 = .ok (.iload 5, 2) := by decide +kernel
theorem dX10_rainsOf_91 : decode cX10_rainsOf 91 = .ok (.iload 6, 2) := by decide +kernel
theorem dX10_rainsOf_93 : decode cX10_rainsOf 93 = .ok (.ishr, 1) := by decide +kernel
theorem dX10_rainsOf_94 : decode cX10_rainsOf 94 = .ok (.iconst 1, 1) := by decide +kernel
theorem dX10_rainsOf_95 : decode cX10_rainsOf 95 = .ok (.iand, 1) := by decide +kernel
theorem dX10_rainsOf_96 : decode cX10_rainsOf 96 = .ok (.iload_n 3, 1) := by decide +kernel
theorem dX10_rainsOf_97 : decode cX10_rainsOf 97 = .ok (.imul, 1) := by decide +kernel
theorem dX10_rainsOf_98 : decode cX10_rainsOf 98 = .ok (.iadd, 1) := by decide +kernel
theorem dX10_rainsOf_99 : decode cX10_rainsOf 99 = .ok (.iastore, 1) := by decide +kernel
theorem dX10_rainsOf_100 : decode cX10_rainsOf 100 = .ok (.iinc 6 1, 3) := by decide +kernel
theorem dX10_rainsOf_103 : decode cX10_rainsOf 103 = .ok (.goto (-32), 3) := by decide +kernel
theorem dX10_rainsOf_106 : decode cX10_rainsOf 106 = .ok (.aload_n 0, 1) := by decide +kernel
theorem dX10_rainsOf_107 : decode cX10_rainsOf 107 = .ok (.getfield 22, 3) := by decide +kernel
theorem dX10_rainsOf_110 : decode cX10_rainsOf 110 = .ok (.iload_n 2, 1) := by decide +kernel
theorem dX10_rainsOf_111 : decode cX10_rainsOf 111 = .ok (.iconst 3, 1) := by decide +kernel
theorem dX10_rainsOf_112 : decode cX10_rainsOf 112 = .ok (.iadd, 1) := by decide +kernel
theorem dX10_rainsOf_113 : decode cX10_rainsOf 113 = .ok (.dup2, 1) := by decide +kernel
theorem dX10_rainsOf_114 : decode cX10_rainsOf 114 = .ok (.iaload, 1) := by decide +kernel
theorem dX10_rainsOf_115 : decode cX10_rainsOf 115 = .ok (.iload 4, 2) := by decide +kernel
theorem dX10_rainsOf_117 : decode cX10_rainsOf 117 = .ok (.isub, 1) := by decide +kernel
theorem dX10_rainsOf_118 : decode cX10_rainsOf 118 = .ok (.iastore, 1) := by decide +kernel
theorem dX10_rainsOf_119 : decode cX10_rainsOf 119 = .ok (.return_, 1) := by decide +kernel
theorem dX10_goesBy_0 : decode cX10_goesBy 0 = .ok (.iconst 0, 1) := by decide +kernel
theorem dX10_goesBy_1 : decode cX10_goesBy 1 = .ok (.istore_n 1, 1) := by decide +kernel
theorem dX10_goesBy_2 : decode cX10_goesBy 2 = .ok (.iload_n 1, 1) := by decide +kernel
theorem dX10_goesBy_3 : decode cX10_goesBy 3 = .ok (.aload_n 0, 1) := by decide +kernel
theorem dX10_goesBy_4 : decode cX10_goesBy 4 = .ok (.getfield 22, 3) := by decide +kernel
theorem dX10_goesBy_7 : decode cX10_goesBy 7 = .ok (.iconst 0, 1) := by decide +kernel
theorem dX10_goesBy_8 : decode cX10_goesBy 8 = .ok (.iaload, 1) := by decide +kernel
theorem dX10_goesBy_9 : decode cX10_goesBy 9 = .ok (.if_icmp .ge 27, 3) := by decide +kernel
theorem dX10_goesBy_12 : decode cX10_goesBy 12 = .ok (.aload_n 0, 1) := by decide +kernel
theorem dX10_goesBy_13 : decode cX10_goesBy 13 = .ok (.iload_n 1, 1) := by decide +kernel
theorem dX10_goesBy_14 : decode cX10_goesBy 14 = .ok (.invokevirtual 129, 3) := by decide +kernel
theorem dX10_goesBy_17 : decode cX10_goesBy 17 = .ok (.ifCond .ne 13, 3) := by decide +kernel
theorem dX10_goesBy_20 : decode cX10_goesBy 20 = .ok (.aload_n 0, 1) := by decide +kernel
theorem dX10_goesBy_21 : decode cX10_goesBy 21 = .ok (.iload_n 1, 1) := by decide +kernel
theorem dX10_goesBy_22 : decode cX10_goesBy 22 = .ok (.invokevirtual 138, 3) := by decide +kernel
theorem dX10_goesBy_25 : decode cX10_goesBy 25 = .ok (.aload_n 0, 1) := by decide +kernel
theorem dX10_goesBy_26 : decode cX10_goesBy 26 = .ok (.iload_n 1, 1) := by decide +kernel
theorem dX10_goesBy_27 : decode cX10_goesBy 27 = .ok (.invokevirtual 141, 3) := by decide +kernel
theorem dX10_goesBy_30 : decode cX10_goesBy 30 = .ok (.iinc 1 1, 3) := by decide +kernel
theorem dX10_goesBy_33 : decode cX10_goesBy 33 = .ok (.goto (-31), 3) := by decide +kernel
theorem dX10_goesBy_36 : decode cX10_goesBy 36 = .ok (.aload_n 0, 1) := by decide +kernel
theorem dX10_goesBy_37 : decode cX10_goesBy 37 = .ok (.getfield 22, 3) := by decide +kernel
theorem dX10_goesBy_40 : decode cX10_goesBy 40 = .ok (.iconst 3, 1) := by decide +kernel
theorem dX10_goesBy_41 : decode cX10_goesBy 41 = .ok (.dup2, 1) := by decide +kernel
theorem dX10_goesBy_42 : decode cX10_goesBy 42 = .ok (.iaload, 1) := by decide +kernel
theorem dX10_goesBy_43 : decode cX10_goesBy 43 = .ok (.iconst 1, 1) := by decide +kernel
theorem dX10_goesBy_44 : decode cX10_goesBy 44 = .ok (.iadd, 1) := by decide +kernel
theorem dX10_goesBy_45 : decode cX10_goesBy 45 = .ok (.iastore, 1) := by decide +kernel
theorem dX10_goesBy_46 : decode cX10_goesBy 46 = .ok (.return_, 1) := by decide +kernel
theorem dX10_notes_0 : decode cX10_notes 0 = .ok (.aload_n 0, 1) := by decide +kernel
theorem dX10_notes_1 : decode cX10_notes 1 = .ok (.getfield 121, 3) := by decide +kernel
theorem dX10_notes_4 : decode cX10_notes 4 = .ok (.bipush 24, 2) := by decide +kernel
theorem dX10_notes_6 : decode cX10_notes 6 = .ok (.if_icmp .ne 40, 3) := by decide +kernel
theorem dX10_notes_9 : decode cX10_notes 9 = .ok (.bipush 45, 2) := by decide +kernel
theorem dX10_notes_11 : decode cX10_notes 11 = .ok (.istore_n 1, 1) := by decide +kernel
theorem dX10_notes_12 : decode cX10_notes 12 = .ok (.iload_n 1, 1) := by decide +kernel
theorem dX10_notes_13 : decode cX10_notes 13 = .ok (.sipush 1080, 3) := by decide +kernel
theorem dX10_notes_16 : decode cX10_notes 16 = .ok (.if_icmp .ge 24, 3) := by decide +kernel
theorem dX10_notes_19 : decode cX10_notes 19 = .ok (.aload_n 0, 1) := by decide +kernel
theorem dX10_notes_20 : decode cX10_notes 20 = .ok (.getfield 31, 3) := by decide +kernel
theorem dX10_notes_23 : decode cX10_notes 23 = .ok (.iload_n 1, 1) := by decide +kernel
theorem dX10_notes_24 : decode cX10_notes 24 = .ok (.bipush 45, 2) := by decide +kernel
theorem dX10_notes_26 : decode cX10_notes 26 = .ok (.isub, 1) := by decide +kernel
theorem dX10_notes_27 : decode cX10_notes 27 = .ok (.aload_n 0, 1) := by decide +kernel
theorem dX10_notes_28 : decode cX10_notes 28 = .ok (.getfield 31, 3) := by decide +kernel
theorem dX10_notes_31 : decode cX10_notes 31 = .ok (.iload_n 1, 1) := by decide +kernel
theorem dX10_notes_32 : decode cX10_notes 32 = .ok (.iaload, 1) := by decide +kernel
theorem dX10_notes_33 : decode cX10_notes 33 = .ok (.iastore, 1) := by decide +kernel
theorem dX10_notes_34 : decode cX10_notes 34 = .ok (.iinc 1 1, 3) := by decide +kernel
theorem dX10_notes_37 : decode cX10_notes 37 = .ok (.goto (-25), 3) := by decide +kernel
theorem dX10_notes_40 : decode cX10_notes 40 = .ok (.aload_n 0, 1) := by decide +kernel
theorem dX10_notes_41 : decode cX10_notes 41 = .ok (.bipush 23, 2) := by decide +kernel
theorem dX10_notes_43 : decode cX10_notes 43 = .ok (.putfield 121, 3) := by decide +kernel
theorem dX10_notes_46 : decode cX10_notes 46 = .ok (.iconst 0, 1) := by decide +kernel
theorem dX10_notes_47 : decode cX10_notes 47 = .ok (.istore_n 1, 1) := by decide +kernel
theorem dX10_notes_48 : decode cX10_notes 48 = .ok (.iload_n 1, 1) := by decide +kernel
theorem dX10_notes_49 : decode cX10_notes 49 = .ok (.bipush 45, 2) := by decide +kernel
theorem dX10_notes_51 : decode cX10_notes 51 = .ok (.if_icmp .ge 29, 3) := by decide +kernel
theorem dX10_notes_54 : decode cX10_notes 54 = .ok (.aload_n 0, 1) := by decide +kernel
theorem dX10_notes_55 : decode cX10_notes 55 = .ok (.getfield 31, 3) := by decide +kernel
theorem dX10_notes_58 : decode cX10_notes 58 = .ok (.bipush 45, 2) := by decide +kernel
theorem dX10_notes_60 : decode cX10_notes 60 = .ok (.aload_n 0, 1) := by decide +kernel
theorem dX10_notes_61 : decode cX10_notes 61 = .ok (.getfield 121, 3) := by decide +kernel
theorem dX10_notes_64 : decode cX10_notes 64 = .ok (.imul, 1) := by decide +kernel
theorem dX10_notes_65 : decode cX10_notes 65 = .ok (.iload_n 1, 1) := by decide +kernel
theorem dX10_notes_66 : decode cX10_notes 66 = .ok (.iadd, 1) := by decide +kernel
theorem dX10_notes_67 : decode cX10_notes 67 = .ok (.aload_n 0, 1) := by decide +kernel
theorem dX10_notes_68 : decode cX10_notes 68 = .ok (.getfield 22, 3) := by decide +kernel
theorem dX10_notes_71 : decode cX10_notes 71 = .ok (.iload_n 1, 1) := by decide +kernel
theorem dX10_notes_72 : decode cX10_notes 72 = .ok (.iaload, 1) := by decide +kernel
theorem dX10_notes_73 : decode cX10_notes 73 = .ok (.iastore, 1) := by decide +kernel
theorem dX10_notes_74 : decode cX10_notes 74 = .ok (.iinc 1 1, 3) := by decide +kernel
theorem dX10_notes_77 : decode cX10_notes 77 = .ok (.goto (-29), 3) := by decide +kernel
theorem dX10_notes_80 : decode cX10_notes 80 = .ok (.aload_n 0, 1) := by decide +kernel
theorem dX10_notes_81 : decode cX10_notes 81 = .ok (.dup, 1) := by decide +kernel
theorem dX10_notes_82 : decode cX10_notes 82 = .ok (.getfield 121, 3) := by decide +kernel
theorem dX10_notes_85 : decode cX10_notes 85 = .ok (.iconst 1, 1) := by decide +kernel
theorem dX10_notes_86 : decode cX10_notes 86 = .ok (.iadd, 1) := by decide +kernel
theorem dX10_notes_87 : decode cX10_notes 87 = .ok (.putfield 121, 3) := by decide +kernel
theorem dX10_notes_90 : decode cX10_notes 90 = .ok (.return_, 1) := by decide +kernel
theorem dX10_undo_0 : decode cX10_undo 0 = .ok (.aload_n 0, 1) := by decide +kernel
theorem dX10_undo_1 : decode cX10_undo 1 = .ok (.getfield 121, 3) := by decide +kernel
theorem dX10_undo_4 : decode cX10_undo 4 = .ok (.ifCond .ne 6, 3) := by decide +kernel
theorem dX10_undo_7 : decode cX10_undo 7 = .ok (.ldc 144, 2) := by decide +kernel
theorem dX10_undo_9 : decode cX10_undo 9 = .ok (.ireturn, 1) := by decide +kernel
theorem dX10_undo_10 : decode cX10_undo 10 = .ok (.aload_n 0, 1) := by decide +kernel
theorem dX10_undo_11 : decode cX10_undo 11 = .ok (.dup, 1) := by decide +kernel
theorem dX10_undo_12 : decode cX10_undo 12 = .ok (.getfield 121, 3) := by decide +kernel
theorem dX10_undo_15 : decode cX10_undo 15 = .ok (.iconst 1, 1) := by decide +kernel
theorem dX10_undo_16 : decode cX10_undo 16 = .ok (.isub, 1) := by decide +kernel
theorem dX10_undo_17 : decode cX10_undo 17 = .ok (.putfield 121, 3) := by decide +kernel
theorem dX10_undo_20 : decode cX10_undo 20 = .ok (.iconst 0, 1) := by decide +kernel
theorem dX10_undo_21 : decode cX10_undo 21 = .ok (.istore_n 1, 1) := by decide +kernel
theorem dX10_undo_22 : decode cX10_undo 22 = .ok (.iload_n 1, 1) := by decide +kernel
theorem dX10_undo_23 : decode cX10_undo 23 = .ok (.bipush 45, 2) := by decide +kernel
theorem dX10_undo_25 : decode cX10_undo 25 = .ok (.if_icmp .ge 29, 3) := by decide +kernel
theorem dX10_undo_28 : decode cX10_undo 28 = .ok (.aload_n 0, 1) := by decide +kernel
theorem dX10_undo_29 : decode cX10_undo 29 = .ok (.getfield 22, 3) := by decide +kernel
theorem dX10_undo_32 : decode cX10_undo 32 = .ok (.iload_n 1, 1) := by decide +kernel
theorem dX10_undo_33 : decode cX10_undo 33 = .ok (.aload_n 0, 1) := by decide +kernel
theorem dX10_undo_34 : decode cX10_undo 34 = .ok (.getfield 31, 3) := by decide +kernel
theorem dX10_undo_37 : decode cX10_undo 37 = .ok (.bipush 45, 2) := by decide +kernel
theorem dX10_undo_39 : decode cX10_undo 39 = .ok (.aload_n 0, 1) := by decide +kernel
theorem dX10_undo_40 : decode cX10_undo 40 = .ok (.getfield 121, 3) := by decide +kernel
theorem dX10_undo_43 : decode cX10_undo 43 = .ok (.imul, 1) := by decide +kernel
theorem dX10_undo_44 : decode cX10_undo 44 = .ok (.iload_n 1, 1) := by decide +kernel
theorem dX10_undo_45 : decode cX10_undo 45 = .ok (.iadd, 1) := by decide +kernel
theorem dX10_undo_46 : decode cX10_undo 46 = .ok (.iaload, 1) := by decide +kernel
theorem dX10_undo_47 : decode cX10_undo 47 = .ok (.iastore, 1) := by decide +kernel
theorem dX10_undo_48 : decode cX10_undo 48 = .ok (.iinc 1 1, 3) := by decide +kernel
theorem dX10_undo_51 : decode cX10_undo 51 = .ok (.goto (-29), 3) := by decide +kernel
theorem dX10_undo_54 : decode cX10_undo 54 = .ok (.aload_n 0, 1) := by decide +kernel
theorem dX10_undo_55 : decode cX10_undo 55 = .ok (.getfield 121, 3) := by decide +kernel
theorem dX10_undo_58 : decode cX10_undo 58 = .ok (.ireturn, 1) := by decide +kernel
theorem dX10_days_0 : decode cX10_days 0 = .ok (.aload_n 0, 1) := by decide +kernel
theorem dX10_days_1 : decode cX10_days 1 = .ok (.getfield 117, 3) := by decide +kernel
theorem dX10_days_4 : decode cX10_days 4 = .ok (.ifCond .ne 6, 3) := by decide +kernel
theorem dX10_days_7 : decode cX10_days 7 = .ok (.ldc 144, 2) := by decide +kernel
theorem dX10_days_9 : decode cX10_days 9 = .ok (.ireturn, 1) := by decide +kernel
theorem dX10_days_10 : decode cX10_days 10 = .ok (.iload_n 1, 1) := by decide +kernel
theorem dX10_days_11 : decode cX10_days 11 = .ok (.i2l, 1) := by decide +kernel
theorem dX10_days_12 : decode cX10_days 12 = .ok (.lconst 1, 1) := by decide +kernel
theorem dX10_days_13 : decode cX10_days 13 = .ok (.ldc2_w 145, 3) := by decide +kernel
theorem dX10_days_16 : decode cX10_days 16 = .ok (.invokestatic 50, 3) := by decide +kernel
theorem dX10_days_19 : decode cX10_days 19 = .ok (.ifCond .ne 6, 3) := by decide +kernel
theorem dX10_days_22 : decode cX10_days 22 = .ok (.ldc 60, 2) := by decide +kernel
theorem dX10_days_24 : decode cX10_days 24 = .ok (.ireturn, 1) := by decide +kernel
theorem dX10_days_25 : decode cX10_days 25 = .ok (.aload_n 0, 1) := by decide +kernel
theorem dX10_days_26 : decode cX10_days 26 = .ok (.getfield 22, 3) := by decide +kernel
theorem dX10_days_29 : decode cX10_days 29 = .ok (.iconst 3, 1) := by decide +kernel
theorem dX10_days_30 : decode cX10_days 30 = .ok (.iaload, 1) := by decide +kernel
theorem dX10_days_31 : decode cX10_days 31 = .ok (.iload_n 1, 1) := by decide +kernel
theorem dX10_days_32 : decode cX10_days 32 = .ok (.iadd, 1) := by decide +kernel
theorem dX10_days_33 : decode cX10_days 33 = .ok (.sipush 999, 3) := by decide +kernel
theorem dX10_days_36 : decode cX10_days 36 = .ok (.if_icmp .le 6, 3) := by decide +kernel
theorem dX10_days_39 : decode cX10_days 39 = .ok (.ldc 77, 2) := by decide +kernel
theorem dX10_days_41 : decode cX10_days 41 = .ok (.ireturn, 1) := by decide +kernel
theorem dX10_days_42 : decode cX10_days 42 = .ok (.aload_n 0, 1) := by decide +kernel
theorem dX10_days_43 : decode cX10_days 43 = .ok (.invokevirtual 147, 3) := by decide +kernel
theorem dX10_days_46 : decode cX10_days 46 = .ok (.istore_n 2, 1) := by decide +kernel
theorem dX10_days_47 : decode cX10_days 47 = .ok (.iconst 0, 1) := by decide +kernel
theorem dX10_days_48 : decode cX10_days 48 = .ok (.istore_n 3, 1) := by decide +kernel
theorem dX10_days_49 : decode cX10_days 49 = .ok (.iload_n 3, 1) := by decide +kernel
theorem dX10_days_50 : decode cX10_days 50 = .ok (.iload_n 1, 1) := by decide +kernel
theorem dX10_days_51 : decode cX10_days 51 = .ok (.if_icmp .ge 17, 3) := by decide +kernel
theorem dX10_days_54 : decode cX10_days 54 = .ok (.aload_n 0, 1) := by decide +kernel
theorem dX10_days_55 : decode cX10_days 55 = .ok (.invokevirtual 150, 3) := by decide +kernel
theorem dX10_days_58 : decode cX10_days 58 = .ok (.aload_n 0, 1) := by decide +kernel
theorem dX10_days_59 : decode cX10_days 59 = .ok (.invokevirtual 153, 3) := by decide +kernel
theorem dX10_days_62 : decode cX10_days 62 = .ok (.iinc 3 1, 3) := by decide +kernel
theorem dX10_days_65 : decode cX10_days 65 = .ok (.goto (-16), 3) := by decide +kernel
theorem dX10_days_68 : decode cX10_days 68 = .ok (.aload_n 0, 1) := by decide +kernel
theorem dX10_days_69 : decode cX10_days 69 = .ok (.invokevirtual 147, 3) := by decide +kernel
theorem dX10_days_72 : decode cX10_days 72 = .ok (.iload_n 2, 1) := by decide +kernel
theorem dX10_days_73 : decode cX10_days 73 = .ok (.isub, 1) := by decide +kernel
theorem dX10_days_74 : decode cX10_days 74 = .ok (.ireturn, 1) := by decide +kernel
theorem dX10_wind_0 : decode cX10_wind 0 = .ok (.aload_n 0, 1) := by decide +kernel
theorem dX10_wind_1 : decode cX10_wind 1 = .ok (.getfield 117, 3) := by decide +kernel
theorem dX10_wind_4 : decode cX10_wind 4 = .ok (.ifCond .ne 6, 3) := by decide +kernel
theorem dX10_wind_7 : decode cX10_wind 7 = .ok (.ldc 144, 2) := by decide +kernel
theorem dX10_wind_9 : decode cX10_wind 9 = .ok (.ireturn, 1) := by decide +kernel
theorem dX10_wind_10 : decode cX10_wind 10 = .ok (.iload_n 1, 1) := by decide +kernel
theorem dX10_wind_11 : decode cX10_wind 11 = .ok (.i2l, 1) := by decide +kernel
theorem dX10_wind_12 : decode cX10_wind 12 = .ok (.lconst 0, 1) := by decide +kernel
theorem dX10_wind_13 : decode cX10_wind 13 = .ok (.ldc2_w 124, 3) := by decide +kernel
theorem dX10_wind_16 : decode cX10_wind 16 = .ok (.invokestatic 50, 3) := by decide +kernel
theorem dX10_wind_19 : decode cX10_wind 19 = .ok (.ifCond .ne 6, 3) := by decide +kernel
theorem dX10_wind_22 : decode cX10_wind 22 = .ok (.ldc 60, 2) := by decide +kernel
theorem dX10_wind_24 : decode cX10_wind 24 = .ok (.ireturn, 1) := by decide +kernel
theorem dX10_wind_25 : decode cX10_wind 25 = .ok (.aload_n 0, 1) := by decide +kernel
theorem dX10_wind_26 : decode cX10_wind 26 = .ok (.invokevirtual 150, 3) := by decide +kernel
theorem dX10_wind_29 : decode cX10_wind 29 = .ok (.aload_n 0, 1) := by decide +kernel
theorem dX10_wind_30 : decode cX10_wind 30 = .ok (.getfield 22, 3) := by decide +kernel
theorem dX10_wind_33 : decode cX10_wind 33 = .ok (.iconst 1, 1) := by decide +kernel
theorem dX10_wind_34 : decode cX10_wind 34 = .ok (.iaload, 1) := by decide +kernel
theorem dX10_wind_35 : decode cX10_wind 35 = .ok (.istore_n 2, 1) := by decide +kernel
theorem dX10_wind_36 : decode cX10_wind 36 = .ok (.aload_n 0, 1) := by decide +kernel
theorem dX10_wind_37 : decode cX10_wind 37 = .ok (.getfield 22, 3) := by decide +kernel
theorem dX10_wind_40 : decode cX10_wind 40 = .ok (.iconst 1, 1) := by decide +kernel
theorem dX10_wind_41 : decode cX10_wind 41 = .ok (.iload_n 1, 1) := by decide +kernel
theorem dX10_wind_42 : decode cX10_wind 42 = .ok (.iastore, 1) := by decide +kernel
theorem dX10_wind_43 : decode cX10_wind 43 = .ok (.iload_n 2, 1) := by decide +kernel
theorem dX10_wind_44 : decode cX10_wind 44 = .ok (.ireturn, 1) := by decide +kernel
theorem dX10_tow_0 : decode cX10_tow 0 = .ok (.aload_n 0, 1) := by decide +kernel
theorem dX10_tow_1 : decode cX10_tow 1 = .ok (.iload_n 1, 1) := by decide +kernel
theorem dX10_tow_2 : decode cX10_tow 2 = .ok (.invokevirtual 156, 3) := by decide +kernel
theorem dX10_tow_5 : decode cX10_tow 5 = .ok (.ifCond .eq 15, 3) := by decide +kernel
theorem dX10_tow_8 : decode cX10_tow 8 = .ok (.iload_n 2, 1) := by decide +kernel
theorem dX10_tow_9 : decode cX10_tow 9 = .ok (.i2l, 1) := by decide +kernel
theorem dX10_tow_10 : decode cX10_tow 10 = .ok (.lconst 1, 1) := by decide +kernel
theorem dX10_tow_11 : decode cX10_tow 11 = .ok (.ldc2_w 124, 3) := by decide +kernel
theorem dX10_tow_14 : decode cX10_tow 14 = .ok (.invokestatic 50, 3) := by decide +kernel
theorem dX10_tow_17 : decode cX10_tow 17 = .ok (.ifCond .ne 6, 3) := by decide +kernel
theorem dX10_tow_20 : decode cX10_tow 20 = .ok (.ldc 60, 2) := by decide +kernel
theorem dX10_tow_22 : decode cX10_tow 22 = .ok (.ireturn, 1) := by decide +kernel
theorem dX10_tow_23 : decode cX10_tow 23 = .ok (.aload_n 0, 1) := by decide +kernel
theorem dX10_tow_24 : decode cX10_tow 24 = .ok (.iload_n 1, 1) := by decide +kernel
theorem dX10_tow_25 : decode cX10_tow 25 = .ok (.invokevirtual 129, 3) := by decide +kernel
theorem dX10_tow_28 : decode cX10_tow 28 = .ok (.ifCond .eq 6, 3) := by decide +kernel
theorem dX10_tow_31 : decode cX10_tow 31 = .ok (.ldc 144, 2) := by decide +kernel
theorem dX10_tow_33 : decode cX10_tow 33 = .ok (.ireturn, 1) := by decide +kernel
theorem dX10_tow_34 : decode cX10_tow 34 = .ok (.aload_n 0, 1) := by decide +kernel
theorem dX10_tow_35 : decode cX10_tow 35 = .ok (.invokevirtual 150, 3) := by decide +kernel
theorem dX10_tow_38 : decode cX10_tow 38 = .ok (.iconst 4, 1) := by decide +kernel
theorem dX10_tow_39 : decode cX10_tow 39 = .ok (.iconst 5, 1) := by decide +kernel
theorem dX10_tow_40 : decode cX10_tow 40 = .ok (.iload_n 1, 1) := by decide +kernel
theorem dX10_tow_41 : decode cX10_tow 41 = .ok (.imul, 1) := by decide +kernel
theorem dX10_tow_42 : decode cX10_tow 42 = .ok (.iadd, 1) := by decide +kernel
theorem dX10_tow_43 : decode cX10_tow 43 = .ok (.iconst 1, 1) := by decide +kernel
theorem dX10_tow_44 : decode cX10_tow 44 = .ok (.iadd, 1) := by decide +kernel
theorem dX10_tow_45 : decode cX10_tow 45 = .ok (.istore_n 3, 1) := by decide +kernel
theorem dX10_tow_46 : decode cX10_tow 46 = .ok (.aload_n 0, 1) := by decide +kernel
theorem dX10_tow_47 : decode cX10_tow 47 = .ok (.getfield 22, 3) := by decide +kernel
theorem dX10_tow_50 : decode cX10_tow 50 = .ok (.iload_n 3, 1) := by decide +kernel
theorem dX10_tow_51 : decode cX10_tow 51 = .ok (.aload_n 0, 1) := by decide +kernel
theorem dX10_tow_52 : decode cX10_tow 52 = .ok (.getfield 22, 3) := by decide +kernel
theorem dX10_tow_55 : decode cX10_tow 55 = .ok (.iload_n 3, 1) := by decide +kernel
theorem dX10_tow_56 : decode cX10_tow 56 = .ok (.iaload, 1) := by decide +kernel
theorem dX10_tow_57 : decode cX10_tow 57 = .ok (.iload_n 2, 1) := by decide +kernel
theorem dX10_tow_58 : decode cX10_tow 58 = .ok (.iadd, 1) := by decide +kernel
theorem dX10_tow_59 : decode cX10_tow 59 = .ok (.bipush 16, 2) := by decide +kernel
theorem dX10_tow_61 : decode cX10_tow 61 = .ok (.irem, 1) := by decide +kernel
theorem dX10_tow_62 : decode cX10_tow 62 = .ok (.iastore, 1) := by decide +kernel
theorem dX10_tow_63 : decode cX10_tow 63 = .ok (.aload_n 0, 1) := by decide +kernel
theorem dX10_tow_64 : decode cX10_tow 64 = .ok (.getfield 22, 3) := by decide +kernel
theorem dX10_tow_67 : decode cX10_tow 67 = .ok (.iload_n 3, 1) := by decide +kernel
theorem dX10_tow_68 : decode cX10_tow 68 = .ok (.iaload, 1) := by decide +kernel
theorem dX10_tow_69 : decode cX10_tow 69 = .ok (.ireturn, 1) := by decide +kernel
theorem dX10_silk_0 : decode cX10_silk 0 = .ok (.aload_n 0, 1) := by decide +kernel
theorem dX10_silk_1 : decode cX10_silk 1 = .ok (.iload_n 1, 1) := by decide +kernel
theorem dX10_silk_2 : decode cX10_silk 2 = .ok (.invokevirtual 156, 3) := by decide +kernel
theorem dX10_silk_5 : decode cX10_silk 5 = .ok (.ifCond .ne 6, 3) := by decide +kernel
theorem dX10_silk_8 : decode cX10_silk 8 = .ok (.ldc 60, 2) := by decide +kernel
theorem dX10_silk_10 : decode cX10_silk 10 = .ok (.ireturn, 1) := by decide +kernel
theorem dX10_silk_11 : decode cX10_silk 11 = .ok (.iconst 4, 1) := by decide +kernel
theorem dX10_silk_12 : decode cX10_silk 12 = .ok (.iconst 5, 1) := by decide +kernel
theorem dX10_silk_13 : decode cX10_silk 13 = .ok (.iload_n 1, 1) := by decide +kernel
theorem dX10_silk_14 : decode cX10_silk 14 = .ok (.imul, 1) := by decide +kernel
theorem dX10_silk_15 : decode cX10_silk 15 = .ok (.iadd, 1) := by decide +kernel
theorem dX10_silk_16 : decode cX10_silk 16 = .ok (.iconst 3, 1) := by decide +kernel
theorem dX10_silk_17 : decode cX10_silk 17 = .ok (.iadd, 1) := by decide +kernel
theorem dX10_silk_18 : decode cX10_silk 18 = .ok (.istore_n 2, 1) := by decide +kernel
theorem dX10_silk_19 : decode cX10_silk 19 = .ok (.aload_n 0, 1) := by decide +kernel
theorem dX10_silk_20 : decode cX10_silk 20 = .ok (.getfield 22, 3) := by decide +kernel
theorem dX10_silk_23 : decode cX10_silk 23 = .ok (.iload_n 2, 1) := by decide +kernel
theorem dX10_silk_24 : decode cX10_silk 24 = .ok (.iaload, 1) := by decide +kernel
theorem dX10_silk_25 : decode cX10_silk 25 = .ok (.aload_n 0, 1) := by decide +kernel
theorem dX10_silk_26 : decode cX10_silk 26 = .ok (.getfield 22, 3) := by decide +kernel
theorem dX10_silk_29 : decode cX10_silk 29 = .ok (.iconst 2, 1) := by decide +kernel
theorem dX10_silk_30 : decode cX10_silk 30 = .ok (.iaload, 1) := by decide +kernel
theorem dX10_silk_31 : decode cX10_silk 31 = .ok (.iadd, 1) := by decide +kernel
theorem dX10_silk_32 : decode cX10_silk 32 = .ok (.bipush 99, 2) := by decide +kernel
theorem dX10_silk_34 : decode cX10_silk 34 = .ok (.if_icmp .le 6, 3) := by decide +kernel
theorem dX10_silk_37 : decode cX10_silk 37 = .ok (.ldc 77, 2) := by decide +kernel
theorem dX10_silk_39 : decode cX10_silk 39 = .ok (.ireturn, 1) := by decide +kernel
theorem dX10_silk_40 : decode cX10_silk 40 = .ok (.aload_n 0, 1) := by decide +kernel
theorem dX10_silk_41 : decode cX10_silk 41 = .ok (.invokevirtual 150, 3) := by decide +kernel
theorem dX10_silk_44 : decode cX10_silk 44 = .ok (.aload_n 0, 1) := by decide +kernel
theorem dX10_silk_45 : decode cX10_silk 45 = .ok (.getfield 22, 3) := by decide +kernel
theorem dX10_silk_48 : decode cX10_silk 48 = .ok (.iload_n 2, 1) := by decide +kernel
theorem dX10_silk_49 : decode cX10_silk 49 = .ok (.dup2, 1) := by decide +kernel
theorem dX10_silk_50 : decode cX10_silk 50 = .ok (.iaload, 1) := by decide +kernel
theorem dX10_silk_51 : decode cX10_silk 51 = .ok (.aload_n 0, 1) := by decide +kernel
theorem dX10_silk_52 : decode cX10_silk 52 = .ok (.getfield 22, 3) := by decide +kernel
theorem dX10_silk_55 : decode cX10_silk 55 = .ok (.iconst 2, 1) := by decide +kernel
theorem dX10_silk_56 : decode cX10_silk 56 = .ok (.iaload, 1) := by decide +kernel
theorem dX10_silk_57 : decode cX10_silk 57 = .ok (.iadd, 1) := by decide +kernel
theorem dX10_silk_58 : decode cX10_silk 58 = .ok (.iastore, 1) := by decide +kernel
theorem dX10_silk_59 : decode cX10_silk 59 = .ok (.aload_n 0, 1) := by decide +kernel
theorem dX10_silk_60 : decode cX10_silk 60 = .ok (.getfield 22, 3) := by decide +kernel
theorem dX10_silk_63 : decode cX10_silk 63 = .ok (.iload_n 2, 1) := by decide +kernel
theorem dX10_silk_64 : decode cX10_silk 64 = .ok (.iaload, 1) := by decide +kernel
theorem dX10_silk_65 : decode cX10_silk 65 = .ok (.ireturn, 1) := by decide +kernel
theorem dX10_sign_0 : decode cX10_sign 0 = .ok (.aload_n 0, 1) := by decide +kernel
theorem dX10_sign_1 : decode cX10_sign 1 = .ok (.iload_n 1, 1) := by decide +kernel
theorem dX10_sign_2 : decode cX10_sign 2 = .ok (.invokevirtual 156, 3) := by decide +kernel
theorem dX10_sign_5 : decode cX10_sign 5 = .ok (.ifCond .eq 15, 3) := by decide +kernel
theorem dX10_sign_8 : decode cX10_sign 8 = .ok (.iload_n 2, 1) := by decide +kernel
theorem dX10_sign_9 : decode cX10_sign 9 = .ok (.i2l, 1) := by decide +kernel
theorem dX10_sign_10 : decode cX10_sign 10 = .ok (.lconst 0, 1) := by decide +kernel
theorem dX10_sign_11 : decode cX10_sign 11 = .ok (.ldc2_w 159, 3) := by decide +kernel
theorem dX10_sign_14 : decode cX10_sign 14 = .ok (.invokestatic 50, 3) := by decide +kernel
theorem dX10_sign_17 : decode cX10_sign 17 = .ok (.ifCond .ne 6, 3) := by decide +kernel
theorem dX10_sign_20 : decode cX10_sign 20 = .ok (.ldc 60, 2) := by decide +kernel
theorem dX10_sign_22 : decode cX10_sign 22 = .ok (.ireturn, 1) := by decide +kernel
theorem dX10_sign_23 : decode cX10_sign 23 = .ok (.aload_n 0, 1) := by decide +kernel
theorem dX10_sign_24 : decode cX10_sign 24 = .ok (.invokevirtual 150, 3) := by decide +kernel
theorem dX10_sign_27 : decode cX10_sign 27 = .ok (.iconst 4, 1) := by decide +kernel
theorem dX10_sign_28 : decode cX10_sign 28 = .ok (.iconst 5, 1) := by decide +kernel
theorem dX10_sign_29 : decode cX10_sign 29 = .ok (.iload_n 1, 1) := by decide +kernel
theorem dX10_sign_30 : decode cX10_sign 30 = .ok (.imul, 1) := by decide +kernel
theorem dX10_sign_31 : decode cX10_sign 31 = .ok (.iadd, 1) := by decide +kernel
theorem dX10_sign_32 : decode cX10_sign 32 = .ok (.iconst 4, 1) := by decide +kernel
theorem dX10_sign_33 : decode cX10_sign 33 = .ok (.iadd, 1) := by decide +kernel
theorem dX10_sign_34 : decode cX10_sign 34 = .ok (.istore_n 3, 1) := by decide +kernel
theorem dX10_sign_35 : decode cX10_sign 35 = .ok (.aload_n 0, 1) := by decide +kernel
theorem dX10_sign_36 : decode cX10_sign 36 = .ok (.getfield 22, 3) := by decide +kernel
theorem dX10_sign_39 : decode cX10_sign 39 = .ok (.iload_n 3, 1) := by decide +kernel
theorem dX10_sign_40 : decode cX10_sign 40 = .ok (.iaload, 1) := by decide +kernel
theorem dX10_sign_41 : decode cX10_sign 41 = .ok (.istore 4, 2) := by decide +kernel
theorem dX10_sign_43 : decode cX10_sign 43 = .ok (.aload_n 0, 1) := by decide +kernel
theorem dX10_sign_44 : decode cX10_sign 44 = .ok (.getfield 22, 3) := by decide +kernel
theorem dX10_sign_47 : decode cX10_sign 47 = .ok (.iload_n 3, 1) := by decide +kernel
theorem dX10_sign_48 : decode cX10_sign 48 = .ok (.iload_n 2, 1) := by decide +kernel
theorem dX10_sign_49 : decode cX10_sign 49 = .ok (.iastore, 1) := by decide +kernel
theorem dX10_sign_50 : decode cX10_sign 50 = .ok (.iload 4, 2) := by decide +kernel
theorem dX10_sign_52 : decode cX10_sign 52 = .ok (.ireturn, 1) := by decide +kernel
theorem dX10_cloud_0 : decode cX10_cloud 0 = .ok (.aload_n 0, 1) := by decide +kernel
theorem dX10_cloud_1 : decode cX10_cloud 1 = .ok (.iload_n 1, 1) := by decide +kernel
theorem dX10_cloud_2 : decode cX10_cloud 2 = .ok (.invokevirtual 156, 3) := by decide +kernel
theorem dX10_cloud_5 : decode cX10_cloud 5 = .ok (.ifCond .eq 15, 3) := by decide +kernel
theorem dX10_cloud_8 : decode cX10_cloud 8 = .ok (.iload_n 2, 1) := by decide +kernel
theorem dX10_cloud_9 : decode cX10_cloud 9 = .ok (.i2l, 1) := by decide +kernel
theorem dX10_cloud_10 : decode cX10_cloud 10 = .ok (.lconst 0, 1) := by decide +kernel
theorem dX10_cloud_11 : decode cX10_cloud 11 = .ok (.ldc2_w 161, 3) := by decide +kernel
theorem dX10_cloud_14 : decode cX10_cloud 14 = .ok (.invokestatic 50, 3) := by decide +kernel
theorem dX10_cloud_17 : decode cX10_cloud 17 = .ok (.ifCond .ne 6, 3) := by decide +kernel
theorem dX10_cloud_20 : decode cX10_cloud 20 = .ok (.ldc 60, 2) := by decide +kernel
theorem dX10_cloud_22 : decode cX10_cloud 22 = .ok (.ireturn, 1) := by decide +kernel
theorem dX10_cloud_23 : decode cX10_cloud 23 = .ok (.iload_n 2, 1) := by decide +kernel
theorem dX10_cloud_24 : decode cX10_cloud 24 = .ok (.iconst 4, 1) := by decide +kernel
theorem dX10_cloud_25 : decode cX10_cloud 25 = .ok (.if_icmp .ge 14, 3) := by decide +kernel
theorem dX10_cloud_28 : decode cX10_cloud 28 = .ok (.aload_n 0, 1) := by decide +kernel
theorem dX10_cloud_29 : decode cX10_cloud 29 = .ok (.iload_n 1, 1) := by decide +kernel
theorem dX10_cloud_30 : decode cX10_cloud 30 = .ok (.iload_n 2, 1) := by decide +kernel
theorem dX10_cloud_31 : decode cX10_cloud 31 = .ok (.iconst 1, 1) := by decide +kernel
theorem dX10_cloud_32 : decode cX10_cloud 32 = .ok (.iadd, 1) := by decide +kernel
theorem dX10_cloud_33 : decode cX10_cloud 33 = .ok (.invokevirtual 126, 3) := by decide +kernel
theorem dX10_cloud_36 : decode cX10_cloud 36 = .ok (.goto 34, 3) := by decide +kernel
theorem dX10_cloud_39 : decode cX10_cloud 39 = .ok (.iload_n 2, 1) := by decide +kernel
theorem dX10_cloud_40 : decode cX10_cloud 40 = .ok (.iconst 4, 1) := by decide +kernel
theorem dX10_cloud_41 : decode cX10_cloud 41 = .ok (.if_icmp .ne 11, 3) := by decide +kernel
theorem dX10_cloud_44 : decode cX10_cloud 44 = .ok (.aload_n 0, 1) := by decide +kernel
theorem dX10_cloud_45 : decode cX10_cloud 45 = .ok (.iload_n 1, 1) := by decide +kernel
theorem dX10_cloud_46 : decode cX10_cloud 46 = .ok (.invokevirtual 132, 3) := by decide +kernel
theorem dX10_cloud_49 : decode cX10_cloud 49 = .ok (.goto 21, 3) := by decide +kernel
theorem dX10_cloud_52 : decode cX10_cloud 52 = .ok (.aload_n 0, 1) := by decide +kernel
theorem dX10_cloud_53 : decode cX10_cloud 53 = .ok (.iload_n 1, 1) := by decide +kernel
theorem dX10_cloud_54 : decode cX10_cloud 54 = .ok (.iconst 2, 1) := by decide +kernel
theorem dX10_cloud_55 : decode cX10_cloud 55 = .ok (.invokevirtual 126, 3) := by decide +kernel
theorem dX10_cloud_58 : decode cX10_cloud 58 = .ok (.aload_n 0, 1) := by decide +kernel
theorem dX10_cloud_59 : decode cX10_cloud 59 = .ok (.iload_n 1, 1) := by decide +kernel
theorem dX10_cloud_60 : decode cX10_cloud 60 = .ok (.aload_n 0, 1) := by decide +kernel
theorem dX10_cloud_61 : decode cX10_cloud 61 = .ok (.getfield 22, 3) := by decide +kernel
theorem dX10_cloud_64 : decode cX10_cloud 64 = .ok (.iconst 3, 1) := by decide +kernel
theorem dX10_cloud_65 : decode cX10_cloud 65 = .ok (.iaload, 1) := by decide +kernel
theorem dX10_cloud_66 : decode cX10_cloud 66 = .ok (.invokevirtual 135, 3) := by decide +kernel
theorem dX10_cloud_69 : decode cX10_cloud 69 = .ok (.imul, 1) := by decide +kernel
theorem dX10_cloud_70 : decode cX10_cloud 70 = .ok (.ireturn, 1) := by decide +kernel
theorem dX10_field_0 : decode cX10_field 0 = .ok (.aload_n 0, 1) := by decide +kernel
theorem dX10_field_1 : decode cX10_field 1 = .ok (.getfield 117, 3) := by decide +kernel
theorem dX10_field_4 : decode cX10_field 4 = .ok (.ifCond .ne 6, 3) := by decide +kernel
theorem dX10_field_7 : decode cX10_field 7 = .ok (.ldc 144, 2) := by decide +kernel
theorem dX10_field_9 : decode cX10_field 9 = .ok (.ireturn, 1) := by decide +kernel
theorem dX10_field_10 : decode cX10_field 10 = .ok (.iload_n 1, 1) := by decide +kernel
theorem dX10_field_11 : decode cX10_field 11 = .ok (.invokestatic 163, 3) := by decide +kernel
theorem dX10_field_14 : decode cX10_field 14 = .ok (.ifCond .eq 13, 3) := by decide +kernel
theorem dX10_field_17 : decode cX10_field 17 = .ok (.iload_n 2, 1) := by decide +kernel
theorem dX10_field_18 : decode cX10_field 18 = .ok (.i2l, 1) := by decide +kernel
theorem dX10_field_19 : decode cX10_field 19 = .ok (.lconst 0, 1) := by decide +kernel
theorem dX10_field_20 : decode cX10_field 20 = .ok (.lconst 1, 1) := by decide +kernel
theorem dX10_field_21 : decode cX10_field 21 = .ok (.invokestatic 50, 3) := by decide +kernel
theorem dX10_field_24 : decode cX10_field 24 = .ok (.ifCond .ne 6, 3) := by decide +kernel
theorem dX10_field_27 : decode cX10_field 27 = .ok (.ldc 60, 2) := by decide +kernel
theorem dX10_field_29 : decode cX10_field 29 = .ok (.ireturn, 1) := by decide +kernel
theorem dX10_field_30 : decode cX10_field 30 = .ok (.iload_n 2, 1) := by decide +kernel
theorem dX10_field_31 : decode cX10_field 31 = .ok (.ifCond .ne 15, 3) := by decide +kernel
theorem dX10_field_34 : decode cX10_field 34 = .ok (.aload_n 0, 1) := by decide +kernel
theorem dX10_field_35 : decode cX10_field 35 = .ok (.getfield 22, 3) := by decide +kernel
theorem dX10_field_38 : decode cX10_field 38 = .ok (.bipush 29, 2) := by decide +kernel
theorem dX10_field_40 : decode cX10_field 40 = .ok (.iload_n 1, 1) := by decide +kernel
theorem dX10_field_41 : decode cX10_field 41 = .ok (.iadd, 1) := by decide +kernel
theorem dX10_field_42 : decode cX10_field 42 = .ok (.iaload, 1) := by decide +kernel
theorem dX10_field_43 : decode cX10_field 43 = .ok (.goto 8, 3) := by decide +kernel
theorem dX10_field_46 : decode cX10_field 46 = .ok (.aload_n 0, 1) := by decide +kernel
theorem dX10_field_47 : decode cX10_field 47 = .ok (.iload_n 1, 1) := by decide +kernel
theorem dX10_field_48 : decode cX10_field 48 = .ok (.invokevirtual 166, 3) := by decide +kernel
theorem dX10_field_51 : decode cX10_field 51 = .ok (.ireturn, 1) := by decide +kernel
theorem dX10_asides_0 : decode cX10_asides 0 = .ok (.iconst 0, 1) := by decide +kernel
theorem dX10_asides_1 : decode cX10_asides 1 = .ok (.istore_n 1, 1) := by decide +kernel
theorem dX10_asides_2 : decode cX10_asides 2 = .ok (.iload_n 1, 1) := by decide +kernel
theorem dX10_asides_3 : decode cX10_asides 3 = .ok (.bipush 45, 2) := by decide +kernel
theorem dX10_asides_5 : decode cX10_asides 5 = .ok (.if_icmp .ge 21, 3) := by decide +kernel
theorem dX10_asides_8 : decode cX10_asides 8 = .ok (.aload_n 0, 1) := by decide +kernel
theorem dX10_asides_9 : decode cX10_asides 9 = .ok (.getfield 34, 3) := by decide +kernel
theorem dX10_asides_12 : decode cX10_asides 12 = .ok (.iload_n 1, 1) := by decide +kernel
theorem dX10_asides_13 : decode cX10_asides 13 = .ok (.aload_n 0, 1) := by decide +kernel
theorem dX10_asides_14 : decode cX10_asides 14 = .ok (.getfield 22, 3) := by decide +kernel
theorem dX10_asides_17 : decode cX10_asides 17 = .ok (.iload_n 1, 1) := by decide +kernel
theorem dX10_asides_18 : decode cX10_asides 18 = .ok (.iaload, 1) := by decide +kernel
theorem dX10_asides_19 : decode cX10_asides 19 = .ok (.iastore, 1) := by decide +kernel
theorem dX10_asides_20 : decode cX10_asides 20 = .ok (.iinc 1 1, 3) := by decide +kernel
theorem dX10_asides_23 : decode cX10_asides 23 = .ok (.goto (-21), 3) := by decide +kernel
theorem dX10_asides_26 : decode cX10_asides 26 = .ok (.return_, 1) := by decide +kernel
theorem dX10_backs_0 : decode cX10_backs 0 = .ok (.iconst 0, 1) := by decide +kernel
theorem dX10_backs_1 : decode cX10_backs 1 = .ok (.istore_n 1, 1) := by decide +kernel
theorem dX10_backs_2 : decode cX10_backs 2 = .ok (.iload_n 1, 1) := by decide +kernel
theorem dX10_backs_3 : decode cX10_backs 3 = .ok (.bipush 45, 2) := by decide +kernel
theorem dX10_backs_5 : decode cX10_backs 5 = .ok (.if_icmp .ge 21, 3) := by decide +kernel
theorem dX10_backs_8 : decode cX10_backs 8 = .ok (.aload_n 0, 1) := by decide +kernel
theorem dX10_backs_9 : decode cX10_backs 9 = .ok (.getfield 22, 3) := by decide +kernel
theorem dX10_backs_12 : decode cX10_backs 12 = .ok (.iload_n 1, 1) := by decide +kernel
theorem dX10_backs_13 : decode cX10_backs 13 = .ok (.aload_n 0, 1) := by decide +kernel
theorem dX10_backs_14 : decode cX10_backs 14 = .ok (.getfield 34, 3) := by decide +kernel
theorem dX10_backs_17 : decode cX10_backs 17 = .ok (.iload_n 1, 1) := by decide +kernel
theorem dX10_backs_18 : decode cX10_backs 18 = .ok (.iaload, 1) := by decide +kernel
theorem dX10_backs_19 : decode cX10_backs 19 = .ok (.iastore, 1) := by decide +kernel
theorem dX10_backs_20 : decode cX10_backs 20 = .ok (.iinc 1 1, 3) := by decide +kernel
theorem dX10_backs_23 : decode cX10_backs 23 = .ok (.goto (-21), 3) := by decide +kernel
theorem dX10_backs_26 : decode cX10_backs 26 = .ok (.return_, 1) := by decide +kernel
theorem dX10_goes_0 : decode cX10_goes 0 = .ok (.iconst 0, 1) := by decide +kernel
theorem dX10_goes_1 : decode cX10_goes 1 = .ok (.istore_n 2, 1) := by decide +kernel
theorem dX10_goes_2 : decode cX10_goes 2 = .ok (.iload_n 2, 1) := by decide +kernel
theorem dX10_goes_3 : decode cX10_goes 3 = .ok (.iload_n 1, 1) := by decide +kernel
theorem dX10_goes_4 : decode cX10_goes 4 = .ok (.if_icmp .ge 13, 3) := by decide +kernel
theorem dX10_goes_7 : decode cX10_goes 7 = .ok (.aload_n 0, 1) := by decide +kernel
theorem dX10_goes_8 : decode cX10_goes 8 = .ok (.invokevirtual 153, 3) := by decide +kernel
theorem dX10_goes_11 : decode cX10_goes 11 = .ok (.iinc 2 1, 3) := by decide +kernel
theorem dX10_goes_14 : decode cX10_goes 14 = .ok (.goto (-12), 3) := by decide +kernel
theorem dX10_goes_17 : decode cX10_goes 17 = .ok (.return_, 1) := by decide +kernel
theorem dX10_ahead_0 : decode cX10_ahead 0 = .ok (.aload_n 0, 1) := by decide +kernel
theorem dX10_ahead_1 : decode cX10_ahead 1 = .ok (.iload_n 1, 1) := by decide +kernel
theorem dX10_ahead_2 : decode cX10_ahead 2 = .ok (.invokevirtual 156, 3) := by decide +kernel
theorem dX10_ahead_5 : decode cX10_ahead 5 = .ok (.ifCond .eq 25, 3) := by decide +kernel
theorem dX10_ahead_8 : decode cX10_ahead 8 = .ok (.iload_n 2, 1) := by decide +kernel
theorem dX10_ahead_9 : decode cX10_ahead 9 = .ok (.i2l, 1) := by decide +kernel
theorem dX10_ahead_10 : decode cX10_ahead 10 = .ok (.lconst 0, 1) := by decide +kernel
theorem dX10_ahead_11 : decode cX10_ahead 11 = .ok (.ldc2_w 169, 3) := by decide +kernel
theorem dX10_ahead_14 : decode cX10_ahead 14 = .ok (.invokestatic 50, 3) := by decide +kernel
theorem dX10_ahead_17 : decode cX10_ahead 17 = .ok (.ifCond .eq 13, 3) := by decide +kernel
theorem dX10_ahead_20 : decode cX10_ahead 20 = .ok (.iload_n 3, 1) := by decide +kernel
theorem dX10_ahead_21 : decode cX10_ahead 21 = .ok (.i2l, 1) := by decide +kernel
theorem dX10_ahead_22 : decode cX10_ahead 22 = .ok (.lconst 0, 1) := by decide +kernel
theorem dX10_ahead_23 : decode cX10_ahead 23 = .ok (.lconst 1, 1) := by decide +kernel
theorem dX10_ahead_24 : decode cX10_ahead 24 = .ok (.invokestatic 50, 3) := by decide +kernel
theorem dX10_ahead_27 : decode cX10_ahead 27 = .ok (.ifCond .ne 6, 3) := by decide +kernel
theorem dX10_ahead_30 : decode cX10_ahead 30 = .ok (.ldc 60, 2) := by decide +kernel
theorem dX10_ahead_32 : decode cX10_ahead 32 = .ok (.ireturn, 1) := by decide +kernel
theorem dX10_ahead_33 : decode cX10_ahead 33 = .ok (.aload_n 0, 1) := by decide +kernel
theorem dX10_ahead_34 : decode cX10_ahead 34 = .ok (.invokevirtual 171, 3) := by decide +kernel
theorem dX10_ahead_37 : decode cX10_ahead 37 = .ok (.aload_n 0, 1) := by decide +kernel
theorem dX10_ahead_38 : decode cX10_ahead 38 = .ok (.iload_n 2, 1) := by decide +kernel
theorem dX10_ahead_39 : decode cX10_ahead 39 = .ok (.invokevirtual 174, 3) := by decide +kernel
theorem dX10_ahead_42 : decode cX10_ahead 42 = .ok (.aload_n 0, 1) := by decide +kernel
theorem dX10_ahead_43 : decode cX10_ahead 43 = .ok (.iload_n 1, 1) := by decide +kernel
theorem dX10_ahead_44 : decode cX10_ahead 44 = .ok (.invokevirtual 129, 3) := by decide +kernel
theorem dX10_ahead_47 : decode cX10_ahead 47 = .ok (.ifCond .eq 8, 3) := by decide +kernel
theorem dX10_ahead_50 : decode cX10_ahead 50 = .ok (.ldc 177, 2) := by decide +kernel
theorem dX10_ahead_52 : decode cX10_ahead 52 = .ok (.goto 11, 3) := by decide +kernel
theorem dX10_ahead_55 : decode cX10_ahead 55 = .ok (.aload_n 0, 1) := by decide +kernel
theorem dX10_ahead_56 : decode cX10_ahead 56 = .ok (.iload_n 1, 1) := by decide +kernel
theorem dX10_ahead_57 : decode cX10_ahead 57 = .ok (.iload_n 3, 1) := by decide +kernel
theorem dX10_ahead_58 : decode cX10_ahead 58 = .ok (.iconst 1, 1) := by decide +kernel
theorem dX10_ahead_59 : decode cX10_ahead 59 = .ok (.iadd, 1) := by decide +kernel
theorem dX10_ahead_60 : decode cX10_ahead 60 = .ok (.invokevirtual 126, 3) := by decide +kernel
theorem dX10_ahead_63 : decode cX10_ahead 63 = .ok (.istore 4, 2) := by decide +kernel
theorem dX10_ahead_65 : decode cX10_ahead 65 = .ok (.aload_n 0, 1) := by decide +kernel
theorem dX10_ahead_66 : decode cX10_ahead 66 = .ok (.invokevirtual 178, 3) := by decide +kernel
theorem dX10_ahead_69 : decode cX10_ahead 69 = .ok (.iload 4, 2) := by decide +kernel
theorem dX10_ahead_71 : decode cX10_ahead 71 = .ok (.ireturn, 1) := by decide +kernel
theorem dX10_over_0 : decode cX10_over 0 = .ok (.aload_n 0, 1) := by decide +kernel
theorem dX10_over_1 : decode cX10_over 1 = .ok (.getfield 117, 3) := by decide +kernel
theorem dX10_over_4 : decode cX10_over 4 = .ok (.ifCond .ne 6, 3) := by decide +kernel
theorem dX10_over_7 : decode cX10_over 7 = .ok (.ldc 144, 2) := by decide +kernel
theorem dX10_over_9 : decode cX10_over 9 = .ok (.ireturn, 1) := by decide +kernel
theorem dX10_over_10 : decode cX10_over 10 = .ok (.iload_n 1, 1) := by decide +kernel
theorem dX10_over_11 : decode cX10_over 11 = .ok (.invokestatic 163, 3) := by decide +kernel
theorem dX10_over_14 : decode cX10_over 14 = .ok (.ifCond .eq 15, 3) := by decide +kernel
theorem dX10_over_17 : decode cX10_over 17 = .ok (.iload_n 2, 1) := by decide +kernel
theorem dX10_over_18 : decode cX10_over 18 = .ok (.i2l, 1) := by decide +kernel
theorem dX10_over_19 : decode cX10_over 19 = .ok (.lconst 0, 1) := by decide +kernel
theorem dX10_over_20 : decode cX10_over 20 = .ok (.ldc2_w 169, 3) := by decide +kernel
theorem dX10_over_23 : decode cX10_over 23 = .ok (.invokestatic 50, 3) := by decide +kernel
theorem dX10_over_26 : decode cX10_over 26 = .ok (.ifCond .ne 6, 3) := by decide +kernel
theorem dX10_over_29 : decode cX10_over 29 = .ok (.ldc 60, 2) := by decide +kernel
theorem dX10_over_31 : decode cX10_over 31 = .ok (.ireturn, 1) := by decide +kernel
theorem dX10_over_32 : decode cX10_over 32 = .ok (.aload_n 0, 1) := by decide +kernel
theorem dX10_over_33 : decode cX10_over 33 = .ok (.invokevirtual 171, 3) := by decide +kernel
theorem dX10_over_36 : decode cX10_over 36 = .ok (.aload_n 0, 1) := by decide +kernel
theorem dX10_over_37 : decode cX10_over 37 = .ok (.iload_n 2, 1) := by decide +kernel
theorem dX10_over_38 : decode cX10_over 38 = .ok (.invokevirtual 174, 3) := by decide +kernel
theorem dX10_over_41 : decode cX10_over 41 = .ok (.aload_n 0, 1) := by decide +kernel
theorem dX10_over_42 : decode cX10_over 42 = .ok (.iload_n 1, 1) := by decide +kernel
theorem dX10_over_43 : decode cX10_over 43 = .ok (.invokevirtual 166, 3) := by decide +kernel
theorem dX10_over_46 : decode cX10_over 46 = .ok (.istore_n 3, 1) := by decide +kernel
theorem dX10_over_47 : decode cX10_over 47 = .ok (.aload_n 0, 1) := by decide +kernel
theorem dX10_over_48 : decode cX10_over 48 = .ok (.invokevirtual 178, 3) := by decide +kernel
theorem dX10_over_51 : decode cX10_over 51 = .ok (.iload_n 3, 1) := by decide +kernel
theorem dX10_over_52 : decode cX10_over 52 = .ok (.ireturn, 1) := by decide +kernel
theorem dX10_falls_0 : decode cX10_falls 0 = .ok (.aload_n 0, 1) := by decide +kernel
theorem dX10_falls_1 : decode cX10_falls 1 = .ok (.getfield 117, 3) := by decide +kernel
theorem dX10_falls_4 : decode cX10_falls 4 = .ok (.ifCond .ne 6, 3) := by decide +kernel
theorem dX10_falls_7 : decode cX10_falls 7 = .ok (.ldc 144, 2) := by decide +kernel
theorem dX10_falls_9 : decode cX10_falls 9 = .ok (.ireturn, 1) := by decide +kernel
theorem dX10_falls_10 : decode cX10_falls 10 = .ok (.iload_n 1, 1) := by decide +kernel
theorem dX10_falls_11 : decode cX10_falls 11 = .ok (.invokestatic 163, 3) := by decide +kernel
theorem dX10_falls_14 : decode cX10_falls 14 = .ok (.ifCond .eq 15, 3) := by decide +kernel
theorem dX10_falls_17 : decode cX10_falls 17 = .ok (.iload_n 2, 1) := by decide +kernel
theorem dX10_falls_18 : decode cX10_falls 18 = .ok (.i2l, 1) := by decide +kernel
theorem dX10_falls_19 : decode cX10_falls 19 = .ok (.lconst 0, 1) := by decide +kernel
theorem dX10_falls_20 : decode cX10_falls 20 = .ok (.ldc2_w 169, 3) := by decide +kernel
theorem dX10_falls_23 : decode cX10_falls 23 = .ok (.invokestatic 50, 3) := by decide +kernel
theorem dX10_falls_26 : decode cX10_falls 26 = .ok (.ifCond .ne 6, 3) := by decide +kernel
theorem dX10_falls_29 : decode cX10_falls 29 = .ok (.ldc 60, 2) := by decide +kernel
theorem dX10_falls_31 : decode cX10_falls 31 = .ok (.ireturn, 1) := by decide +kernel
theorem dX10_falls_32 : decode cX10_falls 32 = .ok (.aload_n 0, 1) := by decide +kernel
theorem dX10_falls_33 : decode cX10_falls 33 = .ok (.invokevirtual 171, 3) := by decide +kernel
theorem dX10_falls_36 : decode cX10_falls 36 = .ok (.aload_n 0, 1) := by decide +kernel
theorem dX10_falls_37 : decode cX10_falls 37 = .ok (.iload_n 2, 1) := by decide +kernel
theorem dX10_falls_38 : decode cX10_falls 38 = .ok (.invokevirtual 174, 3) := by decide +kernel
theorem dX10_falls_41 : decode cX10_falls 41 = .ok (.aload_n 0, 1) := by decide +kernel
theorem dX10_falls_42 : decode cX10_falls 42 = .ok (.getfield 22, 3) := by decide +kernel
theorem dX10_falls_45 : decode cX10_falls 45 = .ok (.bipush 29, 2) := by decide +kernel
theorem dX10_falls_47 : decode cX10_falls 47 = .ok (.iload_n 1, 1) := by decide +kernel
theorem dX10_falls_48 : decode cX10_falls 48 = .ok (.iadd, 1) := by decide +kernel
theorem dX10_falls_49 : decode cX10_falls 49 = .ok (.iaload, 1) := by decide +kernel
theorem dX10_falls_50 : decode cX10_falls 50 = .ok (.aload_n 0, 1) := by decide +kernel
theorem dX10_falls_51 : decode cX10_falls 51 = .ok (.getfield 34, 3) := by decide +kernel
theorem dX10_falls_54 : decode cX10_falls 54 = .ok (.bipush 29, 2) := by decide +kernel
theorem dX10_falls_56 : decode cX10_falls 56 = .ok (.iload_n 1, 1) := by decide +kernel
theorem dX10_falls_57 : decode cX10_falls 57 = .ok (.iadd, 1) := by decide +kernel
theorem dX10_falls_58 : decode cX10_falls 58 = .ok (.iaload, 1) := by decide +kernel
theorem dX10_falls_59 : decode cX10_falls 59 = .ok (.isub, 1) := by decide +kernel
theorem dX10_falls_60 : decode cX10_falls 60 = .ok (.istore_n 3, 1) := by decide +kernel
theorem dX10_falls_61 : decode cX10_falls 61 = .ok (.aload_n 0, 1) := by decide +kernel
theorem dX10_falls_62 : decode cX10_falls 62 = .ok (.invokevirtual 178, 3) := by decide +kernel
theorem dX10_falls_65 : decode cX10_falls 65 = .ok (.iload_n 3, 1) := by decide +kernel
