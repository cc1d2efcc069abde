theorem dX4_init_0 : decode cX4_init 0 = .ok (.aload_n 0, 1) := by decide +kernel
theorem dX4_init_1 : decode cX4_init 1 = .ok (.invokespecial 3, 3) := by decide +kernel
theorem dX4_init_4 : decode cX4_init 4 = .ok (.aload_n 0, 1) := by decide +kernel
theorem dX4_init_5 : decode cX4_init 5 = .ok (.new 9, 3) := by decide +kernel
theorem dX4_init_8 : decode cX4_init 8 = .ok (.dup, 1) := by decide +kernel
theorem dX4_init_9 : decode cX4_init 9 = .ok (.invokespecial 11, 3) := by decide +kernel
theorem dX4_init_12 : decode cX4_init 12 = .ok (.putfield 12, 3) := by decide +kernel
theorem dX4_init_15 : decode cX4_init 15 = .ok (.aload_n 0, 1) := by decide +kernel
theorem dX4_init_16 : decode cX4_init 16 = .ok (.aload_n 1, 1) := by decide +kernel
theorem dX4_init_17 : decode cX4_init 17 = .ok (.putfield 18, 3) := by decide +kernel
theorem dX4_init_20 : decode cX4_init 20 = .ok (.return_, 1) := by decide +kernel
theorem dX4_read_0 : decode cX4_read 0 = .ok (.aload_n 0, 1) := by decide +kernel
theorem dX4_read_1 : decode cX4_read 1 = .ok (.iconst 0, 1) := by decide +kernel
theorem dX4_read_2 : decode cX4_read 2 = .ok (.putfield 22, 3) := by decide +kernel
theorem dX4_read_5 : decode cX4_read 5 = .ok (.aload_n 0, 1) := by decide +kernel
theorem dX4_read_6 : decode cX4_read 6 = .ok (.iconst 0, 1) := by decide +kernel
theorem dX4_read_7 : decode cX4_read 7 = .ok (.putfield 26, 3) := by decide +kernel
theorem dX4_read_10 : decode cX4_read 10 = .ok (.aload_n 0, 1) := by decide +kernel
theorem dX4_read_11 : decode cX4_read 11 = .ok (.getfield 12, 3) := by decide +kernel
theorem dX4_read_14 : decode cX4_read 14 = .ok (.iconst 0, 1) := by decide +kernel
theorem dX4_read_15 : decode cX4_read 15 = .ok (.putfield 29, 3) := by decide +kernel
theorem dX4_read_18 : decode cX4_read 18 = .ok (.aload_n 0, 1) := by decide +kernel
theorem dX4_read_19 : decode cX4_read 19 = .ok (.invokevirtual 32, 3) := by decide +kernel
theorem dX4_read_22 : decode cX4_read 22 = .ok (.aload_n 0, 1) := by decide +kernel
theorem dX4_read_23 : decode cX4_read 23 = .ok (.iconst 0, 1) := by decide +kernel
theorem dX4_read_24 : decode cX4_read 24 = .ok (.invokevirtual 35, 3) := by decide +kernel
theorem dX4_read_27 : decode cX4_read 27 = .ok (.iconst 1, 1) := by decide +kernel
theorem dX4_read_28 : decode cX4_read 28 = .ok (.istore_n 1, 1) := by decide +kernel
theorem dX4_read_29 : decode cX4_read 29 = .ok (.iload_n 1, 1) := by decide +kernel
theorem dX4_read_30 : decode cX4_read 30 = .ok (.iconst 5, 1) := by decide +kernel
theorem dX4_read_31 : decode cX4_read 31 = .ok (.if_icmp .gt 35, 3) := by decide +kernel
theorem dX4_read_34 : decode cX4_read 34 = .ok (.aload_n 0, 1) := by decide +kernel
theorem dX4_read_35 : decode cX4_read 35 = .ok (.getfield 26, 3) := by decide +kernel
theorem dX4_read_38 : decode cX4_read 38 = .ok (.ifCond .ne 28, 3) := by decide +kernel
theorem dX4_read_41 : decode cX4_read 41 = .ok (.aload_n 0, 1) := by decide +kernel
theorem dX4_read_42 : decode cX4_read 42 = .ok (.getfield 22, 3) := by decide +kernel
theorem dX4_read_45 : decode cX4_read 45 = .ok (.aload_n 0, 1) := by decide +kernel
theorem dX4_read_46 : decode cX4_read 46 = .ok (.getfield 18, 3) := by decide +kernel
theorem dX4_read_49 : decode cX4_read 49 = .ok (.getfield 39, 3) := by decide +kernel
theorem dX4_read_52 : decode cX4_read 52 = .ok (.if_icmp .ge 14, 3) := by decide +kernel
theorem dX4_read_55 : decode cX4_read 55 = .ok (.aload_n 0, 1) := by decide +kernel
theorem dX4_read_56 : decode cX4_read 56 = .ok (.iload_n 1, 1) := by decide +kernel
theorem dX4_read_57 : decode cX4_read 57 = .ok (.invokevirtual 35, 3) := by decide +kernel
theorem dX4_read_60 : decode cX4_read 60 = .ok (.iinc 1 1, 3) := by decide +kernel
theorem dX4_read_63 : decode cX4_read 63 = .ok (.goto (-34), 3) := by decide +kernel
theorem dX4_read_66 : decode cX4_read 66 = .ok (.aload_n 0, 1) := by decide +kernel
theorem dX4_read_67 : decode cX4_read 67 = .ok (.getfield 26, 3) := by decide +kernel
theorem dX4_read_70 : decode cX4_read 70 = .ok (.ireturn, 1) := by decide +kernel
theorem dX4_readLaw_0 : decode cX4_readLaw 0 = .ok (.aload_n 0, 1) := by decide +kernel
theorem dX4_readLaw_1 : decode cX4_readLaw 1 = .ok (.bipush 119, 2) := by decide +kernel
theorem dX4_readLaw_3 : decode cX4_readLaw 3 = .ok (.invokevirtual 44, 3) := by decide +kernel
theorem dX4_readLaw_6 : decode cX4_readLaw 6 = .ok (.aload_n 0, 1) := by decide +kernel
theorem dX4_readLaw_7 : decode cX4_readLaw 7 = .ok (.getfield 12, 3) := by decide +kernel
theorem dX4_readLaw_10 : decode cX4_readLaw 10 = .ok (.aload_n 0, 1) := by decide +kernel
theorem dX4_readLaw_11 : decode cX4_readLaw 11 = .ok (.iconst 0, 1) := by decide +kernel
theorem dX4_readLaw_12 : decode cX4_readLaw 12 = .ok (.bipush 15, 2) := by decide +kernel
theorem dX4_readLaw_14 : decode cX4_readLaw 14 = .ok (.invokevirtual 47, 3) := by decide +kernel
theorem dX4_readLaw_17 : decode cX4_readLaw 17 = .ok (.putfield 51, 3) := by decide +kernel
theorem dX4_readLaw_20 : decode cX4_readLaw 20 = .ok (.aload_n 0, 1) := by decide +kernel
theorem dX4_readLaw_21 : decode cX4_readLaw 21 = .ok (.bipush 44, 2) := by decide +kernel
theorem dX4_readLaw_23 : decode cX4_readLaw 23 = .ok (.invokevirtual 44, 3) := by decide +kernel
theorem dX4_readLaw_26 : decode cX4_readLaw 26 = .ok (.aload_n 0, 1) := by decide +kernel
theorem dX4_readLaw_27 : decode cX4_readLaw 27 = .ok (.getfield 12, 3) := by decide +kernel
theorem dX4_readLaw_30 : decode cX4_readLaw 30 = .ok (.aload_n 0, 1) := by decide +kernel
theorem dX4_readLaw_31 : decode cX4_readLaw 31 = .ok (.iconst 1, 1) := by decide +kernel
theorem dX4_readLaw_32 : decode cX4_readLaw 32 = .ok (.bipush 20, 2) := by decide +kernel
theorem dX4_readLaw_34 : decode cX4_readLaw 34 = .ok (.invokevirtual 47, 3) := by decide +kernel
theorem dX4_readLaw_37 : decode cX4_readLaw 37 = .ok (.putfield 54, 3) := by decide +kernel
theorem dX4_readLaw_40 : decode cX4_readLaw 40 = .ok (.aload_n 0, 1) := by decide +kernel
theorem dX4_readLaw_41 : decode cX4_readLaw 41 = .ok (.bipush 59, 2) := by decide +kernel
theorem dX4_readLaw_43 : decode cX4_readLaw 43 = .ok (.invokevirtual 44, 3) := by decide +kernel
theorem dX4_readLaw_46 : decode cX4_readLaw 46 = .ok (.return_, 1) := by decide +kernel
theorem dX4_readCloud_0 : decode cX4_readCloud 0 = .ok (.aload_n 0, 1) := by decide +kernel
theorem dX4_readCloud_1 : decode cX4_readCloud 1 = .ok (.iload_n 1, 1) := by decide +kernel
theorem dX4_readCloud_2 : decode cX4_readCloud 2 = .ok (.invokevirtual 57, 3) := by decide +kernel
theorem dX4_readCloud_5 : decode cX4_readCloud 5 = .ok (.istore_n 2, 1) := by decide +kernel
theorem dX4_readCloud_6 : decode cX4_readCloud 6 = .ok (.aload_n 0, 1) := by decide +kernel
theorem dX4_readCloud_7 : decode cX4_readCloud 7 = .ok (.iconst 0, 1) := by decide +kernel
theorem dX4_readCloud_8 : decode cX4_readCloud 8 = .ok (.bipush 15, 2) := by decide +kernel
theorem dX4_readCloud_10 : decode cX4_readCloud 10 = .ok (.invokevirtual 47, 3) := by decide +kernel
theorem dX4_readCloud_13 : decode cX4_readCloud 13 = .ok (.istore_n 3, 1) := by decide +kernel
theorem dX4_readCloud_14 : decode cX4_readCloud 14 = .ok (.aload_n 0, 1) := by decide +kernel
theorem dX4_readCloud_15 : decode cX4_readCloud 15 = .ok (.bipush 44, 2) := by decide +kernel
theorem dX4_readCloud_17 : decode cX4_readCloud 17 = .ok (.invokevirtual 44, 3) := by decide +kernel
theorem dX4_readCloud_20 : decode cX4_readCloud 20 = .ok (.aload_n 0, 1) := by decide +kernel
theorem dX4_readCloud_21 : decode cX4_readCloud 21 = .ok (.iconst 1, 1) := by decide +kernel
theorem dX4_readCloud_22 : decode cX4_readCloud 22 = .ok (.bipush 8, 2) := by decide +kernel
theorem dX4_readCloud_24 : decode cX4_readCloud 24 = .ok (.invokevirtual 47, 3) := by decide +kernel
theorem dX4_readCloud_27 : decode cX4_readCloud 27 = .ok (.istore 4, 2) := by decide +kernel
theorem dX4_readCloud_29 : decode cX4_readCloud 29 = .ok (.aload_n 0, 1) := by decide +kernel
theorem dX4_readCloud_30 : decode cX4_readCloud 30 = .ok (.bipush 44, 2) := by decide +kernel
theorem dX4_readCloud_32 : decode cX4_readCloud 32 = .ok (.invokevirtual 44, 3) := by decide +kernel
theorem dX4_readCloud_35 : decode cX4_readCloud 35 = .ok (.aload_n 0, 1) := by decide +kernel
theorem dX4_readCloud_36 : decode cX4_readCloud 36 = .ok (.iconst 1, 1) := by decide +kernel
theorem dX4_readCloud_37 : decode cX4_readCloud 37 = .ok (.bipush 60, 2) := by decide +kernel
theorem dX4_readCloud_39 : decode cX4_readCloud 39 = .ok (.invokevirtual 47, 3) := by decide +kernel
theorem dX4_readCloud_42 : decode cX4_readCloud 42 = .ok (.istore 5, 2) := by decide +kernel
theorem dX4_readCloud_44 : decode cX4_readCloud 44 = .ok (.aload_n 0, 1) := by decide +kernel
theorem dX4_readCloud_45 : decode cX4_readCloud 45 = .ok (.bipush 44, 2) := by decide +kernel
theorem dX4_readCloud_47 : decode cX4_readCloud 47 = .ok (.invokevirtual 44, 3) := by decide +kernel
theorem dX4_readCloud_50 : decode cX4_readCloud 50 = .ok (.aload_n 0, 1) := by decide +kernel
theorem dX4_readCloud_51 : decode cX4_readCloud 51 = .ok (.iconst 0, 1) := by decide +kernel
theorem dX4_readCloud_52 : decode cX4_readCloud 52 = .ok (.bipush 9, 2) := by decide +kernel
theorem dX4_readCloud_54 : decode cX4_readCloud 54 = .ok (.invokevirtual 47, 3) := by decide +kernel
theorem dX4_readCloud_57 : decode cX4_readCloud 57 = .ok (.istore 6, 2) := by decide +kernel
theorem dX4_readCloud_59 : decode cX4_readCloud 59 = .ok (.aload_n 0, 1) := by decide +kernel
theorem dX4_readCloud_60 : decode cX4_readCloud 60 = .ok (.bipush 59, 2) := by decide +kernel
theorem dX4_readCloud_62 : decode cX4_readCloud 62 = .ok (.invokevirtual 44, 3) := by decide +kernel
theorem dX4_readCloud_65 : decode cX4_readCloud 65 = .ok (.aload_n 0, 1) := by decide +kernel
theorem dX4_readCloud_66 : decode cX4_readCloud 66 = .ok (.getfield 26, 3) := by decide +kernel
theorem dX4_readCloud_69 : decode cX4_readCloud 69 = .ok (.ifCond .ne 18, 3) := by decide +kernel
theorem dX4_readCloud_72 : decode cX4_readCloud 72 = .ok (.aload_n 0, 1) := by decide +kernel
theorem dX4_readCloud_73 : decode cX4_readCloud 73 = .ok (.getfield 12, 3) := by decide +kernel
theorem dX4_readCloud_76 : decode cX4_readCloud 76 = .ok (.iload_n 2, 1) := by decide +kernel
theorem dX4_readCloud_77 : decode cX4_readCloud 77 = .ok (.iload_n 3, 1) := by decide +kernel
theorem dX4_readCloud_78 : decode cX4_readCloud 78 = .ok (.iload 4, 2) := by decide +kernel
theorem dX4_readCloud_80 : decode cX4_readCloud 80 = .ok (.iload 5, 2) := by decide +kernel
theorem dX4_readCloud_82 : decode cX4_readCloud 82 = .ok (.iload 6, 2) := by decide +kernel
theorem dX4_readCloud_84 : decode cX4_readCloud 84 = .ok (.invokevirtual 61, 3) := by decide +kernel
theorem dX4_readCloud_87 : decode cX4_readCloud 87 = .ok (.return_, 1) := by decide +kernel
theorem dX4_takeSort_0 : decode cX4_takeSort 0 = .ok (.aload_n 0, 1) := by decide +kernel
theorem dX4_takeSort_1 : decode cX4_takeSort 1 = .ok (.getfield 26, 3) := by decide +kernel
theorem dX4_takeSort_4 : decode cX4_takeSort 4 = .ok (.ifCond .eq 5, 3) := by decide +kernel
theorem dX4_takeSort_7 : decode cX4_takeSort 7 = .ok (.iconst 0, 1) := by decide +kernel
theorem dX4_takeSort_8 : decode cX4_takeSort 8 = .ok (.ireturn, 1) := by decide +kernel
theorem dX4_takeSort_9 : decode cX4_takeSort 9 = .ok (.aload_n 0, 1) := by decide +kernel
theorem dX4_takeSort_10 : decode cX4_takeSort 10 = .ok (.getfield 18, 3) := by decide +kernel
theorem dX4_takeSort_13 : decode cX4_takeSort 13 = .ok (.aload_n 0, 1) := by decide +kernel
theorem dX4_takeSort_14 : decode cX4_takeSort 14 = .ok (.getfield 22, 3) := by decide +kernel
theorem dX4_takeSort_17 : decode cX4_takeSort 17 = .ok (.invokevirtual 65, 3) := by decide +kernel
theorem dX4_takeSort_20 : decode cX4_takeSort 20 = .ok (.invokestatic 68, 3) := by decide +kernel
theorem dX4_takeSort_23 : decode cX4_takeSort 23 = .ok (.istore_n 2, 1) := by decide +kernel
theorem dX4_takeSort_24 : decode cX4_takeSort 24 = .ok (.iload_n 2, 1) := by decide +kernel
theorem dX4_takeSort_25 : decode cX4_takeSort 25 = .ok (.ifCond .ne 11, 3) := by decide +kernel
theorem dX4_takeSort_28 : decode cX4_takeSort 28 = .ok (.aload_n 0, 1) := by decide +kernel
theorem dX4_takeSort_29 : decode cX4_takeSort 29 = .ok (.iconst 1, 1) := by decide +kernel
theorem dX4_takeSort_30 : decode cX4_takeSort 30 = .ok (.putfield 26, 3) := by decide +kernel
theorem dX4_takeSort_33 : decode cX4_takeSort 33 = .ok (.goto 26, 3) := by decide +kernel
theorem dX4_takeSort_36 : decode cX4_takeSort 36 = .ok (.iload_n 1, 1) := by decide +kernel
theorem dX4_takeSort_37 : decode cX4_takeSort 37 = .ok (.iconst 5, 1) := by decide +kernel
theorem dX4_takeSort_38 : decode cX4_takeSort 38 = .ok (.if_icmp .lt 11, 3) := by decide +kernel
theorem dX4_takeSort_41 : decode cX4_takeSort 41 = .ok (.aload_n 0, 1) := by decide +kernel
theorem dX4_takeSort_42 : decode cX4_takeSort 42 = .ok (.iconst 3, 1) := by decide +kernel
theorem dX4_takeSort_43 : decode cX4_takeSort 43 = .ok (.putfield 26, 3) := by decide +kernel
theorem dX4_takeSort_46 : decode cX4_takeSort 46 = .ok (.goto 13, 3) := by decide +kernel
theorem dX4_takeSort_49 : decode cX4_takeSort 49 = .ok (.aload_n 0, 1) := by decide +kernel
theorem dX4_takeSort_50 : decode cX4_takeSort 50 = .ok (.dup, 1) := by decide +kernel
theorem dX4_takeSort_51 : decode cX4_takeSort 51 = .ok (.getfield 22, 3) := by decide +kernel
theorem dX4_takeSort_54 : decode cX4_takeSort 54 = .ok (.iconst 1, 1) := by decide +kernel
theorem dX4_takeSort_55 : decode cX4_takeSort 55 = .ok (.iadd, 1) := by decide +kernel
theorem dX4_takeSort_56 : decode cX4_takeSort 56 = .ok (.putfield 22, 3) := by decide +kernel
theorem dX4_takeSort_59 : decode cX4_takeSort 59 = .ok (.iload_n 2, 1) := by decide +kernel
theorem dX4_takeSort_60 : decode cX4_takeSort 60 = .ok (.ireturn, 1) := by decide +kernel
theorem dX4_take_0 : decode cX4_take 0 = .ok (.aload_n 0, 1) := by decide +kernel
theorem dX4_take_1 : decode cX4_take 1 = .ok (.getfield 26, 3) := by decide +kernel
theorem dX4_take_4 : decode cX4_take 4 = .ok (.ifCond .eq 4, 3) := by decide +kernel
theorem dX4_take_7 : decode cX4_take 7 = .ok (.return_, 1) := by decide +kernel
theorem dX4_take_8 : decode cX4_take 8 = .ok (.aload_n 0, 1) := by decide +kernel
theorem dX4_take_9 : decode cX4_take 9 = .ok (.getfield 18, 3) := by decide +kernel
theorem dX4_take_12 : decode cX4_take 12 = .ok (.aload_n 0, 1) := by decide +kernel
theorem dX4_take_13 : decode cX4_take 13 = .ok (.getfield 22, 3) := by decide +kernel
theorem dX4_take_16 : decode cX4_take 16 = .ok (.invokevirtual 65, 3) := by decide +kernel
theorem dX4_take_19 : decode cX4_take 19 = .ok (.iload_n 1, 1) := by decide +kernel
theorem dX4_take_20 : decode cX4_take 20 = .ok (.if_icmp .ne 16, 3) := by decide +kernel
theorem dX4_take_23 : decode cX4_take 23 = .ok (.aload_n 0, 1) := by decide +kernel
theorem dX4_take_24 : decode cX4_take 24 = .ok (.dup, 1) := by decide +kernel
theorem dX4_take_25 : decode cX4_take 25 = .ok (.getfield 22, 3) := by decide +kernel
theorem dX4_take_28 : decode cX4_take 28 = .ok (.iconst 1, 1) := by decide +kernel
theorem dX4_take_29 : decode cX4_take 29 = .ok (.iadd, 1) := by decide +kernel
theorem dX4_take_30 : decode cX4_take 30 = .ok (.putfield 22, 3) := by decide +kernel
theorem dX4_take_33 : decode cX4_take 33 = .ok (.goto 8, 3) := by decide +kernel
theorem dX4_take_36 : decode cX4_take 36 = .ok (.aload_n 0, 1) := by decide +kernel
theorem dX4_take_37 : decode cX4_take 37 = .ok (.iconst 1, 1) := by decide +kernel
theorem dX4_take_38 : decode cX4_take 38 = .ok (.putfield 26, 3) := by decide +kernel
theorem dX4_take_41 : decode cX4_take 41 = .ok (.return_, 1) := by decide +kernel
theorem dX4_takeNumber_0 : decode cX4_takeNumber 0 = .ok (.aload_n 0, 1) := by decide +kernel
theorem dX4_takeNumber_1 : decode cX4_takeNumber 1 = .ok (.getfield 26, 3) := by decide +kernel
theorem dX4_takeNumber_4 : decode cX4_takeNumber 4 = .ok (.ifCond .eq 5, 3) := by decide +kernel
theorem dX4_takeNumber_7 : decode cX4_takeNumber 7 = .ok (.iconst 0, 1) := by decide +kernel
theorem dX4_takeNumber_8 : decode cX4_takeNumber 8 = .ok (.ireturn, 1) := by decide +kernel
theorem dX4_takeNumber_9 : decode cX4_takeNumber 9 = .ok (.iconst 0, 1) := by decide +kernel
theorem dX4_takeNumber_10 : decode cX4_takeNumber 10 = .ok (.istore_n 3, 1) := by decide +kernel
theorem dX4_takeNumber_11 : decode cX4_takeNumber 11 = .ok (.iconst 0, 1) := by decide +kernel
theorem dX4_takeNumber_12 : decode cX4_takeNumber 12 = .ok (.istore 4, 2) := by decide +kernel
theorem dX4_takeNumber_14 : decode cX4_takeNumber 14 = .ok (.iload_n 3, 1) := by decide +kernel
theorem dX4_takeNumber_15 : decode cX4_takeNumber 15 = .ok (.iconst 3, 1) := by decide +kernel
theorem dX4_takeNumber_16 : decode cX4_takeNumber 16 = .ok (.if_icmp .ge 52, 3) := by decide +kernel
theorem dX4_takeNumber_19 : decode cX4_takeNumber 19 = .ok (.aload_n 0, 1) := by decide +kernel
theorem dX4_takeNumber_20 : decode cX4_takeNumber 20 = .ok (.getfield 18, 3) := by decide +kernel
theorem dX4_takeNumber_23 : decode cX4_takeNumber 23 = .ok (.aload_n 0, 1) := by decide +kernel
theorem dX4_takeNumber_24 : decode cX4_takeNumber 24 = .ok (.getfield 22, 3) := by decide +kernel
theorem dX4_takeNumber_27 : decode cX4_takeNumber 27 = .ok (.iload_n 3, 1) := by decide +kernel
theorem dX4_takeNumber_28 : decode cX4_takeNumber 28 = .ok (.iadd, 1) := by decide +kernel
theorem dX4_takeNumber_29 : decode cX4_takeNumber 29 = .ok (.invokevirtual 65, 3) := by decide +kernel
theorem dX4_takeNumber_32 : decode cX4_takeNumber 32 = .ok (.invokestatic 71, 3) := by decide +kernel
theorem dX4_takeNumber_35 : decode cX4_takeNumber 35 = .ok (.ifCond .eq 33, 3) := by decide +kernel
theorem dX4_takeNumber_38 : decode cX4_takeNumber 38 = .ok (.bipush 10, 2) := by decide +kernel
theorem dX4_takeNumber_40 : decode cX4_takeNumber 40 = .ok (.iload 4, 2) := by decide +kernel
theorem dX4_takeNumber_42 : decode cX4_takeNumber 42 = .ok (.imul, 1) := by decide +kernel
theorem dX4_takeNumber_43 : decode cX4_takeNumber 43 = .ok (.aload_n 0, 1) := by decide +kernel
theorem dX4_takeNumber_44 : decode cX4_takeNumber 44 = .ok (.getfield 18, 3) := by decide +kernel
theorem dX4_takeNumber_47 : decode cX4_takeNumber 47 = .ok (.aload_n 0, 1) := by decide +kernel
theorem dX4_takeNumber_48 : decode cX4_takeNumber 48 = .ok (.getfield 22, 3) := by decide +kernel
theorem dX4_takeNumber_51 : decode cX4_takeNumber 51 = .ok (.iload_n 3, 1) := by decide +kernel
theorem dX4_takeNumber_52 : decode cX4_takeNumber 52 = .ok (.iadd, 1) := by decide +kernel
theorem dX4_takeNumber_53 : decode cX4_takeNumber 53 = .ok (.invokevirtual 65, 3) := by decide +kernel
theorem dX4_takeNumber_56 : decode cX4_takeNumber 56 = .ok (.iadd, 1) := by decide +kernel
theorem dX4_takeNumber_57 : decode cX4_takeNumber 57 = .ok (.bipush 48, 2) := by decide +kernel
theorem dX4_takeNumber_59 : decode cX4_takeNumber 59 = .ok (.isub, 1) := by decide +kernel
theorem dX4_takeNumber_60 : decode cX4_takeNumber 60 = .ok (.istore 4, 2) := by decide +kernel
theorem dX4_takeNumber_62 : decode cX4_takeNumber 62 = .ok (.iinc 3 1, 3) := by decide +kernel
theorem dX4_takeNumber_65 : decode cX4_takeNumber 65 = .ok (.goto (-51), 3) := by decide +kernel
theorem dX4_takeNumber_68 : decode cX4_takeNumber 68 = .ok (.iload_n 3, 1) := by decide +kernel
theorem dX4_takeNumber_69 : decode cX4_takeNumber 69 = .ok (.ifCond .eq 8, 3) := by decide +kernel
theorem dX4_takeNumber_72 : decode cX4_takeNumber 72 = .ok (.iload_n 3, 1) := by decide +kernel
theorem dX4_takeNumber_73 : decode cX4_takeNumber 73 = .ok (.iconst 3, 1) := by decide +kernel
theorem dX4_takeNumber_74 : decode cX4_takeNumber 74 = .ok (.if_icmp .ne 11, 3) := by decide +kernel
theorem dX4_takeNumber_77 : decode cX4_takeNumber 77 = .ok (.aload_n 0, 1) := by decide +kernel
theorem dX4_takeNumber_78 : decode cX4_takeNumber 78 = .ok (.iconst 1, 1) := by decide +kernel
theorem dX4_takeNumber_79 : decode cX4_takeNumber 79 = .ok (.putfield 26, 3) := by decide +kernel
theorem dX4_takeNumber_82 : decode cX4_takeNumber 82 = .ok (.goto 31, 3) := by decide +kernel
theorem dX4_takeNumber_85 : decode cX4_takeNumber 85 = .ok (.iload 4, 2) := by decide +kernel
theorem dX4_takeNumber_87 : decode cX4_takeNumber 87 = .ok (.iload_n 1, 1) := by decide +kernel
theorem dX4_takeNumber_88 : decode cX4_takeNumber 88 = .ok (.iload_n 2, 1) := by decide +kernel
theorem dX4_takeNumber_89 : decode cX4_takeNumber 89 = .ok (.invokestatic 75, 3) := by decide +kernel
theorem dX4_takeNumber_92 : decode cX4_takeNumber 92 = .ok (.ifCond .ne 11, 3) := by decide +kernel
theorem dX4_takeNumber_95 : decode cX4_takeNumber 95 = .ok (.aload_n 0, 1) := by decide +kernel
theorem dX4_takeNumber_96 : decode cX4_takeNumber 96 = .ok (.iconst 2, 1) := by decide +kernel
theorem dX4_takeNumber_97 : decode cX4_takeNumber 97 = .ok (.putfield 26, 3) := by decide +kernel
theorem dX4_takeNumber_100 : decode cX4_takeNumber 100 = .ok (.goto 13, 3) := by decide +kernel
theorem dX4_takeNumber_103 : decode cX4_takeNumber 103 = .ok (.aload_n 0, 1) := by decide +kernel
theorem dX4_takeNumber_104 : decode cX4_takeNumber 104 = .ok (.dup, 1) := by decide +kernel
theorem dX4_takeNumber_105 : decode cX4_takeNumber 105 = .ok (.getfield 22, 3) := by decide +kernel
theorem dX4_takeNumber_108 : decode cX4_takeNumber 108 = .ok (.iload_n 3, 1) := by decide +kernel
theorem dX4_takeNumber_109 : decode cX4_takeNumber 109 = .ok (.iadd, 1) := by decide +kernel
theorem dX4_takeNumber_110 : decode cX4_takeNumber 110 = .ok (.putfield 22, 3) := by decide +kernel
theorem dX4_takeNumber_113 : decode cX4_takeNumber 113 = .ok (.iload 4, 2) := by decide +kernel
theorem dX4_takeNumber_115 : decode cX4_takeNumber 115 = .ok (.ireturn, 1) := by decide +kernel
theorem dX4_isFigure_0 : decode cX4_isFigure 0 = .ok (.iload_n 0, 1) := by decide +kernel
theorem dX4_isFigure_1 : decode cX4_isFigure 1 = .ok (.bipush 48, 2) := by decide +kernel
theorem dX4_isFigure_3 : decode cX4_isFigure 3 = .ok (.if_icmp .lt 13, 3) := by decide +kernel
theorem dX4_isFigure_6 : decode cX4_isFigure 6 = .ok (.iload_n 0, 1) := by decide +kernel
theorem dX4_isFigure_7 : decode cX4_isFigure 7 = .ok (.bipush 57, 2) := by decide +kernel
theorem dX4_isFigure_9 : decode cX4_isFigure 9 = .ok (.if_icmp .gt 7, 3) := by decide +kernel
theorem dX4_isFigure_12 : decode cX4_isFigure 12 = .ok (.iconst 1, 1) := by decide +kernel
theorem dX4_isFigure_13 : decode cX4_isFigure 13 = .ok (.goto 4, 3) := by decide +kernel
theorem dX4_isFigure_16 : decode cX4_isFigure 16 = .ok (.iconst 0, 1) := by decide +kernel
theorem dX4_isFigure_17 : decode cX4_isFigure 17 = .ok (.ireturn, 1) := by decide +kernel
theorem dX4_kindOf_0 : decode cX4_kindOf 0 = .ok (.iload_n 0, 1) := by decide +kernel
theorem dX4_kindOf_1 : decode cX4_kindOf 1 = .ok (.tableswitch 77 97 109 #[69, 75, 67, 77, 77, 73, 77, 77, 77, 77, 77, 77, 71], 67) := by decide +kernel
theorem dX4_kindOf_68 : decode cX4_kindOf 68 = .ok (.iconst 1, 1) := by decide +kernel
theorem dX4_kindOf_69 : decode cX4_kindOf 69 = .ok (.ireturn, 1) := by decide +kernel
theorem dX4_kindOf_70 : decode cX4_kindOf 70 = .ok (.iconst 2, 1) := by decide +kernel
theorem dX4_kindOf_71 : decode cX4_kindOf 71 = .ok (.ireturn, 1) := by decide +kernel
theorem dX4_kindOf_72 : decode cX4_kindOf 72 = .ok (.iconst 3, 1) := by decide +kernel
theorem dX4_kindOf_73 : decode cX4_kindOf 73 = .ok (.ireturn, 1) := by decide +kernel
theorem dX4_kindOf_74 : decode cX4_kindOf 74 = .ok (.iconst 4, 1) := by decide +kernel
theorem dX4_kindOf_75 : decode cX4_kindOf 75 = .ok (.ireturn, 1) := by decide +kernel
theorem dX4_kindOf_76 : decode cX4_kindOf 76 = .ok (.iconst 5, 1) := by decide +kernel
theorem dX4_kindOf_77 : decode cX4_kindOf 77 = .ok (.ireturn, 1) := by decide +kernel
theorem dX4_kindOf_78 : decode cX4_kindOf 78 = .ok (.iconst 0, 1) := by decide +kernel
theorem dX4_kindOf_79 : decode cX4_kindOf 79 = .ok (.ireturn, 1) := by decide +kernel
theorem dX5_init_0 : decode cX5_init 0 = .ok (.aload_n 0, 1) := by decide +kernel
theorem dX5_init_1 : decode cX5_init 1 = .ok (.invokespecial 1, 3) := by decide +kernel
theorem dX5_init_4 : decode cX5_init 4 = .ok (.aload_n 0, 1) := by decide +kernel
theorem dX5_init_5 : decode cX5_init 5 = .ok (.bipush 8, 2) := by decide +kernel
theorem dX5_init_7 : decode cX5_init 7 = .ok (.newarray .int, 2) := by decide +kernel
theorem dX5_init_9 : decode cX5_init 9 = .ok (.putfield 9, 3) := by decide +kernel
theorem dX5_init_12 : decode cX5_init 12 = .ok (.aload_n 0, 1) := by decide +kernel
theorem dX5_init_13 : decode cX5_init 13 = .ok (.bipush 8, 2) := by decide +kernel
theorem dX5_init_15 : decode cX5_init 15 = .ok (.newarray .int, 2) := by decide +kernel
theorem dX5_init_17 : decode cX5_init 17 = .ok (.putfield 13, 3) := by decide +kernel
theorem dX5_init_20 : decode cX5_init 20 = .ok (.aload_n 0, 1) := by decide +kernel
theorem dX5_init_21 : decode cX5_init 21 = .ok (.bipush 8, 2) := by decide +kernel
theorem dX5_init_23 : decode cX5_init 23 = .ok (.bipush 40, 2) := by decide +kernel
theorem dX5_init_25 : decode cX5_init 25 = .ok (.multianewarray 16 2, 4) := by decide +kernel
theorem dX5_init_29 : decode cX5_init 29 = .ok (.putfield 18, 3) := by decide +kernel
theorem dX5_init_32 : decode cX5_init 32 = .ok (.iconst 0, 1) := by decide +kernel
theorem dX5_init_33 : decode cX5_init 33 = .ok (.istore_n 1, 1) := by decide +kernel
theorem dX5_init_34 : decode cX5_init 34 = .ok (.iload_n 1, 1) := by decide +kernel
theorem dX5_init_35 : decode cX5_init 35 = .ok (.bipush 8, 2) := by decide +kernel
theorem dX5_init_37 : decode cX5_init 37 = .ok (.if_icmp .ge 16, 3) := by decide +kernel
theorem dX5_init_40 : decode cX5_init 40 = .ok (.aload_n 0, 1) := by decide +kernel
theorem dX5_init_41 : decode cX5_init 41 = .ok (.getfield 9, 3) := by decide +kernel
theorem dX5_init_44 : decode cX5_init 44 = .ok (.iload_n 1, 1) := by decide +kernel
theorem dX5_init_45 : decode cX5_init 45 = .ok (.iconst (-1), 1) := by decide +kernel
theorem dX5_init_46 : decode cX5_init 46 = .ok (.iastore, 1) := by decide +kernel
theorem dX5_init_47 : decode cX5_init 47 = .ok (.iinc 1 1, 3) := by decide +kernel
theorem dX5_init_50 : decode cX5_init 50 = .ok (.goto (-16), 3) := by decide +kernel
theorem dX5_init_53 : decode cX5_init 53 = .ok (.return_, 1) := by decide +kernel
theorem dX5_isRow_0 : decode cX5_isRow 0 = .ok (.iload_n 0, 1) := by decide +kernel
theorem dX5_isRow_1 : decode cX5_isRow 1 = .ok (.ifCond .lt 13, 3) := by decide +kernel
theorem dX5_isRow_4 : decode cX5_isRow 4 = .ok (.iload_n 0, 1) := by decide +kernel
theorem dX5_isRow_5 : decode cX5_isRow 5 = .ok (.bipush 8, 2) := by decide +kernel
theorem dX5_isRow_7 : decode cX5_isRow 7 = .ok (.if_icmp .ge 7, 3) := by decide +kernel
theorem dX5_isRow_10 : decode cX5_isRow 10 = .ok (.iconst 1, 1) := by decide +kernel
theorem dX5_isRow_11 : decode cX5_isRow 11 = .ok (.goto 4, 3) := by decide +kernel
theorem dX5_isRow_14 : decode cX5_isRow 14 = .ok (.iconst 0, 1) := by decide +kernel
theorem dX5_isRow_15 : decode cX5_isRow 15 = .ok (.ireturn, 1) := by decide +kernel
theorem dX5_isMissing_0 : decode cX5_isMissing 0 = .ok (.aload_n 0, 1) := by decide +kernel
theorem dX5_isMissing_1 : decode cX5_isMissing 1 = .ok (.getfield 9, 3) := by decide +kernel
theorem dX5_isMissing_4 : decode cX5_isMissing 4 = .ok (.iload_n 1, 1) := by decide +kernel
theorem dX5_isMissing_5 : decode cX5_isMissing 5 = .ok (.iaload, 1) := by decide +kernel
theorem dX5_isMissing_6 : decode cX5_isMissing 6 = .ok (.iconst (-1), 1) := by decide +kernel
theorem dX5_isMissing_7 : decode cX5_isMissing 7 = .ok (.if_icmp .ne 7, 3) := by decide +kernel
theorem dX5_isMissing_10 : decode cX5_isMissing 10 = .ok (.iconst 1, 1) := by decide +kernel
theorem dX5_isMissing_11 : decode cX5_isMissing 11 = .ok (.goto 4, 3) := by decide +kernel
theorem dX5_isMissing_14 : decode cX5_isMissing 14 = .ok (.iconst 0, 1) := by decide +kernel
theorem dX5_isMissing_15 : decode cX5_isMissing 15 = .ok (.ireturn, 1) := by decide +kernel
theorem dX5_reaches_0 : decode cX5_reaches 0 = .ok (.iload_n 2, 1) := by decide +kernel
theorem dX5_reaches_1 : decode cX5_reaches 1 = .ok (.ifCond .lt 33, 3) := by decide +kernel
theorem dX5_reaches_4 : decode cX5_reaches 4 = .ok (.iload_n 3, 1) := by decide +kernel
theorem dX5_reaches_5 : decode cX5_reaches 5 = .ok (.ifCond .lt 29, 3) := by decide +kernel
theorem dX5_reaches_8 : decode cX5_reaches 8 = .ok (.iload_n 2, 1) := by decide +kernel
theorem dX5_reaches_9 : decode cX5_reaches 9 = .ok (.aload_n 0, 1) := by decide +kernel
theorem dX5_reaches_10 : decode cX5_reaches 10 = .ok (.getfield 13, 3) := by decide +kernel
theorem dX5_reaches_13 : decode cX5_reaches 13 = .ok (.iload_n 1, 1) := by decide +kernel
theorem dX5_reaches_14 : decode cX5_reaches 14 = .ok (.iaload, 1) := by decide +kernel
theorem dX5_reaches_15 : decode cX5_reaches 15 = .ok (.if_icmp .gt 19, 3) := by decide +kernel
theorem dX5_reaches_18 : decode cX5_reaches 18 = .ok (.iload_n 3, 1) := by decide +kernel
theorem dX5_reaches_19 : decode cX5_reaches 19 = .ok (.aload_n 0, 1) := by decide +kernel
theorem dX5_reaches_20 : decode cX5_reaches 20 = .ok (.getfield 13, 3) := by decide +kernel
theorem dX5_reaches_23 : decode cX5_reaches 23 = .ok (.iload_n 1, 1) := by decide +kernel
theorem dX5_reaches_24 : decode cX5_reaches 24 = .ok (.iaload, 1) := by decide +kernel
theorem dX5_reaches_25 : decode cX5_reaches 25 = .ok (.iload_n 2, 1) := by decide +kernel
theorem dX5_reaches_26 : decode cX5_reaches 26 = .ok (.isub, 1) := by decide +kernel
theorem dX5_reaches_27 : decode cX5_reaches 27 = .ok (.if_icmp .gt 7, 3) := by decide +kernel
theorem dX5_reaches_30 : decode cX5_reaches 30 = .ok (.iconst 1, 1) := by decide +kernel
theorem dX5_reaches_31 : decode cX5_reaches 31 = .ok (.goto 4, 3) := by decide +kernel
theorem dX5_reaches_34 : decode cX5_reaches 34 = .ok (.iconst 0, 1) := by decide +kernel
theorem dX5_reaches_35 : decode cX5_reaches 35 = .ok (.ireturn, 1) := by decide +kernel
theorem dX5_make_0 : decode cX5_make 0 = .ok (.aload_n 0, 1) := by decide +kernel
theorem dX5_make_1 : decode cX5_make 1 = .ok (.getfield 9, 3) := by decide +kernel
theorem dX5_make_4 : decode cX5_make 4 = .ok (.iload_n 1, 1) := by decide +kernel
theorem dX5_make_5 : decode cX5_make 5 = .ok (.iload_n 2, 1) := by decide +kernel
theorem dX5_make_6 : decode cX5_make 6 = .ok (.iastore, 1) := by decide +kernel
theorem dX5_make_7 : decode cX5_make 7 = .ok (.aload_n 0, 1) := by decide +kernel
theorem dX5_make_8 : decode cX5_make 8 = .ok (.getfield 13, 3) := by decide +kernel
theorem dX5_make_11 : decode cX5_make 11 = .ok (.iload_n 1, 1) := by decide +kernel
theorem dX5_make_12 : decode cX5_make 12 = .ok (.iload_n 3, 1) := by decide +kernel
theorem dX5_make_13 : decode cX5_make 13 = .ok (.iastore, 1) := by decide +kernel
theorem dX5_make_14 : decode cX5_make 14 = .ok (.iconst 0, 1) := by decide +kernel
theorem dX5_make_15 : decode cX5_make 15 = .ok (.istore 4, 2) := by decide +kernel
theorem dX5_make_17 : decode cX5_make 17 = .ok (.iload 4, 2) := by decide +kernel
theorem dX5_make_19 : decode cX5_make 19 = .ok (.bipush 40, 2) := by decide +kernel
theorem dX5_make_21 : decode cX5_make 21 = .ok (.if_icmp .ge 19, 3) := by decide +kernel
theorem dX5_make_24 : decode cX5_make 24 = .ok (.aload_n 0, 1) := by decide +kernel
theorem dX5_make_25 : decode cX5_make 25 = .ok (.getfield 18, 3) := by decide +kernel
theorem dX5_make_28 : decode cX5_make 28 = .ok (.iload_n 1, 1) := by decide +kernel
theorem dX5_make_29 : decode cX5_make 29 = .ok (.aaload, 1) := by decide +kernel
theorem dX5_make_30 : decode cX5_make 30 = .ok (.iload 4, 2) := by decide +kernel
theorem dX5_make_32 : decode cX5_make 32 = .ok (.iconst 0, 1) := by decide +kernel
theorem dX5_make_33 : decode cX5_make 33 = .ok (.iastore, 1) := by decide +kernel
theorem dX5_make_34 : decode cX5_make 34 = .ok (.iinc 4 1, 3) := by decide +kernel
theorem dX5_make_37 : decode cX5_make 37 = .ok (.goto (-20), 3) := by decide +kernel
theorem dX5_make_40 : decode cX5_make 40 = .ok (.return_, 1) := by decide +kernel
theorem dX5_put_0 : decode cX5_put 0 = .ok (.aload_n 0, 1) := by decide +kernel
theorem dX5_put_1 : decode cX5_put 1 = .ok (.getfield 18, 3) := by decide +kernel
theorem dX5_put_4 : decode cX5_put 4 = .ok (.iload_n 1, 1) := by decide +kernel
theorem dX5_put_5 : decode cX5_put 5 = .ok (.aaload, 1) := by decide +kernel
theorem dX5_put_6 : decode cX5_put 6 = .ok (.iload_n 2, 1) := by decide +kernel
theorem dX5_put_7 : decode cX5_put 7 = .ok (.aload_n 0, 1) := by decide +kernel
theorem dX5_put_8 : decode cX5_put 8 = .ok (.getfield 9, 3) := by decide +kernel
theorem dX5_put_11 : decode cX5_put 11 = .ok (.iload_n 1, 1) := by decide +kernel
theorem dX5_put_12 : decode cX5_put 12 = .ok (.iaload, 1) := by decide +kernel
theorem dX5_put_13 : decode cX5_put 13 = .ok (.iload_n 3, 1) := by decide +kernel
theorem dX5_put_14 : decode cX5_put 14 = .ok (.invokestatic 21, 3) := by decide +kernel
theorem dX5_put_17 : decode cX5_put 17 = .ok (.iastore, 1) := by decide +kernel
theorem dX5_put_18 : decode cX5_put 18 = .ok (.aload_n 0, 1) := by decide +kernel
theorem dX5_put_19 : decode cX5_put 19 = .ok (.getfield 18, 3) := by decide +kernel
theorem dX5_put_22 : decode cX5_put 22 = .ok (.iload_n 1, 1) := by decide +kernel
theorem dX5_put_23 : decode cX5_put 23 = .ok (.aaload, 1) := by decide +kernel
theorem dX5_put_24 : decode cX5_put 24 = .ok (.iload_n 2, 1) := by decide +kernel
theorem dX5_put_25 : decode cX5_put 25 = .ok (.iaload, 1) := by decide +kernel
theorem dX5_put_26 : decode cX5_put 26 = .ok (.ireturn, 1) := by decide +kernel
theorem dX5_item_0 : decode cX5_item 0 = .ok (.aload_n 0, 1) := by decide +kernel
theorem dX5_item_1 : decode cX5_item 1 = .ok (.getfield 18, 3) := by decide +kernel
theorem dX5_item_4 : decode cX5_item 4 = .ok (.iload_n 1, 1) := by decide +kernel
theorem dX5_item_5 : decode cX5_item 5 = .ok (.aaload, 1) := by decide +kernel
theorem dX5_item_6 : decode cX5_item 6 = .ok (.iload_n 2, 1) := by decide +kernel
theorem dX5_item_7 : decode cX5_item 7 = .ok (.iaload, 1) := by decide +kernel
theorem dX5_item_8 : decode cX5_item 8 = .ok (.ireturn, 1) := by decide +kernel
theorem dX5_move_0 : decode cX5_move 0 = .ok (.aload_n 0, 1) := by decide +kernel
theorem dX5_move_1 : decode cX5_move 1 = .ok (.getfield 18, 3) := by decide +kernel
theorem dX5_move_4 : decode cX5_move 4 = .ok (.iload_n 1, 1) := by decide +kernel
theorem dX5_move_5 : decode cX5_move 5 = .ok (.aaload, 1) := by decide +kernel
theorem dX5_move_6 : decode cX5_move 6 = .ok (.iload_n 2, 1) := by decide +kernel
theorem dX5_move_7 : decode cX5_move 7 = .ok (.aload_n 0, 1) := by decide +kernel
theorem dX5_move_8 : decode cX5_move 8 = .ok (.getfield 18, 3) := by decide +kernel
theorem dX5_move_11 : decode cX5_move 11 = .ok (.iload_n 3, 1) := by decide +kernel
theorem dX5_move_12 : decode cX5_move 12 = .ok (.aaload, 1) := by decide +kernel
theorem dX5_move_13 : decode cX5_move 13 = .ok (.iload 4, 2) := by decide +kernel
theorem dX5_move_15 : decode cX5_move 15 = .ok (.iload 5, 2) := by decide +kernel
theorem dX5_move_17 : decode cX5_move 17 = .ok (.invokestatic 25, 3) := by decide +kernel
theorem dX5_move_20 : decode cX5_move 20 = .ok (.return_, 1) := by decide +kernel
theorem dX5_lose_0 : decode cX5_lose 0 = .ok (.aload_n 0, 1) := by decide +kernel
theorem dX5_lose_1 : decode cX5_lose 1 = .ok (.getfield 9, 3) := by decide +kernel
theorem dX5_lose_4 : decode cX5_lose 4 = .ok (.iload_n 1, 1) := by decide +kernel
theorem dX5_lose_5 : decode cX5_lose 5 = .ok (.iconst (-1), 1) := by decide +kernel
theorem dX5_lose_6 : decode cX5_lose 6 = .ok (.iastore, 1) := by decide +kernel
theorem dX5_lose_7 : decode cX5_lose 7 = .ok (.aload_n 0, 1) := by decide +kernel
theorem dX5_lose_8 : decode cX5_lose 8 = .ok (.getfield 13, 3) := by decide +kernel
theorem dX5_lose_11 : decode cX5_lose 11 = .ok (.iload_n 1, 1) := by decide +kernel
theorem dX5_lose_12 : decode cX5_lose 12 = .ok (.iaload, 1) := by decide +kernel
theorem dX5_lose_13 : decode cX5_lose 13 = .ok (.ireturn, 1) := by decide +kernel
theorem dX5_present_0 : decode cX5_present 0 = .ok (.iconst 0, 1) := by decide +kernel
theorem dX5_present_1 : decode cX5_present 1 = .ok (.istore_n 1, 1) := by decide +kernel
theorem dX5_present_2 : decode cX5_present 2 = .ok (.iconst 0, 1) := by decide +kernel
theorem dX5_present_3 : decode cX5_present 3 = .ok (.istore_n 2, 1) := by decide +kernel
theorem dX5_present_4 : decode cX5_present 4 = .ok (.iload_n 2, 1) := by decide +kernel
theorem dX5_present_5 : decode cX5_present 5 = .ok (.bipush 8, 2) := by decide +kernel
theorem dX5_present_7 : decode cX5_present 7 = .ok (.if_icmp .ge 22, 3) := by decide +kernel
theorem dX5_present_10 : decode cX5_present 10 = .ok (.aload_n 0, 1) := by decide +kernel
theorem dX5_present_11 : decode cX5_present 11 = .ok (.getfield 9, 3) := by decide +kernel
theorem dX5_present_14 : decode cX5_present 14 = .ok (.iload_n 2, 1) := by decide +kernel
theorem dX5_present_15 : decode cX5_present 15 = .ok (.iaload, 1) := by decide +kernel
theorem dX5_present_16 : decode cX5_present 16 = .ok (.iconst (-1), 1) := by decide +kernel
theorem dX5_present_17 : decode cX5_present 17 = .ok (.if_icmp .eq 6, 3) := by decide +kernel
theorem dX5_present_20 : decode cX5_present 20 = .ok (.iinc 1 1, 3) := by decide +kernel
theorem dX5_present_23 : decode cX5_present 23 = .ok (.iinc 2 1, 3) := by decide +kernel
theorem dX5_present_26 : decode cX5_present 26 = .ok (.goto (-22), 3) := by decide +kernel
theorem dX5_present_29 : decode cX5_present 29 = .ok (.iload_n 1, 1) := by decide +kernel
theorem dX5_present_30 : decode cX5_present 30 = .ok (.ireturn, 1) := by decide +kernel
theorem dX5_narrowed_0 : decode cX5_narrowed 0 = .ok (.iload_n 0, 1) := by decide +kernel
theorem dX5_narrowed_1 : decode cX5_narrowed 1 = .ok (.ifCond .ne 6, 3) := by decide +kernel
theorem dX5_narrowed_4 : decode cX5_narrowed 4 = .ok (.iload_n 1, 1) := by decide +kernel
theorem dX5_narrowed_5 : decode cX5_narrowed 5 = .ok (.i2b, 1) := by decide +kernel
theorem dX5_narrowed_6 : decode cX5_narrowed 6 = .ok (.ireturn, 1) := by decide +kernel
theorem dX5_narrowed_7 : decode cX5_narrowed 7 = .ok (.iload_n 0, 1) := by decide +kernel
theorem dX5_narrowed_8 : decode cX5_narrowed 8 = .ok (.iconst 1, 1) := by decide +kernel
theorem dX5_narrowed_9 : decode cX5_narrowed 9 = .ok (.if_icmp .ne 8, 3) := by decide +kernel
theorem dX5_narrowed_12 : decode cX5_narrowed 12 = .ok (.iload_n 1, 1) := by decide +kernel
theorem dX5_narrowed_13 : decode cX5_narrowed 13 = .ok (.i2s, 1) := by decide +kernel
theorem dX5_narrowed_14 : decode cX5_narrowed 14 = .ok (.goto 4, 3) := by decide +kernel
theorem dX5_narrowed_17 : decode cX5_narrowed 17 = .ok (.iload_n 1, 1) := by decide +kernel
theorem dX5_narrowed_18 : decode cX5_narrowed 18 = .ok (.ireturn, 1) := by decide +kernel
theorem dX6_init_0 : decode cX6_init 0 = .ok (.aload_n 0, 1) := by decide +kernel
theorem dX6_init_1 : decode cX6_init 1 = .ok (.invokespecial 3, 3) := by decide +kernel
theorem dX6_init_4 : decode cX6_init 4 = .ok (.aload_n 0, 1) := by decide +kernel
theorem dX6_init_5 : decode cX6_init 5 = .ok (.iconst 5, 1) := by decide +kernel
theorem dX6_init_6 : decode cX6_init 6 = .ok (.newarray .int, 2) := by decide +kernel
theorem dX6_init_8 : decode cX6_init 8 = .ok (.putfield 9, 3) := by decide +kernel
theorem dX6_init_11 : decode cX6_init 11 = .ok (.aload_n 0, 1) := by decide +kernel
theorem dX6_init_12 : decode cX6_init 12 = .ok (.iconst 5, 1) := by decide +kernel
theorem dX6_init_13 : decode cX6_init 13 = .ok (.newarray .int, 2) := by decide +kernel
theorem dX6_init_15 : decode cX6_init 15 = .ok (.putfield 15, 3) := by decide +kernel
theorem dX6_init_18 : decode cX6_init 18 = .ok (.aload_n 0, 1) := by decide +kernel
theorem dX6_init_19 : decode cX6_init 19 = .ok (.iconst 5, 1) := by decide +kernel
theorem dX6_init_20 : decode cX6_init 20 = .ok (.newarray .int, 2) := by decide +kernel
theorem dX6_init_22 : decode cX6_init 22 = .ok (.putfield 18, 3) := by decide +kernel
theorem dX6_init_25 : decode cX6_init 25 = .ok (.aload_n 0, 1) := by decide +kernel
theorem dX6_init_26 : decode cX6_init 26 = .ok (.iconst 5, 1) := by decide +kernel
theorem dX6_init_27 : decode cX6_init 27 = .ok (.newarray .int, 2) := by decide +kernel
theorem dX6_init_29 : decode cX6_init 29 = .ok (.putfield 21, 3) := by decide +kernel
theorem dX6_init_32 : decode cX6_init 32 = .ok (.aload_n 0, 1) := by decide +kernel
theorem dX6_init_33 : decode cX6_init 33 = .ok (.iconst 5, 1) := by decide +kernel
theorem dX6_init_34 : decode cX6_init 34 = .ok (.newarray .int, 2) := by decide +kernel
theorem dX6_init_36 : decode cX6_init 36 = .ok (.putfield 24, 3) := by decide +kernel
theorem dX6_init_39 : decode cX6_init 39 = .ok (.aload_n 0, 1) := by decide +kernel
theorem dX6_init_40 : decode cX6_init 40 = .ok (.bipush 16, 2) := by decide +kernel
theorem dX6_init_42 : decode cX6_init 42 = .ok (.newarray .int, 2) := by decide +kernel
theorem dX6_init_44 : decode cX6_init 44 = .ok (.putfield 27, 3) := by decide +kernel
theorem dX6_init_47 : decode cX6_init 47 = .ok (.return_, 1) := by decide +kernel
theorem dX6_become_0 : decode cX6_become 0 = .ok (.aload_n 0, 1) := by decide +kernel
theorem dX6_become_1 : decode cX6_become 1 = .ok (.aload_n 1, 1) := by decide +kernel
theorem dX6_become_2 : decode cX6_become 2 = .ok (.getfield 30, 3) := by decide +kernel
theorem dX6_become_5 : decode cX6_become 5 = .ok (.putfield 30, 3) := by decide +kernel
theorem dX6_become_8 : decode cX6_become 8 = .ok (.aload_n 0, 1) := by decide +kernel
theorem dX6_become_9 : decode cX6_become 9 = .ok (.aload_n 1, 1) := by decide +kernel
theorem dX6_become_10 : decode cX6_become 10 = .ok (.getfield 34, 3) := by decide +kernel
theorem dX6_become_13 : decode cX6_become 13 = .ok (.putfield 34, 3) := by decide +kernel
theorem dX6_become_16 : decode cX6_become 16 = .ok (.aload_n 0, 1) := by decide +kernel
theorem dX6_become_17 : decode cX6_become 17 = .ok (.aload_n 1, 1) := by decide +kernel
theorem dX6_become_18 : decode cX6_become 18 = .ok (.getfield 37, 3) := by decide +kernel
theorem dX6_become_21 : decode cX6_become 21 = .ok (.putfield 37, 3) := by decide +kernel
theorem dX6_become_24 : decode cX6_become 24 = .ok (.aload_n 0, 1) := by decide +kernel
theorem dX6_become_25 : decode cX6_become 25 = .ok (.aload_n 1, 1) := by decide +kernel
theorem dX6_become_26 : decode cX6_become 26 = .ok (.getfield 40, 3) := by decide +kernel
theorem dX6_become_29 : decode cX6_become 29 = .ok (.putfield 40, 3) := by decide +kernel
theorem dX6_become_32 : decode cX6_become 32 = .ok (.aload_n 1, 1) := by decide +kernel
theorem dX6_become_33 : decode cX6_become 33 = .ok (.getfield 9, 3) := by decide +kernel
theorem dX6_become_36 : decode cX6_become 36 = .ok (.iconst 0, 1) := by decide +kernel
theorem dX6_become_37 : decode cX6_become 37 = .ok (.aload_n 0, 1) := by decide +kernel
theorem dX6_become_38 : decode cX6_become 38 = .ok (.getfield 9, 3) := by decide +kernel
theorem dX6_become_41 : decode cX6_become 41 = .ok (.iconst 0, 1) := by decide +kernel
theorem dX6_become_42 : decode cX6_become 42 = .ok (.iconst 5, 1) := by decide +kernel
theorem dX6_become_43 : decode cX6_become 43 = .ok (.invokestatic 43, 3) := by decide +kernel
theorem dX6_become_46 : decode cX6_become 46 = .ok (.aload_n 1, 1) := by decide +kernel
theorem dX6_become_47 : decode cX6_become 47 = .ok (.getfield 15, 3) := by decide +kernel
theorem dX6_become_50 : decode cX6_become 50 = .ok (.iconst 0, 1) := by decide +kernel
theorem dX6_become_51 : decode cX6_become 51 = .ok (.aload_n 0, 1) := by decide +kernel
theorem dX6_become_52 : decode cX6_become 52 = .ok (.getfield 15, 3) := by decide +kernel
theorem dX6_become_55 : decode cX6_become 55 = .ok (.iconst 0, 1) := by decide +kernel
theorem dX6_become_56 : decode cX6_become 56 = .ok (.iconst 5, 1) := by decide +kernel
theorem dX6_become_57 : decode cX6_become 57 = .ok (.invokestatic 43, 3) := by decide +kernel
theorem dX6_become_60 : decode cX6_become 60 = .ok (.aload_n 1, 1) := by decide +kernel
theorem dX6_become_61 : decode cX6_become 61 = .ok (.getfield 18, 3) := by decide +kernel
theorem dX6_become_64 : decode cX6_become 64 = .ok (.iconst 0, 1) := by decide +kernel
theorem dX6_become_65 : decode cX6_become 65 = .ok (.aload_n 0, 1) := by decide +kernel
theorem dX6_become_66 : decode cX6_become 66 = .ok (.getfield 18, 3) := by decide +kernel
theorem dX6_become_69 : decode cX6_become 69 = .ok (.iconst 0, 1) := by decide +kernel
theorem dX6_become_70 : decode cX6_become 70 = .ok (.iconst 5, 1) := by decide +kernel
theorem dX6_become_71 : decode cX6_become 71 = .ok (.invokestatic 43, 3) := by decide +kernel
theorem dX6_become_74 : decode cX6_become 74 = .ok (.aload_n 1, 1) := by decide +kernel
theorem dX6_become_75 : decode cX6_become 75 = .ok (.getfield 21, 3) := by decide +kernel
theorem dX6_become_78 : decode cX6_become 78 = .ok (.iconst 0, 1) := by decide +kernel
theorem dX6_become_79 : decode cX6_become 79 = .ok (.aload_n 0, 1) := by decide +kernel
theorem dX6_become_80 : decode cX6_become 80 = .ok (.getfield 21, 3) := by decide +kernel
theorem dX6_become_83 : decode cX6_become 83 = .ok (.iconst 0, 1) := by decide +kernel
theorem dX6_become_84 : decode cX6_become 84 = .ok (.iconst 5, 1) := by decide +kernel
theorem dX6_become_85 : decode cX6_become 85 = .ok (.invokestatic 43, 3) := by decide +kernel
theorem dX6_become_88 : decode cX6_become 88 = .ok (.aload_n 1, 1) := by decide +kernel
theorem dX6_become_89 : decode cX6_become 89 = .ok (.getfield 24, 3) := by decide +kernel
theorem dX6_become_92 : decode cX6_become 92 = .ok (.iconst 0, 1) := by decide +kernel
theorem dX6_become_93 : decode cX6_become 93 = .ok (.aload_n 0, 1) := by decide +kernel
theorem dX6_become_94 : decode cX6_become 94 = .ok (.getfield 24, 3) := by decide +kernel
theorem dX6_become_97 : decode cX6_become 97 = .ok (.iconst 0, 1) := by decide +kernel
theorem dX6_become_98 : decode cX6_become 98 = .ok (.iconst 5, 1) := by decide +kernel
theorem dX6_become_99 : decode cX6_become 99 = .ok (.invokestatic 43, 3) := by decide +kernel
theorem dX6_become_102 : decode cX6_become 102 = .ok (.aload_n 1, 1) := by decide +kernel
theorem dX6_become_103 : decode cX6_become 103 = .ok (.getfield 27, 3) := by decide +kernel
theorem dX6_become_106 : decode cX6_become 106 = .ok (.iconst 0, 1) := by decide +kernel
theorem dX6_become_107 : decode cX6_become 107 = .ok (.aload_n 0, 1) := by decide +kernel
theorem dX6_become_108 : decode cX6_become 108 = .ok (.getfield 27, 3) := by decide +kernel
theorem dX6_become_111 : decode cX6_become 111 = .ok (.iconst 0, 1) := by decide +kernel
theorem dX6_become_112 : decode cX6_become 112 = .ok (.bipush 16, 2) := by decide +kernel
theorem dX6_become_114 : decode cX6_become 114 = .ok (.invokestatic 43, 3) := by decide +kernel
theorem dX6_become_117 : decode cX6_become 117 = .ok (.return_, 1) := by decide +kernel
theorem dX6_addCloud_0 : decode cX6_addCloud 0 = .ok (.aload_n 0, 1) := by decide +kernel
theorem dX6_addCloud_1 : decode cX6_addCloud 1 = .ok (.getfield 30, 3) := by decide +kernel
theorem dX6_addCloud_4 : decode cX6_addCloud 4 = .ok (.iconst 5, 1) := by decide +kernel
theorem dX6_addCloud_5 : decode cX6_addCloud 5 = .ok (.if_icmp .lt 4, 3) := by decide +kernel
theorem dX6_addCloud_8 : decode cX6_addCloud 8 = .ok (.return_, 1) := by decide +kernel
theorem dX6_addCloud_9 : decode cX6_addCloud 9 = .ok (.aload_n 0, 1) := by decide +kernel
theorem dX6_addCloud_10 : decode cX6_addCloud 10 = .ok (.getfield 9, 3) := by decide +kernel
theorem dX6_addCloud_13 : decode cX6_addCloud 13 = .ok (.aload_n 0, 1) := by decide +kernel
theorem dX6_addCloud_14 : decode cX6_addCloud 14 = .ok (.getfield 30, 3) := by decide +kernel
theorem dX6_addCloud_17 : decode cX6_addCloud 17 = .ok (.iload_n 1, 1) := by decide +kernel
theorem dX6_addCloud_18 : decode cX6_addCloud 18 = .ok (.iastore, 1) := by decide +kernel
theorem dX6_addCloud_19 : decode cX6_addCloud 19 = .ok (.aload_n 0, 1) := by decide +kernel
theorem dX6_addCloud_20 : decode cX6_addCloud 20 = .ok (.getfield 15, 3) := by decide +kernel
theorem dX6_addCloud_23 : decode cX6_addCloud 23 = .ok (.aload_n 0, 1) := by decide +kernel
theorem dX6_addCloud_24 : decode cX6_addCloud 24 = .ok (.getfield 30, 3) := by decide +kernel
theorem dX6_addCloud_27 : decode cX6_addCloud 27 = .ok (.iload_n 2, 1) := by decide +kernel
theorem dX6_addCloud_28 : decode cX6_addCloud 28 = .ok (.iastore, 1) := by decide +kernel
theorem dX6_addCloud_29 : decode cX6_addCloud 29 = .ok (.aload_n 0, 1) := by decide +kernel
theorem dX6_addCloud_30 : decode cX6_addCloud 30 = .ok (.getfield 18, 3) := by decide +kernel
theorem dX6_addCloud_33 : decode cX6_addCloud 33 = .ok (.aload_n 0, 1) := by decide +kernel
theorem dX6_addCloud_34 : decode cX6_addCloud 34 = .ok (.getfield 30, 3) := by decide +kernel
theorem dX6_addCloud_37 : decode cX6_addCloud 37 = .ok (.iload_n 3, 1) := by decide +kernel
theorem dX6_addCloud_38 : decode cX6_addCloud 38 = .ok (.iastore, 1) := by decide +kernel
theorem dX6_addCloud_39 : decode cX6_addCloud 39 = .ok (.aload_n 0, 1) := by decide +kernel
theorem dX6_addCloud_40 : decode cX6_addCloud 40 = .ok (.getfield 21, 3) := by decide +kernel
theorem dX6_addCloud_43 : decode cX6_addCloud 43 = .ok (.aload_n 0, 1) := by decide +kernel
theorem dX6_addCloud_44 : decode cX6_addCloud 44 = .ok (.getfield 30, 3) := by decide +kernel
theorem dX6_addCloud_47 : decode cX6_addCloud 47 = .ok (.iload 4, 2) := by decide +kernel
theorem dX6_addCloud_49 : decode cX6_addCloud 49 = .ok (.iastore, 1) := by decide +kernel
theorem dX6_addCloud_50 : decode cX6_addCloud 50 = .ok (.aload_n 0, 1) := by decide +kernel
theorem dX6_addCloud_51 : decode cX6_addCloud 51 = .ok (.getfield 24, 3) := by decide +kernel
theorem dX6_addCloud_54 : decode cX6_addCloud 54 = .ok (.aload_n 0, 1) := by decide +kernel
theorem dX6_addCloud_55 : decode cX6_addCloud 55 = .ok (.getfield 30, 3) := by decide +kernel
theorem dX6_addCloud_58 : decode cX6_addCloud 58 = .ok (.iload 5, 2) := by decide +kernel
theorem dX6_addCloud_60 : decode cX6_addCloud 60 = .ok (.iastore, 1) := by decide +kernel
theorem dX6_addCloud_61 : decode cX6_addCloud 61 = .ok (.aload_n 0, 1) := by decide +kernel
theorem dX6_addCloud_62 : decode cX6_addCloud 62 = .ok (.dup, 1) := by decide +kernel
theorem dX6_addCloud_63 : decode cX6_addCloud 63 = .ok (.getfield 30, 3) := by decide +kernel
theorem dX6_addCloud_66 : decode cX6_addCloud 66 = .ok (.iconst 1, 1) := by decide +kernel
theorem dX6_addCloud_67 : decode cX6_addCloud 67 = .ok (.iadd, 1) := by decide +kernel
theorem dX6_addCloud_68 : decode cX6_addCloud 68 = .ok (.putfield 30, 3) := by decide +kernel
theorem dX6_addCloud_71 : decode cX6_addCloud 71 = .ok (.return_, 1) := by decide +kernel
theorem dX6_forgetRain_0 : decode cX6_forgetRain 0 = .ok (.iconst 0, 1) := by decide +kernel
theorem dX6_forgetRain_1 : decode cX6_forgetRain 1 = .ok (.istore_n 1, 1) := by decide +kernel
theorem dX6_forgetRain_2 : decode cX6_forgetRain 2 = .ok (.iload_n 1, 1) := by decide +kernel
theorem dX6_forgetRain_3 : decode cX6_forgetRain 3 = .ok (.bipush 16, 2) := by decide +kernel
theorem dX6_forgetRain_5 : decode cX6_forgetRain 5 = .ok (.if_icmp .ge 16, 3) := by decide +kernel
theorem dX6_forgetRain_8 : decode cX6_forgetRain 8 = .ok (.aload_n 0, 1) := by decide +kernel
theorem dX6_forgetRain_9 : decode cX6_forgetRain 9 = .ok (.getfield 27, 3) := by decide +kernel
theorem dX6_forgetRain_12 : decode cX6_forgetRain 12 = .ok (.iload_n 1, 1) := by decide +kernel
theorem dX6_forgetRain_13 : decode cX6_forgetRain 13 = .ok (.iconst 0, 1) := by decide +kernel
theorem dX6_forgetRain_14 : decode cX6_forgetRain 14 = .ok (.iastore, 1) := by decide +kernel
theorem dX6_forgetRain_15 : decode cX6_forgetRain 15 = .ok (.iinc 1 1, 3) := by decide +kernel
theorem dX6_forgetRain_18 : decode cX6_forgetRain 18 = .ok (.goto (-16), 3) := by decide +kernel
theorem dX6_forgetRain_21 : decode cX6_forgetRain 21 = .ok (.return_, 1) := by decide +kernel
theorem dX6_isGone_0 : decode cX6_isGone 0 = .ok (.aload_n 0, 1) := by decide +kernel
theorem dX6_isGone_1 : decode cX6_isGone 1 = .ok (.getfield 21, 3) := by decide +kernel
theorem dX6_isGone_4 : decode cX6_isGone 4 = .ok (.iload_n 1, 1) := by decide +kernel
theorem dX6_isGone_5 : decode cX6_isGone 5 = .ok (.iaload, 1) := by decide +kernel
theorem dX6_isGone_6 : decode cX6_isGone 6 = .ok (.ifCond .ne 7, 3) := by decide +kernel
theorem dX6_isGone_9 : decode cX6_isGone 9 = .ok (.iconst 1, 1) := by decide +kernel
theorem dX6_isGone_10 : decode cX6_isGone 10 = .ok (.goto 4, 3) := by decide +kernel
theorem dX6_isGone_13 : decode cX6_isGone 13 = .ok (.iconst 0, 1) := by decide +kernel
theorem dX6_isGone_14 : decode cX6_isGone 14 = .ok (.ireturn, 1) := by decide +kernel
theorem dX6_alive_0 : decode cX6_alive 0 = .ok (.iconst 0, 1) := by decide +kernel
theorem dX6_alive_1 : decode cX6_alive 1 = .ok (.istore_n 1, 1) := by decide +kernel
theorem dX6_alive_2 : decode cX6_alive 2 = .ok (.iconst 0, 1) := by decide +kernel
theorem dX6_alive_3 : decode cX6_alive 3 = .ok (.istore_n 2, 1) := by decide +kernel
theorem dX6_alive_4 : decode cX6_alive 4 = .ok (.iload_n 2, 1) := by decide +kernel
theorem dX6_alive_5 : decode cX6_alive 5 = .ok (.aload_n 0, 1) := by decide +kernel
theorem dX6_alive_6 : decode cX6_alive 6 = .ok (.getfield 30, 3) := by decide +kernel
theorem dX6_alive_9 : decode cX6_alive 9 = .ok (.if_icmp .ge 23, 3) := by decide +kernel
theorem dX6_alive_12 : decode cX6_alive 12 = .ok (.aload_n 0, 1) := by decide +kernel
theorem dX6_alive_13 : decode cX6_alive 13 = .ok (.iload_n 2, 1) := by decide +kernel
theorem dX6_alive_14 : decode cX6_alive 14 = .ok (.invokevirtual 49, 3) := by decide +kernel
theorem dX6_alive_17 : decode cX6_alive 17 = .ok (.ifCond .ne 9, 3) := by decide +kernel
theorem dX6_alive_20 : decode cX6_alive 20 = .ok (.iload_n 1, 1) := by decide +kernel
theorem dX6_alive_21 : decode cX6_alive 21 = .ok (.iconst 1, 1) := by decide +kernel
theorem dX6_alive_22 : decode cX6_alive 22 = .ok (.iload_n 2, 1) := by decide +kernel
theorem dX6_alive_23 : decode cX6_alive 23 = .ok (.ishl, 1) := by decide +kernel
theorem dX6_alive_24 : decode cX6_alive 24 = .ok (.ior, 1) := by decide +kernel
theorem dX6_alive_25 : decode cX6_alive 25 = .ok (.istore_n 1, 1) := by decide +kernel
theorem dX6_alive_26 : decode cX6_alive 26 = .ok (.iinc 2 1, 3) := by decide +kernel
theorem dX6_alive_29 : decode cX6_alive 29 = .ok (.goto (-25), 3) := by decide +kernel
theorem dX6_alive_32 : decode cX6_alive 32 = .ok (.iload_n 1, 1) := by decide +kernel
theorem dX6_alive_33 : decode cX6_alive 33 = .ok (.ireturn, 1) := by decide +kernel
theorem dX6_speed_0 : decode cX6_speed 0 = .ok (.aload_n 0, 1) := by decide +kernel
theorem dX6_speed_1 : decode cX6_speed 1 = .ok (.getfield 9, 3) := by decide +kernel
theorem dX6_speed_4 : decode cX6_speed 4 = .ok (.iload_n 1, 1) := by decide +kernel
theorem dX6_speed_5 : decode cX6_speed 5 = .ok (.iaload, 1) := by decide +kernel
theorem dX6_speed_6 : decode cX6_speed 6 = .ok (.tableswitch 38 1 3 #[26, 31, 26], 26) := by decide +kernel
theorem dX6_speed_32 : decode cX6_speed 32 = .ok (.aload_n 0, 1) := by decide +kernel
theorem dX6_speed_33 : decode cX6_speed 33 = .ok (.getfield 34, 3) := by decide +kernel
theorem dX6_speed_36 : decode cX6_speed 36 = .ok (.ireturn, 1) := by decide +kernel
theorem dX6_speed_37 : decode cX6_speed 37 = .ok (.aload_n 0, 1) := by decide +kernel
theorem dX6_speed_38 : decode cX6_speed 38 = .ok (.getfield 34, 3) := by decide +kernel
theorem dX6_speed_41 : decode cX6_speed 41 = .ok (.iconst 1, 1) := by decide +kernel
theorem dX6_speed_42 : decode cX6_speed 42 = .ok (.iadd, 1) := by decide +kernel
theorem dX6_speed_43 : decode cX6_speed 43 = .ok (.ireturn, 1) := by decide +kernel
theorem dX6_speed_44 : decode cX6_speed 44 = .ok (.iconst 0, 1) := by decide +kernel
theorem dX6_speed_45 : decode cX6_speed 45 = .ok (.ireturn, 1) := by decide +kernel
theorem dX6_rain_0 : decode cX6_rain 0 = .ok (.aload_n 0, 1) := by decide +kernel
theorem dX6_rain_1 : decode cX6_rain 1 = .ok (.getfield 9, 3) := by decide +kernel
theorem dX6_rain_4 : decode cX6_rain 4 = .ok (.iload_n 1, 1) := by decide +kernel
theorem dX6_rain_5 : decode cX6_rain 5 = .ok (.iaload, 1) := by decide +kernel
theorem dX6_rain_6 : decode cX6_rain 6 = .ok (.tableswitch 45 1 5 #[34, 36, 45, 34, 38], 34) := by decide +kernel
theorem dX6_rain_40 : decode cX6_rain 40 = .ok (.iconst 1, 1) := by decide +kernel
theorem dX6_rain_41 : decode cX6_rain 41 = .ok (.ireturn, 1) := by decide +kernel
theorem dX6_rain_42 : decode cX6_rain 42 = .ok (.iconst 2, 1) := by decide +kernel
theorem dX6_rain_43 : decode cX6_rain 43 = .ok (.ireturn, 1) := by decide +kernel
theorem dX6_rain_44 : decode cX6_rain 44 = .ok (.aload_n 0, 1) := by decide +kernel
theorem dX6_rain_45 : decode cX6_rain 45 = .ok (.getfield 40, 3) := by decide +kernel
theorem dX6_rain_48 : decode cX6_rain 48 = .ok (.iconst 1, 1) := by decide +kernel
theorem dX6_rain_49 : decode cX6_rain 49 = .ok (.iand, 1) := by decide +kernel
theorem dX6_rain_50 : decode cX6_rain 50 = .ok (.ireturn, 1) := by decide +kernel
theorem dX6_rain_51 : decode cX6_rain 51 = .ok (.iconst 0, 1) := by decide +kernel
theorem dX6_rain_52 : decode cX6_rain 52 = .ok (.ireturn, 1) := by decide +kernel
theorem dX6_need_0 : decode cX6_need 0 = .ok (.aload_n 0, 1) := by decide +kernel
theorem dX6_need_1 : decode cX6_need 1 = .ok (.getfield 18, 3) := by decide +kernel
theorem dX6_need_4 : decode cX6_need 4 = .ok (.iload_n 1, 1) := by decide +kernel
theorem dX6_need_5 : decode cX6_need 5 = .ok (.iaload, 1) := by decide +kernel
theorem dX6_need_6 : decode cX6_need 6 = .ok (.aload_n 0, 1) := by decide +kernel
theorem dX6_need_7 : decode cX6_need 7 = .ok (.iload_n 1, 1) := by decide +kernel
theorem dX6_need_8 : decode cX6_need 8 = .ok (.invokevirtual 53, 3) := by decide +kernel
theorem dX6_need_11 : decode cX6_need 11 = .ok (.imul, 1) := by decide +kernel
theorem dX6_need_12 : decode cX6_need 12 = .ok (.ireturn, 1) := by decide +kernel
theorem dX6_reach_0 : decode cX6_reach 0 = .ok (.iconst 1, 1) := by decide +kernel
theorem dX6_reach_1 : decode cX6_reach 1 = .ok (.aload_n 0, 1) := by decide +kernel
theorem dX6_reach_2 : decode cX6_reach 2 = .ok (.getfield 18, 3) := by decide +kernel
theorem dX6_reach_5 : decode cX6_reach 5 = .ok (.iload_n 1, 1) := by decide +kernel
theorem dX6_reach_6 : decode cX6_reach 6 = .ok (.iaload, 1) := by decide +kernel
theorem dX6_reach_7 : decode cX6_reach 7 = .ok (.ishl, 1) := by decide +kernel
theorem dX6_reach_8 : decode cX6_reach 8 = .ok (.iconst 1, 1) := by decide +kernel
theorem dX6_reach_9 : decode cX6_reach 9 = .ok (.isub, 1) := by decide +kernel
theorem dX6_reach_10 : decode cX6_reach 10 = .ok (.aload_n 0, 1) := by decide +kernel
theorem dX6_reach_11 : decode cX6_reach 11 = .ok (.getfield 15, 3) := by decide +kernel
theorem dX6_reach_14 : decode cX6_reach 14 = .ok (.iload_n 1, 1) := by decide +kernel
theorem dX6_reach_15 : decode cX6_reach 15 = .ok (.iaload, 1) := by decide +kernel
theorem dX6_reach_16 : decode cX6_reach 16 = .ok (.invokestatic 57, 3) := by decide +kernel
theorem dX6_reach_19 : decode cX6_reach 19 = .ok (.ireturn, 1) := by decide +kernel
theorem dX6_shade_0 : decode cX6_shade 0 = .ok (.aload_n 0, 1) := by decide +kernel
theorem dX6_shade_1 : decode cX6_shade 1 = .ok (.iload_n 1, 1) := by decide +kernel
theorem dX6_shade_2 : decode cX6_shade 2 = .ok (.invokevirtual 49, 3) := by decide +kernel
theorem dX6_shade_5 : decode cX6_shade 5 = .ok (.ifCond .eq 7, 3) := by decide +kernel
theorem dX6_shade_8 : decode cX6_shade 8 = .ok (.iconst 0, 1) := by decide +kernel
theorem dX6_shade_9 : decode cX6_shade 9 = .ok (.goto 8, 3) := by decide +kernel
theorem dX6_shade_12 : decode cX6_shade 12 = .ok (.aload_n 0, 1) := by decide +kernel
theorem dX6_shade_13 : decode cX6_shade 13 = .ok (.iload_n 1, 1) := by decide +kernel
theorem dX6_shade_14 : decode cX6_shade 14 = .ok (.invokevirtual 61, 3) := by decide +kernel
theorem dX6_shade_17 : decode cX6_shade 17 = .ok (.ireturn, 1) := by decide +kernel
theorem dX6_cloudsOver_0 : decode cX6_cloudsOver 0 = .ok (.iconst 0, 1) := by decide +kernel
theorem dX6_cloudsOver_1 : decode cX6_cloudsOver 1 = .ok (.istore_n 2, 1) := by decide +kernel
theorem dX6_cloudsOver_2 : decode cX6_cloudsOver 2 = .ok (.iconst 0, 1) := by decide +kernel
theorem dX6_cloudsOver_3 : decode cX6_cloudsOver 3 = .ok (.istore_n 3, 1) := by decide +kernel
theorem dX6_cloudsOver_4 : decode cX6_cloudsOver 4 = .ok (.iload_n 3, 1) := by decide +kernel
theorem dX6_cloudsOver_5 : decode cX6_cloudsOver 5 = .ok (.aload_n 0, 1) := by decide +kernel
theorem dX6_cloudsOver_6 : decode cX6_cloudsOver 6 = .ok (.getfield 30, 3) := by decide +kernel
theorem dX6_cloudsOver_9 : decode cX6_cloudsOver 9 = .ok (.if_icmp .ge 27, 3) := by decide +kernel
theorem dX6_cloudsOver_12 : decode cX6_cloudsOver 12 = .ok (.aload_n 0, 1) := by decide +kernel
theorem dX6_cloudsOver_13 : decode cX6_cloudsOver 13 = .ok (.iload_n 3, 1) := by decide +kernel
theorem dX6_cloudsOver_14 : decode cX6_cloudsOver 14 = .ok (.invokevirtual 64, 3) := by decide +kernel
theorem dX6_cloudsOver_17 : decode cX6_cloudsOver 17 = .ok (.iload_n 1, 1) := by decide +kernel
theorem dX6_cloudsOver_18 : decode cX6_cloudsOver 18 = .ok (.ishr, 1) := by decide +kernel
theorem dX6_cloudsOver_19 : decode cX6_cloudsOver 19 = .ok (.iconst 1, 1) := by decide +kernel
theorem dX6_cloudsOver_20 : decode cX6_cloudsOver 20 = .ok (.iand, 1) := by decide +kernel
theorem dX6_cloudsOver_21 : decode cX6_cloudsOver 21 = .ok (.ifCond .eq 9, 3) := by decide +kernel
theorem dX6_cloudsOver_24 : decode cX6_cloudsOver 24 = .ok (.iload_n 2, 1) := by decide +kernel
theorem dX6_cloudsOver_25 : decode cX6_cloudsOver 25 = .ok (.iconst 1, 1) := by decide +kernel
theorem dX6_cloudsOver_26 : decode cX6_cloudsOver 26 = .ok (.iload_n 3, 1) := by decide +kernel
theorem dX6_cloudsOver_27 : decode cX6_cloudsOver 27 = .ok (.ishl, 1) := by decide +kernel
theorem dX6_cloudsOver_28 : decode cX6_cloudsOver 28 = .ok (.ior, 1) := by decide +kernel
theorem dX6_cloudsOver_29 : decode cX6_cloudsOver 29 = .ok (.istore_n 2, 1) := by decide +kernel
theorem dX6_cloudsOver_30 : decode cX6_cloudsOver 30 = .ok (.iinc 3 1, 3) := by decide +kernel
theorem dX6_cloudsOver_33 : decode cX6_cloudsOver 33 = .ok (.goto (-29), 3) := by decide +kernel
theorem dX6_cloudsOver_36 : decode cX6_cloudsOver 36 = .ok (.iload_n 2, 1) := by decide +kernel
theorem dX6_cloudsOver_37 : decode cX6_cloudsOver 37 = .ok (.ireturn, 1) := by decide +kernel
theorem dX6_mend_0 : decode cX6_mend 0 = .ok (.aload_n 0, 1) := by decide +kernel
theorem dX6_mend_1 : decode cX6_mend 1 = .ok (.getfield 21, 3) := by decide +kernel
theorem dX6_mend_4 : decode cX6_mend 4 = .ok (.iload_n 1, 1) := by decide +kernel
theorem dX6_mend_5 : decode cX6_mend 5 = .ok (.aload_n 0, 1) := by decide +kernel
theorem dX6_mend_6 : decode cX6_mend 6 = .ok (.getfield 21, 3) := by decide +kernel
theorem dX6_mend_9 : decode cX6_mend 9 = .ok (.iload_n 1, 1) := by decide +kernel
theorem dX6_mend_10 : decode cX6_mend 10 = .ok (.iaload, 1) := by decide +kernel
theorem dX6_mend_11 : decode cX6_mend 11 = .ok (.aload_n 0, 1) := by decide +kernel
theorem dX6_mend_12 : decode cX6_mend 12 = .ok (.getfield 37, 3) := by decide +kernel
theorem dX6_mend_15 : decode cX6_mend 15 = .ok (.iadd, 1) := by decide +kernel
theorem dX6_mend_16 : decode cX6_mend 16 = .ok (.bipush 99, 2) := by decide +kernel
theorem dX6_mend_18 : decode cX6_mend 18 = .ok (.invokestatic 67, 3) := by decide +kernel
theorem dX6_mend_21 : decode cX6_mend 21 = .ok (.iastore, 1) := by decide +kernel
theorem dX6_mend_22 : decode cX6_mend 22 = .ok (.return_, 1) := by decide +kernel
theorem dX6_passDay_0 : decode cX6_passDay 0 = .ok (.iconst 0, 1) := by decide +kernel
theorem dX6_passDay_1 : decode cX6_passDay 1 = .ok (.istore_n 1, 1) := by decide +kernel
theorem dX6_passDay_2 : decode cX6_passDay 2 = .ok (.iconst 0, 1) := by decide +kernel
theorem dX6_passDay_3 : decode cX6_passDay 3 = .ok (.istore_n 2, 1) := by decide +kernel
theorem dX6_passDay_4 : decode cX6_passDay 4 = .ok (.iload_n 2, 1) := by decide +kernel
theorem dX6_passDay_5 : decode cX6_passDay 5 = .ok (.aload_n 0, 1) := by decide +kernel
theorem dX6_passDay_6 : decode cX6_passDay 6 = .ok (.getfield 30, 3) := by decide +kernel
theorem dX6_passDay_9 : decode cX6_passDay 9 = .ok (.if_icmp .ge 39, 3) := by decide +kernel
theorem dX6_passDay_12 : decode cX6_passDay 12 = .ok (.aload_n 0, 1) := by decide +kernel
theorem dX6_passDay_13 : decode cX6_passDay 13 = .ok (.iload_n 2, 1) := by decide +kernel
theorem dX6_passDay_14 : decode cX6_passDay 14 = .ok (.invokevirtual 72, 3) := by decide +kernel
theorem dX6_passDay_17 : decode cX6_passDay 17 = .ok (.istore_n 3, 1) := by decide +kernel
theorem dX6_passDay_18 : decode cX6_passDay 18 = .ok (.aload_n 0, 1) := by decide +kernel
theorem dX6_passDay_19 : decode cX6_passDay 19 = .ok (.iload_n 2, 1) := by decide +kernel
theorem dX6_passDay_20 : decode cX6_passDay 20 = .ok (.invokevirtual 53, 3) := by decide +kernel
theorem dX6_passDay_23 : decode cX6_passDay 23 = .ok (.istore 4, 2) := by decide +kernel
theorem dX6_passDay_25 : decode cX6_passDay 25 = .ok (.aload_n 0, 1) := by decide +kernel
theorem dX6_passDay_26 : decode cX6_passDay 26 = .ok (.iload_n 3, 1) := by decide +kernel
theorem dX6_passDay_27 : decode cX6_passDay 27 = .ok (.iload 4, 2) := by decide +kernel
theorem dX6_passDay_29 : decode cX6_passDay 29 = .ok (.invokevirtual 75, 3) := by decide +kernel
theorem dX6_passDay_32 : decode cX6_passDay 32 = .ok (.iload_n 1, 1) := by decide +kernel
theorem dX6_passDay_33 : decode cX6_passDay 33 = .ok (.iload_n 3, 1) := by decide +kernel
theorem dX6_passDay_34 : decode cX6_passDay 34 = .ok (.invokestatic 79, 3) := by decide +kernel
theorem dX6_passDay_37 : decode cX6_passDay 37 = .ok (.iload 4, 2) := by decide +kernel
theorem dX6_passDay_39 : decode cX6_passDay 39 = .ok (.imul, 1) := by decide +kernel
theorem dX6_passDay_40 : decode cX6_passDay 40 = .ok (.iadd, 1) := by decide +kernel
theorem dX6_passDay_41 : decode cX6_passDay 41 = .ok (.istore_n 1, 1) := by decide +kernel
theorem dX6_passDay_42 : decode cX6_passDay 42 = .ok (.iinc 2 1, 3) := by decide +kernel
theorem dX6_passDay_45 : decode cX6_passDay 45 = .ok (.goto (-41), 3) := by decide +kernel
theorem dX6_passDay_48 : decode cX6_passDay 48 = .ok (.aload_n 0, 1) := by decide +kernel
theorem dX6_passDay_49 : decode cX6_passDay 49 = .ok (.dup, 1) := by decide +kernel
theorem dX6_passDay_50 : decode cX6_passDay 50 = .ok (.getfield 40, 3) := by decide +kernel
theorem dX6_passDay_53 : decode cX6_passDay 53 = .ok (.iconst 1, 1) := by decide +kernel
theorem dX6_passDay_54 : decode cX6_passDay 54 = .ok (.iadd, 1) := by decide +kernel
theorem dX6_passDay_55 : decode cX6_passDay 55 = .ok (.putfield 40, 3) := by decide +kernel
theorem dX6_passDay_58 : decode cX6_passDay 58 = .ok (.iload_n 1, 1) := by decide +kernel
theorem dX6_passDay_59 : decode cX6_passDay 59 = .ok (.ireturn, 1) := by decide +kernel
theorem dX6_goOn_0 : decode cX6_goOn 0 = .ok (.aload_n 0, 1) := by decide +kernel
theorem dX6_goOn_1 : decode cX6_goOn 1 = .ok (.iload_n 1, 1) := by decide +kernel
theorem dX6_goOn_2 : decode cX6_goOn 2 = .ok (.invokevirtual 49, 3) := by decide +kernel
theorem dX6_goOn_5 : decode cX6_goOn 5 = .ok (.ifCond .eq 5, 3) := by decide +kernel
theorem dX6_goOn_8 : decode cX6_goOn 8 = .ok (.iconst 0, 1) := by decide +kernel
theorem dX6_goOn_9 : decode cX6_goOn 9 = .ok (.ireturn, 1) := by decide +kernel
theorem dX6_goOn_10 : decode cX6_goOn 10 = .ok (.aload_n 0, 1) := by decide +kernel
theorem dX6_goOn_11 : decode cX6_goOn 11 = .ok (.getfield 15, 3) := by decide +kernel
theorem dX6_goOn_14 : decode cX6_goOn 14 = .ok (.iload_n 1, 1) := by decide +kernel
theorem dX6_goOn_15 : decode cX6_goOn 15 = .ok (.aload_n 0, 1) := by decide +kernel
theorem dX6_goOn_16 : decode cX6_goOn 16 = .ok (.getfield 15, 3) := by decide +kernel
theorem dX6_goOn_19 : decode cX6_goOn 19 = .ok (.iload_n 1, 1) := by decide +kernel
theorem dX6_goOn_20 : decode cX6_goOn 20 = .ok (.iaload, 1) := by decide +kernel
theorem dX6_goOn_21 : decode cX6_goOn 21 = .ok (.aload_n 0, 1) := by decide +kernel
theorem dX6_goOn_22 : decode cX6_goOn 22 = .ok (.iload_n 1, 1) := by decide +kernel
theorem dX6_goOn_23 : decode cX6_goOn 23 = .ok (.invokevirtual 84, 3) := by decide +kernel
theorem dX6_goOn_26 : decode cX6_goOn 26 = .ok (.iadd, 1) := by decide +kernel
theorem dX6_goOn_27 : decode cX6_goOn 27 = .ok (.invokestatic 87, 3) := by decide +kernel
theorem dX6_goOn_30 : decode cX6_goOn 30 = .ok (.iastore, 1) := by decide +kernel
theorem dX6_goOn_31 : decode cX6_goOn 31 = .ok (.aload_n 0, 1) := by decide +kernel
theorem dX6_goOn_32 : decode cX6_goOn 32 = .ok (.getfield 9, 3) := by decide +kernel
theorem dX6_goOn_35 : decode cX6_goOn 35 = .ok (.iload_n 1, 1) := by decide +kernel
theorem dX6_goOn_36 : decode cX6_goOn 36 = .ok (.iaload, 1) := by decide +kernel
theorem dX6_goOn_37 : decode cX6_goOn 37 = .ok (.iconst 2, 1) := by decide +kernel
theorem dX6_goOn_38 : decode cX6_goOn 38 = .ok (.if_icmp .ne 31, 3) := by decide +kernel
theorem dX6_goOn_41 : decode cX6_goOn 41 = .ok (.aload_n 0, 1) := by decide +kernel
theorem dX6_goOn_42 : decode cX6_goOn 42 = .ok (.getfield 40, 3) := by decide +kernel
theorem dX6_goOn_45 : decode cX6_goOn 45 = .ok (.iconst 1, 1) := by decide +kernel
theorem dX6_goOn_46 : decode cX6_goOn 46 = .ok (.iand, 1) := by decide +kernel
theorem dX6_goOn_47 : decode cX6_goOn 47 = .ok (.ifCond .ne 22, 3) := by decide +kernel
theorem dX6_goOn_50 : decode cX6_goOn 50 = .ok (.aload_n 0, 1) := by decide +kernel
theorem dX6_goOn_51 : decode cX6_goOn 51 = .ok (.getfield 18, 3) := by decide +kernel
theorem dX6_goOn_54 : decode cX6_goOn 54 = .ok (.iload_n 1, 1) := by decide +kernel
theorem dX6_goOn_55 : decode cX6_goOn 55 = .ok (.aload_n 0, 1) := by decide +kernel
theorem dX6_goOn_56 : decode cX6_goOn 56 = .ok (.getfield 18, 3) := by decide +kernel
theorem dX6_goOn_59 : decode cX6_goOn 59 = .ok (.iload_n 1, 1) := by decide +kernel
theorem dX6_goOn_60 : decode cX6_goOn 60 = .ok (.iaload, 1) := by decide +kernel
theorem dX6_goOn_61 : decode cX6_goOn 61 = .ok (.iconst 1, 1) := by decide +kernel
theorem dX6_goOn_62 : decode cX6_goOn 62 = .ok (.iadd, 1) := by decide +kernel
theorem dX6_goOn_63 : decode cX6_goOn 63 = .ok (.bipush 8, 2) := by decide +kernel
theorem dX6_goOn_65 : decode cX6_goOn 65 = .ok (.invokestatic 67, 3) := by decide +kernel
theorem dX6_goOn_68 : decode cX6_goOn 68 = .ok (.iastore, 1) := by decide +kernel
theorem dX6_goOn_69 : decode cX6_goOn 69 = .ok (.aload_n 0, 1) := by decide +kernel
theorem dX6_goOn_70 : decode cX6_goOn 70 = .ok (.iload_n 1, 1) := by decide +kernel
theorem dX6_goOn_71 : decode cX6_goOn 71 = .ok (.invokevirtual 90, 3) := by decide +kernel
theorem dX6_goOn_74 : decode cX6_goOn 74 = .ok (.istore_n 2, 1) := by decide +kernel
theorem dX6_goOn_75 : decode cX6_goOn 75 = .ok (.iload_n 2, 1) := by decide +kernel
theorem dX6_goOn_76 : decode cX6_goOn 76 = .ok (.ifCond .eq 13, 3) := by decide +kernel
theorem dX6_goOn_79 : decode cX6_goOn 79 = .ok (.aload_n 0, 1) := by decide +kernel
theorem dX6_goOn_80 : decode cX6_goOn 80 = .ok (.getfield 21, 3) := by decide +kernel
theorem dX6_goOn_83 : decode cX6_goOn 83 = .ok (.iload_n 1, 1) := by decide +kernel
theorem dX6_goOn_84 : decode cX6_goOn 84 = .ok (.iaload, 1) := by decide +kernel
theorem dX6_goOn_85 : decode cX6_goOn 85 = .ok (.iload_n 2, 1) := by decide +kernel
theorem dX6_goOn_86 : decode cX6_goOn 86 = .ok (.if_icmp .ge 15, 3) := by decide +kernel
theorem dX6_goOn_89 : decode cX6_goOn 89 = .ok (.aload_n 0, 1) := by decide +kernel
theorem dX6_goOn_90 : decode cX6_goOn 90 = .ok (.getfield 21, 3) := by decide +kernel
theorem dX6_goOn_93 : decode cX6_goOn 93 = .ok (.iload_n 1, 1) := by decide +kernel
theorem dX6_goOn_94 : decode cX6_goOn 94 = .ok (.dup2, 1) := by decide +kernel
theorem dX6_goOn_95 : decode cX6_goOn 95 = .ok (.iaload, 1) := by decide +kernel
theorem dX6_goOn_96 : decode cX6_goOn 96 = .ok (.iconst 1, 1) := by decide +kernel
theorem dX6_goOn_97 : decode cX6_goOn 97 = .ok (.isub, 1) := by decide +kernel
theorem dX6_goOn_98 : decode cX6_goOn 98 = .ok (.iastore, 1) := by decide +kernel
theorem dX6_goOn_99 : decode cX6_goOn 99 = .ok (.iconst 0, 1) := by decide +kernel
theorem dX6_goOn_100 : decode cX6_goOn 100 = .ok (.ireturn, 1) := by decide +kernel
theorem dX6_goOn_101 : decode cX6_goOn 101 = .ok (.aload_n 0, 1) := by decide +kernel
theorem dX6_goOn_102 : decode cX6_goOn 102 = .ok (.getfield 21, 3) := by decide +kernel
theorem dX6_goOn_105 : decode cX6_goOn 105 = .ok (.iload_n 1, 1) := by decide +kernel
theorem dX6_goOn_106 : decode cX6_goOn 106 = .ok (.dup2, 1) := by decide +kernel
theorem dX6_goOn_107 : decode cX6_goOn 107 = .ok (.iaload, 1) := by decide +kernel
theorem dX6_goOn_108 : decode cX6_goOn 108 = .ok (.iload_n 2, 1) := by decide +kernel
theorem dX6_goOn_109 : decode cX6_goOn 109 = .ok (.isub, 1) := by decide +kernel
theorem dX6_goOn_110 : decode cX6_goOn 110 = .ok (.iastore, 1) := by decide +kernel
theorem dX6_goOn_111 : decode cX6_goOn 111 = .ok (.aload_n 0, 1) := by decide +kernel
theorem dX6_goOn_112 : decode cX6_goOn 112 = .ok (.iload_n 1, 1) := by decide +kernel
theorem dX6_goOn_113 : decode cX6_goOn 113 = .ok (.invokevirtual 61, 3) := by decide +kernel
theorem dX6_goOn_116 : decode cX6_goOn 116 = .ok (.ireturn, 1) := by decide +kernel
theorem dX6_rainOn_0 : decode cX6_rainOn 0 = .ok (.iconst 0, 1) := by decide +kernel
theorem dX6_rainOn_1 : decode cX6_rainOn 1 = .ok (.istore_n 3, 1) := by decide +kernel
theorem dX6_rainOn_2 : decode cX6_rainOn 2 = .ok (.iload_n 3, 1) := by decide +kernel
theorem dX6_rainOn_3 : decode cX6_rainOn 3 = .ok (.bipush 16, 2) := by decide +kernel
theorem dX6_rainOn_5 : decode cX6_rainOn 5 = .ok (.if_icmp .ge 27, 3) := by decide +kernel
theorem dX6_rainOn_8 : decode cX6_rainOn 8 = .ok (.iload_n 1, 1) := by decide +kernel
theorem dX6_rainOn_9 : decode cX6_rainOn 9 = .ok (.iload_n 3, 1) := by decide +kernel
theorem dX6_rainOn_10 : decode cX6_rainOn 10 = .ok (.ishr, 1) := by decide +kernel
theorem dX6_rainOn_11 : decode cX6_rainOn 11 = .ok (.iconst 1, 1) := by decide +kernel
theorem dX6_rainOn_12 : decode cX6_rainOn 12 = .ok (.iand, 1) := by decide +kernel
theorem dX6_rainOn_13 : decode cX6_rainOn 13 = .ok (.ifCond .eq 13, 3) := by decide +kernel
theorem dX6_rainOn_16 : decode cX6_rainOn 16 = .ok (.aload_n 0, 1) := by decide +kernel
theorem dX6_rainOn_17 : decode cX6_rainOn 17 = .ok (.getfield 27, 3) := by decide +kernel
theorem dX6_rainOn_20 : decode cX6_rainOn 20 = .ok (.iload_n 3, 1) := by decide +kernel
theorem dX6_rainOn_21 : decode cX6_rainOn 21 = .ok (.dup2, 1) := by decide +kernel
theorem dX6_rainOn_22 : decode cX6_rainOn 22 = .ok (.iaload, 1) := by decide +kernel
theorem dX6_rainOn_23 : decode cX6_rainOn 23 = .ok (.iload_n 2, 1) := by decide +kernel
theorem dX6_rainOn_24 : decode cX6_rainOn 24 = .ok (.iadd, 1) := by decide +kernel
theorem dX6_rainOn_25 : decode cX6_rainOn 25 = .ok (.iastore, 1) := by decide +kernel
theorem dX6_rainOn_26 : decode cX6_rainOn 26 = .ok (.iinc 3 1, 3) := by decide +kernel
theorem dX6_rainOn_29 : decode cX6_rainOn 29 = .ok (.goto (-27), 3) := by decide +kernel
theorem dX6_rainOn_32 : decode cX6_rainOn 32 = .ok (.return_, 1) := by decide +kernel
theorem dX6_fallen_0 : decode cX6_fallen 0 = .ok (.iconst 0, 1) := by decide +kernel
theorem dX6_fallen_1 : decode cX6_fallen 1 = .ok (.istore_n 1, 1) := by decide +kernel
theorem dX6_fallen_2 : decode cX6_fallen 2 = .ok (.iconst 0, 1) := by decide +kernel
theorem dX6_fallen_3 : decode cX6_fallen 3 = .ok (.istore_n 2, 1) := by decide +kernel
theorem dX6_fallen_4 : decode cX6_fallen 4 = .ok (.iload_n 2, 1) := by decide +kernel
theorem dX6_fallen_5 : decode cX6_fallen 5 = .ok (.bipush 16, 2) := by decide +kernel
theorem dX6_fallen_7 : decode cX6_fallen 7 = .ok (.if_icmp .ge 18, 3) := by decide +kernel
theorem dX6_fallen_10 : decode cX6_fallen 10 = .ok (.iload_n 1, 1) := by decide +kernel
theorem dX6_fallen_11 : decode cX6_fallen 11 = .ok (.aload_n 0, 1) := by decide +kernel
theorem dX6_fallen_12 : decode cX6_fallen 12 = .ok (.getfield 27, 3) := by decide +kernel
theorem dX6_fallen_15 : decode cX6_fallen 15 = .ok (.iload_n 2, 1) := by decide +kernel
theorem dX6_fallen_16 : decode cX6_fallen 16 = .ok (.iaload, 1) := by decide +kernel
theorem dX6_fallen_17 : decode cX6_fallen 17 = .ok (.iadd, 1) := by decide +kernel
theorem dX6_fallen_18 : decode cX6_fallen 18 = .ok (.istore_n 1, 1) := by decide +kernel
theorem dX6_fallen_19 : decode cX6_fallen 19 = .ok (.iinc 2 1, 3) := by decide +kernel
theorem dX6_fallen_22 : decode cX6_fallen 22 = .ok (.goto (-18), 3) := by decide +kernel
theorem dX6_fallen_25 : decode cX6_fallen 25 = .ok (.iload_n 1, 1) := by decide +kernel
theorem dX6_fallen_26 : decode cX6_fallen 26 = .ok (.ireturn, 1) := by decide +kernel
theorem dX6_fieldsWithoutRain_0 : decode cX6_fieldsWithoutRain 0 = .ok (.iconst 0, 1) := by decide +kernel
theorem dX6_fieldsWithoutRain_1 : decode cX6_fieldsWithoutRain 1 = .ok (.istore_n 1, 1) := by decide +kernel
theorem dX6_fieldsWithoutRain_2 : decode cX6_fieldsWithoutRain 2 = .ok (.iconst 0, 1) := by decide +kernel
theorem dX6_fieldsWithoutRain_3 : decode cX6_fieldsWithoutRain 3 = .ok (.istore_n 2, 1) := by decide +kernel
theorem dX6_fieldsWithoutRain_4 : decode cX6_fieldsWithoutRain 4 = .ok (.iload_n 2, 1) := by decide +kernel
theorem dX6_fieldsWithoutRain_5 : decode cX6_fieldsWithoutRain 5 = .ok (.bipush 16, 2) := by decide +kernel
theorem dX6_fieldsWithoutRain_7 : decode cX6_fieldsWithoutRain 7 = .ok (.if_icmp .ge 24, 3) := by decide +kernel
theorem dX6_fieldsWithoutRain_10 : decode cX6_fieldsWithoutRain 10 = .ok (.aload_n 0, 1) := by decide +kernel
theorem dX6_fieldsWithoutRain_11 : decode cX6_fieldsWithoutRain 11 = .ok (.getfield 27, 3) := by decide +kernel
theorem dX6_fieldsWithoutRain_14 : decode cX6_fieldsWithoutRain 14 = .ok (.iload_n 2, 1) := by decide +kernel
theorem dX6_fieldsWithoutRain_15 : decode cX6_fieldsWithoutRain 15 = .ok (.iaload, 1) := by decide +kernel
theorem dX6_fieldsWithoutRain_16 : decode cX6_fieldsWithoutRain 16 = .ok (.ifCond .ne 9, 3) := by decide +kernel
theorem dX6_fieldsWithoutRain_19 : decode cX6_fieldsWithoutRain 19 = .ok (.iload_n 1, 1) := by decide +kernel
theorem dX6_fieldsWithoutRain_20 : decode cX6_fieldsWithoutRain 20 = .ok (.iconst 1, 1) := by decide +kernel
theorem dX6_fieldsWithoutRain_21 : decode cX6_fieldsWithoutRain 21 = .ok (.iload_n 2, 1) := by decide +kernel
theorem dX6_fieldsWithoutRain_22 : decode cX6_fieldsWithoutRain 22 = .ok (.ishl, 1) := by decide +kernel
theorem dX6_fieldsWithoutRain_23 : decode cX6_fieldsWithoutRain 23 = .ok (.ior, 1) := by decide +kernel
theorem dX6_fieldsWithoutRain_24 : decode cX6_fieldsWithoutRain 24 = .ok (.istore_n 1, 1) := by decide +kernel
theorem dX6_fieldsWithoutRain_25 : decode cX6_fieldsWithoutRain 25 = .ok (.iinc 2 1, 3) := by decide +kernel
theorem dX6_fieldsWithoutRain_28 : decode cX6_fieldsWithoutRain 28 = .ok (.goto (-24), 3) := by decide +kernel
theorem dX6_fieldsWithoutRain_31 : decode cX6_fieldsWithoutRain 31 = .ok (.iload_n 1, 1) := by decide +kernel
theorem dX6_fieldsWithoutRain_32 : decode cX6_fieldsWithoutRain 32 = .ok (.ireturn, 1) := by decide +kernel
theorem dX6_shaded_0 : decode cX6_shaded 0 = .ok (.iconst 0, 1) := by decide +kernel
theorem dX6_shaded_1 : decode cX6_shaded 1 = .ok (.istore_n 1, 1) := by decide +kernel
theorem dX6_shaded_2 : decode cX6_shaded 2 = .ok (.iconst 0, 1) := by decide +kernel
theorem dX6_shaded_3 : decode cX6_shaded 3 = .ok (.istore_n 2, 1) := by decide +kernel
theorem dX6_shaded_4 : decode cX6_shaded 4 = .ok (.iload_n 2, 1) := by decide +kernel
theorem dX6_shaded_5 : decode cX6_shaded 5 = .ok (.aload_n 0, 1) := by decide +kernel
theorem dX6_shaded_6 : decode cX6_shaded 6 = .ok (.getfield 30, 3) := by decide +kernel
theorem dX6_shaded_9 : decode cX6_shaded 9 = .ok (.if_icmp .ge 17, 3) := by decide +kernel
theorem dX6_shaded_12 : decode cX6_shaded 12 = .ok (.iload_n 1, 1) := by decide +kernel
theorem dX6_shaded_13 : decode cX6_shaded 13 = .ok (.aload_n 0, 1) := by decide +kernel
theorem dX6_shaded_14 : decode cX6_shaded 14 = .ok (.iload_n 2, 1) := by decide +kernel
theorem dX6_shaded_15 : decode cX6_shaded 15 = .ok (.invokevirtual 64, 3) := by decide +kernel
theorem dX6_shaded_18 : decode cX6_shaded 18 = .ok (.ior, 1) := by decide +kernel
theorem dX6_shaded_19 : decode cX6_shaded 19 = .ok (.istore_n 1, 1) := by decide +kernel
theorem dX6_shaded_20 : decode cX6_shaded 20 = .ok (.iinc 2 1, 3) := by decide +kernel
theorem dX6_shaded_23 : decode cX6_shaded 23 = .ok (.goto (-19), 3) := by decide +kernel
theorem dX6_shaded_26 : decode cX6_shaded 26 = .ok (.iload_n 1, 1) := by decide +kernel
theorem dX6_shaded_27 : decode cX6_shaded 27 = .ok (.ireturn, 1) := by decide +kernel
theorem dX6_isPair_0 : decode cX6_isPair 0 = .ok (.aload_n 0, 1) := by decide +kernel
theorem dX6_isPair_1 : decode cX6_isPair 1 = .ok (.iload_n 1, 1) := by decide +kernel
theorem dX6_isPair_2 : decode cX6_isPair 2 = .ok (.invokevirtual 49, 3) := by decide +kernel
theorem dX6_isPair_5 : decode cX6_isPair 5 = .ok (.ifCond .ne 60, 3) := by decide +kernel
theorem dX6_isPair_8 : decode cX6_isPair 8 = .ok (.aload_n 0, 1) := by decide +kernel
theorem dX6_isPair_9 : decode cX6_isPair 9 = .ok (.iload_n 2, 1) := by decide +kernel
theorem dX6_isPair_10 : decode cX6_isPair 10 = .ok (.invokevirtual 49, 3) := by decide +kernel
theorem dX6_isPair_13 : decode cX6_isPair 13 = .ok (.ifCond .ne 52, 3) := by decide +kernel
theorem dX6_isPair_16 : decode cX6_isPair 16 = .ok (.aload_n 0, 1) := by decide +kernel
theorem dX6_isPair_17 : decode cX6_isPair 17 = .ok (.getfield 24, 3) := by decide +kernel
theorem dX6_isPair_20 : decode cX6_isPair 20 = .ok (.iload_n 1, 1) := by decide +kernel
theorem dX6_isPair_21 : decode cX6_isPair 21 = .ok (.iaload, 1) := by decide +kernel
theorem dX6_isPair_22 : decode cX6_isPair 22 = .ok (.aload_n 0, 1) := by decide +kernel
theorem dX6_isPair_23 : decode cX6_isPair 23 = .ok (.getfield 24, 3) := by decide +kernel
theorem dX6_isPair_26 : decode cX6_isPair 26 = .ok (.iload_n 2, 1) := by decide +kernel
theorem dX6_isPair_27 : decode cX6_isPair 27 = .ok (.iaload, 1) := by decide +kernel
theorem dX6_isPair_28 : decode cX6_isPair 28 = .ok (.if_icmp .eq 37, 3) := by decide +kernel
theorem dX6_isPair_31 : decode cX6_isPair 31 = .ok (.aload_n 0, 1) := by decide +kernel
theorem dX6_isPair_32 : decode cX6_isPair 32 = .ok (.getfield 9, 3) := by decide +kernel
theorem dX6_isPair_35 : decode cX6_isPair 35 = .ok (.iload_n 1, 1) := by decide +kernel
theorem dX6_isPair_36 : decode cX6_isPair 36 = .ok (.iaload, 1) := by decide +kernel
theorem dX6_isPair_37 : decode cX6_isPair 37 = .ok (.aload_n 0, 1) := by decide +kernel
theorem dX6_isPair_38 : decode cX6_isPair 38 = .ok (.getfield 9, 3) := by decide +kernel
theorem dX6_isPair_41 : decode cX6_isPair 41 = .ok (.iload_n 2, 1) := by decide +kernel
theorem dX6_isPair_42 : decode cX6_isPair 42 = .ok (.iaload, 1) := by decide +kernel
theorem dX6_isPair_43 : decode cX6_isPair 43 = .ok (.if_icmp .ne 22, 3) := by decide +kernel
theorem dX6_isPair_46 : decode cX6_isPair 46 = .ok (.aload_n 0, 1) := by decide +kernel
theorem dX6_isPair_47 : decode cX6_isPair 47 = .ok (.getfield 18, 3) := by decide +kernel
theorem dX6_isPair_50 : decode cX6_isPair 50 = .ok (.iload_n 1, 1) := by decide +kernel
theorem dX6_isPair_51 : decode cX6_isPair 51 = .ok (.iaload, 1) := by decide +kernel
theorem dX6_isPair_52 : decode cX6_isPair 52 = .ok (.aload_n 0, 1) := by decide +kernel
theorem dX6_isPair_53 : decode cX6_isPair 53 = .ok (.getfield 18, 3) := by decide +kernel
theorem dX6_isPair_56 : decode cX6_isPair 56 = .ok (.iload_n 2, 1) := by decide +kernel
theorem dX6_isPair_57 : decode cX6_isPair 57 = .ok (.iaload, 1) := by decide +kernel
theorem dX6_isPair_58 : decode cX6_isPair 58 = .ok (.if_icmp .ne 7, 3) := by decide +kernel
theorem dX6_isPair_61 : decode cX6_isPair 61 = .ok (.iconst 1, 1) := by decide +kernel
theorem dX6_isPair_62 : decode cX6_isPair 62 = .ok (.goto 4, 3) := by decide +kernel
theorem dX6_isPair_65 : decode cX6_isPair 65 = .ok (.iconst 0, 1) := by decide +kernel
theorem dX6_isPair_66 : decode cX6_isPair 66 = .ok (.ireturn, 1) := by decide +kernel
theorem dX6_alikePairs_0 : decode cX6_alikePairs 0 = .ok (.iconst 0, 1) := by decide +kernel
theorem dX6_alikePairs_1 : decode cX6_alikePairs 1 = .ok (.istore_n 1, 1) := by decide +kernel
theorem dX6_alikePairs_2 : decode cX6_alikePairs 2 = .ok (.iconst 0, 1) := by decide +kernel
theorem dX6_alikePairs_3 : decode cX6_alikePairs 3 = .ok (.istore_n 2, 1) := by decide +kernel
theorem dX6_alikePairs_4 : decode cX6_alikePairs 4 = .ok (.iload_n 2, 1) := by decide +kernel
theorem dX6_alikePairs_5 : decode cX6_alikePairs 5 = .ok (.aload_n 0, 1) := by decide +kernel
theorem dX6_alikePairs_6 : decode cX6_alikePairs 6 = .ok (.getfield 30, 3) := by decide +kernel
theorem dX6_alikePairs_9 : decode cX6_alikePairs 9 = .ok (.if_icmp .ge 39, 3) := by decide +kernel
theorem dX6_alikePairs_12 : decode cX6_alikePairs 12 = .ok (.iload_n 2, 1) := by decide +kernel
theorem dX6_alikePairs_13 : decode cX6_alikePairs 13 = .ok (.iconst 1, 1) := by decide +kernel
theorem dX6_alikePairs_14 : decode cX6_alikePairs 14 = .ok (.iadd, 1) := by decide +kernel
theorem dX6_alikePairs_15 : decode cX6_alikePairs 15 = .ok (.istore_n 3, 1) := by decide +kernel
theorem dX6_alikePairs_16 : decode cX6_alikePairs 16 = .ok (.iload_n 3, 1) := by decide +kernel
theorem dX6_alikePairs_17 : decode cX6_alikePairs 17 = .ok (.aload_n 0, 1) := by decide +kernel
theorem dX6_alikePairs_18 : decode cX6_alikePairs 18 = .ok (.getfield 30, 3) := by decide +kernel
theorem dX6_alikePairs_21 : decode cX6_alikePairs 21 = .ok (.if_icmp .ge 21, 3) := by decide +kernel
theorem dX6_alikePairs_24 : decode cX6_alikePairs 24 = .ok (.aload_n 0, 1) := by decide +kernel
theorem dX6_alikePairs_25 : decode cX6_alikePairs 25 = .ok (.iload_n 2, 1) := by decide +kernel
theorem dX6_alikePairs_26 : decode cX6_alikePairs 26 = .ok (.iload_n 3, 1) := by decide +kernel
theorem dX6_alikePairs_27 : decode cX6_alikePairs 27 = .ok (.invokevirtual 93, 3) := by decide +kernel
theorem dX6_alikePairs_30 : decode cX6_alikePairs 30 = .ok (.ifCond .eq 6, 3) := by decide +kernel
theorem dX6_alikePairs_33 : decode cX6_alikePairs 33 = .ok (.iinc 1 1, 3) := by decide +kernel
theorem dX6_alikePairs_36 : decode cX6_alikePairs 36 = .ok (.iinc 3 1, 3) := by decide +kernel
theorem dX6_alikePairs_39 : decode cX6_alikePairs 39 = .ok (.goto (-23), 3) := by decide +kernel
theorem dX6_alikePairs_42 : decode cX6_alikePairs 42 = .ok (.iinc 2 1, 3) := by decide +kernel
theorem dX6_alikePairs_45 : decode cX6_alikePairs 45 = .ok (.goto (-41), 3) := by decide +kernel
theorem dX6_alikePairs_48 : decode cX6_alikePairs 48 = .ok (.iload_n 1, 1) := by decide +kernel
theorem dX6_alikePairs_49 : decode cX6_alikePairs 49 = .ok (.ireturn, 1) := by decide +kernel
theorem dX6_firstAlikePair_0 : decode cX6_firstAlikePair 0 = .ok (.iconst 0, 1) := by decide +kernel
theorem dX6_firstAlikePair_1 : decode cX6_firstAlikePair 1 = .ok (.istore_n 1, 1) := by decide +kernel
theorem dX6_firstAlikePair_2 : decode cX6_firstAlikePair 2 = .ok (.iload_n 1, 1) := by decide +kernel
theorem dX6_firstAlikePair_3 : decode cX6_firstAlikePair 3 = .ok (.aload_n 0, 1) := by decide +kernel
theorem dX6_firstAlikePair_4 : decode cX6_firstAlikePair 4 = .ok (.getfield 30, 3) := by decide +kernel
theorem dX6_firstAlikePair_7 : decode cX6_firstAlikePair 7 = .ok (.if_icmp .ge 43, 3) := by decide +kernel
theorem dX6_firstAlikePair_10 : decode cX6_firstAlikePair 10 = .ok (.iload_n 1, 1) := by decide +kernel
theorem dX6_firstAlikePair_11 : decode cX6_firstAlikePair 11 = .ok (.iconst 1, 1) := by decide +kernel
theorem dX6_firstAlikePair_12 : decode cX6_firstAlikePair 12 = .ok (.iadd, 1) := by decide +kernel
theorem dX6_firstAlikePair_13 : decode cX6_firstAlikePair 13 = .ok (.istore_n 2, 1) := by decide +kernel
theorem dX6_firstAlikePair_14 : decode cX6_firstAlikePair 14 = .ok (.iload_n 2, 1) := by decide +kernel
theorem dX6_firstAlikePair_15 : decode cX6_firstAlikePair 15 = .ok (.aload_n 0, 1) := by decide +kernel
theorem dX6_firstAlikePair_16 : decode cX6_firstAlikePair 16 = .ok (.getfield 30, 3) := by decide +kernel
theorem dX6_firstAlikePair_19 : decode cX6_firstAlikePair 19 = .ok (.if_icmp .ge 25, 3) := by decide +kernel
theorem dX6_firstAlikePair_22 : decode cX6_firstAlikePair 22 = .ok (.aload_n 0, 1) := by decide +kernel
theorem dX6_firstAlikePair_23 : decode cX6_firstAlikePair 23 = .ok (.iload_n 1, 1) := by decide +kernel
theorem dX6_firstAlikePair_24 : decode cX6_firstAlikePair 24 = .ok (.iload_n 2, 1) := by decide +kernel
theorem dX6_firstAlikePair_25 : decode cX6_firstAlikePair 25 = .ok (.invokevirtual 93, 3) := by decide +kernel
theorem dX6_firstAlikePair_28 : decode cX6_firstAlikePair 28 = .ok (.ifCond .eq 10, 3) := by decide +kernel
theorem dX6_firstAlikePair_31 : decode cX6_firstAlikePair 31 = .ok (.bipush 10, 2) := by decide +kernel
theorem dX6_firstAlikePair_33 : decode cX6_firstAlikePair 33 = .ok (.iload_n 1, 1) := by decide +kernel
theorem dX6_firstAlikePair_34 : decode cX6_firstAlikePair 34 = .ok (.imul, 1) := by decide +kernel
theorem dX6_firstAlikePair_35 : decode cX6_firstAlikePair 35 = .ok (.iload_n 2, 1) := by decide +kernel
theorem dX6_firstAlikePair_36 : decode cX6_firstAlikePair 36 = .ok (.iadd, 1) := by decide +kernel
theorem dX6_firstAlikePair_37 : decode cX6_firstAlikePair 37 = .ok (.ireturn, 1) := by decide +kernel
theorem dX6_firstAlikePair_38 : decode cX6_firstAlikePair 38 = .ok (.iinc 2 1, 3) := by decide +kernel
theorem dX6_firstAlikePair_41 : decode cX6_firstAlikePair 41 = .ok (.goto (-27), 3) := by decide +kernel
theorem dX6_firstAlikePair_44 : decode cX6_firstAlikePair 44 = .ok (.iinc 1 1, 3) := by decide +kernel
theorem dX6_firstAlikePair_47 : decode cX6_firstAlikePair 47 = .ok (.goto (-45), 3) := by decide +kernel
theorem dX6_firstAlikePair_50 : decode cX6_firstAlikePair 50 = .ok (.ldc 97, 2) := by decide +kernel
theorem dX6_firstAlikePair_52 : decode cX6_firstAlikePair 52 = .ok (.ireturn, 1) := by decide +kernel
theorem dX6_wetOf_0 : decode cX6_wetOf 0 = .ok (.iconst 0, 1) := by decide +kernel
theorem dX6_wetOf_1 : decode cX6_wetOf 1 = .ok (.istore_n 2, 1) := by decide +kernel
theorem dX6_wetOf_2 : decode cX6_wetOf 2 = .ok (.iconst 0, 1) := by decide +kernel
theorem dX6_wetOf_3 : decode cX6_wetOf 3 = .ok (.istore_n 3, 1) := by decide +kernel
theorem dX6_wetOf_4 : decode cX6_wetOf 4 = .ok (.iload_n 3, 1) := by decide +kernel
theorem dX6_wetOf_5 : decode cX6_wetOf 5 = .ok (.aload_n 0, 1) := by decide +kernel
theorem dX6_wetOf_6 : decode cX6_wetOf 6 = .ok (.getfield 30, 3) := by decide +kernel
theorem dX6_wetOf_9 : decode cX6_wetOf 9 = .ok (.if_icmp .ge 28, 3) := by decide +kernel
theorem dX6_wetOf_12 : decode cX6_wetOf 12 = .ok (.aload_n 0, 1) := by decide +kernel
theorem dX6_wetOf_13 : decode cX6_wetOf 13 = .ok (.getfield 24, 3) := by decide +kernel
theorem dX6_wetOf_16 : decode cX6_wetOf 16 = .ok (.iload_n 3, 1) := by decide +kernel
theorem dX6_wetOf_17 : decode cX6_wetOf 17 = .ok (.iaload, 1) := by decide +kernel
theorem dX6_wetOf_18 : decode cX6_wetOf 18 = .ok (.iload_n 1, 1) := by decide +kernel
theorem dX6_wetOf_19 : decode cX6_wetOf 19 = .ok (.if_icmp .ne 12, 3) := by decide +kernel
theorem dX6_wetOf_22 : decode cX6_wetOf 22 = .ok (.iload_n 2, 1) := by decide +kernel
theorem dX6_wetOf_23 : decode cX6_wetOf 23 = .ok (.aload_n 0, 1) := by decide +kernel
theorem dX6_wetOf_24 : decode cX6_wetOf 24 = .ok (.getfield 21, 3) := by decide +kernel
theorem dX6_wetOf_27 : decode cX6_wetOf 27 = .ok (.iload_n 3, 1) := by decide +kernel
theorem dX6_wetOf_28 : decode cX6_wetOf 28 = .ok (.iaload, 1) := by decide +kernel
theorem dX6_wetOf_29 : decode cX6_wetOf 29 = .ok (.iadd, 1) := by decide +kernel
theorem dX6_wetOf_30 : decode cX6_wetOf 30 = .ok (.istore_n 2, 1) := by decide +kernel
theorem dX6_wetOf_31 : decode cX6_wetOf 31 = .ok (.iinc 3 1, 3) := by decide +kernel
theorem dX6_wetOf_34 : decode cX6_wetOf 34 = .ok (.goto (-30), 3) := by decide +kernel
theorem dX6_wetOf_37 : decode cX6_wetOf 37 = .ok (.iload_n 2, 1) := by decide +kernel
theorem dX6_wetOf_38 : decode cX6_wetOf 38 = .ok (.ireturn, 1) := by decide +kernel
theorem dX7_init_0 : decode cX7_init 0 = .ok (.aload_n 0, 1) := by decide +kernel
theorem dX7_init_1 : decode cX7_init 1 = .ok (.invokespecial 1, 3) := by decide +kernel
theorem dX7_init_4 : decode cX7_init 4 = .ok (.aload_n 0, 1) := by decide +kernel
theorem dX7_init_5 : decode cX7_init 5 = .ok (.bipush 100, 2) := by decide +kernel
theorem dX7_init_7 : decode cX7_init 7 = .ok (.newarray .int, 2) := by decide +kernel
theorem dX7_init_9 : decode cX7_init 9 = .ok (.putfield 9, 3) := by decide +kernel
theorem dX7_init_12 : decode cX7_init 12 = .ok (.return_, 1) := by decide +kernel
theorem dX7_isFull_0 : decode cX7_isFull 0 = .ok (.aload_n 0, 1) := by decide +kernel
theorem dX7_isFull_1 : decode cX7_isFull 1 = .ok (.getfield 13, 3) := by decide +kernel
theorem dX7_isFull_4 : decode cX7_isFull 4 = .ok (.bipush 100, 2) := by decide +kernel
theorem dX7_isFull_6 : decode cX7_isFull 6 = .ok (.if_icmp .lt 7, 3) := by decide +kernel
theorem dX7_isFull_9 : decode cX7_isFull 9 = .ok (.iconst 1, 1) := by decide +kernel
theorem dX7_isFull_10 : decode cX7_isFull 10 = .ok (.goto 4, 3) := by decide +kernel
theorem dX7_isFull_13 : decode cX7_isFull 13 = .ok (.iconst 0, 1) := by decide +kernel
theorem dX7_isFull_14 : decode cX7_isFull 14 = .ok (.ireturn, 1) := by decide +kernel
theorem dX7_add_0 : decode cX7_add 0 = .ok (.aload_n 0, 1) := by decide +kernel
theorem dX7_add_1 : decode cX7_add 1 = .ok (.getfield 9, 3) := by decide +kernel
theorem dX7_add_4 : decode cX7_add 4 = .ok (.aload_n 0, 1) := by decide +kernel
theorem dX7_add_5 : decode cX7_add 5 = .ok (.getfield 13, 3) := by decide +kernel
theorem dX7_add_8 : decode cX7_add 8 = .ok (.iload_n 1, 1) := by decide +kernel
theorem dX7_add_9 : decode cX7_add 9 = .ok (.iastore, 1) := by decide +kernel
theorem dX7_add_10 : decode cX7_add 10 = .ok (.aload_n 0, 1) := by decide +kernel
theorem dX7_add_11 : decode cX7_add 11 = .ok (.dup, 1) := by decide +kernel
theorem dX7_add_12 : decode cX7_add 12 = .ok (.getfield 13, 3) := by decide +kernel
theorem dX7_add_15 : decode cX7_add 15 = .ok (.iconst 1, 1) := by decide +kernel
theorem dX7_add_16 : decode cX7_add 16 = .ok (.iadd, 1) := by decide +kernel
theorem dX7_add_17 : decode cX7_add 17 = .ok (.putfield 13, 3) := by decide +kernel
theorem dX7_add_20 : decode cX7_add 20 = .ok (.aload_n 0, 1) := by decide +kernel
theorem dX7_add_21 : decode cX7_add 21 = .ok (.getfield 13, 3) := by decide +kernel
theorem dX7_add_24 : decode cX7_add 24 = .ok (.ireturn, 1) := by decide +kernel
theorem dX7_letter_0 : decode cX7_letter 0 = .ok (.iload_n 1, 1) := by decide +kernel
theorem dX7_letter_1 : decode cX7_letter 1 = .ok (.ifCond .lt 20, 3) := by decide +kernel
theorem dX7_letter_4 : decode cX7_letter 4 = .ok (.iload_n 1, 1) := by decide +kernel
theorem dX7_letter_5 : decode cX7_letter 5 = .ok (.aload_n 0, 1) := by decide +kernel
theorem dX7_letter_6 : decode cX7_letter 6 = .ok (.getfield 13, 3) := by decide +kernel
theorem dX7_letter_9 : decode cX7_letter 9 = .ok (.if_icmp .ge 12, 3) := by decide +kernel
theorem dX7_letter_12 : decode cX7_letter 12 = .ok (.aload_n 0, 1) := by decide +kernel
theorem dX7_letter_13 : decode cX7_letter 13 = .ok (.getfield 9, 3) := by decide +kernel
theorem dX7_letter_16 : decode cX7_letter 16 = .ok (.iload_n 1, 1) := by decide +kernel
theorem dX7_letter_17 : decode cX7_letter 17 = .ok (.iaload, 1) := by decide +kernel
theorem dX7_letter_18 : decode cX7_letter 18 = .ok (.goto 4, 3) := by decide +kernel
theorem dX7_letter_21 : decode cX7_letter 21 = .ok (.iconst (-1), 1) := by decide +kernel
theorem dX7_letter_22 : decode cX7_letter 22 = .ok (.ireturn, 1) := by decide +kernel
theorem dX8_init_0 : decode cX8_init 0 = .ok (.aload_n 0, 1) := by decide +kernel
theorem dX8_init_1 : decode cX8_init 1 = .ok (.invokespecial 3, 3) := by decide +kernel
theorem dX8_init_4 : decode cX8_init 4 = .ok (.aload_n 0, 1) := by decide +kernel
theorem dX8_init_5 : decode cX8_init 5 = .ok (.iconst 5, 1) := by decide +kernel
theorem dX8_init_6 : decode cX8_init 6 = .ok (.newarray .int, 2) := by decide +kernel
theorem dX8_init_8 : decode cX8_init 8 = .ok (.putfield 9, 3) := by decide +kernel
theorem dX8_init_11 : decode cX8_init 11 = .ok (.aload_n 0, 1) := by decide +kernel
theorem dX8_init_12 : decode cX8_init 12 = .ok (.new 15, 3) := by decide +kernel
theorem dX8_init_15 : decode cX8_init 15 = .ok (.dup, 1) := by decide +kernel
theorem dX8_init_16 : decode cX8_init 16 = .ok (.invokespecial 17, 3) := by decide +kernel
theorem dX8_init_19 : decode cX8_init 19 = .ok (.putfield 18, 3) := by decide +kernel
theorem dX8_init_22 : decode cX8_init 22 = .ok (.aload_n 0, 1) := by decide +kernel
theorem dX8_init_23 : decode cX8_init 23 = .ok (.iconst 5, 1) := by decide +kernel
theorem dX8_init_24 : decode cX8_init 24 = .ok (.newarray .int, 2) := by decide +kernel
theorem dX8_init_26 : decode cX8_init 26 = .ok (.putfield 22, 3) := by decide +kernel
theorem dX8_init_29 : decode cX8_init 29 = .ok (.aload_n 0, 1) := by decide +kernel
theorem dX8_init_30 : decode cX8_init 30 = .ok (.iconst 5, 1) := by decide +kernel
theorem dX8_init_31 : decode cX8_init 31 = .ok (.newarray .int, 2) := by decide +kernel
theorem dX8_init_33 : decode cX8_init 33 = .ok (.putfield 25, 3) := by decide +kernel
theorem dX8_init_36 : decode cX8_init 36 = .ok (.aload_n 0, 1) := by decide +kernel
theorem dX8_init_37 : decode cX8_init 37 = .ok (.aload_n 1, 1) := by decide +kernel
theorem dX8_init_38 : decode cX8_init 38 = .ok (.putfield 28, 3) := by decide +kernel
theorem dX8_init_41 : decode cX8_init 41 = .ok (.return_, 1) := by decide +kernel
theorem dX8_find_0 : decode cX8_find 0 = .ok (.aload_n 0, 1) := by decide +kernel
theorem dX8_find_1 : decode cX8_find 1 = .ok (.iload_n 1, 1) := by decide +kernel
theorem dX8_find_2 : decode cX8_find 2 = .ok (.putfield 31, 3) := by decide +kernel
theorem dX8_find_5 : decode cX8_find 5 = .ok (.aload_n 0, 1) := by decide +kernel
theorem dX8_find_6 : decode cX8_find 6 = .ok (.iload_n 2, 1) := by decide +kernel
theorem dX8_find_7 : decode cX8_find 7 = .ok (.invokevirtual 35, 3) := by decide +kernel
theorem dX8_find_10 : decode cX8_find 10 = .ok (.bipush 16, 2) := by decide +kernel
theorem dX8_find_12 : decode cX8_find 12 = .ok (.istore_n 3, 1) := by decide +kernel
theorem dX8_find_13 : decode cX8_find 13 = .ok (.aload_n 0, 1) := by decide +kernel
theorem dX8_find_14 : decode cX8_find 14 = .ok (.iload_n 3, 1) := by decide +kernel
theorem dX8_find_15 : decode cX8_find 15 = .ok (.putfield 39, 3) := by decide +kernel
theorem dX8_find_18 : decode cX8_find 18 = .ok (.aload_n 0, 1) := by decide +kernel
theorem dX8_find_19 : decode cX8_find 19 = .ok (.iconst 0, 1) := by decide +kernel
theorem dX8_find_20 : decode cX8_find 20 = .ok (.iconst 0, 1) := by decide +kernel
theorem dX8_find_21 : decode cX8_find 21 = .ok (.iconst 0, 1) := by decide +kernel
theorem dX8_find_22 : decode cX8_find 22 = .ok (.invokevirtual 42, 3) := by decide +kernel
theorem dX8_find_25 : decode cX8_find 25 = .ok (.aload_n 0, 1) := by decide +kernel
theorem dX8_find_26 : decode cX8_find 26 = .ok (.getfield 39, 3) := by decide +kernel
theorem dX8_find_29 : decode cX8_find 29 = .ok (.iload_n 3, 1) := by decide +kernel
theorem dX8_find_30 : decode cX8_find 30 = .ok (.if_icmp .ge 7, 3) := by decide +kernel
theorem dX8_find_33 : decode cX8_find 33 = .ok (.iconst 1, 1) := by decide +kernel
theorem dX8_find_34 : decode cX8_find 34 = .ok (.goto 4, 3) := by decide +kernel
theorem dX8_find_37 : decode cX8_find 37 = .ok (.iconst 0, 1) := by decide +kernel
theorem dX8_find_38 : decode cX8_find 38 = .ok (.ireturn, 1) := by decide +kernel
theorem dX8_findWetted_0 : decode cX8_findWetted 0 = .ok (.aload_n 0, 1) := by decide +kernel
theorem dX8_findWetted_1 : decode cX8_findWetted 1 = .ok (.getfield 18, 3) := by decide +kernel
theorem dX8_findWetted_4 : decode cX8_findWetted 4 = .ok (.aload_n 0, 1) := by decide +kernel
theorem dX8_findWetted_5 : decode cX8_findWetted 5 = .ok (.getfield 28, 3) := by decide +kernel
theorem dX8_findWetted_8 : decode cX8_findWetted 8 = .ok (.invokevirtual 46, 3) := by decide +kernel
theorem dX8_findWetted_11 : decode cX8_findWetted 11 = .ok (.iconst 0, 1) := by decide +kernel
theorem dX8_findWetted_12 : decode cX8_findWetted 12 = .ok (.istore_n 2, 1) := by decide +kernel
theorem dX8_findWetted_13 : decode cX8_findWetted 13 = .ok (.iload_n 2, 1) := by decide +kernel
theorem dX8_findWetted_14 : decode cX8_findWetted 14 = .ok (.iconst 5, 1) := by decide +kernel
theorem dX8_findWetted_15 : decode cX8_findWetted 15 = .ok (.if_icmp .ge 16, 3) := by decide +kernel
theorem dX8_findWetted_18 : decode cX8_findWetted 18 = .ok (.aload_n 0, 1) := by decide +kernel
theorem dX8_findWetted_19 : decode cX8_findWetted 19 = .ok (.getfield 22, 3) := by decide +kernel
theorem dX8_findWetted_22 : decode cX8_findWetted 22 = .ok (.iload_n 2, 1) := by decide +kernel
theorem dX8_findWetted_23 : decode cX8_findWetted 23 = .ok (.iconst 0, 1) := by decide +kernel
theorem dX8_findWetted_24 : decode cX8_findWetted 24 = .ok (.iastore, 1) := by decide +kernel
theorem dX8_findWetted_25 : decode cX8_findWetted 25 = .ok (.iinc 2 1, 3) := by decide +kernel
theorem dX8_findWetted_28 : decode cX8_findWetted 28 = .ok (.goto (-15), 3) := by decide +kernel
theorem dX8_findWetted_31 : decode cX8_findWetted 31 = .ok (.iconst 0, 1) := by decide +kernel
theorem dX8_findWetted_32 : decode cX8_findWetted 32 = .ok (.istore_n 2, 1) := by decide +kernel
theorem dX8_findWetted_33 : decode cX8_findWetted 33 = .ok (.iload_n 2, 1) := by decide +kernel
theorem dX8_findWetted_34 : decode cX8_findWetted 34 = .ok (.iload_n 1, 1) := by decide +kernel
theorem dX8_findWetted_35 : decode cX8_findWetted 35 = .ok (.if_icmp .ge 58, 3) := by decide +kernel
theorem dX8_findWetted_38 : decode cX8_findWetted 38 = .ok (.iconst 0, 1) := by decide +kernel
theorem dX8_findWetted_39 : decode cX8_findWetted 39 = .ok (.istore_n 3, 1) := by decide +kernel
theorem dX8_findWetted_40 : decode cX8_findWetted 40 = .ok (.iload_n 3, 1) := by decide +kernel
theorem dX8_findWetted_41 : decode cX8_findWetted 41 = .ok (.aload_n 0, 1) := by decide +kernel
theorem dX8_findWetted_42 : decode cX8_findWetted 42 = .ok (.getfield 18, 3) := by decide +kernel
theorem dX8_findWetted_45 : decode cX8_findWetted 45 = .ok (.getfield 50, 3) := by decide +kernel
theorem dX8_findWetted_48 : decode cX8_findWetted 48 = .ok (.if_icmp .ge 26, 3) := by decide +kernel
theorem dX8_findWetted_51 : decode cX8_findWetted 51 = .ok (.aload_n 0, 1) := by decide +kernel
theorem dX8_findWetted_52 : decode cX8_findWetted 52 = .ok (.getfield 22, 3) := by decide +kernel
theorem dX8_findWetted_55 : decode cX8_findWetted 55 = .ok (.iload_n 3, 1) := by decide +kernel
theorem dX8_findWetted_56 : decode cX8_findWetted 56 = .ok (.dup2, 1) := by decide +kernel
theorem dX8_findWetted_57 : decode cX8_findWetted 57 = .ok (.iaload, 1) := by decide +kernel
theorem dX8_findWetted_58 : decode cX8_findWetted 58 = .ok (.aload_n 0, 1) := by decide +kernel
theorem dX8_findWetted_59 : decode cX8_findWetted 59 = .ok (.getfield 18, 3) := by decide +kernel
theorem dX8_findWetted_62 : decode cX8_findWetted 62 = .ok (.iload_n 3, 1) := by decide +kernel
theorem dX8_findWetted_63 : decode cX8_findWetted 63 = .ok (.invokevirtual 53, 3) := by decide +kernel
theorem dX8_findWetted_66 : decode cX8_findWetted 66 = .ok (.ior, 1) := by decide +kernel
theorem dX8_findWetted_67 : decode cX8_findWetted 67 = .ok (.iastore, 1) := by decide +kernel
theorem dX8_findWetted_68 : decode cX8_findWetted 68 = .ok (.iinc 3 1, 3) := by decide +kernel
theorem dX8_findWetted_71 : decode cX8_findWetted 71 = .ok (.goto (-31), 3) := by decide +kernel
theorem dX8_findWetted_74 : decode cX8_findWetted 74 = .ok (.aload_n 0, 1) := by decide +kernel
theorem dX8_findWetted_75 : decode cX8_findWetted 75 = .ok (.getfield 18, 3) := by decide +kernel
theorem dX8_findWetted_78 : decode cX8_findWetted 78 = .ok (.dup, 1) := by decide +kernel
theorem dX8_findWetted_79 : decode cX8_findWetted 79 = .ok (.getfield 57, 3) := by decide +kernel
theorem dX8_findWetted_82 : decode cX8_findWetted 82 = .ok (.iconst 1, 1) := by decide +kernel
theorem dX8_findWetted_83 : decode cX8_findWetted 83 = .ok (.iadd, 1) := by decide +kernel
theorem dX8_findWetted_84 : decode cX8_findWetted 84 = .ok (.putfield 57, 3) := by decide +kernel
theorem dX8_findWetted_87 : decode cX8_findWetted 87 = .ok (.iinc 2 1, 3) := by decide +kernel
theorem dX8_findWetted_90 : decode cX8_findWetted 90 = .ok (.goto (-57), 3) := by decide +kernel
theorem dX8_findWetted_93 : decode cX8_findWetted 93 = .ok (.return_, 1) := by decide +kernel
theorem dX8_tryFrom_0 : decode cX8_tryFrom 0 = .ok (.iload_n 2, 1) := by decide +kernel
theorem dX8_tryFrom_1 : decode cX8_tryFrom 1 = .ok (.aload_n 0, 1) := by decide +kernel
theorem dX8_tryFrom_2 : decode cX8_tryFrom 2 = .ok (.getfield 39, 3) := by decide +kernel
theorem dX8_tryFrom_5 : decode cX8_tryFrom 5 = .ok (.if_icmp .lt 4, 3) := by decide +kernel
theorem dX8_tryFrom_8 : decode cX8_tryFrom 8 = .ok (.return_, 1) := by decide +kernel
theorem dX8_tryFrom_9 : decode cX8_tryFrom 9 = .ok (.iload_n 1, 1) := by decide +kernel
theorem dX8_tryFrom_10 : decode cX8_tryFrom 10 = .ok (.aload_n 0, 1) := by decide +kernel
theorem dX8_tryFrom_11 : decode cX8_tryFrom 11 = .ok (.getfield 28, 3) := by decide +kernel
theorem dX8_tryFrom_14 : decode cX8_tryFrom 14 = .ok (.getfield 50, 3) := by decide +kernel
theorem dX8_tryFrom_17 : decode cX8_tryFrom 17 = .ok (.if_icmp .ge 8, 3) := by decide +kernel
theorem dX8_tryFrom_20 : decode cX8_tryFrom 20 = .ok (.iload_n 1, 1) := by decide +kernel
theorem dX8_tryFrom_21 : decode cX8_tryFrom 21 = .ok (.iconst 5, 1) := by decide +kernel
theorem dX8_tryFrom_22 : decode cX8_tryFrom 22 = .ok (.if_icmp .lt 34, 3) := by decide +kernel
theorem dX8_tryFrom_25 : decode cX8_tryFrom 25 = .ok (.aload_n 0, 1) := by decide +kernel
theorem dX8_tryFrom_26 : decode cX8_tryFrom 26 = .ok (.getfield 31, 3) := by decide +kernel
theorem dX8_tryFrom_29 : decode cX8_tryFrom 29 = .ok (.iload_n 3, 1) := by decide +kernel
theorem dX8_tryFrom_30 : decode cX8_tryFrom 30 = .ok (.iconst (-1), 1) := by decide +kernel
theorem dX8_tryFrom_31 : decode cX8_tryFrom 31 = .ok (.ixor, 1) := by decide +kernel
theorem dX8_tryFrom_32 : decode cX8_tryFrom 32 = .ok (.iand, 1) := by decide +kernel
theorem dX8_tryFrom_33 : decode cX8_tryFrom 33 = .ok (.ifCond .ne 22, 3) := by decide +kernel
theorem dX8_tryFrom_36 : decode cX8_tryFrom 36 = .ok (.aload_n 0, 1) := by decide +kernel
theorem dX8_tryFrom_37 : decode cX8_tryFrom 37 = .ok (.iload_n 2, 1) := by decide +kernel
theorem dX8_tryFrom_38 : decode cX8_tryFrom 38 = .ok (.putfield 39, 3) := by decide +kernel
theorem dX8_tryFrom_41 : decode cX8_tryFrom 41 = .ok (.aload_n 0, 1) := by decide +kernel
theorem dX8_tryFrom_42 : decode cX8_tryFrom 42 = .ok (.getfield 25, 3) := by decide +kernel
theorem dX8_tryFrom_45 : decode cX8_tryFrom 45 = .ok (.iconst 0, 1) := by decide +kernel
theorem dX8_tryFrom_46 : decode cX8_tryFrom 46 = .ok (.aload_n 0, 1) := by decide +kernel
theorem dX8_tryFrom_47 : decode cX8_tryFrom 47 = .ok (.getfield 9, 3) := by decide +kernel
theorem dX8_tryFrom_50 : decode cX8_tryFrom 50 = .ok (.iconst 0, 1) := by decide +kernel
theorem dX8_tryFrom_51 : decode cX8_tryFrom 51 = .ok (.iconst 5, 1) := by decide +kernel
theorem dX8_tryFrom_52 : decode cX8_tryFrom 52 = .ok (.invokestatic 60, 3) := by decide +kernel
theorem dX8_tryFrom_55 : decode cX8_tryFrom 55 = .ok (.return_, 1) := by decide +kernel
theorem dX8_tryFrom_56 : decode cX8_tryFrom 56 = .ok (.aload_n 0, 1) := by decide +kernel
theorem dX8_tryFrom_57 : decode cX8_tryFrom 57 = .ok (.getfield 28, 3) := by decide +kernel
theorem dX8_tryFrom_60 : decode cX8_tryFrom 60 = .ok (.iload_n 1, 1) := by decide +kernel
theorem dX8_tryFrom_61 : decode cX8_tryFrom 61 = .ok (.invokevirtual 66, 3) := by decide +kernel
theorem dX8_tryFrom_64 : decode cX8_tryFrom 64 = .ok (.ifCond .eq 7, 3) := by decide +kernel
theorem dX8_tryFrom_67 : decode cX8_tryFrom 67 = .ok (.iconst 0, 1) := by decide +kernel
theorem dX8_tryFrom_68 : decode cX8_tryFrom 68 = .ok (.goto 4, 3) := by decide +kernel
theorem dX8_tryFrom_71 : decode cX8_tryFrom 71 = .ok (.iconst 3, 1) := by decide +kernel
theorem dX8_tryFrom_72 : decode cX8_tryFrom 72 = .ok (.istore 4, 2) := by decide +kernel
theorem dX8_tryFrom_74 : decode cX8_tryFrom 74 = .ok (.iconst 0, 1) := by decide +kernel
theorem dX8_tryFrom_75 : decode cX8_tryFrom 75 = .ok (.istore 5, 2) := by decide +kernel
theorem dX8_tryFrom_77 : decode cX8_tryFrom 77 = .ok (.iload 5, 2) := by decide +kernel
theorem dX8_tryFrom_79 : decode cX8_tryFrom 79 = .ok (.iload 4, 2) := by decide +kernel
theorem dX8_tryFrom_81 : decode cX8_tryFrom 81 = .ok (.if_icmp .gt 41, 3) := by decide +kernel
theorem dX8_tryFrom_84 : decode cX8_tryFrom 84 = .ok (.aload_n 0, 1) := by decide +kernel
theorem dX8_tryFrom_85 : decode cX8_tryFrom 85 = .ok (.getfield 25, 3) := by decide +kernel
theorem dX8_tryFrom_88 : decode cX8_tryFrom 88 = .ok (.iload_n 1, 1) := by decide +kernel
theorem dX8_tryFrom_89 : decode cX8_tryFrom 89 = .ok (.iload 5, 2) := by decide +kernel
theorem dX8_tryFrom_91 : decode cX8_tryFrom 91 = .ok (.iastore, 1) := by decide +kernel
theorem dX8_tryFrom_92 : decode cX8_tryFrom 92 = .ok (.aload_n 0, 1) := by decide +kernel
theorem dX8_tryFrom_93 : decode cX8_tryFrom 93 = .ok (.iload_n 1, 1) := by decide +kernel
theorem dX8_tryFrom_94 : decode cX8_tryFrom 94 = .ok (.iconst 1, 1) := by decide +kernel
theorem dX8_tryFrom_95 : decode cX8_tryFrom 95 = .ok (.iadd, 1) := by decide +kernel
theorem dX8_tryFrom_96 : decode cX8_tryFrom 96 = .ok (.iload_n 2, 1) := by decide +kernel
theorem dX8_tryFrom_97 : decode cX8_tryFrom 97 = .ok (.iload 5, 2) := by decide +kernel
theorem dX8_tryFrom_99 : decode cX8_tryFrom 99 = .ok (.iadd, 1) := by decide +kernel
theorem dX8_tryFrom_100 : decode cX8_tryFrom 100 = .ok (.iload_n 3, 1) := by decide +kernel
theorem dX8_tryFrom_101 : decode cX8_tryFrom 101 = .ok (.aload_n 0, 1) := by decide +kernel
theorem dX8_tryFrom_102 : decode cX8_tryFrom 102 = .ok (.getfield 22, 3) := by decide +kernel
theorem dX8_tryFrom_105 : decode cX8_tryFrom 105 = .ok (.iload_n 1, 1) := by decide +kernel
theorem dX8_tryFrom_106 : decode cX8_tryFrom 106 = .ok (.iaload, 1) := by decide +kernel
theorem dX8_tryFrom_107 : decode cX8_tryFrom 107 = .ok (.iload 5, 2) := by decide +kernel
theorem dX8_tryFrom_109 : decode cX8_tryFrom 109 = .ok (.invokestatic 70, 3) := by decide +kernel
theorem dX8_tryFrom_112 : decode cX8_tryFrom 112 = .ok (.ior, 1) := by decide +kernel
theorem dX8_tryFrom_113 : decode cX8_tryFrom 113 = .ok (.invokevirtual 42, 3) := by decide +kernel
theorem dX8_tryFrom_116 : decode cX8_tryFrom 116 = .ok (.iinc 5 1, 3) := by decide +kernel
theorem dX8_tryFrom_119 : decode cX8_tryFrom 119 = .ok (.goto (-42), 3) := by decide +kernel
theorem dX8_tryFrom_122 : decode cX8_tryFrom 122 = .ok (.return_, 1) := by decide +kernel
