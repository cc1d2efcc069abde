theorem dX10_falls_66 : decode cX10_falls 66 = .ok (.ireturn, 1) := by decide +kernel
theorem dX10_dryOnes_0 : decode cX10_dryOnes 0 = .ok (.iconst 0, 1) := by decide +kernel
theorem dX10_dryOnes_1 : decode cX10_dryOnes 1 = .ok (.istore_n 1, 1) := by decide +kernel
theorem dX10_dryOnes_2 : decode cX10_dryOnes 2 = .ok (.iconst 0, 1) := by decide +kernel
theorem dX10_dryOnes_3 : decode cX10_dryOnes 3 = .ok (.istore_n 2, 1) := by decide +kernel
theorem dX10_dryOnes_4 : decode cX10_dryOnes 4 = .ok (.iload_n 2, 1) := by decide +kernel
theorem dX10_dryOnes_5 : decode cX10_dryOnes 5 = .ok (.bipush 16, 2) := by decide +kernel
theorem dX10_dryOnes_7 : decode cX10_dryOnes 7 = .ok (.if_icmp .ge 40, 3) := by decide +kernel
theorem dX10_dryOnes_10 : decode cX10_dryOnes 10 = .ok (.iload_n 1, 1) := by decide +kernel
theorem dX10_dryOnes_11 : decode cX10_dryOnes 11 = .ok (.aload_n 0, 1) := by decide +kernel
theorem dX10_dryOnes_12 : decode cX10_dryOnes 12 = .ok (.getfield 22, 3) := by decide +kernel
theorem dX10_dryOnes_15 : decode cX10_dryOnes 15 = .ok (.bipush 29, 2) := by decide +kernel
theorem dX10_dryOnes_17 : decode cX10_dryOnes 17 = .ok (.iload_n 2, 1) := by decide +kernel
theorem dX10_dryOnes_18 : decode cX10_dryOnes 18 = .ok (.iadd, 1) := by decide +kernel
theorem dX10_dryOnes_19 : decode cX10_dryOnes 19 = .ok (.iaload, 1) := by decide +kernel
theorem dX10_dryOnes_20 : decode cX10_dryOnes 20 = .ok (.aload_n 0, 1) := by decide +kernel
theorem dX10_dryOnes_21 : decode cX10_dryOnes 21 = .ok (.getfield 34, 3) := by decide +kernel
theorem dX10_dryOnes_24 : decode cX10_dryOnes 24 = .ok (.bipush 29, 2) := by decide +kernel
theorem dX10_dryOnes_26 : decode cX10_dryOnes 26 = .ok (.iload_n 2, 1) := by decide +kernel
theorem dX10_dryOnes_27 : decode cX10_dryOnes 27 = .ok (.iadd, 1) := by decide +kernel
theorem dX10_dryOnes_28 : decode cX10_dryOnes 28 = .ok (.iaload, 1) := by decide +kernel
theorem dX10_dryOnes_29 : decode cX10_dryOnes 29 = .ok (.if_icmp .ne 9, 3) := by decide +kernel
theorem dX10_dryOnes_32 : decode cX10_dryOnes 32 = .ok (.iconst 1, 1) := by decide +kernel
theorem dX10_dryOnes_33 : decode cX10_dryOnes 33 = .ok (.iload_n 2, 1) := by decide +kernel
theorem dX10_dryOnes_34 : decode cX10_dryOnes 34 = .ok (.ishl, 1) := by decide +kernel
theorem dX10_dryOnes_35 : decode cX10_dryOnes 35 = .ok (.goto 4, 3) := by decide +kernel
theorem dX10_dryOnes_38 : decode cX10_dryOnes 38 = .ok (.iconst 0, 1) := by decide +kernel
theorem dX10_dryOnes_39 : decode cX10_dryOnes 39 = .ok (.ior, 1) := by decide +kernel
theorem dX10_dryOnes_40 : decode cX10_dryOnes 40 = .ok (.istore_n 1, 1) := by decide +kernel
theorem dX10_dryOnes_41 : decode cX10_dryOnes 41 = .ok (.iinc 2 1, 3) := by decide +kernel
theorem dX10_dryOnes_44 : decode cX10_dryOnes 44 = .ok (.goto (-40), 3) := by decide +kernel
theorem dX10_dryOnes_47 : decode cX10_dryOnes 47 = .ok (.iload_n 1, 1) := by decide +kernel
theorem dX10_dryOnes_48 : decode cX10_dryOnes 48 = .ok (.ireturn, 1) := by decide +kernel
theorem dX10_dry_0 : decode cX10_dry 0 = .ok (.aload_n 0, 1) := by decide +kernel
theorem dX10_dry_1 : decode cX10_dry 1 = .ok (.getfield 117, 3) := by decide +kernel
theorem dX10_dry_4 : decode cX10_dry 4 = .ok (.ifCond .ne 6, 3) := by decide +kernel
theorem dX10_dry_7 : decode cX10_dry 7 = .ok (.ldc 144, 2) := by decide +kernel
theorem dX10_dry_9 : decode cX10_dry 9 = .ok (.ireturn, 1) := by decide +kernel
theorem dX10_dry_10 : decode cX10_dry 10 = .ok (.iload_n 1, 1) := by decide +kernel
theorem dX10_dry_11 : decode cX10_dry 11 = .ok (.i2l, 1) := by decide +kernel
theorem dX10_dry_12 : decode cX10_dry 12 = .ok (.lconst 0, 1) := by decide +kernel
theorem dX10_dry_13 : decode cX10_dry 13 = .ok (.ldc2_w 169, 3) := by decide +kernel
theorem dX10_dry_16 : decode cX10_dry 16 = .ok (.invokestatic 50, 3) := by decide +kernel
theorem dX10_dry_19 : decode cX10_dry 19 = .ok (.ifCond .ne 6, 3) := by decide +kernel
theorem dX10_dry_22 : decode cX10_dry 22 = .ok (.ldc 60, 2) := by decide +kernel
theorem dX10_dry_24 : decode cX10_dry 24 = .ok (.ireturn, 1) := by decide +kernel
theorem dX10_dry_25 : decode cX10_dry 25 = .ok (.aload_n 0, 1) := by decide +kernel
theorem dX10_dry_26 : decode cX10_dry 26 = .ok (.invokevirtual 171, 3) := by decide +kernel
theorem dX10_dry_29 : decode cX10_dry 29 = .ok (.aload_n 0, 1) := by decide +kernel
theorem dX10_dry_30 : decode cX10_dry 30 = .ok (.iload_n 1, 1) := by decide +kernel
theorem dX10_dry_31 : decode cX10_dry 31 = .ok (.invokevirtual 174, 3) := by decide +kernel
theorem dX10_dry_34 : decode cX10_dry 34 = .ok (.aload_n 0, 1) := by decide +kernel
theorem dX10_dry_35 : decode cX10_dry 35 = .ok (.invokevirtual 181, 3) := by decide +kernel
theorem dX10_dry_38 : decode cX10_dry 38 = .ok (.istore_n 2, 1) := by decide +kernel
theorem dX10_dry_39 : decode cX10_dry 39 = .ok (.aload_n 0, 1) := by decide +kernel
theorem dX10_dry_40 : decode cX10_dry 40 = .ok (.invokevirtual 178, 3) := by decide +kernel
theorem dX10_dry_43 : decode cX10_dry 43 = .ok (.iload_n 2, 1) := by decide +kernel
theorem dX10_dry_44 : decode cX10_dry 44 = .ok (.ireturn, 1) := by decide +kernel
theorem dX10_first_0 : decode cX10_first 0 = .ok (.aload_n 0, 1) := by decide +kernel
theorem dX10_first_1 : decode cX10_first 1 = .ok (.getfield 117, 3) := by decide +kernel
theorem dX10_first_4 : decode cX10_first 4 = .ok (.ifCond .ne 6, 3) := by decide +kernel
theorem dX10_first_7 : decode cX10_first 7 = .ok (.ldc 144, 2) := by decide +kernel
theorem dX10_first_9 : decode cX10_first 9 = .ok (.ireturn, 1) := by decide +kernel
theorem dX10_first_10 : decode cX10_first 10 = .ok (.iload_n 1, 1) := by decide +kernel
theorem dX10_first_11 : decode cX10_first 11 = .ok (.invokestatic 163, 3) := by decide +kernel
theorem dX10_first_14 : decode cX10_first 14 = .ok (.ifCond .ne 6, 3) := by decide +kernel
theorem dX10_first_17 : decode cX10_first 17 = .ok (.ldc 60, 2) := by decide +kernel
theorem dX10_first_19 : decode cX10_first 19 = .ok (.ireturn, 1) := by decide +kernel
theorem dX10_first_20 : decode cX10_first 20 = .ok (.aload_n 0, 1) := by decide +kernel
theorem dX10_first_21 : decode cX10_first 21 = .ok (.invokevirtual 171, 3) := by decide +kernel
theorem dX10_first_24 : decode cX10_first 24 = .ok (.iconst 0, 1) := by decide +kernel
theorem dX10_first_25 : decode cX10_first 25 = .ok (.istore_n 2, 1) := by decide +kernel
theorem dX10_first_26 : decode cX10_first 26 = .ok (.iload_n 2, 1) := by decide +kernel
theorem dX10_first_27 : decode cX10_first 27 = .ok (.bipush 61, 2) := by decide +kernel
theorem dX10_first_29 : decode cX10_first 29 = .ok (.if_icmp .ge 34, 3) := by decide +kernel
theorem dX10_first_32 : decode cX10_first 32 = .ok (.aload_n 0, 1) := by decide +kernel
theorem dX10_first_33 : decode cX10_first 33 = .ok (.getfield 22, 3) := by decide +kernel
theorem dX10_first_36 : decode cX10_first 36 = .ok (.bipush 29, 2) := by decide +kernel
theorem dX10_first_38 : decode cX10_first 38 = .ok (.iload_n 1, 1) := by decide +kernel
theorem dX10_first_39 : decode cX10_first 39 = .ok (.iadd, 1) := by decide +kernel
theorem dX10_first_40 : decode cX10_first 40 = .ok (.iaload, 1) := by decide +kernel
theorem dX10_first_41 : decode cX10_first 41 = .ok (.aload_n 0, 1) := by decide +kernel
theorem dX10_first_42 : decode cX10_first 42 = .ok (.getfield 34, 3) := by decide +kernel
theorem dX10_first_45 : decode cX10_first 45 = .ok (.bipush 29, 2) := by decide +kernel
theorem dX10_first_47 : decode cX10_first 47 = .ok (.iload_n 1, 1) := by decide +kernel
theorem dX10_first_48 : decode cX10_first 48 = .ok (.iadd, 1) := by decide +kernel
theorem dX10_first_49 : decode cX10_first 49 = .ok (.iaload, 1) := by decide +kernel
theorem dX10_first_50 : decode cX10_first 50 = .ok (.if_icmp .ne 13, 3) := by decide +kernel
theorem dX10_first_53 : decode cX10_first 53 = .ok (.aload_n 0, 1) := by decide +kernel
theorem dX10_first_54 : decode cX10_first 54 = .ok (.invokevirtual 153, 3) := by decide +kernel
theorem dX10_first_57 : decode cX10_first 57 = .ok (.iinc 2 1, 3) := by decide +kernel
theorem dX10_first_60 : decode cX10_first 60 = .ok (.goto (-34), 3) := by decide +kernel
theorem dX10_first_63 : decode cX10_first 63 = .ok (.aload_n 0, 1) := by decide +kernel
theorem dX10_first_64 : decode cX10_first 64 = .ok (.invokevirtual 178, 3) := by decide +kernel
theorem dX10_first_67 : decode cX10_first 67 = .ok (.iload_n 2, 1) := by decide +kernel
theorem dX10_first_68 : decode cX10_first 68 = .ok (.bipush 60, 2) := by decide +kernel
theorem dX10_first_70 : decode cX10_first 70 = .ok (.if_icmp .le 8, 3) := by decide +kernel
theorem dX10_first_73 : decode cX10_first 73 = .ok (.ldc 177, 2) := by decide +kernel
theorem dX10_first_75 : decode cX10_first 75 = .ok (.goto 4, 3) := by decide +kernel
theorem dX10_first_78 : decode cX10_first 78 = .ok (.iload_n 2, 1) := by decide +kernel
theorem dX10_first_79 : decode cX10_first 79 = .ok (.ireturn, 1) := by decide +kernel
theorem dX10_gone_0 : decode cX10_gone 0 = .ok (.aload_n 0, 1) := by decide +kernel
theorem dX10_gone_1 : decode cX10_gone 1 = .ok (.iload_n 1, 1) := by decide +kernel
theorem dX10_gone_2 : decode cX10_gone 2 = .ok (.invokevirtual 156, 3) := by decide +kernel
theorem dX10_gone_5 : decode cX10_gone 5 = .ok (.ifCond .ne 6, 3) := by decide +kernel
theorem dX10_gone_8 : decode cX10_gone 8 = .ok (.ldc 60, 2) := by decide +kernel
theorem dX10_gone_10 : decode cX10_gone 10 = .ok (.ireturn, 1) := by decide +kernel
theorem dX10_gone_11 : decode cX10_gone 11 = .ok (.aload_n 0, 1) := by decide +kernel
theorem dX10_gone_12 : decode cX10_gone 12 = .ok (.invokevirtual 171, 3) := by decide +kernel
theorem dX10_gone_15 : decode cX10_gone 15 = .ok (.iconst 0, 1) := by decide +kernel
theorem dX10_gone_16 : decode cX10_gone 16 = .ok (.istore_n 2, 1) := by decide +kernel
theorem dX10_gone_17 : decode cX10_gone 17 = .ok (.iload_n 2, 1) := by decide +kernel
theorem dX10_gone_18 : decode cX10_gone 18 = .ok (.bipush 61, 2) := by decide +kernel
theorem dX10_gone_20 : decode cX10_gone 20 = .ok (.if_icmp .ge 21, 3) := by decide +kernel
theorem dX10_gone_23 : decode cX10_gone 23 = .ok (.aload_n 0, 1) := by decide +kernel
theorem dX10_gone_24 : decode cX10_gone 24 = .ok (.iload_n 1, 1) := by decide +kernel
theorem dX10_gone_25 : decode cX10_gone 25 = .ok (.invokevirtual 129, 3) := by decide +kernel
theorem dX10_gone_28 : decode cX10_gone 28 = .ok (.ifCond .ne 13, 3) := by decide +kernel
theorem dX10_gone_31 : decode cX10_gone 31 = .ok (.aload_n 0, 1) := by decide +kernel
theorem dX10_gone_32 : decode cX10_gone 32 = .ok (.invokevirtual 153, 3) := by decide +kernel
theorem dX10_gone_35 : decode cX10_gone 35 = .ok (.iinc 2 1, 3) := by decide +kernel
theorem dX10_gone_38 : decode cX10_gone 38 = .ok (.goto (-21), 3) := by decide +kernel
theorem dX10_gone_41 : decode cX10_gone 41 = .ok (.aload_n 0, 1) := by decide +kernel
theorem dX10_gone_42 : decode cX10_gone 42 = .ok (.invokevirtual 178, 3) := by decide +kernel
theorem dX10_gone_45 : decode cX10_gone 45 = .ok (.iload_n 2, 1) := by decide +kernel
theorem dX10_gone_46 : decode cX10_gone 46 = .ok (.bipush 60, 2) := by decide +kernel
theorem dX10_gone_48 : decode cX10_gone 48 = .ok (.if_icmp .le 8, 3) := by decide +kernel
theorem dX10_gone_51 : decode cX10_gone 51 = .ok (.ldc 177, 2) := by decide +kernel
theorem dX10_gone_53 : decode cX10_gone 53 = .ok (.goto 4, 3) := by decide +kernel
theorem dX10_gone_56 : decode cX10_gone 56 = .ok (.iload_n 2, 1) := by decide +kernel
theorem dX10_gone_57 : decode cX10_gone 57 = .ok (.ireturn, 1) := by decide +kernel
theorem dX10_storm_0 : decode cX10_storm 0 = .ok (.aload_n 0, 1) := by decide +kernel
theorem dX10_storm_1 : decode cX10_storm 1 = .ok (.iload_n 1, 1) := by decide +kernel
theorem dX10_storm_2 : decode cX10_storm 2 = .ok (.invokevirtual 156, 3) := by decide +kernel
theorem dX10_storm_5 : decode cX10_storm 5 = .ok (.ifCond .eq 16, 3) := by decide +kernel
theorem dX10_storm_8 : decode cX10_storm 8 = .ok (.aload_n 0, 1) := by decide +kernel
theorem dX10_storm_9 : decode cX10_storm 9 = .ok (.iload_n 2, 1) := by decide +kernel
theorem dX10_storm_10 : decode cX10_storm 10 = .ok (.invokevirtual 156, 3) := by decide +kernel
theorem dX10_storm_13 : decode cX10_storm 13 = .ok (.ifCond .eq 8, 3) := by decide +kernel
theorem dX10_storm_16 : decode cX10_storm 16 = .ok (.iload_n 1, 1) := by decide +kernel
theorem dX10_storm_17 : decode cX10_storm 17 = .ok (.iload_n 2, 1) := by decide +kernel
theorem dX10_storm_18 : decode cX10_storm 18 = .ok (.if_icmp .ne 6, 3) := by decide +kernel
theorem dX10_storm_21 : decode cX10_storm 21 = .ok (.ldc 60, 2) := by decide +kernel
theorem dX10_storm_23 : decode cX10_storm 23 = .ok (.ireturn, 1) := by decide +kernel
theorem dX10_storm_24 : decode cX10_storm 24 = .ok (.aload_n 0, 1) := by decide +kernel
theorem dX10_storm_25 : decode cX10_storm 25 = .ok (.iload_n 1, 1) := by decide +kernel
theorem dX10_storm_26 : decode cX10_storm 26 = .ok (.iconst 4, 1) := by decide +kernel
theorem dX10_storm_27 : decode cX10_storm 27 = .ok (.invokevirtual 126, 3) := by decide +kernel
theorem dX10_storm_30 : decode cX10_storm 30 = .ok (.aload_n 0, 1) := by decide +kernel
theorem dX10_storm_31 : decode cX10_storm 31 = .ok (.iload_n 2, 1) := by decide +kernel
theorem dX10_storm_32 : decode cX10_storm 32 = .ok (.iconst 4, 1) := by decide +kernel
theorem dX10_storm_33 : decode cX10_storm 33 = .ok (.invokevirtual 126, 3) := by decide +kernel
theorem dX10_storm_36 : decode cX10_storm 36 = .ok (.if_icmp .ne 6, 3) := by decide +kernel
theorem dX10_storm_39 : decode cX10_storm 39 = .ok (.ldc 177, 2) := by decide +kernel
theorem dX10_storm_41 : decode cX10_storm 41 = .ok (.ireturn, 1) := by decide +kernel
theorem dX10_storm_42 : decode cX10_storm 42 = .ok (.aload_n 0, 1) := by decide +kernel
theorem dX10_storm_43 : decode cX10_storm 43 = .ok (.invokevirtual 171, 3) := by decide +kernel
theorem dX10_storm_46 : decode cX10_storm 46 = .ok (.iconst 0, 1) := by decide +kernel
theorem dX10_storm_47 : decode cX10_storm 47 = .ok (.istore_n 3, 1) := by decide +kernel
theorem dX10_storm_48 : decode cX10_storm 48 = .ok (.iload_n 3, 1) := by decide +kernel
theorem dX10_storm_49 : decode cX10_storm 49 = .ok (.bipush 61, 2) := by decide +kernel
theorem dX10_storm_51 : decode cX10_storm 51 = .ok (.if_icmp .ge 27, 3) := by decide +kernel
theorem dX10_storm_54 : decode cX10_storm 54 = .ok (.aload_n 0, 1) := by decide +kernel
theorem dX10_storm_55 : decode cX10_storm 55 = .ok (.iload_n 1, 1) := by decide +kernel
theorem dX10_storm_56 : decode cX10_storm 56 = .ok (.invokevirtual 132, 3) := by decide +kernel
theorem dX10_storm_59 : decode cX10_storm 59 = .ok (.aload_n 0, 1) := by decide +kernel
theorem dX10_storm_60 : decode cX10_storm 60 = .ok (.iload_n 2, 1) := by decide +kernel
theorem dX10_storm_61 : decode cX10_storm 61 = .ok (.invokevirtual 132, 3) := by decide +kernel
theorem dX10_storm_64 : decode cX10_storm 64 = .ok (.iand, 1) := by decide +kernel
theorem dX10_storm_65 : decode cX10_storm 65 = .ok (.ifCond .ne 13, 3) := by decide +kernel
theorem dX10_storm_68 : decode cX10_storm 68 = .ok (.aload_n 0, 1) := by decide +kernel
theorem dX10_storm_69 : decode cX10_storm 69 = .ok (.invokevirtual 153, 3) := by decide +kernel
theorem dX10_storm_72 : decode cX10_storm 72 = .ok (.iinc 3 1, 3) := by decide +kernel
theorem dX10_storm_75 : decode cX10_storm 75 = .ok (.goto (-27), 3) := by decide +kernel
theorem dX10_storm_78 : decode cX10_storm 78 = .ok (.aload_n 0, 1) := by decide +kernel
theorem dX10_storm_79 : decode cX10_storm 79 = .ok (.invokevirtual 178, 3) := by decide +kernel
theorem dX10_storm_82 : decode cX10_storm 82 = .ok (.iload_n 3, 1) := by decide +kernel
theorem dX10_storm_83 : decode cX10_storm 83 = .ok (.bipush 60, 2) := by decide +kernel
theorem dX10_storm_85 : decode cX10_storm 85 = .ok (.if_icmp .le 8, 3) := by decide +kernel
theorem dX10_storm_88 : decode cX10_storm 88 = .ok (.ldc 177, 2) := by decide +kernel
theorem dX10_storm_90 : decode cX10_storm 90 = .ok (.goto 4, 3) := by decide +kernel
theorem dX10_storm_93 : decode cX10_storm 93 = .ok (.iload_n 3, 1) := by decide +kernel
theorem dX10_storm_94 : decode cX10_storm 94 = .ok (.ireturn, 1) := by decide +kernel
theorem dX10_blue_0 : decode cX10_blue 0 = .ok (.aload_n 0, 1) := by decide +kernel
theorem dX10_blue_1 : decode cX10_blue 1 = .ok (.getfield 117, 3) := by decide +kernel
theorem dX10_blue_4 : decode cX10_blue 4 = .ok (.ifCond .ne 6, 3) := by decide +kernel
theorem dX10_blue_7 : decode cX10_blue 7 = .ok (.ldc 144, 2) := by decide +kernel
theorem dX10_blue_9 : decode cX10_blue 9 = .ok (.ireturn, 1) := by decide +kernel
theorem dX10_blue_10 : decode cX10_blue 10 = .ok (.iload_n 1, 1) := by decide +kernel
theorem dX10_blue_11 : decode cX10_blue 11 = .ok (.i2l, 1) := by decide +kernel
theorem dX10_blue_12 : decode cX10_blue 12 = .ok (.lconst 0, 1) := by decide +kernel
theorem dX10_blue_13 : decode cX10_blue 13 = .ok (.lconst 1, 1) := by decide +kernel
theorem dX10_blue_14 : decode cX10_blue 14 = .ok (.invokestatic 50, 3) := by decide +kernel
theorem dX10_blue_17 : decode cX10_blue 17 = .ok (.ifCond .ne 6, 3) := by decide +kernel
theorem dX10_blue_20 : decode cX10_blue 20 = .ok (.ldc 60, 2) := by decide +kernel
theorem dX10_blue_22 : decode cX10_blue 22 = .ok (.ireturn, 1) := by decide +kernel
theorem dX10_blue_23 : decode cX10_blue 23 = .ok (.iconst 0, 1) := by decide +kernel
theorem dX10_blue_24 : decode cX10_blue 24 = .ok (.istore_n 2, 1) := by decide +kernel
theorem dX10_blue_25 : decode cX10_blue 25 = .ok (.ldc 177, 2) := by decide +kernel
theorem dX10_blue_27 : decode cX10_blue 27 = .ok (.istore_n 3, 1) := by decide +kernel
theorem dX10_blue_28 : decode cX10_blue 28 = .ok (.iconst 0, 1) := by decide +kernel
theorem dX10_blue_29 : decode cX10_blue 29 = .ok (.istore 4, 2) := by decide +kernel
theorem dX10_blue_31 : decode cX10_blue 31 = .ok (.iload 4, 2) := by decide +kernel
theorem dX10_blue_33 : decode cX10_blue 33 = .ok (.bipush 16, 2) := by decide +kernel
theorem dX10_blue_35 : decode cX10_blue 35 = .ok (.if_icmp .ge 66, 3) := by decide +kernel
theorem dX10_blue_38 : decode cX10_blue 38 = .ok (.iconst 0, 1) := by decide +kernel
theorem dX10_blue_39 : decode cX10_blue 39 = .ok (.istore 5, 2) := by decide +kernel
theorem dX10_blue_41 : decode cX10_blue 41 = .ok (.iload 5, 2) := by decide +kernel
theorem dX10_blue_43 : decode cX10_blue 43 = .ok (.bipush 16, 2) := by decide +kernel
theorem dX10_blue_45 : decode cX10_blue 45 = .ok (.if_icmp .ge 24, 3) := by decide +kernel
theorem dX10_blue_48 : decode cX10_blue 48 = .ok (.aload_n 0, 1) := by decide +kernel
theorem dX10_blue_49 : decode cX10_blue 49 = .ok (.iload 4, 2) := by decide +kernel
theorem dX10_blue_51 : decode cX10_blue 51 = .ok (.iload 5, 2) := by decide +kernel
theorem dX10_blue_53 : decode cX10_blue 53 = .ok (.iadd, 1) := by decide +kernel
theorem dX10_blue_54 : decode cX10_blue 54 = .ok (.bipush 16, 2) := by decide +kernel
theorem dX10_blue_56 : decode cX10_blue 56 = .ok (.irem, 1) := by decide +kernel
theorem dX10_blue_57 : decode cX10_blue 57 = .ok (.invokevirtual 166, 3) := by decide +kernel
theorem dX10_blue_60 : decode cX10_blue 60 = .ok (.ifCond .ne 9, 3) := by decide +kernel
theorem dX10_blue_63 : decode cX10_blue 63 = .ok (.iinc 5 1, 3) := by decide +kernel
theorem dX10_blue_66 : decode cX10_blue 66 = .ok (.goto (-25), 3) := by decide +kernel
theorem dX10_blue_69 : decode cX10_blue 69 = .ok (.iload 5, 2) := by decide +kernel
theorem dX10_blue_71 : decode cX10_blue 71 = .ok (.iload_n 2, 1) := by decide +kernel
theorem dX10_blue_72 : decode cX10_blue 72 = .ok (.if_icmp .le 8, 3) := by decide +kernel
theorem dX10_blue_75 : decode cX10_blue 75 = .ok (.iload 4, 2) := by decide +kernel
theorem dX10_blue_77 : decode cX10_blue 77 = .ok (.goto 4, 3) := by decide +kernel
theorem dX10_blue_80 : decode cX10_blue 80 = .ok (.iload_n 3, 1) := by decide +kernel
theorem dX10_blue_81 : decode cX10_blue 81 = .ok (.istore_n 3, 1) := by decide +kernel
theorem dX10_blue_82 : decode cX10_blue 82 = .ok (.iload 5, 2) := by decide +kernel
theorem dX10_blue_84 : decode cX10_blue 84 = .ok (.iload_n 2, 1) := by decide +kernel
theorem dX10_blue_85 : decode cX10_blue 85 = .ok (.if_icmp .le 8, 3) := by decide +kernel
theorem dX10_blue_88 : decode cX10_blue 88 = .ok (.iload 5, 2) := by decide +kernel
theorem dX10_blue_90 : decode cX10_blue 90 = .ok (.goto 4, 3) := by decide +kernel
theorem dX10_blue_93 : decode cX10_blue 93 = .ok (.iload_n 2, 1) := by decide +kernel
theorem dX10_blue_94 : decode cX10_blue 94 = .ok (.istore_n 2, 1) := by decide +kernel
theorem dX10_blue_95 : decode cX10_blue 95 = .ok (.iinc 4 1, 3) := by decide +kernel
theorem dX10_blue_98 : decode cX10_blue 98 = .ok (.goto (-67), 3) := by decide +kernel
theorem dX10_blue_101 : decode cX10_blue 101 = .ok (.iload_n 1, 1) := by decide +kernel
theorem dX10_blue_102 : decode cX10_blue 102 = .ok (.ifCond .ne 7, 3) := by decide +kernel
theorem dX10_blue_105 : decode cX10_blue 105 = .ok (.iload_n 2, 1) := by decide +kernel
theorem dX10_blue_106 : decode cX10_blue 106 = .ok (.goto 4, 3) := by decide +kernel
theorem dX10_blue_109 : decode cX10_blue 109 = .ok (.iload_n 3, 1) := by decide +kernel
theorem dX10_blue_110 : decode cX10_blue 110 = .ok (.ireturn, 1) := by decide +kernel
theorem dX10_leastTow_0 : decode cX10_leastTow 0 = .ok (.aload_n 0, 1) := by decide +kernel
theorem dX10_leastTow_1 : decode cX10_leastTow 1 = .ok (.getfield 117, 3) := by decide +kernel
theorem dX10_leastTow_4 : decode cX10_leastTow 4 = .ok (.ifCond .ne 6, 3) := by decide +kernel
theorem dX10_leastTow_7 : decode cX10_leastTow 7 = .ok (.ldc 144, 2) := by decide +kernel
theorem dX10_leastTow_9 : decode cX10_leastTow 9 = .ok (.ireturn, 1) := by decide +kernel
theorem dX10_leastTow_10 : decode cX10_leastTow 10 = .ok (.iload_n 1, 1) := by decide +kernel
theorem dX10_leastTow_11 : decode cX10_leastTow 11 = .ok (.i2l, 1) := by decide +kernel
theorem dX10_leastTow_12 : decode cX10_leastTow 12 = .ok (.lconst 0, 1) := by decide +kernel
theorem dX10_leastTow_13 : decode cX10_leastTow 13 = .ok (.ldc2_w 184, 3) := by decide +kernel
theorem dX10_leastTow_16 : decode cX10_leastTow 16 = .ok (.invokestatic 50, 3) := by decide +kernel
theorem dX10_leastTow_19 : decode cX10_leastTow 19 = .ok (.ifCond .eq 28, 3) := by decide +kernel
theorem dX10_leastTow_22 : decode cX10_leastTow 22 = .ok (.iload_n 2, 1) := by decide +kernel
theorem dX10_leastTow_23 : decode cX10_leastTow 23 = .ok (.i2l, 1) := by decide +kernel
theorem dX10_leastTow_24 : decode cX10_leastTow 24 = .ok (.lconst 1, 1) := by decide +kernel
theorem dX10_leastTow_25 : decode cX10_leastTow 25 = .ok (.ldc2_w 145, 3) := by decide +kernel
theorem dX10_leastTow_28 : decode cX10_leastTow 28 = .ok (.invokestatic 50, 3) := by decide +kernel
theorem dX10_leastTow_31 : decode cX10_leastTow 31 = .ok (.ifCond .eq 16, 3) := by decide +kernel
theorem dX10_leastTow_34 : decode cX10_leastTow 34 = .ok (.iload_n 3, 1) := by decide +kernel
theorem dX10_leastTow_35 : decode cX10_leastTow 35 = .ok (.iconst (-1), 1) := by decide +kernel
theorem dX10_leastTow_36 : decode cX10_leastTow 36 = .ok (.if_icmp .eq 14, 3) := by decide +kernel
theorem dX10_leastTow_39 : decode cX10_leastTow 39 = .ok (.aload_n 0, 1) := by decide +kernel
theorem dX10_leastTow_40 : decode cX10_leastTow 40 = .ok (.iload_n 3, 1) := by decide +kernel
theorem dX10_leastTow_41 : decode cX10_leastTow 41 = .ok (.invokevirtual 156, 3) := by decide +kernel
theorem dX10_leastTow_44 : decode cX10_leastTow 44 = .ok (.ifCond .ne 6, 3) := by decide +kernel
theorem dX10_leastTow_47 : decode cX10_leastTow 47 = .ok (.ldc 60, 2) := by decide +kernel
theorem dX10_leastTow_49 : decode cX10_leastTow 49 = .ok (.ireturn, 1) := by decide +kernel
theorem dX10_leastTow_50 : decode cX10_leastTow 50 = .ok (.aload_n 0, 1) := by decide +kernel
theorem dX10_leastTow_51 : decode cX10_leastTow 51 = .ok (.invokevirtual 171, 3) := by decide +kernel
theorem dX10_leastTow_54 : decode cX10_leastTow 54 = .ok (.ldc 177, 2) := by decide +kernel
theorem dX10_leastTow_56 : decode cX10_leastTow 56 = .ok (.istore 4, 2) := by decide +kernel
theorem dX10_leastTow_58 : decode cX10_leastTow 58 = .ok (.ldc 177, 2) := by decide +kernel
theorem dX10_leastTow_60 : decode cX10_leastTow 60 = .ok (.istore 5, 2) := by decide +kernel
theorem dX10_leastTow_62 : decode cX10_leastTow 62 = .ok (.iconst 0, 1) := by decide +kernel
theorem dX10_leastTow_63 : decode cX10_leastTow 63 = .ok (.istore 6, 2) := by decide +kernel
theorem dX10_leastTow_65 : decode cX10_leastTow 65 = .ok (.iload 6, 2) := by decide +kernel
theorem dX10_leastTow_67 : decode cX10_leastTow 67 = .ok (.iconst 1, 1) := by decide +kernel
theorem dX10_leastTow_68 : decode cX10_leastTow 68 = .ok (.iconst 2, 1) := by decide +kernel
theorem dX10_leastTow_69 : decode cX10_leastTow 69 = .ok (.aload_n 0, 1) := by decide +kernel
theorem dX10_leastTow_70 : decode cX10_leastTow 70 = .ok (.getfield 34, 3) := by decide +kernel
theorem dX10_leastTow_73 : decode cX10_leastTow 73 = .ok (.iconst 0, 1) := by decide +kernel
theorem dX10_leastTow_74 : decode cX10_leastTow 74 = .ok (.iaload, 1) := by decide +kernel
theorem dX10_leastTow_75 : decode cX10_leastTow 75 = .ok (.imul, 1) := by decide +kernel
theorem dX10_leastTow_76 : decode cX10_leastTow 76 = .ok (.ishl, 1) := by decide +kernel
theorem dX10_leastTow_77 : decode cX10_leastTow 77 = .ok (.if_icmp .ge 192, 3) := by decide +kernel
theorem dX10_leastTow_80 : decode cX10_leastTow 80 = .ok (.iconst 0, 1) := by decide +kernel
theorem dX10_leastTow_81 : decode cX10_leastTow 81 = .ok (.istore 7, 2) := by decide +kernel
theorem dX10_leastTow_83 : decode cX10_leastTow 83 = .ok (.iconst 1, 1) := by decide +kernel
theorem dX10_leastTow_84 : decode cX10_leastTow 84 = .ok (.istore 8, 2) := by decide +kernel
theorem dX10_leastTow_86 : decode cX10_leastTow 86 = .ok (.iconst 0, 1) := by decide +kernel
theorem dX10_leastTow_87 : decode cX10_leastTow 87 = .ok (.istore 9, 2) := by decide +kernel
theorem dX10_leastTow_89 : decode cX10_leastTow 89 = .ok (.iload 9, 2) := by decide +kernel
theorem dX10_leastTow_91 : decode cX10_leastTow 91 = .ok (.aload_n 0, 1) := by decide +kernel
theorem dX10_leastTow_92 : decode cX10_leastTow 92 = .ok (.getfield 22, 3) := by decide +kernel
theorem dX10_leastTow_95 : decode cX10_leastTow 95 = .ok (.iconst 0, 1) := by decide +kernel
theorem dX10_leastTow_96 : decode cX10_leastTow 96 = .ok (.iaload, 1) := by decide +kernel
theorem dX10_leastTow_97 : decode cX10_leastTow 97 = .ok (.if_icmp .ge 94, 3) := by decide +kernel
theorem dX10_leastTow_100 : decode cX10_leastTow 100 = .ok (.iload 6, 2) := by decide +kernel
theorem dX10_leastTow_102 : decode cX10_leastTow 102 = .ok (.iconst 2, 1) := by decide +kernel
theorem dX10_leastTow_103 : decode cX10_leastTow 103 = .ok (.aload_n 0, 1) := by decide +kernel
theorem dX10_leastTow_104 : decode cX10_leastTow 104 = .ok (.getfield 22, 3) := by decide +kernel
theorem dX10_leastTow_107 : decode cX10_leastTow 107 = .ok (.iconst 0, 1) := by decide +kernel
theorem dX10_leastTow_108 : decode cX10_leastTow 108 = .ok (.iaload, 1) := by decide +kernel
theorem dX10_leastTow_109 : decode cX10_leastTow 109 = .ok (.iconst 1, 1) := by decide +kernel
theorem dX10_leastTow_110 : decode cX10_leastTow 110 = .ok (.isub, 1) := by decide +kernel
theorem dX10_leastTow_111 : decode cX10_leastTow 111 = .ok (.iload 9, 2) := by decide +kernel
theorem dX10_leastTow_113 : decode cX10_leastTow 113 = .ok (.isub, 1) := by decide +kernel
theorem dX10_leastTow_114 : decode cX10_leastTow 114 = .ok (.imul, 1) := by decide +kernel
theorem dX10_leastTow_115 : decode cX10_leastTow 115 = .ok (.ishr, 1) := by decide +kernel
theorem dX10_leastTow_116 : decode cX10_leastTow 116 = .ok (.iconst 3, 1) := by decide +kernel
theorem dX10_leastTow_117 : decode cX10_leastTow 117 = .ok (.iand, 1) := by decide +kernel
theorem dX10_leastTow_118 : decode cX10_leastTow 118 = .ok (.istore 10, 2) := by decide +kernel
theorem dX10_leastTow_120 : decode cX10_leastTow 120 = .ok (.iload 8, 2) := by decide +kernel
theorem dX10_leastTow_122 : decode cX10_leastTow 122 = .ok (.ifCond .eq 21, 3) := by decide +kernel
theorem dX10_leastTow_125 : decode cX10_leastTow 125 = .ok (.iload 10, 2) := by decide +kernel
theorem dX10_leastTow_127 : decode cX10_leastTow 127 = .ok (.ifCond .eq 12, 3) := by decide +kernel
theorem dX10_leastTow_130 : decode cX10_leastTow 130 = .ok (.aload_n 0, 1) := by decide +kernel
theorem dX10_leastTow_131 : decode cX10_leastTow 131 = .ok (.iload 9, 2) := by decide +kernel
theorem dX10_leastTow_133 : decode cX10_leastTow 133 = .ok (.invokevirtual 129, 3) := by decide +kernel
theorem dX10_leastTow_136 : decode cX10_leastTow 136 = .ok (.ifCond .ne 7, 3) := by decide +kernel
theorem dX10_leastTow_139 : decode cX10_leastTow 139 = .ok (.iconst 1, 1) := by decide +kernel
theorem dX10_leastTow_140 : decode cX10_leastTow 140 = .ok (.goto 4, 3) := by decide +kernel
theorem dX10_leastTow_143 : decode cX10_leastTow 143 = .ok (.iconst 0, 1) := by decide +kernel
theorem dX10_leastTow_144 : decode cX10_leastTow 144 = .ok (.istore 8, 2) := by decide +kernel
theorem dX10_leastTow_146 : decode cX10_leastTow 146 = .ok (.iload 7, 2) := by decide +kernel
theorem dX10_leastTow_148 : decode cX10_leastTow 148 = .ok (.iload 10, 2) := by decide +kernel
theorem dX10_leastTow_150 : decode cX10_leastTow 150 = .ok (.iadd, 1) := by decide +kernel
theorem dX10_leastTow_151 : decode cX10_leastTow 151 = .ok (.istore 7, 2) := by decide +kernel
theorem dX10_leastTow_153 : decode cX10_leastTow 153 = .ok (.aload_n 0, 1) := by decide +kernel
theorem dX10_leastTow_154 : decode cX10_leastTow 154 = .ok (.getfield 22, 3) := by decide +kernel
theorem dX10_leastTow_157 : decode cX10_leastTow 157 = .ok (.iconst 4, 1) := by decide +kernel
theorem dX10_leastTow_158 : decode cX10_leastTow 158 = .ok (.iconst 5, 1) := by decide +kernel
theorem dX10_leastTow_159 : decode cX10_leastTow 159 = .ok (.iload 9, 2) := by decide +kernel
theorem dX10_leastTow_161 : decode cX10_leastTow 161 = .ok (.imul, 1) := by decide +kernel
theorem dX10_leastTow_162 : decode cX10_leastTow 162 = .ok (.iadd, 1) := by decide +kernel
theorem dX10_leastTow_163 : decode cX10_leastTow 163 = .ok (.iconst 1, 1) := by decide +kernel
theorem dX10_leastTow_164 : decode cX10_leastTow 164 = .ok (.iadd, 1) := by decide +kernel
theorem dX10_leastTow_165 : decode cX10_leastTow 165 = .ok (.aload_n 0, 1) := by decide +kernel
theorem dX10_leastTow_166 : decode cX10_leastTow 166 = .ok (.getfield 22, 3) := by decide +kernel
theorem dX10_leastTow_169 : decode cX10_leastTow 169 = .ok (.iconst 4, 1) := by decide +kernel
theorem dX10_leastTow_170 : decode cX10_leastTow 170 = .ok (.iconst 5, 1) := by decide +kernel
theorem dX10_leastTow_171 : decode cX10_leastTow 171 = .ok (.iload 9, 2) := by decide +kernel
theorem dX10_leastTow_173 : decode cX10_leastTow 173 = .ok (.imul, 1) := by decide +kernel
theorem dX10_leastTow_174 : decode cX10_leastTow 174 = .ok (.iadd, 1) := by decide +kernel
theorem dX10_leastTow_175 : decode cX10_leastTow 175 = .ok (.iconst 1, 1) := by decide +kernel
theorem dX10_leastTow_176 : decode cX10_leastTow 176 = .ok (.iadd, 1) := by decide +kernel
theorem dX10_leastTow_177 : decode cX10_leastTow 177 = .ok (.iaload, 1) := by decide +kernel
theorem dX10_leastTow_178 : decode cX10_leastTow 178 = .ok (.iload 10, 2) := by decide +kernel
theorem dX10_leastTow_180 : decode cX10_leastTow 180 = .ok (.iadd, 1) := by decide +kernel
theorem dX10_leastTow_181 : decode cX10_leastTow 181 = .ok (.bipush 16, 2) := by decide +kernel
theorem dX10_leastTow_183 : decode cX10_leastTow 183 = .ok (.irem, 1) := by decide +kernel
theorem dX10_leastTow_184 : decode cX10_leastTow 184 = .ok (.iastore, 1) := by decide +kernel
theorem dX10_leastTow_185 : decode cX10_leastTow 185 = .ok (.iinc 9 1, 3) := by decide +kernel
theorem dX10_leastTow_188 : decode cX10_leastTow 188 = .ok (.goto (-99), 3) := by decide +kernel
theorem dX10_leastTow_191 : decode cX10_leastTow 191 = .ok (.iload 8, 2) := by decide +kernel
theorem dX10_leastTow_193 : decode cX10_leastTow 193 = .ok (.ifCond .eq 66, 3) := by decide +kernel
theorem dX10_leastTow_196 : decode cX10_leastTow 196 = .ok (.iload 5, 2) := by decide +kernel
theorem dX10_leastTow_198 : decode cX10_leastTow 198 = .ok (.ldc 177, 2) := by decide +kernel
theorem dX10_leastTow_200 : decode cX10_leastTow 200 = .ok (.if_icmp .eq 10, 3) := by decide +kernel
theorem dX10_leastTow_203 : decode cX10_leastTow 203 = .ok (.iload 7, 2) := by decide +kernel
theorem dX10_leastTow_205 : decode cX10_leastTow 205 = .ok (.iload 5, 2) := by decide +kernel
theorem dX10_leastTow_207 : decode cX10_leastTow 207 = .ok (.if_icmp .ge 52, 3) := by decide +kernel
theorem dX10_leastTow_210 : decode cX10_leastTow 210 = .ok (.aload_n 0, 1) := by decide +kernel
theorem dX10_leastTow_211 : decode cX10_leastTow 211 = .ok (.iload_n 2, 1) := by decide +kernel
theorem dX10_leastTow_212 : decode cX10_leastTow 212 = .ok (.invokevirtual 174, 3) := by decide +kernel
theorem dX10_leastTow_215 : decode cX10_leastTow 215 = .ok (.aload_n 0, 1) := by decide +kernel
theorem dX10_leastTow_216 : decode cX10_leastTow 216 = .ok (.invokevirtual 181, 3) := by decide +kernel
theorem dX10_leastTow_219 : decode cX10_leastTow 219 = .ok (.iload_n 1, 1) := by decide +kernel
theorem dX10_leastTow_220 : decode cX10_leastTow 220 = .ok (.iand, 1) := by decide +kernel
theorem dX10_leastTow_221 : decode cX10_leastTow 221 = .ok (.ifCond .ne 7, 3) := by decide +kernel
theorem dX10_leastTow_224 : decode cX10_leastTow 224 = .ok (.iconst 1, 1) := by decide +kernel
theorem dX10_leastTow_225 : decode cX10_leastTow 225 = .ok (.goto 4, 3) := by decide +kernel
theorem dX10_leastTow_228 : decode cX10_leastTow 228 = .ok (.iconst 0, 1) := by decide +kernel
theorem dX10_leastTow_229 : decode cX10_leastTow 229 = .ok (.istore 9, 2) := by decide +kernel
theorem dX10_leastTow_231 : decode cX10_leastTow 231 = .ok (.iload 9, 2) := by decide +kernel
theorem dX10_leastTow_233 : decode cX10_leastTow 233 = .ok (.ifCond .eq 8, 3) := by decide +kernel
theorem dX10_leastTow_236 : decode cX10_leastTow 236 = .ok (.iload 6, 2) := by decide +kernel
theorem dX10_leastTow_238 : decode cX10_leastTow 238 = .ok (.goto 5, 3) := by decide +kernel
theorem dX10_leastTow_241 : decode cX10_leastTow 241 = .ok (.iload 4, 2) := by decide +kernel
theorem dX10_leastTow_243 : decode cX10_leastTow 243 = .ok (.istore 4, 2) := by decide +kernel
theorem dX10_leastTow_245 : decode cX10_leastTow 245 = .ok (.iload 9, 2) := by decide +kernel
theorem dX10_leastTow_247 : decode cX10_leastTow 247 = .ok (.ifCond .eq 8, 3) := by decide +kernel
theorem dX10_leastTow_250 : decode cX10_leastTow 250 = .ok (.iload 7, 2) := by decide +kernel
theorem dX10_leastTow_252 : decode cX10_leastTow 252 = .ok (.goto 5, 3) := by decide +kernel
theorem dX10_leastTow_255 : decode cX10_leastTow 255 = .ok (.iload 5, 2) := by decide +kernel
theorem dX10_leastTow_257 : decode cX10_leastTow 257 = .ok (.istore 5, 2) := by decide +kernel
theorem dX10_leastTow_259 : decode cX10_leastTow 259 = .ok (.aload_n 0, 1) := by decide +kernel
theorem dX10_leastTow_260 : decode cX10_leastTow 260 = .ok (.invokevirtual 178, 3) := by decide +kernel
theorem dX10_leastTow_263 : decode cX10_leastTow 263 = .ok (.iinc 6 1, 3) := by decide +kernel
theorem dX10_leastTow_266 : decode cX10_leastTow 266 = .ok (.goto (-201), 3) := by decide +kernel
theorem dX10_leastTow_269 : decode cX10_leastTow 269 = .ok (.iload_n 3, 1) := by decide +kernel
theorem dX10_leastTow_270 : decode cX10_leastTow 270 = .ok (.ifCond .lt 10, 3) := by decide +kernel
theorem dX10_leastTow_273 : decode cX10_leastTow 273 = .ok (.iload 5, 2) := by decide +kernel
theorem dX10_leastTow_275 : decode cX10_leastTow 275 = .ok (.ldc 177, 2) := by decide +kernel
theorem dX10_leastTow_277 : decode cX10_leastTow 277 = .ok (.if_icmp .ne 8, 3) := by decide +kernel
theorem dX10_leastTow_280 : decode cX10_leastTow 280 = .ok (.iload 5, 2) := by decide +kernel
theorem dX10_leastTow_282 : decode cX10_leastTow 282 = .ok (.goto 20, 3) := by decide +kernel
theorem dX10_leastTow_285 : decode cX10_leastTow 285 = .ok (.iload 4, 2) := by decide +kernel
theorem dX10_leastTow_287 : decode cX10_leastTow 287 = .ok (.iconst 2, 1) := by decide +kernel
theorem dX10_leastTow_288 : decode cX10_leastTow 288 = .ok (.aload_n 0, 1) := by decide +kernel
theorem dX10_leastTow_289 : decode cX10_leastTow 289 = .ok (.getfield 22, 3) := by decide +kernel
theorem dX10_leastTow_292 : decode cX10_leastTow 292 = .ok (.iconst 0, 1) := by decide +kernel
theorem dX10_leastTow_293 : decode cX10_leastTow 293 = .ok (.iaload, 1) := by decide +kernel
theorem dX10_leastTow_294 : decode cX10_leastTow 294 = .ok (.iconst 1, 1) := by decide +kernel
theorem dX10_leastTow_295 : decode cX10_leastTow 295 = .ok (.isub, 1) := by decide +kernel
theorem dX10_leastTow_296 : decode cX10_leastTow 296 = .ok (.iload_n 3, 1) := by decide +kernel
theorem dX10_leastTow_297 : decode cX10_leastTow 297 = .ok (.isub, 1) := by decide +kernel
theorem dX10_leastTow_298 : decode cX10_leastTow 298 = .ok (.imul, 1) := by decide +kernel
theorem dX10_leastTow_299 : decode cX10_leastTow 299 = .ok (.ishr, 1) := by decide +kernel
theorem dX10_leastTow_300 : decode cX10_leastTow 300 = .ok (.iconst 3, 1) := by decide +kernel
theorem dX10_leastTow_301 : decode cX10_leastTow 301 = .ok (.iand, 1) := by decide +kernel
theorem dX10_leastTow_302 : decode cX10_leastTow 302 = .ok (.ireturn, 1) := by decide +kernel
theorem dX10_harvest_0 : decode cX10_harvest 0 = .ok (.aload_n 0, 1) := by decide +kernel
theorem dX10_harvest_1 : decode cX10_harvest 1 = .ok (.getfield 117, 3) := by decide +kernel
theorem dX10_harvest_4 : decode cX10_harvest 4 = .ok (.ifCond .ne 6, 3) := by decide +kernel
theorem dX10_harvest_7 : decode cX10_harvest 7 = .ok (.ldc 144, 2) := by decide +kernel
theorem dX10_harvest_9 : decode cX10_harvest 9 = .ok (.ireturn, 1) := by decide +kernel
theorem dX10_harvest_10 : decode cX10_harvest 10 = .ok (.iload_n 1, 1) := by decide +kernel
theorem dX10_harvest_11 : decode cX10_harvest 11 = .ok (.invokestatic 163, 3) := by decide +kernel
theorem dX10_harvest_14 : decode cX10_harvest 14 = .ok (.ifCond .eq 15, 3) := by decide +kernel
theorem dX10_harvest_17 : decode cX10_harvest 17 = .ok (.iload_n 2, 1) := by decide +kernel
theorem dX10_harvest_18 : decode cX10_harvest 18 = .ok (.i2l, 1) := by decide +kernel
theorem dX10_harvest_19 : decode cX10_harvest 19 = .ok (.lconst 1, 1) := by decide +kernel
theorem dX10_harvest_20 : decode cX10_harvest 20 = .ok (.ldc2_w 159, 3) := by decide +kernel
theorem dX10_harvest_23 : decode cX10_harvest 23 = .ok (.invokestatic 50, 3) := by decide +kernel
theorem dX10_harvest_26 : decode cX10_harvest 26 = .ok (.ifCond .ne 6, 3) := by decide +kernel
theorem dX10_harvest_29 : decode cX10_harvest 29 = .ok (.ldc 60, 2) := by decide +kernel
theorem dX10_harvest_31 : decode cX10_harvest 31 = .ok (.ireturn, 1) := by decide +kernel
theorem dX10_harvest_32 : decode cX10_harvest 32 = .ok (.aload_n 0, 1) := by decide +kernel
theorem dX10_harvest_33 : decode cX10_harvest 33 = .ok (.invokevirtual 171, 3) := by decide +kernel
theorem dX10_harvest_36 : decode cX10_harvest 36 = .ok (.ldc 177, 2) := by decide +kernel
theorem dX10_harvest_38 : decode cX10_harvest 38 = .ok (.istore_n 3, 1) := by decide +kernel
theorem dX10_harvest_39 : decode cX10_harvest 39 = .ok (.iconst 0, 1) := by decide +kernel
theorem dX10_harvest_40 : decode cX10_harvest 40 = .ok (.istore 4, 2) := by decide +kernel
theorem dX10_harvest_42 : decode cX10_harvest 42 = .ok (.iconst 1, 1) := by decide +kernel
theorem dX10_harvest_43 : decode cX10_harvest 43 = .ok (.istore 5, 2) := by decide +kernel
theorem dX10_harvest_45 : decode cX10_harvest 45 = .ok (.iload 5, 2) := by decide +kernel
theorem dX10_harvest_47 : decode cX10_harvest 47 = .ok (.bipush 40, 2) := by decide +kernel
theorem dX10_harvest_49 : decode cX10_harvest 49 = .ok (.if_icmp .ge 78, 3) := by decide +kernel
theorem dX10_harvest_52 : decode cX10_harvest 52 = .ok (.iload_n 3, 1) := by decide +kernel
theorem dX10_harvest_53 : decode cX10_harvest 53 = .ok (.ldc 177, 2) := by decide +kernel
theorem dX10_harvest_55 : decode cX10_harvest 55 = .ok (.if_icmp .ne 72, 3) := by decide +kernel
theorem dX10_harvest_58 : decode cX10_harvest 58 = .ok (.aload_n 0, 1) := by decide +kernel
theorem dX10_harvest_59 : decode cX10_harvest 59 = .ok (.getfield 22, 3) := by decide +kernel
theorem dX10_harvest_62 : decode cX10_harvest 62 = .ok (.bipush 29, 2) := by decide +kernel
theorem dX10_harvest_64 : decode cX10_harvest 64 = .ok (.iload_n 1, 1) := by decide +kernel
theorem dX10_harvest_65 : decode cX10_harvest 65 = .ok (.iadd, 1) := by decide +kernel
theorem dX10_harvest_66 : decode cX10_harvest 66 = .ok (.iaload, 1) := by decide +kernel
theorem dX10_harvest_67 : decode cX10_harvest 67 = .ok (.istore 6, 2) := by decide +kernel
theorem dX10_harvest_69 : decode cX10_harvest 69 = .ok (.aload_n 0, 1) := by decide +kernel
theorem dX10_harvest_70 : decode cX10_harvest 70 = .ok (.invokevirtual 153, 3) := by decide +kernel
theorem dX10_harvest_73 : decode cX10_harvest 73 = .ok (.aload_n 0, 1) := by decide +kernel
theorem dX10_harvest_74 : decode cX10_harvest 74 = .ok (.getfield 22, 3) := by decide +kernel
theorem dX10_harvest_77 : decode cX10_harvest 77 = .ok (.bipush 29, 2) := by decide +kernel
theorem dX10_harvest_79 : decode cX10_harvest 79 = .ok (.iload_n 1, 1) := by decide +kernel
theorem dX10_harvest_80 : decode cX10_harvest 80 = .ok (.iadd, 1) := by decide +kernel
theorem dX10_harvest_81 : decode cX10_harvest 81 = .ok (.iaload, 1) := by decide +kernel
theorem dX10_harvest_82 : decode cX10_harvest 82 = .ok (.iload 6, 2) := by decide +kernel
theorem dX10_harvest_84 : decode cX10_harvest 84 = .ok (.if_icmp .ne 10, 3) := by decide +kernel
theorem dX10_harvest_87 : decode cX10_harvest 87 = .ok (.iload 4, 2) := by decide +kernel
theorem dX10_harvest_89 : decode cX10_harvest 89 = .ok (.iconst 1, 1) := by decide +kernel
theorem dX10_harvest_90 : decode cX10_harvest 90 = .ok (.iadd, 1) := by decide +kernel
theorem dX10_harvest_91 : decode cX10_harvest 91 = .ok (.goto 4, 3) := by decide +kernel
theorem dX10_harvest_94 : decode cX10_harvest 94 = .ok (.iconst 0, 1) := by decide +kernel
theorem dX10_harvest_95 : decode cX10_harvest 95 = .ok (.istore 4, 2) := by decide +kernel
theorem dX10_harvest_97 : decode cX10_harvest 97 = .ok (.iload 4, 2) := by decide +kernel
theorem dX10_harvest_99 : decode cX10_harvest 99 = .ok (.iload_n 2, 1) := by decide +kernel
theorem dX10_harvest_100 : decode cX10_harvest 100 = .ok (.if_icmp .lt 19, 3) := by decide +kernel
theorem dX10_harvest_103 : decode cX10_harvest 103 = .ok (.iload 5, 2) := by decide +kernel
theorem dX10_harvest_105 : decode cX10_harvest 105 = .ok (.iload_n 2, 1) := by decide +kernel
theorem dX10_harvest_106 : decode cX10_harvest 106 = .ok (.isub, 1) := by decide +kernel
theorem dX10_harvest_107 : decode cX10_harvest 107 = .ok (.bipush 31, 2) := by decide +kernel
theorem dX10_harvest_109 : decode cX10_harvest 109 = .ok (.if_icmp .ge 10, 3) := by decide +kernel
theorem dX10_harvest_112 : decode cX10_harvest 112 = .ok (.iload 5, 2) := by decide +kernel
theorem dX10_harvest_114 : decode cX10_harvest 114 = .ok (.iload_n 2, 1) := by decide +kernel
theorem dX10_harvest_115 : decode cX10_harvest 115 = .ok (.isub, 1) := by decide +kernel
theorem dX10_harvest_116 : decode cX10_harvest 116 = .ok (.goto 4, 3) := by decide +kernel
theorem dX10_harvest_119 : decode cX10_harvest 119 = .ok (.iload_n 3, 1) := by decide +kernel
theorem dX10_harvest_120 : decode cX10_harvest 120 = .ok (.istore_n 3, 1) := by decide +kernel
theorem dX10_harvest_121 : decode cX10_harvest 121 = .ok (.iinc 5 1, 3) := by decide +kernel
theorem dX10_harvest_124 : decode cX10_harvest 124 = .ok (.goto (-79), 3) := by decide +kernel
theorem dX10_harvest_127 : decode cX10_harvest 127 = .ok (.aload_n 0, 1) := by decide +kernel
theorem dX10_harvest_128 : decode cX10_harvest 128 = .ok (.invokevirtual 178, 3) := by decide +kernel
theorem dX10_harvest_131 : decode cX10_harvest 131 = .ok (.iload_n 3, 1) := by decide +kernel
theorem dX10_harvest_132 : decode cX10_harvest 132 = .ok (.ireturn, 1) := by decide +kernel
theorem dX10_isSo_0 : decode cX10_isSo 0 = .ok (.iconst 1, 1) := by decide +kernel
theorem dX10_isSo_1 : decode cX10_isSo 1 = .ok (.istore 4, 2) := by decide +kernel
theorem dX10_isSo_3 : decode cX10_isSo 3 = .ok (.iconst 0, 1) := by decide +kernel
theorem dX10_isSo_4 : decode cX10_isSo 4 = .ok (.istore 5, 2) := by decide +kernel
theorem dX10_isSo_6 : decode cX10_isSo 6 = .ok (.iload 5, 2) := by decide +kernel
theorem dX10_isSo_8 : decode cX10_isSo 8 = .ok (.iload_n 3, 1) := by decide +kernel
theorem dX10_isSo_9 : decode cX10_isSo 9 = .ok (.if_icmp .ge 60, 3) := by decide +kernel
theorem dX10_isSo_12 : decode cX10_isSo 12 = .ok (.aload_n 0, 1) := by decide +kernel
theorem dX10_isSo_13 : decode cX10_isSo 13 = .ok (.getfield 22, 3) := by decide +kernel
theorem dX10_isSo_16 : decode cX10_isSo 16 = .ok (.bipush 29, 2) := by decide +kernel
theorem dX10_isSo_18 : decode cX10_isSo 18 = .ok (.iload_n 1, 1) := by decide +kernel
theorem dX10_isSo_19 : decode cX10_isSo 19 = .ok (.iadd, 1) := by decide +kernel
theorem dX10_isSo_20 : decode cX10_isSo 20 = .ok (.iaload, 1) := by decide +kernel
theorem dX10_isSo_21 : decode cX10_isSo 21 = .ok (.istore 6, 2) := by decide +kernel
theorem dX10_isSo_23 : decode cX10_isSo 23 = .ok (.aload_n 0, 1) := by decide +kernel
theorem dX10_isSo_24 : decode cX10_isSo 24 = .ok (.invokevirtual 153, 3) := by decide +kernel
theorem dX10_isSo_27 : decode cX10_isSo 27 = .ok (.iload 4, 2) := by decide +kernel
theorem dX10_isSo_29 : decode cX10_isSo 29 = .ok (.ifCond .eq 31, 3) := by decide +kernel
theorem dX10_isSo_32 : decode cX10_isSo 32 = .ok (.aload_n 0, 1) := by decide +kernel
theorem dX10_isSo_33 : decode cX10_isSo 33 = .ok (.getfield 22, 3) := by decide +kernel
theorem dX10_isSo_36 : decode cX10_isSo 36 = .ok (.bipush 29, 2) := by decide +kernel
theorem dX10_isSo_38 : decode cX10_isSo 38 = .ok (.iload_n 1, 1) := by decide +kernel
theorem dX10_isSo_39 : decode cX10_isSo 39 = .ok (.iadd, 1) := by decide +kernel
theorem dX10_isSo_40 : decode cX10_isSo 40 = .ok (.iaload, 1) := by decide +kernel
theorem dX10_isSo_41 : decode cX10_isSo 41 = .ok (.iload 6, 2) := by decide +kernel
theorem dX10_isSo_43 : decode cX10_isSo 43 = .ok (.isub, 1) := by decide +kernel
theorem dX10_isSo_44 : decode cX10_isSo 44 = .ok (.aload_n 0, 1) := by decide +kernel
theorem dX10_isSo_45 : decode cX10_isSo 45 = .ok (.getfield 16, 3) := by decide +kernel
theorem dX10_isSo_48 : decode cX10_isSo 48 = .ok (.iload_n 2, 1) := by decide +kernel
theorem dX10_isSo_49 : decode cX10_isSo 49 = .ok (.iload 5, 2) := by decide +kernel
theorem dX10_isSo_51 : decode cX10_isSo 51 = .ok (.iadd, 1) := by decide +kernel
theorem dX10_isSo_52 : decode cX10_isSo 52 = .ok (.iaload, 1) := by decide +kernel
theorem dX10_isSo_53 : decode cX10_isSo 53 = .ok (.if_icmp .ne 7, 3) := by decide +kernel
theorem dX10_isSo_56 : decode cX10_isSo 56 = .ok (.iconst 1, 1) := by decide +kernel
theorem dX10_isSo_57 : decode cX10_isSo 57 = .ok (.goto 4, 3) := by decide +kernel
theorem dX10_isSo_60 : decode cX10_isSo 60 = .ok (.iconst 0, 1) := by decide +kernel
theorem dX10_isSo_61 : decode cX10_isSo 61 = .ok (.istore 4, 2) := by decide +kernel
theorem dX10_isSo_63 : decode cX10_isSo 63 = .ok (.iinc 5 1, 3) := by decide +kernel
theorem dX10_isSo_66 : decode cX10_isSo 66 = .ok (.goto (-60), 3) := by decide +kernel
theorem dX10_isSo_69 : decode cX10_isSo 69 = .ok (.aload_n 0, 1) := by decide +kernel
theorem dX10_isSo_70 : decode cX10_isSo 70 = .ok (.invokevirtual 178, 3) := by decide +kernel
theorem dX10_isSo_73 : decode cX10_isSo 73 = .ok (.iload 4, 2) := by decide +kernel
theorem dX10_isSo_75 : decode cX10_isSo 75 = .ok (.ireturn, 1) := by decide +kernel
theorem dX10_canSee_0 : decode cX10_canSee 0 = .ok (.aload_n 0, 1) := by decide +kernel
theorem dX10_canSee_1 : decode cX10_canSee 1 = .ok (.iload_n 1, 1) := by decide +kernel
theorem dX10_canSee_2 : decode cX10_canSee 2 = .ok (.invokevirtual 156, 3) := by decide +kernel
theorem dX10_canSee_5 : decode cX10_canSee 5 = .ok (.ifCond .eq 34, 3) := by decide +kernel
theorem dX10_canSee_8 : decode cX10_canSee 8 = .ok (.iload_n 2, 1) := by decide +kernel
theorem dX10_canSee_9 : decode cX10_canSee 9 = .ok (.invokestatic 163, 3) := by decide +kernel
theorem dX10_canSee_12 : decode cX10_canSee 12 = .ok (.ifCond .eq 27, 3) := by decide +kernel
theorem dX10_canSee_15 : decode cX10_canSee 15 = .ok (.iload_n 3, 1) := by decide +kernel
theorem dX10_canSee_16 : decode cX10_canSee 16 = .ok (.invokestatic 54, 3) := by decide +kernel
theorem dX10_canSee_19 : decode cX10_canSee 19 = .ok (.ifCond .eq 20, 3) := by decide +kernel
theorem dX10_canSee_22 : decode cX10_canSee 22 = .ok (.iload 4, 2) := by decide +kernel
theorem dX10_canSee_24 : decode cX10_canSee 24 = .ok (.i2l, 1) := by decide +kernel
theorem dX10_canSee_25 : decode cX10_canSee 25 = .ok (.lconst 1, 1) := by decide +kernel
theorem dX10_canSee_26 : decode cX10_canSee 26 = .ok (.ldc2_w 186, 3) := by decide +kernel
theorem dX10_canSee_29 : decode cX10_canSee 29 = .ok (.invokestatic 50, 3) := by decide +kernel
theorem dX10_canSee_32 : decode cX10_canSee 32 = .ok (.ifCond .eq 7, 3) := by decide +kernel
theorem dX10_canSee_35 : decode cX10_canSee 35 = .ok (.iconst 1, 1) := by decide +kernel
theorem dX10_canSee_36 : decode cX10_canSee 36 = .ok (.goto 4, 3) := by decide +kernel
theorem dX10_canSee_39 : decode cX10_canSee 39 = .ok (.iconst 0, 1) := by decide +kernel
theorem dX10_canSee_40 : decode cX10_canSee 40 = .ok (.ireturn, 1) := by decide +kernel
theorem dX10_who_0 : decode cX10_who 0 = .ok (.aload_n 0, 1) := by decide +kernel
theorem dX10_who_1 : decode cX10_who 1 = .ok (.iload_n 1, 1) := by decide +kernel
theorem dX10_who_2 : decode cX10_who 2 = .ok (.iload_n 2, 1) := by decide +kernel
theorem dX10_who_3 : decode cX10_who 3 = .ok (.iload_n 3, 1) := by decide +kernel
theorem dX10_who_4 : decode cX10_who 4 = .ok (.iload 5, 2) := by decide +kernel
theorem dX10_who_6 : decode cX10_who 6 = .ok (.invokevirtual 188, 3) := by decide +kernel
theorem dX10_who_9 : decode cX10_who 9 = .ok (.ifCond .ne 6, 3) := by decide +kernel
theorem dX10_who_12 : decode cX10_who 12 = .ok (.ldc 60, 2) := by decide +kernel
theorem dX10_who_14 : decode cX10_who 14 = .ok (.ireturn, 1) := by decide +kernel
theorem dX10_who_15 : decode cX10_who 15 = .ok (.aload_n 0, 1) := by decide +kernel
theorem dX10_who_16 : decode cX10_who 16 = .ok (.iload_n 3, 1) := by decide +kernel
theorem dX10_who_17 : decode cX10_who 17 = .ok (.iload 4, 2) := by decide +kernel
theorem dX10_who_19 : decode cX10_who 19 = .ok (.iload 5, 2) := by decide +kernel
theorem dX10_who_21 : decode cX10_who 21 = .ok (.invokevirtual 192, 3) := by decide +kernel
theorem dX10_who_24 : decode cX10_who 24 = .ok (.istore 6, 2) := by decide +kernel
theorem dX10_who_26 : decode cX10_who 26 = .ok (.iload 6, 2) := by decide +kernel
theorem dX10_who_28 : decode cX10_who 28 = .ok (.ifCond .le 10, 3) := by decide +kernel
theorem dX10_who_31 : decode cX10_who 31 = .ok (.aload_n 0, 1) := by decide +kernel
theorem dX10_who_32 : decode cX10_who 32 = .ok (.iload 6, 2) := by decide +kernel
theorem dX10_who_34 : decode cX10_who 34 = .ok (.invokevirtual 61, 3) := by decide +kernel
theorem dX10_who_37 : decode cX10_who 37 = .ok (.ireturn, 1) := by decide +kernel
theorem dX10_who_38 : decode cX10_who 38 = .ok (.aload_n 0, 1) := by decide +kernel
theorem dX10_who_39 : decode cX10_who 39 = .ok (.invokevirtual 171, 3) := by decide +kernel
theorem dX10_who_42 : decode cX10_who 42 = .ok (.iconst 0, 1) := by decide +kernel
theorem dX10_who_43 : decode cX10_who 43 = .ok (.istore 7, 2) := by decide +kernel
theorem dX10_who_45 : decode cX10_who 45 = .ok (.iconst 1, 1) := by decide +kernel
theorem dX10_who_46 : decode cX10_who 46 = .ok (.istore 8, 2) := by decide +kernel
theorem dX10_who_48 : decode cX10_who 48 = .ok (.iload 8, 2) := by decide +kernel
theorem dX10_who_50 : decode cX10_who 50 = .ok (.bipush 6, 2) := by decide +kernel
theorem dX10_who_52 : decode cX10_who 52 = .ok (.if_icmp .ge 51, 3) := by decide +kernel
theorem dX10_who_55 : decode cX10_who 55 = .ok (.aload_n 0, 1) := by decide +kernel
theorem dX10_who_56 : decode cX10_who 56 = .ok (.getfield 22, 3) := by decide +kernel
theorem dX10_who_59 : decode cX10_who 59 = .ok (.iconst 4, 1) := by decide +kernel
theorem dX10_who_60 : decode cX10_who 60 = .ok (.iconst 5, 1) := by decide +kernel
theorem dX10_who_61 : decode cX10_who 61 = .ok (.iload_n 1, 1) := by decide +kernel
theorem dX10_who_62 : decode cX10_who 62 = .ok (.imul, 1) := by decide +kernel
theorem dX10_who_63 : decode cX10_who 63 = .ok (.iadd, 1) := by decide +kernel
theorem dX10_who_64 : decode cX10_who 64 = .ok (.iload 8, 2) := by decide +kernel
theorem dX10_who_66 : decode cX10_who 66 = .ok (.iastore, 1) := by decide +kernel
theorem dX10_who_67 : decode cX10_who 67 = .ok (.iload 7, 2) := by decide +kernel
theorem dX10_who_69 : decode cX10_who 69 = .ok (.aload_n 0, 1) := by decide +kernel
theorem dX10_who_70 : decode cX10_who 70 = .ok (.iload_n 2, 1) := by decide +kernel
theorem dX10_who_71 : decode cX10_who 71 = .ok (.bipush 40, 2) := by decide +kernel
theorem dX10_who_73 : decode cX10_who 73 = .ok (.iload_n 3, 1) := by decide +kernel
theorem dX10_who_74 : decode cX10_who 74 = .ok (.imul, 1) := by decide +kernel
theorem dX10_who_75 : decode cX10_who 75 = .ok (.iload 4, 2) := by decide +kernel
theorem dX10_who_77 : decode cX10_who 77 = .ok (.iadd, 1) := by decide +kernel
theorem dX10_who_78 : decode cX10_who 78 = .ok (.iload 5, 2) := by decide +kernel
theorem dX10_who_80 : decode cX10_who 80 = .ok (.invokevirtual 196, 3) := by decide +kernel
theorem dX10_who_83 : decode cX10_who 83 = .ok (.ifCond .eq 10, 3) := by decide +kernel
theorem dX10_who_86 : decode cX10_who 86 = .ok (.iconst 1, 1) := by decide +kernel
theorem dX10_who_87 : decode cX10_who 87 = .ok (.iload 8, 2) := by decide +kernel
theorem dX10_who_89 : decode cX10_who 89 = .ok (.ishl, 1) := by decide +kernel
theorem dX10_who_90 : decode cX10_who 90 = .ok (.goto 4, 3) := by decide +kernel
theorem dX10_who_93 : decode cX10_who 93 = .ok (.iconst 0, 1) := by decide +kernel
theorem dX10_who_94 : decode cX10_who 94 = .ok (.ior, 1) := by decide +kernel
theorem dX10_who_95 : decode cX10_who 95 = .ok (.istore 7, 2) := by decide +kernel
theorem dX10_who_97 : decode cX10_who 97 = .ok (.iinc 8 1, 3) := by decide +kernel
theorem dX10_who_100 : decode cX10_who 100 = .ok (.goto (-52), 3) := by decide +kernel
theorem dX10_who_103 : decode cX10_who 103 = .ok (.aload_n 0, 1) := by decide +kernel
theorem dX10_who_104 : decode cX10_who 104 = .ok (.iload 7, 2) := by decide +kernel
theorem dX10_who_106 : decode cX10_who 106 = .ok (.invokevirtual 65, 3) := by decide +kernel
theorem dX10_who_109 : decode cX10_who 109 = .ok (.ireturn, 1) := by decide +kernel
theorem dX10_places_0 : decode cX10_places 0 = .ok (.aload_n 0, 1) := by decide +kernel
theorem dX10_places_1 : decode cX10_places 1 = .ok (.iload_n 1, 1) := by decide +kernel
theorem dX10_places_2 : decode cX10_places 2 = .ok (.iload_n 2, 1) := by decide +kernel
theorem dX10_places_3 : decode cX10_places 3 = .ok (.iload_n 3, 1) := by decide +kernel
theorem dX10_places_4 : decode cX10_places 4 = .ok (.iload 5, 2) := by decide +kernel
theorem dX10_places_6 : decode cX10_places 6 = .ok (.invokevirtual 188, 3) := by decide +kernel
theorem dX10_places_9 : decode cX10_places 9 = .ok (.ifCond .ne 6, 3) := by decide +kernel
theorem dX10_places_12 : decode cX10_places 12 = .ok (.ldc 60, 2) := by decide +kernel
theorem dX10_places_14 : decode cX10_places 14 = .ok (.ireturn, 1) := by decide +kernel
theorem dX10_places_15 : decode cX10_places 15 = .ok (.aload_n 0, 1) := by decide +kernel
theorem dX10_places_16 : decode cX10_places 16 = .ok (.iload_n 3, 1) := by decide +kernel
theorem dX10_places_17 : decode cX10_places 17 = .ok (.iload 4, 2) := by decide +kernel
theorem dX10_places_19 : decode cX10_places 19 = .ok (.iload 5, 2) := by decide +kernel
theorem dX10_places_21 : decode cX10_places 21 = .ok (.invokevirtual 192, 3) := by decide +kernel
theorem dX10_places_24 : decode cX10_places 24 = .ok (.istore 6, 2) := by decide +kernel
theorem dX10_places_26 : decode cX10_places 26 = .ok (.iload 6, 2) := by decide +kernel
theorem dX10_places_28 : decode cX10_places 28 = .ok (.ifCond .le 10, 3) := by decide +kernel
theorem dX10_places_31 : decode cX10_places 31 = .ok (.aload_n 0, 1) := by decide +kernel
theorem dX10_places_32 : decode cX10_places 32 = .ok (.iload 6, 2) := by decide +kernel
theorem dX10_places_34 : decode cX10_places 34 = .ok (.invokevirtual 61, 3) := by decide +kernel
theorem dX10_places_37 : decode cX10_places 37 = .ok (.ireturn, 1) := by decide +kernel
theorem dX10_places_38 : decode cX10_places 38 = .ok (.aload_n 0, 1) := by decide +kernel
theorem dX10_places_39 : decode cX10_places 39 = .ok (.iload_n 1, 1) := by decide +kernel
theorem dX10_places_40 : decode cX10_places 40 = .ok (.invokevirtual 129, 3) := by decide +kernel
theorem dX10_places_43 : decode cX10_places 43 = .ok (.ifCond .eq 6, 3) := by decide +kernel
theorem dX10_places_46 : decode cX10_places 46 = .ok (.ldc 144, 2) := by decide +kernel
theorem dX10_places_48 : decode cX10_places 48 = .ok (.ireturn, 1) := by decide +kernel
theorem dX10_places_49 : decode cX10_places 49 = .ok (.aload_n 0, 1) := by decide +kernel
theorem dX10_places_50 : decode cX10_places 50 = .ok (.invokevirtual 171, 3) := by decide +kernel
theorem dX10_places_53 : decode cX10_places 53 = .ok (.iconst 0, 1) := by decide +kernel
theorem dX10_places_54 : decode cX10_places 54 = .ok (.istore 7, 2) := by decide +kernel
theorem dX10_places_56 : decode cX10_places 56 = .ok (.iconst 0, 1) := by decide +kernel
theorem dX10_places_57 : decode cX10_places 57 = .ok (.istore 8, 2) := by decide +kernel
theorem dX10_places_59 : decode cX10_places 59 = .ok (.iload 8, 2) := by decide +kernel
theorem dX10_places_61 : decode cX10_places 61 = .ok (.bipush 16, 2) := by decide +kernel
theorem dX10_places_63 : decode cX10_places 63 = .ok (.if_icmp .ge 53, 3) := by decide +kernel
theorem dX10_places_66 : decode cX10_places 66 = .ok (.aload_n 0, 1) := by decide +kernel
theorem dX10_places_67 : decode cX10_places 67 = .ok (.getfield 22, 3) := by decide +kernel
theorem dX10_places_70 : decode cX10_places 70 = .ok (.iconst 4, 1) := by decide +kernel
theorem dX10_places_71 : decode cX10_places 71 = .ok (.iconst 5, 1) := by decide +kernel
theorem dX10_places_72 : decode cX10_places 72 = .ok (.iload_n 1, 1) := by decide +kernel
theorem dX10_places_73 : decode cX10_places 73 = .ok (.imul, 1) := by decide +kernel
theorem dX10_places_74 : decode cX10_places 74 = .ok (.iadd, 1) := by decide +kernel
theorem dX10_places_75 : decode cX10_places 75 = .ok (.iconst 1, 1) := by decide +kernel
theorem dX10_places_76 : decode cX10_places 76 = .ok (.iadd, 1) := by decide +kernel
theorem dX10_places_77 : decode cX10_places 77 = .ok (.iload 8, 2) := by decide +kernel
theorem dX10_places_79 : decode cX10_places 79 = .ok (.iastore, 1) := by decide +kernel
theorem dX10_places_80 : decode cX10_places 80 = .ok (.iload 7, 2) := by decide +kernel
theorem dX10_places_82 : decode cX10_places 82 = .ok (.aload_n 0, 1) := by decide +kernel
theorem dX10_places_83 : decode cX10_places 83 = .ok (.iload_n 2, 1) := by decide +kernel
theorem dX10_places_84 : decode cX10_places 84 = .ok (.bipush 40, 2) := by decide +kernel
theorem dX10_places_86 : decode cX10_places 86 = .ok (.iload_n 3, 1) := by decide +kernel
theorem dX10_places_87 : decode cX10_places 87 = .ok (.imul, 1) := by decide +kernel
theorem dX10_places_88 : decode cX10_places 88 = .ok (.iload 4, 2) := by decide +kernel
theorem dX10_places_90 : decode cX10_places 90 = .ok (.iadd, 1) := by decide +kernel
theorem dX10_places_91 : decode cX10_places 91 = .ok (.iload 5, 2) := by decide +kernel
theorem dX10_places_93 : decode cX10_places 93 = .ok (.invokevirtual 196, 3) := by decide +kernel
theorem dX10_places_96 : decode cX10_places 96 = .ok (.ifCond .eq 10, 3) := by decide +kernel
theorem dX10_places_99 : decode cX10_places 99 = .ok (.iconst 1, 1) := by decide +kernel
theorem dX10_places_100 : decode cX10_places 100 = .ok (.iload 8, 2) := by decide +kernel
theorem dX10_places_102 : decode cX10_places 102 = .ok (.ishl, 1) := by decide +kernel
theorem dX10_places_103 : decode cX10_places 103 = .ok (.goto 4, 3) := by decide +kernel
theorem dX10_places_106 : decode cX10_places 106 = .ok (.iconst 0, 1) := by decide +kernel
theorem dX10_places_107 : decode cX10_places 107 = .ok (.ior, 1) := by decide +kernel
theorem dX10_places_108 : decode cX10_places 108 = .ok (.istore 7, 2) := by decide +kernel
theorem dX10_places_110 : decode cX10_places 110 = .ok (.iinc 8 1, 3) := by decide +kernel
theorem dX10_places_113 : decode cX10_places 113 = .ok (.goto (-54), 3) := by decide +kernel
theorem dX10_places_116 : decode cX10_places 116 = .ok (.aload_n 0, 1) := by decide +kernel
theorem dX10_places_117 : decode cX10_places 117 = .ok (.iload 7, 2) := by decide +kernel
theorem dX10_places_119 : decode cX10_places 119 = .ok (.invokevirtual 65, 3) := by decide +kernel
theorem dX10_places_122 : decode cX10_places 122 = .ok (.ireturn, 1) := by decide +kernel
theorem dX10_from_0 : decode cX10_from 0 = .ok (.aload_n 0, 1) := by decide +kernel
theorem dX10_from_1 : decode cX10_from 1 = .ok (.iload_n 1, 1) := by decide +kernel
theorem dX10_from_2 : decode cX10_from 2 = .ok (.invokevirtual 156, 3) := by decide +kernel
theorem dX10_from_5 : decode cX10_from 5 = .ok (.ifCond .eq 15, 3) := by decide +kernel
theorem dX10_from_8 : decode cX10_from 8 = .ok (.iload_n 2, 1) := by decide +kernel
theorem dX10_from_9 : decode cX10_from 9 = .ok (.i2l, 1) := by decide +kernel
theorem dX10_from_10 : decode cX10_from 10 = .ok (.lconst 0, 1) := by decide +kernel
theorem dX10_from_11 : decode cX10_from 11 = .ok (.ldc2_w 169, 3) := by decide +kernel
theorem dX10_from_14 : decode cX10_from 14 = .ok (.invokestatic 50, 3) := by decide +kernel
theorem dX10_from_17 : decode cX10_from 17 = .ok (.ifCond .ne 6, 3) := by decide +kernel
theorem dX10_from_20 : decode cX10_from 20 = .ok (.ldc 60, 2) := by decide +kernel
theorem dX10_from_22 : decode cX10_from 22 = .ok (.ireturn, 1) := by decide +kernel
theorem dX10_from_23 : decode cX10_from 23 = .ok (.aload_n 0, 1) := by decide +kernel
theorem dX10_from_24 : decode cX10_from 24 = .ok (.iload_n 1, 1) := by decide +kernel
theorem dX10_from_25 : decode cX10_from 25 = .ok (.invokevirtual 129, 3) := by decide +kernel
theorem dX10_from_28 : decode cX10_from 28 = .ok (.ifCond .eq 6, 3) := by decide +kernel
theorem dX10_from_31 : decode cX10_from 31 = .ok (.ldc 144, 2) := by decide +kernel
theorem dX10_from_33 : decode cX10_from 33 = .ok (.ireturn, 1) := by decide +kernel
theorem dX10_from_34 : decode cX10_from 34 = .ok (.aload_n 0, 1) := by decide +kernel
theorem dX10_from_35 : decode cX10_from 35 = .ok (.iload_n 1, 1) := by decide +kernel
theorem dX10_from_36 : decode cX10_from 36 = .ok (.iconst 0, 1) := by decide +kernel
theorem dX10_from_37 : decode cX10_from 37 = .ok (.invokevirtual 126, 3) := by decide +kernel
theorem dX10_from_40 : decode cX10_from 40 = .ok (.iconst 3, 1) := by decide +kernel
theorem dX10_from_41 : decode cX10_from 41 = .ok (.if_icmp .le 7, 3) := by decide +kernel
theorem dX10_from_44 : decode cX10_from 44 = .ok (.iconst 0, 1) := by decide +kernel
theorem dX10_from_45 : decode cX10_from 45 = .ok (.goto 25, 3) := by decide +kernel
theorem dX10_from_48 : decode cX10_from 48 = .ok (.aload_n 0, 1) := by decide +kernel
theorem dX10_from_49 : decode cX10_from 49 = .ok (.getfield 22, 3) := by decide +kernel
theorem dX10_from_52 : decode cX10_from 52 = .ok (.iconst 1, 1) := by decide +kernel
theorem dX10_from_53 : decode cX10_from 53 = .ok (.iaload, 1) := by decide +kernel
theorem dX10_from_54 : decode cX10_from 54 = .ok (.aload_n 0, 1) := by decide +kernel
theorem dX10_from_55 : decode cX10_from 55 = .ok (.iload_n 1, 1) := by decide +kernel
theorem dX10_from_56 : decode cX10_from 56 = .ok (.iconst 0, 1) := by decide +kernel
theorem dX10_from_57 : decode cX10_from 57 = .ok (.invokevirtual 126, 3) := by decide +kernel
theorem dX10_from_60 : decode cX10_from 60 = .ok (.iconst 2, 1) := by decide +kernel
theorem dX10_from_61 : decode cX10_from 61 = .ok (.if_icmp .ne 7, 3) := by decide +kernel
theorem dX10_from_64 : decode cX10_from 64 = .ok (.iconst 1, 1) := by decide +kernel
theorem dX10_from_65 : decode cX10_from 65 = .ok (.goto 4, 3) := by decide +kernel
theorem dX10_from_68 : decode cX10_from 68 = .ok (.iconst 0, 1) := by decide +kernel
theorem dX10_from_69 : decode cX10_from 69 = .ok (.iadd, 1) := by decide +kernel
theorem dX10_from_70 : decode cX10_from 70 = .ok (.istore_n 3, 1) := by decide +kernel
theorem dX10_from_71 : decode cX10_from 71 = .ok (.aload_n 0, 1) := by decide +kernel
theorem dX10_from_72 : decode cX10_from 72 = .ok (.iload_n 1, 1) := by decide +kernel
theorem dX10_from_73 : decode cX10_from 73 = .ok (.iconst 1, 1) := by decide +kernel
theorem dX10_from_74 : decode cX10_from 74 = .ok (.invokevirtual 126, 3) := by decide +kernel
theorem dX10_from_77 : decode cX10_from 77 = .ok (.iload_n 2, 1) := by decide +kernel
theorem dX10_from_78 : decode cX10_from 78 = .ok (.bipush 16, 2) := by decide +kernel
theorem dX10_from_80 : decode cX10_from 80 = .ok (.iload_n 3, 1) := by decide +kernel
theorem dX10_from_81 : decode cX10_from 81 = .ok (.isub, 1) := by decide +kernel
theorem dX10_from_82 : decode cX10_from 82 = .ok (.imul, 1) := by decide +kernel
theorem dX10_from_83 : decode cX10_from 83 = .ok (.iadd, 1) := by decide +kernel
theorem dX10_from_84 : decode cX10_from 84 = .ok (.bipush 16, 2) := by decide +kernel
theorem dX10_from_86 : decode cX10_from 86 = .ok (.irem, 1) := by decide +kernel
theorem dX10_from_87 : decode cX10_from 87 = .ok (.ireturn, 1) := by decide +kernel
theorem dX10_alike_0 : decode cX10_alike 0 = .ok (.aload_n 0, 1) := by decide +kernel
theorem dX10_alike_1 : decode cX10_alike 1 = .ok (.getfield 117, 3) := by decide +kernel
theorem dX10_alike_4 : decode cX10_alike 4 = .ok (.ifCond .ne 6, 3) := by decide +kernel
theorem dX10_alike_7 : decode cX10_alike 7 = .ok (.ldc 144, 2) := by decide +kernel
theorem dX10_alike_9 : decode cX10_alike 9 = .ok (.ireturn, 1) := by decide +kernel
theorem dX10_alike_10 : decode cX10_alike 10 = .ok (.iload_n 1, 1) := by decide +kernel
theorem dX10_alike_11 : decode cX10_alike 11 = .ok (.i2l, 1) := by decide +kernel
theorem dX10_alike_12 : decode cX10_alike 12 = .ok (.lconst 0, 1) := by decide +kernel
theorem dX10_alike_13 : decode cX10_alike 13 = .ok (.lconst 1, 1) := by decide +kernel
theorem dX10_alike_14 : decode cX10_alike 14 = .ok (.invokestatic 50, 3) := by decide +kernel
theorem dX10_alike_17 : decode cX10_alike 17 = .ok (.ifCond .ne 6, 3) := by decide +kernel
theorem dX10_alike_20 : decode cX10_alike 20 = .ok (.ldc 60, 2) := by decide +kernel
theorem dX10_alike_22 : decode cX10_alike 22 = .ok (.ireturn, 1) := by decide +kernel
theorem dX10_alike_23 : decode cX10_alike 23 = .ok (.iconst 0, 1) := by decide +kernel
theorem dX10_alike_24 : decode cX10_alike 24 = .ok (.istore_n 2, 1) := by decide +kernel
theorem dX10_alike_25 : decode cX10_alike 25 = .ok (.ldc 177, 2) := by decide +kernel
theorem dX10_alike_27 : decode cX10_alike 27 = .ok (.istore_n 3, 1) := by decide +kernel
theorem dX10_alike_28 : decode cX10_alike 28 = .ok (.iconst 0, 1) := by decide +kernel
theorem dX10_alike_29 : decode cX10_alike 29 = .ok (.istore 4, 2) := by decide +kernel
theorem dX10_alike_31 : decode cX10_alike 31 = .ok (.iload 4, 2) := by decide +kernel
theorem dX10_alike_33 : decode cX10_alike 33 = .ok (.aload_n 0, 1) := by decide +kernel
theorem dX10_alike_34 : decode cX10_alike 34 = .ok (.getfield 22, 3) := by decide +kernel
theorem dX10_alike_37 : decode cX10_alike 37 = .ok (.iconst 0, 1) := by decide +kernel
theorem dX10_alike_38 : decode cX10_alike 38 = .ok (.iaload, 1) := by decide +kernel
theorem dX10_alike_39 : decode cX10_alike 39 = .ok (.if_icmp .ge 143, 3) := by decide +kernel
theorem dX10_alike_42 : decode cX10_alike 42 = .ok (.iload 4, 2) := by decide +kernel
theorem dX10_alike_44 : decode cX10_alike 44 = .ok (.iconst 1, 1) := by decide +kernel
theorem dX10_alike_45 : decode cX10_alike 45 = .ok (.iadd, 1) := by decide +kernel
theorem dX10_alike_46 : decode cX10_alike 46 = .ok (.istore 5, 2) := by decide +kernel
theorem dX10_alike_48 : decode cX10_alike 48 = .ok (.iload 5, 2) := by decide +kernel
theorem dX10_alike_50 : decode cX10_alike 50 = .ok (.aload_n 0, 1) := by decide +kernel
theorem dX10_alike_51 : decode cX10_alike 51 = .ok (.getfield 22, 3) := by decide +kernel
theorem dX10_alike_54 : decode cX10_alike 54 = .ok (.iconst 0, 1) := by decide +kernel
theorem dX10_alike_55 : decode cX10_alike 55 = .ok (.iaload, 1) := by decide +kernel
theorem dX10_alike_56 : decode cX10_alike 56 = .ok (.if_icmp .ge 120, 3) := by decide +kernel
theorem dX10_alike_59 : decode cX10_alike 59 = .ok (.aload_n 0, 1) := by decide +kernel
theorem dX10_alike_60 : decode cX10_alike 60 = .ok (.iload 4, 2) := by decide +kernel
theorem dX10_alike_62 : decode cX10_alike 62 = .ok (.invokevirtual 129, 3) := by decide +kernel
theorem dX10_alike_65 : decode cX10_alike 65 = .ok (.ifCond .ne 67, 3) := by decide +kernel
theorem dX10_alike_68 : decode cX10_alike 68 = .ok (.aload_n 0, 1) := by decide +kernel
theorem dX10_alike_69 : decode cX10_alike 69 = .ok (.iload 5, 2) := by decide +kernel
theorem dX10_alike_71 : decode cX10_alike 71 = .ok (.invokevirtual 129, 3) := by decide +kernel
theorem dX10_alike_74 : decode cX10_alike 74 = .ok (.ifCond .ne 58, 3) := by decide +kernel
theorem dX10_alike_77 : decode cX10_alike 77 = .ok (.aload_n 0, 1) := by decide +kernel
theorem dX10_alike_78 : decode cX10_alike 78 = .ok (.iload 4, 2) := by decide +kernel
theorem dX10_alike_80 : decode cX10_alike 80 = .ok (.iconst 4, 1) := by decide +kernel
theorem dX10_alike_81 : decode cX10_alike 81 = .ok (.invokevirtual 126, 3) := by decide +kernel
theorem dX10_alike_84 : decode cX10_alike 84 = .ok (.aload_n 0, 1) := by decide +kernel
theorem dX10_alike_85 : decode cX10_alike 85 = .ok (.iload 5, 2) := by decide +kernel
theorem dX10_alike_87 : decode cX10_alike 87 = .ok (.iconst 4, 1) := by decide +kernel
theorem dX10_alike_88 : decode cX10_alike 88 = .ok (.invokevirtual 126, 3) := by decide +kernel
theorem dX10_alike_91 : decode cX10_alike 91 = .ok (.if_icmp .eq 41, 3) := by decide +kernel
theorem dX10_alike_94 : decode cX10_alike 94 = .ok (.aload_n 0, 1) := by decide +kernel
theorem dX10_alike_95 : decode cX10_alike 95 = .ok (.iload 4, 2) := by decide +kernel
theorem dX10_alike_97 : decode cX10_alike 97 = .ok (.iconst 0, 1) := by decide +kernel
theorem dX10_alike_98 : decode cX10_alike 98 = .ok (.invokevirtual 126, 3) := by decide +kernel
theorem dX10_alike_101 : decode cX10_alike 101 = .ok (.aload_n 0, 1) := by decide +kernel
theorem dX10_alike_102 : decode cX10_alike 102 = .ok (.iload 5, 2) := by decide +kernel
theorem dX10_alike_104 : decode cX10_alike 104 = .ok (.iconst 0, 1) := by decide +kernel
theorem dX10_alike_105 : decode cX10_alike 105 = .ok (.invokevirtual 126, 3) := by decide +kernel
theorem dX10_alike_108 : decode cX10_alike 108 = .ok (.if_icmp .ne 24, 3) := by decide +kernel
theorem dX10_alike_111 : decode cX10_alike 111 = .ok (.aload_n 0, 1) := by decide +kernel
theorem dX10_alike_112 : decode cX10_alike 112 = .ok (.iload 4, 2) := by decide +kernel
theorem dX10_alike_114 : decode cX10_alike 114 = .ok (.iconst 2, 1) := by decide +kernel
theorem dX10_alike_115 : decode cX10_alike 115 = .ok (.invokevirtual 126, 3) := by decide +kernel
theorem dX10_alike_118 : decode cX10_alike 118 = .ok (.aload_n 0, 1) := by decide +kernel
theorem dX10_alike_119 : decode cX10_alike 119 = .ok (.iload 5, 2) := by decide +kernel
theorem dX10_alike_121 : decode cX10_alike 121 = .ok (.iconst 2, 1) := by decide +kernel
theorem dX10_alike_122 : decode cX10_alike 122 = .ok (.invokevirtual 126, 3) := by decide +kernel
theorem dX10_alike_125 : decode cX10_alike 125 = .ok (.if_icmp .ne 7, 3) := by decide +kernel
theorem dX10_alike_128 : decode cX10_alike 128 = .ok (.iconst 1, 1) := by decide +kernel
theorem dX10_alike_129 : decode cX10_alike 129 = .ok (.goto 4, 3) := by decide +kernel
theorem dX10_alike_132 : decode cX10_alike 132 = .ok (.iconst 0, 1) := by decide +kernel
theorem dX10_alike_133 : decode cX10_alike 133 = .ok (.istore 6, 2) := by decide +kernel
theorem dX10_alike_135 : decode cX10_alike 135 = .ok (.iload 6, 2) := by decide +kernel
theorem dX10_alike_137 : decode cX10_alike 137 = .ok (.ifCond .eq 18, 3) := by decide +kernel
theorem dX10_alike_140 : decode cX10_alike 140 = .ok (.iload_n 2, 1) := by decide +kernel
theorem dX10_alike_141 : decode cX10_alike 141 = .ok (.ifCond .ne 14, 3) := by decide +kernel
theorem dX10_alike_144 : decode cX10_alike 144 = .ok (.bipush 10, 2) := by decide +kernel
theorem dX10_alike_146 : decode cX10_alike 146 = .ok (.iload 4, 2) := by decide +kernel
theorem dX10_alike_148 : decode cX10_alike 148 = .ok (.imul, 1) := by decide +kernel
theorem dX10_alike_149 : decode cX10_alike 149 = .ok (.iload 5, 2) := by decide +kernel
theorem dX10_alike_151 : decode cX10_alike 151 = .ok (.iadd, 1) := by decide +kernel
theorem dX10_alike_152 : decode cX10_alike 152 = .ok (.goto 4, 3) := by decide +kernel
theorem dX10_alike_155 : decode cX10_alike 155 = .ok (.iload_n 3, 1) := by decide +kernel
theorem dX10_alike_156 : decode cX10_alike 156 = .ok (.istore_n 3, 1) := by decide +kernel
theorem dX10_alike_157 : decode cX10_alike 157 = .ok (.iload_n 2, 1) := by decide +kernel
theorem dX10_alike_158 : decode cX10_alike 158 = .ok (.iload 6, 2) := by decide +kernel
theorem dX10_alike_160 : decode cX10_alike 160 = .ok (.ifCond .eq 7, 3) := by decide +kernel
theorem dX10_alike_163 : decode cX10_alike 163 = .ok (.iconst 1, 1) := by decide +kernel
theorem dX10_alike_164 : decode cX10_alike 164 = .ok (.goto 4, 3) := by decide +kernel
theorem dX10_alike_167 : decode cX10_alike 167 = .ok (.iconst 0, 1) := by decide +kernel
theorem dX10_alike_168 : decode cX10_alike 168 = .ok (.iadd, 1) := by decide +kernel
theorem dX10_alike_169 : decode cX10_alike 169 = .ok (.istore_n 2, 1) := by decide +kernel
theorem dX10_alike_170 : decode cX10_alike 170 = .ok (.iinc 5 1, 3) := by decide +kernel
theorem dX10_alike_173 : decode cX10_alike 173 = .ok (.goto (-125), 3) := by decide +kernel
theorem dX10_alike_176 : decode cX10_alike 176 = .ok (.iinc 4 1, 3) := by decide +kernel
theorem dX10_alike_179 : decode cX10_alike 179 = .ok (.goto (-148), 3) := by decide +kernel
theorem dX10_alike_182 : decode cX10_alike 182 = .ok (.iload_n 1, 1) := by decide +kernel
theorem dX10_alike_183 : decode cX10_alike 183 = .ok (.ifCond .ne 7, 3) := by decide +kernel
theorem dX10_alike_186 : decode cX10_alike 186 = .ok (.iload_n 2, 1) := by decide +kernel
theorem dX10_alike_187 : decode cX10_alike 187 = .ok (.goto 4, 3) := by decide +kernel
theorem dX10_alike_190 : decode cX10_alike 190 = .ok (.iload_n 3, 1) := by decide +kernel
theorem dX10_alike_191 : decode cX10_alike 191 = .ok (.ireturn, 1) := by decide +kernel
theorem dX10_apart_0 : decode cX10_apart 0 = .ok (.iload_n 0, 1) := by decide +kernel
theorem dX10_apart_1 : decode cX10_apart 1 = .ok (.iload_n 1, 1) := by decide +kernel
theorem dX10_apart_2 : decode cX10_apart 2 = .ok (.if_icmp .le 9, 3) := by decide +kernel
theorem dX10_apart_5 : decode cX10_apart 5 = .ok (.iload_n 0, 1) := by decide +kernel
theorem dX10_apart_6 : decode cX10_apart 6 = .ok (.iload_n 1, 1) := by decide +kernel
theorem dX10_apart_7 : decode cX10_apart 7 = .ok (.isub, 1) := by decide +kernel
theorem dX10_apart_8 : decode cX10_apart 8 = .ok (.goto 6, 3) := by decide +kernel
theorem dX10_apart_11 : decode cX10_apart 11 = .ok (.iload_n 1, 1) := by decide +kernel
theorem dX10_apart_12 : decode cX10_apart 12 = .ok (.iload_n 0, 1) := by decide +kernel
theorem dX10_apart_13 : decode cX10_apart 13 = .ok (.isub, 1) := by decide +kernel
theorem dX10_apart_14 : decode cX10_apart 14 = .ok (.ireturn, 1) := by decide +kernel
theorem dX10_likeness_0 : decode cX10_likeness 0 = .ok (.aload_n 0, 1) := by decide +kernel
theorem dX10_likeness_1 : decode cX10_likeness 1 = .ok (.iload_n 1, 1) := by decide +kernel
theorem dX10_likeness_2 : decode cX10_likeness 2 = .ok (.invokevirtual 156, 3) := by decide +kernel
theorem dX10_likeness_5 : decode cX10_likeness 5 = .ok (.ifCond .eq 16, 3) := by decide +kernel
theorem dX10_likeness_8 : decode cX10_likeness 8 = .ok (.aload_n 0, 1) := by decide +kernel
theorem dX10_likeness_9 : decode cX10_likeness 9 = .ok (.iload_n 2, 1) := by decide +kernel
theorem dX10_likeness_10 : decode cX10_likeness 10 = .ok (.invokevirtual 156, 3) := by decide +kernel
theorem dX10_likeness_13 : decode cX10_likeness 13 = .ok (.ifCond .eq 8, 3) := by decide +kernel
theorem dX10_likeness_16 : decode cX10_likeness 16 = .ok (.iload_n 1, 1) := by decide +kernel
theorem dX10_likeness_17 : decode cX10_likeness 17 = .ok (.iload_n 2, 1) := by decide +kernel
theorem dX10_likeness_18 : decode cX10_likeness 18 = .ok (.if_icmp .ne 6, 3) := by decide +kernel
theorem dX10_likeness_21 : decode cX10_likeness 21 = .ok (.ldc 60, 2) := by decide +kernel
theorem dX10_likeness_23 : decode cX10_likeness 23 = .ok (.ireturn, 1) := by decide +kernel
theorem dX10_likeness_24 : decode cX10_likeness 24 = .ok (.bipush 100, 2) := by decide +kernel
theorem dX10_likeness_26 : decode cX10_likeness 26 = .ok (.aload_n 0, 1) := by decide +kernel
theorem dX10_likeness_27 : decode cX10_likeness 27 = .ok (.iload_n 1, 1) := by decide +kernel
theorem dX10_likeness_28 : decode cX10_likeness 28 = .ok (.iconst 0, 1) := by decide +kernel
theorem dX10_likeness_29 : decode cX10_likeness 29 = .ok (.invokevirtual 126, 3) := by decide +kernel
theorem dX10_likeness_32 : decode cX10_likeness 32 = .ok (.aload_n 0, 1) := by decide +kernel
theorem dX10_likeness_33 : decode cX10_likeness 33 = .ok (.iload_n 2, 1) := by decide +kernel
theorem dX10_likeness_34 : decode cX10_likeness 34 = .ok (.iconst 0, 1) := by decide +kernel
theorem dX10_likeness_35 : decode cX10_likeness 35 = .ok (.invokevirtual 126, 3) := by decide +kernel
theorem dX10_likeness_38 : decode cX10_likeness 38 = .ok (.if_icmp .ne 7, 3) := by decide +kernel
theorem dX10_likeness_41 : decode cX10_likeness 41 = .ok (.iconst 0, 1) := by decide +kernel
theorem dX10_likeness_42 : decode cX10_likeness 42 = .ok (.goto 5, 3) := by decide +kernel
theorem dX10_likeness_45 : decode cX10_likeness 45 = .ok (.bipush 20, 2) := by decide +kernel
theorem dX10_likeness_47 : decode cX10_likeness 47 = .ok (.isub, 1) := by decide +kernel
theorem dX10_likeness_48 : decode cX10_likeness 48 = .ok (.iconst 5, 1) := by decide +kernel
theorem dX10_likeness_49 : decode cX10_likeness 49 = .ok (.aload_n 0, 1) := by decide +kernel
theorem dX10_likeness_50 : decode cX10_likeness 50 = .ok (.iload_n 1, 1) := by decide +kernel
theorem dX10_likeness_51 : decode cX10_likeness 51 = .ok (.iconst 2, 1) := by decide +kernel
theorem dX10_likeness_52 : decode cX10_likeness 52 = .ok (.invokevirtual 126, 3) := by decide +kernel
theorem dX10_likeness_55 : decode cX10_likeness 55 = .ok (.aload_n 0, 1) := by decide +kernel
theorem dX10_likeness_56 : decode cX10_likeness 56 = .ok (.iload_n 2, 1) := by decide +kernel
theorem dX10_likeness_57 : decode cX10_likeness 57 = .ok (.iconst 2, 1) := by decide +kernel
theorem dX10_likeness_58 : decode cX10_likeness 58 = .ok (.invokevirtual 126, 3) := by decide +kernel
theorem dX10_likeness_61 : decode cX10_likeness 61 = .ok (.invokestatic 199, 3) := by decide +kernel
theorem dX10_likeness_64 : decode cX10_likeness 64 = .ok (.imul, 1) := by decide +kernel
theorem dX10_likeness_65 : decode cX10_likeness 65 = .ok (.isub, 1) := by decide +kernel
theorem dX10_likeness_66 : decode cX10_likeness 66 = .ok (.aload_n 0, 1) := by decide +kernel
theorem dX10_likeness_67 : decode cX10_likeness 67 = .ok (.iload_n 1, 1) := by decide +kernel
theorem dX10_likeness_68 : decode cX10_likeness 68 = .ok (.iconst 3, 1) := by decide +kernel
theorem dX10_likeness_69 : decode cX10_likeness 69 = .ok (.invokevirtual 126, 3) := by decide +kernel
theorem dX10_likeness_72 : decode cX10_likeness 72 = .ok (.aload_n 0, 1) := by decide +kernel
theorem dX10_likeness_73 : decode cX10_likeness 73 = .ok (.iload_n 2, 1) := by decide +kernel
theorem dX10_likeness_74 : decode cX10_likeness 74 = .ok (.iconst 3, 1) := by decide +kernel
theorem dX10_likeness_75 : decode cX10_likeness 75 = .ok (.invokevirtual 126, 3) := by decide +kernel
theorem dX10_likeness_78 : decode cX10_likeness 78 = .ok (.invokestatic 199, 3) := by decide +kernel
theorem dX10_likeness_81 : decode cX10_likeness 81 = .ok (.isub, 1) := by decide +kernel
theorem dX10_likeness_82 : decode cX10_likeness 82 = .ok (.istore_n 3, 1) := by decide +kernel
theorem dX10_likeness_83 : decode cX10_likeness 83 = .ok (.iload_n 3, 1) := by decide +kernel
theorem dX10_likeness_84 : decode cX10_likeness 84 = .ok (.ifCond .ge 7, 3) := by decide +kernel
theorem dX10_likeness_87 : decode cX10_likeness 87 = .ok (.iconst 0, 1) := by decide +kernel
theorem dX10_likeness_88 : decode cX10_likeness 88 = .ok (.goto 4, 3) := by decide +kernel
theorem dX10_likeness_91 : decode cX10_likeness 91 = .ok (.iload_n 3, 1) := by decide +kernel
theorem dX10_likeness_92 : decode cX10_likeness 92 = .ok (.ireturn, 1) := by decide +kernel
theorem dX10_estate_0 : decode cX10_estate 0 = .ok (.aload_n 0, 1) := by decide +kernel
theorem dX10_estate_1 : decode cX10_estate 1 = .ok (.getfield 117, 3) := by decide +kernel
theorem dX10_estate_4 : decode cX10_estate 4 = .ok (.ifCond .ne 6, 3) := by decide +kernel
theorem dX10_estate_7 : decode cX10_estate 7 = .ok (.ldc 144, 2) := by decide +kernel
theorem dX10_estate_9 : decode cX10_estate 9 = .ok (.ireturn, 1) := by decide +kernel
theorem dX10_estate_10 : decode cX10_estate 10 = .ok (.iload_n 1, 1) := by decide +kernel
theorem dX10_estate_11 : decode cX10_estate 11 = .ok (.i2l, 1) := by decide +kernel
theorem dX10_estate_12 : decode cX10_estate 12 = .ok (.lconst 0, 1) := by decide +kernel
theorem dX10_estate_13 : decode cX10_estate 13 = .ok (.ldc2_w 159, 3) := by decide +kernel
theorem dX10_estate_16 : decode cX10_estate 16 = .ok (.invokestatic 50, 3) := by decide +kernel
theorem dX10_estate_19 : decode cX10_estate 19 = .ok (.ifCond .ne 6, 3) := by decide +kernel
theorem dX10_estate_22 : decode cX10_estate 22 = .ok (.ldc 60, 2) := by decide +kernel
theorem dX10_estate_24 : decode cX10_estate 24 = .ok (.ireturn, 1) := by decide +kernel
theorem dX10_estate_25 : decode cX10_estate 25 = .ok (.iconst 0, 1) := by decide +kernel
theorem dX10_estate_26 : decode cX10_estate 26 = .ok (.istore_n 2, 1) := by decide +kernel
theorem dX10_estate_27 : decode cX10_estate 27 = .ok (.iconst 0, 1) := by decide +kernel
theorem dX10_estate_28 : decode cX10_estate 28 = .ok (.istore_n 3, 1) := by decide +kernel
theorem dX10_estate_29 : decode cX10_estate 29 = .ok (.iload_n 3, 1) := by decide +kernel
theorem dX10_estate_30 : decode cX10_estate 30 = .ok (.aload_n 0, 1) := by decide +kernel
theorem dX10_estate_31 : decode cX10_estate 31 = .ok (.getfield 22, 3) := by decide +kernel
theorem dX10_estate_34 : decode cX10_estate 34 = .ok (.iconst 0, 1) := by decide +kernel
theorem dX10_estate_35 : decode cX10_estate 35 = .ok (.iaload, 1) := by decide +kernel
theorem dX10_estate_36 : decode cX10_estate 36 = .ok (.if_icmp .ge 32, 3) := by decide +kernel
theorem dX10_estate_39 : decode cX10_estate 39 = .ok (.iload_n 2, 1) := by decide +kernel
theorem dX10_estate_40 : decode cX10_estate 40 = .ok (.aload_n 0, 1) := by decide +kernel
theorem dX10_estate_41 : decode cX10_estate 41 = .ok (.iload_n 3, 1) := by decide +kernel
theorem dX10_estate_42 : decode cX10_estate 42 = .ok (.iconst 4, 1) := by decide +kernel
theorem dX10_estate_43 : decode cX10_estate 43 = .ok (.invokevirtual 126, 3) := by decide +kernel
theorem dX10_estate_46 : decode cX10_estate 46 = .ok (.iload_n 1, 1) := by decide +kernel
theorem dX10_estate_47 : decode cX10_estate 47 = .ok (.if_icmp .ne 12, 3) := by decide +kernel
theorem dX10_estate_50 : decode cX10_estate 50 = .ok (.aload_n 0, 1) := by decide +kernel
theorem dX10_estate_51 : decode cX10_estate 51 = .ok (.iload_n 3, 1) := by decide +kernel
theorem dX10_estate_52 : decode cX10_estate 52 = .ok (.iconst 3, 1) := by decide +kernel
theorem dX10_estate_53 : decode cX10_estate 53 = .ok (.invokevirtual 126, 3) := by decide +kernel
theorem dX10_estate_56 : decode cX10_estate 56 = .ok (.goto 4, 3) := by decide +kernel
theorem dX10_estate_59 : decode cX10_estate 59 = .ok (.iconst 0, 1) := by decide +kernel
theorem dX10_estate_60 : decode cX10_estate 60 = .ok (.iadd, 1) := by decide +kernel
theorem dX10_estate_61 : decode cX10_estate 61 = .ok (.istore_n 2, 1) := by decide +kernel
theorem dX10_estate_62 : decode cX10_estate 62 = .ok (.iinc 3 1, 3) := by decide +kernel
theorem dX10_estate_65 : decode cX10_estate 65 = .ok (.goto (-36), 3) := by decide +kernel
theorem dX10_estate_68 : decode cX10_estate 68 = .ok (.iload_n 2, 1) := by decide +kernel
theorem dX10_estate_69 : decode cX10_estate 69 = .ok (.ireturn, 1) := by decide +kernel
theorem dX10_common_0 : decode cX10_common 0 = .ok (.lload_n 0, 1) := by decide +kernel
theorem dX10_common_1 : decode cX10_common 1 = .ok (.lstore 4, 2) := by decide +kernel
theorem dX10_common_3 : decode cX10_common 3 = .ok (.lload_n 2, 1) := by decide +kernel
theorem dX10_common_4 : decode cX10_common 4 = .ok (.lstore 6, 2) := by decide +kernel
theorem dX10_common_6 : decode cX10_common 6 = .ok (.lload 6, 2) := by decide +kernel
theorem dX10_common_8 : decode cX10_common 8 = .ok (.lconst 0, 1) := by decide +kernel
theorem dX10_common_9 : decode cX10_common 9 = .ok (.lcmp, 1) := by decide +kernel
theorem dX10_common_10 : decode cX10_common 10 = .ok (.ifCond .eq 21, 3) := by decide +kernel
theorem dX10_common_13 : decode cX10_common 13 = .ok (.lload 4, 2) := by decide +kernel
theorem dX10_common_15 : decode cX10_common 15 = .ok (.lload 6, 2) := by decide +kernel
theorem dX10_common_17 : decode cX10_common 17 = .ok (.lrem, 1) := by decide +kernel
theorem dX10_common_18 : decode cX10_common 18 = .ok (.lstore 8, 2) := by decide +kernel
theorem dX10_common_20 : decode cX10_common 20 = .ok (.lload 6, 2) := by decide +kernel
theorem dX10_common_22 : decode cX10_common 22 = .ok (.lstore 4, 2) := by decide +kernel
theorem dX10_common_24 : decode cX10_common 24 = .ok (.lload 8, 2) := by decide +kernel
theorem dX10_common_26 : decode cX10_common 26 = .ok (.lstore 6, 2) := by decide +kernel
theorem dX10_common_28 : decode cX10_common 28 = .ok (.goto (-22), 3) := by decide +kernel
theorem dX10_common_31 : decode cX10_common 31 = .ok (.lload 4, 2) := by decide +kernel
theorem dX10_common_33 : decode cX10_common 33 = .ok (.lreturn, 1) := by decide +kernel
theorem dX10_many_0 : decode cX10_many 0 = .ok (.iconst 0, 1) := by decide +kernel
theorem dX10_many_1 : decode cX10_many 1 = .ok (.istore_n 1, 1) := by decide +kernel
theorem dX10_many_2 : decode cX10_many 2 = .ok (.iload_n 0, 1) := by decide +kernel
theorem dX10_many_3 : decode cX10_many 3 = .ok (.istore_n 2, 1) := by decide +kernel
theorem dX10_many_4 : decode cX10_many 4 = .ok (.iload_n 2, 1) := by decide +kernel
theorem dX10_many_5 : decode cX10_many 5 = .ok (.ifCond .eq 15, 3) := by decide +kernel
theorem dX10_many_8 : decode cX10_many 8 = .ok (.iinc 1 1, 3) := by decide +kernel
theorem dX10_many_11 : decode cX10_many 11 = .ok (.iload_n 2, 1) := by decide +kernel
theorem dX10_many_12 : decode cX10_many 12 = .ok (.iload_n 2, 1) := by decide +kernel
theorem dX10_many_13 : decode cX10_many 13 = .ok (.iconst 1, 1) := by decide +kernel
theorem dX10_many_14 : decode cX10_many 14 = .ok (.isub, 1) := by decide +kernel
theorem dX10_many_15 : decode cX10_many 15 = .ok (.iand, 1) := by decide +kernel
theorem dX10_many_16 : decode cX10_many 16 = .ok (.istore_n 2, 1) := by decide +kernel
theorem dX10_many_17 : decode cX10_many 17 = .ok (.goto (-13), 3) := by decide +kernel
theorem dX10_many_20 : decode cX10_many 20 = .ok (.iload_n 1, 1) := by decide +kernel
theorem dX10_many_21 : decode cX10_many 21 = .ok (.ireturn, 1) := by decide +kernel
theorem dX10_seen_0 : decode cX10_seen 0 = .ok (.aload_n 0, 1) := by decide +kernel
theorem dX10_seen_1 : decode cX10_seen 1 = .ok (.getfield 117, 3) := by decide +kernel
theorem dX10_seen_4 : decode cX10_seen 4 = .ok (.ifCond .ne 7, 3) := by decide +kernel
theorem dX10_seen_7 : decode cX10_seen 7 = .ok (.ldc2_w 202, 3) := by decide +kernel
theorem dX10_seen_10 : decode cX10_seen 10 = .ok (.lreturn, 1) := by decide +kernel
theorem dX10_seen_11 : decode cX10_seen 11 = .ok (.iload_n 1, 1) := by decide +kernel
theorem dX10_seen_12 : decode cX10_seen 12 = .ok (.i2l, 1) := by decide +kernel
theorem dX10_seen_13 : decode cX10_seen 13 = .ok (.lconst 0, 1) := by decide +kernel
theorem dX10_seen_14 : decode cX10_seen 14 = .ok (.ldc2_w 161, 3) := by decide +kernel
theorem dX10_seen_17 : decode cX10_seen 17 = .ok (.invokestatic 50, 3) := by decide +kernel
theorem dX10_seen_20 : decode cX10_seen 20 = .ok (.ifCond .eq 25, 3) := by decide +kernel
theorem dX10_seen_23 : decode cX10_seen 23 = .ok (.iload_n 2, 1) := by decide +kernel
theorem dX10_seen_24 : decode cX10_seen 24 = .ok (.i2l, 1) := by decide +kernel
theorem dX10_seen_25 : decode cX10_seen 25 = .ok (.lconst 0, 1) := by decide +kernel
theorem dX10_seen_26 : decode cX10_seen 26 = .ok (.ldc2_w 204, 3) := by decide +kernel
theorem dX10_seen_29 : decode cX10_seen 29 = .ok (.invokestatic 50, 3) := by decide +kernel
theorem dX10_seen_32 : decode cX10_seen 32 = .ok (.ifCond .eq 13, 3) := by decide +kernel
theorem dX10_seen_35 : decode cX10_seen 35 = .ok (.iload_n 3, 1) := by decide +kernel
theorem dX10_seen_36 : decode cX10_seen 36 = .ok (.i2l, 1) := by decide +kernel
theorem dX10_seen_37 : decode cX10_seen 37 = .ok (.lconst 0, 1) := by decide +kernel
theorem dX10_seen_38 : decode cX10_seen 38 = .ok (.lconst 1, 1) := by decide +kernel
theorem dX10_seen_39 : decode cX10_seen 39 = .ok (.invokestatic 50, 3) := by decide +kernel
theorem dX10_seen_42 : decode cX10_seen 42 = .ok (.ifCond .ne 7, 3) := by decide +kernel
theorem dX10_seen_45 : decode cX10_seen 45 = .ok (.ldc2_w 206, 3) := by decide +kernel
theorem dX10_seen_48 : decode cX10_seen 48 = .ok (.lreturn, 1) := by decide +kernel
theorem dX10_seen_49 : decode cX10_seen 49 = .ok (.aload_n 0, 1) := by decide +kernel
theorem dX10_seen_50 : decode cX10_seen 50 = .ok (.invokevirtual 208, 3) := by decide +kernel
theorem dX10_seen_53 : decode cX10_seen 53 = .ok (.istore 4, 2) := by decide +kernel
theorem dX10_seen_55 : decode cX10_seen 55 = .ok (.lconst 0, 1) := by decide +kernel
theorem dX10_seen_56 : decode cX10_seen 56 = .ok (.lstore 5, 2) := by decide +kernel
theorem dX10_seen_58 : decode cX10_seen 58 = .ok (.lconst 0, 1) := by decide +kernel
theorem dX10_seen_59 : decode cX10_seen 59 = .ok (.lstore 7, 2) := by decide +kernel
theorem dX10_seen_61 : decode cX10_seen 61 = .ok (.iconst 0, 1) := by decide +kernel
theorem dX10_seen_62 : decode cX10_seen 62 = .ok (.istore 9, 2) := by decide +kernel
theorem dX10_seen_64 : decode cX10_seen 64 = .ok (.iload 9, 2) := by decide +kernel
theorem dX10_seen_66 : decode cX10_seen 66 = .ok (.iload 4, 2) := by decide +kernel
theorem dX10_seen_68 : decode cX10_seen 68 = .ok (.if_icmp .gt 108, 3) := by decide +kernel
theorem dX10_seen_71 : decode cX10_seen 71 = .ok (.iload 9, 2) := by decide +kernel
theorem dX10_seen_73 : decode cX10_seen 73 = .ok (.iload 4, 2) := by decide +kernel
theorem dX10_seen_75 : decode cX10_seen 75 = .ok (.iconst (-1), 1) := by decide +kernel
theorem dX10_seen_76 : decode cX10_seen 76 = .ok (.ixor, 1) := by decide +kernel
theorem dX10_seen_77 : decode cX10_seen 77 = .ok (.iand, 1) := by decide +kernel
theorem dX10_seen_78 : decode cX10_seen 78 = .ok (.ifCond .ne 92, 3) := by decide +kernel
theorem dX10_seen_81 : decode cX10_seen 81 = .ok (.lconst 1, 1) := by decide +kernel
theorem dX10_seen_82 : decode cX10_seen 82 = .ok (.lstore 10, 2) := by decide +kernel
theorem dX10_seen_84 : decode cX10_seen 84 = .ok (.iconst 0, 1) := by decide +kernel
theorem dX10_seen_85 : decode cX10_seen 85 = .ok (.istore 12, 2) := by decide +kernel
theorem dX10_seen_87 : decode cX10_seen 87 = .ok (.iload 12, 2) := by decide +kernel
theorem dX10_seen_89 : decode cX10_seen 89 = .ok (.aload_n 0, 1) := by decide +kernel
theorem dX10_seen_90 : decode cX10_seen 90 = .ok (.getfield 22, 3) := by decide +kernel
theorem dX10_seen_93 : decode cX10_seen 93 = .ok (.iconst 0, 1) := by decide +kernel
theorem dX10_seen_94 : decode cX10_seen 94 = .ok (.iaload, 1) := by decide +kernel
theorem dX10_seen_95 : decode cX10_seen 95 = .ok (.if_icmp .ge 48, 3) := by decide +kernel
theorem dX10_seen_98 : decode cX10_seen 98 = .ok (.lload 10, 2) := by decide +kernel
theorem dX10_seen_100 : decode cX10_seen 100 = .ok (.aload_n 0, 1) := by decide +kernel
theorem dX10_seen_101 : decode cX10_seen 101 = .ok (.iload 12, 2) := by decide +kernel
theorem dX10_seen_103 : decode cX10_seen 103 = .ok (.invokevirtual 129, 3) := by decide +kernel
theorem dX10_seen_106 : decode cX10_seen 106 = .ok (.ifCond .eq 7, 3) := by decide +kernel
theorem dX10_seen_109 : decode cX10_seen 109 = .ok (.lconst 1, 1) := by decide +kernel
theorem dX10_seen_110 : decode cX10_seen 110 = .ok (.goto 24, 3) := by decide +kernel
theorem dX10_seen_113 : decode cX10_seen 113 = .ok (.iload 9, 2) := by decide +kernel
theorem dX10_seen_115 : decode cX10_seen 115 = .ok (.iload 12, 2) := by decide +kernel
theorem dX10_seen_117 : decode cX10_seen 117 = .ok (.ishr, 1) := by decide +kernel
theorem dX10_seen_118 : decode cX10_seen 118 = .ok (.iconst 1, 1) := by decide +kernel
theorem dX10_seen_119 : decode cX10_seen 119 = .ok (.iand, 1) := by decide +kernel
theorem dX10_seen_120 : decode cX10_seen 120 = .ok (.iconst 1, 1) := by decide +kernel
theorem dX10_seen_121 : decode cX10_seen 121 = .ok (.if_icmp .ne 8, 3) := by decide +kernel
theorem dX10_seen_124 : decode cX10_seen 124 = .ok (.iload_n 2, 1) := by decide +kernel
theorem dX10_seen_125 : decode cX10_seen 125 = .ok (.i2l, 1) := by decide +kernel
theorem dX10_seen_126 : decode cX10_seen 126 = .ok (.goto 8, 3) := by decide +kernel
theorem dX10_seen_129 : decode cX10_seen 129 = .ok (.bipush 10, 2) := by decide +kernel
theorem dX10_seen_131 : decode cX10_seen 131 = .ok (.iload_n 2, 1) := by decide +kernel
theorem dX10_seen_132 : decode cX10_seen 132 = .ok (.isub, 1) := by decide +kernel
theorem dX10_seen_133 : decode cX10_seen 133 = .ok (.i2l, 1) := by decide +kernel
theorem dX10_seen_134 : decode cX10_seen 134 = .ok (.lmul, 1) := by decide +kernel
theorem dX10_seen_135 : decode cX10_seen 135 = .ok (.lstore 10, 2) := by decide +kernel
theorem dX10_seen_137 : decode cX10_seen 137 = .ok (.iinc 12 1, 3) := by decide +kernel
theorem dX10_seen_140 : decode cX10_seen 140 = .ok (.goto (-53), 3) := by decide +kernel
theorem dX10_seen_143 : decode cX10_seen 143 = .ok (.lload 7, 2) := by decide +kernel
theorem dX10_seen_145 : decode cX10_seen 145 = .ok (.lload 10, 2) := by decide +kernel
theorem dX10_seen_147 : decode cX10_seen 147 = .ok (.ladd, 1) := by decide +kernel
theorem dX10_seen_148 : decode cX10_seen 148 = .ok (.lstore 7, 2) := by decide +kernel
theorem dX10_seen_150 : decode cX10_seen 150 = .ok (.lload 5, 2) := by decide +kernel
theorem dX10_seen_152 : decode cX10_seen 152 = .ok (.iload 9, 2) := by decide +kernel
theorem dX10_seen_154 : decode cX10_seen 154 = .ok (.invokestatic 211, 3) := by decide +kernel
theorem dX10_seen_157 : decode cX10_seen 157 = .ok (.iload_n 1, 1) := by decide +kernel
theorem dX10_seen_158 : decode cX10_seen 158 = .ok (.if_icmp .lt 8, 3) := by decide +kernel
theorem dX10_seen_161 : decode cX10_seen 161 = .ok (.lload 10, 2) := by decide +kernel
theorem dX10_seen_163 : decode cX10_seen 163 = .ok (.goto 4, 3) := by decide +kernel
theorem dX10_seen_166 : decode cX10_seen 166 = .ok (.lconst 0, 1) := by decide +kernel
theorem dX10_seen_167 : decode cX10_seen 167 = .ok (.ladd, 1) := by decide +kernel
theorem dX10_seen_168 : decode cX10_seen 168 = .ok (.lstore 5, 2) := by decide +kernel
theorem dX10_seen_170 : decode cX10_seen 170 = .ok (.iinc 9 1, 3) := by decide +kernel
theorem dX10_seen_173 : decode cX10_seen 173 = .ok (.goto (-109), 3) := by decide +kernel
theorem dX10_seen_176 : decode cX10_seen 176 = .ok (.lload 5, 2) := by decide +kernel
theorem dX10_seen_178 : decode cX10_seen 178 = .ok (.lload 7, 2) := by decide +kernel
theorem dX10_seen_180 : decode cX10_seen 180 = .ok (.invokestatic 214, 3) := by decide +kernel
theorem dX10_seen_183 : decode cX10_seen 183 = .ok (.lstore 9, 2) := by decide +kernel
theorem dX10_seen_185 : decode cX10_seen 185 = .ok (.iload_n 3, 1) := by decide +kernel
theorem dX10_seen_186 : decode cX10_seen 186 = .ok (.ifCond .ne 11, 3) := by decide +kernel
theorem dX10_seen_189 : decode cX10_seen 189 = .ok (.lload 5, 2) := by decide +kernel
theorem dX10_seen_191 : decode cX10_seen 191 = .ok (.lload 9, 2) := by decide +kernel
theorem dX10_seen_193 : decode cX10_seen 193 = .ok (.ldiv, 1) := by decide +kernel
theorem dX10_seen_194 : decode cX10_seen 194 = .ok (.goto 8, 3) := by decide +kernel
theorem dX10_seen_197 : decode cX10_seen 197 = .ok (.lload 7, 2) := by decide +kernel
theorem dX10_seen_199 : decode cX10_seen 199 = .ok (.lload 9, 2) := by decide +kernel
theorem dX10_seen_201 : decode cX10_seen 201 = .ok (.ldiv, 1) := by decide +kernel
theorem dX10_seen_202 : decode cX10_seen 202 = .ok (.lreturn, 1) := by decide +kernel
theorem dX10_drawn_0 : decode cX10_drawn 0 = .ok (.aload_n 0, 1) := by decide +kernel
theorem dX10_drawn_1 : decode cX10_drawn 1 = .ok (.getfield 117, 3) := by decide +kernel
theorem dX10_drawn_4 : decode cX10_drawn 4 = .ok (.ifCond .ne 6, 3) := by decide +kernel
theorem dX10_drawn_7 : decode cX10_drawn 7 = .ok (.ldc 144, 2) := by decide +kernel
theorem dX10_drawn_9 : decode cX10_drawn 9 = .ok (.ireturn, 1) := by decide +kernel
theorem dX10_drawn_10 : decode cX10_drawn 10 = .ok (.iload_n 1, 1) := by decide +kernel
theorem dX10_drawn_11 : decode cX10_drawn 11 = .ok (.i2l, 1) := by decide +kernel
theorem dX10_drawn_12 : decode cX10_drawn 12 = .ok (.lconst 0, 1) := by decide +kernel
theorem dX10_drawn_13 : decode cX10_drawn 13 = .ok (.ldc2_w 169, 3) := by decide +kernel
theorem dX10_drawn_16 : decode cX10_drawn 16 = .ok (.invokestatic 50, 3) := by decide +kernel
theorem dX10_drawn_19 : decode cX10_drawn 19 = .ok (.ifCond .eq 25, 3) := by decide +kernel
theorem dX10_drawn_22 : decode cX10_drawn 22 = .ok (.iload_n 2, 1) := by decide +kernel
theorem dX10_drawn_23 : decode cX10_drawn 23 = .ok (.i2l, 1) := by decide +kernel
theorem dX10_drawn_24 : decode cX10_drawn 24 = .ok (.lconst 1, 1) := by decide +kernel
theorem dX10_drawn_25 : decode cX10_drawn 25 = .ok (.ldc2_w 218, 3) := by decide +kernel
theorem dX10_drawn_28 : decode cX10_drawn 28 = .ok (.invokestatic 50, 3) := by decide +kernel
theorem dX10_drawn_31 : decode cX10_drawn 31 = .ok (.ifCond .eq 13, 3) := by decide +kernel
theorem dX10_drawn_34 : decode cX10_drawn 34 = .ok (.iload_n 3, 1) := by decide +kernel
theorem dX10_drawn_35 : decode cX10_drawn 35 = .ok (.i2l, 1) := by decide +kernel
theorem dX10_drawn_36 : decode cX10_drawn 36 = .ok (.lconst 0, 1) := by decide +kernel
theorem dX10_drawn_37 : decode cX10_drawn 37 = .ok (.lconst 1, 1) := by decide +kernel
theorem dX10_drawn_38 : decode cX10_drawn 38 = .ok (.invokestatic 50, 3) := by decide +kernel
theorem dX10_drawn_41 : decode cX10_drawn 41 = .ok (.ifCond .ne 6, 3) := by decide +kernel
theorem dX10_drawn_44 : decode cX10_drawn 44 = .ok (.ldc 60, 2) := by decide +kernel
theorem dX10_drawn_46 : decode cX10_drawn 46 = .ok (.ireturn, 1) := by decide +kernel
theorem dX10_drawn_47 : decode cX10_drawn 47 = .ok (.aload_n 0, 1) := by decide +kernel
theorem dX10_drawn_48 : decode cX10_drawn 48 = .ok (.invokevirtual 171, 3) := by decide +kernel
theorem dX10_drawn_51 : decode cX10_drawn 51 = .ok (.aload_n 0, 1) := by decide +kernel
theorem dX10_drawn_52 : decode cX10_drawn 52 = .ok (.invokevirtual 147, 3) := by decide +kernel
theorem dX10_drawn_55 : decode cX10_drawn 55 = .ok (.istore 4, 2) := by decide +kernel
theorem dX10_drawn_57 : decode cX10_drawn 57 = .ok (.iload_n 2, 1) := by decide +kernel
theorem dX10_drawn_58 : decode cX10_drawn 58 = .ok (.i2l, 1) := by decide +kernel
theorem dX10_drawn_59 : decode cX10_drawn 59 = .ok (.lstore 5, 2) := by decide +kernel
theorem dX10_drawn_61 : decode cX10_drawn 61 = .ok (.iconst 0, 1) := by decide +kernel
theorem dX10_drawn_62 : decode cX10_drawn 62 = .ok (.istore 7, 2) := by decide +kernel
theorem dX10_drawn_64 : decode cX10_drawn 64 = .ok (.iload 7, 2) := by decide +kernel
theorem dX10_drawn_66 : decode cX10_drawn 66 = .ok (.iload_n 1, 1) := by decide +kernel
theorem dX10_drawn_67 : decode cX10_drawn 67 = .ok (.if_icmp .ge 113, 3) := by decide +kernel
theorem dX10_drawn_70 : decode cX10_drawn 70 = .ok (.lload 5, 2) := by decide +kernel
theorem dX10_drawn_72 : decode cX10_drawn 72 = .ok (.ldc2_w 220, 3) := by decide +kernel
theorem dX10_drawn_75 : decode cX10_drawn 75 = .ok (.lmul, 1) := by decide +kernel
theorem dX10_drawn_76 : decode cX10_drawn 76 = .ok (.ldc2_w 222, 3) := by decide +kernel
theorem dX10_drawn_79 : decode cX10_drawn 79 = .ok (.lrem, 1) := by decide +kernel
theorem dX10_drawn_80 : decode cX10_drawn 80 = .ok (.lstore 5, 2) := by decide +kernel
theorem dX10_drawn_82 : decode cX10_drawn 82 = .ok (.aload_n 0, 1) := by decide +kernel
theorem dX10_drawn_83 : decode cX10_drawn 83 = .ok (.getfield 22, 3) := by decide +kernel
theorem dX10_drawn_86 : decode cX10_drawn 86 = .ok (.iconst 1, 1) := by decide +kernel
theorem dX10_drawn_87 : decode cX10_drawn 87 = .ok (.lload 5, 2) := by decide +kernel
theorem dX10_drawn_89 : decode cX10_drawn 89 = .ok (.ldc2_w 224, 3) := by decide +kernel
theorem dX10_drawn_92 : decode cX10_drawn 92 = .ok (.lrem, 1) := by decide +kernel
theorem dX10_drawn_93 : decode cX10_drawn 93 = .ok (.l2i, 1) := by decide +kernel
theorem dX10_drawn_94 : decode cX10_drawn 94 = .ok (.iastore, 1) := by decide +kernel
theorem dX10_drawn_95 : decode cX10_drawn 95 = .ok (.lload 5, 2) := by decide +kernel
theorem dX10_drawn_97 : decode cX10_drawn 97 = .ok (.ldc2_w 159, 3) := by decide +kernel
theorem dX10_drawn_100 : decode cX10_drawn 100 = .ok (.lrem, 1) := by decide +kernel
theorem dX10_drawn_101 : decode cX10_drawn 101 = .ok (.lconst 0, 1) := by decide +kernel
theorem dX10_drawn_102 : decode cX10_drawn 102 = .ok (.lcmp, 1) := by decide +kernel
theorem dX10_drawn_103 : decode cX10_drawn 103 = .ok (.ifCond .ne 67, 3) := by decide +kernel
theorem dX10_drawn_106 : decode cX10_drawn 106 = .ok (.iconst 4, 1) := by decide +kernel
theorem dX10_drawn_107 : decode cX10_drawn 107 = .ok (.iconst 5, 1) := by decide +kernel
theorem dX10_drawn_108 : decode cX10_drawn 108 = .ok (.lload 5, 2) := by decide +kernel
theorem dX10_drawn_110 : decode cX10_drawn 110 = .ok (.aload_n 0, 1) := by decide +kernel
theorem dX10_drawn_111 : decode cX10_drawn 111 = .ok (.getfield 22, 3) := by decide +kernel
theorem dX10_drawn_114 : decode cX10_drawn 114 = .ok (.iconst 0, 1) := by decide +kernel
theorem dX10_drawn_115 : decode cX10_drawn 115 = .ok (.iaload, 1) := by decide +kernel
theorem dX10_drawn_116 : decode cX10_drawn 116 = .ok (.i2l, 1) := by decide +kernel
theorem dX10_drawn_117 : decode cX10_drawn 117 = .ok (.lrem, 1) := by decide +kernel
theorem dX10_drawn_118 : decode cX10_drawn 118 = .ok (.l2i, 1) := by decide +kernel
theorem dX10_drawn_119 : decode cX10_drawn 119 = .ok (.imul, 1) := by decide +kernel
theorem dX10_drawn_120 : decode cX10_drawn 120 = .ok (.iadd, 1) := by decide +kernel
theorem dX10_drawn_121 : decode cX10_drawn 121 = .ok (.iconst 3, 1) := by decide +kernel
theorem dX10_drawn_122 : decode cX10_drawn 122 = .ok (.iadd, 1) := by decide +kernel
theorem dX10_drawn_123 : decode cX10_drawn 123 = .ok (.istore 8, 2) := by decide +kernel
theorem dX10_drawn_125 : decode cX10_drawn 125 = .ok (.aload_n 0, 1) := by decide +kernel
theorem dX10_drawn_126 : decode cX10_drawn 126 = .ok (.getfield 22, 3) := by decide +kernel
theorem dX10_drawn_129 : decode cX10_drawn 129 = .ok (.iload 8, 2) := by decide +kernel
theorem dX10_drawn_131 : decode cX10_drawn 131 = .ok (.aload_n 0, 1) := by decide +kernel
theorem dX10_drawn_132 : decode cX10_drawn 132 = .ok (.getfield 22, 3) := by decide +kernel
theorem dX10_drawn_135 : decode cX10_drawn 135 = .ok (.iload 8, 2) := by decide +kernel
theorem dX10_drawn_137 : decode cX10_drawn 137 = .ok (.iaload, 1) := by decide +kernel
theorem dX10_drawn_138 : decode cX10_drawn 138 = .ok (.aload_n 0, 1) := by decide +kernel
theorem dX10_drawn_139 : decode cX10_drawn 139 = .ok (.getfield 22, 3) := by decide +kernel
theorem dX10_drawn_142 : decode cX10_drawn 142 = .ok (.iconst 2, 1) := by decide +kernel
theorem dX10_drawn_143 : decode cX10_drawn 143 = .ok (.iaload, 1) := by decide +kernel
theorem dX10_drawn_144 : decode cX10_drawn 144 = .ok (.iadd, 1) := by decide +kernel
theorem dX10_drawn_145 : decode cX10_drawn 145 = .ok (.bipush 99, 2) := by decide +kernel
theorem dX10_drawn_147 : decode cX10_drawn 147 = .ok (.if_icmp .le 8, 3) := by decide +kernel
theorem dX10_drawn_150 : decode cX10_drawn 150 = .ok (.bipush 99, 2) := by decide +kernel
theorem dX10_drawn_152 : decode cX10_drawn 152 = .ok (.goto 17, 3) := by decide +kernel
theorem dX10_drawn_155 : decode cX10_drawn 155 = .ok (.aload_n 0, 1) := by decide +kernel
theorem dX10_drawn_156 : decode cX10_drawn 156 = .ok (.getfield 22, 3) := by decide +kernel
theorem dX10_drawn_159 : decode cX10_drawn 159 = .ok (.iload 8, 2) := by decide +kernel
theorem dX10_drawn_161 : decode cX10_drawn 161 = .ok (.iaload, 1) := by decide +kernel
theorem dX10_drawn_162 : decode cX10_drawn 162 = .ok (.aload_n 0, 1) := by decide +kernel
theorem dX10_drawn_163 : decode cX10_drawn 163 = .ok (.getfield 22, 3) := by decide +kernel
theorem dX10_drawn_166 : decode cX10_drawn 166 = .ok (.iconst 2, 1) := by decide +kernel
theorem dX10_drawn_167 : decode cX10_drawn 167 = .ok (.iaload, 1) := by decide +kernel
theorem dX10_drawn_168 : decode cX10_drawn 168 = .ok (.iadd, 1) := by decide +kernel
theorem dX10_drawn_169 : decode cX10_drawn 169 = .ok (.iastore, 1) := by decide +kernel
theorem dX10_drawn_170 : decode cX10_drawn 170 = .ok (.aload_n 0, 1) := by decide +kernel
theorem dX10_drawn_171 : decode cX10_drawn 171 = .ok (.invokevirtual 153, 3) := by decide +kernel
theorem dX10_drawn_174 : decode cX10_drawn 174 = .ok (.iinc 7 1, 3) := by decide +kernel
theorem dX10_drawn_177 : decode cX10_drawn 177 = .ok (.goto (-113), 3) := by decide +kernel
theorem dX10_drawn_180 : decode cX10_drawn 180 = .ok (.aload_n 0, 1) := by decide +kernel
theorem dX10_drawn_181 : decode cX10_drawn 181 = .ok (.invokevirtual 147, 3) := by decide +kernel
theorem dX10_drawn_184 : decode cX10_drawn 184 = .ok (.iload 4, 2) := by decide +kernel
theorem dX10_drawn_186 : decode cX10_drawn 186 = .ok (.isub, 1) := by decide +kernel
theorem dX10_drawn_187 : decode cX10_drawn 187 = .ok (.istore 7, 2) := by decide +kernel
theorem dX10_drawn_189 : decode cX10_drawn 189 = .ok (.aload_n 0, 1) := by decide +kernel
theorem dX10_drawn_190 : decode cX10_drawn 190 = .ok (.invokevirtual 208, 3) := by decide +kernel
theorem dX10_drawn_193 : decode cX10_drawn 193 = .ok (.istore 8, 2) := by decide +kernel
theorem dX10_drawn_195 : decode cX10_drawn 195 = .ok (.aload_n 0, 1) := by decide +kernel
theorem dX10_drawn_196 : decode cX10_drawn 196 = .ok (.invokevirtual 178, 3) := by decide +kernel
theorem dX10_drawn_199 : decode cX10_drawn 199 = .ok (.iload_n 3, 1) := by decide +kernel
theorem dX10_drawn_200 : decode cX10_drawn 200 = .ok (.ifCond .ne 8, 3) := by decide +kernel
theorem dX10_drawn_203 : decode cX10_drawn 203 = .ok (.iload 7, 2) := by decide +kernel
theorem dX10_drawn_205 : decode cX10_drawn 205 = .ok (.goto 5, 3) := by decide +kernel
theorem dX10_drawn_208 : decode cX10_drawn 208 = .ok (.iload 8, 2) := by decide +kernel
theorem dX10_drawn_210 : decode cX10_drawn 210 = .ok (.ireturn, 1) := by decide +kernel
theorem dX10_image_0 : decode cX10_image 0 = .ok (.iload_n 1, 1) := by decide +kernel
theorem dX10_image_1 : decode cX10_image 1 = .ok (.i2l, 1) := by decide +kernel
theorem dX10_image_2 : decode cX10_image 2 = .ok (.lconst 0, 1) := by decide +kernel
theorem dX10_image_3 : decode cX10_image 3 = .ok (.lconst 1, 1) := by decide +kernel
theorem dX10_image_4 : decode cX10_image 4 = .ok (.invokestatic 50, 3) := by decide +kernel
theorem dX10_image_7 : decode cX10_image 7 = .ok (.ifCond .ne 6, 3) := by decide +kernel
theorem dX10_image_10 : decode cX10_image 10 = .ok (.ldc 60, 2) := by decide +kernel
theorem dX10_image_12 : decode cX10_image 12 = .ok (.ireturn, 1) := by decide +kernel
theorem dX10_image_13 : decode cX10_image 13 = .ok (.aload_n 0, 1) := by decide +kernel
theorem dX10_image_14 : decode cX10_image 14 = .ok (.getfield 117, 3) := by decide +kernel
theorem dX10_image_17 : decode cX10_image 17 = .ok (.ifCond .ne 6, 3) := by decide +kernel
theorem dX10_image_20 : decode cX10_image 20 = .ok (.ldc 144, 2) := by decide +kernel
theorem dX10_image_22 : decode cX10_image 22 = .ok (.ireturn, 1) := by decide +kernel
theorem dX10_image_23 : decode cX10_image 23 = .ok (.aload_n 0, 1) := by decide +kernel
theorem dX10_image_24 : decode cX10_image 24 = .ok (.getfield 37, 3) := by decide +kernel
theorem dX10_image_27 : decode cX10_image 27 = .ok (.bipush 46, 2) := by decide +kernel
theorem dX10_image_29 : decode cX10_image 29 = .ok (.iload_n 1, 1) := by decide +kernel
theorem dX10_image_30 : decode cX10_image 30 = .ok (.imul, 1) := by decide +kernel
theorem dX10_image_31 : decode cX10_image 31 = .ok (.iconst 1, 1) := by decide +kernel
theorem dX10_image_32 : decode cX10_image 32 = .ok (.iastore, 1) := by decide +kernel
theorem dX10_image_33 : decode cX10_image 33 = .ok (.iconst 0, 1) := by decide +kernel
theorem dX10_image_34 : decode cX10_image 34 = .ok (.istore_n 2, 1) := by decide +kernel
theorem dX10_image_35 : decode cX10_image 35 = .ok (.iload_n 2, 1) := by decide +kernel
theorem dX10_image_36 : decode cX10_image 36 = .ok (.bipush 45, 2) := by decide +kernel
theorem dX10_image_38 : decode cX10_image 38 = .ok (.if_icmp .ge 28, 3) := by decide +kernel
theorem dX10_image_41 : decode cX10_image 41 = .ok (.aload_n 0, 1) := by decide +kernel
theorem dX10_image_42 : decode cX10_image 42 = .ok (.getfield 37, 3) := by decide +kernel
theorem dX10_image_45 : decode cX10_image 45 = .ok (.bipush 46, 2) := by decide +kernel
theorem dX10_image_47 : decode cX10_image 47 = .ok (.iload_n 1, 1) := by decide +kernel
theorem dX10_image_48 : decode cX10_image 48 = .ok (.imul, 1) := by decide +kernel
theorem dX10_image_49 : decode cX10_image 49 = .ok (.iconst 1, 1) := by decide +kernel
theorem dX10_image_50 : decode cX10_image 50 = .ok (.iadd, 1) := by decide +kernel
theorem dX10_image_51 : decode cX10_image 51 = .ok (.iload_n 2, 1) := by decide +kernel
theorem dX10_image_52 : decode cX10_image 52 = .ok (.iadd, 1) := by decide +kernel
theorem dX10_image_53 : decode cX10_image 53 = .ok (.aload_n 0, 1) := by decide +kernel
theorem dX10_image_54 : decode cX10_image 54 = .ok (.getfield 22, 3) := by decide +kernel
theorem dX10_image_57 : decode cX10_image 57 = .ok (.iload_n 2, 1) := by decide +kernel
theorem dX10_image_58 : decode cX10_image 58 = .ok (.iaload, 1) := by decide +kernel
theorem dX10_image_59 : decode cX10_image 59 = .ok (.iastore, 1) := by decide +kernel
theorem dX10_image_60 : decode cX10_image 60 = .ok (.iinc 2 1, 3) := by decide +kernel
theorem dX10_image_63 : decode cX10_image 63 = .ok (.goto (-28), 3) := by decide +kernel
theorem dX10_image_66 : decode cX10_image 66 = .ok (.iconst 1, 1) := by decide +kernel
theorem dX10_image_67 : decode cX10_image 67 = .ok (.ireturn, 1) := by decide +kernel
theorem dX10_restore_0 : decode cX10_restore 0 = .ok (.iload_n 1, 1) := by decide +kernel
theorem dX10_restore_1 : decode cX10_restore 1 = .ok (.i2l, 1) := by decide +kernel
theorem dX10_restore_2 : decode cX10_restore 2 = .ok (.lconst 0, 1) := by decide +kernel
theorem dX10_restore_3 : decode cX10_restore 3 = .ok (.lconst 1, 1) := by decide +kernel
theorem dX10_restore_4 : decode cX10_restore 4 = .ok (.invokestatic 50, 3) := by decide +kernel
theorem dX10_restore_7 : decode cX10_restore 7 = .ok (.ifCond .ne 6, 3) := by decide +kernel
theorem dX10_restore_10 : decode cX10_restore 10 = .ok (.ldc 60, 2) := by decide +kernel
theorem dX10_restore_12 : decode cX10_restore 12 = .ok (.ireturn, 1) := by decide +kernel
theorem dX10_restore_13 : decode cX10_restore 13 = .ok (.aload_n 0, 1) := by decide +kernel
theorem dX10_restore_14 : decode cX10_restore 14 = .ok (.getfield 37, 3) := by decide +kernel
theorem dX10_restore_17 : decode cX10_restore 17 = .ok (.bipush 46, 2) := by decide +kernel
theorem dX10_restore_19 : decode cX10_restore 19 = .ok (.iload_n 1, 1) := by decide +kernel
theorem dX10_restore_20 : decode cX10_restore 20 = .ok (.imul, 1) := by decide +kernel
theorem dX10_restore_21 : decode cX10_restore 21 = .ok (.iaload, 1) := by decide +kernel
theorem dX10_restore_22 : decode cX10_restore 22 = .ok (.ifCond .ne 6, 3) := by decide +kernel
theorem dX10_restore_25 : decode cX10_restore 25 = .ok (.ldc 144, 2) := by decide +kernel
theorem dX10_restore_27 : decode cX10_restore 27 = .ok (.ireturn, 1) := by decide +kernel
theorem dX10_restore_28 : decode cX10_restore 28 = .ok (.iconst 0, 1) := by decide +kernel
theorem dX10_restore_29 : decode cX10_restore 29 = .ok (.istore_n 2, 1) := by decide +kernel
theorem dX10_restore_30 : decode cX10_restore 30 = .ok (.iload_n 2, 1) := by decide +kernel
theorem dX10_restore_31 : decode cX10_restore 31 = .ok (.bipush 45, 2) := by decide +kernel
theorem dX10_restore_33 : decode cX10_restore 33 = .ok (.if_icmp .ge 28, 3) := by decide +kernel
theorem dX10_restore_36 : decode cX10_restore 36 = .ok (.aload_n 0, 1) := by decide +kernel
theorem dX10_restore_37 : decode cX10_restore 37 = .ok (.getfield 22, 3) := by decide +kernel
theorem dX10_restore_40 : decode cX10_restore 40 = .ok (.iload_n 2, 1) := by decide +kernel
theorem dX10_restore_41 : decode cX10_restore 41 = .ok (.aload_n 0, 1) := by decide +kernel
theorem dX10_restore_42 : decode cX10_restore 42 = .ok (.getfield 37, 3) := by decide +kernel
theorem dX10_restore_45 : decode cX10_restore 45 = .ok (.bipush 46, 2) := by decide +kernel
theorem dX10_restore_47 : decode cX10_restore 47 = .ok (.iload_n 1, 1) := by decide +kernel
theorem dX10_restore_48 : decode cX10_restore 48 = .ok (.imul, 1) := by decide +kernel
theorem dX10_restore_49 : decode cX10_restore 49 = .ok (.iconst 1, 1) := by decide +kernel
theorem dX10_restore_50 : decode cX10_restore 50 = .ok (.iadd, 1) := by decide +kernel
theorem dX10_restore_51 : decode cX10_restore 51 = .ok (.iload_n 2, 1) := by decide +kernel
theorem dX10_restore_52 : decode cX10_restore 52 = .ok (.iadd, 1) := by decide +kernel
theorem dX10_restore_53 : decode cX10_restore 53 = .ok (.iaload, 1) := by decide +kernel
theorem dX10_restore_54 : decode cX10_restore 54 = .ok (.iastore, 1) := by decide +kernel
theorem dX10_restore_55 : decode cX10_restore 55 = .ok (.iinc 2 1, 3) := by decide +kernel
theorem dX10_restore_58 : decode cX10_restore 58 = .ok (.goto (-28), 3) := by decide +kernel
theorem dX10_restore_61 : decode cX10_restore 61 = .ok (.aload_n 0, 1) := by decide +kernel
theorem dX10_restore_62 : decode cX10_restore 62 = .ok (.iconst 0, 1) := by decide +kernel
theorem dX10_restore_63 : decode cX10_restore 63 = .ok (.putfield 121, 3) := by decide +kernel
theorem dX10_restore_66 : decode cX10_restore 66 = .ok (.iconst 1, 1) := by decide +kernel
theorem dX10_restore_67 : decode cX10_restore 67 = .ok (.ireturn, 1) := by decide +kernel
theorem dX10_begins_0 : decode cX10_begins 0 = .ok (.aload_n 0, 1) := by decide +kernel
theorem dX10_begins_1 : decode cX10_begins 1 = .ok (.getfield 226, 3) := by decide +kernel
theorem dX10_begins_4 : decode cX10_begins 4 = .ok (.bipush 16, 2) := by decide +kernel
theorem dX10_begins_6 : decode cX10_begins 6 = .ok (.if_icmp .ge 23, 3) := by decide +kernel
theorem dX10_begins_9 : decode cX10_begins 9 = .ok (.aload_n 0, 1) := by decide +kernel
theorem dX10_begins_10 : decode cX10_begins 10 = .ok (.getfield 40, 3) := by decide +kernel
theorem dX10_begins_13 : decode cX10_begins 13 = .ok (.aload_n 0, 1) := by decide +kernel
theorem dX10_begins_14 : decode cX10_begins 14 = .ok (.getfield 226, 3) := by decide +kernel
theorem dX10_begins_17 : decode cX10_begins 17 = .ok (.iload_n 1, 1) := by decide +kernel
theorem dX10_begins_18 : decode cX10_begins 18 = .ok (.iastore, 1) := by decide +kernel
theorem dX10_begins_19 : decode cX10_begins 19 = .ok (.aload_n 0, 1) := by decide +kernel
theorem dX10_begins_20 : decode cX10_begins 20 = .ok (.dup, 1) := by decide +kernel
theorem dX10_begins_21 : decode cX10_begins 21 = .ok (.getfield 226, 3) := by decide +kernel
theorem dX10_begins_24 : decode cX10_begins 24 = .ok (.iconst 1, 1) := by decide +kernel
theorem dX10_begins_25 : decode cX10_begins 25 = .ok (.iadd, 1) := by decide +kernel
theorem dX10_begins_26 : decode cX10_begins 26 = .ok (.putfield 226, 3) := by decide +kernel
theorem dX10_begins_29 : decode cX10_begins 29 = .ok (.return_, 1) := by decide +kernel
theorem dX10_kind_0 : decode cX10_kind 0 = .ok (.aload_n 0, 1) := by decide +kernel
theorem dX10_kind_1 : decode cX10_kind 1 = .ok (.iload_n 1, 1) := by decide +kernel
theorem dX10_kind_2 : decode cX10_kind 2 = .ok (.invokevirtual 156, 3) := by decide +kernel
theorem dX10_kind_5 : decode cX10_kind 5 = .ok (.ifCond .eq 12, 3) := by decide +kernel
theorem dX10_kind_8 : decode cX10_kind 8 = .ok (.aload_n 0, 1) := by decide +kernel
theorem dX10_kind_9 : decode cX10_kind 9 = .ok (.iload_n 1, 1) := by decide +kernel
theorem dX10_kind_10 : decode cX10_kind 10 = .ok (.iconst 0, 1) := by decide +kernel
theorem dX10_kind_11 : decode cX10_kind 11 = .ok (.invokevirtual 126, 3) := by decide +kernel
theorem dX10_kind_14 : decode cX10_kind 14 = .ok (.goto 5, 3) := by decide +kernel
theorem dX10_kind_17 : decode cX10_kind 17 = .ok (.ldc 60, 2) := by decide +kernel
theorem dX10_kind_19 : decode cX10_kind 19 = .ok (.ireturn, 1) := by decide +kernel
theorem dX10_isKind_0 : decode cX10_isKind 0 = .ok (.iload_n 1, 1) := by decide +kernel
theorem dX10_isKind_1 : decode cX10_isKind 1 = .ok (.ifCond .eq 28, 3) := by decide +kernel
theorem dX10_isKind_4 : decode cX10_isKind 4 = .ok (.iload_n 0, 1) := by decide +kernel
theorem dX10_isKind_5 : decode cX10_isKind 5 = .ok (.iload_n 1, 1) := by decide +kernel
theorem dX10_isKind_6 : decode cX10_isKind 6 = .ok (.if_icmp .eq 23, 3) := by decide +kernel
theorem dX10_isKind_9 : decode cX10_isKind 9 = .ok (.iload_n 1, 1) := by decide +kernel
theorem dX10_isKind_10 : decode cX10_isKind 10 = .ok (.iconst 1, 1) := by decide +kernel
theorem dX10_isKind_11 : decode cX10_isKind 11 = .ok (.if_icmp .ne 8, 3) := by decide +kernel
theorem dX10_isKind_14 : decode cX10_isKind 14 = .ok (.iload_n 0, 1) := by decide +kernel
theorem dX10_isKind_15 : decode cX10_isKind 15 = .ok (.iconst 4, 1) := by decide +kernel
theorem dX10_isKind_16 : decode cX10_isKind 16 = .ok (.if_icmp .lt 13, 3) := by decide +kernel
theorem dX10_isKind_19 : decode cX10_isKind 19 = .ok (.iload_n 1, 1) := by decide +kernel
theorem dX10_isKind_20 : decode cX10_isKind 20 = .ok (.iconst 4, 1) := by decide +kernel
theorem dX10_isKind_21 : decode cX10_isKind 21 = .ok (.if_icmp .ne 12, 3) := by decide +kernel
theorem dX10_isKind_24 : decode cX10_isKind 24 = .ok (.iload_n 0, 1) := by decide +kernel
theorem dX10_isKind_25 : decode cX10_isKind 25 = .ok (.iconst 5, 1) := by decide +kernel
theorem dX10_isKind_26 : decode cX10_isKind 26 = .ok (.if_icmp .ne 7, 3) := by decide +kernel
theorem dX10_isKind_29 : decode cX10_isKind 29 = .ok (.iconst 1, 1) := by decide +kernel
theorem dX10_isKind_30 : decode cX10_isKind 30 = .ok (.goto 4, 3) := by decide +kernel
theorem dX10_isKind_33 : decode cX10_isKind 33 = .ok (.iconst 0, 1) := by decide +kernel
theorem dX10_isKind_34 : decode cX10_isKind 34 = .ok (.ireturn, 1) := by decide +kernel
theorem dX10_as_0 : decode cX10_as 0 = .ok (.aload_n 0, 1) := by decide +kernel
theorem dX10_as_1 : decode cX10_as 1 = .ok (.iload_n 1, 1) := by decide +kernel
theorem dX10_as_2 : decode cX10_as 2 = .ok (.invokevirtual 156, 3) := by decide +kernel
theorem dX10_as_5 : decode cX10_as 5 = .ok (.ifCond .eq 15, 3) := by decide +kernel
theorem dX10_as_8 : decode cX10_as 8 = .ok (.iload_n 2, 1) := by decide +kernel
theorem dX10_as_9 : decode cX10_as 9 = .ok (.i2l, 1) := by decide +kernel
theorem dX10_as_10 : decode cX10_as 10 = .ok (.lconst 0, 1) := by decide +kernel
theorem dX10_as_11 : decode cX10_as 11 = .ok (.ldc2_w 161, 3) := by decide +kernel
theorem dX10_as_14 : decode cX10_as 14 = .ok (.invokestatic 50, 3) := by decide +kernel
theorem dX10_as_17 : decode cX10_as 17 = .ok (.ifCond .ne 6, 3) := by decide +kernel
theorem dX10_as_20 : decode cX10_as 20 = .ok (.ldc 60, 2) := by decide +kernel
theorem dX10_as_22 : decode cX10_as 22 = .ok (.ireturn, 1) := by decide +kernel
theorem dX10_as_23 : decode cX10_as 23 = .ok (.aload_n 0, 1) := by decide +kernel
theorem dX10_as_24 : decode cX10_as 24 = .ok (.iload_n 1, 1) := by decide +kernel
theorem dX10_as_25 : decode cX10_as 25 = .ok (.iconst 0, 1) := by decide +kernel
theorem dX10_as_26 : decode cX10_as 26 = .ok (.invokevirtual 126, 3) := by decide +kernel
theorem dX10_as_29 : decode cX10_as 29 = .ok (.iload_n 2, 1) := by decide +kernel
theorem dX10_as_30 : decode cX10_as 30 = .ok (.invokestatic 229, 3) := by decide +kernel
theorem dX10_as_33 : decode cX10_as 33 = .ok (.ifCond .eq 11, 3) := by decide +kernel
theorem dX10_as_36 : decode cX10_as 36 = .ok (.aload_n 0, 1) := by decide +kernel
theorem dX10_as_37 : decode cX10_as 37 = .ok (.iload_n 1, 1) := by decide +kernel
theorem dX10_as_38 : decode cX10_as 38 = .ok (.invokevirtual 65, 3) := by decide +kernel
theorem dX10_as_41 : decode cX10_as 41 = .ok (.goto 8, 3) := by decide +kernel
theorem dX10_as_44 : decode cX10_as 44 = .ok (.aload_n 0, 1) := by decide +kernel
theorem dX10_as_45 : decode cX10_as 45 = .ok (.iconst 3, 1) := by decide +kernel
theorem dX10_as_46 : decode cX10_as 46 = .ok (.invokevirtual 61, 3) := by decide +kernel
theorem dX10_as_49 : decode cX10_as 49 = .ok (.ireturn, 1) := by decide +kernel
theorem dX10_lent_0 : decode cX10_lent 0 = .ok (.aload_n 0, 1) := by decide +kernel
theorem dX10_lent_1 : decode cX10_lent 1 = .ok (.bipush 10, 2) := by decide +kernel
theorem dX10_lent_3 : decode cX10_lent 3 = .ok (.invokevirtual 233, 3) := by decide +kernel
theorem dX10_lent_6 : decode cX10_lent 6 = .ok (.aload_n 0, 1) := by decide +kernel
theorem dX10_lent_7 : decode cX10_lent 7 = .ok (.iload_n 1, 1) := by decide +kernel
theorem dX10_lent_8 : decode cX10_lent 8 = .ok (.iconst 3, 1) := by decide +kernel
theorem dX10_lent_9 : decode cX10_lent 9 = .ok (.invokevirtual 126, 3) := by decide +kernel
theorem dX10_lent_12 : decode cX10_lent 12 = .ok (.ireturn, 1) := by decide +kernel
theorem dX10_marks_0 : decode cX10_marks 0 = .ok (.aload_n 0, 1) := by decide +kernel
theorem dX10_marks_1 : decode cX10_marks 1 = .ok (.iload_n 1, 1) := by decide +kernel
theorem dX10_marks_2 : decode cX10_marks 2 = .ok (.iconst 0, 1) := by decide +kernel
theorem dX10_marks_3 : decode cX10_marks 3 = .ok (.invokevirtual 126, 3) := by decide +kernel
theorem dX10_marks_6 : decode cX10_marks 6 = .ok (.istore_n 2, 1) := by decide +kernel
theorem dX10_marks_7 : decode cX10_marks 7 = .ok (.iload_n 2, 1) := by decide +kernel
theorem dX10_marks_8 : decode cX10_marks 8 = .ok (.iconst 3, 1) := by decide +kernel
theorem dX10_marks_9 : decode cX10_marks 9 = .ok (.if_icmp .le 23, 3) := by decide +kernel
theorem dX10_marks_12 : decode cX10_marks 12 = .ok (.aload_n 0, 1) := by decide +kernel
theorem dX10_marks_13 : decode cX10_marks 13 = .ok (.bipush 23, 2) := by decide +kernel
theorem dX10_marks_15 : decode cX10_marks 15 = .ok (.invokevirtual 233, 3) := by decide +kernel
theorem dX10_marks_18 : decode cX10_marks 18 = .ok (.aload_n 0, 1) := by decide +kernel
theorem dX10_marks_19 : decode cX10_marks 19 = .ok (.bipush 20, 2) := by decide +kernel
theorem dX10_marks_21 : decode cX10_marks 21 = .ok (.invokevirtual 233, 3) := by decide +kernel
theorem dX10_marks_24 : decode cX10_marks 24 = .ok (.iload_n 1, 1) := by decide +kernel
theorem dX10_marks_25 : decode cX10_marks 25 = .ok (.aload_n 0, 1) := by decide +kernel
theorem dX10_marks_26 : decode cX10_marks 26 = .ok (.iload_n 1, 1) := by decide +kernel
theorem dX10_marks_27 : decode cX10_marks 27 = .ok (.invokevirtual 236, 3) := by decide +kernel
theorem dX10_marks_30 : decode cX10_marks 30 = .ok (.isub, 1) := by decide +kernel
theorem dX10_marks_31 : decode cX10_marks 31 = .ok (.ireturn, 1) := by decide +kernel
theorem dX10_marks_32 : decode cX10_marks 32 = .ok (.iload_n 2, 1) := by decide +kernel
theorem dX10_marks_33 : decode cX10_marks 33 = .ok (.iconst 1, 1) := by decide +kernel
theorem dX10_marks_34 : decode cX10_marks 34 = .ok (.if_icmp .le 19, 3) := by decide +kernel
theorem dX10_marks_37 : decode cX10_marks 37 = .ok (.aload_n 0, 1) := by decide +kernel
theorem dX10_marks_38 : decode cX10_marks 38 = .ok (.iload_n 2, 1) := by decide +kernel
theorem dX10_marks_39 : decode cX10_marks 39 = .ok (.iconst 2, 1) := by decide +kernel
theorem dX10_marks_40 : decode cX10_marks 40 = .ok (.if_icmp .ne 8, 3) := by decide +kernel
theorem dX10_marks_43 : decode cX10_marks 43 = .ok (.bipush 24, 2) := by decide +kernel
theorem dX10_marks_45 : decode cX10_marks 45 = .ok (.goto 5, 3) := by decide +kernel
theorem dX10_marks_48 : decode cX10_marks 48 = .ok (.bipush 22, 2) := by decide +kernel
theorem dX10_marks_50 : decode cX10_marks 50 = .ok (.invokevirtual 233, 3) := by decide +kernel
theorem dX10_marks_53 : decode cX10_marks 53 = .ok (.aload_n 0, 1) := by decide +kernel
theorem dX10_marks_54 : decode cX10_marks 54 = .ok (.bipush 21, 2) := by decide +kernel
theorem dX10_marks_56 : decode cX10_marks 56 = .ok (.invokevirtual 233, 3) := by decide +kernel
theorem dX10_marks_59 : decode cX10_marks 59 = .ok (.aload_n 0, 1) := by decide +kernel
theorem dX10_marks_60 : decode cX10_marks 60 = .ok (.bipush 20, 2) := by decide +kernel
theorem dX10_marks_62 : decode cX10_marks 62 = .ok (.invokevirtual 233, 3) := by decide +kernel
theorem dX10_marks_65 : decode cX10_marks 65 = .ok (.iload_n 1, 1) := by decide +kernel
theorem dX10_marks_66 : decode cX10_marks 66 = .ok (.aload_n 0, 1) := by decide +kernel
theorem dX10_marks_67 : decode cX10_marks 67 = .ok (.iload_n 1, 1) := by decide +kernel
theorem dX10_marks_68 : decode cX10_marks 68 = .ok (.iconst 2, 1) := by decide +kernel
theorem dX10_marks_69 : decode cX10_marks 69 = .ok (.invokevirtual 126, 3) := by decide +kernel
theorem dX10_marks_72 : decode cX10_marks 72 = .ok (.iadd, 1) := by decide +kernel
theorem dX10_marks_73 : decode cX10_marks 73 = .ok (.istore_n 3, 1) := by decide +kernel
theorem dX10_marks_74 : decode cX10_marks 74 = .ok (.iload_n 2, 1) := by decide +kernel
theorem dX10_marks_75 : decode cX10_marks 75 = .ok (.iconst 2, 1) := by decide +kernel
theorem dX10_marks_76 : decode cX10_marks 76 = .ok (.if_icmp .ne 9, 3) := by decide +kernel
theorem dX10_marks_79 : decode cX10_marks 79 = .ok (.iconst 2, 1) := by decide +kernel
theorem dX10_marks_80 : decode cX10_marks 80 = .ok (.iload_n 3, 1) := by decide +kernel
theorem dX10_marks_81 : decode cX10_marks 81 = .ok (.imul, 1) := by decide +kernel
theorem dX10_marks_82 : decode cX10_marks 82 = .ok (.goto 17, 3) := by decide +kernel
theorem dX10_marks_85 : decode cX10_marks 85 = .ok (.iload_n 2, 1) := by decide +kernel
theorem dX10_marks_86 : decode cX10_marks 86 = .ok (.iconst 3, 1) := by decide +kernel
theorem dX10_marks_87 : decode cX10_marks 87 = .ok (.if_icmp .ne 11, 3) := by decide +kernel
theorem dX10_marks_90 : decode cX10_marks 90 = .ok (.iload_n 3, 1) := by decide +kernel
theorem dX10_marks_91 : decode cX10_marks 91 = .ok (.sipush 1000, 3) := by decide +kernel
theorem dX10_marks_94 : decode cX10_marks 94 = .ok (.isub, 1) := by decide +kernel
theorem dX10_marks_95 : decode cX10_marks 95 = .ok (.goto 4, 3) := by decide +kernel
theorem dX10_marks_98 : decode cX10_marks 98 = .ok (.iload_n 3, 1) := by decide +kernel
theorem dX10_marks_99 : decode cX10_marks 99 = .ok (.ireturn, 1) := by decide +kernel
theorem dX10_fogs_0 : decode cX10_fogs 0 = .ok (.aload_n 0, 1) := by decide +kernel
theorem dX10_fogs_1 : decode cX10_fogs 1 = .ok (.iload_n 1, 1) := by decide +kernel
theorem dX10_fogs_2 : decode cX10_fogs 2 = .ok (.iconst 0, 1) := by decide +kernel
theorem dX10_fogs_3 : decode cX10_fogs 3 = .ok (.invokevirtual 126, 3) := by decide +kernel
theorem dX10_fogs_6 : decode cX10_fogs 6 = .ok (.iconst 5, 1) := by decide +kernel
theorem dX10_fogs_7 : decode cX10_fogs 7 = .ok (.if_icmp .ne 7, 3) := by decide +kernel
theorem dX10_fogs_10 : decode cX10_fogs 10 = .ok (.iconst 1, 1) := by decide +kernel
theorem dX10_fogs_11 : decode cX10_fogs 11 = .ok (.goto 4, 3) := by decide +kernel
theorem dX10_fogs_14 : decode cX10_fogs 14 = .ok (.iconst 0, 1) := by decide +kernel
theorem dX10_fogs_15 : decode cX10_fogs 15 = .ok (.istore_n 2, 1) := by decide +kernel
theorem dX10_fogs_16 : decode cX10_fogs 16 = .ok (.iload_n 2, 1) := by decide +kernel
theorem dX10_fogs_17 : decode cX10_fogs 17 = .ok (.ifCond .eq 9, 3) := by decide +kernel
theorem dX10_fogs_20 : decode cX10_fogs 20 = .ok (.aload_n 0, 1) := by decide +kernel
theorem dX10_fogs_21 : decode cX10_fogs 21 = .ok (.bipush 14, 2) := by decide +kernel
theorem dX10_fogs_23 : decode cX10_fogs 23 = .ok (.invokevirtual 233, 3) := by decide +kernel
theorem dX10_fogs_26 : decode cX10_fogs 26 = .ok (.aload_n 0, 1) := by decide +kernel
theorem dX10_fogs_27 : decode cX10_fogs 27 = .ok (.bipush 13, 2) := by decide +kernel
theorem dX10_fogs_29 : decode cX10_fogs 29 = .ok (.invokevirtual 233, 3) := by decide +kernel
theorem dX10_fogs_32 : decode cX10_fogs 32 = .ok (.aload_n 0, 1) := by decide +kernel
theorem dX10_fogs_33 : decode cX10_fogs 33 = .ok (.iload_n 1, 1) := by decide +kernel
theorem dX10_fogs_34 : decode cX10_fogs 34 = .ok (.invokevirtual 239, 3) := by decide +kernel
theorem dX10_fogs_37 : decode cX10_fogs 37 = .ok (.bipush 100, 2) := by decide +kernel
theorem dX10_fogs_39 : decode cX10_fogs 39 = .ok (.isub, 1) := by decide +kernel
theorem dX10_fogs_40 : decode cX10_fogs 40 = .ok (.istore_n 3, 1) := by decide +kernel
theorem dX10_fogs_41 : decode cX10_fogs 41 = .ok (.iload_n 2, 1) := by decide +kernel
theorem dX10_fogs_42 : decode cX10_fogs 42 = .ok (.ifCond .eq 9, 3) := by decide +kernel
theorem dX10_fogs_45 : decode cX10_fogs 45 = .ok (.iconst 2, 1) := by decide +kernel
theorem dX10_fogs_46 : decode cX10_fogs 46 = .ok (.iload_n 3, 1) := by decide +kernel
theorem dX10_fogs_47 : decode cX10_fogs 47 = .ok (.imul, 1) := by decide +kernel
theorem dX10_fogs_48 : decode cX10_fogs 48 = .ok (.goto 4, 3) := by decide +kernel
theorem dX10_fogs_51 : decode cX10_fogs 51 = .ok (.iload_n 3, 1) := by decide +kernel
theorem dX10_fogs_52 : decode cX10_fogs 52 = .ok (.ireturn, 1) := by decide +kernel
theorem dX10_sizeOf_0 : decode cX10_sizeOf 0 = .ok (.aload_n 0, 1) := by decide +kernel
theorem dX10_sizeOf_1 : decode cX10_sizeOf 1 = .ok (.iload_n 1, 1) := by decide +kernel
theorem dX10_sizeOf_2 : decode cX10_sizeOf 2 = .ok (.iconst 0, 1) := by decide +kernel
theorem dX10_sizeOf_3 : decode cX10_sizeOf 3 = .ok (.invokevirtual 126, 3) := by decide +kernel
theorem dX10_sizeOf_6 : decode cX10_sizeOf 6 = .ok (.istore_n 2, 1) := by decide +kernel
theorem dX10_sizeOf_7 : decode cX10_sizeOf 7 = .ok (.iload_n 2, 1) := by decide +kernel
theorem dX10_sizeOf_8 : decode cX10_sizeOf 8 = .ok (.iconst 3, 1) := by decide +kernel
theorem dX10_sizeOf_9 : decode cX10_sizeOf 9 = .ok (.if_icmp .le 9, 3) := by decide +kernel
theorem dX10_sizeOf_12 : decode cX10_sizeOf 12 = .ok (.aload_n 0, 1) := by decide +kernel
theorem dX10_sizeOf_13 : decode cX10_sizeOf 13 = .ok (.iload_n 1, 1) := by decide +kernel
theorem dX10_sizeOf_14 : decode cX10_sizeOf 14 = .ok (.invokevirtual 236, 3) := by decide +kernel
theorem dX10_sizeOf_17 : decode cX10_sizeOf 17 = .ok (.ireturn, 1) := by decide +kernel
theorem dX10_sizeOf_18 : decode cX10_sizeOf 18 = .ok (.iload_n 2, 1) := by decide +kernel
theorem dX10_sizeOf_19 : decode cX10_sizeOf 19 = .ok (.iconst 2, 1) := by decide +kernel
theorem dX10_sizeOf_20 : decode cX10_sizeOf 20 = .ok (.if_icmp .ne 9, 3) := by decide +kernel
theorem dX10_sizeOf_23 : decode cX10_sizeOf 23 = .ok (.aload_n 0, 1) := by decide +kernel
theorem dX10_sizeOf_24 : decode cX10_sizeOf 24 = .ok (.bipush 12, 2) := by decide +kernel
theorem dX10_sizeOf_26 : decode cX10_sizeOf 26 = .ok (.invokevirtual 233, 3) := by decide +kernel
theorem dX10_sizeOf_29 : decode cX10_sizeOf 29 = .ok (.aload_n 0, 1) := by decide +kernel
theorem dX10_sizeOf_30 : decode cX10_sizeOf 30 = .ok (.bipush 11, 2) := by decide +kernel
theorem dX10_sizeOf_32 : decode cX10_sizeOf 32 = .ok (.invokevirtual 233, 3) := by decide +kernel
theorem dX10_sizeOf_35 : decode cX10_sizeOf 35 = .ok (.aload_n 0, 1) := by decide +kernel
theorem dX10_sizeOf_36 : decode cX10_sizeOf 36 = .ok (.iload_n 1, 1) := by decide +kernel
theorem dX10_sizeOf_37 : decode cX10_sizeOf 37 = .ok (.invokevirtual 239, 3) := by decide +kernel
theorem dX10_sizeOf_40 : decode cX10_sizeOf 40 = .ok (.istore_n 3, 1) := by decide +kernel
theorem dX10_sizeOf_41 : decode cX10_sizeOf 41 = .ok (.iload_n 3, 1) := by decide +kernel
theorem dX10_sizeOf_42 : decode cX10_sizeOf 42 = .ok (.aload_n 0, 1) := by decide +kernel
theorem dX10_sizeOf_43 : decode cX10_sizeOf 43 = .ok (.iload_n 1, 1) := by decide +kernel
theorem dX10_sizeOf_44 : decode cX10_sizeOf 44 = .ok (.invokevirtual 242, 3) := by decide +kernel
theorem dX10_sizeOf_47 : decode cX10_sizeOf 47 = .ok (.iadd, 1) := by decide +kernel
theorem dX10_sizeOf_48 : decode cX10_sizeOf 48 = .ok (.istore_n 3, 1) := by decide +kernel
theorem dX10_sizeOf_49 : decode cX10_sizeOf 49 = .ok (.iload_n 2, 1) := by decide +kernel
theorem dX10_sizeOf_50 : decode cX10_sizeOf 50 = .ok (.iconst 2, 1) := by decide +kernel
theorem dX10_sizeOf_51 : decode cX10_sizeOf 51 = .ok (.if_icmp .ne 8, 3) := by decide +kernel
theorem dX10_sizeOf_54 : decode cX10_sizeOf 54 = .ok (.iload_n 3, 1) := by decide +kernel
theorem dX10_sizeOf_55 : decode cX10_sizeOf 55 = .ok (.ineg, 1) := by decide +kernel
theorem dX10_sizeOf_56 : decode cX10_sizeOf 56 = .ok (.goto 4, 3) := by decide +kernel
theorem dX10_sizeOf_59 : decode cX10_sizeOf 59 = .ok (.iload_n 3, 1) := by decide +kernel
theorem dX10_sizeOf_60 : decode cX10_sizeOf 60 = .ok (.ireturn, 1) := by decide +kernel
theorem dX10_ask_0 : decode cX10_ask 0 = .ok (.aload_n 0, 1) := by decide +kernel
theorem dX10_ask_1 : decode cX10_ask 1 = .ok (.iload_n 1, 1) := by decide +kernel
theorem dX10_ask_2 : decode cX10_ask 2 = .ok (.invokevirtual 156, 3) := by decide +kernel
theorem dX10_ask_5 : decode cX10_ask 5 = .ok (.ifCond .eq 13, 3) := by decide +kernel
theorem dX10_ask_8 : decode cX10_ask 8 = .ok (.iload_n 2, 1) := by decide +kernel
theorem dX10_ask_9 : decode cX10_ask 9 = .ok (.i2l, 1) := by decide +kernel
theorem dX10_ask_10 : decode cX10_ask 10 = .ok (.lconst 0, 1) := by decide +kernel
theorem dX10_ask_11 : decode cX10_ask 11 = .ok (.lconst 1, 1) := by decide +kernel
theorem dX10_ask_12 : decode cX10_ask 12 = .ok (.invokestatic 50, 3) := by decide +kernel
theorem dX10_ask_15 : decode cX10_ask 15 = .ok (.ifCond .ne 6, 3) := by decide +kernel
theorem dX10_ask_18 : decode cX10_ask 18 = .ok (.ldc 60, 2) := by decide +kernel
theorem dX10_ask_20 : decode cX10_ask 20 = .ok (.ireturn, 1) := by decide +kernel
theorem dX10_ask_21 : decode cX10_ask 21 = .ok (.aload_n 0, 1) := by decide +kernel
theorem dX10_ask_22 : decode cX10_ask 22 = .ok (.iconst 0, 1) := by decide +kernel
theorem dX10_ask_23 : decode cX10_ask 23 = .ok (.putfield 226, 3) := by decide +kernel
theorem dX10_ask_26 : decode cX10_ask 26 = .ok (.iload_n 2, 1) := by decide +kernel
theorem dX10_ask_27 : decode cX10_ask 27 = .ok (.ifCond .ne 11, 3) := by decide +kernel
theorem dX10_ask_30 : decode cX10_ask 30 = .ok (.aload_n 0, 1) := by decide +kernel
theorem dX10_ask_31 : decode cX10_ask 31 = .ok (.iload_n 1, 1) := by decide +kernel
theorem dX10_ask_32 : decode cX10_ask 32 = .ok (.invokevirtual 245, 3) := by decide +kernel
theorem dX10_ask_35 : decode cX10_ask 35 = .ok (.goto 8, 3) := by decide +kernel
theorem dX10_ask_38 : decode cX10_ask 38 = .ok (.aload_n 0, 1) := by decide +kernel
theorem dX10_ask_39 : decode cX10_ask 39 = .ok (.iload_n 1, 1) := by decide +kernel
theorem dX10_ask_40 : decode cX10_ask 40 = .ok (.invokevirtual 242, 3) := by decide +kernel
theorem dX10_ask_43 : decode cX10_ask 43 = .ok (.ireturn, 1) := by decide +kernel
theorem dX10_trace_0 : decode cX10_trace 0 = .ok (.iload_n 1, 1) := by decide +kernel
theorem dX10_trace_1 : decode cX10_trace 1 = .ok (.i2l, 1) := by decide +kernel
theorem dX10_trace_2 : decode cX10_trace 2 = .ok (.lconst 0, 1) := by decide +kernel
theorem dX10_trace_3 : decode cX10_trace 3 = .ok (.aload_n 0, 1) := by decide +kernel
theorem dX10_trace_4 : decode cX10_trace 4 = .ok (.getfield 226, 3) := by decide +kernel
theorem dX10_trace_7 : decode cX10_trace 7 = .ok (.iconst 1, 1) := by decide +kernel
theorem dX10_trace_8 : decode cX10_trace 8 = .ok (.isub, 1) := by decide +kernel
theorem dX10_trace_9 : decode cX10_trace 9 = .ok (.i2l, 1) := by decide +kernel
theorem dX10_trace_10 : decode cX10_trace 10 = .ok (.invokestatic 50, 3) := by decide +kernel
theorem dX10_trace_13 : decode cX10_trace 13 = .ok (.ifCond .eq 12, 3) := by decide +kernel
theorem dX10_trace_16 : decode cX10_trace 16 = .ok (.aload_n 0, 1) := by decide +kernel
theorem dX10_trace_17 : decode cX10_trace 17 = .ok (.getfield 40, 3) := by decide +kernel
theorem dX10_trace_20 : decode cX10_trace 20 = .ok (.iload_n 1, 1) := by decide +kernel
theorem dX10_trace_21 : decode cX10_trace 21 = .ok (.iaload, 1) := by decide +kernel
theorem dX10_trace_22 : decode cX10_trace 22 = .ok (.goto 5, 3) := by decide +kernel
theorem dX10_trace_25 : decode cX10_trace 25 = .ok (.ldc 177, 2) := by decide +kernel
theorem dX10_trace_27 : decode cX10_trace 27 = .ok (.ireturn, 1) := by decide +kernel
theorem dX10_count_0 : decode cX10_count 0 = .ok (.iconst 0, 1) := by decide +kernel
theorem dX10_count_1 : decode cX10_count 1 = .ok (.istore_n 2, 1) := by decide +kernel
theorem dX10_count_2 : decode cX10_count 2 = .ok (.iconst 0, 1) := by decide +kernel
theorem dX10_count_3 : decode cX10_count 3 = .ok (.istore_n 3, 1) := by decide +kernel
theorem dX10_count_4 : decode cX10_count 4 = .ok (.iload_n 3, 1) := by decide +kernel
theorem dX10_count_5 : decode cX10_count 5 = .ok (.bipush 8, 2) := by decide +kernel
theorem dX10_count_7 : decode cX10_count 7 = .ok (.if_icmp .ge 26, 3) := by decide +kernel
theorem dX10_count_10 : decode cX10_count 10 = .ok (.iload_n 2, 1) := by decide +kernel
theorem dX10_count_11 : decode cX10_count 11 = .ok (.aload_n 0, 1) := by decide +kernel
theorem dX10_count_12 : decode cX10_count 12 = .ok (.getfield 7, 3) := by decide +kernel
theorem dX10_count_15 : decode cX10_count 15 = .ok (.iload_n 3, 1) := by decide +kernel
theorem dX10_count_16 : decode cX10_count 16 = .ok (.iaload, 1) := by decide +kernel
theorem dX10_count_17 : decode cX10_count 17 = .ok (.ifCond .ge 7, 3) := by decide +kernel
theorem dX10_count_20 : decode cX10_count 20 = .ok (.iconst 0, 1) := by decide +kernel
theorem dX10_count_21 : decode cX10_count 21 = .ok (.goto 4, 3) := by decide +kernel
theorem dX10_count_24 : decode cX10_count 24 = .ok (.iconst 1, 1) := by decide +kernel
theorem dX10_count_25 : decode cX10_count 25 = .ok (.iadd, 1) := by decide +kernel
theorem dX10_count_26 : decode cX10_count 26 = .ok (.istore_n 2, 1) := by decide +kernel
theorem dX10_count_27 : decode cX10_count 27 = .ok (.iinc 3 1, 3) := by decide +kernel
theorem dX10_count_30 : decode cX10_count 30 = .ok (.goto (-26), 3) := by decide +kernel
theorem dX10_count_33 : decode cX10_count 33 = .ok (.iload_n 1, 1) := by decide +kernel
theorem dX10_count_34 : decode cX10_count 34 = .ok (.tableswitch 89 0 7 #[46, 48, 55, 60, 67, 74, 79, 84], 46) := by decide +kernel
theorem dX10_count_80 : decode cX10_count 80 = .ok (.iload_n 2, 1) := by decide +kernel
theorem dX10_count_81 : decode cX10_count 81 = .ok (.ireturn, 1) := by decide +kernel
theorem dX10_count_82 : decode cX10_count 82 = .ok (.aload_n 0, 1) := by decide +kernel
theorem dX10_count_83 : decode cX10_count 83 = .ok (.getfield 22, 3) := by decide +kernel
theorem dX10_count_86 : decode cX10_count 86 = .ok (.iconst 0, 1) := by decide +kernel
theorem dX10_count_87 : decode cX10_count 87 = .ok (.iaload, 1) := by decide +kernel
theorem dX10_count_88 : decode cX10_count 88 = .ok (.ireturn, 1) := by decide +kernel
theorem dX10_count_89 : decode cX10_count 89 = .ok (.aload_n 0, 1) := by decide +kernel
theorem dX10_count_90 : decode cX10_count 90 = .ok (.invokevirtual 208, 3) := by decide +kernel
theorem dX10_count_93 : decode cX10_count 93 = .ok (.ireturn, 1) := by decide +kernel
theorem dX10_count_94 : decode cX10_count 94 = .ok (.aload_n 0, 1) := by decide +kernel
theorem dX10_count_95 : decode cX10_count 95 = .ok (.getfield 22, 3) := by decide +kernel
theorem dX10_count_98 : decode cX10_count 98 = .ok (.iconst 3, 1) := by decide +kernel
theorem dX10_count_99 : decode cX10_count 99 = .ok (.iaload, 1) := by decide +kernel
theorem dX10_count_100 : decode cX10_count 100 = .ok (.ireturn, 1) := by decide +kernel
theorem dX10_count_101 : decode cX10_count 101 = .ok (.aload_n 0, 1) := by decide +kernel
theorem dX10_count_102 : decode cX10_count 102 = .ok (.getfield 22, 3) := by decide +kernel
theorem dX10_count_105 : decode cX10_count 105 = .ok (.iconst 1, 1) := by decide +kernel
theorem dX10_count_106 : decode cX10_count 106 = .ok (.iaload, 1) := by decide +kernel
theorem dX10_count_107 : decode cX10_count 107 = .ok (.ireturn, 1) := by decide +kernel
theorem dX10_count_108 : decode cX10_count 108 = .ok (.aload_n 0, 1) := by decide +kernel
theorem dX10_count_109 : decode cX10_count 109 = .ok (.invokevirtual 147, 3) := by decide +kernel
theorem dX10_count_112 : decode cX10_count 112 = .ok (.ireturn, 1) := by decide +kernel
theorem dX10_count_113 : decode cX10_count 113 = .ok (.aload_n 0, 1) := by decide +kernel
theorem dX10_count_114 : decode cX10_count 114 = .ok (.getfield 121, 3) := by decide +kernel
theorem dX10_count_117 : decode cX10_count 117 = .ok (.ireturn, 1) := by decide +kernel
theorem dX10_count_118 : decode cX10_count 118 = .ok (.aload_n 0, 1) := by decide +kernel
theorem dX10_count_119 : decode cX10_count 119 = .ok (.getfield 74, 3) := by decide +kernel
theorem dX10_count_122 : decode cX10_count 122 = .ok (.ireturn, 1) := by decide +kernel
theorem dX10_count_123 : decode cX10_count 123 = .ok (.ldc 60, 2) := by decide +kernel
theorem dX10_count_125 : decode cX10_count 125 = .ok (.ireturn, 1) := by decide +kernel
theorem dX10_status_0 : decode cX10_status 0 = .ok (.aload_n 0, 1) := by decide +kernel
theorem dX10_status_1 : decode cX10_status 1 = .ok (.getfield 43, 3) := by decide +kernel
theorem dX10_status_4 : decode cX10_status 4 = .ok (.ireturn, 1) := by decide +kernel
