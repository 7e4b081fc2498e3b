theorem dX4_keeps_0 : decode cX4_keeps 0 = .ok (.aload_n 0, 1) := by decide +kernel
theorem dX4_keeps_1 : decode cX4_keeps 1 = .ok (.iload_n 1, 1) := by decide +kernel
theorem dX4_keeps_2 : decode cX4_keeps 2 = .ok (.invokevirtual 89, 3) := by decide +kernel
theorem dX4_keeps_5 : decode cX4_keeps 5 = .ok (.ifCond .ne 5, 3) := by decide +kernel
theorem dX4_keeps_8 : decode cX4_keeps 8 = .ok (.iconst (-1), 1) := by decide +kernel
theorem dX4_keeps_9 : decode cX4_keeps 9 = .ok (.ireturn, 1) := by decide +kernel
theorem dX4_keeps_10 : decode cX4_keeps 10 = .ok (.aload_n 0, 1) := by decide +kernel
theorem dX4_keeps_11 : decode cX4_keeps 11 = .ok (.getfield 17, 3) := by decide +kernel
theorem dX4_keeps_14 : decode cX4_keeps 14 = .ok (.iload_n 1, 1) := by decide +kernel
theorem dX4_keeps_15 : decode cX4_keeps 15 = .ok (.aaload, 1) := by decide +kernel
theorem dX4_keeps_16 : decode cX4_keeps 16 = .ok (.astore_n 2, 1) := by decide +kernel
theorem dX4_keeps_17 : decode cX4_keeps 17 = .ok (.aload_n 2, 1) := by decide +kernel
theorem dX4_keeps_18 : decode cX4_keeps 18 = .ok (.invokevirtual 101, 3) := by decide +kernel
theorem dX4_keeps_21 : decode cX4_keeps 21 = .ok (.istore_n 3, 1) := by decide +kernel
theorem dX4_keeps_22 : decode cX4_keeps 22 = .ok (.aload_n 2, 1) := by decide +kernel
theorem dX4_keeps_23 : decode cX4_keeps 23 = .ok (.getfield 121, 3) := by decide +kernel
theorem dX4_keeps_26 : decode cX4_keeps 26 = .ok (.aload_n 2, 1) := by decide +kernel
theorem dX4_keeps_27 : decode cX4_keeps 27 = .ok (.getfield 95, 3) := by decide +kernel
theorem dX4_keeps_30 : decode cX4_keeps 30 = .ok (.iaload, 1) := by decide +kernel
theorem dX4_keeps_31 : decode cX4_keeps 31 = .ok (.istore 4, 2) := by decide +kernel
theorem dX4_keeps_33 : decode cX4_keeps 33 = .ok (.aload_n 2, 1) := by decide +kernel
theorem dX4_keeps_34 : decode cX4_keeps 34 = .ok (.getfield 105, 3) := by decide +kernel
theorem dX4_keeps_37 : decode cX4_keeps 37 = .ok (.istore 5, 2) := by decide +kernel
theorem dX4_keeps_39 : decode cX4_keeps 39 = .ok (.iconst 0, 1) := by decide +kernel
theorem dX4_keeps_40 : decode cX4_keeps 40 = .ok (.istore 6, 2) := by decide +kernel
theorem dX4_keeps_42 : decode cX4_keeps 42 = .ok (.iload 4, 2) := by decide +kernel
theorem dX4_keeps_44 : decode cX4_keeps 44 = .ok (.ifCond .le 38, 3) := by decide +kernel
theorem dX4_keeps_47 : decode cX4_keeps 47 = .ok (.iload 6, 2) := by decide +kernel
theorem dX4_keeps_49 : decode cX4_keeps 49 = .ok (.bipush 30, 2) := by decide +kernel
theorem dX4_keeps_51 : decode cX4_keeps 51 = .ok (.if_icmp .ge 31, 3) := by decide +kernel
theorem dX4_keeps_54 : decode cX4_keeps 54 = .ok (.aload_n 0, 1) := by decide +kernel
theorem dX4_keeps_55 : decode cX4_keeps 55 = .ok (.getfield 11, 3) := by decide +kernel
theorem dX4_keeps_58 : decode cX4_keeps 58 = .ok (.iload 5, 2) := by decide +kernel
theorem dX4_keeps_60 : decode cX4_keeps 60 = .ok (.iaload, 1) := by decide +kernel
theorem dX4_keeps_61 : decode cX4_keeps 61 = .ok (.iload_n 3, 1) := by decide +kernel
theorem dX4_keeps_62 : decode cX4_keeps 62 = .ok (.if_icmp .le 6, 3) := by decide +kernel
theorem dX4_keeps_65 : decode cX4_keeps 65 = .ok (.iinc 4 (-1), 3) := by decide +kernel
theorem dX4_keeps_68 : decode cX4_keeps 68 = .ok (.aload_n 0, 1) := by decide +kernel
theorem dX4_keeps_69 : decode cX4_keeps 69 = .ok (.iload 5, 2) := by decide +kernel
theorem dX4_keeps_71 : decode cX4_keeps 71 = .ok (.invokevirtual 155, 3) := by decide +kernel
theorem dX4_keeps_74 : decode cX4_keeps 74 = .ok (.istore 5, 2) := by decide +kernel
theorem dX4_keeps_76 : decode cX4_keeps 76 = .ok (.iinc 6 1, 3) := by decide +kernel
theorem dX4_keeps_79 : decode cX4_keeps 79 = .ok (.goto (-37), 3) := by decide +kernel
theorem dX4_keeps_82 : decode cX4_keeps 82 = .ok (.iload 4, 2) := by decide +kernel
theorem dX4_keeps_84 : decode cX4_keeps 84 = .ok (.ifCond .ne 8, 3) := by decide +kernel
theorem dX4_keeps_87 : decode cX4_keeps 87 = .ok (.iload 6, 2) := by decide +kernel
theorem dX4_keeps_89 : decode cX4_keeps 89 = .ok (.goto 5, 3) := by decide +kernel
theorem dX4_keeps_92 : decode cX4_keeps 92 = .ok (.bipush (-9), 2) := by decide +kernel
theorem dX4_keeps_94 : decode cX4_keeps 94 = .ok (.ireturn, 1) := by decide +kernel
theorem dX4_harbour_0 : decode cX4_harbour 0 = .ok (.aload_n 0, 1) := by decide +kernel
theorem dX4_harbour_1 : decode cX4_harbour 1 = .ok (.iload_n 1, 1) := by decide +kernel
theorem dX4_harbour_2 : decode cX4_harbour 2 = .ok (.invokevirtual 89, 3) := by decide +kernel
theorem dX4_harbour_5 : decode cX4_harbour 5 = .ok (.ifCond .ne 5, 3) := by decide +kernel
theorem dX4_harbour_8 : decode cX4_harbour 8 = .ok (.iconst (-1), 1) := by decide +kernel
theorem dX4_harbour_9 : decode cX4_harbour 9 = .ok (.ireturn, 1) := by decide +kernel
theorem dX4_harbour_10 : decode cX4_harbour 10 = .ok (.iload_n 2, 1) := by decide +kernel
theorem dX4_harbour_11 : decode cX4_harbour 11 = .ok (.bipush 30, 2) := by decide +kernel
theorem dX4_harbour_13 : decode cX4_harbour 13 = .ok (.invokestatic 127, 3) := by decide +kernel
theorem dX4_harbour_16 : decode cX4_harbour 16 = .ok (.ifCond .eq 11, 3) := by decide +kernel
theorem dX4_harbour_19 : decode cX4_harbour 19 = .ok (.iload_n 3, 1) := by decide +kernel
theorem dX4_harbour_20 : decode cX4_harbour 20 = .ok (.iconst 1, 1) := by decide +kernel
theorem dX4_harbour_21 : decode cX4_harbour 21 = .ok (.invokestatic 127, 3) := by decide +kernel
theorem dX4_harbour_24 : decode cX4_harbour 24 = .ok (.ifCond .ne 6, 3) := by decide +kernel
theorem dX4_harbour_27 : decode cX4_harbour 27 = .ok (.bipush (-2), 2) := by decide +kernel
theorem dX4_harbour_29 : decode cX4_harbour 29 = .ok (.ireturn, 1) := by decide +kernel
theorem dX4_harbour_30 : decode cX4_harbour 30 = .ok (.aload_n 0, 1) := by decide +kernel
theorem dX4_harbour_31 : decode cX4_harbour 31 = .ok (.getfield 17, 3) := by decide +kernel
theorem dX4_harbour_34 : decode cX4_harbour 34 = .ok (.iload_n 1, 1) := by decide +kernel
theorem dX4_harbour_35 : decode cX4_harbour 35 = .ok (.aaload, 1) := by decide +kernel
theorem dX4_harbour_36 : decode cX4_harbour 36 = .ok (.astore 4, 2) := by decide +kernel
theorem dX4_harbour_38 : decode cX4_harbour 38 = .ok (.iconst 0, 1) := by decide +kernel
theorem dX4_harbour_39 : decode cX4_harbour 39 = .ok (.istore 5, 2) := by decide +kernel
theorem dX4_harbour_41 : decode cX4_harbour 41 = .ok (.aload_n 0, 1) := by decide +kernel
theorem dX4_harbour_42 : decode cX4_harbour 42 = .ok (.aload 4, 2) := by decide +kernel
theorem dX4_harbour_44 : decode cX4_harbour 44 = .ok (.iconst 0, 1) := by decide +kernel
theorem dX4_harbour_45 : decode cX4_harbour 45 = .ok (.iload_n 2, 1) := by decide +kernel
theorem dX4_harbour_46 : decode cX4_harbour 46 = .ok (.invokevirtual 158, 3) := by decide +kernel
theorem dX4_harbour_49 : decode cX4_harbour 49 = .ok (.istore 6, 2) := by decide +kernel
theorem dX4_harbour_51 : decode cX4_harbour 51 = .ok (.iconst 1, 1) := by decide +kernel
theorem dX4_harbour_52 : decode cX4_harbour 52 = .ok (.istore 7, 2) := by decide +kernel
theorem dX4_harbour_54 : decode cX4_harbour 54 = .ok (.iload 7, 2) := by decide +kernel
theorem dX4_harbour_56 : decode cX4_harbour 56 = .ok (.aload_n 0, 1) := by decide +kernel
theorem dX4_harbour_57 : decode cX4_harbour 57 = .ok (.getfield 162, 3) := by decide +kernel
theorem dX4_harbour_60 : decode cX4_harbour 60 = .ok (.if_icmp .ge 35, 3) := by decide +kernel
theorem dX4_harbour_63 : decode cX4_harbour 63 = .ok (.aload_n 0, 1) := by decide +kernel
theorem dX4_harbour_64 : decode cX4_harbour 64 = .ok (.aload 4, 2) := by decide +kernel
theorem dX4_harbour_66 : decode cX4_harbour 66 = .ok (.iload 7, 2) := by decide +kernel
theorem dX4_harbour_68 : decode cX4_harbour 68 = .ok (.iload_n 2, 1) := by decide +kernel
theorem dX4_harbour_69 : decode cX4_harbour 69 = .ok (.invokevirtual 158, 3) := by decide +kernel
theorem dX4_harbour_72 : decode cX4_harbour 72 = .ok (.istore 8, 2) := by decide +kernel
theorem dX4_harbour_74 : decode cX4_harbour 74 = .ok (.iload 8, 2) := by decide +kernel
theorem dX4_harbour_76 : decode cX4_harbour 76 = .ok (.iload 6, 2) := by decide +kernel
theorem dX4_harbour_78 : decode cX4_harbour 78 = .ok (.if_icmp .ge 11, 3) := by decide +kernel
theorem dX4_harbour_81 : decode cX4_harbour 81 = .ok (.iload 7, 2) := by decide +kernel
theorem dX4_harbour_83 : decode cX4_harbour 83 = .ok (.istore 5, 2) := by decide +kernel
theorem dX4_harbour_85 : decode cX4_harbour 85 = .ok (.iload 8, 2) := by decide +kernel
theorem dX4_harbour_87 : decode cX4_harbour 87 = .ok (.istore 6, 2) := by decide +kernel
theorem dX4_harbour_89 : decode cX4_harbour 89 = .ok (.iinc 7 1, 3) := by decide +kernel
theorem dX4_harbour_92 : decode cX4_harbour 92 = .ok (.goto (-38), 3) := by decide +kernel
theorem dX4_harbour_95 : decode cX4_harbour 95 = .ok (.iload_n 3, 1) := by decide +kernel
theorem dX4_harbour_96 : decode cX4_harbour 96 = .ok (.ifCond .ne 8, 3) := by decide +kernel
theorem dX4_harbour_99 : decode cX4_harbour 99 = .ok (.iload 5, 2) := by decide +kernel
theorem dX4_harbour_101 : decode cX4_harbour 101 = .ok (.goto 5, 3) := by decide +kernel
theorem dX4_harbour_104 : decode cX4_harbour 104 = .ok (.iload 6, 2) := by decide +kernel
theorem dX4_harbour_106 : decode cX4_harbour 106 = .ok (.ireturn, 1) := by decide +kernel
theorem dX4_stow_0 : decode cX4_stow 0 = .ok (.aload_n 0, 1) := by decide +kernel
theorem dX4_stow_1 : decode cX4_stow 1 = .ok (.iload_n 1, 1) := by decide +kernel
theorem dX4_stow_2 : decode cX4_stow 2 = .ok (.invokevirtual 89, 3) := by decide +kernel
theorem dX4_stow_5 : decode cX4_stow 5 = .ok (.ifCond .ne 5, 3) := by decide +kernel
theorem dX4_stow_8 : decode cX4_stow 8 = .ok (.iconst (-1), 1) := by decide +kernel
theorem dX4_stow_9 : decode cX4_stow 9 = .ok (.ireturn, 1) := by decide +kernel
theorem dX4_stow_10 : decode cX4_stow 10 = .ok (.iload_n 2, 1) := by decide +kernel
theorem dX4_stow_11 : decode cX4_stow 11 = .ok (.bipush 30, 2) := by decide +kernel
theorem dX4_stow_13 : decode cX4_stow 13 = .ok (.invokestatic 127, 3) := by decide +kernel
theorem dX4_stow_16 : decode cX4_stow 16 = .ok (.ifCond .eq 12, 3) := by decide +kernel
theorem dX4_stow_19 : decode cX4_stow 19 = .ok (.iload_n 3, 1) := by decide +kernel
theorem dX4_stow_20 : decode cX4_stow 20 = .ok (.bipush 12, 2) := by decide +kernel
theorem dX4_stow_22 : decode cX4_stow 22 = .ok (.invokestatic 127, 3) := by decide +kernel
theorem dX4_stow_25 : decode cX4_stow 25 = .ok (.ifCond .ne 6, 3) := by decide +kernel
theorem dX4_stow_28 : decode cX4_stow 28 = .ok (.bipush (-2), 2) := by decide +kernel
theorem dX4_stow_30 : decode cX4_stow 30 = .ok (.ireturn, 1) := by decide +kernel
theorem dX4_stow_31 : decode cX4_stow 31 = .ok (.iload 4, 2) := by decide +kernel
theorem dX4_stow_33 : decode cX4_stow 33 = .ok (.iconst 1, 1) := by decide +kernel
theorem dX4_stow_34 : decode cX4_stow 34 = .ok (.invokestatic 127, 3) := by decide +kernel
theorem dX4_stow_37 : decode cX4_stow 37 = .ok (.ifCond .ne 17, 3) := by decide +kernel
theorem dX4_stow_40 : decode cX4_stow 40 = .ok (.iload 4, 2) := by decide +kernel
theorem dX4_stow_42 : decode cX4_stow 42 = .ok (.bipush 10, 2) := by decide +kernel
theorem dX4_stow_44 : decode cX4_stow 44 = .ok (.isub, 1) := by decide +kernel
theorem dX4_stow_45 : decode cX4_stow 45 = .ok (.invokestatic 118, 3) := by decide +kernel
theorem dX4_stow_48 : decode cX4_stow 48 = .ok (.ifCond .ne 6, 3) := by decide +kernel
theorem dX4_stow_51 : decode cX4_stow 51 = .ok (.bipush (-2), 2) := by decide +kernel
theorem dX4_stow_53 : decode cX4_stow 53 = .ok (.ireturn, 1) := by decide +kernel
theorem dX4_stow_54 : decode cX4_stow 54 = .ok (.aload_n 0, 1) := by decide +kernel
theorem dX4_stow_55 : decode cX4_stow 55 = .ok (.getfield 17, 3) := by decide +kernel
theorem dX4_stow_58 : decode cX4_stow 58 = .ok (.iload_n 1, 1) := by decide +kernel
theorem dX4_stow_59 : decode cX4_stow 59 = .ok (.aaload, 1) := by decide +kernel
theorem dX4_stow_60 : decode cX4_stow 60 = .ok (.astore 5, 2) := by decide +kernel
theorem dX4_stow_62 : decode cX4_stow 62 = .ok (.aload_n 0, 1) := by decide +kernel
theorem dX4_stow_63 : decode cX4_stow 63 = .ok (.getfield 34, 3) := by decide +kernel
theorem dX4_stow_66 : decode cX4_stow 66 = .ok (.iload_n 3, 1) := by decide +kernel
theorem dX4_stow_67 : decode cX4_stow 67 = .ok (.aload 5, 2) := by decide +kernel
theorem dX4_stow_69 : decode cX4_stow 69 = .ok (.getfield 95, 3) := by decide +kernel
theorem dX4_stow_72 : decode cX4_stow 72 = .ok (.aload_n 0, 1) := by decide +kernel
theorem dX4_stow_73 : decode cX4_stow 73 = .ok (.aload 5, 2) := by decide +kernel
theorem dX4_stow_75 : decode cX4_stow 75 = .ok (.invokevirtual 101, 3) := by decide +kernel
theorem dX4_stow_78 : decode cX4_stow 78 = .ok (.aload 5, 2) := by decide +kernel
theorem dX4_stow_80 : decode cX4_stow 80 = .ok (.getfield 105, 3) := by decide +kernel
theorem dX4_stow_83 : decode cX4_stow 83 = .ok (.iload_n 2, 1) := by decide +kernel
theorem dX4_stow_84 : decode cX4_stow 84 = .ok (.invokevirtual 165, 3) := by decide +kernel
theorem dX4_stow_87 : decode cX4_stow 87 = .ok (.invokevirtual 168, 3) := by decide +kernel
theorem dX4_stow_90 : decode cX4_stow 90 = .ok (.iload 4, 2) := by decide +kernel
theorem dX4_stow_92 : decode cX4_stow 92 = .ok (.ifCond .ne 11, 3) := by decide +kernel
theorem dX4_stow_95 : decode cX4_stow 95 = .ok (.aload_n 0, 1) := by decide +kernel
theorem dX4_stow_96 : decode cX4_stow 96 = .ok (.getfield 34, 3) := by decide +kernel
theorem dX4_stow_99 : decode cX4_stow 99 = .ok (.getfield 172, 3) := by decide +kernel
theorem dX4_stow_102 : decode cX4_stow 102 = .ok (.ireturn, 1) := by decide +kernel
theorem dX4_stow_103 : decode cX4_stow 103 = .ok (.iload 4, 2) := by decide +kernel
theorem dX4_stow_105 : decode cX4_stow 105 = .ok (.iconst 1, 1) := by decide +kernel
theorem dX4_stow_106 : decode cX4_stow 106 = .ok (.if_icmp .ne 13, 3) := by decide +kernel
theorem dX4_stow_109 : decode cX4_stow 109 = .ok (.aload_n 0, 1) := by decide +kernel
theorem dX4_stow_110 : decode cX4_stow 110 = .ok (.getfield 34, 3) := by decide +kernel
theorem dX4_stow_113 : decode cX4_stow 113 = .ok (.getfield 175, 3) := by decide +kernel
theorem dX4_stow_116 : decode cX4_stow 116 = .ok (.goto 16, 3) := by decide +kernel
theorem dX4_stow_119 : decode cX4_stow 119 = .ok (.aload_n 0, 1) := by decide +kernel
theorem dX4_stow_120 : decode cX4_stow 120 = .ok (.getfield 34, 3) := by decide +kernel
theorem dX4_stow_123 : decode cX4_stow 123 = .ok (.getfield 178, 3) := by decide +kernel
theorem dX4_stow_126 : decode cX4_stow 126 = .ok (.iload 4, 2) := by decide +kernel
theorem dX4_stow_128 : decode cX4_stow 128 = .ok (.bipush 10, 2) := by decide +kernel
theorem dX4_stow_130 : decode cX4_stow 130 = .ok (.isub, 1) := by decide +kernel
theorem dX4_stow_131 : decode cX4_stow 131 = .ok (.iaload, 1) := by decide +kernel
theorem dX4_stow_132 : decode cX4_stow 132 = .ok (.ireturn, 1) := by decide +kernel
theorem dX4_cover_0 : decode cX4_cover 0 = .ok (.aload_n 0, 1) := by decide +kernel
theorem dX4_cover_1 : decode cX4_cover 1 = .ok (.invokevirtual 130, 3) := by decide +kernel
theorem dX4_cover_4 : decode cX4_cover 4 = .ok (.ifCond .ne 6, 3) := by decide +kernel
theorem dX4_cover_7 : decode cX4_cover 7 = .ok (.bipush (-3), 2) := by decide +kernel
theorem dX4_cover_9 : decode cX4_cover 9 = .ok (.ireturn, 1) := by decide +kernel
theorem dX4_cover_10 : decode cX4_cover 10 = .ok (.iconst 0, 1) := by decide +kernel
theorem dX4_cover_11 : decode cX4_cover 11 = .ok (.istore_n 1, 1) := by decide +kernel
theorem dX4_cover_12 : decode cX4_cover 12 = .ok (.iconst 0, 1) := by decide +kernel
theorem dX4_cover_13 : decode cX4_cover 13 = .ok (.istore_n 2, 1) := by decide +kernel
theorem dX4_cover_14 : decode cX4_cover 14 = .ok (.iconst 0, 1) := by decide +kernel
theorem dX4_cover_15 : decode cX4_cover 15 = .ok (.istore_n 3, 1) := by decide +kernel
theorem dX4_cover_16 : decode cX4_cover 16 = .ok (.iload_n 3, 1) := by decide +kernel
theorem dX4_cover_17 : decode cX4_cover 17 = .ok (.aload_n 0, 1) := by decide +kernel
theorem dX4_cover_18 : decode cX4_cover 18 = .ok (.getfield 86, 3) := by decide +kernel
theorem dX4_cover_21 : decode cX4_cover 21 = .ok (.if_icmp .ge 40, 3) := by decide +kernel
theorem dX4_cover_24 : decode cX4_cover 24 = .ok (.iconst 1, 1) := by decide +kernel
theorem dX4_cover_25 : decode cX4_cover 25 = .ok (.aload_n 0, 1) := by decide +kernel
theorem dX4_cover_26 : decode cX4_cover 26 = .ok (.getfield 17, 3) := by decide +kernel
theorem dX4_cover_29 : decode cX4_cover 29 = .ok (.iload_n 3, 1) := by decide +kernel
theorem dX4_cover_30 : decode cX4_cover 30 = .ok (.aaload, 1) := by decide +kernel
theorem dX4_cover_31 : decode cX4_cover 31 = .ok (.getfield 95, 3) := by decide +kernel
theorem dX4_cover_34 : decode cX4_cover 34 = .ok (.ishl, 1) := by decide +kernel
theorem dX4_cover_35 : decode cX4_cover 35 = .ok (.istore 4, 2) := by decide +kernel
theorem dX4_cover_37 : decode cX4_cover 37 = .ok (.iload_n 1, 1) := by decide +kernel
theorem dX4_cover_38 : decode cX4_cover 38 = .ok (.iload 4, 2) := by decide +kernel
theorem dX4_cover_40 : decode cX4_cover 40 = .ok (.iand, 1) := by decide +kernel
theorem dX4_cover_41 : decode cX4_cover 41 = .ok (.ifCond .ne 14, 3) := by decide +kernel
theorem dX4_cover_44 : decode cX4_cover 44 = .ok (.iload_n 1, 1) := by decide +kernel
theorem dX4_cover_45 : decode cX4_cover 45 = .ok (.iload 4, 2) := by decide +kernel
theorem dX4_cover_47 : decode cX4_cover 47 = .ok (.ior, 1) := by decide +kernel
theorem dX4_cover_48 : decode cX4_cover 48 = .ok (.istore_n 1, 1) := by decide +kernel
theorem dX4_cover_49 : decode cX4_cover 49 = .ok (.iload_n 2, 1) := by decide +kernel
theorem dX4_cover_50 : decode cX4_cover 50 = .ok (.iconst 1, 1) := by decide +kernel
theorem dX4_cover_51 : decode cX4_cover 51 = .ok (.iload_n 3, 1) := by decide +kernel
theorem dX4_cover_52 : decode cX4_cover 52 = .ok (.ishl, 1) := by decide +kernel
theorem dX4_cover_53 : decode cX4_cover 53 = .ok (.ior, 1) := by decide +kernel
theorem dX4_cover_54 : decode cX4_cover 54 = .ok (.istore_n 2, 1) := by decide +kernel
theorem dX4_cover_55 : decode cX4_cover 55 = .ok (.iinc 3 1, 3) := by decide +kernel
theorem dX4_cover_58 : decode cX4_cover 58 = .ok (.goto (-42), 3) := by decide +kernel
theorem dX4_cover_61 : decode cX4_cover 61 = .ok (.iload_n 2, 1) := by decide +kernel
theorem dX4_cover_62 : decode cX4_cover 62 = .ok (.ireturn, 1) := by decide +kernel
theorem dX4_reading_0 : decode cX4_reading 0 = .ok (.aload_n 0, 1) := by decide +kernel
theorem dX4_reading_1 : decode cX4_reading 1 = .ok (.iload_n 1, 1) := by decide +kernel
theorem dX4_reading_2 : decode cX4_reading 2 = .ok (.invokevirtual 89, 3) := by decide +kernel
theorem dX4_reading_5 : decode cX4_reading 5 = .ok (.ifCond .eq 11, 3) := by decide +kernel
theorem dX4_reading_8 : decode cX4_reading 8 = .ok (.aload_n 0, 1) := by decide +kernel
theorem dX4_reading_9 : decode cX4_reading 9 = .ok (.iload_n 2, 1) := by decide +kernel
theorem dX4_reading_10 : decode cX4_reading 10 = .ok (.invokevirtual 124, 3) := by decide +kernel
theorem dX4_reading_13 : decode cX4_reading 13 = .ok (.ifCond .ne 5, 3) := by decide +kernel
theorem dX4_reading_16 : decode cX4_reading 16 = .ok (.iconst (-1), 1) := by decide +kernel
theorem dX4_reading_17 : decode cX4_reading 17 = .ok (.ireturn, 1) := by decide +kernel
theorem dX4_reading_18 : decode cX4_reading 18 = .ok (.iload_n 3, 1) := by decide +kernel
theorem dX4_reading_19 : decode cX4_reading 19 = .ok (.iconst 1, 1) := by decide +kernel
theorem dX4_reading_20 : decode cX4_reading 20 = .ok (.invokestatic 127, 3) := by decide +kernel
theorem dX4_reading_23 : decode cX4_reading 23 = .ok (.ifCond .ne 6, 3) := by decide +kernel
theorem dX4_reading_26 : decode cX4_reading 26 = .ok (.bipush (-2), 2) := by decide +kernel
theorem dX4_reading_28 : decode cX4_reading 28 = .ok (.ireturn, 1) := by decide +kernel
theorem dX4_reading_29 : decode cX4_reading 29 = .ok (.aload_n 0, 1) := by decide +kernel
theorem dX4_reading_30 : decode cX4_reading 30 = .ok (.getfield 181, 3) := by decide +kernel
theorem dX4_reading_33 : decode cX4_reading 33 = .ok (.bipush 8, 2) := by decide +kernel
theorem dX4_reading_35 : decode cX4_reading 35 = .ok (.if_icmp .lt 6, 3) := by decide +kernel
theorem dX4_reading_38 : decode cX4_reading 38 = .ok (.bipush (-4), 2) := by decide +kernel
theorem dX4_reading_40 : decode cX4_reading 40 = .ok (.ireturn, 1) := by decide +kernel
theorem dX4_reading_41 : decode cX4_reading 41 = .ok (.aload_n 0, 1) := by decide +kernel
theorem dX4_reading_42 : decode cX4_reading 42 = .ok (.getfield 41, 3) := by decide +kernel
theorem dX4_reading_45 : decode cX4_reading 45 = .ok (.aload_n 0, 1) := by decide +kernel
theorem dX4_reading_46 : decode cX4_reading 46 = .ok (.getfield 181, 3) := by decide +kernel
theorem dX4_reading_49 : decode cX4_reading 49 = .ok (.iload_n 1, 1) := by decide +kernel
theorem dX4_reading_50 : decode cX4_reading 50 = .ok (.iastore, 1) := by decide +kernel
theorem dX4_reading_51 : decode cX4_reading 51 = .ok (.aload_n 0, 1) := by decide +kernel
theorem dX4_reading_52 : decode cX4_reading 52 = .ok (.getfield 44, 3) := by decide +kernel
theorem dX4_reading_55 : decode cX4_reading 55 = .ok (.aload_n 0, 1) := by decide +kernel
theorem dX4_reading_56 : decode cX4_reading 56 = .ok (.getfield 181, 3) := by decide +kernel
theorem dX4_reading_59 : decode cX4_reading 59 = .ok (.iload_n 2, 1) := by decide +kernel
theorem dX4_reading_60 : decode cX4_reading 60 = .ok (.iastore, 1) := by decide +kernel
theorem dX4_reading_61 : decode cX4_reading 61 = .ok (.aload_n 0, 1) := by decide +kernel
theorem dX4_reading_62 : decode cX4_reading 62 = .ok (.getfield 47, 3) := by decide +kernel
theorem dX4_reading_65 : decode cX4_reading 65 = .ok (.aload_n 0, 1) := by decide +kernel
theorem dX4_reading_66 : decode cX4_reading 66 = .ok (.getfield 181, 3) := by decide +kernel
theorem dX4_reading_69 : decode cX4_reading 69 = .ok (.iload_n 3, 1) := by decide +kernel
theorem dX4_reading_70 : decode cX4_reading 70 = .ok (.iastore, 1) := by decide +kernel
theorem dX4_reading_71 : decode cX4_reading 71 = .ok (.aload_n 0, 1) := by decide +kernel
theorem dX4_reading_72 : decode cX4_reading 72 = .ok (.dup, 1) := by decide +kernel
theorem dX4_reading_73 : decode cX4_reading 73 = .ok (.getfield 181, 3) := by decide +kernel
theorem dX4_reading_76 : decode cX4_reading 76 = .ok (.iconst 1, 1) := by decide +kernel
theorem dX4_reading_77 : decode cX4_reading 77 = .ok (.iadd, 1) := by decide +kernel
theorem dX4_reading_78 : decode cX4_reading 78 = .ok (.putfield 181, 3) := by decide +kernel
theorem dX4_reading_81 : decode cX4_reading 81 = .ok (.aload_n 0, 1) := by decide +kernel
theorem dX4_reading_82 : decode cX4_reading 82 = .ok (.getfield 181, 3) := by decide +kernel
theorem dX4_reading_85 : decode cX4_reading 85 = .ok (.iconst 1, 1) := by decide +kernel
theorem dX4_reading_86 : decode cX4_reading 86 = .ok (.isub, 1) := by decide +kernel
theorem dX4_reading_87 : decode cX4_reading 87 = .ok (.ireturn, 1) := by decide +kernel
theorem dX4_back_0 : decode cX4_back 0 = .ok (.iload_n 1, 1) := by decide +kernel
theorem dX4_back_1 : decode cX4_back 1 = .ok (.aload_n 0, 1) := by decide +kernel
theorem dX4_back_2 : decode cX4_back 2 = .ok (.getfield 181, 3) := by decide +kernel
theorem dX4_back_5 : decode cX4_back 5 = .ok (.invokestatic 127, 3) := by decide +kernel
theorem dX4_back_8 : decode cX4_back 8 = .ok (.ifCond .ne 6, 3) := by decide +kernel
theorem dX4_back_11 : decode cX4_back 11 = .ok (.bipush (-2), 2) := by decide +kernel
theorem dX4_back_13 : decode cX4_back 13 = .ok (.ireturn, 1) := by decide +kernel
theorem dX4_back_14 : decode cX4_back 14 = .ok (.aload_n 0, 1) := by decide +kernel
theorem dX4_back_15 : decode cX4_back 15 = .ok (.dup, 1) := by decide +kernel
theorem dX4_back_16 : decode cX4_back 16 = .ok (.getfield 181, 3) := by decide +kernel
theorem dX4_back_19 : decode cX4_back 19 = .ok (.iload_n 1, 1) := by decide +kernel
theorem dX4_back_20 : decode cX4_back 20 = .ok (.isub, 1) := by decide +kernel
theorem dX4_back_21 : decode cX4_back 21 = .ok (.putfield 181, 3) := by decide +kernel
theorem dX4_back_24 : decode cX4_back 24 = .ok (.aload_n 0, 1) := by decide +kernel
theorem dX4_back_25 : decode cX4_back 25 = .ok (.getfield 181, 3) := by decide +kernel
theorem dX4_back_28 : decode cX4_back 28 = .ok (.ireturn, 1) := by decide +kernel
theorem dX4_strengths_0 : decode cX4_strengths 0 = .ok (.aload_n 0, 1) := by decide +kernel
theorem dX4_strengths_1 : decode cX4_strengths 1 = .ok (.iload_n 1, 1) := by decide +kernel
theorem dX4_strengths_2 : decode cX4_strengths 2 = .ok (.invokevirtual 89, 3) := by decide +kernel
theorem dX4_strengths_5 : decode cX4_strengths 5 = .ok (.ifCond .ne 5, 3) := by decide +kernel
theorem dX4_strengths_8 : decode cX4_strengths 8 = .ok (.iconst (-1), 1) := by decide +kernel
theorem dX4_strengths_9 : decode cX4_strengths 9 = .ok (.ireturn, 1) := by decide +kernel
theorem dX4_strengths_10 : decode cX4_strengths 10 = .ok (.iconst 0, 1) := by decide +kernel
theorem dX4_strengths_11 : decode cX4_strengths 11 = .ok (.istore_n 2, 1) := by decide +kernel
theorem dX4_strengths_12 : decode cX4_strengths 12 = .ok (.iconst 0, 1) := by decide +kernel
theorem dX4_strengths_13 : decode cX4_strengths 13 = .ok (.istore_n 3, 1) := by decide +kernel
theorem dX4_strengths_14 : decode cX4_strengths 14 = .ok (.iload_n 3, 1) := by decide +kernel
theorem dX4_strengths_15 : decode cX4_strengths 15 = .ok (.bipush 9, 2) := by decide +kernel
theorem dX4_strengths_17 : decode cX4_strengths 17 = .ok (.if_icmp .gt 36, 3) := by decide +kernel
theorem dX4_strengths_20 : decode cX4_strengths 20 = .ok (.aload_n 0, 1) := by decide +kernel
theorem dX4_strengths_21 : decode cX4_strengths 21 = .ok (.iload_n 1, 1) := by decide +kernel
theorem dX4_strengths_22 : decode cX4_strengths 22 = .ok (.aload_n 0, 1) := by decide +kernel
theorem dX4_strengths_23 : decode cX4_strengths 23 = .ok (.getfield 17, 3) := by decide +kernel
theorem dX4_strengths_26 : decode cX4_strengths 26 = .ok (.iload_n 1, 1) := by decide +kernel
theorem dX4_strengths_27 : decode cX4_strengths 27 = .ok (.aaload, 1) := by decide +kernel
theorem dX4_strengths_28 : decode cX4_strengths 28 = .ok (.getfield 92, 3) := by decide +kernel
theorem dX4_strengths_31 : decode cX4_strengths 31 = .ok (.iload_n 3, 1) := by decide +kernel
theorem dX4_strengths_32 : decode cX4_strengths 32 = .ok (.invokestatic 184, 3) := by decide +kernel
theorem dX4_strengths_35 : decode cX4_strengths 35 = .ok (.invokevirtual 188, 3) := by decide +kernel
theorem dX4_strengths_38 : decode cX4_strengths 38 = .ok (.ifCond .eq 9, 3) := by decide +kernel
theorem dX4_strengths_41 : decode cX4_strengths 41 = .ok (.iload_n 2, 1) := by decide +kernel
theorem dX4_strengths_42 : decode cX4_strengths 42 = .ok (.iconst 1, 1) := by decide +kernel
theorem dX4_strengths_43 : decode cX4_strengths 43 = .ok (.iload_n 3, 1) := by decide +kernel
theorem dX4_strengths_44 : decode cX4_strengths 44 = .ok (.ishl, 1) := by decide +kernel
theorem dX4_strengths_45 : decode cX4_strengths 45 = .ok (.ior, 1) := by decide +kernel
theorem dX4_strengths_46 : decode cX4_strengths 46 = .ok (.istore_n 2, 1) := by decide +kernel
theorem dX4_strengths_47 : decode cX4_strengths 47 = .ok (.iinc 3 1, 3) := by decide +kernel
theorem dX4_strengths_50 : decode cX4_strengths 50 = .ok (.goto (-36), 3) := by decide +kernel
theorem dX4_strengths_53 : decode cX4_strengths 53 = .ok (.iload_n 2, 1) := by decide +kernel
theorem dX4_strengths_54 : decode cX4_strengths 54 = .ok (.ireturn, 1) := by decide +kernel
theorem dX4_kinds_0 : decode cX4_kinds 0 = .ok (.aload_n 0, 1) := by decide +kernel
theorem dX4_kinds_1 : decode cX4_kinds 1 = .ok (.iload_n 1, 1) := by decide +kernel
theorem dX4_kinds_2 : decode cX4_kinds 2 = .ok (.invokevirtual 89, 3) := by decide +kernel
theorem dX4_kinds_5 : decode cX4_kinds 5 = .ok (.ifCond .ne 5, 3) := by decide +kernel
theorem dX4_kinds_8 : decode cX4_kinds 8 = .ok (.iconst (-1), 1) := by decide +kernel
theorem dX4_kinds_9 : decode cX4_kinds 9 = .ok (.ireturn, 1) := by decide +kernel
theorem dX4_kinds_10 : decode cX4_kinds 10 = .ok (.iconst 0, 1) := by decide +kernel
theorem dX4_kinds_11 : decode cX4_kinds 11 = .ok (.istore_n 2, 1) := by decide +kernel
theorem dX4_kinds_12 : decode cX4_kinds 12 = .ok (.iconst 0, 1) := by decide +kernel
theorem dX4_kinds_13 : decode cX4_kinds 13 = .ok (.istore_n 3, 1) := by decide +kernel
theorem dX4_kinds_14 : decode cX4_kinds 14 = .ok (.iload_n 3, 1) := by decide +kernel
theorem dX4_kinds_15 : decode cX4_kinds 15 = .ok (.iconst 3, 1) := by decide +kernel
theorem dX4_kinds_16 : decode cX4_kinds 16 = .ok (.if_icmp .ge 36, 3) := by decide +kernel
theorem dX4_kinds_19 : decode cX4_kinds 19 = .ok (.aload_n 0, 1) := by decide +kernel
theorem dX4_kinds_20 : decode cX4_kinds 20 = .ok (.iload_n 1, 1) := by decide +kernel
theorem dX4_kinds_21 : decode cX4_kinds 21 = .ok (.iload_n 3, 1) := by decide +kernel
theorem dX4_kinds_22 : decode cX4_kinds 22 = .ok (.aload_n 0, 1) := by decide +kernel
theorem dX4_kinds_23 : decode cX4_kinds 23 = .ok (.getfield 17, 3) := by decide +kernel
theorem dX4_kinds_26 : decode cX4_kinds 26 = .ok (.iload_n 1, 1) := by decide +kernel
theorem dX4_kinds_27 : decode cX4_kinds 27 = .ok (.aaload, 1) := by decide +kernel
theorem dX4_kinds_28 : decode cX4_kinds 28 = .ok (.getfield 98, 3) := by decide +kernel
theorem dX4_kinds_31 : decode cX4_kinds 31 = .ok (.invokestatic 184, 3) := by decide +kernel
theorem dX4_kinds_34 : decode cX4_kinds 34 = .ok (.invokevirtual 188, 3) := by decide +kernel
theorem dX4_kinds_37 : decode cX4_kinds 37 = .ok (.ifCond .eq 9, 3) := by decide +kernel
theorem dX4_kinds_40 : decode cX4_kinds 40 = .ok (.iload_n 2, 1) := by decide +kernel
theorem dX4_kinds_41 : decode cX4_kinds 41 = .ok (.iconst 1, 1) := by decide +kernel
theorem dX4_kinds_42 : decode cX4_kinds 42 = .ok (.iload_n 3, 1) := by decide +kernel
theorem dX4_kinds_43 : decode cX4_kinds 43 = .ok (.ishl, 1) := by decide +kernel
theorem dX4_kinds_44 : decode cX4_kinds 44 = .ok (.ior, 1) := by decide +kernel
theorem dX4_kinds_45 : decode cX4_kinds 45 = .ok (.istore_n 2, 1) := by decide +kernel
theorem dX4_kinds_46 : decode cX4_kinds 46 = .ok (.iinc 3 1, 3) := by decide +kernel
theorem dX4_kinds_49 : decode cX4_kinds 49 = .ok (.goto (-35), 3) := by decide +kernel
theorem dX4_kinds_52 : decode cX4_kinds 52 = .ok (.iload_n 2, 1) := by decide +kernel
theorem dX4_kinds_53 : decode cX4_kinds 53 = .ok (.ireturn, 1) := by decide +kernel
theorem dX4_names_0 : decode cX4_names 0 = .ok (.aload_n 0, 1) := by decide +kernel
theorem dX4_names_1 : decode cX4_names 1 = .ok (.iconst 0, 1) := by decide +kernel
theorem dX4_names_2 : decode cX4_names 2 = .ok (.putfield 58, 3) := by decide +kernel
theorem dX4_names_5 : decode cX4_names 5 = .ok (.iload_n 1, 1) := by decide +kernel
theorem dX4_names_6 : decode cX4_names 6 = .ok (.invokestatic 62, 3) := by decide +kernel
theorem dX4_names_9 : decode cX4_names 9 = .ok (.ifCond .eq 12, 3) := by decide +kernel
theorem dX4_names_12 : decode cX4_names 12 = .ok (.aload_n 0, 1) := by decide +kernel
theorem dX4_names_13 : decode cX4_names 13 = .ok (.iload 4, 2) := by decide +kernel
theorem dX4_names_15 : decode cX4_names 15 = .ok (.invokevirtual 89, 3) := by decide +kernel
theorem dX4_names_18 : decode cX4_names 18 = .ok (.ifCond .ne 5, 3) := by decide +kernel
theorem dX4_names_21 : decode cX4_names 21 = .ok (.iconst (-1), 1) := by decide +kernel
theorem dX4_names_22 : decode cX4_names 22 = .ok (.ireturn, 1) := by decide +kernel
theorem dX4_names_23 : decode cX4_names 23 = .ok (.iload_n 2, 1) := by decide +kernel
theorem dX4_names_24 : decode cX4_names 24 = .ok (.iconst 3, 1) := by decide +kernel
theorem dX4_names_25 : decode cX4_names 25 = .ok (.invokestatic 66, 3) := by decide +kernel
theorem dX4_names_28 : decode cX4_names 28 = .ok (.ifCond .eq 13, 3) := by decide +kernel
theorem dX4_names_31 : decode cX4_names 31 = .ok (.iload 5, 2) := by decide +kernel
theorem dX4_names_33 : decode cX4_names 33 = .ok (.bipush 30, 2) := by decide +kernel
theorem dX4_names_35 : decode cX4_names 35 = .ok (.invokestatic 127, 3) := by decide +kernel
theorem dX4_names_38 : decode cX4_names 38 = .ok (.ifCond .ne 6, 3) := by decide +kernel
theorem dX4_names_41 : decode cX4_names 41 = .ok (.bipush (-2), 2) := by decide +kernel
theorem dX4_names_43 : decode cX4_names 43 = .ok (.ireturn, 1) := by decide +kernel
theorem dX4_names_44 : decode cX4_names 44 = .ok (.aload_n 0, 1) := by decide +kernel
theorem dX4_names_45 : decode cX4_names 45 = .ok (.getfield 52, 3) := by decide +kernel
theorem dX4_names_48 : decode cX4_names 48 = .ok (.iload_n 1, 1) := by decide +kernel
theorem dX4_names_49 : decode cX4_names 49 = .ok (.aaload, 1) := by decide +kernel
theorem dX4_names_50 : decode cX4_names 50 = .ok (.astore 6, 2) := by decide +kernel
theorem dX4_names_52 : decode cX4_names 52 = .ok (.aload 6, 2) := by decide +kernel
theorem dX4_names_54 : decode cX4_names 54 = .ok (.iload_n 2, 1) := by decide +kernel
theorem dX4_names_55 : decode cX4_names 55 = .ok (.iload_n 3, 1) := by decide +kernel
theorem dX4_names_56 : decode cX4_names 56 = .ok (.iconst 4, 1) := by decide +kernel
theorem dX4_names_57 : decode cX4_names 57 = .ok (.invokevirtual 70, 3) := by decide +kernel
theorem dX4_names_60 : decode cX4_names 60 = .ok (.istore 7, 2) := by decide +kernel
theorem dX4_names_62 : decode cX4_names 62 = .ok (.iload 7, 2) := by decide +kernel
theorem dX4_names_64 : decode cX4_names 64 = .ok (.ifCond .eq 10, 3) := by decide +kernel
theorem dX4_names_67 : decode cX4_names 67 = .ok (.aload_n 0, 1) := by decide +kernel
theorem dX4_names_68 : decode cX4_names 68 = .ok (.iload 7, 2) := by decide +kernel
theorem dX4_names_70 : decode cX4_names 70 = .ok (.invokevirtual 74, 3) := by decide +kernel
theorem dX4_names_73 : decode cX4_names 73 = .ok (.ireturn, 1) := by decide +kernel
theorem dX4_names_74 : decode cX4_names 74 = .ok (.aload_n 0, 1) := by decide +kernel
theorem dX4_names_75 : decode cX4_names 75 = .ok (.getfield 17, 3) := by decide +kernel
theorem dX4_names_78 : decode cX4_names 78 = .ok (.iload 4, 2) := by decide +kernel
theorem dX4_names_80 : decode cX4_names 80 = .ok (.aaload, 1) := by decide +kernel
theorem dX4_names_81 : decode cX4_names 81 = .ok (.astore 8, 2) := by decide +kernel
theorem dX4_names_83 : decode cX4_names 83 = .ok (.aload_n 0, 1) := by decide +kernel
theorem dX4_names_84 : decode cX4_names 84 = .ok (.aload 8, 2) := by decide +kernel
theorem dX4_names_86 : decode cX4_names 86 = .ok (.invokevirtual 101, 3) := by decide +kernel
theorem dX4_names_89 : decode cX4_names 89 = .ok (.aload 8, 2) := by decide +kernel
theorem dX4_names_91 : decode cX4_names 91 = .ok (.getfield 105, 3) := by decide +kernel
theorem dX4_names_94 : decode cX4_names 94 = .ok (.iload 5, 2) := by decide +kernel
theorem dX4_names_96 : decode cX4_names 96 = .ok (.invokevirtual 165, 3) := by decide +kernel
theorem dX4_names_99 : decode cX4_names 99 = .ok (.istore 9, 2) := by decide +kernel
theorem dX4_names_101 : decode cX4_names 101 = .ok (.iconst 0, 1) := by decide +kernel
theorem dX4_names_102 : decode cX4_names 102 = .ok (.istore 10, 2) := by decide +kernel
theorem dX4_names_104 : decode cX4_names 104 = .ok (.iconst 0, 1) := by decide +kernel
theorem dX4_names_105 : decode cX4_names 105 = .ok (.istore 11, 2) := by decide +kernel
theorem dX4_names_107 : decode cX4_names 107 = .ok (.iload 11, 2) := by decide +kernel
theorem dX4_names_109 : decode cX4_names 109 = .ok (.iconst 4, 1) := by decide +kernel
theorem dX4_names_110 : decode cX4_names 110 = .ok (.if_icmp .ge 47, 3) := by decide +kernel
theorem dX4_names_113 : decode cX4_names 113 = .ok (.aload 8, 2) := by decide +kernel
theorem dX4_names_115 : decode cX4_names 115 = .ok (.getfield 121, 3) := by decide +kernel
theorem dX4_names_118 : decode cX4_names 118 = .ok (.iload 11, 2) := by decide +kernel
theorem dX4_names_120 : decode cX4_names 120 = .ok (.iload 9, 2) := by decide +kernel
theorem dX4_names_122 : decode cX4_names 122 = .ok (.aload_n 0, 1) := by decide +kernel
theorem dX4_names_123 : decode cX4_names 123 = .ok (.getfield 38, 3) := by decide +kernel
theorem dX4_names_126 : decode cX4_names 126 = .ok (.invokestatic 191, 3) := by decide +kernel
theorem dX4_names_129 : decode cX4_names 129 = .ok (.aload 6, 2) := by decide +kernel
theorem dX4_names_131 : decode cX4_names 131 = .ok (.iload_n 3, 1) := by decide +kernel
theorem dX4_names_132 : decode cX4_names 132 = .ok (.aload_n 0, 1) := by decide +kernel
theorem dX4_names_133 : decode cX4_names 133 = .ok (.getfield 38, 3) := by decide +kernel
theorem dX4_names_136 : decode cX4_names 136 = .ok (.invokevirtual 195, 3) := by decide +kernel
theorem dX4_names_139 : decode cX4_names 139 = .ok (.ifCond .eq 12, 3) := by decide +kernel
theorem dX4_names_142 : decode cX4_names 142 = .ok (.iload 10, 2) := by decide +kernel
theorem dX4_names_144 : decode cX4_names 144 = .ok (.iconst 1, 1) := by decide +kernel
theorem dX4_names_145 : decode cX4_names 145 = .ok (.iload 11, 2) := by decide +kernel
theorem dX4_names_147 : decode cX4_names 147 = .ok (.ishl, 1) := by decide +kernel
theorem dX4_names_148 : decode cX4_names 148 = .ok (.ior, 1) := by decide +kernel
theorem dX4_names_149 : decode cX4_names 149 = .ok (.istore 10, 2) := by decide +kernel
theorem dX4_names_151 : decode cX4_names 151 = .ok (.iinc 11 1, 3) := by decide +kernel
theorem dX4_names_154 : decode cX4_names 154 = .ok (.goto (-47), 3) := by decide +kernel
theorem dX4_names_157 : decode cX4_names 157 = .ok (.iload 10, 2) := by decide +kernel
theorem dX4_names_159 : decode cX4_names 159 = .ok (.ireturn, 1) := by decide +kernel
theorem dX4_odds_0 : decode cX4_odds 0 = .ok (.aload_n 0, 1) := by decide +kernel
theorem dX4_odds_1 : decode cX4_odds 1 = .ok (.iload_n 1, 1) := by decide +kernel
theorem dX4_odds_2 : decode cX4_odds 2 = .ok (.invokevirtual 89, 3) := by decide +kernel
theorem dX4_odds_5 : decode cX4_odds 5 = .ok (.ifCond .eq 18, 3) := by decide +kernel
theorem dX4_odds_8 : decode cX4_odds 8 = .ok (.iload_n 2, 1) := by decide +kernel
theorem dX4_odds_9 : decode cX4_odds 9 = .ok (.invokestatic 118, 3) := by decide +kernel
theorem dX4_odds_12 : decode cX4_odds 12 = .ok (.ifCond .eq 11, 3) := by decide +kernel
theorem dX4_odds_15 : decode cX4_odds 15 = .ok (.iload_n 3, 1) := by decide +kernel
theorem dX4_odds_16 : decode cX4_odds 16 = .ok (.iconst 1, 1) := by decide +kernel
theorem dX4_odds_17 : decode cX4_odds 17 = .ok (.invokestatic 127, 3) := by decide +kernel
theorem dX4_odds_20 : decode cX4_odds 20 = .ok (.ifCond .ne 7, 3) := by decide +kernel
theorem dX4_odds_23 : decode cX4_odds 23 = .ok (.ldc2_w 199, 3) := by decide +kernel
theorem dX4_odds_26 : decode cX4_odds 26 = .ok (.lreturn, 1) := by decide +kernel
theorem dX4_odds_27 : decode cX4_odds 27 = .ok (.aload_n 0, 1) := by decide +kernel
theorem dX4_odds_28 : decode cX4_odds 28 = .ok (.getfield 17, 3) := by decide +kernel
theorem dX4_odds_31 : decode cX4_odds 31 = .ok (.iload_n 1, 1) := by decide +kernel
theorem dX4_odds_32 : decode cX4_odds 32 = .ok (.aaload, 1) := by decide +kernel
theorem dX4_odds_33 : decode cX4_odds 33 = .ok (.astore 4, 2) := by decide +kernel
theorem dX4_odds_35 : decode cX4_odds 35 = .ok (.aload 4, 2) := by decide +kernel
theorem dX4_odds_37 : decode cX4_odds 37 = .ok (.invokevirtual 201, 3) := by decide +kernel
theorem dX4_odds_40 : decode cX4_odds 40 = .ok (.iload_n 2, 1) := by decide +kernel
theorem dX4_odds_41 : decode cX4_odds 41 = .ok (.if_icmp .ne 15, 3) := by decide +kernel
theorem dX4_odds_44 : decode cX4_odds 44 = .ok (.aload_n 0, 1) := by decide +kernel
theorem dX4_odds_45 : decode cX4_odds 45 = .ok (.aload 4, 2) := by decide +kernel
theorem dX4_odds_47 : decode cX4_odds 47 = .ok (.invokevirtual 101, 3) := by decide +kernel
theorem dX4_odds_50 : decode cX4_odds 50 = .ok (.invokevirtual 204, 3) := by decide +kernel
theorem dX4_odds_53 : decode cX4_odds 53 = .ok (.goto 4, 3) := by decide +kernel
theorem dX4_odds_56 : decode cX4_odds 56 = .ok (.iconst 0, 1) := by decide +kernel
theorem dX4_odds_57 : decode cX4_odds 57 = .ok (.istore 5, 2) := by decide +kernel
theorem dX4_odds_59 : decode cX4_odds 59 = .ok (.iload 5, 2) := by decide +kernel
theorem dX4_odds_61 : decode cX4_odds 61 = .ok (.aload_n 0, 1) := by decide +kernel
theorem dX4_odds_62 : decode cX4_odds 62 = .ok (.getfield 162, 3) := by decide +kernel
theorem dX4_odds_65 : decode cX4_odds 65 = .ok (.iload_n 3, 1) := by decide +kernel
theorem dX4_odds_66 : decode cX4_odds 66 = .ok (.invokestatic 207, 3) := by decide +kernel
theorem dX4_odds_69 : decode cX4_odds 69 = .ok (.lreturn, 1) := by decide +kernel
theorem dX4_premium_0 : decode cX4_premium 0 = .ok (.aload_n 0, 1) := by decide +kernel
theorem dX4_premium_1 : decode cX4_premium 1 = .ok (.iload_n 1, 1) := by decide +kernel
theorem dX4_premium_2 : decode cX4_premium 2 = .ok (.invokevirtual 89, 3) := by decide +kernel
theorem dX4_premium_5 : decode cX4_premium 5 = .ok (.ifCond .eq 11, 3) := by decide +kernel
theorem dX4_premium_8 : decode cX4_premium 8 = .ok (.iload_n 2, 1) := by decide +kernel
theorem dX4_premium_9 : decode cX4_premium 9 = .ok (.iconst 1, 1) := by decide +kernel
theorem dX4_premium_10 : decode cX4_premium 10 = .ok (.invokestatic 127, 3) := by decide +kernel
theorem dX4_premium_13 : decode cX4_premium 13 = .ok (.ifCond .ne 7, 3) := by decide +kernel
theorem dX4_premium_16 : decode cX4_premium 16 = .ok (.ldc2_w 199, 3) := by decide +kernel
theorem dX4_premium_19 : decode cX4_premium 19 = .ok (.lreturn, 1) := by decide +kernel
theorem dX4_premium_20 : decode cX4_premium 20 = .ok (.aload_n 0, 1) := by decide +kernel
theorem dX4_premium_21 : decode cX4_premium 21 = .ok (.getfield 17, 3) := by decide +kernel
theorem dX4_premium_24 : decode cX4_premium 24 = .ok (.iload_n 1, 1) := by decide +kernel
theorem dX4_premium_25 : decode cX4_premium 25 = .ok (.aaload, 1) := by decide +kernel
theorem dX4_premium_26 : decode cX4_premium 26 = .ok (.astore_n 3, 1) := by decide +kernel
theorem dX4_premium_27 : decode cX4_premium 27 = .ok (.aload_n 3, 1) := by decide +kernel
theorem dX4_premium_28 : decode cX4_premium 28 = .ok (.invokevirtual 201, 3) := by decide +kernel
theorem dX4_premium_31 : decode cX4_premium 31 = .ok (.istore 4, 2) := by decide +kernel
theorem dX4_premium_33 : decode cX4_premium 33 = .ok (.iload 4, 2) := by decide +kernel
theorem dX4_premium_35 : decode cX4_premium 35 = .ok (.bipush (-9), 2) := by decide +kernel
theorem dX4_premium_37 : decode cX4_premium 37 = .ok (.if_icmp .ne 7, 3) := by decide +kernel
theorem dX4_premium_40 : decode cX4_premium 40 = .ok (.iconst 0, 1) := by decide +kernel
theorem dX4_premium_41 : decode cX4_premium 41 = .ok (.goto 17, 3) := by decide +kernel
theorem dX4_premium_44 : decode cX4_premium 44 = .ok (.aload_n 0, 1) := by decide +kernel
theorem dX4_premium_45 : decode cX4_premium 45 = .ok (.aload_n 3, 1) := by decide +kernel
theorem dX4_premium_46 : decode cX4_premium 46 = .ok (.invokevirtual 101, 3) := by decide +kernel
theorem dX4_premium_49 : decode cX4_premium 49 = .ok (.invokevirtual 204, 3) := by decide +kernel
theorem dX4_premium_52 : decode cX4_premium 52 = .ok (.iload 4, 2) := by decide +kernel
theorem dX4_premium_54 : decode cX4_premium 54 = .ok (.invokestatic 211, 3) := by decide +kernel
theorem dX4_premium_57 : decode cX4_premium 57 = .ok (.imul, 1) := by decide +kernel
theorem dX4_premium_58 : decode cX4_premium 58 = .ok (.istore 5, 2) := by decide +kernel
theorem dX4_premium_60 : decode cX4_premium 60 = .ok (.iload 5, 2) := by decide +kernel
theorem dX4_premium_62 : decode cX4_premium 62 = .ok (.aload_n 0, 1) := by decide +kernel
theorem dX4_premium_63 : decode cX4_premium 63 = .ok (.getfield 162, 3) := by decide +kernel
theorem dX4_premium_66 : decode cX4_premium 66 = .ok (.iload_n 2, 1) := by decide +kernel
theorem dX4_premium_67 : decode cX4_premium 67 = .ok (.invokestatic 207, 3) := by decide +kernel
theorem dX4_premium_70 : decode cX4_premium 70 = .ok (.lreturn, 1) := by decide +kernel
theorem dX4_sheet_0 : decode cX4_sheet 0 = .ok (.aload_n 0, 1) := by decide +kernel
theorem dX4_sheet_1 : decode cX4_sheet 1 = .ok (.iconst 0, 1) := by decide +kernel
theorem dX4_sheet_2 : decode cX4_sheet 2 = .ok (.putfield 58, 3) := by decide +kernel
theorem dX4_sheet_5 : decode cX4_sheet 5 = .ok (.iload_n 1, 1) := by decide +kernel
theorem dX4_sheet_6 : decode cX4_sheet 6 = .ok (.invokestatic 62, 3) := by decide +kernel
theorem dX4_sheet_9 : decode cX4_sheet 9 = .ok (.ifCond .ne 5, 3) := by decide +kernel
theorem dX4_sheet_12 : decode cX4_sheet 12 = .ok (.iconst (-1), 1) := by decide +kernel
theorem dX4_sheet_13 : decode cX4_sheet 13 = .ok (.ireturn, 1) := by decide +kernel
theorem dX4_sheet_14 : decode cX4_sheet 14 = .ok (.iload_n 2, 1) := by decide +kernel
theorem dX4_sheet_15 : decode cX4_sheet 15 = .ok (.iconst 3, 1) := by decide +kernel
theorem dX4_sheet_16 : decode cX4_sheet 16 = .ok (.invokestatic 66, 3) := by decide +kernel
theorem dX4_sheet_19 : decode cX4_sheet 19 = .ok (.ifCond .eq 9, 3) := by decide +kernel
theorem dX4_sheet_22 : decode cX4_sheet 22 = .ok (.iload_n 3, 1) := by decide +kernel
theorem dX4_sheet_23 : decode cX4_sheet 23 = .ok (.bipush 60, 2) := by decide +kernel
theorem dX4_sheet_25 : decode cX4_sheet 25 = .ok (.if_icmp .le 6, 3) := by decide +kernel
theorem dX4_sheet_28 : decode cX4_sheet 28 = .ok (.bipush (-2), 2) := by decide +kernel
theorem dX4_sheet_30 : decode cX4_sheet 30 = .ok (.ireturn, 1) := by decide +kernel
theorem dX4_sheet_31 : decode cX4_sheet 31 = .ok (.iload_n 3, 1) := by decide +kernel
theorem dX4_sheet_32 : decode cX4_sheet 32 = .ok (.ifCond .ge 9, 3) := by decide +kernel
theorem dX4_sheet_35 : decode cX4_sheet 35 = .ok (.aload_n 0, 1) := by decide +kernel
theorem dX4_sheet_36 : decode cX4_sheet 36 = .ok (.iconst 4, 1) := by decide +kernel
theorem dX4_sheet_37 : decode cX4_sheet 37 = .ok (.invokevirtual 74, 3) := by decide +kernel
theorem dX4_sheet_40 : decode cX4_sheet 40 = .ok (.ireturn, 1) := by decide +kernel
theorem dX4_sheet_41 : decode cX4_sheet 41 = .ok (.aload_n 0, 1) := by decide +kernel
theorem dX4_sheet_42 : decode cX4_sheet 42 = .ok (.getfield 52, 3) := by decide +kernel
theorem dX4_sheet_45 : decode cX4_sheet 45 = .ok (.iload_n 1, 1) := by decide +kernel
theorem dX4_sheet_46 : decode cX4_sheet 46 = .ok (.aaload, 1) := by decide +kernel
theorem dX4_sheet_47 : decode cX4_sheet 47 = .ok (.iload_n 2, 1) := by decide +kernel
theorem dX4_sheet_48 : decode cX4_sheet 48 = .ok (.iload_n 3, 1) := by decide +kernel
theorem dX4_sheet_49 : decode cX4_sheet 49 = .ok (.invokevirtual 214, 3) := by decide +kernel
theorem dX4_sheet_52 : decode cX4_sheet 52 = .ok (.iconst 1, 1) := by decide +kernel
theorem dX4_sheet_53 : decode cX4_sheet 53 = .ok (.ireturn, 1) := by decide +kernel
theorem dX4_lose_0 : decode cX4_lose 0 = .ok (.iload_n 1, 1) := by decide +kernel
theorem dX4_lose_1 : decode cX4_lose 1 = .ok (.invokestatic 62, 3) := by decide +kernel
theorem dX4_lose_4 : decode cX4_lose 4 = .ok (.ifCond .ne 5, 3) := by decide +kernel
theorem dX4_lose_7 : decode cX4_lose 7 = .ok (.iconst (-1), 1) := by decide +kernel
theorem dX4_lose_8 : decode cX4_lose 8 = .ok (.ireturn, 1) := by decide +kernel
theorem dX4_lose_9 : decode cX4_lose 9 = .ok (.aload_n 0, 1) := by decide +kernel
theorem dX4_lose_10 : decode cX4_lose 10 = .ok (.getfield 52, 3) := by decide +kernel
theorem dX4_lose_13 : decode cX4_lose 13 = .ok (.iload_n 1, 1) := by decide +kernel
theorem dX4_lose_14 : decode cX4_lose 14 = .ok (.aaload, 1) := by decide +kernel
theorem dX4_lose_15 : decode cX4_lose 15 = .ok (.getfield 218, 3) := by decide +kernel
theorem dX4_lose_18 : decode cX4_lose 18 = .ok (.ifCond .eq 7, 3) := by decide +kernel
theorem dX4_lose_21 : decode cX4_lose 21 = .ok (.iconst 1, 1) := by decide +kernel
theorem dX4_lose_22 : decode cX4_lose 22 = .ok (.goto 4, 3) := by decide +kernel
theorem dX4_lose_25 : decode cX4_lose 25 = .ok (.iconst 0, 1) := by decide +kernel
theorem dX4_lose_26 : decode cX4_lose 26 = .ok (.istore_n 2, 1) := by decide +kernel
theorem dX4_lose_27 : decode cX4_lose 27 = .ok (.aload_n 0, 1) := by decide +kernel
theorem dX4_lose_28 : decode cX4_lose 28 = .ok (.getfield 52, 3) := by decide +kernel
theorem dX4_lose_31 : decode cX4_lose 31 = .ok (.iload_n 1, 1) := by decide +kernel
theorem dX4_lose_32 : decode cX4_lose 32 = .ok (.aaload, 1) := by decide +kernel
theorem dX4_lose_33 : decode cX4_lose 33 = .ok (.iconst 0, 1) := by decide +kernel
theorem dX4_lose_34 : decode cX4_lose 34 = .ok (.putfield 218, 3) := by decide +kernel
theorem dX4_lose_37 : decode cX4_lose 37 = .ok (.iload_n 2, 1) := by decide +kernel
theorem dX4_lose_38 : decode cX4_lose 38 = .ok (.ireturn, 1) := by decide +kernel
theorem dX4_put_0 : decode cX4_put 0 = .ok (.aload_n 0, 1) := by decide +kernel
theorem dX4_put_1 : decode cX4_put 1 = .ok (.iconst 0, 1) := by decide +kernel
theorem dX4_put_2 : decode cX4_put 2 = .ok (.putfield 58, 3) := by decide +kernel
theorem dX4_put_5 : decode cX4_put 5 = .ok (.iload_n 1, 1) := by decide +kernel
theorem dX4_put_6 : decode cX4_put 6 = .ok (.invokestatic 62, 3) := by decide +kernel
theorem dX4_put_9 : decode cX4_put 9 = .ok (.ifCond .ne 5, 3) := by decide +kernel
theorem dX4_put_12 : decode cX4_put 12 = .ok (.iconst (-1), 1) := by decide +kernel
theorem dX4_put_13 : decode cX4_put 13 = .ok (.ireturn, 1) := by decide +kernel
theorem dX4_put_14 : decode cX4_put 14 = .ok (.aload_n 0, 1) := by decide +kernel
theorem dX4_put_15 : decode cX4_put 15 = .ok (.getfield 52, 3) := by decide +kernel
theorem dX4_put_18 : decode cX4_put 18 = .ok (.iload_n 1, 1) := by decide +kernel
theorem dX4_put_19 : decode cX4_put 19 = .ok (.aaload, 1) := by decide +kernel
theorem dX4_put_20 : decode cX4_put 20 = .ok (.astore 4, 2) := by decide +kernel
theorem dX4_put_22 : decode cX4_put 22 = .ok (.aload 4, 2) := by decide +kernel
theorem dX4_put_24 : decode cX4_put 24 = .ok (.getfield 218, 3) := by decide +kernel
theorem dX4_put_27 : decode cX4_put 27 = .ok (.ifCond .ne 9, 3) := by decide +kernel
theorem dX4_put_30 : decode cX4_put 30 = .ok (.aload_n 0, 1) := by decide +kernel
theorem dX4_put_31 : decode cX4_put 31 = .ok (.iconst 1, 1) := by decide +kernel
theorem dX4_put_32 : decode cX4_put 32 = .ok (.invokevirtual 74, 3) := by decide +kernel
theorem dX4_put_35 : decode cX4_put 35 = .ok (.ireturn, 1) := by decide +kernel
theorem dX4_put_36 : decode cX4_put 36 = .ok (.aload 4, 2) := by decide +kernel
theorem dX4_put_38 : decode cX4_put 38 = .ok (.iload_n 2, 1) := by decide +kernel
theorem dX4_put_39 : decode cX4_put 39 = .ok (.iconst 1, 1) := by decide +kernel
theorem dX4_put_40 : decode cX4_put 40 = .ok (.invokevirtual 222, 3) := by decide +kernel
theorem dX4_put_43 : decode cX4_put 43 = .ok (.ifCond .ne 9, 3) := by decide +kernel
theorem dX4_put_46 : decode cX4_put 46 = .ok (.aload_n 0, 1) := by decide +kernel
theorem dX4_put_47 : decode cX4_put 47 = .ok (.iconst 3, 1) := by decide +kernel
theorem dX4_put_48 : decode cX4_put 48 = .ok (.invokevirtual 74, 3) := by decide +kernel
theorem dX4_put_51 : decode cX4_put 51 = .ok (.ireturn, 1) := by decide +kernel
theorem dX4_put_52 : decode cX4_put 52 = .ok (.aload 4, 2) := by decide +kernel
theorem dX4_put_54 : decode cX4_put 54 = .ok (.getfield 225, 3) := by decide +kernel
theorem dX4_put_57 : decode cX4_put 57 = .ok (.iload_n 2, 1) := by decide +kernel
theorem dX4_put_58 : decode cX4_put 58 = .ok (.aload 4, 2) := by decide +kernel
theorem dX4_put_60 : decode cX4_put 60 = .ok (.getfield 228, 3) := by decide +kernel
theorem dX4_put_63 : decode cX4_put 63 = .ok (.iload_n 3, 1) := by decide +kernel
theorem dX4_put_64 : decode cX4_put 64 = .ok (.invokestatic 231, 3) := by decide +kernel
theorem dX4_put_67 : decode cX4_put 67 = .ok (.iastore, 1) := by decide +kernel
theorem dX4_put_68 : decode cX4_put 68 = .ok (.iconst 1, 1) := by decide +kernel
theorem dX4_put_69 : decode cX4_put 69 = .ok (.ireturn, 1) := by decide +kernel
theorem dX4_cell_0 : decode cX4_cell 0 = .ok (.aload_n 0, 1) := by decide +kernel
theorem dX4_cell_1 : decode cX4_cell 1 = .ok (.iconst 0, 1) := by decide +kernel
theorem dX4_cell_2 : decode cX4_cell 2 = .ok (.putfield 58, 3) := by decide +kernel
theorem dX4_cell_5 : decode cX4_cell 5 = .ok (.iload_n 1, 1) := by decide +kernel
theorem dX4_cell_6 : decode cX4_cell 6 = .ok (.invokestatic 62, 3) := by decide +kernel
theorem dX4_cell_9 : decode cX4_cell 9 = .ok (.ifCond .eq 11, 3) := by decide +kernel
theorem dX4_cell_12 : decode cX4_cell 12 = .ok (.iload_n 3, 1) := by decide +kernel
theorem dX4_cell_13 : decode cX4_cell 13 = .ok (.iconst 3, 1) := by decide +kernel
theorem dX4_cell_14 : decode cX4_cell 14 = .ok (.invokestatic 66, 3) := by decide +kernel
theorem dX4_cell_17 : decode cX4_cell 17 = .ok (.ifCond .ne 7, 3) := by decide +kernel
theorem dX4_cell_20 : decode cX4_cell 20 = .ok (.ldc2_w 199, 3) := by decide +kernel
theorem dX4_cell_23 : decode cX4_cell 23 = .ok (.lreturn, 1) := by decide +kernel
theorem dX4_cell_24 : decode cX4_cell 24 = .ok (.aload_n 0, 1) := by decide +kernel
theorem dX4_cell_25 : decode cX4_cell 25 = .ok (.getfield 52, 3) := by decide +kernel
theorem dX4_cell_28 : decode cX4_cell 28 = .ok (.iload_n 1, 1) := by decide +kernel
theorem dX4_cell_29 : decode cX4_cell 29 = .ok (.aaload, 1) := by decide +kernel
theorem dX4_cell_30 : decode cX4_cell 30 = .ok (.astore 4, 2) := by decide +kernel
theorem dX4_cell_32 : decode cX4_cell 32 = .ok (.aload_n 0, 1) := by decide +kernel
theorem dX4_cell_33 : decode cX4_cell 33 = .ok (.aload 4, 2) := by decide +kernel
theorem dX4_cell_35 : decode cX4_cell 35 = .ok (.iload_n 3, 1) := by decide +kernel
theorem dX4_cell_36 : decode cX4_cell 36 = .ok (.iload_n 2, 1) := by decide +kernel
theorem dX4_cell_37 : decode cX4_cell 37 = .ok (.iconst 1, 1) := by decide +kernel
theorem dX4_cell_38 : decode cX4_cell 38 = .ok (.invokevirtual 70, 3) := by decide +kernel
theorem dX4_cell_41 : decode cX4_cell 41 = .ok (.putfield 58, 3) := by decide +kernel
theorem dX4_cell_44 : decode cX4_cell 44 = .ok (.aload_n 0, 1) := by decide +kernel
theorem dX4_cell_45 : decode cX4_cell 45 = .ok (.getfield 58, 3) := by decide +kernel
theorem dX4_cell_48 : decode cX4_cell 48 = .ok (.ifCond .ne 14, 3) := by decide +kernel
theorem dX4_cell_51 : decode cX4_cell 51 = .ok (.aload 4, 2) := by decide +kernel
theorem dX4_cell_53 : decode cX4_cell 53 = .ok (.getfield 225, 3) := by decide +kernel
theorem dX4_cell_56 : decode cX4_cell 56 = .ok (.iload_n 2, 1) := by decide +kernel
theorem dX4_cell_57 : decode cX4_cell 57 = .ok (.iaload, 1) := by decide +kernel
theorem dX4_cell_58 : decode cX4_cell 58 = .ok (.i2l, 1) := by decide +kernel
theorem dX4_cell_59 : decode cX4_cell 59 = .ok (.goto 6, 3) := by decide +kernel
theorem dX4_cell_62 : decode cX4_cell 62 = .ok (.ldc2_w 199, 3) := by decide +kernel
theorem dX4_cell_65 : decode cX4_cell 65 = .ok (.lreturn, 1) := by decide +kernel
theorem dX4_copy_0 : decode cX4_copy 0 = .ok (.aload_n 0, 1) := by decide +kernel
theorem dX4_copy_1 : decode cX4_copy 1 = .ok (.iconst 0, 1) := by decide +kernel
theorem dX4_copy_2 : decode cX4_copy 2 = .ok (.putfield 58, 3) := by decide +kernel
theorem dX4_copy_5 : decode cX4_copy 5 = .ok (.iload_n 1, 1) := by decide +kernel
theorem dX4_copy_6 : decode cX4_copy 6 = .ok (.invokestatic 62, 3) := by decide +kernel
theorem dX4_copy_9 : decode cX4_copy 9 = .ok (.ifCond .eq 10, 3) := by decide +kernel
theorem dX4_copy_12 : decode cX4_copy 12 = .ok (.iload_n 3, 1) := by decide +kernel
theorem dX4_copy_13 : decode cX4_copy 13 = .ok (.invokestatic 62, 3) := by decide +kernel
theorem dX4_copy_16 : decode cX4_copy 16 = .ok (.ifCond .ne 5, 3) := by decide +kernel
theorem dX4_copy_19 : decode cX4_copy 19 = .ok (.iconst (-1), 1) := by decide +kernel
theorem dX4_copy_20 : decode cX4_copy 20 = .ok (.ireturn, 1) := by decide +kernel
theorem dX4_copy_21 : decode cX4_copy 21 = .ok (.aload_n 0, 1) := by decide +kernel
theorem dX4_copy_22 : decode cX4_copy 22 = .ok (.getfield 52, 3) := by decide +kernel
theorem dX4_copy_25 : decode cX4_copy 25 = .ok (.iload_n 1, 1) := by decide +kernel
theorem dX4_copy_26 : decode cX4_copy 26 = .ok (.aaload, 1) := by decide +kernel
theorem dX4_copy_27 : decode cX4_copy 27 = .ok (.astore 6, 2) := by decide +kernel
theorem dX4_copy_29 : decode cX4_copy 29 = .ok (.aload_n 0, 1) := by decide +kernel
theorem dX4_copy_30 : decode cX4_copy 30 = .ok (.getfield 52, 3) := by decide +kernel
theorem dX4_copy_33 : decode cX4_copy 33 = .ok (.iload_n 3, 1) := by decide +kernel
theorem dX4_copy_34 : decode cX4_copy 34 = .ok (.aaload, 1) := by decide +kernel
theorem dX4_copy_35 : decode cX4_copy 35 = .ok (.astore 7, 2) := by decide +kernel
theorem dX4_copy_37 : decode cX4_copy 37 = .ok (.aload 6, 2) := by decide +kernel
theorem dX4_copy_39 : decode cX4_copy 39 = .ok (.getfield 218, 3) := by decide +kernel
theorem dX4_copy_42 : decode cX4_copy 42 = .ok (.ifCond .eq 11, 3) := by decide +kernel
theorem dX4_copy_45 : decode cX4_copy 45 = .ok (.aload 7, 2) := by decide +kernel
theorem dX4_copy_47 : decode cX4_copy 47 = .ok (.getfield 218, 3) := by decide +kernel
theorem dX4_copy_50 : decode cX4_copy 50 = .ok (.ifCond .ne 9, 3) := by decide +kernel
theorem dX4_copy_53 : decode cX4_copy 53 = .ok (.aload_n 0, 1) := by decide +kernel
theorem dX4_copy_54 : decode cX4_copy 54 = .ok (.iconst 1, 1) := by decide +kernel
theorem dX4_copy_55 : decode cX4_copy 55 = .ok (.invokevirtual 74, 3) := by decide +kernel
theorem dX4_copy_58 : decode cX4_copy 58 = .ok (.ireturn, 1) := by decide +kernel
theorem dX4_copy_59 : decode cX4_copy 59 = .ok (.aload 6, 2) := by decide +kernel
theorem dX4_copy_61 : decode cX4_copy 61 = .ok (.getfield 228, 3) := by decide +kernel
theorem dX4_copy_64 : decode cX4_copy 64 = .ok (.aload 7, 2) := by decide +kernel
theorem dX4_copy_66 : decode cX4_copy 66 = .ok (.getfield 228, 3) := by decide +kernel
theorem dX4_copy_69 : decode cX4_copy 69 = .ok (.if_icmp .eq 9, 3) := by decide +kernel
theorem dX4_copy_72 : decode cX4_copy 72 = .ok (.aload_n 0, 1) := by decide +kernel
theorem dX4_copy_73 : decode cX4_copy 73 = .ok (.iconst 2, 1) := by decide +kernel
theorem dX4_copy_74 : decode cX4_copy 74 = .ok (.invokevirtual 74, 3) := by decide +kernel
theorem dX4_copy_77 : decode cX4_copy 77 = .ok (.ireturn, 1) := by decide +kernel
theorem dX4_copy_78 : decode cX4_copy 78 = .ok (.iload 5, 2) := by decide +kernel
theorem dX4_copy_80 : decode cX4_copy 80 = .ok (.ifCond .lt 26, 3) := by decide +kernel
theorem dX4_copy_83 : decode cX4_copy 83 = .ok (.aload 6, 2) := by decide +kernel
theorem dX4_copy_85 : decode cX4_copy 85 = .ok (.iload_n 2, 1) := by decide +kernel
theorem dX4_copy_86 : decode cX4_copy 86 = .ok (.iload 5, 2) := by decide +kernel
theorem dX4_copy_88 : decode cX4_copy 88 = .ok (.invokevirtual 222, 3) := by decide +kernel
theorem dX4_copy_91 : decode cX4_copy 91 = .ok (.ifCond .eq 15, 3) := by decide +kernel
theorem dX4_copy_94 : decode cX4_copy 94 = .ok (.aload 7, 2) := by decide +kernel
theorem dX4_copy_96 : decode cX4_copy 96 = .ok (.iload 4, 2) := by decide +kernel
theorem dX4_copy_98 : decode cX4_copy 98 = .ok (.iload 5, 2) := by decide +kernel
theorem dX4_copy_100 : decode cX4_copy 100 = .ok (.invokevirtual 222, 3) := by decide +kernel
theorem dX4_copy_103 : decode cX4_copy 103 = .ok (.ifCond .ne 9, 3) := by decide +kernel
theorem dX4_copy_106 : decode cX4_copy 106 = .ok (.aload_n 0, 1) := by decide +kernel
theorem dX4_copy_107 : decode cX4_copy 107 = .ok (.iconst 3, 1) := by decide +kernel
theorem dX4_copy_108 : decode cX4_copy 108 = .ok (.invokevirtual 74, 3) := by decide +kernel
theorem dX4_copy_111 : decode cX4_copy 111 = .ok (.ireturn, 1) := by decide +kernel
theorem dX4_copy_112 : decode cX4_copy 112 = .ok (.aload 6, 2) := by decide +kernel
theorem dX4_copy_114 : decode cX4_copy 114 = .ok (.getfield 225, 3) := by decide +kernel
theorem dX4_copy_117 : decode cX4_copy 117 = .ok (.iload_n 2, 1) := by decide +kernel
theorem dX4_copy_118 : decode cX4_copy 118 = .ok (.aload 7, 2) := by decide +kernel
theorem dX4_copy_120 : decode cX4_copy 120 = .ok (.getfield 225, 3) := by decide +kernel
theorem dX4_copy_123 : decode cX4_copy 123 = .ok (.iload 4, 2) := by decide +kernel
theorem dX4_copy_125 : decode cX4_copy 125 = .ok (.iload 5, 2) := by decide +kernel
theorem dX4_copy_127 : decode cX4_copy 127 = .ok (.invokestatic 234, 3) := by decide +kernel
theorem dX4_copy_130 : decode cX4_copy 130 = .ok (.iload 5, 2) := by decide +kernel
theorem dX4_copy_132 : decode cX4_copy 132 = .ok (.ireturn, 1) := by decide +kernel
theorem dX4_tell_0 : decode cX4_tell 0 = .ok (.aload_n 0, 1) := by decide +kernel
theorem dX4_tell_1 : decode cX4_tell 1 = .ok (.iload_n 1, 1) := by decide +kernel
theorem dX4_tell_2 : decode cX4_tell 2 = .ok (.invokevirtual 89, 3) := by decide +kernel
theorem dX4_tell_5 : decode cX4_tell 5 = .ok (.ifCond .ne 5, 3) := by decide +kernel
theorem dX4_tell_8 : decode cX4_tell 8 = .ok (.iconst (-1), 1) := by decide +kernel
theorem dX4_tell_9 : decode cX4_tell 9 = .ok (.ireturn, 1) := by decide +kernel
theorem dX4_tell_10 : decode cX4_tell 10 = .ok (.aload_n 0, 1) := by decide +kernel
theorem dX4_tell_11 : decode cX4_tell 11 = .ok (.getfield 17, 3) := by decide +kernel
theorem dX4_tell_14 : decode cX4_tell 14 = .ok (.iload_n 1, 1) := by decide +kernel
theorem dX4_tell_15 : decode cX4_tell 15 = .ok (.aaload, 1) := by decide +kernel
theorem dX4_tell_16 : decode cX4_tell 16 = .ok (.astore_n 2, 1) := by decide +kernel
theorem dX4_tell_17 : decode cX4_tell 17 = .ok (.aload_n 2, 1) := by decide +kernel
theorem dX4_tell_18 : decode cX4_tell 18 = .ok (.getfield 92, 3) := by decide +kernel
theorem dX4_tell_21 : decode cX4_tell 21 = .ok (.lookupswitch 39 #[(1, 33), (2, 27)], 27) := by decide +kernel
theorem dX4_tell_48 : decode cX4_tell 48 = .ok (.aload_n 0, 1) := by decide +kernel
theorem dX4_tell_49 : decode cX4_tell 49 = .ok (.aload_n 2, 1) := by decide +kernel
theorem dX4_tell_50 : decode cX4_tell 50 = .ok (.invokevirtual 240, 3) := by decide +kernel
theorem dX4_tell_53 : decode cX4_tell 53 = .ok (.ireturn, 1) := by decide +kernel
theorem dX4_tell_54 : decode cX4_tell 54 = .ok (.aload_n 0, 1) := by decide +kernel
theorem dX4_tell_55 : decode cX4_tell 55 = .ok (.aload_n 2, 1) := by decide +kernel
theorem dX4_tell_56 : decode cX4_tell 56 = .ok (.invokevirtual 243, 3) := by decide +kernel
theorem dX4_tell_59 : decode cX4_tell 59 = .ok (.ireturn, 1) := by decide +kernel
theorem dX4_tell_60 : decode cX4_tell 60 = .ok (.aload_n 0, 1) := by decide +kernel
theorem dX4_tell_61 : decode cX4_tell 61 = .ok (.aload_n 2, 1) := by decide +kernel
theorem dX4_tell_62 : decode cX4_tell 62 = .ok (.invokevirtual 246, 3) := by decide +kernel
theorem dX4_tell_65 : decode cX4_tell 65 = .ok (.ireturn, 1) := by decide +kernel
theorem dX4_hail_0 : decode cX4_hail 0 = .ok (.aload_n 0, 1) := by decide +kernel
theorem dX4_hail_1 : decode cX4_hail 1 = .ok (.iload_n 1, 1) := by decide +kernel
theorem dX4_hail_2 : decode cX4_hail 2 = .ok (.invokevirtual 89, 3) := by decide +kernel
theorem dX4_hail_5 : decode cX4_hail 5 = .ok (.ifCond .ne 5, 3) := by decide +kernel
theorem dX4_hail_8 : decode cX4_hail 8 = .ok (.iconst (-1), 1) := by decide +kernel
theorem dX4_hail_9 : decode cX4_hail 9 = .ok (.ireturn, 1) := by decide +kernel
theorem dX4_hail_10 : decode cX4_hail 10 = .ok (.aload_n 0, 1) := by decide +kernel
theorem dX4_hail_11 : decode cX4_hail 11 = .ok (.getfield 17, 3) := by decide +kernel
theorem dX4_hail_14 : decode cX4_hail 14 = .ok (.iload_n 1, 1) := by decide +kernel
theorem dX4_hail_15 : decode cX4_hail 15 = .ok (.aaload, 1) := by decide +kernel
theorem dX4_hail_16 : decode cX4_hail 16 = .ok (.getfield 92, 3) := by decide +kernel
theorem dX4_hail_19 : decode cX4_hail 19 = .ok (.iconst 2, 1) := by decide +kernel
theorem dX4_hail_20 : decode cX4_hail 20 = .ok (.if_icmp .ne 10, 3) := by decide +kernel
theorem dX4_hail_23 : decode cX4_hail 23 = .ok (.aload_n 0, 1) := by decide +kernel
theorem dX4_hail_24 : decode cX4_hail 24 = .ok (.invokevirtual 249, 3) := by decide +kernel
theorem dX4_hail_27 : decode cX4_hail 27 = .ok (.goto 13, 3) := by decide +kernel
theorem dX4_hail_30 : decode cX4_hail 30 = .ok (.aload_n 0, 1) := by decide +kernel
theorem dX4_hail_31 : decode cX4_hail 31 = .ok (.aload_n 0, 1) := by decide +kernel
theorem dX4_hail_32 : decode cX4_hail 32 = .ok (.getfield 17, 3) := by decide +kernel
theorem dX4_hail_35 : decode cX4_hail 35 = .ok (.iload_n 1, 1) := by decide +kernel
theorem dX4_hail_36 : decode cX4_hail 36 = .ok (.aaload, 1) := by decide +kernel
theorem dX4_hail_37 : decode cX4_hail 37 = .ok (.invokevirtual 252, 3) := by decide +kernel
theorem dX4_hail_40 : decode cX4_hail 40 = .ok (.ireturn, 1) := by decide +kernel
theorem dX4_as_0 : decode cX4_as 0 = .ok (.aload_n 0, 1) := by decide +kernel
theorem dX4_as_1 : decode cX4_as 1 = .ok (.iconst 0, 1) := by decide +kernel
theorem dX4_as_2 : decode cX4_as 2 = .ok (.putfield 58, 3) := by decide +kernel
theorem dX4_as_5 : decode cX4_as 5 = .ok (.aload_n 0, 1) := by decide +kernel
theorem dX4_as_6 : decode cX4_as 6 = .ok (.iload_n 1, 1) := by decide +kernel
theorem dX4_as_7 : decode cX4_as 7 = .ok (.invokevirtual 89, 3) := by decide +kernel
theorem dX4_as_10 : decode cX4_as 10 = .ok (.ifCond .ne 5, 3) := by decide +kernel
theorem dX4_as_13 : decode cX4_as 13 = .ok (.iconst (-1), 1) := by decide +kernel
theorem dX4_as_14 : decode cX4_as 14 = .ok (.ireturn, 1) := by decide +kernel
theorem dX4_as_15 : decode cX4_as 15 = .ok (.iload_n 2, 1) := by decide +kernel
theorem dX4_as_16 : decode cX4_as 16 = .ok (.iconst 3, 1) := by decide +kernel
theorem dX4_as_17 : decode cX4_as 17 = .ok (.invokestatic 66, 3) := by decide +kernel
theorem dX4_as_20 : decode cX4_as 20 = .ok (.ifCond .ne 6, 3) := by decide +kernel
theorem dX4_as_23 : decode cX4_as 23 = .ok (.bipush (-2), 2) := by decide +kernel
theorem dX4_as_25 : decode cX4_as 25 = .ok (.ireturn, 1) := by decide +kernel
theorem dX4_as_26 : decode cX4_as 26 = .ok (.iload_n 2, 1) := by decide +kernel
theorem dX4_as_27 : decode cX4_as 27 = .ok (.aload_n 0, 1) := by decide +kernel
theorem dX4_as_28 : decode cX4_as 28 = .ok (.getfield 17, 3) := by decide +kernel
theorem dX4_as_31 : decode cX4_as 31 = .ok (.iload_n 1, 1) := by decide +kernel
theorem dX4_as_32 : decode cX4_as 32 = .ok (.aaload, 1) := by decide +kernel
theorem dX4_as_33 : decode cX4_as 33 = .ok (.getfield 92, 3) := by decide +kernel
theorem dX4_as_36 : decode cX4_as 36 = .ok (.if_icmp .le 11, 3) := by decide +kernel
theorem dX4_as_39 : decode cX4_as 39 = .ok (.aload_n 0, 1) := by decide +kernel
theorem dX4_as_40 : decode cX4_as 40 = .ok (.iconst 2, 1) := by decide +kernel
theorem dX4_as_41 : decode cX4_as 41 = .ok (.invokevirtual 74, 3) := by decide +kernel
theorem dX4_as_44 : decode cX4_as 44 = .ok (.goto 4, 3) := by decide +kernel
theorem dX4_as_47 : decode cX4_as 47 = .ok (.iconst 1, 1) := by decide +kernel
theorem dX4_as_48 : decode cX4_as 48 = .ok (.ireturn, 1) := by decide +kernel
theorem dX4_trace_0 : decode cX4_trace 0 = .ok (.aload_n 0, 1) := by decide +kernel
theorem dX4_trace_1 : decode cX4_trace 1 = .ok (.getfield 255, 3) := by decide +kernel
theorem dX4_trace_4 : decode cX4_trace 4 = .ok (.ireturn, 1) := by decide +kernel
theorem dX4_fault_0 : decode cX4_fault 0 = .ok (.aload_n 0, 1) := by decide +kernel
theorem dX4_fault_1 : decode cX4_fault 1 = .ok (.getfield 58, 3) := by decide +kernel
theorem dX4_fault_4 : decode cX4_fault 4 = .ok (.ireturn, 1) := by decide +kernel
theorem dX4_many_0 : decode cX4_many 0 = .ok (.iload_n 1, 1) := by decide +kernel
theorem dX4_many_1 : decode cX4_many 1 = .ok (.tableswitch 67 0 4 #[35, 40, 45, 50, 62], 35) := by decide +kernel
theorem dX4_many_36 : decode cX4_many 36 = .ok (.aload_n 0, 1) := by decide +kernel
theorem dX4_many_37 : decode cX4_many 37 = .ok (.getfield 86, 3) := by decide +kernel
theorem dX4_many_40 : decode cX4_many 40 = .ok (.ireturn, 1) := by decide +kernel
theorem dX4_many_41 : decode cX4_many 41 = .ok (.aload_n 0, 1) := by decide +kernel
theorem dX4_many_42 : decode cX4_many 42 = .ok (.getfield 162, 3) := by decide +kernel
theorem dX4_many_45 : decode cX4_many 45 = .ok (.ireturn, 1) := by decide +kernel
theorem dX4_many_46 : decode cX4_many 46 = .ok (.aload_n 0, 1) := by decide +kernel
theorem dX4_many_47 : decode cX4_many 47 = .ok (.getfield 137, 3) := by decide +kernel
theorem dX4_many_50 : decode cX4_many 50 = .ok (.ireturn, 1) := by decide +kernel
theorem dX4_many_51 : decode cX4_many 51 = .ok (.aload_n 0, 1) := by decide +kernel
theorem dX4_many_52 : decode cX4_many 52 = .ok (.aload_n 0, 1) := by decide +kernel
theorem dX4_many_53 : decode cX4_many 53 = .ok (.getfield 17, 3) := by decide +kernel
theorem dX4_many_56 : decode cX4_many 56 = .ok (.invokevirtual 258, 3) := by decide +kernel
theorem dX4_many_59 : decode cX4_many 59 = .ok (.invokestatic 262, 3) := by decide +kernel
theorem dX4_many_62 : decode cX4_many 62 = .ok (.ireturn, 1) := by decide +kernel
theorem dX4_many_63 : decode cX4_many 63 = .ok (.aload_n 0, 1) := by decide +kernel
theorem dX4_many_64 : decode cX4_many 64 = .ok (.getfield 181, 3) := by decide +kernel
theorem dX4_many_67 : decode cX4_many 67 = .ok (.ireturn, 1) := by decide +kernel
theorem dX4_many_68 : decode cX4_many 68 = .ok (.bipush (-2), 2) := by decide +kernel
theorem dX4_many_70 : decode cX4_many 70 = .ok (.ireturn, 1) := by decide +kernel
theorem dX4_hasSea_0 : decode cX4_hasSea 0 = .ok (.aload_n 0, 1) := by decide +kernel
theorem dX4_hasSea_1 : decode cX4_hasSea 1 = .ok (.getfield 86, 3) := by decide +kernel
theorem dX4_hasSea_4 : decode cX4_hasSea 4 = .ok (.ifCond .le 7, 3) := by decide +kernel
theorem dX4_hasSea_7 : decode cX4_hasSea 7 = .ok (.iconst 1, 1) := by decide +kernel
theorem dX4_hasSea_8 : decode cX4_hasSea 8 = .ok (.goto 4, 3) := by decide +kernel
theorem dX4_hasSea_11 : decode cX4_hasSea 11 = .ok (.iconst 0, 1) := by decide +kernel
theorem dX4_hasSea_12 : decode cX4_hasSea 12 = .ok (.ireturn, 1) := by decide +kernel
theorem dX4_isShip_0 : decode cX4_isShip 0 = .ok (.iload_n 1, 1) := by decide +kernel
theorem dX4_isShip_1 : decode cX4_isShip 1 = .ok (.aload_n 0, 1) := by decide +kernel
theorem dX4_isShip_2 : decode cX4_isShip 2 = .ok (.getfield 86, 3) := by decide +kernel
theorem dX4_isShip_5 : decode cX4_isShip 5 = .ok (.invokestatic 66, 3) := by decide +kernel
theorem dX4_isShip_8 : decode cX4_isShip 8 = .ok (.ireturn, 1) := by decide +kernel
theorem dX4_isPort_0 : decode cX4_isPort 0 = .ok (.iload_n 1, 1) := by decide +kernel
theorem dX4_isPort_1 : decode cX4_isPort 1 = .ok (.aload_n 0, 1) := by decide +kernel
theorem dX4_isPort_2 : decode cX4_isPort 2 = .ok (.getfield 162, 3) := by decide +kernel
theorem dX4_isPort_5 : decode cX4_isPort 5 = .ok (.invokestatic 66, 3) := by decide +kernel
theorem dX4_isPort_8 : decode cX4_isPort 8 = .ok (.ireturn, 1) := by decide +kernel
theorem dX4_isSheet_0 : decode cX4_isSheet 0 = .ok (.iload_n 0, 1) := by decide +kernel
theorem dX4_isSheet_1 : decode cX4_isSheet 1 = .ok (.iconst 4, 1) := by decide +kernel
theorem dX4_isSheet_2 : decode cX4_isSheet 2 = .ok (.invokestatic 66, 3) := by decide +kernel
theorem dX4_isSheet_5 : decode cX4_isSheet 5 = .ok (.ireturn, 1) := by decide +kernel
theorem dX4_isGood_0 : decode cX4_isGood 0 = .ok (.iload_n 0, 1) := by decide +kernel
theorem dX4_isGood_1 : decode cX4_isGood 1 = .ok (.iconst 4, 1) := by decide +kernel
theorem dX4_isGood_2 : decode cX4_isGood 2 = .ok (.invokestatic 66, 3) := by decide +kernel
theorem dX4_isGood_5 : decode cX4_isGood 5 = .ok (.ireturn, 1) := by decide +kernel
theorem dX4_isLot_0 : decode cX4_isLot 0 = .ok (.iload_n 0, 1) := by decide +kernel
theorem dX4_isLot_1 : decode cX4_isLot 1 = .ok (.iconst 1, 1) := by decide +kernel
theorem dX4_isLot_2 : decode cX4_isLot 2 = .ok (.if_icmp .lt 13, 3) := by decide +kernel
theorem dX4_isLot_5 : decode cX4_isLot 5 = .ok (.iload_n 0, 1) := by decide +kernel
theorem dX4_isLot_6 : decode cX4_isLot 6 = .ok (.bipush 9, 2) := by decide +kernel
theorem dX4_isLot_8 : decode cX4_isLot 8 = .ok (.if_icmp .gt 7, 3) := by decide +kernel
theorem dX4_isLot_11 : decode cX4_isLot 11 = .ok (.iconst 1, 1) := by decide +kernel
theorem dX4_isLot_12 : decode cX4_isLot 12 = .ok (.goto 4, 3) := by decide +kernel
theorem dX4_isLot_15 : decode cX4_isLot 15 = .ok (.iconst 0, 1) := by decide +kernel
theorem dX4_isLot_16 : decode cX4_isLot 16 = .ok (.ireturn, 1) := by decide +kernel
theorem dX4_isBelow_0 : decode cX4_isBelow 0 = .ok (.iload_n 0, 1) := by decide +kernel
theorem dX4_isBelow_1 : decode cX4_isBelow 1 = .ok (.ifCond .lt 12, 3) := by decide +kernel
theorem dX4_isBelow_4 : decode cX4_isBelow 4 = .ok (.iload_n 0, 1) := by decide +kernel
theorem dX4_isBelow_5 : decode cX4_isBelow 5 = .ok (.iload_n 1, 1) := by decide +kernel
theorem dX4_isBelow_6 : decode cX4_isBelow 6 = .ok (.if_icmp .ge 7, 3) := by decide +kernel
theorem dX4_isBelow_9 : decode cX4_isBelow 9 = .ok (.iconst 1, 1) := by decide +kernel
theorem dX4_isBelow_10 : decode cX4_isBelow 10 = .ok (.goto 4, 3) := by decide +kernel
theorem dX4_isBelow_13 : decode cX4_isBelow 13 = .ok (.iconst 0, 1) := by decide +kernel
theorem dX4_isBelow_14 : decode cX4_isBelow 14 = .ok (.ireturn, 1) := by decide +kernel
theorem dX4_isUpTo_0 : decode cX4_isUpTo 0 = .ok (.iload_n 0, 1) := by decide +kernel
theorem dX4_isUpTo_1 : decode cX4_isUpTo 1 = .ok (.ifCond .lt 12, 3) := by decide +kernel
theorem dX4_isUpTo_4 : decode cX4_isUpTo 4 = .ok (.iload_n 0, 1) := by decide +kernel
theorem dX4_isUpTo_5 : decode cX4_isUpTo 5 = .ok (.iload_n 1, 1) := by decide +kernel
theorem dX4_isUpTo_6 : decode cX4_isUpTo 6 = .ok (.if_icmp .gt 7, 3) := by decide +kernel
theorem dX4_isUpTo_9 : decode cX4_isUpTo 9 = .ok (.iconst 1, 1) := by decide +kernel
theorem dX4_isUpTo_10 : decode cX4_isUpTo 10 = .ok (.goto 4, 3) := by decide +kernel
theorem dX4_isUpTo_13 : decode cX4_isUpTo 13 = .ok (.iconst 0, 1) := by decide +kernel
theorem dX4_isUpTo_14 : decode cX4_isUpTo 14 = .ok (.ireturn, 1) := by decide +kernel
theorem dX4_faulted_0 : decode cX4_faulted 0 = .ok (.aload_n 0, 1) := by decide +kernel
theorem dX4_faulted_1 : decode cX4_faulted 1 = .ok (.iload_n 1, 1) := by decide +kernel
theorem dX4_faulted_2 : decode cX4_faulted 2 = .ok (.putfield 58, 3) := by decide +kernel
theorem dX4_faulted_5 : decode cX4_faulted 5 = .ok (.bipush (-10), 2) := by decide +kernel
theorem dX4_faulted_7 : decode cX4_faulted 7 = .ok (.iload_n 1, 1) := by decide +kernel
theorem dX4_faulted_8 : decode cX4_faulted 8 = .ok (.isub, 1) := by decide +kernel
theorem dX4_faulted_9 : decode cX4_faulted 9 = .ok (.ireturn, 1) := by decide +kernel
