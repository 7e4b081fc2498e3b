theorem dX5_days_0 : decode cX5_days 0 = .ok (.iload_n 1, 1) := by decide +kernel
theorem dX5_days_1 : decode cX5_days 1 = .ok (.iconst 1, 1) := by decide +kernel
theorem dX5_days_2 : decode cX5_days 2 = .ok (.bipush 30, 2) := by decide +kernel
theorem dX5_days_4 : decode cX5_days 4 = .ok (.invokestatic 67, 3) := by decide +kernel
theorem dX5_days_7 : decode cX5_days 7 = .ok (.ifCond .ne 6, 3) := by decide +kernel
theorem dX5_days_10 : decode cX5_days 10 = .ok (.bipush (-2), 2) := by decide +kernel
theorem dX5_days_12 : decode cX5_days 12 = .ok (.ireturn, 1) := by decide +kernel
theorem dX5_days_13 : decode cX5_days 13 = .ok (.aload_n 0, 1) := by decide +kernel
theorem dX5_days_14 : decode cX5_days 14 = .ok (.getfield 71, 3) := by decide +kernel
theorem dX5_days_17 : decode cX5_days 17 = .ok (.ifCond .ne 6, 3) := by decide +kernel
theorem dX5_days_20 : decode cX5_days 20 = .ok (.bipush (-3), 2) := by decide +kernel
theorem dX5_days_22 : decode cX5_days 22 = .ok (.ireturn, 1) := by decide +kernel
theorem dX5_days_23 : decode cX5_days 23 = .ok (.iconst 0, 1) := by decide +kernel
theorem dX5_days_24 : decode cX5_days 24 = .ok (.istore_n 2, 1) := by decide +kernel
theorem dX5_days_25 : decode cX5_days 25 = .ok (.iconst 0, 1) := by decide +kernel
theorem dX5_days_26 : decode cX5_days 26 = .ok (.istore_n 3, 1) := by decide +kernel
theorem dX5_days_27 : decode cX5_days 27 = .ok (.iload_n 3, 1) := by decide +kernel
theorem dX5_days_28 : decode cX5_days 28 = .ok (.iload_n 1, 1) := by decide +kernel
theorem dX5_days_29 : decode cX5_days 29 = .ok (.if_icmp .ge 46, 3) := by decide +kernel
theorem dX5_days_32 : decode cX5_days 32 = .ok (.iconst 0, 1) := by decide +kernel
theorem dX5_days_33 : decode cX5_days 33 = .ok (.istore 4, 2) := by decide +kernel
theorem dX5_days_35 : decode cX5_days 35 = .ok (.iload 4, 2) := by decide +kernel
theorem dX5_days_37 : decode cX5_days 37 = .ok (.aload_n 0, 1) := by decide +kernel
theorem dX5_days_38 : decode cX5_days 38 = .ok (.getfield 71, 3) := by decide +kernel
theorem dX5_days_41 : decode cX5_days 41 = .ok (.if_icmp .ge 28, 3) := by decide +kernel
theorem dX5_days_44 : decode cX5_days 44 = .ok (.iload_n 2, 1) := by decide +kernel
theorem dX5_days_45 : decode cX5_days 45 = .ok (.aload_n 0, 1) := by decide +kernel
theorem dX5_days_46 : decode cX5_days 46 = .ok (.iload 4, 2) := by decide +kernel
theorem dX5_days_48 : decode cX5_days 48 = .ok (.invokevirtual 154, 3) := by decide +kernel
theorem dX5_days_51 : decode cX5_days 51 = .ok (.bipush (-9), 2) := by decide +kernel
theorem dX5_days_53 : decode cX5_days 53 = .ok (.if_icmp .ne 7, 3) := by decide +kernel
theorem dX5_days_56 : decode cX5_days 56 = .ok (.iconst 0, 1) := by decide +kernel
theorem dX5_days_57 : decode cX5_days 57 = .ok (.goto 4, 3) := by decide +kernel
theorem dX5_days_60 : decode cX5_days 60 = .ok (.iconst 1, 1) := by decide +kernel
theorem dX5_days_61 : decode cX5_days 61 = .ok (.iadd, 1) := by decide +kernel
theorem dX5_days_62 : decode cX5_days 62 = .ok (.istore_n 2, 1) := by decide +kernel
theorem dX5_days_63 : decode cX5_days 63 = .ok (.iinc 4 1, 3) := by decide +kernel
theorem dX5_days_66 : decode cX5_days 66 = .ok (.goto (-31), 3) := by decide +kernel
theorem dX5_days_69 : decode cX5_days 69 = .ok (.iinc 3 1, 3) := by decide +kernel
theorem dX5_days_72 : decode cX5_days 72 = .ok (.goto (-45), 3) := by decide +kernel
theorem dX5_days_75 : decode cX5_days 75 = .ok (.aload_n 0, 1) := by decide +kernel
theorem dX5_days_76 : decode cX5_days 76 = .ok (.dup, 1) := by decide +kernel
theorem dX5_days_77 : decode cX5_days 77 = .ok (.getfield 107, 3) := by decide +kernel
theorem dX5_days_80 : decode cX5_days 80 = .ok (.iload_n 1, 1) := by decide +kernel
theorem dX5_days_81 : decode cX5_days 81 = .ok (.iadd, 1) := by decide +kernel
theorem dX5_days_82 : decode cX5_days 82 = .ok (.putfield 107, 3) := by decide +kernel
theorem dX5_days_85 : decode cX5_days 85 = .ok (.iload_n 2, 1) := by decide +kernel
theorem dX5_days_86 : decode cX5_days 86 = .ok (.ireturn, 1) := by decide +kernel
theorem dX5_load_0 : decode cX5_load 0 = .ok (.aload_n 0, 1) := by decide +kernel
theorem dX5_load_1 : decode cX5_load 1 = .ok (.iload_n 1, 1) := by decide +kernel
theorem dX5_load_2 : decode cX5_load 2 = .ok (.invokevirtual 127, 3) := by decide +kernel
theorem dX5_load_5 : decode cX5_load 5 = .ok (.ifCond .ne 5, 3) := by decide +kernel
theorem dX5_load_8 : decode cX5_load 8 = .ok (.iconst (-1), 1) := by decide +kernel
theorem dX5_load_9 : decode cX5_load 9 = .ok (.ireturn, 1) := by decide +kernel
theorem dX5_load_10 : decode cX5_load 10 = .ok (.iload_n 2, 1) := by decide +kernel
theorem dX5_load_11 : decode cX5_load 11 = .ok (.invokestatic 148, 3) := by decide +kernel
theorem dX5_load_14 : decode cX5_load 14 = .ok (.ifCond .eq 13, 3) := by decide +kernel
theorem dX5_load_17 : decode cX5_load 17 = .ok (.iload_n 3, 1) := by decide +kernel
theorem dX5_load_18 : decode cX5_load 18 = .ok (.iconst 1, 1) := by decide +kernel
theorem dX5_load_19 : decode cX5_load 19 = .ok (.bipush 9, 2) := by decide +kernel
theorem dX5_load_21 : decode cX5_load 21 = .ok (.invokestatic 67, 3) := by decide +kernel
theorem dX5_load_24 : decode cX5_load 24 = .ok (.ifCond .ne 6, 3) := by decide +kernel
theorem dX5_load_27 : decode cX5_load 27 = .ok (.bipush (-2), 2) := by decide +kernel
theorem dX5_load_29 : decode cX5_load 29 = .ok (.ireturn, 1) := by decide +kernel
theorem dX5_load_30 : decode cX5_load 30 = .ok (.aload_n 0, 1) := by decide +kernel
theorem dX5_load_31 : decode cX5_load 31 = .ok (.getfield 34, 3) := by decide +kernel
theorem dX5_load_34 : decode cX5_load 34 = .ok (.iconst 4, 1) := by decide +kernel
theorem dX5_load_35 : decode cX5_load 35 = .ok (.iload_n 1, 1) := by decide +kernel
theorem dX5_load_36 : decode cX5_load 36 = .ok (.imul, 1) := by decide +kernel
theorem dX5_load_37 : decode cX5_load 37 = .ok (.iload_n 2, 1) := by decide +kernel
theorem dX5_load_38 : decode cX5_load 38 = .ok (.iadd, 1) := by decide +kernel
theorem dX5_load_39 : decode cX5_load 39 = .ok (.iaload, 1) := by decide +kernel
theorem dX5_load_40 : decode cX5_load 40 = .ok (.iload_n 3, 1) := by decide +kernel
theorem dX5_load_41 : decode cX5_load 41 = .ok (.iadd, 1) := by decide +kernel
theorem dX5_load_42 : decode cX5_load 42 = .ok (.bipush 9, 2) := by decide +kernel
theorem dX5_load_44 : decode cX5_load 44 = .ok (.if_icmp .le 6, 3) := by decide +kernel
theorem dX5_load_47 : decode cX5_load 47 = .ok (.bipush (-4), 2) := by decide +kernel
theorem dX5_load_49 : decode cX5_load 49 = .ok (.ireturn, 1) := by decide +kernel
theorem dX5_load_50 : decode cX5_load 50 = .ok (.aload_n 0, 1) := by decide +kernel
theorem dX5_load_51 : decode cX5_load 51 = .ok (.getfield 34, 3) := by decide +kernel
theorem dX5_load_54 : decode cX5_load 54 = .ok (.iconst 4, 1) := by decide +kernel
theorem dX5_load_55 : decode cX5_load 55 = .ok (.iload_n 1, 1) := by decide +kernel
theorem dX5_load_56 : decode cX5_load 56 = .ok (.imul, 1) := by decide +kernel
theorem dX5_load_57 : decode cX5_load 57 = .ok (.iload_n 2, 1) := by decide +kernel
theorem dX5_load_58 : decode cX5_load 58 = .ok (.iadd, 1) := by decide +kernel
theorem dX5_load_59 : decode cX5_load 59 = .ok (.dup2, 1) := by decide +kernel
theorem dX5_load_60 : decode cX5_load 60 = .ok (.iaload, 1) := by decide +kernel
theorem dX5_load_61 : decode cX5_load 61 = .ok (.iload_n 3, 1) := by decide +kernel
theorem dX5_load_62 : decode cX5_load 62 = .ok (.iadd, 1) := by decide +kernel
theorem dX5_load_63 : decode cX5_load 63 = .ok (.iastore, 1) := by decide +kernel
theorem dX5_load_64 : decode cX5_load 64 = .ok (.aload_n 0, 1) := by decide +kernel
theorem dX5_load_65 : decode cX5_load 65 = .ok (.getfield 34, 3) := by decide +kernel
theorem dX5_load_68 : decode cX5_load 68 = .ok (.iconst 4, 1) := by decide +kernel
theorem dX5_load_69 : decode cX5_load 69 = .ok (.iload_n 1, 1) := by decide +kernel
theorem dX5_load_70 : decode cX5_load 70 = .ok (.imul, 1) := by decide +kernel
theorem dX5_load_71 : decode cX5_load 71 = .ok (.iload_n 2, 1) := by decide +kernel
theorem dX5_load_72 : decode cX5_load 72 = .ok (.iadd, 1) := by decide +kernel
theorem dX5_load_73 : decode cX5_load 73 = .ok (.iaload, 1) := by decide +kernel
theorem dX5_load_74 : decode cX5_load 74 = .ok (.ireturn, 1) := by decide +kernel
theorem dX5_off_0 : decode cX5_off 0 = .ok (.aload_n 0, 1) := by decide +kernel
theorem dX5_off_1 : decode cX5_off 1 = .ok (.iload_n 1, 1) := by decide +kernel
theorem dX5_off_2 : decode cX5_off 2 = .ok (.invokevirtual 127, 3) := by decide +kernel
theorem dX5_off_5 : decode cX5_off 5 = .ok (.ifCond .ne 5, 3) := by decide +kernel
theorem dX5_off_8 : decode cX5_off 8 = .ok (.iconst (-1), 1) := by decide +kernel
theorem dX5_off_9 : decode cX5_off 9 = .ok (.ireturn, 1) := by decide +kernel
theorem dX5_off_10 : decode cX5_off 10 = .ok (.iload_n 2, 1) := by decide +kernel
theorem dX5_off_11 : decode cX5_off 11 = .ok (.invokestatic 148, 3) := by decide +kernel
theorem dX5_off_14 : decode cX5_off 14 = .ok (.ifCond .eq 13, 3) := by decide +kernel
theorem dX5_off_17 : decode cX5_off 17 = .ok (.iload_n 3, 1) := by decide +kernel
theorem dX5_off_18 : decode cX5_off 18 = .ok (.iconst 1, 1) := by decide +kernel
theorem dX5_off_19 : decode cX5_off 19 = .ok (.bipush 9, 2) := by decide +kernel
theorem dX5_off_21 : decode cX5_off 21 = .ok (.invokestatic 67, 3) := by decide +kernel
theorem dX5_off_24 : decode cX5_off 24 = .ok (.ifCond .ne 6, 3) := by decide +kernel
theorem dX5_off_27 : decode cX5_off 27 = .ok (.bipush (-2), 2) := by decide +kernel
theorem dX5_off_29 : decode cX5_off 29 = .ok (.ireturn, 1) := by decide +kernel
theorem dX5_off_30 : decode cX5_off 30 = .ok (.aload_n 0, 1) := by decide +kernel
theorem dX5_off_31 : decode cX5_off 31 = .ok (.getfield 34, 3) := by decide +kernel
theorem dX5_off_34 : decode cX5_off 34 = .ok (.iconst 4, 1) := by decide +kernel
theorem dX5_off_35 : decode cX5_off 35 = .ok (.iload_n 1, 1) := by decide +kernel
theorem dX5_off_36 : decode cX5_off 36 = .ok (.imul, 1) := by decide +kernel
theorem dX5_off_37 : decode cX5_off 37 = .ok (.iload_n 2, 1) := by decide +kernel
theorem dX5_off_38 : decode cX5_off 38 = .ok (.iadd, 1) := by decide +kernel
theorem dX5_off_39 : decode cX5_off 39 = .ok (.iaload, 1) := by decide +kernel
theorem dX5_off_40 : decode cX5_off 40 = .ok (.iload_n 3, 1) := by decide +kernel
theorem dX5_off_41 : decode cX5_off 41 = .ok (.if_icmp .ge 6, 3) := by decide +kernel
theorem dX5_off_44 : decode cX5_off 44 = .ok (.bipush (-3), 2) := by decide +kernel
theorem dX5_off_46 : decode cX5_off 46 = .ok (.ireturn, 1) := by decide +kernel
theorem dX5_off_47 : decode cX5_off 47 = .ok (.aload_n 0, 1) := by decide +kernel
theorem dX5_off_48 : decode cX5_off 48 = .ok (.getfield 34, 3) := by decide +kernel
theorem dX5_off_51 : decode cX5_off 51 = .ok (.iconst 4, 1) := by decide +kernel
theorem dX5_off_52 : decode cX5_off 52 = .ok (.iload_n 1, 1) := by decide +kernel
theorem dX5_off_53 : decode cX5_off 53 = .ok (.imul, 1) := by decide +kernel
theorem dX5_off_54 : decode cX5_off 54 = .ok (.iload_n 2, 1) := by decide +kernel
theorem dX5_off_55 : decode cX5_off 55 = .ok (.iadd, 1) := by decide +kernel
theorem dX5_off_56 : decode cX5_off 56 = .ok (.dup2, 1) := by decide +kernel
theorem dX5_off_57 : decode cX5_off 57 = .ok (.iaload, 1) := by decide +kernel
theorem dX5_off_58 : decode cX5_off 58 = .ok (.iload_n 3, 1) := by decide +kernel
theorem dX5_off_59 : decode cX5_off 59 = .ok (.isub, 1) := by decide +kernel
theorem dX5_off_60 : decode cX5_off 60 = .ok (.iastore, 1) := by decide +kernel
theorem dX5_off_61 : decode cX5_off 61 = .ok (.aload_n 0, 1) := by decide +kernel
theorem dX5_off_62 : decode cX5_off 62 = .ok (.getfield 34, 3) := by decide +kernel
theorem dX5_off_65 : decode cX5_off 65 = .ok (.iconst 4, 1) := by decide +kernel
theorem dX5_off_66 : decode cX5_off 66 = .ok (.iload_n 1, 1) := by decide +kernel
theorem dX5_off_67 : decode cX5_off 67 = .ok (.imul, 1) := by decide +kernel
theorem dX5_off_68 : decode cX5_off 68 = .ok (.iload_n 2, 1) := by decide +kernel
theorem dX5_off_69 : decode cX5_off 69 = .ok (.iadd, 1) := by decide +kernel
theorem dX5_off_70 : decode cX5_off 70 = .ok (.iaload, 1) := by decide +kernel
theorem dX5_off_71 : decode cX5_off 71 = .ok (.ireturn, 1) := by decide +kernel
theorem dX5_keep_0 : decode cX5_keep 0 = .ok (.iconst 0, 1) := by decide +kernel
theorem dX5_keep_1 : decode cX5_keep 1 = .ok (.istore_n 1, 1) := by decide +kernel
theorem dX5_keep_2 : decode cX5_keep 2 = .ok (.iload_n 1, 1) := by decide +kernel
theorem dX5_keep_3 : decode cX5_keep 3 = .ok (.aload_n 0, 1) := by decide +kernel
theorem dX5_keep_4 : decode cX5_keep 4 = .ok (.getfield 71, 3) := by decide +kernel
theorem dX5_keep_7 : decode cX5_keep 7 = .ok (.if_icmp .ge 21, 3) := by decide +kernel
theorem dX5_keep_10 : decode cX5_keep 10 = .ok (.aload_n 0, 1) := by decide +kernel
theorem dX5_keep_11 : decode cX5_keep 11 = .ok (.getfield 43, 3) := by decide +kernel
theorem dX5_keep_14 : decode cX5_keep 14 = .ok (.iload_n 1, 1) := by decide +kernel
theorem dX5_keep_15 : decode cX5_keep 15 = .ok (.aload_n 0, 1) := by decide +kernel
theorem dX5_keep_16 : decode cX5_keep 16 = .ok (.getfield 31, 3) := by decide +kernel
theorem dX5_keep_19 : decode cX5_keep 19 = .ok (.iload_n 1, 1) := by decide +kernel
theorem dX5_keep_20 : decode cX5_keep 20 = .ok (.iaload, 1) := by decide +kernel
theorem dX5_keep_21 : decode cX5_keep 21 = .ok (.iastore, 1) := by decide +kernel
theorem dX5_keep_22 : decode cX5_keep 22 = .ok (.iinc 1 1, 3) := by decide +kernel
theorem dX5_keep_25 : decode cX5_keep 25 = .ok (.goto (-23), 3) := by decide +kernel
theorem dX5_keep_28 : decode cX5_keep 28 = .ok (.iconst 0, 1) := by decide +kernel
theorem dX5_keep_29 : decode cX5_keep 29 = .ok (.istore_n 1, 1) := by decide +kernel
theorem dX5_keep_30 : decode cX5_keep 30 = .ok (.iload_n 1, 1) := by decide +kernel
theorem dX5_keep_31 : decode cX5_keep 31 = .ok (.iconst 4, 1) := by decide +kernel
theorem dX5_keep_32 : decode cX5_keep 32 = .ok (.aload_n 0, 1) := by decide +kernel
theorem dX5_keep_33 : decode cX5_keep 33 = .ok (.getfield 71, 3) := by decide +kernel
theorem dX5_keep_36 : decode cX5_keep 36 = .ok (.imul, 1) := by decide +kernel
theorem dX5_keep_37 : decode cX5_keep 37 = .ok (.if_icmp .ge 21, 3) := by decide +kernel
theorem dX5_keep_40 : decode cX5_keep 40 = .ok (.aload_n 0, 1) := by decide +kernel
theorem dX5_keep_41 : decode cX5_keep 41 = .ok (.getfield 46, 3) := by decide +kernel
theorem dX5_keep_44 : decode cX5_keep 44 = .ok (.iload_n 1, 1) := by decide +kernel
theorem dX5_keep_45 : decode cX5_keep 45 = .ok (.aload_n 0, 1) := by decide +kernel
theorem dX5_keep_46 : decode cX5_keep 46 = .ok (.getfield 34, 3) := by decide +kernel
theorem dX5_keep_49 : decode cX5_keep 49 = .ok (.iload_n 1, 1) := by decide +kernel
theorem dX5_keep_50 : decode cX5_keep 50 = .ok (.iaload, 1) := by decide +kernel
theorem dX5_keep_51 : decode cX5_keep 51 = .ok (.iastore, 1) := by decide +kernel
theorem dX5_keep_52 : decode cX5_keep 52 = .ok (.iinc 1 1, 3) := by decide +kernel
theorem dX5_keep_55 : decode cX5_keep 55 = .ok (.goto (-25), 3) := by decide +kernel
theorem dX5_keep_58 : decode cX5_keep 58 = .ok (.return_, 1) := by decide +kernel
theorem dX5_putBack_0 : decode cX5_putBack 0 = .ok (.iconst 0, 1) := by decide +kernel
theorem dX5_putBack_1 : decode cX5_putBack 1 = .ok (.istore_n 1, 1) := by decide +kernel
theorem dX5_putBack_2 : decode cX5_putBack 2 = .ok (.iload_n 1, 1) := by decide +kernel
theorem dX5_putBack_3 : decode cX5_putBack 3 = .ok (.aload_n 0, 1) := by decide +kernel
theorem dX5_putBack_4 : decode cX5_putBack 4 = .ok (.getfield 71, 3) := by decide +kernel
theorem dX5_putBack_7 : decode cX5_putBack 7 = .ok (.if_icmp .ge 21, 3) := by decide +kernel
theorem dX5_putBack_10 : decode cX5_putBack 10 = .ok (.aload_n 0, 1) := by decide +kernel
theorem dX5_putBack_11 : decode cX5_putBack 11 = .ok (.getfield 31, 3) := by decide +kernel
theorem dX5_putBack_14 : decode cX5_putBack 14 = .ok (.iload_n 1, 1) := by decide +kernel
theorem dX5_putBack_15 : decode cX5_putBack 15 = .ok (.aload_n 0, 1) := by decide +kernel
theorem dX5_putBack_16 : decode cX5_putBack 16 = .ok (.getfield 43, 3) := by decide +kernel
theorem dX5_putBack_19 : decode cX5_putBack 19 = .ok (.iload_n 1, 1) := by decide +kernel
theorem dX5_putBack_20 : decode cX5_putBack 20 = .ok (.iaload, 1) := by decide +kernel
theorem dX5_putBack_21 : decode cX5_putBack 21 = .ok (.iastore, 1) := by decide +kernel
theorem dX5_putBack_22 : decode cX5_putBack 22 = .ok (.iinc 1 1, 3) := by decide +kernel
theorem dX5_putBack_25 : decode cX5_putBack 25 = .ok (.goto (-23), 3) := by decide +kernel
theorem dX5_putBack_28 : decode cX5_putBack 28 = .ok (.iconst 0, 1) := by decide +kernel
theorem dX5_putBack_29 : decode cX5_putBack 29 = .ok (.istore_n 1, 1) := by decide +kernel
theorem dX5_putBack_30 : decode cX5_putBack 30 = .ok (.iload_n 1, 1) := by decide +kernel
theorem dX5_putBack_31 : decode cX5_putBack 31 = .ok (.iconst 4, 1) := by decide +kernel
theorem dX5_putBack_32 : decode cX5_putBack 32 = .ok (.aload_n 0, 1) := by decide +kernel
theorem dX5_putBack_33 : decode cX5_putBack 33 = .ok (.getfield 71, 3) := by decide +kernel
theorem dX5_putBack_36 : decode cX5_putBack 36 = .ok (.imul, 1) := by decide +kernel
theorem dX5_putBack_37 : decode cX5_putBack 37 = .ok (.if_icmp .ge 21, 3) := by decide +kernel
theorem dX5_putBack_40 : decode cX5_putBack 40 = .ok (.aload_n 0, 1) := by decide +kernel
theorem dX5_putBack_41 : decode cX5_putBack 41 = .ok (.getfield 34, 3) := by decide +kernel
theorem dX5_putBack_44 : decode cX5_putBack 44 = .ok (.iload_n 1, 1) := by decide +kernel
theorem dX5_putBack_45 : decode cX5_putBack 45 = .ok (.aload_n 0, 1) := by decide +kernel
theorem dX5_putBack_46 : decode cX5_putBack 46 = .ok (.getfield 46, 3) := by decide +kernel
theorem dX5_putBack_49 : decode cX5_putBack 49 = .ok (.iload_n 1, 1) := by decide +kernel
theorem dX5_putBack_50 : decode cX5_putBack 50 = .ok (.iaload, 1) := by decide +kernel
theorem dX5_putBack_51 : decode cX5_putBack 51 = .ok (.iastore, 1) := by decide +kernel
theorem dX5_putBack_52 : decode cX5_putBack 52 = .ok (.iinc 1 1, 3) := by decide +kernel
theorem dX5_putBack_55 : decode cX5_putBack 55 = .ok (.goto (-25), 3) := by decide +kernel
theorem dX5_putBack_58 : decode cX5_putBack 58 = .ok (.return_, 1) := by decide +kernel
theorem dX5_noteLoss_0 : decode cX5_noteLoss 0 = .ok (.iload_n 2, 1) := by decide +kernel
theorem dX5_noteLoss_1 : decode cX5_noteLoss 1 = .ok (.bipush (-9), 2) := by decide +kernel
theorem dX5_noteLoss_3 : decode cX5_noteLoss 3 = .ok (.if_icmp .ne 4, 3) := by decide +kernel
theorem dX5_noteLoss_6 : decode cX5_noteLoss 6 = .ok (.return_, 1) := by decide +kernel
theorem dX5_noteLoss_7 : decode cX5_noteLoss 7 = .ok (.aload_n 0, 1) := by decide +kernel
theorem dX5_noteLoss_8 : decode cX5_noteLoss 8 = .ok (.dup, 1) := by decide +kernel
theorem dX5_noteLoss_9 : decode cX5_noteLoss 9 = .ok (.getfield 157, 3) := by decide +kernel
theorem dX5_noteLoss_12 : decode cX5_noteLoss 12 = .ok (.iconst 1, 1) := by decide +kernel
theorem dX5_noteLoss_13 : decode cX5_noteLoss 13 = .ok (.iadd, 1) := by decide +kernel
theorem dX5_noteLoss_14 : decode cX5_noteLoss 14 = .ok (.putfield 157, 3) := by decide +kernel
theorem dX5_noteLoss_17 : decode cX5_noteLoss 17 = .ok (.aload_n 0, 1) := by decide +kernel
theorem dX5_noteLoss_18 : decode cX5_noteLoss 18 = .ok (.dup, 1) := by decide +kernel
theorem dX5_noteLoss_19 : decode cX5_noteLoss 19 = .ok (.getfield 160, 3) := by decide +kernel
theorem dX5_noteLoss_22 : decode cX5_noteLoss 22 = .ok (.iload_n 2, 1) := by decide +kernel
theorem dX5_noteLoss_23 : decode cX5_noteLoss 23 = .ok (.iconst 1, 1) := by decide +kernel
theorem dX5_noteLoss_24 : decode cX5_noteLoss 24 = .ok (.iadd, 1) := by decide +kernel
theorem dX5_noteLoss_25 : decode cX5_noteLoss 25 = .ok (.iadd, 1) := by decide +kernel
theorem dX5_noteLoss_26 : decode cX5_noteLoss 26 = .ok (.putfield 160, 3) := by decide +kernel
theorem dX5_noteLoss_29 : decode cX5_noteLoss 29 = .ok (.aload_n 0, 1) := by decide +kernel
theorem dX5_noteLoss_30 : decode cX5_noteLoss 30 = .ok (.aload_n 0, 1) := by decide +kernel
theorem dX5_noteLoss_31 : decode cX5_noteLoss 31 = .ok (.getfield 163, 3) := by decide +kernel
theorem dX5_noteLoss_34 : decode cX5_noteLoss 34 = .ok (.bipush (-9), 2) := by decide +kernel
theorem dX5_noteLoss_36 : decode cX5_noteLoss 36 = .ok (.if_icmp .ne 17, 3) := by decide +kernel
theorem dX5_noteLoss_39 : decode cX5_noteLoss 39 = .ok (.iload_n 2, 1) := by decide +kernel
theorem dX5_noteLoss_40 : decode cX5_noteLoss 40 = .ok (.aload_n 0, 1) := by decide +kernel
theorem dX5_noteLoss_41 : decode cX5_noteLoss 41 = .ok (.getfield 25, 3) := by decide +kernel
theorem dX5_noteLoss_44 : decode cX5_noteLoss 44 = .ok (.iload_n 1, 1) := by decide +kernel
theorem dX5_noteLoss_45 : decode cX5_noteLoss 45 = .ok (.iaload, 1) := by decide +kernel
theorem dX5_noteLoss_46 : decode cX5_noteLoss 46 = .ok (.if_icmp .ne 7, 3) := by decide +kernel
theorem dX5_noteLoss_49 : decode cX5_noteLoss 49 = .ok (.iload_n 1, 1) := by decide +kernel
theorem dX5_noteLoss_50 : decode cX5_noteLoss 50 = .ok (.goto 7, 3) := by decide +kernel
theorem dX5_noteLoss_53 : decode cX5_noteLoss 53 = .ok (.aload_n 0, 1) := by decide +kernel
theorem dX5_noteLoss_54 : decode cX5_noteLoss 54 = .ok (.getfield 163, 3) := by decide +kernel
theorem dX5_noteLoss_57 : decode cX5_noteLoss 57 = .ok (.putfield 163, 3) := by decide +kernel
theorem dX5_noteLoss_60 : decode cX5_noteLoss 60 = .ok (.return_, 1) := by decide +kernel
theorem dX5_does_0 : decode cX5_does 0 = .ok (.iload_n 2, 1) := by decide +kernel
theorem dX5_does_1 : decode cX5_does 1 = .ok (.bipush 8, 2) := by decide +kernel
theorem dX5_does_3 : decode cX5_does 3 = .ok (.if_icmp .ne 48, 3) := by decide +kernel
theorem dX5_does_6 : decode cX5_does 6 = .ok (.iconst 0, 1) := by decide +kernel
theorem dX5_does_7 : decode cX5_does 7 = .ok (.istore_n 3, 1) := by decide +kernel
theorem dX5_does_8 : decode cX5_does 8 = .ok (.iload_n 3, 1) := by decide +kernel
theorem dX5_does_9 : decode cX5_does 9 = .ok (.iload_n 1, 1) := by decide +kernel
theorem dX5_does_10 : decode cX5_does 10 = .ok (.if_icmp .ge 39, 3) := by decide +kernel
theorem dX5_does_13 : decode cX5_does 13 = .ok (.iconst 0, 1) := by decide +kernel
theorem dX5_does_14 : decode cX5_does 14 = .ok (.istore 4, 2) := by decide +kernel
theorem dX5_does_16 : decode cX5_does 16 = .ok (.iload 4, 2) := by decide +kernel
theorem dX5_does_18 : decode cX5_does 18 = .ok (.aload_n 0, 1) := by decide +kernel
theorem dX5_does_19 : decode cX5_does 19 = .ok (.getfield 71, 3) := by decide +kernel
theorem dX5_does_22 : decode cX5_does 22 = .ok (.if_icmp .ge 21, 3) := by decide +kernel
theorem dX5_does_25 : decode cX5_does 25 = .ok (.aload_n 0, 1) := by decide +kernel
theorem dX5_does_26 : decode cX5_does 26 = .ok (.iload 4, 2) := by decide +kernel
theorem dX5_does_28 : decode cX5_does 28 = .ok (.aload_n 0, 1) := by decide +kernel
theorem dX5_does_29 : decode cX5_does 29 = .ok (.iload 4, 2) := by decide +kernel
theorem dX5_does_31 : decode cX5_does 31 = .ok (.invokevirtual 154, 3) := by decide +kernel
theorem dX5_does_34 : decode cX5_does 34 = .ok (.invokevirtual 166, 3) := by decide +kernel
theorem dX5_does_37 : decode cX5_does 37 = .ok (.iinc 4 1, 3) := by decide +kernel
theorem dX5_does_40 : decode cX5_does 40 = .ok (.goto (-24), 3) := by decide +kernel
theorem dX5_does_43 : decode cX5_does 43 = .ok (.iinc 3 1, 3) := by decide +kernel
theorem dX5_does_46 : decode cX5_does 46 = .ok (.goto (-38), 3) := by decide +kernel
theorem dX5_does_49 : decode cX5_does 49 = .ok (.iconst 1, 1) := by decide +kernel
theorem dX5_does_50 : decode cX5_does 50 = .ok (.ireturn, 1) := by decide +kernel
theorem dX5_does_51 : decode cX5_does 51 = .ok (.iload_n 2, 1) := by decide +kernel
theorem dX5_does_52 : decode cX5_does 52 = .ok (.iconst 4, 1) := by decide +kernel
theorem dX5_does_53 : decode cX5_does 53 = .ok (.if_icmp .ge 7, 3) := by decide +kernel
theorem dX5_does_56 : decode cX5_does 56 = .ok (.iconst 1, 1) := by decide +kernel
theorem dX5_does_57 : decode cX5_does 57 = .ok (.goto 4, 3) := by decide +kernel
theorem dX5_does_60 : decode cX5_does 60 = .ok (.iconst 0, 1) := by decide +kernel
theorem dX5_does_61 : decode cX5_does 61 = .ok (.istore_n 3, 1) := by decide +kernel
theorem dX5_does_62 : decode cX5_does 62 = .ok (.iconst 4, 1) := by decide +kernel
theorem dX5_does_63 : decode cX5_does 63 = .ok (.iload_n 1, 1) := by decide +kernel
theorem dX5_does_64 : decode cX5_does 64 = .ok (.imul, 1) := by decide +kernel
theorem dX5_does_65 : decode cX5_does 65 = .ok (.iload_n 3, 1) := by decide +kernel
theorem dX5_does_66 : decode cX5_does 66 = .ok (.ifCond .eq 7, 3) := by decide +kernel
theorem dX5_does_69 : decode cX5_does 69 = .ok (.iload_n 2, 1) := by decide +kernel
theorem dX5_does_70 : decode cX5_does 70 = .ok (.goto 6, 3) := by decide +kernel
theorem dX5_does_73 : decode cX5_does 73 = .ok (.iload_n 2, 1) := by decide +kernel
theorem dX5_does_74 : decode cX5_does 74 = .ok (.iconst 4, 1) := by decide +kernel
theorem dX5_does_75 : decode cX5_does 75 = .ok (.isub, 1) := by decide +kernel
theorem dX5_does_76 : decode cX5_does 76 = .ok (.iadd, 1) := by decide +kernel
theorem dX5_does_77 : decode cX5_does 77 = .ok (.istore 4, 2) := by decide +kernel
theorem dX5_does_79 : decode cX5_does 79 = .ok (.iload_n 3, 1) := by decide +kernel
theorem dX5_does_80 : decode cX5_does 80 = .ok (.ifCond .eq 15, 3) := by decide +kernel
theorem dX5_does_83 : decode cX5_does 83 = .ok (.aload_n 0, 1) := by decide +kernel
theorem dX5_does_84 : decode cX5_does 84 = .ok (.getfield 34, 3) := by decide +kernel
theorem dX5_does_87 : decode cX5_does 87 = .ok (.iload 4, 2) := by decide +kernel
theorem dX5_does_89 : decode cX5_does 89 = .ok (.iaload, 1) := by decide +kernel
theorem dX5_does_90 : decode cX5_does 90 = .ok (.bipush 9, 2) := by decide +kernel
theorem dX5_does_92 : decode cX5_does 92 = .ok (.if_icmp .eq 17, 3) := by decide +kernel
theorem dX5_does_95 : decode cX5_does 95 = .ok (.iload_n 3, 1) := by decide +kernel
theorem dX5_does_96 : decode cX5_does 96 = .ok (.ifCond .ne 15, 3) := by decide +kernel
theorem dX5_does_99 : decode cX5_does 99 = .ok (.aload_n 0, 1) := by decide +kernel
theorem dX5_does_100 : decode cX5_does 100 = .ok (.getfield 34, 3) := by decide +kernel
theorem dX5_does_103 : decode cX5_does 103 = .ok (.iload 4, 2) := by decide +kernel
theorem dX5_does_105 : decode cX5_does 105 = .ok (.iaload, 1) := by decide +kernel
theorem dX5_does_106 : decode cX5_does 106 = .ok (.ifCond .ne 5, 3) := by decide +kernel
theorem dX5_does_109 : decode cX5_does 109 = .ok (.iconst 0, 1) := by decide +kernel
theorem dX5_does_110 : decode cX5_does 110 = .ok (.ireturn, 1) := by decide +kernel
theorem dX5_does_111 : decode cX5_does 111 = .ok (.aload_n 0, 1) := by decide +kernel
theorem dX5_does_112 : decode cX5_does 112 = .ok (.getfield 34, 3) := by decide +kernel
theorem dX5_does_115 : decode cX5_does 115 = .ok (.iload 4, 2) := by decide +kernel
theorem dX5_does_117 : decode cX5_does 117 = .ok (.dup2, 1) := by decide +kernel
theorem dX5_does_118 : decode cX5_does 118 = .ok (.iaload, 1) := by decide +kernel
theorem dX5_does_119 : decode cX5_does 119 = .ok (.iload_n 3, 1) := by decide +kernel
theorem dX5_does_120 : decode cX5_does 120 = .ok (.ifCond .eq 7, 3) := by decide +kernel
theorem dX5_does_123 : decode cX5_does 123 = .ok (.iconst 1, 1) := by decide +kernel
theorem dX5_does_124 : decode cX5_does 124 = .ok (.goto 4, 3) := by decide +kernel
theorem dX5_does_127 : decode cX5_does 127 = .ok (.iconst (-1), 1) := by decide +kernel
theorem dX5_does_128 : decode cX5_does 128 = .ok (.iadd, 1) := by decide +kernel
theorem dX5_does_129 : decode cX5_does 129 = .ok (.iastore, 1) := by decide +kernel
theorem dX5_does_130 : decode cX5_does 130 = .ok (.iconst 1, 1) := by decide +kernel
theorem dX5_does_131 : decode cX5_does 131 = .ok (.ireturn, 1) := by decide +kernel
theorem dX5_goVoyage_0 : decode cX5_goVoyage 0 = .ok (.aload_n 0, 1) := by decide +kernel
theorem dX5_goVoyage_1 : decode cX5_goVoyage 1 = .ok (.iconst 0, 1) := by decide +kernel
theorem dX5_goVoyage_2 : decode cX5_goVoyage 2 = .ok (.putfield 157, 3) := by decide +kernel
theorem dX5_goVoyage_5 : decode cX5_goVoyage 5 = .ok (.aload_n 0, 1) := by decide +kernel
theorem dX5_goVoyage_6 : decode cX5_goVoyage 6 = .ok (.iconst 0, 1) := by decide +kernel
theorem dX5_goVoyage_7 : decode cX5_goVoyage 7 = .ok (.putfield 160, 3) := by decide +kernel
theorem dX5_goVoyage_10 : decode cX5_goVoyage 10 = .ok (.aload_n 0, 1) := by decide +kernel
theorem dX5_goVoyage_11 : decode cX5_goVoyage 11 = .ok (.bipush (-9), 2) := by decide +kernel
theorem dX5_goVoyage_13 : decode cX5_goVoyage 13 = .ok (.putfield 163, 3) := by decide +kernel
theorem dX5_goVoyage_16 : decode cX5_goVoyage 16 = .ok (.iconst 0, 1) := by decide +kernel
theorem dX5_goVoyage_17 : decode cX5_goVoyage 17 = .ok (.istore_n 3, 1) := by decide +kernel
theorem dX5_goVoyage_18 : decode cX5_goVoyage 18 = .ok (.iload_n 3, 1) := by decide +kernel
theorem dX5_goVoyage_19 : decode cX5_goVoyage 19 = .ok (.iload_n 2, 1) := by decide +kernel
theorem dX5_goVoyage_20 : decode cX5_goVoyage 20 = .ok (.if_icmp .ge 40, 3) := by decide +kernel
theorem dX5_goVoyage_23 : decode cX5_goVoyage 23 = .ok (.aload_n 0, 1) := by decide +kernel
theorem dX5_goVoyage_24 : decode cX5_goVoyage 24 = .ok (.aload_n 0, 1) := by decide +kernel
theorem dX5_goVoyage_25 : decode cX5_goVoyage 25 = .ok (.getfield 16, 3) := by decide +kernel
theorem dX5_goVoyage_28 : decode cX5_goVoyage 28 = .ok (.iload_n 1, 1) := by decide +kernel
theorem dX5_goVoyage_29 : decode cX5_goVoyage 29 = .ok (.iconst 2, 1) := by decide +kernel
theorem dX5_goVoyage_30 : decode cX5_goVoyage 30 = .ok (.iload_n 3, 1) := by decide +kernel
theorem dX5_goVoyage_31 : decode cX5_goVoyage 31 = .ok (.imul, 1) := by decide +kernel
theorem dX5_goVoyage_32 : decode cX5_goVoyage 32 = .ok (.iadd, 1) := by decide +kernel
theorem dX5_goVoyage_33 : decode cX5_goVoyage 33 = .ok (.iaload, 1) := by decide +kernel
theorem dX5_goVoyage_34 : decode cX5_goVoyage 34 = .ok (.aload_n 0, 1) := by decide +kernel
theorem dX5_goVoyage_35 : decode cX5_goVoyage 35 = .ok (.getfield 16, 3) := by decide +kernel
theorem dX5_goVoyage_38 : decode cX5_goVoyage 38 = .ok (.iload_n 1, 1) := by decide +kernel
theorem dX5_goVoyage_39 : decode cX5_goVoyage 39 = .ok (.iconst 2, 1) := by decide +kernel
theorem dX5_goVoyage_40 : decode cX5_goVoyage 40 = .ok (.iload_n 3, 1) := by decide +kernel
theorem dX5_goVoyage_41 : decode cX5_goVoyage 41 = .ok (.imul, 1) := by decide +kernel
theorem dX5_goVoyage_42 : decode cX5_goVoyage 42 = .ok (.iadd, 1) := by decide +kernel
theorem dX5_goVoyage_43 : decode cX5_goVoyage 43 = .ok (.iconst 1, 1) := by decide +kernel
theorem dX5_goVoyage_44 : decode cX5_goVoyage 44 = .ok (.iadd, 1) := by decide +kernel
theorem dX5_goVoyage_45 : decode cX5_goVoyage 45 = .ok (.iaload, 1) := by decide +kernel
theorem dX5_goVoyage_46 : decode cX5_goVoyage 46 = .ok (.invokevirtual 170, 3) := by decide +kernel
theorem dX5_goVoyage_49 : decode cX5_goVoyage 49 = .ok (.ifCond .ne 5, 3) := by decide +kernel
theorem dX5_goVoyage_52 : decode cX5_goVoyage 52 = .ok (.iload_n 3, 1) := by decide +kernel
theorem dX5_goVoyage_53 : decode cX5_goVoyage 53 = .ok (.ireturn, 1) := by decide +kernel
theorem dX5_goVoyage_54 : decode cX5_goVoyage 54 = .ok (.iinc 3 1, 3) := by decide +kernel
theorem dX5_goVoyage_57 : decode cX5_goVoyage 57 = .ok (.goto (-39), 3) := by decide +kernel
theorem dX5_goVoyage_60 : decode cX5_goVoyage 60 = .ok (.bipush (-9), 2) := by decide +kernel
theorem dX5_goVoyage_62 : decode cX5_goVoyage 62 = .ok (.ireturn, 1) := by decide +kernel
theorem dX5_refusesPair_0 : decode cX5_refusesPair 0 = .ok (.iload_n 2, 1) := by decide +kernel
theorem dX5_refusesPair_1 : decode cX5_refusesPair 1 = .ok (.iconst 0, 1) := by decide +kernel
theorem dX5_refusesPair_2 : decode cX5_refusesPair 2 = .ok (.bipush 8, 2) := by decide +kernel
theorem dX5_refusesPair_4 : decode cX5_refusesPair 4 = .ok (.invokestatic 67, 3) := by decide +kernel
theorem dX5_refusesPair_7 : decode cX5_refusesPair 7 = .ok (.ifCond .eq 16, 3) := by decide +kernel
theorem dX5_refusesPair_10 : decode cX5_refusesPair 10 = .ok (.iload_n 2, 1) := by decide +kernel
theorem dX5_refusesPair_11 : decode cX5_refusesPair 11 = .ok (.bipush 8, 2) := by decide +kernel
theorem dX5_refusesPair_13 : decode cX5_refusesPair 13 = .ok (.if_icmp .ne 13, 3) := by decide +kernel
theorem dX5_refusesPair_16 : decode cX5_refusesPair 16 = .ok (.iload_n 1, 1) := by decide +kernel
theorem dX5_refusesPair_17 : decode cX5_refusesPair 17 = .ok (.invokestatic 145, 3) := by decide +kernel
theorem dX5_refusesPair_20 : decode cX5_refusesPair 20 = .ok (.ifCond .ne 6, 3) := by decide +kernel
theorem dX5_refusesPair_23 : decode cX5_refusesPair 23 = .ok (.bipush (-2), 2) := by decide +kernel
theorem dX5_refusesPair_25 : decode cX5_refusesPair 25 = .ok (.ireturn, 1) := by decide +kernel
theorem dX5_refusesPair_26 : decode cX5_refusesPair 26 = .ok (.iload_n 2, 1) := by decide +kernel
theorem dX5_refusesPair_27 : decode cX5_refusesPair 27 = .ok (.bipush 8, 2) := by decide +kernel
theorem dX5_refusesPair_29 : decode cX5_refusesPair 29 = .ok (.if_icmp .eq 15, 3) := by decide +kernel
theorem dX5_refusesPair_32 : decode cX5_refusesPair 32 = .ok (.aload_n 0, 1) := by decide +kernel
theorem dX5_refusesPair_33 : decode cX5_refusesPair 33 = .ok (.iload_n 1, 1) := by decide +kernel
theorem dX5_refusesPair_34 : decode cX5_refusesPair 34 = .ok (.invokevirtual 127, 3) := by decide +kernel
theorem dX5_refusesPair_37 : decode cX5_refusesPair 37 = .ok (.ifCond .ne 7, 3) := by decide +kernel
theorem dX5_refusesPair_40 : decode cX5_refusesPair 40 = .ok (.iconst (-1), 1) := by decide +kernel
theorem dX5_refusesPair_41 : decode cX5_refusesPair 41 = .ok (.goto 4, 3) := by decide +kernel
theorem dX5_refusesPair_44 : decode cX5_refusesPair 44 = .ok (.iconst 0, 1) := by decide +kernel
theorem dX5_refusesPair_45 : decode cX5_refusesPair 45 = .ok (.ireturn, 1) := by decide +kernel
theorem dX5_voyage_0 : decode cX5_voyage 0 = .ok (.aload_n 0, 1) := by decide +kernel
theorem dX5_voyage_1 : decode cX5_voyage 1 = .ok (.iconst 0, 1) := by decide +kernel
theorem dX5_voyage_2 : decode cX5_voyage 2 = .ok (.putfield 61, 3) := by decide +kernel
theorem dX5_voyage_5 : decode cX5_voyage 5 = .ok (.iload_n 1, 1) := by decide +kernel
theorem dX5_voyage_6 : decode cX5_voyage 6 = .ok (.invokestatic 80, 3) := by decide +kernel
theorem dX5_voyage_9 : decode cX5_voyage 9 = .ok (.ifCond .ne 5, 3) := by decide +kernel
theorem dX5_voyage_12 : decode cX5_voyage 12 = .ok (.iconst (-1), 1) := by decide +kernel
theorem dX5_voyage_13 : decode cX5_voyage 13 = .ok (.ireturn, 1) := by decide +kernel
theorem dX5_voyage_14 : decode cX5_voyage 14 = .ok (.iload_n 2, 1) := by decide +kernel
theorem dX5_voyage_15 : decode cX5_voyage 15 = .ok (.invokestatic 84, 3) := by decide +kernel
theorem dX5_voyage_18 : decode cX5_voyage 18 = .ok (.ifCond .eq 36, 3) := by decide +kernel
theorem dX5_voyage_21 : decode cX5_voyage 21 = .ok (.iload 4, 2) := by decide +kernel
theorem dX5_voyage_23 : decode cX5_voyage 23 = .ok (.iconst 0, 1) := by decide +kernel
theorem dX5_voyage_24 : decode cX5_voyage 24 = .ok (.bipush 20, 2) := by decide +kernel
theorem dX5_voyage_26 : decode cX5_voyage 26 = .ok (.invokestatic 67, 3) := by decide +kernel
theorem dX5_voyage_29 : decode cX5_voyage 29 = .ok (.ifCond .eq 25, 3) := by decide +kernel
theorem dX5_voyage_32 : decode cX5_voyage 32 = .ok (.iload 5, 2) := by decide +kernel
theorem dX5_voyage_34 : decode cX5_voyage 34 = .ok (.iconst 0, 1) := by decide +kernel
theorem dX5_voyage_35 : decode cX5_voyage 35 = .ok (.iconst 4, 1) := by decide +kernel
theorem dX5_voyage_36 : decode cX5_voyage 36 = .ok (.invokestatic 67, 3) := by decide +kernel
theorem dX5_voyage_39 : decode cX5_voyage 39 = .ok (.ifCond .ne 18, 3) := by decide +kernel
theorem dX5_voyage_42 : decode cX5_voyage 42 = .ok (.iload 5, 2) := by decide +kernel
theorem dX5_voyage_44 : decode cX5_voyage 44 = .ok (.bipush 10, 2) := by decide +kernel
theorem dX5_voyage_46 : decode cX5_voyage 46 = .ok (.bipush 14, 2) := by decide +kernel
theorem dX5_voyage_48 : decode cX5_voyage 48 = .ok (.invokestatic 67, 3) := by decide +kernel
theorem dX5_voyage_51 : decode cX5_voyage 51 = .ok (.ifCond .ne 6, 3) := by decide +kernel
theorem dX5_voyage_54 : decode cX5_voyage 54 = .ok (.bipush (-2), 2) := by decide +kernel
theorem dX5_voyage_56 : decode cX5_voyage 56 = .ok (.ireturn, 1) := by decide +kernel
theorem dX5_voyage_57 : decode cX5_voyage 57 = .ok (.aload_n 0, 1) := by decide +kernel
theorem dX5_voyage_58 : decode cX5_voyage 58 = .ok (.iload_n 1, 1) := by decide +kernel
theorem dX5_voyage_59 : decode cX5_voyage 59 = .ok (.iload_n 2, 1) := by decide +kernel
theorem dX5_voyage_60 : decode cX5_voyage 60 = .ok (.iload_n 3, 1) := by decide +kernel
theorem dX5_voyage_61 : decode cX5_voyage 61 = .ok (.iconst 2, 1) := by decide +kernel
theorem dX5_voyage_62 : decode cX5_voyage 62 = .ok (.iload 4, 2) := by decide +kernel
theorem dX5_voyage_64 : decode cX5_voyage 64 = .ok (.imul, 1) := by decide +kernel
theorem dX5_voyage_65 : decode cX5_voyage 65 = .ok (.invokevirtual 87, 3) := by decide +kernel
theorem dX5_voyage_68 : decode cX5_voyage 68 = .ok (.istore 6, 2) := by decide +kernel
theorem dX5_voyage_70 : decode cX5_voyage 70 = .ok (.iload 6, 2) := by decide +kernel
theorem dX5_voyage_72 : decode cX5_voyage 72 = .ok (.ifCond .eq 10, 3) := by decide +kernel
theorem dX5_voyage_75 : decode cX5_voyage 75 = .ok (.aload_n 0, 1) := by decide +kernel
theorem dX5_voyage_76 : decode cX5_voyage 76 = .ok (.iload 6, 2) := by decide +kernel
theorem dX5_voyage_78 : decode cX5_voyage 78 = .ok (.invokevirtual 91, 3) := by decide +kernel
theorem dX5_voyage_81 : decode cX5_voyage 81 = .ok (.ireturn, 1) := by decide +kernel
theorem dX5_voyage_82 : decode cX5_voyage 82 = .ok (.aload_n 0, 1) := by decide +kernel
theorem dX5_voyage_83 : decode cX5_voyage 83 = .ok (.getfield 71, 3) := by decide +kernel
theorem dX5_voyage_86 : decode cX5_voyage 86 = .ok (.ifCond .ne 6, 3) := by decide +kernel
theorem dX5_voyage_89 : decode cX5_voyage 89 = .ok (.bipush (-3), 2) := by decide +kernel
theorem dX5_voyage_91 : decode cX5_voyage 91 = .ok (.ireturn, 1) := by decide +kernel
theorem dX5_voyage_92 : decode cX5_voyage 92 = .ok (.bipush 60, 2) := by decide +kernel
theorem dX5_voyage_94 : decode cX5_voyage 94 = .ok (.iload_n 1, 1) := by decide +kernel
theorem dX5_voyage_95 : decode cX5_voyage 95 = .ok (.imul, 1) := by decide +kernel
theorem dX5_voyage_96 : decode cX5_voyage 96 = .ok (.iload_n 3, 1) := by decide +kernel
theorem dX5_voyage_97 : decode cX5_voyage 97 = .ok (.iadd, 1) := by decide +kernel
theorem dX5_voyage_98 : decode cX5_voyage 98 = .ok (.istore 7, 2) := by decide +kernel
theorem dX5_voyage_100 : decode cX5_voyage 100 = .ok (.iconst 0, 1) := by decide +kernel
theorem dX5_voyage_101 : decode cX5_voyage 101 = .ok (.istore 8, 2) := by decide +kernel
theorem dX5_voyage_103 : decode cX5_voyage 103 = .ok (.iload 8, 2) := by decide +kernel
theorem dX5_voyage_105 : decode cX5_voyage 105 = .ok (.iload 4, 2) := by decide +kernel
theorem dX5_voyage_107 : decode cX5_voyage 107 = .ok (.if_icmp .ge 49, 3) := by decide +kernel
theorem dX5_voyage_110 : decode cX5_voyage 110 = .ok (.aload_n 0, 1) := by decide +kernel
theorem dX5_voyage_111 : decode cX5_voyage 111 = .ok (.aload_n 0, 1) := by decide +kernel
theorem dX5_voyage_112 : decode cX5_voyage 112 = .ok (.getfield 16, 3) := by decide +kernel
theorem dX5_voyage_115 : decode cX5_voyage 115 = .ok (.iload 7, 2) := by decide +kernel
theorem dX5_voyage_117 : decode cX5_voyage 117 = .ok (.iconst 2, 1) := by decide +kernel
theorem dX5_voyage_118 : decode cX5_voyage 118 = .ok (.iload 8, 2) := by decide +kernel
theorem dX5_voyage_120 : decode cX5_voyage 120 = .ok (.imul, 1) := by decide +kernel
theorem dX5_voyage_121 : decode cX5_voyage 121 = .ok (.iadd, 1) := by decide +kernel
theorem dX5_voyage_122 : decode cX5_voyage 122 = .ok (.iaload, 1) := by decide +kernel
theorem dX5_voyage_123 : decode cX5_voyage 123 = .ok (.aload_n 0, 1) := by decide +kernel
theorem dX5_voyage_124 : decode cX5_voyage 124 = .ok (.getfield 16, 3) := by decide +kernel
theorem dX5_voyage_127 : decode cX5_voyage 127 = .ok (.iload 7, 2) := by decide +kernel
theorem dX5_voyage_129 : decode cX5_voyage 129 = .ok (.iconst 2, 1) := by decide +kernel
theorem dX5_voyage_130 : decode cX5_voyage 130 = .ok (.iload 8, 2) := by decide +kernel
theorem dX5_voyage_132 : decode cX5_voyage 132 = .ok (.imul, 1) := by decide +kernel
theorem dX5_voyage_133 : decode cX5_voyage 133 = .ok (.iadd, 1) := by decide +kernel
theorem dX5_voyage_134 : decode cX5_voyage 134 = .ok (.iconst 1, 1) := by decide +kernel
theorem dX5_voyage_135 : decode cX5_voyage 135 = .ok (.iadd, 1) := by decide +kernel
theorem dX5_voyage_136 : decode cX5_voyage 136 = .ok (.iaload, 1) := by decide +kernel
theorem dX5_voyage_137 : decode cX5_voyage 137 = .ok (.invokevirtual 173, 3) := by decide +kernel
theorem dX5_voyage_140 : decode cX5_voyage 140 = .ok (.istore 9, 2) := by decide +kernel
theorem dX5_voyage_142 : decode cX5_voyage 142 = .ok (.iload 9, 2) := by decide +kernel
theorem dX5_voyage_144 : decode cX5_voyage 144 = .ok (.ifCond .eq 6, 3) := by decide +kernel
theorem dX5_voyage_147 : decode cX5_voyage 147 = .ok (.iload 9, 2) := by decide +kernel
theorem dX5_voyage_149 : decode cX5_voyage 149 = .ok (.ireturn, 1) := by decide +kernel
theorem dX5_voyage_150 : decode cX5_voyage 150 = .ok (.iinc 8 1, 3) := by decide +kernel
theorem dX5_voyage_153 : decode cX5_voyage 153 = .ok (.goto (-50), 3) := by decide +kernel
theorem dX5_voyage_156 : decode cX5_voyage 156 = .ok (.aload_n 0, 1) := by decide +kernel
theorem dX5_voyage_157 : decode cX5_voyage 157 = .ok (.invokevirtual 177, 3) := by decide +kernel
theorem dX5_voyage_160 : decode cX5_voyage 160 = .ok (.aload_n 0, 1) := by decide +kernel
theorem dX5_voyage_161 : decode cX5_voyage 161 = .ok (.iload 7, 2) := by decide +kernel
theorem dX5_voyage_163 : decode cX5_voyage 163 = .ok (.iload 4, 2) := by decide +kernel
theorem dX5_voyage_165 : decode cX5_voyage 165 = .ok (.invokevirtual 180, 3) := by decide +kernel
theorem dX5_voyage_168 : decode cX5_voyage 168 = .ok (.istore 8, 2) := by decide +kernel
theorem dX5_voyage_170 : decode cX5_voyage 170 = .ok (.aload_n 0, 1) := by decide +kernel
theorem dX5_voyage_171 : decode cX5_voyage 171 = .ok (.iload 5, 2) := by decide +kernel
theorem dX5_voyage_173 : decode cX5_voyage 173 = .ok (.invokevirtual 183, 3) := by decide +kernel
theorem dX5_voyage_176 : decode cX5_voyage 176 = .ok (.istore 9, 2) := by decide +kernel
theorem dX5_voyage_178 : decode cX5_voyage 178 = .ok (.aload_n 0, 1) := by decide +kernel
theorem dX5_voyage_179 : decode cX5_voyage 179 = .ok (.invokevirtual 186, 3) := by decide +kernel
theorem dX5_voyage_182 : decode cX5_voyage 182 = .ok (.iload 5, 2) := by decide +kernel
theorem dX5_voyage_184 : decode cX5_voyage 184 = .ok (.iconst 1, 1) := by decide +kernel
theorem dX5_voyage_185 : decode cX5_voyage 185 = .ok (.if_icmp .ne 8, 3) := by decide +kernel
theorem dX5_voyage_188 : decode cX5_voyage 188 = .ok (.iload 8, 2) := by decide +kernel
theorem dX5_voyage_190 : decode cX5_voyage 190 = .ok (.goto 20, 3) := by decide +kernel
theorem dX5_voyage_193 : decode cX5_voyage 193 = .ok (.iload 8, 2) := by decide +kernel
theorem dX5_voyage_195 : decode cX5_voyage 195 = .ok (.bipush (-9), 2) := by decide +kernel
theorem dX5_voyage_197 : decode cX5_voyage 197 = .ok (.if_icmp .ne 8, 3) := by decide +kernel
theorem dX5_voyage_200 : decode cX5_voyage 200 = .ok (.iload 9, 2) := by decide +kernel
theorem dX5_voyage_202 : decode cX5_voyage 202 = .ok (.goto 8, 3) := by decide +kernel
theorem dX5_voyage_205 : decode cX5_voyage 205 = .ok (.bipush (-100), 2) := by decide +kernel
theorem dX5_voyage_207 : decode cX5_voyage 207 = .ok (.iload 8, 2) := by decide +kernel
theorem dX5_voyage_209 : decode cX5_voyage 209 = .ok (.isub, 1) := by decide +kernel
theorem dX5_voyage_210 : decode cX5_voyage 210 = .ok (.ireturn, 1) := by decide +kernel
theorem dX5_metNow_0 : decode cX5_metNow 0 = .ok (.iconst 0, 1) := by decide +kernel
theorem dX5_metNow_1 : decode cX5_metNow 1 = .ok (.istore_n 1, 1) := by decide +kernel
theorem dX5_metNow_2 : decode cX5_metNow 2 = .ok (.iconst 0, 1) := by decide +kernel
theorem dX5_metNow_3 : decode cX5_metNow 3 = .ok (.istore_n 2, 1) := by decide +kernel
theorem dX5_metNow_4 : decode cX5_metNow 4 = .ok (.iload_n 2, 1) := by decide +kernel
theorem dX5_metNow_5 : decode cX5_metNow 5 = .ok (.aload_n 0, 1) := by decide +kernel
theorem dX5_metNow_6 : decode cX5_metNow 6 = .ok (.getfield 71, 3) := by decide +kernel
theorem dX5_metNow_9 : decode cX5_metNow 9 = .ok (.if_icmp .ge 27, 3) := by decide +kernel
theorem dX5_metNow_12 : decode cX5_metNow 12 = .ok (.iload_n 1, 1) := by decide +kernel
theorem dX5_metNow_13 : decode cX5_metNow 13 = .ok (.aload_n 0, 1) := by decide +kernel
theorem dX5_metNow_14 : decode cX5_metNow 14 = .ok (.iload_n 2, 1) := by decide +kernel
theorem dX5_metNow_15 : decode cX5_metNow 15 = .ok (.invokevirtual 133, 3) := by decide +kernel
theorem dX5_metNow_18 : decode cX5_metNow 18 = .ok (.ifCond .eq 9, 3) := by decide +kernel
theorem dX5_metNow_21 : decode cX5_metNow 21 = .ok (.iconst 1, 1) := by decide +kernel
theorem dX5_metNow_22 : decode cX5_metNow 22 = .ok (.iload_n 2, 1) := by decide +kernel
theorem dX5_metNow_23 : decode cX5_metNow 23 = .ok (.ishl, 1) := by decide +kernel
theorem dX5_metNow_24 : decode cX5_metNow 24 = .ok (.goto 4, 3) := by decide +kernel
theorem dX5_metNow_27 : decode cX5_metNow 27 = .ok (.iconst 0, 1) := by decide +kernel
theorem dX5_metNow_28 : decode cX5_metNow 28 = .ok (.ior, 1) := by decide +kernel
theorem dX5_metNow_29 : decode cX5_metNow 29 = .ok (.istore_n 1, 1) := by decide +kernel
theorem dX5_metNow_30 : decode cX5_metNow 30 = .ok (.iinc 2 1, 3) := by decide +kernel
theorem dX5_metNow_33 : decode cX5_metNow 33 = .ok (.goto (-29), 3) := by decide +kernel
theorem dX5_metNow_36 : decode cX5_metNow 36 = .ok (.iload_n 1, 1) := by decide +kernel
theorem dX5_metNow_37 : decode cX5_metNow 37 = .ok (.ireturn, 1) := by decide +kernel
theorem dX5_tellVoyage_0 : decode cX5_tellVoyage 0 = .ok (.iload_n 1, 1) := by decide +kernel
theorem dX5_tellVoyage_1 : decode cX5_tellVoyage 1 = .ok (.bipush 10, 2) := by decide +kernel
theorem dX5_tellVoyage_3 : decode cX5_tellVoyage 3 = .ok (.if_icmp .lt 28, 3) := by decide +kernel
theorem dX5_tellVoyage_6 : decode cX5_tellVoyage 6 = .ok (.aload_n 0, 1) := by decide +kernel
theorem dX5_tellVoyage_7 : decode cX5_tellVoyage 7 = .ok (.iload_n 1, 1) := by decide +kernel
theorem dX5_tellVoyage_8 : decode cX5_tellVoyage 8 = .ok (.bipush 10, 2) := by decide +kernel
theorem dX5_tellVoyage_10 : decode cX5_tellVoyage 10 = .ok (.isub, 1) := by decide +kernel
theorem dX5_tellVoyage_11 : decode cX5_tellVoyage 11 = .ok (.invokevirtual 127, 3) := by decide +kernel
theorem dX5_tellVoyage_14 : decode cX5_tellVoyage 14 = .ok (.ifCond .eq 14, 3) := by decide +kernel
theorem dX5_tellVoyage_17 : decode cX5_tellVoyage 17 = .ok (.aload_n 0, 1) := by decide +kernel
theorem dX5_tellVoyage_18 : decode cX5_tellVoyage 18 = .ok (.iload_n 1, 1) := by decide +kernel
theorem dX5_tellVoyage_19 : decode cX5_tellVoyage 19 = .ok (.bipush 10, 2) := by decide +kernel
theorem dX5_tellVoyage_21 : decode cX5_tellVoyage 21 = .ok (.isub, 1) := by decide +kernel
theorem dX5_tellVoyage_22 : decode cX5_tellVoyage 22 = .ok (.invokevirtual 136, 3) := by decide +kernel
theorem dX5_tellVoyage_25 : decode cX5_tellVoyage 25 = .ok (.goto 5, 3) := by decide +kernel
theorem dX5_tellVoyage_28 : decode cX5_tellVoyage 28 = .ok (.bipush (-9), 2) := by decide +kernel
theorem dX5_tellVoyage_30 : decode cX5_tellVoyage 30 = .ok (.ireturn, 1) := by decide +kernel
theorem dX5_tellVoyage_31 : decode cX5_tellVoyage 31 = .ok (.iload_n 1, 1) := by decide +kernel
theorem dX5_tellVoyage_32 : decode cX5_tellVoyage 32 = .ok (.tableswitch 47 0 3 #[32, 47, 37, 42], 32) := by decide +kernel
theorem dX5_tellVoyage_64 : decode cX5_tellVoyage 64 = .ok (.aload_n 0, 1) := by decide +kernel
theorem dX5_tellVoyage_65 : decode cX5_tellVoyage 65 = .ok (.getfield 157, 3) := by decide +kernel
theorem dX5_tellVoyage_68 : decode cX5_tellVoyage 68 = .ok (.ireturn, 1) := by decide +kernel
theorem dX5_tellVoyage_69 : decode cX5_tellVoyage 69 = .ok (.aload_n 0, 1) := by decide +kernel
theorem dX5_tellVoyage_70 : decode cX5_tellVoyage 70 = .ok (.invokevirtual 189, 3) := by decide +kernel
theorem dX5_tellVoyage_73 : decode cX5_tellVoyage 73 = .ok (.ireturn, 1) := by decide +kernel
theorem dX5_tellVoyage_74 : decode cX5_tellVoyage 74 = .ok (.aload_n 0, 1) := by decide +kernel
theorem dX5_tellVoyage_75 : decode cX5_tellVoyage 75 = .ok (.getfield 160, 3) := by decide +kernel
theorem dX5_tellVoyage_78 : decode cX5_tellVoyage 78 = .ok (.ireturn, 1) := by decide +kernel
theorem dX5_tellVoyage_79 : decode cX5_tellVoyage 79 = .ok (.aload_n 0, 1) := by decide +kernel
theorem dX5_tellVoyage_80 : decode cX5_tellVoyage 80 = .ok (.getfield 163, 3) := by decide +kernel
theorem dX5_tellVoyage_83 : decode cX5_tellVoyage 83 = .ok (.ireturn, 1) := by decide +kernel
theorem dX5_keeps_0 : decode cX5_keeps 0 = .ok (.aload_n 0, 1) := by decide +kernel
theorem dX5_keeps_1 : decode cX5_keeps 1 = .ok (.iload_n 1, 1) := by decide +kernel
theorem dX5_keeps_2 : decode cX5_keeps 2 = .ok (.invokevirtual 127, 3) := by decide +kernel
theorem dX5_keeps_5 : decode cX5_keeps 5 = .ok (.ifCond .ne 5, 3) := by decide +kernel
theorem dX5_keeps_8 : decode cX5_keeps 8 = .ok (.iconst (-1), 1) := by decide +kernel
theorem dX5_keeps_9 : decode cX5_keeps 9 = .ok (.ireturn, 1) := by decide +kernel
theorem dX5_keeps_10 : decode cX5_keeps 10 = .ok (.aload_n 0, 1) := by decide +kernel
theorem dX5_keeps_11 : decode cX5_keeps 11 = .ok (.invokevirtual 177, 3) := by decide +kernel
theorem dX5_keeps_14 : decode cX5_keeps 14 = .ok (.iconst 0, 1) := by decide +kernel
theorem dX5_keeps_15 : decode cX5_keeps 15 = .ok (.istore_n 2, 1) := by decide +kernel
theorem dX5_keeps_16 : decode cX5_keeps 16 = .ok (.iload_n 2, 1) := by decide +kernel
theorem dX5_keeps_17 : decode cX5_keeps 17 = .ok (.bipush 30, 2) := by decide +kernel
theorem dX5_keeps_19 : decode cX5_keeps 19 = .ok (.if_icmp .gt 23, 3) := by decide +kernel
theorem dX5_keeps_22 : decode cX5_keeps 22 = .ok (.aload_n 0, 1) := by decide +kernel
theorem dX5_keeps_23 : decode cX5_keeps 23 = .ok (.iload_n 1, 1) := by decide +kernel
theorem dX5_keeps_24 : decode cX5_keeps 24 = .ok (.invokevirtual 133, 3) := by decide +kernel
theorem dX5_keeps_27 : decode cX5_keeps 27 = .ok (.ifCond .ne 15, 3) := by decide +kernel
theorem dX5_keeps_30 : decode cX5_keeps 30 = .ok (.aload_n 0, 1) := by decide +kernel
theorem dX5_keeps_31 : decode cX5_keeps 31 = .ok (.iload_n 1, 1) := by decide +kernel
theorem dX5_keeps_32 : decode cX5_keeps 32 = .ok (.invokevirtual 154, 3) := by decide +kernel
theorem dX5_keeps_35 : decode cX5_keeps 35 = .ok (.pop, 1) := by decide +kernel
theorem dX5_keeps_36 : decode cX5_keeps 36 = .ok (.iinc 2 1, 3) := by decide +kernel
theorem dX5_keeps_39 : decode cX5_keeps 39 = .ok (.goto (-23), 3) := by decide +kernel
theorem dX5_keeps_42 : decode cX5_keeps 42 = .ok (.aload_n 0, 1) := by decide +kernel
theorem dX5_keeps_43 : decode cX5_keeps 43 = .ok (.invokevirtual 186, 3) := by decide +kernel
theorem dX5_keeps_46 : decode cX5_keeps 46 = .ok (.iload_n 2, 1) := by decide +kernel
theorem dX5_keeps_47 : decode cX5_keeps 47 = .ok (.bipush 30, 2) := by decide +kernel
theorem dX5_keeps_49 : decode cX5_keeps 49 = .ok (.if_icmp .gt 7, 3) := by decide +kernel
theorem dX5_keeps_52 : decode cX5_keeps 52 = .ok (.iload_n 2, 1) := by decide +kernel
theorem dX5_keeps_53 : decode cX5_keeps 53 = .ok (.goto 5, 3) := by decide +kernel
theorem dX5_keeps_56 : decode cX5_keeps 56 = .ok (.bipush (-9), 2) := by decide +kernel
theorem dX5_keeps_58 : decode cX5_keeps 58 = .ok (.ireturn, 1) := by decide +kernel
theorem dX5_losesIn_0 : decode cX5_losesIn 0 = .ok (.iconst 0, 1) := by decide +kernel
theorem dX5_losesIn_1 : decode cX5_losesIn 1 = .ok (.istore_n 3, 1) := by decide +kernel
theorem dX5_losesIn_2 : decode cX5_losesIn 2 = .ok (.iconst 0, 1) := by decide +kernel
theorem dX5_losesIn_3 : decode cX5_losesIn 3 = .ok (.istore 4, 2) := by decide +kernel
theorem dX5_losesIn_5 : decode cX5_losesIn 5 = .ok (.iload 4, 2) := by decide +kernel
theorem dX5_losesIn_7 : decode cX5_losesIn 7 = .ok (.iload_n 2, 1) := by decide +kernel
theorem dX5_losesIn_8 : decode cX5_losesIn 8 = .ok (.if_icmp .ge 34, 3) := by decide +kernel
theorem dX5_losesIn_11 : decode cX5_losesIn 11 = .ok (.aload_n 0, 1) := by decide +kernel
theorem dX5_losesIn_12 : decode cX5_losesIn 12 = .ok (.iload_n 1, 1) := by decide +kernel
theorem dX5_losesIn_13 : decode cX5_losesIn 13 = .ok (.invokevirtual 154, 3) := by decide +kernel
theorem dX5_losesIn_16 : decode cX5_losesIn 16 = .ok (.istore 5, 2) := by decide +kernel
theorem dX5_losesIn_18 : decode cX5_losesIn 18 = .ok (.iload_n 3, 1) := by decide +kernel
theorem dX5_losesIn_19 : decode cX5_losesIn 19 = .ok (.iload 5, 2) := by decide +kernel
theorem dX5_losesIn_21 : decode cX5_losesIn 21 = .ok (.bipush (-9), 2) := by decide +kernel
theorem dX5_losesIn_23 : decode cX5_losesIn 23 = .ok (.if_icmp .ne 7, 3) := by decide +kernel
theorem dX5_losesIn_26 : decode cX5_losesIn 26 = .ok (.iconst 0, 1) := by decide +kernel
theorem dX5_losesIn_27 : decode cX5_losesIn 27 = .ok (.goto 7, 3) := by decide +kernel
theorem dX5_losesIn_30 : decode cX5_losesIn 30 = .ok (.iload 5, 2) := by decide +kernel
theorem dX5_losesIn_32 : decode cX5_losesIn 32 = .ok (.iconst 1, 1) := by decide +kernel
theorem dX5_losesIn_33 : decode cX5_losesIn 33 = .ok (.iadd, 1) := by decide +kernel
theorem dX5_losesIn_34 : decode cX5_losesIn 34 = .ok (.iadd, 1) := by decide +kernel
theorem dX5_losesIn_35 : decode cX5_losesIn 35 = .ok (.istore_n 3, 1) := by decide +kernel
theorem dX5_losesIn_36 : decode cX5_losesIn 36 = .ok (.iinc 4 1, 3) := by decide +kernel
theorem dX5_losesIn_39 : decode cX5_losesIn 39 = .ok (.goto (-34), 3) := by decide +kernel
theorem dX5_losesIn_42 : decode cX5_losesIn 42 = .ok (.iload_n 3, 1) := by decide +kernel
theorem dX5_losesIn_43 : decode cX5_losesIn 43 = .ok (.ireturn, 1) := by decide +kernel
theorem dX5_harbour_0 : decode cX5_harbour 0 = .ok (.aload_n 0, 1) := by decide +kernel
theorem dX5_harbour_1 : decode cX5_harbour 1 = .ok (.iload_n 1, 1) := by decide +kernel
theorem dX5_harbour_2 : decode cX5_harbour 2 = .ok (.invokevirtual 127, 3) := by decide +kernel
theorem dX5_harbour_5 : decode cX5_harbour 5 = .ok (.ifCond .ne 5, 3) := by decide +kernel
theorem dX5_harbour_8 : decode cX5_harbour 8 = .ok (.iconst (-1), 1) := by decide +kernel
theorem dX5_harbour_9 : decode cX5_harbour 9 = .ok (.ireturn, 1) := by decide +kernel
theorem dX5_harbour_10 : decode cX5_harbour 10 = .ok (.iload_n 2, 1) := by decide +kernel
theorem dX5_harbour_11 : decode cX5_harbour 11 = .ok (.iconst 0, 1) := by decide +kernel
theorem dX5_harbour_12 : decode cX5_harbour 12 = .ok (.bipush 30, 2) := by decide +kernel
theorem dX5_harbour_14 : decode cX5_harbour 14 = .ok (.invokestatic 67, 3) := by decide +kernel
theorem dX5_harbour_17 : decode cX5_harbour 17 = .ok (.ifCond .eq 12, 3) := by decide +kernel
theorem dX5_harbour_20 : decode cX5_harbour 20 = .ok (.iload_n 3, 1) := by decide +kernel
theorem dX5_harbour_21 : decode cX5_harbour 21 = .ok (.iconst 0, 1) := by decide +kernel
theorem dX5_harbour_22 : decode cX5_harbour 22 = .ok (.iconst 1, 1) := by decide +kernel
theorem dX5_harbour_23 : decode cX5_harbour 23 = .ok (.invokestatic 67, 3) := by decide +kernel
theorem dX5_harbour_26 : decode cX5_harbour 26 = .ok (.ifCond .ne 6, 3) := by decide +kernel
theorem dX5_harbour_29 : decode cX5_harbour 29 = .ok (.bipush (-2), 2) := by decide +kernel
theorem dX5_harbour_31 : decode cX5_harbour 31 = .ok (.ireturn, 1) := by decide +kernel
theorem dX5_harbour_32 : decode cX5_harbour 32 = .ok (.aload_n 0, 1) := by decide +kernel
theorem dX5_harbour_33 : decode cX5_harbour 33 = .ok (.invokevirtual 177, 3) := by decide +kernel
theorem dX5_harbour_36 : decode cX5_harbour 36 = .ok (.bipush (-9), 2) := by decide +kernel
theorem dX5_harbour_38 : decode cX5_harbour 38 = .ok (.istore 4, 2) := by decide +kernel
theorem dX5_harbour_40 : decode cX5_harbour 40 = .ok (.iconst 0, 1) := by decide +kernel
theorem dX5_harbour_41 : decode cX5_harbour 41 = .ok (.istore 5, 2) := by decide +kernel
theorem dX5_harbour_43 : decode cX5_harbour 43 = .ok (.iconst 0, 1) := by decide +kernel
theorem dX5_harbour_44 : decode cX5_harbour 44 = .ok (.istore 6, 2) := by decide +kernel
theorem dX5_harbour_46 : decode cX5_harbour 46 = .ok (.iload 6, 2) := by decide +kernel
theorem dX5_harbour_48 : decode cX5_harbour 48 = .ok (.aload_n 0, 1) := by decide +kernel
theorem dX5_harbour_49 : decode cX5_harbour 49 = .ok (.getfield 74, 3) := by decide +kernel
theorem dX5_harbour_52 : decode cX5_harbour 52 = .ok (.if_icmp .ge 51, 3) := by decide +kernel
theorem dX5_harbour_55 : decode cX5_harbour 55 = .ok (.aload_n 0, 1) := by decide +kernel
theorem dX5_harbour_56 : decode cX5_harbour 56 = .ok (.getfield 31, 3) := by decide +kernel
theorem dX5_harbour_59 : decode cX5_harbour 59 = .ok (.iload_n 1, 1) := by decide +kernel
theorem dX5_harbour_60 : decode cX5_harbour 60 = .ok (.iload 6, 2) := by decide +kernel
theorem dX5_harbour_62 : decode cX5_harbour 62 = .ok (.iastore, 1) := by decide +kernel
theorem dX5_harbour_63 : decode cX5_harbour 63 = .ok (.aload_n 0, 1) := by decide +kernel
theorem dX5_harbour_64 : decode cX5_harbour 64 = .ok (.iload_n 1, 1) := by decide +kernel
theorem dX5_harbour_65 : decode cX5_harbour 65 = .ok (.iload_n 2, 1) := by decide +kernel
theorem dX5_harbour_66 : decode cX5_harbour 66 = .ok (.invokevirtual 193, 3) := by decide +kernel
theorem dX5_harbour_69 : decode cX5_harbour 69 = .ok (.istore 7, 2) := by decide +kernel
theorem dX5_harbour_71 : decode cX5_harbour 71 = .ok (.aload_n 0, 1) := by decide +kernel
theorem dX5_harbour_72 : decode cX5_harbour 72 = .ok (.invokevirtual 186, 3) := by decide +kernel
theorem dX5_harbour_75 : decode cX5_harbour 75 = .ok (.iload 4, 2) := by decide +kernel
theorem dX5_harbour_77 : decode cX5_harbour 77 = .ok (.bipush (-9), 2) := by decide +kernel
theorem dX5_harbour_79 : decode cX5_harbour 79 = .ok (.if_icmp .eq 10, 3) := by decide +kernel
theorem dX5_harbour_82 : decode cX5_harbour 82 = .ok (.iload 7, 2) := by decide +kernel
theorem dX5_harbour_84 : decode cX5_harbour 84 = .ok (.iload 5, 2) := by decide +kernel
theorem dX5_harbour_86 : decode cX5_harbour 86 = .ok (.if_icmp .ge 11, 3) := by decide +kernel
theorem dX5_harbour_89 : decode cX5_harbour 89 = .ok (.iload 6, 2) := by decide +kernel
theorem dX5_harbour_91 : decode cX5_harbour 91 = .ok (.istore 4, 2) := by decide +kernel
theorem dX5_harbour_93 : decode cX5_harbour 93 = .ok (.iload 7, 2) := by decide +kernel
theorem dX5_harbour_95 : decode cX5_harbour 95 = .ok (.istore 5, 2) := by decide +kernel
theorem dX5_harbour_97 : decode cX5_harbour 97 = .ok (.iinc 6 1, 3) := by decide +kernel
theorem dX5_harbour_100 : decode cX5_harbour 100 = .ok (.goto (-54), 3) := by decide +kernel
theorem dX5_harbour_103 : decode cX5_harbour 103 = .ok (.iload_n 3, 1) := by decide +kernel
theorem dX5_harbour_104 : decode cX5_harbour 104 = .ok (.ifCond .ne 8, 3) := by decide +kernel
theorem dX5_harbour_107 : decode cX5_harbour 107 = .ok (.iload 4, 2) := by decide +kernel
theorem dX5_harbour_109 : decode cX5_harbour 109 = .ok (.goto 5, 3) := by decide +kernel
theorem dX5_harbour_112 : decode cX5_harbour 112 = .ok (.iload 5, 2) := by decide +kernel
theorem dX5_harbour_114 : decode cX5_harbour 114 = .ok (.ireturn, 1) := by decide +kernel
theorem dX5_tryStow_0 : decode cX5_tryStow 0 = .ok (.iload_n 3, 1) := by decide +kernel
theorem dX5_tryStow_1 : decode cX5_tryStow 1 = .ok (.istore 4, 2) := by decide +kernel
theorem dX5_tryStow_3 : decode cX5_tryStow 3 = .ok (.iconst 3, 1) := by decide +kernel
theorem dX5_tryStow_4 : decode cX5_tryStow 4 = .ok (.istore 5, 2) := by decide +kernel
theorem dX5_tryStow_6 : decode cX5_tryStow 6 = .ok (.iload 5, 2) := by decide +kernel
theorem dX5_tryStow_8 : decode cX5_tryStow 8 = .ok (.ifCond .lt 32, 3) := by decide +kernel
theorem dX5_tryStow_11 : decode cX5_tryStow 11 = .ok (.aload_n 0, 1) := by decide +kernel
theorem dX5_tryStow_12 : decode cX5_tryStow 12 = .ok (.getfield 34, 3) := by decide +kernel
theorem dX5_tryStow_15 : decode cX5_tryStow 15 = .ok (.iconst 4, 1) := by decide +kernel
theorem dX5_tryStow_16 : decode cX5_tryStow 16 = .ok (.iload_n 1, 1) := by decide +kernel
theorem dX5_tryStow_17 : decode cX5_tryStow 17 = .ok (.imul, 1) := by decide +kernel
theorem dX5_tryStow_18 : decode cX5_tryStow 18 = .ok (.iload 5, 2) := by decide +kernel
theorem dX5_tryStow_20 : decode cX5_tryStow 20 = .ok (.iadd, 1) := by decide +kernel
theorem dX5_tryStow_21 : decode cX5_tryStow 21 = .ok (.iload 4, 2) := by decide +kernel
theorem dX5_tryStow_23 : decode cX5_tryStow 23 = .ok (.bipush 10, 2) := by decide +kernel
theorem dX5_tryStow_25 : decode cX5_tryStow 25 = .ok (.irem, 1) := by decide +kernel
theorem dX5_tryStow_26 : decode cX5_tryStow 26 = .ok (.iastore, 1) := by decide +kernel
theorem dX5_tryStow_27 : decode cX5_tryStow 27 = .ok (.iload 4, 2) := by decide +kernel
theorem dX5_tryStow_29 : decode cX5_tryStow 29 = .ok (.bipush 10, 2) := by decide +kernel
theorem dX5_tryStow_31 : decode cX5_tryStow 31 = .ok (.idiv, 1) := by decide +kernel
theorem dX5_tryStow_32 : decode cX5_tryStow 32 = .ok (.istore 4, 2) := by decide +kernel
theorem dX5_tryStow_34 : decode cX5_tryStow 34 = .ok (.iinc 5 (-1), 3) := by decide +kernel
theorem dX5_tryStow_37 : decode cX5_tryStow 37 = .ok (.goto (-31), 3) := by decide +kernel
theorem dX5_tryStow_40 : decode cX5_tryStow 40 = .ok (.aload_n 0, 1) := by decide +kernel
theorem dX5_tryStow_41 : decode cX5_tryStow 41 = .ok (.iload_n 1, 1) := by decide +kernel
theorem dX5_tryStow_42 : decode cX5_tryStow 42 = .ok (.iload_n 2, 1) := by decide +kernel
theorem dX5_tryStow_43 : decode cX5_tryStow 43 = .ok (.invokevirtual 193, 3) := by decide +kernel
theorem dX5_tryStow_46 : decode cX5_tryStow 46 = .ok (.istore 5, 2) := by decide +kernel
theorem dX5_tryStow_48 : decode cX5_tryStow 48 = .ok (.aload_n 0, 1) := by decide +kernel
theorem dX5_tryStow_49 : decode cX5_tryStow 49 = .ok (.iload_n 1, 1) := by decide +kernel
theorem dX5_tryStow_50 : decode cX5_tryStow 50 = .ok (.invokevirtual 136, 3) := by decide +kernel
theorem dX5_tryStow_53 : decode cX5_tryStow 53 = .ok (.istore 6, 2) := by decide +kernel
theorem dX5_tryStow_55 : decode cX5_tryStow 55 = .ok (.aload_n 0, 1) := by decide +kernel
theorem dX5_tryStow_56 : decode cX5_tryStow 56 = .ok (.getfield 196, 3) := by decide +kernel
theorem dX5_tryStow_59 : decode cX5_tryStow 59 = .ok (.bipush (-9), 2) := by decide +kernel
theorem dX5_tryStow_61 : decode cX5_tryStow 61 = .ok (.if_icmp .eq 30, 3) := by decide +kernel
theorem dX5_tryStow_64 : decode cX5_tryStow 64 = .ok (.iload 5, 2) := by decide +kernel
theorem dX5_tryStow_66 : decode cX5_tryStow 66 = .ok (.aload_n 0, 1) := by decide +kernel
theorem dX5_tryStow_67 : decode cX5_tryStow 67 = .ok (.getfield 196, 3) := by decide +kernel
theorem dX5_tryStow_70 : decode cX5_tryStow 70 = .ok (.if_icmp .lt 21, 3) := by decide +kernel
theorem dX5_tryStow_73 : decode cX5_tryStow 73 = .ok (.iload 5, 2) := by decide +kernel
theorem dX5_tryStow_75 : decode cX5_tryStow 75 = .ok (.aload_n 0, 1) := by decide +kernel
theorem dX5_tryStow_76 : decode cX5_tryStow 76 = .ok (.getfield 196, 3) := by decide +kernel
theorem dX5_tryStow_79 : decode cX5_tryStow 79 = .ok (.if_icmp .ne 60, 3) := by decide +kernel
theorem dX5_tryStow_82 : decode cX5_tryStow 82 = .ok (.iload 6, 2) := by decide +kernel
theorem dX5_tryStow_84 : decode cX5_tryStow 84 = .ok (.aload_n 0, 1) := by decide +kernel
theorem dX5_tryStow_85 : decode cX5_tryStow 85 = .ok (.getfield 199, 3) := by decide +kernel
theorem dX5_tryStow_88 : decode cX5_tryStow 88 = .ok (.if_icmp .le 51, 3) := by decide +kernel
theorem dX5_tryStow_91 : decode cX5_tryStow 91 = .ok (.aload_n 0, 1) := by decide +kernel
theorem dX5_tryStow_92 : decode cX5_tryStow 92 = .ok (.iload 5, 2) := by decide +kernel
theorem dX5_tryStow_94 : decode cX5_tryStow 94 = .ok (.putfield 196, 3) := by decide +kernel
theorem dX5_tryStow_97 : decode cX5_tryStow 97 = .ok (.aload_n 0, 1) := by decide +kernel
theorem dX5_tryStow_98 : decode cX5_tryStow 98 = .ok (.iload 6, 2) := by decide +kernel
theorem dX5_tryStow_100 : decode cX5_tryStow 100 = .ok (.putfield 199, 3) := by decide +kernel
theorem dX5_tryStow_103 : decode cX5_tryStow 103 = .ok (.iconst 3, 1) := by decide +kernel
theorem dX5_tryStow_104 : decode cX5_tryStow 104 = .ok (.istore 7, 2) := by decide +kernel
theorem dX5_tryStow_106 : decode cX5_tryStow 106 = .ok (.iload_n 3, 1) := by decide +kernel
theorem dX5_tryStow_107 : decode cX5_tryStow 107 = .ok (.istore 8, 2) := by decide +kernel
theorem dX5_tryStow_109 : decode cX5_tryStow 109 = .ok (.iload 7, 2) := by decide +kernel
theorem dX5_tryStow_111 : decode cX5_tryStow 111 = .ok (.ifCond .lt 28, 3) := by decide +kernel
theorem dX5_tryStow_114 : decode cX5_tryStow 114 = .ok (.aload_n 0, 1) := by decide +kernel
theorem dX5_tryStow_115 : decode cX5_tryStow 115 = .ok (.getfield 49, 3) := by decide +kernel
theorem dX5_tryStow_118 : decode cX5_tryStow 118 = .ok (.iload 7, 2) := by decide +kernel
theorem dX5_tryStow_120 : decode cX5_tryStow 120 = .ok (.iload 8, 2) := by decide +kernel
theorem dX5_tryStow_122 : decode cX5_tryStow 122 = .ok (.bipush 10, 2) := by decide +kernel
theorem dX5_tryStow_124 : decode cX5_tryStow 124 = .ok (.irem, 1) := by decide +kernel
theorem dX5_tryStow_125 : decode cX5_tryStow 125 = .ok (.iastore, 1) := by decide +kernel
theorem dX5_tryStow_126 : decode cX5_tryStow 126 = .ok (.iload 8, 2) := by decide +kernel
theorem dX5_tryStow_128 : decode cX5_tryStow 128 = .ok (.bipush 10, 2) := by decide +kernel
theorem dX5_tryStow_130 : decode cX5_tryStow 130 = .ok (.idiv, 1) := by decide +kernel
theorem dX5_tryStow_131 : decode cX5_tryStow 131 = .ok (.istore 8, 2) := by decide +kernel
theorem dX5_tryStow_133 : decode cX5_tryStow 133 = .ok (.iinc 7 (-1), 3) := by decide +kernel
theorem dX5_tryStow_136 : decode cX5_tryStow 136 = .ok (.goto (-27), 3) := by decide +kernel
theorem dX5_tryStow_139 : decode cX5_tryStow 139 = .ok (.aload_n 0, 1) := by decide +kernel
theorem dX5_tryStow_140 : decode cX5_tryStow 140 = .ok (.invokevirtual 186, 3) := by decide +kernel
theorem dX5_tryStow_143 : decode cX5_tryStow 143 = .ok (.return_, 1) := by decide +kernel
theorem dX5_digitSum_0 : decode cX5_digitSum 0 = .ok (.iconst 0, 1) := by decide +kernel
theorem dX5_digitSum_1 : decode cX5_digitSum 1 = .ok (.istore_n 1, 1) := by decide +kernel
theorem dX5_digitSum_2 : decode cX5_digitSum 2 = .ok (.iload_n 0, 1) := by decide +kernel
theorem dX5_digitSum_3 : decode cX5_digitSum 3 = .ok (.istore_n 2, 1) := by decide +kernel
theorem dX5_digitSum_4 : decode cX5_digitSum 4 = .ok (.iload_n 2, 1) := by decide +kernel
theorem dX5_digitSum_5 : decode cX5_digitSum 5 = .ok (.ifCond .le 18, 3) := by decide +kernel
theorem dX5_digitSum_8 : decode cX5_digitSum 8 = .ok (.iload_n 1, 1) := by decide +kernel
theorem dX5_digitSum_9 : decode cX5_digitSum 9 = .ok (.iload_n 2, 1) := by decide +kernel
theorem dX5_digitSum_10 : decode cX5_digitSum 10 = .ok (.bipush 10, 2) := by decide +kernel
theorem dX5_digitSum_12 : decode cX5_digitSum 12 = .ok (.irem, 1) := by decide +kernel
theorem dX5_digitSum_13 : decode cX5_digitSum 13 = .ok (.iadd, 1) := by decide +kernel
theorem dX5_digitSum_14 : decode cX5_digitSum 14 = .ok (.istore_n 1, 1) := by decide +kernel
theorem dX5_digitSum_15 : decode cX5_digitSum 15 = .ok (.iload_n 2, 1) := by decide +kernel
theorem dX5_digitSum_16 : decode cX5_digitSum 16 = .ok (.bipush 10, 2) := by decide +kernel
theorem dX5_digitSum_18 : decode cX5_digitSum 18 = .ok (.idiv, 1) := by decide +kernel
theorem dX5_digitSum_19 : decode cX5_digitSum 19 = .ok (.istore_n 2, 1) := by decide +kernel
theorem dX5_digitSum_20 : decode cX5_digitSum 20 = .ok (.goto (-16), 3) := by decide +kernel
theorem dX5_digitSum_23 : decode cX5_digitSum 23 = .ok (.iload_n 1, 1) := by decide +kernel
theorem dX5_digitSum_24 : decode cX5_digitSum 24 = .ok (.ireturn, 1) := by decide +kernel
theorem dX5_stow_0 : decode cX5_stow 0 = .ok (.aload_n 0, 1) := by decide +kernel
theorem dX5_stow_1 : decode cX5_stow 1 = .ok (.iload_n 1, 1) := by decide +kernel
theorem dX5_stow_2 : decode cX5_stow 2 = .ok (.invokevirtual 127, 3) := by decide +kernel
theorem dX5_stow_5 : decode cX5_stow 5 = .ok (.ifCond .ne 5, 3) := by decide +kernel
theorem dX5_stow_8 : decode cX5_stow 8 = .ok (.iconst (-1), 1) := by decide +kernel
theorem dX5_stow_9 : decode cX5_stow 9 = .ok (.ireturn, 1) := by decide +kernel
theorem dX5_stow_10 : decode cX5_stow 10 = .ok (.iload_n 2, 1) := by decide +kernel
theorem dX5_stow_11 : decode cX5_stow 11 = .ok (.iconst 0, 1) := by decide +kernel
theorem dX5_stow_12 : decode cX5_stow 12 = .ok (.bipush 30, 2) := by decide +kernel
theorem dX5_stow_14 : decode cX5_stow 14 = .ok (.invokestatic 67, 3) := by decide +kernel
theorem dX5_stow_17 : decode cX5_stow 17 = .ok (.ifCond .eq 35, 3) := by decide +kernel
theorem dX5_stow_20 : decode cX5_stow 20 = .ok (.iload_n 3, 1) := by decide +kernel
theorem dX5_stow_21 : decode cX5_stow 21 = .ok (.iconst 0, 1) := by decide +kernel
theorem dX5_stow_22 : decode cX5_stow 22 = .ok (.bipush 12, 2) := by decide +kernel
theorem dX5_stow_24 : decode cX5_stow 24 = .ok (.invokestatic 67, 3) := by decide +kernel
theorem dX5_stow_27 : decode cX5_stow 27 = .ok (.ifCond .eq 25, 3) := by decide +kernel
theorem dX5_stow_30 : decode cX5_stow 30 = .ok (.iload 4, 2) := by decide +kernel
theorem dX5_stow_32 : decode cX5_stow 32 = .ok (.iconst 0, 1) := by decide +kernel
theorem dX5_stow_33 : decode cX5_stow 33 = .ok (.iconst 1, 1) := by decide +kernel
theorem dX5_stow_34 : decode cX5_stow 34 = .ok (.invokestatic 67, 3) := by decide +kernel
theorem dX5_stow_37 : decode cX5_stow 37 = .ok (.ifCond .ne 18, 3) := by decide +kernel
theorem dX5_stow_40 : decode cX5_stow 40 = .ok (.iload 4, 2) := by decide +kernel
theorem dX5_stow_42 : decode cX5_stow 42 = .ok (.bipush 10, 2) := by decide +kernel
theorem dX5_stow_44 : decode cX5_stow 44 = .ok (.bipush 13, 2) := by decide +kernel
theorem dX5_stow_46 : decode cX5_stow 46 = .ok (.invokestatic 67, 3) := by decide +kernel
theorem dX5_stow_49 : decode cX5_stow 49 = .ok (.ifCond .ne 6, 3) := by decide +kernel
theorem dX5_stow_52 : decode cX5_stow 52 = .ok (.bipush (-2), 2) := by decide +kernel
theorem dX5_stow_54 : decode cX5_stow 54 = .ok (.ireturn, 1) := by decide +kernel
theorem dX5_stow_55 : decode cX5_stow 55 = .ok (.aload_n 0, 1) := by decide +kernel
theorem dX5_stow_56 : decode cX5_stow 56 = .ok (.invokevirtual 177, 3) := by decide +kernel
theorem dX5_stow_59 : decode cX5_stow 59 = .ok (.aload_n 0, 1) := by decide +kernel
theorem dX5_stow_60 : decode cX5_stow 60 = .ok (.bipush (-9), 2) := by decide +kernel
theorem dX5_stow_62 : decode cX5_stow 62 = .ok (.putfield 196, 3) := by decide +kernel
theorem dX5_stow_65 : decode cX5_stow 65 = .ok (.iconst 0, 1) := by decide +kernel
theorem dX5_stow_66 : decode cX5_stow 66 = .ok (.istore 5, 2) := by decide +kernel
theorem dX5_stow_68 : decode cX5_stow 68 = .ok (.iload 5, 2) := by decide +kernel
theorem dX5_stow_70 : decode cX5_stow 70 = .ok (.sipush 10000, 3) := by decide +kernel
theorem dX5_stow_73 : decode cX5_stow 73 = .ok (.if_icmp .ge 26, 3) := by decide +kernel
theorem dX5_stow_76 : decode cX5_stow 76 = .ok (.iload 5, 2) := by decide +kernel
theorem dX5_stow_78 : decode cX5_stow 78 = .ok (.invokestatic 202, 3) := by decide +kernel
theorem dX5_stow_81 : decode cX5_stow 81 = .ok (.iload_n 3, 1) := by decide +kernel
theorem dX5_stow_82 : decode cX5_stow 82 = .ok (.if_icmp .ne 11, 3) := by decide +kernel
theorem dX5_stow_85 : decode cX5_stow 85 = .ok (.aload_n 0, 1) := by decide +kernel
theorem dX5_stow_86 : decode cX5_stow 86 = .ok (.iload_n 1, 1) := by decide +kernel
theorem dX5_stow_87 : decode cX5_stow 87 = .ok (.iload_n 2, 1) := by decide +kernel
theorem dX5_stow_88 : decode cX5_stow 88 = .ok (.iload 5, 2) := by decide +kernel
theorem dX5_stow_90 : decode cX5_stow 90 = .ok (.invokevirtual 205, 3) := by decide +kernel
theorem dX5_stow_93 : decode cX5_stow 93 = .ok (.iinc 5 1, 3) := by decide +kernel
theorem dX5_stow_96 : decode cX5_stow 96 = .ok (.goto (-28), 3) := by decide +kernel
theorem dX5_stow_99 : decode cX5_stow 99 = .ok (.iload 4, 2) := by decide +kernel
theorem dX5_stow_101 : decode cX5_stow 101 = .ok (.ifCond .ne 10, 3) := by decide +kernel
theorem dX5_stow_104 : decode cX5_stow 104 = .ok (.aload_n 0, 1) := by decide +kernel
theorem dX5_stow_105 : decode cX5_stow 105 = .ok (.getfield 196, 3) := by decide +kernel
theorem dX5_stow_108 : decode cX5_stow 108 = .ok (.goto 26, 3) := by decide +kernel
theorem dX5_stow_111 : decode cX5_stow 111 = .ok (.iload 4, 2) := by decide +kernel
theorem dX5_stow_113 : decode cX5_stow 113 = .ok (.iconst 1, 1) := by decide +kernel
theorem dX5_stow_114 : decode cX5_stow 114 = .ok (.if_icmp .ne 10, 3) := by decide +kernel
theorem dX5_stow_117 : decode cX5_stow 117 = .ok (.aload_n 0, 1) := by decide +kernel
theorem dX5_stow_118 : decode cX5_stow 118 = .ok (.getfield 199, 3) := by decide +kernel
theorem dX5_stow_121 : decode cX5_stow 121 = .ok (.goto 13, 3) := by decide +kernel
theorem dX5_stow_124 : decode cX5_stow 124 = .ok (.aload_n 0, 1) := by decide +kernel
theorem dX5_stow_125 : decode cX5_stow 125 = .ok (.getfield 49, 3) := by decide +kernel
theorem dX5_stow_128 : decode cX5_stow 128 = .ok (.iload 4, 2) := by decide +kernel
theorem dX5_stow_130 : decode cX5_stow 130 = .ok (.bipush 10, 2) := by decide +kernel
theorem dX5_stow_132 : decode cX5_stow 132 = .ok (.isub, 1) := by decide +kernel
theorem dX5_stow_133 : decode cX5_stow 133 = .ok (.iaload, 1) := by decide +kernel
theorem dX5_stow_134 : decode cX5_stow 134 = .ok (.ireturn, 1) := by decide +kernel
theorem dX5_size_0 : decode cX5_size 0 = .ok (.iconst 0, 1) := by decide +kernel
theorem dX5_size_1 : decode cX5_size 1 = .ok (.istore_n 1, 1) := by decide +kernel
theorem dX5_size_2 : decode cX5_size 2 = .ok (.iload_n 0, 1) := by decide +kernel
theorem dX5_size_3 : decode cX5_size 3 = .ok (.istore_n 2, 1) := by decide +kernel
theorem dX5_size_4 : decode cX5_size 4 = .ok (.iload_n 2, 1) := by decide +kernel
theorem dX5_size_5 : decode cX5_size 5 = .ok (.ifCond .le 16, 3) := by decide +kernel
theorem dX5_size_8 : decode cX5_size 8 = .ok (.iload_n 1, 1) := by decide +kernel
theorem dX5_size_9 : decode cX5_size 9 = .ok (.iload_n 2, 1) := by decide +kernel
theorem dX5_size_10 : decode cX5_size 10 = .ok (.iconst 1, 1) := by decide +kernel
theorem dX5_size_11 : decode cX5_size 11 = .ok (.iand, 1) := by decide +kernel
theorem dX5_size_12 : decode cX5_size 12 = .ok (.iadd, 1) := by decide +kernel
theorem dX5_size_13 : decode cX5_size 13 = .ok (.istore_n 1, 1) := by decide +kernel
theorem dX5_size_14 : decode cX5_size 14 = .ok (.iload_n 2, 1) := by decide +kernel
theorem dX5_size_15 : decode cX5_size 15 = .ok (.iconst 1, 1) := by decide +kernel
theorem dX5_size_16 : decode cX5_size 16 = .ok (.ishr, 1) := by decide +kernel
theorem dX5_size_17 : decode cX5_size 17 = .ok (.istore_n 2, 1) := by decide +kernel
theorem dX5_size_18 : decode cX5_size 18 = .ok (.goto (-14), 3) := by decide +kernel
theorem dX5_size_21 : decode cX5_size 21 = .ok (.iload_n 1, 1) := by decide +kernel
theorem dX5_size_22 : decode cX5_size 22 = .ok (.ireturn, 1) := by decide +kernel
theorem dX5_namesOf_0 : decode cX5_namesOf 0 = .ok (.iconst 0, 1) := by decide +kernel
theorem dX5_namesOf_1 : decode cX5_namesOf 1 = .ok (.istore_n 2, 1) := by decide +kernel
theorem dX5_namesOf_2 : decode cX5_namesOf 2 = .ok (.iconst 0, 1) := by decide +kernel
theorem dX5_namesOf_3 : decode cX5_namesOf 3 = .ok (.istore_n 3, 1) := by decide +kernel
theorem dX5_namesOf_4 : decode cX5_namesOf 4 = .ok (.iload_n 3, 1) := by decide +kernel
theorem dX5_namesOf_5 : decode cX5_namesOf 5 = .ok (.aload_n 0, 1) := by decide +kernel
theorem dX5_namesOf_6 : decode cX5_namesOf 6 = .ok (.getfield 71, 3) := by decide +kernel
theorem dX5_namesOf_9 : decode cX5_namesOf 9 = .ok (.if_icmp .ge 33, 3) := by decide +kernel
theorem dX5_namesOf_12 : decode cX5_namesOf 12 = .ok (.iload_n 2, 1) := by decide +kernel
theorem dX5_namesOf_13 : decode cX5_namesOf 13 = .ok (.iload_n 1, 1) := by decide +kernel
theorem dX5_namesOf_14 : decode cX5_namesOf 14 = .ok (.iload_n 3, 1) := by decide +kernel
theorem dX5_namesOf_15 : decode cX5_namesOf 15 = .ok (.ishr, 1) := by decide +kernel
theorem dX5_namesOf_16 : decode cX5_namesOf 16 = .ok (.iconst 1, 1) := by decide +kernel
theorem dX5_namesOf_17 : decode cX5_namesOf 17 = .ok (.iand, 1) := by decide +kernel
theorem dX5_namesOf_18 : decode cX5_namesOf 18 = .ok (.iconst 1, 1) := by decide +kernel
theorem dX5_namesOf_19 : decode cX5_namesOf 19 = .ok (.if_icmp .ne 14, 3) := by decide +kernel
theorem dX5_namesOf_22 : decode cX5_namesOf 22 = .ok (.iconst 1, 1) := by decide +kernel
theorem dX5_namesOf_23 : decode cX5_namesOf 23 = .ok (.aload_n 0, 1) := by decide +kernel
theorem dX5_namesOf_24 : decode cX5_namesOf 24 = .ok (.getfield 25, 3) := by decide +kernel
theorem dX5_namesOf_27 : decode cX5_namesOf 27 = .ok (.iload_n 3, 1) := by decide +kernel
theorem dX5_namesOf_28 : decode cX5_namesOf 28 = .ok (.iaload, 1) := by decide +kernel
theorem dX5_namesOf_29 : decode cX5_namesOf 29 = .ok (.ishl, 1) := by decide +kernel
theorem dX5_namesOf_30 : decode cX5_namesOf 30 = .ok (.goto 4, 3) := by decide +kernel
theorem dX5_namesOf_33 : decode cX5_namesOf 33 = .ok (.iconst 0, 1) := by decide +kernel
theorem dX5_namesOf_34 : decode cX5_namesOf 34 = .ok (.ior, 1) := by decide +kernel
theorem dX5_namesOf_35 : decode cX5_namesOf 35 = .ok (.istore_n 2, 1) := by decide +kernel
theorem dX5_namesOf_36 : decode cX5_namesOf 36 = .ok (.iinc 3 1, 3) := by decide +kernel
theorem dX5_namesOf_39 : decode cX5_namesOf 39 = .ok (.goto (-35), 3) := by decide +kernel
theorem dX5_namesOf_42 : decode cX5_namesOf 42 = .ok (.iload_n 2, 1) := by decide +kernel
theorem dX5_namesOf_43 : decode cX5_namesOf 43 = .ok (.ireturn, 1) := by decide +kernel
