theorem dX5_cover_0 : decode cX5_cover 0 = .ok (.aload_n 0, 1) := by decide +kernel
theorem dX5_cover_1 : decode cX5_cover 1 = .ok (.getfield 71, 3) := by decide +kernel
theorem dX5_cover_4 : decode cX5_cover 4 = .ok (.ifCond .ne 6, 3) := by decide +kernel
theorem dX5_cover_7 : decode cX5_cover 7 = .ok (.bipush (-3), 2) := by decide +kernel
theorem dX5_cover_9 : decode cX5_cover 9 = .ok (.ireturn, 1) := by decide +kernel
theorem dX5_cover_10 : decode cX5_cover 10 = .ok (.iconst 1, 1) := by decide +kernel
theorem dX5_cover_11 : decode cX5_cover 11 = .ok (.aload_n 0, 1) := by decide +kernel
theorem dX5_cover_12 : decode cX5_cover 12 = .ok (.getfield 71, 3) := by decide +kernel
theorem dX5_cover_15 : decode cX5_cover 15 = .ok (.ishl, 1) := by decide +kernel
theorem dX5_cover_16 : decode cX5_cover 16 = .ok (.iconst 1, 1) := by decide +kernel
theorem dX5_cover_17 : decode cX5_cover 17 = .ok (.isub, 1) := by decide +kernel
theorem dX5_cover_18 : decode cX5_cover 18 = .ok (.istore_n 1, 1) := by decide +kernel
theorem dX5_cover_19 : decode cX5_cover 19 = .ok (.iload_n 1, 1) := by decide +kernel
theorem dX5_cover_20 : decode cX5_cover 20 = .ok (.istore_n 2, 1) := by decide +kernel
theorem dX5_cover_21 : decode cX5_cover 21 = .ok (.iload_n 1, 1) := by decide +kernel
theorem dX5_cover_22 : decode cX5_cover 22 = .ok (.istore_n 3, 1) := by decide +kernel
theorem dX5_cover_23 : decode cX5_cover 23 = .ok (.iload_n 3, 1) := by decide +kernel
theorem dX5_cover_24 : decode cX5_cover 24 = .ok (.ifCond .lt 35, 3) := by decide +kernel
theorem dX5_cover_27 : decode cX5_cover 27 = .ok (.aload_n 0, 1) := by decide +kernel
theorem dX5_cover_28 : decode cX5_cover 28 = .ok (.iload_n 3, 1) := by decide +kernel
theorem dX5_cover_29 : decode cX5_cover 29 = .ok (.invokevirtual 209, 3) := by decide +kernel
theorem dX5_cover_32 : decode cX5_cover 32 = .ok (.aload_n 0, 1) := by decide +kernel
theorem dX5_cover_33 : decode cX5_cover 33 = .ok (.iload_n 1, 1) := by decide +kernel
theorem dX5_cover_34 : decode cX5_cover 34 = .ok (.invokevirtual 209, 3) := by decide +kernel
theorem dX5_cover_37 : decode cX5_cover 37 = .ok (.if_icmp .ne 16, 3) := by decide +kernel
theorem dX5_cover_40 : decode cX5_cover 40 = .ok (.iload_n 3, 1) := by decide +kernel
theorem dX5_cover_41 : decode cX5_cover 41 = .ok (.invokestatic 212, 3) := by decide +kernel
theorem dX5_cover_44 : decode cX5_cover 44 = .ok (.iload_n 2, 1) := by decide +kernel
theorem dX5_cover_45 : decode cX5_cover 45 = .ok (.invokestatic 212, 3) := by decide +kernel
theorem dX5_cover_48 : decode cX5_cover 48 = .ok (.if_icmp .gt 5, 3) := by decide +kernel
theorem dX5_cover_51 : decode cX5_cover 51 = .ok (.iload_n 3, 1) := by decide +kernel
theorem dX5_cover_52 : decode cX5_cover 52 = .ok (.istore_n 2, 1) := by decide +kernel
theorem dX5_cover_53 : decode cX5_cover 53 = .ok (.iinc 3 (-1), 3) := by decide +kernel
theorem dX5_cover_56 : decode cX5_cover 56 = .ok (.goto (-33), 3) := by decide +kernel
theorem dX5_cover_59 : decode cX5_cover 59 = .ok (.iload_n 2, 1) := by decide +kernel
theorem dX5_cover_60 : decode cX5_cover 60 = .ok (.ireturn, 1) := by decide +kernel
theorem dX5_reading_0 : decode cX5_reading 0 = .ok (.aload_n 0, 1) := by decide +kernel
theorem dX5_reading_1 : decode cX5_reading 1 = .ok (.iload_n 1, 1) := by decide +kernel
theorem dX5_reading_2 : decode cX5_reading 2 = .ok (.invokevirtual 127, 3) := by decide +kernel
theorem dX5_reading_5 : decode cX5_reading 5 = .ok (.ifCond .eq 11, 3) := by decide +kernel
theorem dX5_reading_8 : decode cX5_reading 8 = .ok (.aload_n 0, 1) := by decide +kernel
theorem dX5_reading_9 : decode cX5_reading 9 = .ok (.iload_n 2, 1) := by decide +kernel
theorem dX5_reading_10 : decode cX5_reading 10 = .ok (.invokevirtual 142, 3) := by decide +kernel
theorem dX5_reading_13 : decode cX5_reading 13 = .ok (.ifCond .ne 5, 3) := by decide +kernel
theorem dX5_reading_16 : decode cX5_reading 16 = .ok (.iconst (-1), 1) := by decide +kernel
theorem dX5_reading_17 : decode cX5_reading 17 = .ok (.ireturn, 1) := by decide +kernel
theorem dX5_reading_18 : decode cX5_reading 18 = .ok (.iload_n 3, 1) := by decide +kernel
theorem dX5_reading_19 : decode cX5_reading 19 = .ok (.iconst 0, 1) := by decide +kernel
theorem dX5_reading_20 : decode cX5_reading 20 = .ok (.iconst 1, 1) := by decide +kernel
theorem dX5_reading_21 : decode cX5_reading 21 = .ok (.invokestatic 67, 3) := by decide +kernel
theorem dX5_reading_24 : decode cX5_reading 24 = .ok (.ifCond .ne 6, 3) := by decide +kernel
theorem dX5_reading_27 : decode cX5_reading 27 = .ok (.bipush (-2), 2) := by decide +kernel
theorem dX5_reading_29 : decode cX5_reading 29 = .ok (.ireturn, 1) := by decide +kernel
theorem dX5_reading_30 : decode cX5_reading 30 = .ok (.aload_n 0, 1) := by decide +kernel
theorem dX5_reading_31 : decode cX5_reading 31 = .ok (.getfield 110, 3) := by decide +kernel
theorem dX5_reading_34 : decode cX5_reading 34 = .ok (.bipush 8, 2) := by decide +kernel
theorem dX5_reading_36 : decode cX5_reading 36 = .ok (.if_icmp .ne 6, 3) := by decide +kernel
theorem dX5_reading_39 : decode cX5_reading 39 = .ok (.bipush (-4), 2) := by decide +kernel
theorem dX5_reading_41 : decode cX5_reading 41 = .ok (.ireturn, 1) := by decide +kernel
theorem dX5_reading_42 : decode cX5_reading 42 = .ok (.aload_n 0, 1) := by decide +kernel
theorem dX5_reading_43 : decode cX5_reading 43 = .ok (.getfield 52, 3) := by decide +kernel
theorem dX5_reading_46 : decode cX5_reading 46 = .ok (.aload_n 0, 1) := by decide +kernel
theorem dX5_reading_47 : decode cX5_reading 47 = .ok (.getfield 110, 3) := by decide +kernel
theorem dX5_reading_50 : decode cX5_reading 50 = .ok (.iload_n 1, 1) := by decide +kernel
theorem dX5_reading_51 : decode cX5_reading 51 = .ok (.iastore, 1) := by decide +kernel
theorem dX5_reading_52 : decode cX5_reading 52 = .ok (.aload_n 0, 1) := by decide +kernel
theorem dX5_reading_53 : decode cX5_reading 53 = .ok (.getfield 55, 3) := by decide +kernel
theorem dX5_reading_56 : decode cX5_reading 56 = .ok (.aload_n 0, 1) := by decide +kernel
theorem dX5_reading_57 : decode cX5_reading 57 = .ok (.getfield 110, 3) := by decide +kernel
theorem dX5_reading_60 : decode cX5_reading 60 = .ok (.iload_n 2, 1) := by decide +kernel
theorem dX5_reading_61 : decode cX5_reading 61 = .ok (.iastore, 1) := by decide +kernel
theorem dX5_reading_62 : decode cX5_reading 62 = .ok (.aload_n 0, 1) := by decide +kernel
theorem dX5_reading_63 : decode cX5_reading 63 = .ok (.getfield 58, 3) := by decide +kernel
theorem dX5_reading_66 : decode cX5_reading 66 = .ok (.aload_n 0, 1) := by decide +kernel
theorem dX5_reading_67 : decode cX5_reading 67 = .ok (.getfield 110, 3) := by decide +kernel
theorem dX5_reading_70 : decode cX5_reading 70 = .ok (.iload_n 3, 1) := by decide +kernel
theorem dX5_reading_71 : decode cX5_reading 71 = .ok (.iastore, 1) := by decide +kernel
theorem dX5_reading_72 : decode cX5_reading 72 = .ok (.aload_n 0, 1) := by decide +kernel
theorem dX5_reading_73 : decode cX5_reading 73 = .ok (.dup, 1) := by decide +kernel
theorem dX5_reading_74 : decode cX5_reading 74 = .ok (.getfield 110, 3) := by decide +kernel
theorem dX5_reading_77 : decode cX5_reading 77 = .ok (.iconst 1, 1) := by decide +kernel
theorem dX5_reading_78 : decode cX5_reading 78 = .ok (.iadd, 1) := by decide +kernel
theorem dX5_reading_79 : decode cX5_reading 79 = .ok (.putfield 110, 3) := by decide +kernel
theorem dX5_reading_82 : decode cX5_reading 82 = .ok (.aload_n 0, 1) := by decide +kernel
theorem dX5_reading_83 : decode cX5_reading 83 = .ok (.getfield 110, 3) := by decide +kernel
theorem dX5_reading_86 : decode cX5_reading 86 = .ok (.iconst 1, 1) := by decide +kernel
theorem dX5_reading_87 : decode cX5_reading 87 = .ok (.isub, 1) := by decide +kernel
theorem dX5_reading_88 : decode cX5_reading 88 = .ok (.ireturn, 1) := by decide +kernel
theorem dX5_back_0 : decode cX5_back 0 = .ok (.iload_n 1, 1) := by decide +kernel
theorem dX5_back_1 : decode cX5_back 1 = .ok (.iconst 0, 1) := by decide +kernel
theorem dX5_back_2 : decode cX5_back 2 = .ok (.aload_n 0, 1) := by decide +kernel
theorem dX5_back_3 : decode cX5_back 3 = .ok (.getfield 110, 3) := by decide +kernel
theorem dX5_back_6 : decode cX5_back 6 = .ok (.invokestatic 67, 3) := by decide +kernel
theorem dX5_back_9 : decode cX5_back 9 = .ok (.ifCond .ne 6, 3) := by decide +kernel
theorem dX5_back_12 : decode cX5_back 12 = .ok (.bipush (-2), 2) := by decide +kernel
theorem dX5_back_14 : decode cX5_back 14 = .ok (.ireturn, 1) := by decide +kernel
theorem dX5_back_15 : decode cX5_back 15 = .ok (.aload_n 0, 1) := by decide +kernel
theorem dX5_back_16 : decode cX5_back 16 = .ok (.dup, 1) := by decide +kernel
theorem dX5_back_17 : decode cX5_back 17 = .ok (.getfield 110, 3) := by decide +kernel
theorem dX5_back_20 : decode cX5_back 20 = .ok (.iload_n 1, 1) := by decide +kernel
theorem dX5_back_21 : decode cX5_back 21 = .ok (.isub, 1) := by decide +kernel
theorem dX5_back_22 : decode cX5_back 22 = .ok (.putfield 110, 3) := by decide +kernel
theorem dX5_back_25 : decode cX5_back 25 = .ok (.aload_n 0, 1) := by decide +kernel
theorem dX5_back_26 : decode cX5_back 26 = .ok (.getfield 110, 3) := by decide +kernel
theorem dX5_back_29 : decode cX5_back 29 = .ok (.ireturn, 1) := by decide +kernel
theorem dX5_areSo_0 : decode cX5_areSo 0 = .ok (.iconst 0, 1) := by decide +kernel
theorem dX5_areSo_1 : decode cX5_areSo 1 = .ok (.istore_n 1, 1) := by decide +kernel
theorem dX5_areSo_2 : decode cX5_areSo 2 = .ok (.iload_n 1, 1) := by decide +kernel
theorem dX5_areSo_3 : decode cX5_areSo 3 = .ok (.aload_n 0, 1) := by decide +kernel
theorem dX5_areSo_4 : decode cX5_areSo 4 = .ok (.getfield 110, 3) := by decide +kernel
theorem dX5_areSo_7 : decode cX5_areSo 7 = .ok (.if_icmp .ge 51, 3) := by decide +kernel
theorem dX5_areSo_10 : decode cX5_areSo 10 = .ok (.aload_n 0, 1) := by decide +kernel
theorem dX5_areSo_11 : decode cX5_areSo 11 = .ok (.getfield 19, 3) := by decide +kernel
theorem dX5_areSo_14 : decode cX5_areSo 14 = .ok (.aload_n 0, 1) := by decide +kernel
theorem dX5_areSo_15 : decode cX5_areSo 15 = .ok (.getfield 55, 3) := by decide +kernel
theorem dX5_areSo_18 : decode cX5_areSo 18 = .ok (.iload_n 1, 1) := by decide +kernel
theorem dX5_areSo_19 : decode cX5_areSo 19 = .ok (.iaload, 1) := by decide +kernel
theorem dX5_areSo_20 : decode cX5_areSo 20 = .ok (.iaload, 1) := by decide +kernel
theorem dX5_areSo_21 : decode cX5_areSo 21 = .ok (.aload_n 0, 1) := by decide +kernel
theorem dX5_areSo_22 : decode cX5_areSo 22 = .ok (.aload_n 0, 1) := by decide +kernel
theorem dX5_areSo_23 : decode cX5_areSo 23 = .ok (.getfield 52, 3) := by decide +kernel
theorem dX5_areSo_26 : decode cX5_areSo 26 = .ok (.iload_n 1, 1) := by decide +kernel
theorem dX5_areSo_27 : decode cX5_areSo 27 = .ok (.iaload, 1) := by decide +kernel
theorem dX5_areSo_28 : decode cX5_areSo 28 = .ok (.invokevirtual 130, 3) := by decide +kernel
theorem dX5_areSo_31 : decode cX5_areSo 31 = .ok (.if_icmp .le 7, 3) := by decide +kernel
theorem dX5_areSo_34 : decode cX5_areSo 34 = .ok (.iconst 1, 1) := by decide +kernel
theorem dX5_areSo_35 : decode cX5_areSo 35 = .ok (.goto 4, 3) := by decide +kernel
theorem dX5_areSo_38 : decode cX5_areSo 38 = .ok (.iconst 0, 1) := by decide +kernel
theorem dX5_areSo_39 : decode cX5_areSo 39 = .ok (.istore_n 2, 1) := by decide +kernel
theorem dX5_areSo_40 : decode cX5_areSo 40 = .ok (.iload_n 2, 1) := by decide +kernel
theorem dX5_areSo_41 : decode cX5_areSo 41 = .ok (.aload_n 0, 1) := by decide +kernel
theorem dX5_areSo_42 : decode cX5_areSo 42 = .ok (.getfield 58, 3) := by decide +kernel
theorem dX5_areSo_45 : decode cX5_areSo 45 = .ok (.iload_n 1, 1) := by decide +kernel
theorem dX5_areSo_46 : decode cX5_areSo 46 = .ok (.iaload, 1) := by decide +kernel
theorem dX5_areSo_47 : decode cX5_areSo 47 = .ok (.if_icmp .eq 5, 3) := by decide +kernel
theorem dX5_areSo_50 : decode cX5_areSo 50 = .ok (.iconst 0, 1) := by decide +kernel
theorem dX5_areSo_51 : decode cX5_areSo 51 = .ok (.ireturn, 1) := by decide +kernel
theorem dX5_areSo_52 : decode cX5_areSo 52 = .ok (.iinc 1 1, 3) := by decide +kernel
theorem dX5_areSo_55 : decode cX5_areSo 55 = .ok (.goto (-53), 3) := by decide +kernel
theorem dX5_areSo_58 : decode cX5_areSo 58 = .ok (.iconst 1, 1) := by decide +kernel
theorem dX5_areSo_59 : decode cX5_areSo 59 = .ok (.ireturn, 1) := by decide +kernel
theorem dX5_strengths_0 : decode cX5_strengths 0 = .ok (.aload_n 0, 1) := by decide +kernel
theorem dX5_strengths_1 : decode cX5_strengths 1 = .ok (.iload_n 1, 1) := by decide +kernel
theorem dX5_strengths_2 : decode cX5_strengths 2 = .ok (.invokevirtual 127, 3) := by decide +kernel
theorem dX5_strengths_5 : decode cX5_strengths 5 = .ok (.ifCond .ne 5, 3) := by decide +kernel
theorem dX5_strengths_8 : decode cX5_strengths 8 = .ok (.iconst (-1), 1) := by decide +kernel
theorem dX5_strengths_9 : decode cX5_strengths 9 = .ok (.ireturn, 1) := by decide +kernel
theorem dX5_strengths_10 : decode cX5_strengths 10 = .ok (.aload_n 0, 1) := by decide +kernel
theorem dX5_strengths_11 : decode cX5_strengths 11 = .ok (.getfield 28, 3) := by decide +kernel
theorem dX5_strengths_14 : decode cX5_strengths 14 = .ok (.iload_n 1, 1) := by decide +kernel
theorem dX5_strengths_15 : decode cX5_strengths 15 = .ok (.iaload, 1) := by decide +kernel
theorem dX5_strengths_16 : decode cX5_strengths 16 = .ok (.istore_n 2, 1) := by decide +kernel
theorem dX5_strengths_17 : decode cX5_strengths 17 = .ok (.iconst 0, 1) := by decide +kernel
theorem dX5_strengths_18 : decode cX5_strengths 18 = .ok (.istore_n 3, 1) := by decide +kernel
theorem dX5_strengths_19 : decode cX5_strengths 19 = .ok (.iconst 0, 1) := by decide +kernel
theorem dX5_strengths_20 : decode cX5_strengths 20 = .ok (.istore 4, 2) := by decide +kernel
theorem dX5_strengths_22 : decode cX5_strengths 22 = .ok (.iload 4, 2) := by decide +kernel
theorem dX5_strengths_24 : decode cX5_strengths 24 = .ok (.bipush 9, 2) := by decide +kernel
theorem dX5_strengths_26 : decode cX5_strengths 26 = .ok (.if_icmp .gt 35, 3) := by decide +kernel
theorem dX5_strengths_29 : decode cX5_strengths 29 = .ok (.aload_n 0, 1) := by decide +kernel
theorem dX5_strengths_30 : decode cX5_strengths 30 = .ok (.getfield 28, 3) := by decide +kernel
theorem dX5_strengths_33 : decode cX5_strengths 33 = .ok (.iload_n 1, 1) := by decide +kernel
theorem dX5_strengths_34 : decode cX5_strengths 34 = .ok (.iload 4, 2) := by decide +kernel
theorem dX5_strengths_36 : decode cX5_strengths 36 = .ok (.iastore, 1) := by decide +kernel
theorem dX5_strengths_37 : decode cX5_strengths 37 = .ok (.iload_n 3, 1) := by decide +kernel
theorem dX5_strengths_38 : decode cX5_strengths 38 = .ok (.aload_n 0, 1) := by decide +kernel
theorem dX5_strengths_39 : decode cX5_strengths 39 = .ok (.invokevirtual 215, 3) := by decide +kernel
theorem dX5_strengths_42 : decode cX5_strengths 42 = .ok (.ifCond .eq 10, 3) := by decide +kernel
theorem dX5_strengths_45 : decode cX5_strengths 45 = .ok (.iconst 1, 1) := by decide +kernel
theorem dX5_strengths_46 : decode cX5_strengths 46 = .ok (.iload 4, 2) := by decide +kernel
theorem dX5_strengths_48 : decode cX5_strengths 48 = .ok (.ishl, 1) := by decide +kernel
theorem dX5_strengths_49 : decode cX5_strengths 49 = .ok (.goto 4, 3) := by decide +kernel
theorem dX5_strengths_52 : decode cX5_strengths 52 = .ok (.iconst 0, 1) := by decide +kernel
theorem dX5_strengths_53 : decode cX5_strengths 53 = .ok (.ior, 1) := by decide +kernel
theorem dX5_strengths_54 : decode cX5_strengths 54 = .ok (.istore_n 3, 1) := by decide +kernel
theorem dX5_strengths_55 : decode cX5_strengths 55 = .ok (.iinc 4 1, 3) := by decide +kernel
theorem dX5_strengths_58 : decode cX5_strengths 58 = .ok (.goto (-36), 3) := by decide +kernel
theorem dX5_strengths_61 : decode cX5_strengths 61 = .ok (.aload_n 0, 1) := by decide +kernel
theorem dX5_strengths_62 : decode cX5_strengths 62 = .ok (.getfield 28, 3) := by decide +kernel
theorem dX5_strengths_65 : decode cX5_strengths 65 = .ok (.iload_n 1, 1) := by decide +kernel
theorem dX5_strengths_66 : decode cX5_strengths 66 = .ok (.iload_n 2, 1) := by decide +kernel
theorem dX5_strengths_67 : decode cX5_strengths 67 = .ok (.iastore, 1) := by decide +kernel
theorem dX5_strengths_68 : decode cX5_strengths 68 = .ok (.iload_n 3, 1) := by decide +kernel
theorem dX5_strengths_69 : decode cX5_strengths 69 = .ok (.ireturn, 1) := by decide +kernel
theorem dX5_kinds_0 : decode cX5_kinds 0 = .ok (.aload_n 0, 1) := by decide +kernel
theorem dX5_kinds_1 : decode cX5_kinds 1 = .ok (.iload_n 1, 1) := by decide +kernel
theorem dX5_kinds_2 : decode cX5_kinds 2 = .ok (.invokevirtual 127, 3) := by decide +kernel
theorem dX5_kinds_5 : decode cX5_kinds 5 = .ok (.ifCond .ne 5, 3) := by decide +kernel
theorem dX5_kinds_8 : decode cX5_kinds 8 = .ok (.iconst (-1), 1) := by decide +kernel
theorem dX5_kinds_9 : decode cX5_kinds 9 = .ok (.ireturn, 1) := by decide +kernel
theorem dX5_kinds_10 : decode cX5_kinds 10 = .ok (.aload_n 0, 1) := by decide +kernel
theorem dX5_kinds_11 : decode cX5_kinds 11 = .ok (.getfield 22, 3) := by decide +kernel
theorem dX5_kinds_14 : decode cX5_kinds 14 = .ok (.iload_n 1, 1) := by decide +kernel
theorem dX5_kinds_15 : decode cX5_kinds 15 = .ok (.iaload, 1) := by decide +kernel
theorem dX5_kinds_16 : decode cX5_kinds 16 = .ok (.istore_n 2, 1) := by decide +kernel
theorem dX5_kinds_17 : decode cX5_kinds 17 = .ok (.iconst 0, 1) := by decide +kernel
theorem dX5_kinds_18 : decode cX5_kinds 18 = .ok (.istore_n 3, 1) := by decide +kernel
theorem dX5_kinds_19 : decode cX5_kinds 19 = .ok (.iconst 0, 1) := by decide +kernel
theorem dX5_kinds_20 : decode cX5_kinds 20 = .ok (.istore 4, 2) := by decide +kernel
theorem dX5_kinds_22 : decode cX5_kinds 22 = .ok (.iload 4, 2) := by decide +kernel
theorem dX5_kinds_24 : decode cX5_kinds 24 = .ok (.iconst 3, 1) := by decide +kernel
theorem dX5_kinds_25 : decode cX5_kinds 25 = .ok (.if_icmp .ge 35, 3) := by decide +kernel
theorem dX5_kinds_28 : decode cX5_kinds 28 = .ok (.aload_n 0, 1) := by decide +kernel
theorem dX5_kinds_29 : decode cX5_kinds 29 = .ok (.getfield 22, 3) := by decide +kernel
theorem dX5_kinds_32 : decode cX5_kinds 32 = .ok (.iload_n 1, 1) := by decide +kernel
theorem dX5_kinds_33 : decode cX5_kinds 33 = .ok (.iload 4, 2) := by decide +kernel
theorem dX5_kinds_35 : decode cX5_kinds 35 = .ok (.iastore, 1) := by decide +kernel
theorem dX5_kinds_36 : decode cX5_kinds 36 = .ok (.iload_n 3, 1) := by decide +kernel
theorem dX5_kinds_37 : decode cX5_kinds 37 = .ok (.aload_n 0, 1) := by decide +kernel
theorem dX5_kinds_38 : decode cX5_kinds 38 = .ok (.invokevirtual 215, 3) := by decide +kernel
theorem dX5_kinds_41 : decode cX5_kinds 41 = .ok (.ifCond .eq 10, 3) := by decide +kernel
theorem dX5_kinds_44 : decode cX5_kinds 44 = .ok (.iconst 1, 1) := by decide +kernel
theorem dX5_kinds_45 : decode cX5_kinds 45 = .ok (.iload 4, 2) := by decide +kernel
theorem dX5_kinds_47 : decode cX5_kinds 47 = .ok (.ishl, 1) := by decide +kernel
theorem dX5_kinds_48 : decode cX5_kinds 48 = .ok (.goto 4, 3) := by decide +kernel
theorem dX5_kinds_51 : decode cX5_kinds 51 = .ok (.iconst 0, 1) := by decide +kernel
theorem dX5_kinds_52 : decode cX5_kinds 52 = .ok (.ior, 1) := by decide +kernel
theorem dX5_kinds_53 : decode cX5_kinds 53 = .ok (.istore_n 3, 1) := by decide +kernel
theorem dX5_kinds_54 : decode cX5_kinds 54 = .ok (.iinc 4 1, 3) := by decide +kernel
theorem dX5_kinds_57 : decode cX5_kinds 57 = .ok (.goto (-35), 3) := by decide +kernel
theorem dX5_kinds_60 : decode cX5_kinds 60 = .ok (.aload_n 0, 1) := by decide +kernel
theorem dX5_kinds_61 : decode cX5_kinds 61 = .ok (.getfield 22, 3) := by decide +kernel
theorem dX5_kinds_64 : decode cX5_kinds 64 = .ok (.iload_n 1, 1) := by decide +kernel
theorem dX5_kinds_65 : decode cX5_kinds 65 = .ok (.iload_n 2, 1) := by decide +kernel
theorem dX5_kinds_66 : decode cX5_kinds 66 = .ok (.iastore, 1) := by decide +kernel
theorem dX5_kinds_67 : decode cX5_kinds 67 = .ok (.iload_n 3, 1) := by decide +kernel
theorem dX5_kinds_68 : decode cX5_kinds 68 = .ok (.ireturn, 1) := by decide +kernel
theorem dX5_isLossOf_0 : decode cX5_isLossOf 0 = .ok (.aload_n 0, 1) := by decide +kernel
theorem dX5_isLossOf_1 : decode cX5_isLossOf 1 = .ok (.iload_n 1, 1) := by decide +kernel
theorem dX5_isLossOf_2 : decode cX5_isLossOf 2 = .ok (.iload_n 2, 1) := by decide +kernel
theorem dX5_isLossOf_3 : decode cX5_isLossOf 3 = .ok (.invokevirtual 193, 3) := by decide +kernel
theorem dX5_isLossOf_6 : decode cX5_isLossOf 6 = .ok (.pop, 1) := by decide +kernel
theorem dX5_isLossOf_7 : decode cX5_isLossOf 7 = .ok (.iconst 1, 1) := by decide +kernel
theorem dX5_isLossOf_8 : decode cX5_isLossOf 8 = .ok (.istore 4, 2) := by decide +kernel
theorem dX5_isLossOf_10 : decode cX5_isLossOf 10 = .ok (.iconst 0, 1) := by decide +kernel
theorem dX5_isLossOf_11 : decode cX5_isLossOf 11 = .ok (.istore 5, 2) := by decide +kernel
theorem dX5_isLossOf_13 : decode cX5_isLossOf 13 = .ok (.iload 5, 2) := by decide +kernel
theorem dX5_isLossOf_15 : decode cX5_isLossOf 15 = .ok (.iconst 4, 1) := by decide +kernel
theorem dX5_isLossOf_16 : decode cX5_isLossOf 16 = .ok (.if_icmp .ge 56, 3) := by decide +kernel
theorem dX5_isLossOf_19 : decode cX5_isLossOf 19 = .ok (.iload 4, 2) := by decide +kernel
theorem dX5_isLossOf_21 : decode cX5_isLossOf 21 = .ok (.ifCond .eq 42, 3) := by decide +kernel
theorem dX5_isLossOf_24 : decode cX5_isLossOf 24 = .ok (.aload_n 0, 1) := by decide +kernel
theorem dX5_isLossOf_25 : decode cX5_isLossOf 25 = .ok (.getfield 46, 3) := by decide +kernel
theorem dX5_isLossOf_28 : decode cX5_isLossOf 28 = .ok (.iconst 4, 1) := by decide +kernel
theorem dX5_isLossOf_29 : decode cX5_isLossOf 29 = .ok (.iload_n 1, 1) := by decide +kernel
theorem dX5_isLossOf_30 : decode cX5_isLossOf 30 = .ok (.imul, 1) := by decide +kernel
theorem dX5_isLossOf_31 : decode cX5_isLossOf 31 = .ok (.iload 5, 2) := by decide +kernel
theorem dX5_isLossOf_33 : decode cX5_isLossOf 33 = .ok (.iadd, 1) := by decide +kernel
theorem dX5_isLossOf_34 : decode cX5_isLossOf 34 = .ok (.iaload, 1) := by decide +kernel
theorem dX5_isLossOf_35 : decode cX5_isLossOf 35 = .ok (.aload_n 0, 1) := by decide +kernel
theorem dX5_isLossOf_36 : decode cX5_isLossOf 36 = .ok (.getfield 34, 3) := by decide +kernel
theorem dX5_isLossOf_39 : decode cX5_isLossOf 39 = .ok (.iconst 4, 1) := by decide +kernel
theorem dX5_isLossOf_40 : decode cX5_isLossOf 40 = .ok (.iload_n 1, 1) := by decide +kernel
theorem dX5_isLossOf_41 : decode cX5_isLossOf 41 = .ok (.imul, 1) := by decide +kernel
theorem dX5_isLossOf_42 : decode cX5_isLossOf 42 = .ok (.iload 5, 2) := by decide +kernel
theorem dX5_isLossOf_44 : decode cX5_isLossOf 44 = .ok (.iadd, 1) := by decide +kernel
theorem dX5_isLossOf_45 : decode cX5_isLossOf 45 = .ok (.iaload, 1) := by decide +kernel
theorem dX5_isLossOf_46 : decode cX5_isLossOf 46 = .ok (.isub, 1) := by decide +kernel
theorem dX5_isLossOf_47 : decode cX5_isLossOf 47 = .ok (.aload_n 0, 1) := by decide +kernel
theorem dX5_isLossOf_48 : decode cX5_isLossOf 48 = .ok (.getfield 16, 3) := by decide +kernel
theorem dX5_isLossOf_51 : decode cX5_isLossOf 51 = .ok (.iload_n 3, 1) := by decide +kernel
theorem dX5_isLossOf_52 : decode cX5_isLossOf 52 = .ok (.iload 5, 2) := by decide +kernel
theorem dX5_isLossOf_54 : decode cX5_isLossOf 54 = .ok (.iadd, 1) := by decide +kernel
theorem dX5_isLossOf_55 : decode cX5_isLossOf 55 = .ok (.iaload, 1) := by decide +kernel
theorem dX5_isLossOf_56 : decode cX5_isLossOf 56 = .ok (.if_icmp .ne 7, 3) := by decide +kernel
theorem dX5_isLossOf_59 : decode cX5_isLossOf 59 = .ok (.iconst 1, 1) := by decide +kernel
theorem dX5_isLossOf_60 : decode cX5_isLossOf 60 = .ok (.goto 4, 3) := by decide +kernel
theorem dX5_isLossOf_63 : decode cX5_isLossOf 63 = .ok (.iconst 0, 1) := by decide +kernel
theorem dX5_isLossOf_64 : decode cX5_isLossOf 64 = .ok (.istore 4, 2) := by decide +kernel
theorem dX5_isLossOf_66 : decode cX5_isLossOf 66 = .ok (.iinc 5 1, 3) := by decide +kernel
theorem dX5_isLossOf_69 : decode cX5_isLossOf 69 = .ok (.goto (-56), 3) := by decide +kernel
theorem dX5_isLossOf_72 : decode cX5_isLossOf 72 = .ok (.aload_n 0, 1) := by decide +kernel
theorem dX5_isLossOf_73 : decode cX5_isLossOf 73 = .ok (.invokevirtual 186, 3) := by decide +kernel
theorem dX5_isLossOf_76 : decode cX5_isLossOf 76 = .ok (.iload 4, 2) := by decide +kernel
theorem dX5_isLossOf_78 : decode cX5_isLossOf 78 = .ok (.ireturn, 1) := by decide +kernel
theorem dX5_names_0 : decode cX5_names 0 = .ok (.aload_n 0, 1) := by decide +kernel
theorem dX5_names_1 : decode cX5_names 1 = .ok (.iconst 0, 1) := by decide +kernel
theorem dX5_names_2 : decode cX5_names 2 = .ok (.putfield 61, 3) := by decide +kernel
theorem dX5_names_5 : decode cX5_names 5 = .ok (.iload_n 1, 1) := by decide +kernel
theorem dX5_names_6 : decode cX5_names 6 = .ok (.invokestatic 80, 3) := by decide +kernel
theorem dX5_names_9 : decode cX5_names 9 = .ok (.ifCond .eq 12, 3) := by decide +kernel
theorem dX5_names_12 : decode cX5_names 12 = .ok (.aload_n 0, 1) := by decide +kernel
theorem dX5_names_13 : decode cX5_names 13 = .ok (.iload 4, 2) := by decide +kernel
theorem dX5_names_15 : decode cX5_names 15 = .ok (.invokevirtual 127, 3) := by decide +kernel
theorem dX5_names_18 : decode cX5_names 18 = .ok (.ifCond .ne 5, 3) := by decide +kernel
theorem dX5_names_21 : decode cX5_names 21 = .ok (.iconst (-1), 1) := by decide +kernel
theorem dX5_names_22 : decode cX5_names 22 = .ok (.ireturn, 1) := by decide +kernel
theorem dX5_names_23 : decode cX5_names 23 = .ok (.iload_n 2, 1) := by decide +kernel
theorem dX5_names_24 : decode cX5_names 24 = .ok (.invokestatic 84, 3) := by decide +kernel
theorem dX5_names_27 : decode cX5_names 27 = .ok (.ifCond .eq 14, 3) := by decide +kernel
theorem dX5_names_30 : decode cX5_names 30 = .ok (.iload 5, 2) := by decide +kernel
theorem dX5_names_32 : decode cX5_names 32 = .ok (.iconst 0, 1) := by decide +kernel
theorem dX5_names_33 : decode cX5_names 33 = .ok (.bipush 30, 2) := by decide +kernel
theorem dX5_names_35 : decode cX5_names 35 = .ok (.invokestatic 67, 3) := by decide +kernel
theorem dX5_names_38 : decode cX5_names 38 = .ok (.ifCond .ne 6, 3) := by decide +kernel
theorem dX5_names_41 : decode cX5_names 41 = .ok (.bipush (-2), 2) := by decide +kernel
theorem dX5_names_43 : decode cX5_names 43 = .ok (.ireturn, 1) := by decide +kernel
theorem dX5_names_44 : decode cX5_names 44 = .ok (.aload_n 0, 1) := by decide +kernel
theorem dX5_names_45 : decode cX5_names 45 = .ok (.iload_n 1, 1) := by decide +kernel
theorem dX5_names_46 : decode cX5_names 46 = .ok (.iload_n 2, 1) := by decide +kernel
theorem dX5_names_47 : decode cX5_names 47 = .ok (.iload_n 3, 1) := by decide +kernel
theorem dX5_names_48 : decode cX5_names 48 = .ok (.iconst 4, 1) := by decide +kernel
theorem dX5_names_49 : decode cX5_names 49 = .ok (.invokevirtual 87, 3) := by decide +kernel
theorem dX5_names_52 : decode cX5_names 52 = .ok (.istore 6, 2) := by decide +kernel
theorem dX5_names_54 : decode cX5_names 54 = .ok (.iload 6, 2) := by decide +kernel
theorem dX5_names_56 : decode cX5_names 56 = .ok (.ifCond .eq 10, 3) := by decide +kernel
theorem dX5_names_59 : decode cX5_names 59 = .ok (.aload_n 0, 1) := by decide +kernel
theorem dX5_names_60 : decode cX5_names 60 = .ok (.iload 6, 2) := by decide +kernel
theorem dX5_names_62 : decode cX5_names 62 = .ok (.invokevirtual 91, 3) := by decide +kernel
theorem dX5_names_65 : decode cX5_names 65 = .ok (.ireturn, 1) := by decide +kernel
theorem dX5_names_66 : decode cX5_names 66 = .ok (.aload_n 0, 1) := by decide +kernel
theorem dX5_names_67 : decode cX5_names 67 = .ok (.invokevirtual 177, 3) := by decide +kernel
theorem dX5_names_70 : decode cX5_names 70 = .ok (.aload_n 0, 1) := by decide +kernel
theorem dX5_names_71 : decode cX5_names 71 = .ok (.getfield 25, 3) := by decide +kernel
theorem dX5_names_74 : decode cX5_names 74 = .ok (.iload 4, 2) := by decide +kernel
theorem dX5_names_76 : decode cX5_names 76 = .ok (.iaload, 1) := by decide +kernel
theorem dX5_names_77 : decode cX5_names 77 = .ok (.istore 7, 2) := by decide +kernel
theorem dX5_names_79 : decode cX5_names 79 = .ok (.iconst 0, 1) := by decide +kernel
theorem dX5_names_80 : decode cX5_names 80 = .ok (.istore 8, 2) := by decide +kernel
theorem dX5_names_82 : decode cX5_names 82 = .ok (.iconst 0, 1) := by decide +kernel
theorem dX5_names_83 : decode cX5_names 83 = .ok (.istore 9, 2) := by decide +kernel
theorem dX5_names_85 : decode cX5_names 85 = .ok (.iload 9, 2) := by decide +kernel
theorem dX5_names_87 : decode cX5_names 87 = .ok (.iconst 4, 1) := by decide +kernel
theorem dX5_names_88 : decode cX5_names 88 = .ok (.if_icmp .ge 48, 3) := by decide +kernel
theorem dX5_names_91 : decode cX5_names 91 = .ok (.aload_n 0, 1) := by decide +kernel
theorem dX5_names_92 : decode cX5_names 92 = .ok (.getfield 25, 3) := by decide +kernel
theorem dX5_names_95 : decode cX5_names 95 = .ok (.iload 4, 2) := by decide +kernel
theorem dX5_names_97 : decode cX5_names 97 = .ok (.iload 9, 2) := by decide +kernel
theorem dX5_names_99 : decode cX5_names 99 = .ok (.iastore, 1) := by decide +kernel
theorem dX5_names_100 : decode cX5_names 100 = .ok (.iload 8, 2) := by decide +kernel
theorem dX5_names_102 : decode cX5_names 102 = .ok (.aload_n 0, 1) := by decide +kernel
theorem dX5_names_103 : decode cX5_names 103 = .ok (.iload 4, 2) := by decide +kernel
theorem dX5_names_105 : decode cX5_names 105 = .ok (.iload 5, 2) := by decide +kernel
theorem dX5_names_107 : decode cX5_names 107 = .ok (.bipush 60, 2) := by decide +kernel
theorem dX5_names_109 : decode cX5_names 109 = .ok (.iload_n 1, 1) := by decide +kernel
theorem dX5_names_110 : decode cX5_names 110 = .ok (.imul, 1) := by decide +kernel
theorem dX5_names_111 : decode cX5_names 111 = .ok (.iload_n 3, 1) := by decide +kernel
theorem dX5_names_112 : decode cX5_names 112 = .ok (.iadd, 1) := by decide +kernel
theorem dX5_names_113 : decode cX5_names 113 = .ok (.invokevirtual 219, 3) := by decide +kernel
theorem dX5_names_116 : decode cX5_names 116 = .ok (.ifCond .eq 10, 3) := by decide +kernel
theorem dX5_names_119 : decode cX5_names 119 = .ok (.iconst 1, 1) := by decide +kernel
theorem dX5_names_120 : decode cX5_names 120 = .ok (.iload 9, 2) := by decide +kernel
theorem dX5_names_122 : decode cX5_names 122 = .ok (.ishl, 1) := by decide +kernel
theorem dX5_names_123 : decode cX5_names 123 = .ok (.goto 4, 3) := by decide +kernel
theorem dX5_names_126 : decode cX5_names 126 = .ok (.iconst 0, 1) := by decide +kernel
theorem dX5_names_127 : decode cX5_names 127 = .ok (.ior, 1) := by decide +kernel
theorem dX5_names_128 : decode cX5_names 128 = .ok (.istore 8, 2) := by decide +kernel
theorem dX5_names_130 : decode cX5_names 130 = .ok (.iinc 9 1, 3) := by decide +kernel
theorem dX5_names_133 : decode cX5_names 133 = .ok (.goto (-48), 3) := by decide +kernel
theorem dX5_names_136 : decode cX5_names 136 = .ok (.aload_n 0, 1) := by decide +kernel
theorem dX5_names_137 : decode cX5_names 137 = .ok (.getfield 25, 3) := by decide +kernel
theorem dX5_names_140 : decode cX5_names 140 = .ok (.iload 4, 2) := by decide +kernel
theorem dX5_names_142 : decode cX5_names 142 = .ok (.iload 7, 2) := by decide +kernel
theorem dX5_names_144 : decode cX5_names 144 = .ok (.iastore, 1) := by decide +kernel
theorem dX5_names_145 : decode cX5_names 145 = .ok (.iload 8, 2) := by decide +kernel
theorem dX5_names_147 : decode cX5_names 147 = .ok (.ireturn, 1) := by decide +kernel
theorem dX5_inLeastTerms_0 : decode cX5_inLeastTerms 0 = .ok (.lload_n 0, 1) := by decide +kernel
theorem dX5_inLeastTerms_1 : decode cX5_inLeastTerms 1 = .ok (.lstore 5, 2) := by decide +kernel
theorem dX5_inLeastTerms_3 : decode cX5_inLeastTerms 3 = .ok (.lload_n 2, 1) := by decide +kernel
theorem dX5_inLeastTerms_4 : decode cX5_inLeastTerms 4 = .ok (.lstore 7, 2) := by decide +kernel
theorem dX5_inLeastTerms_6 : decode cX5_inLeastTerms 6 = .ok (.lload 7, 2) := by decide +kernel
theorem dX5_inLeastTerms_8 : decode cX5_inLeastTerms 8 = .ok (.lconst 0, 1) := by decide +kernel
theorem dX5_inLeastTerms_9 : decode cX5_inLeastTerms 9 = .ok (.lcmp, 1) := by decide +kernel
theorem dX5_inLeastTerms_10 : decode cX5_inLeastTerms 10 = .ok (.ifCond .eq 21, 3) := by decide +kernel
theorem dX5_inLeastTerms_13 : decode cX5_inLeastTerms 13 = .ok (.lload 5, 2) := by decide +kernel
theorem dX5_inLeastTerms_15 : decode cX5_inLeastTerms 15 = .ok (.lload 7, 2) := by decide +kernel
theorem dX5_inLeastTerms_17 : decode cX5_inLeastTerms 17 = .ok (.lrem, 1) := by decide +kernel
theorem dX5_inLeastTerms_18 : decode cX5_inLeastTerms 18 = .ok (.lstore 9, 2) := by decide +kernel
theorem dX5_inLeastTerms_20 : decode cX5_inLeastTerms 20 = .ok (.lload 7, 2) := by decide +kernel
theorem dX5_inLeastTerms_22 : decode cX5_inLeastTerms 22 = .ok (.lstore 5, 2) := by decide +kernel
theorem dX5_inLeastTerms_24 : decode cX5_inLeastTerms 24 = .ok (.lload 9, 2) := by decide +kernel
theorem dX5_inLeastTerms_26 : decode cX5_inLeastTerms 26 = .ok (.lstore 7, 2) := by decide +kernel
theorem dX5_inLeastTerms_28 : decode cX5_inLeastTerms 28 = .ok (.goto (-22), 3) := by decide +kernel
theorem dX5_inLeastTerms_31 : decode cX5_inLeastTerms 31 = .ok (.iload 4, 2) := by decide +kernel
theorem dX5_inLeastTerms_33 : decode cX5_inLeastTerms 33 = .ok (.ifCond .ne 10, 3) := by decide +kernel
theorem dX5_inLeastTerms_36 : decode cX5_inLeastTerms 36 = .ok (.lload_n 0, 1) := by decide +kernel
theorem dX5_inLeastTerms_37 : decode cX5_inLeastTerms 37 = .ok (.lload 5, 2) := by decide +kernel
theorem dX5_inLeastTerms_39 : decode cX5_inLeastTerms 39 = .ok (.ldiv, 1) := by decide +kernel
theorem dX5_inLeastTerms_40 : decode cX5_inLeastTerms 40 = .ok (.goto 7, 3) := by decide +kernel
theorem dX5_inLeastTerms_43 : decode cX5_inLeastTerms 43 = .ok (.lload_n 2, 1) := by decide +kernel
theorem dX5_inLeastTerms_44 : decode cX5_inLeastTerms 44 = .ok (.lload 5, 2) := by decide +kernel
theorem dX5_inLeastTerms_46 : decode cX5_inLeastTerms 46 = .ok (.ldiv, 1) := by decide +kernel
theorem dX5_inLeastTerms_47 : decode cX5_inLeastTerms 47 = .ok (.lreturn, 1) := by decide +kernel
theorem dX5_tooRough_0 : decode cX5_tooRough 0 = .ok (.iconst 0, 1) := by decide +kernel
theorem dX5_tooRough_1 : decode cX5_tooRough 1 = .ok (.istore_n 2, 1) := by decide +kernel
theorem dX5_tooRough_2 : decode cX5_tooRough 2 = .ok (.iconst 0, 1) := by decide +kernel
theorem dX5_tooRough_3 : decode cX5_tooRough 3 = .ok (.istore_n 3, 1) := by decide +kernel
theorem dX5_tooRough_4 : decode cX5_tooRough 4 = .ok (.iload_n 3, 1) := by decide +kernel
theorem dX5_tooRough_5 : decode cX5_tooRough 5 = .ok (.aload_n 0, 1) := by decide +kernel
theorem dX5_tooRough_6 : decode cX5_tooRough 6 = .ok (.getfield 74, 3) := by decide +kernel
theorem dX5_tooRough_9 : decode cX5_tooRough 9 = .ok (.if_icmp .ge 31, 3) := by decide +kernel
theorem dX5_tooRough_12 : decode cX5_tooRough 12 = .ok (.iload_n 2, 1) := by decide +kernel
theorem dX5_tooRough_13 : decode cX5_tooRough 13 = .ok (.aload_n 0, 1) := by decide +kernel
theorem dX5_tooRough_14 : decode cX5_tooRough 14 = .ok (.getfield 19, 3) := by decide +kernel
theorem dX5_tooRough_17 : decode cX5_tooRough 17 = .ok (.iload_n 3, 1) := by decide +kernel
theorem dX5_tooRough_18 : decode cX5_tooRough 18 = .ok (.iaload, 1) := by decide +kernel
theorem dX5_tooRough_19 : decode cX5_tooRough 19 = .ok (.aload_n 0, 1) := by decide +kernel
theorem dX5_tooRough_20 : decode cX5_tooRough 20 = .ok (.iload_n 1, 1) := by decide +kernel
theorem dX5_tooRough_21 : decode cX5_tooRough 21 = .ok (.invokevirtual 130, 3) := by decide +kernel
theorem dX5_tooRough_24 : decode cX5_tooRough 24 = .ok (.if_icmp .le 7, 3) := by decide +kernel
theorem dX5_tooRough_27 : decode cX5_tooRough 27 = .ok (.iconst 1, 1) := by decide +kernel
theorem dX5_tooRough_28 : decode cX5_tooRough 28 = .ok (.goto 4, 3) := by decide +kernel
theorem dX5_tooRough_31 : decode cX5_tooRough 31 = .ok (.iconst 0, 1) := by decide +kernel
theorem dX5_tooRough_32 : decode cX5_tooRough 32 = .ok (.iadd, 1) := by decide +kernel
theorem dX5_tooRough_33 : decode cX5_tooRough 33 = .ok (.istore_n 2, 1) := by decide +kernel
theorem dX5_tooRough_34 : decode cX5_tooRough 34 = .ok (.iinc 3 1, 3) := by decide +kernel
theorem dX5_tooRough_37 : decode cX5_tooRough 37 = .ok (.goto (-33), 3) := by decide +kernel
theorem dX5_tooRough_40 : decode cX5_tooRough 40 = .ok (.iload_n 2, 1) := by decide +kernel
theorem dX5_tooRough_41 : decode cX5_tooRough 41 = .ok (.ireturn, 1) := by decide +kernel
theorem dX5_odds_0 : decode cX5_odds 0 = .ok (.aload_n 0, 1) := by decide +kernel
theorem dX5_odds_1 : decode cX5_odds 1 = .ok (.iload_n 1, 1) := by decide +kernel
theorem dX5_odds_2 : decode cX5_odds 2 = .ok (.invokevirtual 127, 3) := by decide +kernel
theorem dX5_odds_5 : decode cX5_odds 5 = .ok (.ifCond .eq 19, 3) := by decide +kernel
theorem dX5_odds_8 : decode cX5_odds 8 = .ok (.iload_n 2, 1) := by decide +kernel
theorem dX5_odds_9 : decode cX5_odds 9 = .ok (.invokestatic 148, 3) := by decide +kernel
theorem dX5_odds_12 : decode cX5_odds 12 = .ok (.ifCond .eq 12, 3) := by decide +kernel
theorem dX5_odds_15 : decode cX5_odds 15 = .ok (.iload_n 3, 1) := by decide +kernel
theorem dX5_odds_16 : decode cX5_odds 16 = .ok (.iconst 0, 1) := by decide +kernel
theorem dX5_odds_17 : decode cX5_odds 17 = .ok (.iconst 1, 1) := by decide +kernel
theorem dX5_odds_18 : decode cX5_odds 18 = .ok (.invokestatic 67, 3) := by decide +kernel
theorem dX5_odds_21 : decode cX5_odds 21 = .ok (.ifCond .ne 7, 3) := by decide +kernel
theorem dX5_odds_24 : decode cX5_odds 24 = .ok (.ldc2_w 65, 3) := by decide +kernel
theorem dX5_odds_27 : decode cX5_odds 27 = .ok (.lreturn, 1) := by decide +kernel
theorem dX5_odds_28 : decode cX5_odds 28 = .ok (.aload_n 0, 1) := by decide +kernel
theorem dX5_odds_29 : decode cX5_odds 29 = .ok (.iload_n 1, 1) := by decide +kernel
theorem dX5_odds_30 : decode cX5_odds 30 = .ok (.invokevirtual 151, 3) := by decide +kernel
theorem dX5_odds_33 : decode cX5_odds 33 = .ok (.iload_n 2, 1) := by decide +kernel
theorem dX5_odds_34 : decode cX5_odds 34 = .ok (.if_icmp .ne 12, 3) := by decide +kernel
theorem dX5_odds_37 : decode cX5_odds 37 = .ok (.aload_n 0, 1) := by decide +kernel
theorem dX5_odds_38 : decode cX5_odds 38 = .ok (.iload_n 1, 1) := by decide +kernel
theorem dX5_odds_39 : decode cX5_odds 39 = .ok (.invokevirtual 222, 3) := by decide +kernel
theorem dX5_odds_42 : decode cX5_odds 42 = .ok (.i2l, 1) := by decide +kernel
theorem dX5_odds_43 : decode cX5_odds 43 = .ok (.goto 4, 3) := by decide +kernel
theorem dX5_odds_46 : decode cX5_odds 46 = .ok (.lconst 0, 1) := by decide +kernel
theorem dX5_odds_47 : decode cX5_odds 47 = .ok (.aload_n 0, 1) := by decide +kernel
theorem dX5_odds_48 : decode cX5_odds 48 = .ok (.getfield 74, 3) := by decide +kernel
theorem dX5_odds_51 : decode cX5_odds 51 = .ok (.i2l, 1) := by decide +kernel
theorem dX5_odds_52 : decode cX5_odds 52 = .ok (.iload_n 3, 1) := by decide +kernel
theorem dX5_odds_53 : decode cX5_odds 53 = .ok (.invokestatic 225, 3) := by decide +kernel
theorem dX5_odds_56 : decode cX5_odds 56 = .ok (.lreturn, 1) := by decide +kernel
theorem dX5_premium_0 : decode cX5_premium 0 = .ok (.aload_n 0, 1) := by decide +kernel
theorem dX5_premium_1 : decode cX5_premium 1 = .ok (.iload_n 1, 1) := by decide +kernel
theorem dX5_premium_2 : decode cX5_premium 2 = .ok (.invokevirtual 127, 3) := by decide +kernel
theorem dX5_premium_5 : decode cX5_premium 5 = .ok (.ifCond .eq 12, 3) := by decide +kernel
theorem dX5_premium_8 : decode cX5_premium 8 = .ok (.iload_n 2, 1) := by decide +kernel
theorem dX5_premium_9 : decode cX5_premium 9 = .ok (.iconst 0, 1) := by decide +kernel
theorem dX5_premium_10 : decode cX5_premium 10 = .ok (.iconst 1, 1) := by decide +kernel
theorem dX5_premium_11 : decode cX5_premium 11 = .ok (.invokestatic 67, 3) := by decide +kernel
theorem dX5_premium_14 : decode cX5_premium 14 = .ok (.ifCond .ne 7, 3) := by decide +kernel
theorem dX5_premium_17 : decode cX5_premium 17 = .ok (.ldc2_w 65, 3) := by decide +kernel
theorem dX5_premium_20 : decode cX5_premium 20 = .ok (.lreturn, 1) := by decide +kernel
theorem dX5_premium_21 : decode cX5_premium 21 = .ok (.aload_n 0, 1) := by decide +kernel
theorem dX5_premium_22 : decode cX5_premium 22 = .ok (.iload_n 1, 1) := by decide +kernel
theorem dX5_premium_23 : decode cX5_premium 23 = .ok (.invokevirtual 151, 3) := by decide +kernel
theorem dX5_premium_26 : decode cX5_premium 26 = .ok (.istore_n 3, 1) := by decide +kernel
theorem dX5_premium_27 : decode cX5_premium 27 = .ok (.iload_n 3, 1) := by decide +kernel
theorem dX5_premium_28 : decode cX5_premium 28 = .ok (.bipush (-9), 2) := by decide +kernel
theorem dX5_premium_30 : decode cX5_premium 30 = .ok (.if_icmp .ne 7, 3) := by decide +kernel
theorem dX5_premium_33 : decode cX5_premium 33 = .ok (.lconst 0, 1) := by decide +kernel
theorem dX5_premium_34 : decode cX5_premium 34 = .ok (.goto 13, 3) := by decide +kernel
theorem dX5_premium_37 : decode cX5_premium 37 = .ok (.iload_n 3, 1) := by decide +kernel
theorem dX5_premium_38 : decode cX5_premium 38 = .ok (.iconst 1, 1) := by decide +kernel
theorem dX5_premium_39 : decode cX5_premium 39 = .ok (.iadd, 1) := by decide +kernel
theorem dX5_premium_40 : decode cX5_premium 40 = .ok (.aload_n 0, 1) := by decide +kernel
theorem dX5_premium_41 : decode cX5_premium 41 = .ok (.iload_n 1, 1) := by decide +kernel
theorem dX5_premium_42 : decode cX5_premium 42 = .ok (.invokevirtual 222, 3) := by decide +kernel
theorem dX5_premium_45 : decode cX5_premium 45 = .ok (.imul, 1) := by decide +kernel
theorem dX5_premium_46 : decode cX5_premium 46 = .ok (.i2l, 1) := by decide +kernel
theorem dX5_premium_47 : decode cX5_premium 47 = .ok (.aload_n 0, 1) := by decide +kernel
theorem dX5_premium_48 : decode cX5_premium 48 = .ok (.getfield 74, 3) := by decide +kernel
theorem dX5_premium_51 : decode cX5_premium 51 = .ok (.i2l, 1) := by decide +kernel
theorem dX5_premium_52 : decode cX5_premium 52 = .ok (.iload_n 2, 1) := by decide +kernel
theorem dX5_premium_53 : decode cX5_premium 53 = .ok (.invokestatic 225, 3) := by decide +kernel
theorem dX5_premium_56 : decode cX5_premium 56 = .ok (.lreturn, 1) := by decide +kernel
theorem dX5_sheet_0 : decode cX5_sheet 0 = .ok (.aload_n 0, 1) := by decide +kernel
theorem dX5_sheet_1 : decode cX5_sheet 1 = .ok (.iconst 0, 1) := by decide +kernel
theorem dX5_sheet_2 : decode cX5_sheet 2 = .ok (.putfield 61, 3) := by decide +kernel
theorem dX5_sheet_5 : decode cX5_sheet 5 = .ok (.iload_n 1, 1) := by decide +kernel
theorem dX5_sheet_6 : decode cX5_sheet 6 = .ok (.invokestatic 80, 3) := by decide +kernel
theorem dX5_sheet_9 : decode cX5_sheet 9 = .ok (.ifCond .ne 5, 3) := by decide +kernel
theorem dX5_sheet_12 : decode cX5_sheet 12 = .ok (.iconst (-1), 1) := by decide +kernel
theorem dX5_sheet_13 : decode cX5_sheet 13 = .ok (.ireturn, 1) := by decide +kernel
theorem dX5_sheet_14 : decode cX5_sheet 14 = .ok (.iload_n 2, 1) := by decide +kernel
theorem dX5_sheet_15 : decode cX5_sheet 15 = .ok (.invokestatic 84, 3) := by decide +kernel
theorem dX5_sheet_18 : decode cX5_sheet 18 = .ok (.ifCond .eq 9, 3) := by decide +kernel
theorem dX5_sheet_21 : decode cX5_sheet 21 = .ok (.iload_n 3, 1) := by decide +kernel
theorem dX5_sheet_22 : decode cX5_sheet 22 = .ok (.bipush 60, 2) := by decide +kernel
theorem dX5_sheet_24 : decode cX5_sheet 24 = .ok (.if_icmp .le 6, 3) := by decide +kernel
theorem dX5_sheet_27 : decode cX5_sheet 27 = .ok (.bipush (-2), 2) := by decide +kernel
theorem dX5_sheet_29 : decode cX5_sheet 29 = .ok (.ireturn, 1) := by decide +kernel
theorem dX5_sheet_30 : decode cX5_sheet 30 = .ok (.iload_n 3, 1) := by decide +kernel
theorem dX5_sheet_31 : decode cX5_sheet 31 = .ok (.ifCond .ge 9, 3) := by decide +kernel
theorem dX5_sheet_34 : decode cX5_sheet 34 = .ok (.aload_n 0, 1) := by decide +kernel
theorem dX5_sheet_35 : decode cX5_sheet 35 = .ok (.iconst 4, 1) := by decide +kernel
theorem dX5_sheet_36 : decode cX5_sheet 36 = .ok (.invokevirtual 91, 3) := by decide +kernel
theorem dX5_sheet_39 : decode cX5_sheet 39 = .ok (.ireturn, 1) := by decide +kernel
theorem dX5_sheet_40 : decode cX5_sheet 40 = .ok (.aload_n 0, 1) := by decide +kernel
theorem dX5_sheet_41 : decode cX5_sheet 41 = .ok (.getfield 9, 3) := by decide +kernel
theorem dX5_sheet_44 : decode cX5_sheet 44 = .ok (.iload_n 1, 1) := by decide +kernel
theorem dX5_sheet_45 : decode cX5_sheet 45 = .ok (.iload_n 2, 1) := by decide +kernel
theorem dX5_sheet_46 : decode cX5_sheet 46 = .ok (.iastore, 1) := by decide +kernel
theorem dX5_sheet_47 : decode cX5_sheet 47 = .ok (.aload_n 0, 1) := by decide +kernel
theorem dX5_sheet_48 : decode cX5_sheet 48 = .ok (.getfield 13, 3) := by decide +kernel
theorem dX5_sheet_51 : decode cX5_sheet 51 = .ok (.iload_n 1, 1) := by decide +kernel
theorem dX5_sheet_52 : decode cX5_sheet 52 = .ok (.iload_n 3, 1) := by decide +kernel
theorem dX5_sheet_53 : decode cX5_sheet 53 = .ok (.iastore, 1) := by decide +kernel
theorem dX5_sheet_54 : decode cX5_sheet 54 = .ok (.iconst 0, 1) := by decide +kernel
theorem dX5_sheet_55 : decode cX5_sheet 55 = .ok (.istore 4, 2) := by decide +kernel
theorem dX5_sheet_57 : decode cX5_sheet 57 = .ok (.iload 4, 2) := by decide +kernel
theorem dX5_sheet_59 : decode cX5_sheet 59 = .ok (.bipush 60, 2) := by decide +kernel
theorem dX5_sheet_61 : decode cX5_sheet 61 = .ok (.if_icmp .ge 22, 3) := by decide +kernel
theorem dX5_sheet_64 : decode cX5_sheet 64 = .ok (.aload_n 0, 1) := by decide +kernel
theorem dX5_sheet_65 : decode cX5_sheet 65 = .ok (.getfield 16, 3) := by decide +kernel
theorem dX5_sheet_68 : decode cX5_sheet 68 = .ok (.bipush 60, 2) := by decide +kernel
theorem dX5_sheet_70 : decode cX5_sheet 70 = .ok (.iload_n 1, 1) := by decide +kernel
theorem dX5_sheet_71 : decode cX5_sheet 71 = .ok (.imul, 1) := by decide +kernel
theorem dX5_sheet_72 : decode cX5_sheet 72 = .ok (.iload 4, 2) := by decide +kernel
theorem dX5_sheet_74 : decode cX5_sheet 74 = .ok (.iadd, 1) := by decide +kernel
theorem dX5_sheet_75 : decode cX5_sheet 75 = .ok (.iconst 0, 1) := by decide +kernel
theorem dX5_sheet_76 : decode cX5_sheet 76 = .ok (.iastore, 1) := by decide +kernel
theorem dX5_sheet_77 : decode cX5_sheet 77 = .ok (.iinc 4 1, 3) := by decide +kernel
theorem dX5_sheet_80 : decode cX5_sheet 80 = .ok (.goto (-23), 3) := by decide +kernel
theorem dX5_sheet_83 : decode cX5_sheet 83 = .ok (.iconst 1, 1) := by decide +kernel
theorem dX5_sheet_84 : decode cX5_sheet 84 = .ok (.ireturn, 1) := by decide +kernel
theorem dX5_lose_0 : decode cX5_lose 0 = .ok (.iload_n 1, 1) := by decide +kernel
theorem dX5_lose_1 : decode cX5_lose 1 = .ok (.invokestatic 80, 3) := by decide +kernel
theorem dX5_lose_4 : decode cX5_lose 4 = .ok (.ifCond .ne 5, 3) := by decide +kernel
theorem dX5_lose_7 : decode cX5_lose 7 = .ok (.iconst (-1), 1) := by decide +kernel
theorem dX5_lose_8 : decode cX5_lose 8 = .ok (.ireturn, 1) := by decide +kernel
theorem dX5_lose_9 : decode cX5_lose 9 = .ok (.aload_n 0, 1) := by decide +kernel
theorem dX5_lose_10 : decode cX5_lose 10 = .ok (.getfield 9, 3) := by decide +kernel
theorem dX5_lose_13 : decode cX5_lose 13 = .ok (.iload_n 1, 1) := by decide +kernel
theorem dX5_lose_14 : decode cX5_lose 14 = .ok (.iaload, 1) := by decide +kernel
theorem dX5_lose_15 : decode cX5_lose 15 = .ok (.bipush (-9), 2) := by decide +kernel
theorem dX5_lose_17 : decode cX5_lose 17 = .ok (.if_icmp .ne 7, 3) := by decide +kernel
theorem dX5_lose_20 : decode cX5_lose 20 = .ok (.iconst 0, 1) := by decide +kernel
theorem dX5_lose_21 : decode cX5_lose 21 = .ok (.goto 4, 3) := by decide +kernel
theorem dX5_lose_24 : decode cX5_lose 24 = .ok (.iconst 1, 1) := by decide +kernel
theorem dX5_lose_25 : decode cX5_lose 25 = .ok (.istore_n 2, 1) := by decide +kernel
theorem dX5_lose_26 : decode cX5_lose 26 = .ok (.aload_n 0, 1) := by decide +kernel
theorem dX5_lose_27 : decode cX5_lose 27 = .ok (.getfield 9, 3) := by decide +kernel
theorem dX5_lose_30 : decode cX5_lose 30 = .ok (.iload_n 1, 1) := by decide +kernel
theorem dX5_lose_31 : decode cX5_lose 31 = .ok (.bipush (-9), 2) := by decide +kernel
theorem dX5_lose_33 : decode cX5_lose 33 = .ok (.iastore, 1) := by decide +kernel
theorem dX5_lose_34 : decode cX5_lose 34 = .ok (.iload_n 2, 1) := by decide +kernel
theorem dX5_lose_35 : decode cX5_lose 35 = .ok (.ireturn, 1) := by decide +kernel
theorem dX5_put_0 : decode cX5_put 0 = .ok (.aload_n 0, 1) := by decide +kernel
theorem dX5_put_1 : decode cX5_put 1 = .ok (.iconst 0, 1) := by decide +kernel
theorem dX5_put_2 : decode cX5_put 2 = .ok (.putfield 61, 3) := by decide +kernel
theorem dX5_put_5 : decode cX5_put 5 = .ok (.iload_n 1, 1) := by decide +kernel
theorem dX5_put_6 : decode cX5_put 6 = .ok (.invokestatic 80, 3) := by decide +kernel
theorem dX5_put_9 : decode cX5_put 9 = .ok (.ifCond .ne 5, 3) := by decide +kernel
theorem dX5_put_12 : decode cX5_put 12 = .ok (.iconst (-1), 1) := by decide +kernel
theorem dX5_put_13 : decode cX5_put 13 = .ok (.ireturn, 1) := by decide +kernel
theorem dX5_put_14 : decode cX5_put 14 = .ok (.aload_n 0, 1) := by decide +kernel
theorem dX5_put_15 : decode cX5_put 15 = .ok (.getfield 9, 3) := by decide +kernel
theorem dX5_put_18 : decode cX5_put 18 = .ok (.iload_n 1, 1) := by decide +kernel
theorem dX5_put_19 : decode cX5_put 19 = .ok (.iaload, 1) := by decide +kernel
theorem dX5_put_20 : decode cX5_put 20 = .ok (.bipush (-9), 2) := by decide +kernel
theorem dX5_put_22 : decode cX5_put 22 = .ok (.if_icmp .ne 9, 3) := by decide +kernel
theorem dX5_put_25 : decode cX5_put 25 = .ok (.aload_n 0, 1) := by decide +kernel
theorem dX5_put_26 : decode cX5_put 26 = .ok (.iconst 1, 1) := by decide +kernel
theorem dX5_put_27 : decode cX5_put 27 = .ok (.invokevirtual 91, 3) := by decide +kernel
theorem dX5_put_30 : decode cX5_put 30 = .ok (.ireturn, 1) := by decide +kernel
theorem dX5_put_31 : decode cX5_put 31 = .ok (.iload_n 2, 1) := by decide +kernel
theorem dX5_put_32 : decode cX5_put 32 = .ok (.iconst 0, 1) := by decide +kernel
theorem dX5_put_33 : decode cX5_put 33 = .ok (.aload_n 0, 1) := by decide +kernel
theorem dX5_put_34 : decode cX5_put 34 = .ok (.getfield 13, 3) := by decide +kernel
theorem dX5_put_37 : decode cX5_put 37 = .ok (.iload_n 1, 1) := by decide +kernel
theorem dX5_put_38 : decode cX5_put 38 = .ok (.iaload, 1) := by decide +kernel
theorem dX5_put_39 : decode cX5_put 39 = .ok (.iconst 1, 1) := by decide +kernel
theorem dX5_put_40 : decode cX5_put 40 = .ok (.isub, 1) := by decide +kernel
theorem dX5_put_41 : decode cX5_put 41 = .ok (.invokestatic 67, 3) := by decide +kernel
theorem dX5_put_44 : decode cX5_put 44 = .ok (.ifCond .ne 9, 3) := by decide +kernel
theorem dX5_put_47 : decode cX5_put 47 = .ok (.aload_n 0, 1) := by decide +kernel
theorem dX5_put_48 : decode cX5_put 48 = .ok (.iconst 3, 1) := by decide +kernel
theorem dX5_put_49 : decode cX5_put 49 = .ok (.invokevirtual 91, 3) := by decide +kernel
theorem dX5_put_52 : decode cX5_put 52 = .ok (.ireturn, 1) := by decide +kernel
theorem dX5_put_53 : decode cX5_put 53 = .ok (.aload_n 0, 1) := by decide +kernel
theorem dX5_put_54 : decode cX5_put 54 = .ok (.getfield 16, 3) := by decide +kernel
theorem dX5_put_57 : decode cX5_put 57 = .ok (.bipush 60, 2) := by decide +kernel
theorem dX5_put_59 : decode cX5_put 59 = .ok (.iload_n 1, 1) := by decide +kernel
theorem dX5_put_60 : decode cX5_put 60 = .ok (.imul, 1) := by decide +kernel
theorem dX5_put_61 : decode cX5_put 61 = .ok (.iload_n 2, 1) := by decide +kernel
theorem dX5_put_62 : decode cX5_put 62 = .ok (.iadd, 1) := by decide +kernel
theorem dX5_put_63 : decode cX5_put 63 = .ok (.aload_n 0, 1) := by decide +kernel
theorem dX5_put_64 : decode cX5_put 64 = .ok (.getfield 9, 3) := by decide +kernel
theorem dX5_put_67 : decode cX5_put 67 = .ok (.iload_n 1, 1) := by decide +kernel
theorem dX5_put_68 : decode cX5_put 68 = .ok (.iaload, 1) := by decide +kernel
theorem dX5_put_69 : decode cX5_put 69 = .ok (.ifCond .ne 8, 3) := by decide +kernel
theorem dX5_put_72 : decode cX5_put 72 = .ok (.iload_n 3, 1) := by decide +kernel
theorem dX5_put_73 : decode cX5_put 73 = .ok (.i2b, 1) := by decide +kernel
theorem dX5_put_74 : decode cX5_put 74 = .ok (.goto 19, 3) := by decide +kernel
theorem dX5_put_77 : decode cX5_put 77 = .ok (.aload_n 0, 1) := by decide +kernel
theorem dX5_put_78 : decode cX5_put 78 = .ok (.getfield 9, 3) := by decide +kernel
theorem dX5_put_81 : decode cX5_put 81 = .ok (.iload_n 1, 1) := by decide +kernel
theorem dX5_put_82 : decode cX5_put 82 = .ok (.iaload, 1) := by decide +kernel
theorem dX5_put_83 : decode cX5_put 83 = .ok (.iconst 1, 1) := by decide +kernel
theorem dX5_put_84 : decode cX5_put 84 = .ok (.if_icmp .ne 8, 3) := by decide +kernel
theorem dX5_put_87 : decode cX5_put 87 = .ok (.iload_n 3, 1) := by decide +kernel
theorem dX5_put_88 : decode cX5_put 88 = .ok (.i2s, 1) := by decide +kernel
theorem dX5_put_89 : decode cX5_put 89 = .ok (.goto 4, 3) := by decide +kernel
theorem dX5_put_92 : decode cX5_put 92 = .ok (.iload_n 3, 1) := by decide +kernel
theorem dX5_put_93 : decode cX5_put 93 = .ok (.iastore, 1) := by decide +kernel
theorem dX5_put_94 : decode cX5_put 94 = .ok (.iconst 1, 1) := by decide +kernel
theorem dX5_put_95 : decode cX5_put 95 = .ok (.ireturn, 1) := by decide +kernel
theorem dX5_cell_0 : decode cX5_cell 0 = .ok (.aload_n 0, 1) := by decide +kernel
theorem dX5_cell_1 : decode cX5_cell 1 = .ok (.iconst 0, 1) := by decide +kernel
theorem dX5_cell_2 : decode cX5_cell 2 = .ok (.putfield 61, 3) := by decide +kernel
theorem dX5_cell_5 : decode cX5_cell 5 = .ok (.iload_n 1, 1) := by decide +kernel
theorem dX5_cell_6 : decode cX5_cell 6 = .ok (.invokestatic 80, 3) := by decide +kernel
theorem dX5_cell_9 : decode cX5_cell 9 = .ok (.ifCond .eq 10, 3) := by decide +kernel
theorem dX5_cell_12 : decode cX5_cell 12 = .ok (.iload_n 3, 1) := by decide +kernel
theorem dX5_cell_13 : decode cX5_cell 13 = .ok (.invokestatic 84, 3) := by decide +kernel
theorem dX5_cell_16 : decode cX5_cell 16 = .ok (.ifCond .ne 7, 3) := by decide +kernel
theorem dX5_cell_19 : decode cX5_cell 19 = .ok (.ldc2_w 65, 3) := by decide +kernel
theorem dX5_cell_22 : decode cX5_cell 22 = .ok (.lreturn, 1) := by decide +kernel
theorem dX5_cell_23 : decode cX5_cell 23 = .ok (.aload_n 0, 1) := by decide +kernel
theorem dX5_cell_24 : decode cX5_cell 24 = .ok (.getfield 9, 3) := by decide +kernel
theorem dX5_cell_27 : decode cX5_cell 27 = .ok (.iload_n 1, 1) := by decide +kernel
theorem dX5_cell_28 : decode cX5_cell 28 = .ok (.iaload, 1) := by decide +kernel
theorem dX5_cell_29 : decode cX5_cell 29 = .ok (.bipush (-9), 2) := by decide +kernel
theorem dX5_cell_31 : decode cX5_cell 31 = .ok (.if_icmp .eq 19, 3) := by decide +kernel
theorem dX5_cell_34 : decode cX5_cell 34 = .ok (.aload_n 0, 1) := by decide +kernel
theorem dX5_cell_35 : decode cX5_cell 35 = .ok (.getfield 9, 3) := by decide +kernel
theorem dX5_cell_38 : decode cX5_cell 38 = .ok (.iload_n 1, 1) := by decide +kernel
theorem dX5_cell_39 : decode cX5_cell 39 = .ok (.iaload, 1) := by decide +kernel
theorem dX5_cell_40 : decode cX5_cell 40 = .ok (.iload_n 3, 1) := by decide +kernel
theorem dX5_cell_41 : decode cX5_cell 41 = .ok (.if_icmp .eq 9, 3) := by decide +kernel
theorem dX5_cell_44 : decode cX5_cell 44 = .ok (.aload_n 0, 1) := by decide +kernel
theorem dX5_cell_45 : decode cX5_cell 45 = .ok (.iconst 2, 1) := by decide +kernel
theorem dX5_cell_46 : decode cX5_cell 46 = .ok (.invokevirtual 229, 3) := by decide +kernel
theorem dX5_cell_49 : decode cX5_cell 49 = .ok (.lreturn, 1) := by decide +kernel
theorem dX5_cell_50 : decode cX5_cell 50 = .ok (.aload_n 0, 1) := by decide +kernel
theorem dX5_cell_51 : decode cX5_cell 51 = .ok (.getfield 9, 3) := by decide +kernel
theorem dX5_cell_54 : decode cX5_cell 54 = .ok (.iload_n 1, 1) := by decide +kernel
theorem dX5_cell_55 : decode cX5_cell 55 = .ok (.iaload, 1) := by decide +kernel
theorem dX5_cell_56 : decode cX5_cell 56 = .ok (.bipush (-9), 2) := by decide +kernel
theorem dX5_cell_58 : decode cX5_cell 58 = .ok (.if_icmp .ne 9, 3) := by decide +kernel
theorem dX5_cell_61 : decode cX5_cell 61 = .ok (.aload_n 0, 1) := by decide +kernel
theorem dX5_cell_62 : decode cX5_cell 62 = .ok (.iconst 1, 1) := by decide +kernel
theorem dX5_cell_63 : decode cX5_cell 63 = .ok (.invokevirtual 229, 3) := by decide +kernel
theorem dX5_cell_66 : decode cX5_cell 66 = .ok (.lreturn, 1) := by decide +kernel
theorem dX5_cell_67 : decode cX5_cell 67 = .ok (.iload_n 2, 1) := by decide +kernel
theorem dX5_cell_68 : decode cX5_cell 68 = .ok (.iconst 0, 1) := by decide +kernel
theorem dX5_cell_69 : decode cX5_cell 69 = .ok (.aload_n 0, 1) := by decide +kernel
theorem dX5_cell_70 : decode cX5_cell 70 = .ok (.getfield 13, 3) := by decide +kernel
theorem dX5_cell_73 : decode cX5_cell 73 = .ok (.iload_n 1, 1) := by decide +kernel
theorem dX5_cell_74 : decode cX5_cell 74 = .ok (.iaload, 1) := by decide +kernel
theorem dX5_cell_75 : decode cX5_cell 75 = .ok (.iconst 1, 1) := by decide +kernel
theorem dX5_cell_76 : decode cX5_cell 76 = .ok (.isub, 1) := by decide +kernel
theorem dX5_cell_77 : decode cX5_cell 77 = .ok (.invokestatic 67, 3) := by decide +kernel
theorem dX5_cell_80 : decode cX5_cell 80 = .ok (.ifCond .ne 9, 3) := by decide +kernel
theorem dX5_cell_83 : decode cX5_cell 83 = .ok (.aload_n 0, 1) := by decide +kernel
theorem dX5_cell_84 : decode cX5_cell 84 = .ok (.iconst 3, 1) := by decide +kernel
theorem dX5_cell_85 : decode cX5_cell 85 = .ok (.invokevirtual 229, 3) := by decide +kernel
theorem dX5_cell_88 : decode cX5_cell 88 = .ok (.lreturn, 1) := by decide +kernel
theorem dX5_cell_89 : decode cX5_cell 89 = .ok (.aload_n 0, 1) := by decide +kernel
theorem dX5_cell_90 : decode cX5_cell 90 = .ok (.getfield 16, 3) := by decide +kernel
theorem dX5_cell_93 : decode cX5_cell 93 = .ok (.bipush 60, 2) := by decide +kernel
theorem dX5_cell_95 : decode cX5_cell 95 = .ok (.iload_n 1, 1) := by decide +kernel
theorem dX5_cell_96 : decode cX5_cell 96 = .ok (.imul, 1) := by decide +kernel
theorem dX5_cell_97 : decode cX5_cell 97 = .ok (.iload_n 2, 1) := by decide +kernel
theorem dX5_cell_98 : decode cX5_cell 98 = .ok (.iadd, 1) := by decide +kernel
theorem dX5_cell_99 : decode cX5_cell 99 = .ok (.iaload, 1) := by decide +kernel
theorem dX5_cell_100 : decode cX5_cell 100 = .ok (.i2l, 1) := by decide +kernel
theorem dX5_cell_101 : decode cX5_cell 101 = .ok (.lreturn, 1) := by decide +kernel
theorem dX5_copy_0 : decode cX5_copy 0 = .ok (.aload_n 0, 1) := by decide +kernel
theorem dX5_copy_1 : decode cX5_copy 1 = .ok (.iconst 0, 1) := by decide +kernel
theorem dX5_copy_2 : decode cX5_copy 2 = .ok (.putfield 61, 3) := by decide +kernel
theorem dX5_copy_5 : decode cX5_copy 5 = .ok (.iload_n 1, 1) := by decide +kernel
theorem dX5_copy_6 : decode cX5_copy 6 = .ok (.invokestatic 80, 3) := by decide +kernel
theorem dX5_copy_9 : decode cX5_copy 9 = .ok (.ifCond .eq 10, 3) := by decide +kernel
theorem dX5_copy_12 : decode cX5_copy 12 = .ok (.iload_n 3, 1) := by decide +kernel
theorem dX5_copy_13 : decode cX5_copy 13 = .ok (.invokestatic 80, 3) := by decide +kernel
theorem dX5_copy_16 : decode cX5_copy 16 = .ok (.ifCond .ne 5, 3) := by decide +kernel
theorem dX5_copy_19 : decode cX5_copy 19 = .ok (.iconst (-1), 1) := by decide +kernel
theorem dX5_copy_20 : decode cX5_copy 20 = .ok (.ireturn, 1) := by decide +kernel
theorem dX5_copy_21 : decode cX5_copy 21 = .ok (.aload_n 0, 1) := by decide +kernel
theorem dX5_copy_22 : decode cX5_copy 22 = .ok (.getfield 9, 3) := by decide +kernel
theorem dX5_copy_25 : decode cX5_copy 25 = .ok (.iload_n 1, 1) := by decide +kernel
theorem dX5_copy_26 : decode cX5_copy 26 = .ok (.iaload, 1) := by decide +kernel
theorem dX5_copy_27 : decode cX5_copy 27 = .ok (.bipush (-9), 2) := by decide +kernel
theorem dX5_copy_29 : decode cX5_copy 29 = .ok (.if_icmp .eq 14, 3) := by decide +kernel
theorem dX5_copy_32 : decode cX5_copy 32 = .ok (.aload_n 0, 1) := by decide +kernel
theorem dX5_copy_33 : decode cX5_copy 33 = .ok (.getfield 9, 3) := by decide +kernel
theorem dX5_copy_36 : decode cX5_copy 36 = .ok (.iload_n 3, 1) := by decide +kernel
theorem dX5_copy_37 : decode cX5_copy 37 = .ok (.iaload, 1) := by decide +kernel
theorem dX5_copy_38 : decode cX5_copy 38 = .ok (.bipush (-9), 2) := by decide +kernel
theorem dX5_copy_40 : decode cX5_copy 40 = .ok (.if_icmp .ne 9, 3) := by decide +kernel
theorem dX5_copy_43 : decode cX5_copy 43 = .ok (.aload_n 0, 1) := by decide +kernel
theorem dX5_copy_44 : decode cX5_copy 44 = .ok (.iconst 1, 1) := by decide +kernel
theorem dX5_copy_45 : decode cX5_copy 45 = .ok (.invokevirtual 91, 3) := by decide +kernel
theorem dX5_copy_48 : decode cX5_copy 48 = .ok (.ireturn, 1) := by decide +kernel
theorem dX5_copy_49 : decode cX5_copy 49 = .ok (.aload_n 0, 1) := by decide +kernel
theorem dX5_copy_50 : decode cX5_copy 50 = .ok (.getfield 9, 3) := by decide +kernel
theorem dX5_copy_53 : decode cX5_copy 53 = .ok (.iload_n 1, 1) := by decide +kernel
theorem dX5_copy_54 : decode cX5_copy 54 = .ok (.iaload, 1) := by decide +kernel
theorem dX5_copy_55 : decode cX5_copy 55 = .ok (.aload_n 0, 1) := by decide +kernel
theorem dX5_copy_56 : decode cX5_copy 56 = .ok (.getfield 9, 3) := by decide +kernel
theorem dX5_copy_59 : decode cX5_copy 59 = .ok (.iload_n 3, 1) := by decide +kernel
theorem dX5_copy_60 : decode cX5_copy 60 = .ok (.iaload, 1) := by decide +kernel
theorem dX5_copy_61 : decode cX5_copy 61 = .ok (.if_icmp .eq 9, 3) := by decide +kernel
theorem dX5_copy_64 : decode cX5_copy 64 = .ok (.aload_n 0, 1) := by decide +kernel
theorem dX5_copy_65 : decode cX5_copy 65 = .ok (.iconst 2, 1) := by decide +kernel
theorem dX5_copy_66 : decode cX5_copy 66 = .ok (.invokevirtual 91, 3) := by decide +kernel
theorem dX5_copy_69 : decode cX5_copy 69 = .ok (.ireturn, 1) := by decide +kernel
theorem dX5_copy_70 : decode cX5_copy 70 = .ok (.iload_n 2, 1) := by decide +kernel
theorem dX5_copy_71 : decode cX5_copy 71 = .ok (.ifCond .lt 38, 3) := by decide +kernel
theorem dX5_copy_74 : decode cX5_copy 74 = .ok (.iload 4, 2) := by decide +kernel
theorem dX5_copy_76 : decode cX5_copy 76 = .ok (.ifCond .lt 33, 3) := by decide +kernel
theorem dX5_copy_79 : decode cX5_copy 79 = .ok (.iload 5, 2) := by decide +kernel
theorem dX5_copy_81 : decode cX5_copy 81 = .ok (.ifCond .lt 28, 3) := by decide +kernel
theorem dX5_copy_84 : decode cX5_copy 84 = .ok (.iload_n 2, 1) := by decide +kernel
theorem dX5_copy_85 : decode cX5_copy 85 = .ok (.aload_n 0, 1) := by decide +kernel
theorem dX5_copy_86 : decode cX5_copy 86 = .ok (.getfield 13, 3) := by decide +kernel
theorem dX5_copy_89 : decode cX5_copy 89 = .ok (.iload_n 1, 1) := by decide +kernel
theorem dX5_copy_90 : decode cX5_copy 90 = .ok (.iaload, 1) := by decide +kernel
theorem dX5_copy_91 : decode cX5_copy 91 = .ok (.if_icmp .gt 18, 3) := by decide +kernel
theorem dX5_copy_94 : decode cX5_copy 94 = .ok (.iload 4, 2) := by decide +kernel
theorem dX5_copy_96 : decode cX5_copy 96 = .ok (.aload_n 0, 1) := by decide +kernel
theorem dX5_copy_97 : decode cX5_copy 97 = .ok (.getfield 13, 3) := by decide +kernel
theorem dX5_copy_100 : decode cX5_copy 100 = .ok (.iload_n 3, 1) := by decide +kernel
theorem dX5_copy_101 : decode cX5_copy 101 = .ok (.iaload, 1) := by decide +kernel
theorem dX5_copy_102 : decode cX5_copy 102 = .ok (.if_icmp .gt 7, 3) := by decide +kernel
theorem dX5_copy_105 : decode cX5_copy 105 = .ok (.iconst 1, 1) := by decide +kernel
theorem dX5_copy_106 : decode cX5_copy 106 = .ok (.goto 4, 3) := by decide +kernel
theorem dX5_copy_109 : decode cX5_copy 109 = .ok (.iconst 0, 1) := by decide +kernel
theorem dX5_copy_110 : decode cX5_copy 110 = .ok (.istore 6, 2) := by decide +kernel
theorem dX5_copy_112 : decode cX5_copy 112 = .ok (.iload 6, 2) := by decide +kernel
theorem dX5_copy_114 : decode cX5_copy 114 = .ok (.ifCond .eq 30, 3) := by decide +kernel
theorem dX5_copy_117 : decode cX5_copy 117 = .ok (.iload 5, 2) := by decide +kernel
theorem dX5_copy_119 : decode cX5_copy 119 = .ok (.aload_n 0, 1) := by decide +kernel
theorem dX5_copy_120 : decode cX5_copy 120 = .ok (.getfield 13, 3) := by decide +kernel
theorem dX5_copy_123 : decode cX5_copy 123 = .ok (.iload_n 1, 1) := by decide +kernel
theorem dX5_copy_124 : decode cX5_copy 124 = .ok (.iaload, 1) := by decide +kernel
theorem dX5_copy_125 : decode cX5_copy 125 = .ok (.iload_n 2, 1) := by decide +kernel
theorem dX5_copy_126 : decode cX5_copy 126 = .ok (.isub, 1) := by decide +kernel
theorem dX5_copy_127 : decode cX5_copy 127 = .ok (.if_icmp .gt 17, 3) := by decide +kernel
theorem dX5_copy_130 : decode cX5_copy 130 = .ok (.iload 5, 2) := by decide +kernel
theorem dX5_copy_132 : decode cX5_copy 132 = .ok (.aload_n 0, 1) := by decide +kernel
theorem dX5_copy_133 : decode cX5_copy 133 = .ok (.getfield 13, 3) := by decide +kernel
theorem dX5_copy_136 : decode cX5_copy 136 = .ok (.iload_n 3, 1) := by decide +kernel
theorem dX5_copy_137 : decode cX5_copy 137 = .ok (.iaload, 1) := by decide +kernel
theorem dX5_copy_138 : decode cX5_copy 138 = .ok (.iload 4, 2) := by decide +kernel
theorem dX5_copy_140 : decode cX5_copy 140 = .ok (.isub, 1) := by decide +kernel
theorem dX5_copy_141 : decode cX5_copy 141 = .ok (.if_icmp .le 9, 3) := by decide +kernel
theorem dX5_copy_144 : decode cX5_copy 144 = .ok (.aload_n 0, 1) := by decide +kernel
theorem dX5_copy_145 : decode cX5_copy 145 = .ok (.iconst 3, 1) := by decide +kernel
theorem dX5_copy_146 : decode cX5_copy 146 = .ok (.invokevirtual 91, 3) := by decide +kernel
theorem dX5_copy_149 : decode cX5_copy 149 = .ok (.ireturn, 1) := by decide +kernel
theorem dX5_copy_150 : decode cX5_copy 150 = .ok (.iload_n 2, 1) := by decide +kernel
theorem dX5_copy_151 : decode cX5_copy 151 = .ok (.iload 4, 2) := by decide +kernel
theorem dX5_copy_153 : decode cX5_copy 153 = .ok (.if_icmp .ge 7, 3) := by decide +kernel
theorem dX5_copy_156 : decode cX5_copy 156 = .ok (.iconst 1, 1) := by decide +kernel
theorem dX5_copy_157 : decode cX5_copy 157 = .ok (.goto 4, 3) := by decide +kernel
theorem dX5_copy_160 : decode cX5_copy 160 = .ok (.iconst 0, 1) := by decide +kernel
theorem dX5_copy_161 : decode cX5_copy 161 = .ok (.istore 7, 2) := by decide +kernel
theorem dX5_copy_163 : decode cX5_copy 163 = .ok (.iconst 0, 1) := by decide +kernel
theorem dX5_copy_164 : decode cX5_copy 164 = .ok (.istore 8, 2) := by decide +kernel
theorem dX5_copy_166 : decode cX5_copy 166 = .ok (.iload 8, 2) := by decide +kernel
theorem dX5_copy_168 : decode cX5_copy 168 = .ok (.iload 5, 2) := by decide +kernel
theorem dX5_copy_170 : decode cX5_copy 170 = .ok (.if_icmp .ge 57, 3) := by decide +kernel
theorem dX5_copy_173 : decode cX5_copy 173 = .ok (.iload 7, 2) := by decide +kernel
theorem dX5_copy_175 : decode cX5_copy 175 = .ok (.ifCond .eq 13, 3) := by decide +kernel
theorem dX5_copy_178 : decode cX5_copy 178 = .ok (.iload 5, 2) := by decide +kernel
theorem dX5_copy_180 : decode cX5_copy 180 = .ok (.iconst 1, 1) := by decide +kernel
theorem dX5_copy_181 : decode cX5_copy 181 = .ok (.isub, 1) := by decide +kernel
theorem dX5_copy_182 : decode cX5_copy 182 = .ok (.iload 8, 2) := by decide +kernel
theorem dX5_copy_184 : decode cX5_copy 184 = .ok (.isub, 1) := by decide +kernel
theorem dX5_copy_185 : decode cX5_copy 185 = .ok (.goto 5, 3) := by decide +kernel
theorem dX5_copy_188 : decode cX5_copy 188 = .ok (.iload 8, 2) := by decide +kernel
theorem dX5_copy_190 : decode cX5_copy 190 = .ok (.istore 9, 2) := by decide +kernel
theorem dX5_copy_192 : decode cX5_copy 192 = .ok (.aload_n 0, 1) := by decide +kernel
theorem dX5_copy_193 : decode cX5_copy 193 = .ok (.getfield 16, 3) := by decide +kernel
theorem dX5_copy_196 : decode cX5_copy 196 = .ok (.bipush 60, 2) := by decide +kernel
theorem dX5_copy_198 : decode cX5_copy 198 = .ok (.iload_n 3, 1) := by decide +kernel
theorem dX5_copy_199 : decode cX5_copy 199 = .ok (.imul, 1) := by decide +kernel
theorem dX5_copy_200 : decode cX5_copy 200 = .ok (.iload 4, 2) := by decide +kernel
theorem dX5_copy_202 : decode cX5_copy 202 = .ok (.iadd, 1) := by decide +kernel
theorem dX5_copy_203 : decode cX5_copy 203 = .ok (.iload 9, 2) := by decide +kernel
theorem dX5_copy_205 : decode cX5_copy 205 = .ok (.iadd, 1) := by decide +kernel
theorem dX5_copy_206 : decode cX5_copy 206 = .ok (.aload_n 0, 1) := by decide +kernel
theorem dX5_copy_207 : decode cX5_copy 207 = .ok (.getfield 16, 3) := by decide +kernel
theorem dX5_copy_210 : decode cX5_copy 210 = .ok (.bipush 60, 2) := by decide +kernel
theorem dX5_copy_212 : decode cX5_copy 212 = .ok (.iload_n 1, 1) := by decide +kernel
theorem dX5_copy_213 : decode cX5_copy 213 = .ok (.imul, 1) := by decide +kernel
theorem dX5_copy_214 : decode cX5_copy 214 = .ok (.iload_n 2, 1) := by decide +kernel
theorem dX5_copy_215 : decode cX5_copy 215 = .ok (.iadd, 1) := by decide +kernel
theorem dX5_copy_216 : decode cX5_copy 216 = .ok (.iload 9, 2) := by decide +kernel
theorem dX5_copy_218 : decode cX5_copy 218 = .ok (.iadd, 1) := by decide +kernel
theorem dX5_copy_219 : decode cX5_copy 219 = .ok (.iaload, 1) := by decide +kernel
theorem dX5_copy_220 : decode cX5_copy 220 = .ok (.iastore, 1) := by decide +kernel
theorem dX5_copy_221 : decode cX5_copy 221 = .ok (.iinc 8 1, 3) := by decide +kernel
theorem dX5_copy_224 : decode cX5_copy 224 = .ok (.goto (-58), 3) := by decide +kernel
theorem dX5_copy_227 : decode cX5_copy 227 = .ok (.iload 5, 2) := by decide +kernel
theorem dX5_copy_229 : decode cX5_copy 229 = .ok (.ireturn, 1) := by decide +kernel
theorem dX5_begins_0 : decode cX5_begins 0 = .ok (.aload_n 0, 1) := by decide +kernel
theorem dX5_begins_1 : decode cX5_begins 1 = .ok (.bipush 31, 2) := by decide +kernel
theorem dX5_begins_3 : decode cX5_begins 3 = .ok (.aload_n 0, 1) := by decide +kernel
theorem dX5_begins_4 : decode cX5_begins 4 = .ok (.getfield 233, 3) := by decide +kernel
theorem dX5_begins_7 : decode cX5_begins 7 = .ok (.imul, 1) := by decide +kernel
theorem dX5_begins_8 : decode cX5_begins 8 = .ok (.iload_n 1, 1) := by decide +kernel
theorem dX5_begins_9 : decode cX5_begins 9 = .ok (.iadd, 1) := by decide +kernel
theorem dX5_begins_10 : decode cX5_begins 10 = .ok (.putfield 233, 3) := by decide +kernel
theorem dX5_begins_13 : decode cX5_begins 13 = .ok (.return_, 1) := by decide +kernel
theorem dX5_tell_0 : decode cX5_tell 0 = .ok (.aload_n 0, 1) := by decide +kernel
theorem dX5_tell_1 : decode cX5_tell 1 = .ok (.iload_n 1, 1) := by decide +kernel
theorem dX5_tell_2 : decode cX5_tell 2 = .ok (.invokevirtual 127, 3) := by decide +kernel
theorem dX5_tell_5 : decode cX5_tell 5 = .ok (.ifCond .ne 5, 3) := by decide +kernel
theorem dX5_tell_8 : decode cX5_tell 8 = .ok (.iconst (-1), 1) := by decide +kernel
theorem dX5_tell_9 : decode cX5_tell 9 = .ok (.ireturn, 1) := by decide +kernel
theorem dX5_tell_10 : decode cX5_tell 10 = .ok (.aload_n 0, 1) := by decide +kernel
theorem dX5_tell_11 : decode cX5_tell 11 = .ok (.getfield 28, 3) := by decide +kernel
theorem dX5_tell_14 : decode cX5_tell 14 = .ok (.iload_n 1, 1) := by decide +kernel
theorem dX5_tell_15 : decode cX5_tell 15 = .ok (.iaload, 1) := by decide +kernel
theorem dX5_tell_16 : decode cX5_tell 16 = .ok (.istore_n 2, 1) := by decide +kernel
theorem dX5_tell_17 : decode cX5_tell 17 = .ok (.aload_n 0, 1) := by decide +kernel
theorem dX5_tell_18 : decode cX5_tell 18 = .ok (.getfield 22, 3) := by decide +kernel
theorem dX5_tell_21 : decode cX5_tell 21 = .ok (.iload_n 1, 1) := by decide +kernel
theorem dX5_tell_22 : decode cX5_tell 22 = .ok (.iaload, 1) := by decide +kernel
theorem dX5_tell_23 : decode cX5_tell 23 = .ok (.lookupswitch 67 #[(1, 25), (2, 40)], 25) := by decide +kernel
theorem dX5_tell_48 : decode cX5_tell 48 = .ok (.aload_n 0, 1) := by decide +kernel
theorem dX5_tell_49 : decode cX5_tell 49 = .ok (.iconst 2, 1) := by decide +kernel
theorem dX5_tell_50 : decode cX5_tell 50 = .ok (.invokevirtual 236, 3) := by decide +kernel
theorem dX5_tell_53 : decode cX5_tell 53 = .ok (.aload_n 0, 1) := by decide +kernel
theorem dX5_tell_54 : decode cX5_tell 54 = .ok (.iconst 1, 1) := by decide +kernel
theorem dX5_tell_55 : decode cX5_tell 55 = .ok (.invokevirtual 236, 3) := by decide +kernel
theorem dX5_tell_58 : decode cX5_tell 58 = .ok (.iload_n 2, 1) := by decide +kernel
theorem dX5_tell_59 : decode cX5_tell 59 = .ok (.bipush 100, 2) := by decide +kernel
theorem dX5_tell_61 : decode cX5_tell 61 = .ok (.iadd, 1) := by decide +kernel
theorem dX5_tell_62 : decode cX5_tell 62 = .ok (.ireturn, 1) := by decide +kernel
theorem dX5_tell_63 : decode cX5_tell 63 = .ok (.aload_n 0, 1) := by decide +kernel
theorem dX5_tell_64 : decode cX5_tell 64 = .ok (.iconst 3, 1) := by decide +kernel
theorem dX5_tell_65 : decode cX5_tell 65 = .ok (.invokevirtual 236, 3) := by decide +kernel
theorem dX5_tell_68 : decode cX5_tell 68 = .ok (.aload_n 0, 1) := by decide +kernel
theorem dX5_tell_69 : decode cX5_tell 69 = .ok (.iconst 2, 1) := by decide +kernel
theorem dX5_tell_70 : decode cX5_tell 70 = .ok (.invokevirtual 236, 3) := by decide +kernel
theorem dX5_tell_73 : decode cX5_tell 73 = .ok (.aload_n 0, 1) := by decide +kernel
theorem dX5_tell_74 : decode cX5_tell 74 = .ok (.iconst 1, 1) := by decide +kernel
theorem dX5_tell_75 : decode cX5_tell 75 = .ok (.invokevirtual 236, 3) := by decide +kernel
theorem dX5_tell_78 : decode cX5_tell 78 = .ok (.aload_n 0, 1) := by decide +kernel
theorem dX5_tell_79 : decode cX5_tell 79 = .ok (.iconst 1, 1) := by decide +kernel
theorem dX5_tell_80 : decode cX5_tell 80 = .ok (.invokevirtual 236, 3) := by decide +kernel
theorem dX5_tell_83 : decode cX5_tell 83 = .ok (.iconst 2, 1) := by decide +kernel
theorem dX5_tell_84 : decode cX5_tell 84 = .ok (.iload_n 2, 1) := by decide +kernel
theorem dX5_tell_85 : decode cX5_tell 85 = .ok (.imul, 1) := by decide +kernel
theorem dX5_tell_86 : decode cX5_tell 86 = .ok (.bipush 100, 2) := by decide +kernel
theorem dX5_tell_88 : decode cX5_tell 88 = .ok (.iadd, 1) := by decide +kernel
theorem dX5_tell_89 : decode cX5_tell 89 = .ok (.ireturn, 1) := by decide +kernel
theorem dX5_tell_90 : decode cX5_tell 90 = .ok (.aload_n 0, 1) := by decide +kernel
theorem dX5_tell_91 : decode cX5_tell 91 = .ok (.iconst 1, 1) := by decide +kernel
theorem dX5_tell_92 : decode cX5_tell 92 = .ok (.invokevirtual 236, 3) := by decide +kernel
theorem dX5_tell_95 : decode cX5_tell 95 = .ok (.iload_n 2, 1) := by decide +kernel
theorem dX5_tell_96 : decode cX5_tell 96 = .ok (.ireturn, 1) := by decide +kernel
theorem dX5_hail_0 : decode cX5_hail 0 = .ok (.aload_n 0, 1) := by decide +kernel
theorem dX5_hail_1 : decode cX5_hail 1 = .ok (.iload_n 1, 1) := by decide +kernel
theorem dX5_hail_2 : decode cX5_hail 2 = .ok (.invokevirtual 127, 3) := by decide +kernel
theorem dX5_hail_5 : decode cX5_hail 5 = .ok (.ifCond .ne 5, 3) := by decide +kernel
theorem dX5_hail_8 : decode cX5_hail 8 = .ok (.iconst (-1), 1) := by decide +kernel
theorem dX5_hail_9 : decode cX5_hail 9 = .ok (.ireturn, 1) := by decide +kernel
theorem dX5_hail_10 : decode cX5_hail 10 = .ok (.aload_n 0, 1) := by decide +kernel
theorem dX5_hail_11 : decode cX5_hail 11 = .ok (.aload_n 0, 1) := by decide +kernel
theorem dX5_hail_12 : decode cX5_hail 12 = .ok (.getfield 22, 3) := by decide +kernel
theorem dX5_hail_15 : decode cX5_hail 15 = .ok (.iload_n 1, 1) := by decide +kernel
theorem dX5_hail_16 : decode cX5_hail 16 = .ok (.iaload, 1) := by decide +kernel
theorem dX5_hail_17 : decode cX5_hail 17 = .ok (.iconst 2, 1) := by decide +kernel
theorem dX5_hail_18 : decode cX5_hail 18 = .ok (.if_icmp .ne 7, 3) := by decide +kernel
theorem dX5_hail_21 : decode cX5_hail 21 = .ok (.iconst 5, 1) := by decide +kernel
theorem dX5_hail_22 : decode cX5_hail 22 = .ok (.goto 4, 3) := by decide +kernel
theorem dX5_hail_25 : decode cX5_hail 25 = .ok (.iconst 4, 1) := by decide +kernel
theorem dX5_hail_26 : decode cX5_hail 26 = .ok (.invokevirtual 236, 3) := by decide +kernel
theorem dX5_hail_29 : decode cX5_hail 29 = .ok (.aload_n 0, 1) := by decide +kernel
theorem dX5_hail_30 : decode cX5_hail 30 = .ok (.getfield 22, 3) := by decide +kernel
theorem dX5_hail_33 : decode cX5_hail 33 = .ok (.iload_n 1, 1) := by decide +kernel
theorem dX5_hail_34 : decode cX5_hail 34 = .ok (.iaload, 1) := by decide +kernel
theorem dX5_hail_35 : decode cX5_hail 35 = .ok (.iconst 2, 1) := by decide +kernel
theorem dX5_hail_36 : decode cX5_hail 36 = .ok (.if_icmp .ne 8, 3) := by decide +kernel
theorem dX5_hail_39 : decode cX5_hail 39 = .ok (.bipush 60, 2) := by decide +kernel
theorem dX5_hail_41 : decode cX5_hail 41 = .ok (.goto 9, 3) := by decide +kernel
theorem dX5_hail_44 : decode cX5_hail 44 = .ok (.aload_n 0, 1) := by decide +kernel
theorem dX5_hail_45 : decode cX5_hail 45 = .ok (.getfield 25, 3) := by decide +kernel
theorem dX5_hail_48 : decode cX5_hail 48 = .ok (.iload_n 1, 1) := by decide +kernel
theorem dX5_hail_49 : decode cX5_hail 49 = .ok (.iaload, 1) := by decide +kernel
theorem dX5_hail_50 : decode cX5_hail 50 = .ok (.ireturn, 1) := by decide +kernel
