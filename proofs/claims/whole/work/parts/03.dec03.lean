theorem dX5_init_0 : decode cX5_init 0 = .ok (.aload_n 0, 1) := by decide +kernel
theorem dX5_init_1 : decode cX5_init 1 = .ok (.invokespecial 1, 3) := by decide +kernel
theorem dX5_init_4 : decode cX5_init 4 = .ok (.aload_n 0, 1) := by decide +kernel
theorem dX5_init_5 : decode cX5_init 5 = .ok (.iconst 4, 1) := by decide +kernel
theorem dX5_init_6 : decode cX5_init 6 = .ok (.newarray .int, 2) := by decide +kernel
theorem dX5_init_8 : decode cX5_init 8 = .ok (.dup, 1) := by decide +kernel
theorem dX5_init_9 : decode cX5_init 9 = .ok (.iconst 0, 1) := by decide +kernel
theorem dX5_init_10 : decode cX5_init 10 = .ok (.bipush (-9), 2) := by decide +kernel
theorem dX5_init_12 : decode cX5_init 12 = .ok (.iastore, 1) := by decide +kernel
theorem dX5_init_13 : decode cX5_init 13 = .ok (.dup, 1) := by decide +kernel
theorem dX5_init_14 : decode cX5_init 14 = .ok (.iconst 1, 1) := by decide +kernel
theorem dX5_init_15 : decode cX5_init 15 = .ok (.bipush (-9), 2) := by decide +kernel
theorem dX5_init_17 : decode cX5_init 17 = .ok (.iastore, 1) := by decide +kernel
theorem dX5_init_18 : decode cX5_init 18 = .ok (.dup, 1) := by decide +kernel
theorem dX5_init_19 : decode cX5_init 19 = .ok (.iconst 2, 1) := by decide +kernel
theorem dX5_init_20 : decode cX5_init 20 = .ok (.bipush (-9), 2) := by decide +kernel
theorem dX5_init_22 : decode cX5_init 22 = .ok (.iastore, 1) := by decide +kernel
theorem dX5_init_23 : decode cX5_init 23 = .ok (.dup, 1) := by decide +kernel
theorem dX5_init_24 : decode cX5_init 24 = .ok (.iconst 3, 1) := by decide +kernel
theorem dX5_init_25 : decode cX5_init 25 = .ok (.bipush (-9), 2) := by decide +kernel
theorem dX5_init_27 : decode cX5_init 27 = .ok (.iastore, 1) := by decide +kernel
theorem dX5_init_28 : decode cX5_init 28 = .ok (.putfield 9, 3) := by decide +kernel
theorem dX5_init_31 : decode cX5_init 31 = .ok (.aload_n 0, 1) := by decide +kernel
theorem dX5_init_32 : decode cX5_init 32 = .ok (.iconst 4, 1) := by decide +kernel
theorem dX5_init_33 : decode cX5_init 33 = .ok (.newarray .int, 2) := by decide +kernel
theorem dX5_init_35 : decode cX5_init 35 = .ok (.putfield 13, 3) := by decide +kernel
theorem dX5_init_38 : decode cX5_init 38 = .ok (.aload_n 0, 1) := by decide +kernel
theorem dX5_init_39 : decode cX5_init 39 = .ok (.sipush 240, 3) := by decide +kernel
theorem dX5_init_42 : decode cX5_init 42 = .ok (.newarray .int, 2) := by decide +kernel
theorem dX5_init_44 : decode cX5_init 44 = .ok (.putfield 16, 3) := by decide +kernel
theorem dX5_init_47 : decode cX5_init 47 = .ok (.aload_n 0, 1) := by decide +kernel
theorem dX5_init_48 : decode cX5_init 48 = .ok (.bipush 6, 2) := by decide +kernel
theorem dX5_init_50 : decode cX5_init 50 = .ok (.newarray .int, 2) := by decide +kernel
theorem dX5_init_52 : decode cX5_init 52 = .ok (.putfield 19, 3) := by decide +kernel
theorem dX5_init_55 : decode cX5_init 55 = .ok (.aload_n 0, 1) := by decide +kernel
theorem dX5_init_56 : decode cX5_init 56 = .ok (.iconst 5, 1) := by decide +kernel
theorem dX5_init_57 : decode cX5_init 57 = .ok (.newarray .int, 2) := by decide +kernel
theorem dX5_init_59 : decode cX5_init 59 = .ok (.putfield 22, 3) := by decide +kernel
theorem dX5_init_62 : decode cX5_init 62 = .ok (.aload_n 0, 1) := by decide +kernel
theorem dX5_init_63 : decode cX5_init 63 = .ok (.iconst 5, 1) := by decide +kernel
theorem dX5_init_64 : decode cX5_init 64 = .ok (.newarray .int, 2) := by decide +kernel
theorem dX5_init_66 : decode cX5_init 66 = .ok (.putfield 25, 3) := by decide +kernel
theorem dX5_init_69 : decode cX5_init 69 = .ok (.aload_n 0, 1) := by decide +kernel
theorem dX5_init_70 : decode cX5_init 70 = .ok (.iconst 5, 1) := by decide +kernel
theorem dX5_init_71 : decode cX5_init 71 = .ok (.newarray .int, 2) := by decide +kernel
theorem dX5_init_73 : decode cX5_init 73 = .ok (.putfield 28, 3) := by decide +kernel
theorem dX5_init_76 : decode cX5_init 76 = .ok (.aload_n 0, 1) := by decide +kernel
theorem dX5_init_77 : decode cX5_init 77 = .ok (.iconst 5, 1) := by decide +kernel
theorem dX5_init_78 : decode cX5_init 78 = .ok (.newarray .int, 2) := by decide +kernel
theorem dX5_init_80 : decode cX5_init 80 = .ok (.putfield 31, 3) := by decide +kernel
theorem dX5_init_83 : decode cX5_init 83 = .ok (.aload_n 0, 1) := by decide +kernel
theorem dX5_init_84 : decode cX5_init 84 = .ok (.bipush 20, 2) := by decide +kernel
theorem dX5_init_86 : decode cX5_init 86 = .ok (.newarray .int, 2) := by decide +kernel
theorem dX5_init_88 : decode cX5_init 88 = .ok (.putfield 34, 3) := by decide +kernel
theorem dX5_init_91 : decode cX5_init 91 = .ok (.aload_n 0, 1) := by decide +kernel
theorem dX5_init_92 : decode cX5_init 92 = .ok (.bipush 6, 2) := by decide +kernel
theorem dX5_init_94 : decode cX5_init 94 = .ok (.newarray .int, 2) := by decide +kernel
theorem dX5_init_96 : decode cX5_init 96 = .ok (.putfield 37, 3) := by decide +kernel
theorem dX5_init_99 : decode cX5_init 99 = .ok (.aload_n 0, 1) := by decide +kernel
theorem dX5_init_100 : decode cX5_init 100 = .ok (.bipush 40, 2) := by decide +kernel
theorem dX5_init_102 : decode cX5_init 102 = .ok (.newarray .int, 2) := by decide +kernel
theorem dX5_init_104 : decode cX5_init 104 = .ok (.putfield 40, 3) := by decide +kernel
theorem dX5_init_107 : decode cX5_init 107 = .ok (.aload_n 0, 1) := by decide +kernel
theorem dX5_init_108 : decode cX5_init 108 = .ok (.iconst 5, 1) := by decide +kernel
theorem dX5_init_109 : decode cX5_init 109 = .ok (.newarray .int, 2) := by decide +kernel
theorem dX5_init_111 : decode cX5_init 111 = .ok (.putfield 43, 3) := by decide +kernel
theorem dX5_init_114 : decode cX5_init 114 = .ok (.aload_n 0, 1) := by decide +kernel
theorem dX5_init_115 : decode cX5_init 115 = .ok (.bipush 20, 2) := by decide +kernel
theorem dX5_init_117 : decode cX5_init 117 = .ok (.newarray .int, 2) := by decide +kernel
theorem dX5_init_119 : decode cX5_init 119 = .ok (.putfield 46, 3) := by decide +kernel
theorem dX5_init_122 : decode cX5_init 122 = .ok (.aload_n 0, 1) := by decide +kernel
theorem dX5_init_123 : decode cX5_init 123 = .ok (.iconst 4, 1) := by decide +kernel
theorem dX5_init_124 : decode cX5_init 124 = .ok (.newarray .int, 2) := by decide +kernel
theorem dX5_init_126 : decode cX5_init 126 = .ok (.putfield 49, 3) := by decide +kernel
theorem dX5_init_129 : decode cX5_init 129 = .ok (.aload_n 0, 1) := by decide +kernel
theorem dX5_init_130 : decode cX5_init 130 = .ok (.bipush 8, 2) := by decide +kernel
theorem dX5_init_132 : decode cX5_init 132 = .ok (.newarray .int, 2) := by decide +kernel
theorem dX5_init_134 : decode cX5_init 134 = .ok (.putfield 52, 3) := by decide +kernel
theorem dX5_init_137 : decode cX5_init 137 = .ok (.aload_n 0, 1) := by decide +kernel
theorem dX5_init_138 : decode cX5_init 138 = .ok (.bipush 8, 2) := by decide +kernel
theorem dX5_init_140 : decode cX5_init 140 = .ok (.newarray .int, 2) := by decide +kernel
theorem dX5_init_142 : decode cX5_init 142 = .ok (.putfield 55, 3) := by decide +kernel
theorem dX5_init_145 : decode cX5_init 145 = .ok (.aload_n 0, 1) := by decide +kernel
theorem dX5_init_146 : decode cX5_init 146 = .ok (.bipush 8, 2) := by decide +kernel
theorem dX5_init_148 : decode cX5_init 148 = .ok (.newarray .int, 2) := by decide +kernel
theorem dX5_init_150 : decode cX5_init 150 = .ok (.putfield 58, 3) := by decide +kernel
theorem dX5_init_153 : decode cX5_init 153 = .ok (.return_, 1) := by decide +kernel
theorem dX5_fails_0 : decode cX5_fails 0 = .ok (.aload_n 0, 1) := by decide +kernel
theorem dX5_fails_1 : decode cX5_fails 1 = .ok (.iload_n 1, 1) := by decide +kernel
theorem dX5_fails_2 : decode cX5_fails 2 = .ok (.putfield 61, 3) := by decide +kernel
theorem dX5_fails_5 : decode cX5_fails 5 = .ok (.bipush (-10), 2) := by decide +kernel
theorem dX5_fails_7 : decode cX5_fails 7 = .ok (.iload_n 1, 1) := by decide +kernel
theorem dX5_fails_8 : decode cX5_fails 8 = .ok (.isub, 1) := by decide +kernel
theorem dX5_fails_9 : decode cX5_fails 9 = .ok (.ireturn, 1) := by decide +kernel
theorem dX5_lost_0 : decode cX5_lost 0 = .ok (.aload_n 0, 1) := by decide +kernel
theorem dX5_lost_1 : decode cX5_lost 1 = .ok (.iload_n 1, 1) := by decide +kernel
theorem dX5_lost_2 : decode cX5_lost 2 = .ok (.putfield 61, 3) := by decide +kernel
theorem dX5_lost_5 : decode cX5_lost 5 = .ok (.ldc2_w 65, 3) := by decide +kernel
theorem dX5_lost_8 : decode cX5_lost 8 = .ok (.lreturn, 1) := by decide +kernel
theorem dX5_within_0 : decode cX5_within 0 = .ok (.iload_n 0, 1) := by decide +kernel
theorem dX5_within_1 : decode cX5_within 1 = .ok (.iload_n 1, 1) := by decide +kernel
theorem dX5_within_2 : decode cX5_within 2 = .ok (.if_icmp .lt 12, 3) := by decide +kernel
theorem dX5_within_5 : decode cX5_within 5 = .ok (.iload_n 0, 1) := by decide +kernel
theorem dX5_within_6 : decode cX5_within 6 = .ok (.iload_n 2, 1) := by decide +kernel
theorem dX5_within_7 : decode cX5_within 7 = .ok (.if_icmp .gt 7, 3) := by decide +kernel
theorem dX5_within_10 : decode cX5_within 10 = .ok (.iconst 1, 1) := by decide +kernel
theorem dX5_within_11 : decode cX5_within 11 = .ok (.goto 4, 3) := by decide +kernel
theorem dX5_within_14 : decode cX5_within 14 = .ok (.iconst 0, 1) := by decide +kernel
theorem dX5_within_15 : decode cX5_within 15 = .ok (.ireturn, 1) := by decide +kernel
theorem dX5_isSheet_0 : decode cX5_isSheet 0 = .ok (.iload_n 0, 1) := by decide +kernel
theorem dX5_isSheet_1 : decode cX5_isSheet 1 = .ok (.iconst 0, 1) := by decide +kernel
theorem dX5_isSheet_2 : decode cX5_isSheet 2 = .ok (.iconst 3, 1) := by decide +kernel
theorem dX5_isSheet_3 : decode cX5_isSheet 3 = .ok (.invokestatic 67, 3) := by decide +kernel
theorem dX5_isSheet_6 : decode cX5_isSheet 6 = .ok (.ireturn, 1) := by decide +kernel
theorem dX5_isSort_0 : decode cX5_isSort 0 = .ok (.iload_n 0, 1) := by decide +kernel
theorem dX5_isSort_1 : decode cX5_isSort 1 = .ok (.iconst 0, 1) := by decide +kernel
theorem dX5_isSort_2 : decode cX5_isSort 2 = .ok (.iconst 2, 1) := by decide +kernel
theorem dX5_isSort_3 : decode cX5_isSort 3 = .ok (.invokestatic 67, 3) := by decide +kernel
theorem dX5_isSort_6 : decode cX5_isSort 6 = .ok (.ireturn, 1) := by decide +kernel
theorem dX5_against_0 : decode cX5_against 0 = .ok (.aload_n 0, 1) := by decide +kernel
theorem dX5_against_1 : decode cX5_against 1 = .ok (.getfield 9, 3) := by decide +kernel
theorem dX5_against_4 : decode cX5_against 4 = .ok (.iload_n 1, 1) := by decide +kernel
theorem dX5_against_5 : decode cX5_against 5 = .ok (.iaload, 1) := by decide +kernel
theorem dX5_against_6 : decode cX5_against 6 = .ok (.bipush (-9), 2) := by decide +kernel
theorem dX5_against_8 : decode cX5_against 8 = .ok (.if_icmp .eq 15, 3) := by decide +kernel
theorem dX5_against_11 : decode cX5_against 11 = .ok (.aload_n 0, 1) := by decide +kernel
theorem dX5_against_12 : decode cX5_against 12 = .ok (.getfield 9, 3) := by decide +kernel
theorem dX5_against_15 : decode cX5_against 15 = .ok (.iload_n 1, 1) := by decide +kernel
theorem dX5_against_16 : decode cX5_against 16 = .ok (.iaload, 1) := by decide +kernel
theorem dX5_against_17 : decode cX5_against 17 = .ok (.iload_n 2, 1) := by decide +kernel
theorem dX5_against_18 : decode cX5_against 18 = .ok (.if_icmp .eq 5, 3) := by decide +kernel
theorem dX5_against_21 : decode cX5_against 21 = .ok (.iconst 2, 1) := by decide +kernel
theorem dX5_against_22 : decode cX5_against 22 = .ok (.ireturn, 1) := by decide +kernel
theorem dX5_against_23 : decode cX5_against 23 = .ok (.aload_n 0, 1) := by decide +kernel
theorem dX5_against_24 : decode cX5_against 24 = .ok (.getfield 9, 3) := by decide +kernel
theorem dX5_against_27 : decode cX5_against 27 = .ok (.iload_n 1, 1) := by decide +kernel
theorem dX5_against_28 : decode cX5_against 28 = .ok (.iaload, 1) := by decide +kernel
theorem dX5_against_29 : decode cX5_against 29 = .ok (.bipush (-9), 2) := by decide +kernel
theorem dX5_against_31 : decode cX5_against 31 = .ok (.if_icmp .ne 5, 3) := by decide +kernel
theorem dX5_against_34 : decode cX5_against 34 = .ok (.iconst 1, 1) := by decide +kernel
theorem dX5_against_35 : decode cX5_against 35 = .ok (.ireturn, 1) := by decide +kernel
theorem dX5_against_36 : decode cX5_against 36 = .ok (.iload 4, 2) := by decide +kernel
theorem dX5_against_38 : decode cX5_against 38 = .ok (.ifCond .ge 5, 3) := by decide +kernel
theorem dX5_against_41 : decode cX5_against 41 = .ok (.iconst 4, 1) := by decide +kernel
theorem dX5_against_42 : decode cX5_against 42 = .ok (.ireturn, 1) := by decide +kernel
theorem dX5_against_43 : decode cX5_against 43 = .ok (.iload_n 3, 1) := by decide +kernel
theorem dX5_against_44 : decode cX5_against 44 = .ok (.ifCond .lt 26, 3) := by decide +kernel
theorem dX5_against_47 : decode cX5_against 47 = .ok (.iload_n 3, 1) := by decide +kernel
theorem dX5_against_48 : decode cX5_against 48 = .ok (.aload_n 0, 1) := by decide +kernel
theorem dX5_against_49 : decode cX5_against 49 = .ok (.getfield 13, 3) := by decide +kernel
theorem dX5_against_52 : decode cX5_against 52 = .ok (.iload_n 1, 1) := by decide +kernel
theorem dX5_against_53 : decode cX5_against 53 = .ok (.iaload, 1) := by decide +kernel
theorem dX5_against_54 : decode cX5_against 54 = .ok (.if_icmp .gt 16, 3) := by decide +kernel
theorem dX5_against_57 : decode cX5_against 57 = .ok (.iload 4, 2) := by decide +kernel
theorem dX5_against_59 : decode cX5_against 59 = .ok (.aload_n 0, 1) := by decide +kernel
theorem dX5_against_60 : decode cX5_against 60 = .ok (.getfield 13, 3) := by decide +kernel
theorem dX5_against_63 : decode cX5_against 63 = .ok (.iload_n 1, 1) := by decide +kernel
theorem dX5_against_64 : decode cX5_against 64 = .ok (.iaload, 1) := by decide +kernel
theorem dX5_against_65 : decode cX5_against 65 = .ok (.iload_n 3, 1) := by decide +kernel
theorem dX5_against_66 : decode cX5_against 66 = .ok (.isub, 1) := by decide +kernel
theorem dX5_against_67 : decode cX5_against 67 = .ok (.if_icmp .le 7, 3) := by decide +kernel
theorem dX5_against_70 : decode cX5_against 70 = .ok (.iconst 3, 1) := by decide +kernel
theorem dX5_against_71 : decode cX5_against 71 = .ok (.goto 4, 3) := by decide +kernel
theorem dX5_against_74 : decode cX5_against 74 = .ok (.iconst 0, 1) := by decide +kernel
theorem dX5_against_75 : decode cX5_against 75 = .ok (.ireturn, 1) := by decide +kernel
theorem dX5_isShip_0 : decode cX5_isShip 0 = .ok (.iload_n 1, 1) := by decide +kernel
theorem dX5_isShip_1 : decode cX5_isShip 1 = .ok (.ifCond .lt 15, 3) := by decide +kernel
theorem dX5_isShip_4 : decode cX5_isShip 4 = .ok (.iload_n 1, 1) := by decide +kernel
theorem dX5_isShip_5 : decode cX5_isShip 5 = .ok (.aload_n 0, 1) := by decide +kernel
theorem dX5_isShip_6 : decode cX5_isShip 6 = .ok (.getfield 71, 3) := by decide +kernel
theorem dX5_isShip_9 : decode cX5_isShip 9 = .ok (.if_icmp .ge 7, 3) := by decide +kernel
theorem dX5_isShip_12 : decode cX5_isShip 12 = .ok (.iconst 1, 1) := by decide +kernel
theorem dX5_isShip_13 : decode cX5_isShip 13 = .ok (.goto 4, 3) := by decide +kernel
theorem dX5_isShip_16 : decode cX5_isShip 16 = .ok (.iconst 0, 1) := by decide +kernel
theorem dX5_isShip_17 : decode cX5_isShip 17 = .ok (.ireturn, 1) := by decide +kernel
theorem dX5_isPort_0 : decode cX5_isPort 0 = .ok (.iload_n 1, 1) := by decide +kernel
theorem dX5_isPort_1 : decode cX5_isPort 1 = .ok (.ifCond .lt 15, 3) := by decide +kernel
theorem dX5_isPort_4 : decode cX5_isPort 4 = .ok (.iload_n 1, 1) := by decide +kernel
theorem dX5_isPort_5 : decode cX5_isPort 5 = .ok (.aload_n 0, 1) := by decide +kernel
theorem dX5_isPort_6 : decode cX5_isPort 6 = .ok (.getfield 74, 3) := by decide +kernel
theorem dX5_isPort_9 : decode cX5_isPort 9 = .ok (.if_icmp .ge 7, 3) := by decide +kernel
theorem dX5_isPort_12 : decode cX5_isPort 12 = .ok (.iconst 1, 1) := by decide +kernel
theorem dX5_isPort_13 : decode cX5_isPort 13 = .ok (.goto 4, 3) := by decide +kernel
theorem dX5_isPort_16 : decode cX5_isPort 16 = .ok (.iconst 0, 1) := by decide +kernel
theorem dX5_isPort_17 : decode cX5_isPort 17 = .ok (.ireturn, 1) := by decide +kernel
theorem dX5_isGood_0 : decode cX5_isGood 0 = .ok (.iload_n 0, 1) := by decide +kernel
theorem dX5_isGood_1 : decode cX5_isGood 1 = .ok (.iconst 0, 1) := by decide +kernel
theorem dX5_isGood_2 : decode cX5_isGood 2 = .ok (.iconst 3, 1) := by decide +kernel
theorem dX5_isGood_3 : decode cX5_isGood 3 = .ok (.invokestatic 67, 3) := by decide +kernel
theorem dX5_isGood_6 : decode cX5_isGood 6 = .ok (.ireturn, 1) := by decide +kernel
theorem dX5_isDigit_0 : decode cX5_isDigit 0 = .ok (.iload_n 0, 1) := by decide +kernel
theorem dX5_isDigit_1 : decode cX5_isDigit 1 = .ok (.iconst 0, 1) := by decide +kernel
theorem dX5_isDigit_2 : decode cX5_isDigit 2 = .ok (.bipush 9, 2) := by decide +kernel
theorem dX5_isDigit_4 : decode cX5_isDigit 4 = .ok (.invokestatic 67, 3) := by decide +kernel
theorem dX5_isDigit_7 : decode cX5_isDigit 7 = .ok (.ireturn, 1) := by decide +kernel
theorem dX5_digit_0 : decode cX5_digit 0 = .ok (.aload_n 0, 1) := by decide +kernel
theorem dX5_digit_1 : decode cX5_digit 1 = .ok (.getfield 77, 3) := by decide +kernel
theorem dX5_digit_4 : decode cX5_digit 4 = .ok (.iload_n 1, 1) := by decide +kernel
theorem dX5_digit_5 : decode cX5_digit 5 = .ok (.if_icmp .ge 26, 3) := by decide +kernel
theorem dX5_digit_8 : decode cX5_digit 8 = .ok (.aload_n 0, 1) := by decide +kernel
theorem dX5_digit_9 : decode cX5_digit 9 = .ok (.getfield 16, 3) := by decide +kernel
theorem dX5_digit_12 : decode cX5_digit 12 = .ok (.aload_n 0, 1) := by decide +kernel
theorem dX5_digit_13 : decode cX5_digit 13 = .ok (.getfield 77, 3) := by decide +kernel
theorem dX5_digit_16 : decode cX5_digit 16 = .ok (.iaload, 1) := by decide +kernel
theorem dX5_digit_17 : decode cX5_digit 17 = .ok (.bipush 48, 2) := by decide +kernel
theorem dX5_digit_19 : decode cX5_digit 19 = .ok (.iload_n 2, 1) := by decide +kernel
theorem dX5_digit_20 : decode cX5_digit 20 = .ok (.iadd, 1) := by decide +kernel
theorem dX5_digit_21 : decode cX5_digit 21 = .ok (.bipush 48, 2) := by decide +kernel
theorem dX5_digit_23 : decode cX5_digit 23 = .ok (.iload_n 3, 1) := by decide +kernel
theorem dX5_digit_24 : decode cX5_digit 24 = .ok (.iadd, 1) := by decide +kernel
theorem dX5_digit_25 : decode cX5_digit 25 = .ok (.invokestatic 67, 3) := by decide +kernel
theorem dX5_digit_28 : decode cX5_digit 28 = .ok (.ifCond .ne 6, 3) := by decide +kernel
theorem dX5_digit_31 : decode cX5_digit 31 = .ok (.bipush (-9), 2) := by decide +kernel
theorem dX5_digit_33 : decode cX5_digit 33 = .ok (.ireturn, 1) := by decide +kernel
theorem dX5_digit_34 : decode cX5_digit 34 = .ok (.aload_n 0, 1) := by decide +kernel
theorem dX5_digit_35 : decode cX5_digit 35 = .ok (.dup, 1) := by decide +kernel
theorem dX5_digit_36 : decode cX5_digit 36 = .ok (.getfield 77, 3) := by decide +kernel
theorem dX5_digit_39 : decode cX5_digit 39 = .ok (.iconst 1, 1) := by decide +kernel
theorem dX5_digit_40 : decode cX5_digit 40 = .ok (.iadd, 1) := by decide +kernel
theorem dX5_digit_41 : decode cX5_digit 41 = .ok (.putfield 77, 3) := by decide +kernel
theorem dX5_digit_44 : decode cX5_digit 44 = .ok (.aload_n 0, 1) := by decide +kernel
theorem dX5_digit_45 : decode cX5_digit 45 = .ok (.getfield 16, 3) := by decide +kernel
theorem dX5_digit_48 : decode cX5_digit 48 = .ok (.aload_n 0, 1) := by decide +kernel
theorem dX5_digit_49 : decode cX5_digit 49 = .ok (.getfield 77, 3) := by decide +kernel
theorem dX5_digit_52 : decode cX5_digit 52 = .ok (.iconst 1, 1) := by decide +kernel
theorem dX5_digit_53 : decode cX5_digit 53 = .ok (.isub, 1) := by decide +kernel
theorem dX5_digit_54 : decode cX5_digit 54 = .ok (.iaload, 1) := by decide +kernel
theorem dX5_digit_55 : decode cX5_digit 55 = .ok (.bipush 48, 2) := by decide +kernel
theorem dX5_digit_57 : decode cX5_digit 57 = .ok (.isub, 1) := by decide +kernel
theorem dX5_digit_58 : decode cX5_digit 58 = .ok (.ireturn, 1) := by decide +kernel
theorem dX5_isSign_0 : decode cX5_isSign 0 = .ok (.aload_n 0, 1) := by decide +kernel
theorem dX5_isSign_1 : decode cX5_isSign 1 = .ok (.getfield 77, 3) := by decide +kernel
theorem dX5_isSign_4 : decode cX5_isSign 4 = .ok (.iload_n 1, 1) := by decide +kernel
theorem dX5_isSign_5 : decode cX5_isSign 5 = .ok (.if_icmp .ge 16, 3) := by decide +kernel
theorem dX5_isSign_8 : decode cX5_isSign 8 = .ok (.aload_n 0, 1) := by decide +kernel
theorem dX5_isSign_9 : decode cX5_isSign 9 = .ok (.getfield 16, 3) := by decide +kernel
theorem dX5_isSign_12 : decode cX5_isSign 12 = .ok (.aload_n 0, 1) := by decide +kernel
theorem dX5_isSign_13 : decode cX5_isSign 13 = .ok (.getfield 77, 3) := by decide +kernel
theorem dX5_isSign_16 : decode cX5_isSign 16 = .ok (.iaload, 1) := by decide +kernel
theorem dX5_isSign_17 : decode cX5_isSign 17 = .ok (.iload_n 2, 1) := by decide +kernel
theorem dX5_isSign_18 : decode cX5_isSign 18 = .ok (.if_icmp .eq 5, 3) := by decide +kernel
theorem dX5_isSign_21 : decode cX5_isSign 21 = .ok (.iconst 0, 1) := by decide +kernel
theorem dX5_isSign_22 : decode cX5_isSign 22 = .ok (.ireturn, 1) := by decide +kernel
theorem dX5_isSign_23 : decode cX5_isSign 23 = .ok (.aload_n 0, 1) := by decide +kernel
theorem dX5_isSign_24 : decode cX5_isSign 24 = .ok (.dup, 1) := by decide +kernel
theorem dX5_isSign_25 : decode cX5_isSign 25 = .ok (.getfield 77, 3) := by decide +kernel
theorem dX5_isSign_28 : decode cX5_isSign 28 = .ok (.iconst 1, 1) := by decide +kernel
theorem dX5_isSign_29 : decode cX5_isSign 29 = .ok (.iadd, 1) := by decide +kernel
theorem dX5_isSign_30 : decode cX5_isSign 30 = .ok (.putfield 77, 3) := by decide +kernel
theorem dX5_isSign_33 : decode cX5_isSign 33 = .ok (.iconst 1, 1) := by decide +kernel
theorem dX5_isSign_34 : decode cX5_isSign 34 = .ok (.ireturn, 1) := by decide +kernel
theorem dX5_sea_0 : decode cX5_sea 0 = .ok (.aload_n 0, 1) := by decide +kernel
theorem dX5_sea_1 : decode cX5_sea 1 = .ok (.iconst 0, 1) := by decide +kernel
theorem dX5_sea_2 : decode cX5_sea 2 = .ok (.putfield 61, 3) := by decide +kernel
theorem dX5_sea_5 : decode cX5_sea 5 = .ok (.iload_n 1, 1) := by decide +kernel
theorem dX5_sea_6 : decode cX5_sea 6 = .ok (.invokestatic 80, 3) := by decide +kernel
theorem dX5_sea_9 : decode cX5_sea 9 = .ok (.ifCond .ne 5, 3) := by decide +kernel
theorem dX5_sea_12 : decode cX5_sea 12 = .ok (.iconst (-1), 1) := by decide +kernel
theorem dX5_sea_13 : decode cX5_sea 13 = .ok (.ireturn, 1) := by decide +kernel
theorem dX5_sea_14 : decode cX5_sea 14 = .ok (.iload_n 2, 1) := by decide +kernel
theorem dX5_sea_15 : decode cX5_sea 15 = .ok (.invokestatic 84, 3) := by decide +kernel
theorem dX5_sea_18 : decode cX5_sea 18 = .ok (.ifCond .ne 6, 3) := by decide +kernel
theorem dX5_sea_21 : decode cX5_sea 21 = .ok (.bipush (-2), 2) := by decide +kernel
theorem dX5_sea_23 : decode cX5_sea 23 = .ok (.ireturn, 1) := by decide +kernel
theorem dX5_sea_24 : decode cX5_sea 24 = .ok (.aload_n 0, 1) := by decide +kernel
theorem dX5_sea_25 : decode cX5_sea 25 = .ok (.iload_n 1, 1) := by decide +kernel
theorem dX5_sea_26 : decode cX5_sea 26 = .ok (.iload_n 2, 1) := by decide +kernel
theorem dX5_sea_27 : decode cX5_sea 27 = .ok (.iload_n 3, 1) := by decide +kernel
theorem dX5_sea_28 : decode cX5_sea 28 = .ok (.iload 4, 2) := by decide +kernel
theorem dX5_sea_30 : decode cX5_sea 30 = .ok (.invokevirtual 87, 3) := by decide +kernel
theorem dX5_sea_33 : decode cX5_sea 33 = .ok (.istore 5, 2) := by decide +kernel
theorem dX5_sea_35 : decode cX5_sea 35 = .ok (.iload 5, 2) := by decide +kernel
theorem dX5_sea_37 : decode cX5_sea 37 = .ok (.ifCond .eq 10, 3) := by decide +kernel
theorem dX5_sea_40 : decode cX5_sea 40 = .ok (.aload_n 0, 1) := by decide +kernel
theorem dX5_sea_41 : decode cX5_sea 41 = .ok (.iload 5, 2) := by decide +kernel
theorem dX5_sea_43 : decode cX5_sea 43 = .ok (.invokevirtual 91, 3) := by decide +kernel
theorem dX5_sea_46 : decode cX5_sea 46 = .ok (.ireturn, 1) := by decide +kernel
theorem dX5_sea_47 : decode cX5_sea 47 = .ok (.bipush 60, 2) := by decide +kernel
theorem dX5_sea_49 : decode cX5_sea 49 = .ok (.iload_n 1, 1) := by decide +kernel
theorem dX5_sea_50 : decode cX5_sea 50 = .ok (.imul, 1) := by decide +kernel
theorem dX5_sea_51 : decode cX5_sea 51 = .ok (.iload_n 3, 1) := by decide +kernel
theorem dX5_sea_52 : decode cX5_sea 52 = .ok (.iadd, 1) := by decide +kernel
theorem dX5_sea_53 : decode cX5_sea 53 = .ok (.istore 6, 2) := by decide +kernel
theorem dX5_sea_55 : decode cX5_sea 55 = .ok (.aload_n 0, 1) := by decide +kernel
theorem dX5_sea_56 : decode cX5_sea 56 = .ok (.iload 6, 2) := by decide +kernel
theorem dX5_sea_58 : decode cX5_sea 58 = .ok (.putfield 77, 3) := by decide +kernel
theorem dX5_sea_61 : decode cX5_sea 61 = .ok (.aload_n 0, 1) := by decide +kernel
theorem dX5_sea_62 : decode cX5_sea 62 = .ok (.iload 6, 2) := by decide +kernel
theorem dX5_sea_64 : decode cX5_sea 64 = .ok (.iload 4, 2) := by decide +kernel
theorem dX5_sea_66 : decode cX5_sea 66 = .ok (.iadd, 1) := by decide +kernel
theorem dX5_sea_67 : decode cX5_sea 67 = .ok (.invokevirtual 95, 3) := by decide +kernel
theorem dX5_sea_70 : decode cX5_sea 70 = .ok (.ifCond .ne 14, 3) := by decide +kernel
theorem dX5_sea_73 : decode cX5_sea 73 = .ok (.bipush (-100), 2) := by decide +kernel
theorem dX5_sea_75 : decode cX5_sea 75 = .ok (.aload_n 0, 1) := by decide +kernel
theorem dX5_sea_76 : decode cX5_sea 76 = .ok (.getfield 77, 3) := by decide +kernel
theorem dX5_sea_79 : decode cX5_sea 79 = .ok (.iload 6, 2) := by decide +kernel
theorem dX5_sea_81 : decode cX5_sea 81 = .ok (.isub, 1) := by decide +kernel
theorem dX5_sea_82 : decode cX5_sea 82 = .ok (.isub, 1) := by decide +kernel
theorem dX5_sea_83 : decode cX5_sea 83 = .ok (.ireturn, 1) := by decide +kernel
theorem dX5_sea_84 : decode cX5_sea 84 = .ok (.aload_n 0, 1) := by decide +kernel
theorem dX5_sea_85 : decode cX5_sea 85 = .ok (.invokevirtual 98, 3) := by decide +kernel
theorem dX5_sea_88 : decode cX5_sea 88 = .ok (.aload_n 0, 1) := by decide +kernel
theorem dX5_sea_89 : decode cX5_sea 89 = .ok (.getfield 71, 3) := by decide +kernel
theorem dX5_sea_92 : decode cX5_sea 92 = .ok (.ireturn, 1) := by decide +kernel
theorem dX5_takeSea_0 : decode cX5_takeSea 0 = .ok (.aload_n 0, 1) := by decide +kernel
theorem dX5_takeSea_1 : decode cX5_takeSea 1 = .ok (.aload_n 0, 1) := by decide +kernel
theorem dX5_takeSea_2 : decode cX5_takeSea 2 = .ok (.getfield 101, 3) := by decide +kernel
theorem dX5_takeSea_5 : decode cX5_takeSea 5 = .ok (.putfield 74, 3) := by decide +kernel
theorem dX5_takeSea_8 : decode cX5_takeSea 8 = .ok (.iconst 0, 1) := by decide +kernel
theorem dX5_takeSea_9 : decode cX5_takeSea 9 = .ok (.istore_n 1, 1) := by decide +kernel
theorem dX5_takeSea_10 : decode cX5_takeSea 10 = .ok (.iload_n 1, 1) := by decide +kernel
theorem dX5_takeSea_11 : decode cX5_takeSea 11 = .ok (.aload_n 0, 1) := by decide +kernel
theorem dX5_takeSea_12 : decode cX5_takeSea 12 = .ok (.getfield 74, 3) := by decide +kernel
theorem dX5_takeSea_15 : decode cX5_takeSea 15 = .ok (.if_icmp .ge 21, 3) := by decide +kernel
theorem dX5_takeSea_18 : decode cX5_takeSea 18 = .ok (.aload_n 0, 1) := by decide +kernel
theorem dX5_takeSea_19 : decode cX5_takeSea 19 = .ok (.getfield 19, 3) := by decide +kernel
theorem dX5_takeSea_22 : decode cX5_takeSea 22 = .ok (.iload_n 1, 1) := by decide +kernel
theorem dX5_takeSea_23 : decode cX5_takeSea 23 = .ok (.aload_n 0, 1) := by decide +kernel
theorem dX5_takeSea_24 : decode cX5_takeSea 24 = .ok (.getfield 37, 3) := by decide +kernel
theorem dX5_takeSea_27 : decode cX5_takeSea 27 = .ok (.iload_n 1, 1) := by decide +kernel
theorem dX5_takeSea_28 : decode cX5_takeSea 28 = .ok (.iaload, 1) := by decide +kernel
theorem dX5_takeSea_29 : decode cX5_takeSea 29 = .ok (.iastore, 1) := by decide +kernel
theorem dX5_takeSea_30 : decode cX5_takeSea 30 = .ok (.iinc 1 1, 3) := by decide +kernel
theorem dX5_takeSea_33 : decode cX5_takeSea 33 = .ok (.goto (-23), 3) := by decide +kernel
theorem dX5_takeSea_36 : decode cX5_takeSea 36 = .ok (.aload_n 0, 1) := by decide +kernel
theorem dX5_takeSea_37 : decode cX5_takeSea 37 = .ok (.aload_n 0, 1) := by decide +kernel
theorem dX5_takeSea_38 : decode cX5_takeSea 38 = .ok (.getfield 104, 3) := by decide +kernel
theorem dX5_takeSea_41 : decode cX5_takeSea 41 = .ok (.putfield 71, 3) := by decide +kernel
theorem dX5_takeSea_44 : decode cX5_takeSea 44 = .ok (.iconst 0, 1) := by decide +kernel
theorem dX5_takeSea_45 : decode cX5_takeSea 45 = .ok (.istore_n 1, 1) := by decide +kernel
theorem dX5_takeSea_46 : decode cX5_takeSea 46 = .ok (.iload_n 1, 1) := by decide +kernel
theorem dX5_takeSea_47 : decode cX5_takeSea 47 = .ok (.aload_n 0, 1) := by decide +kernel
theorem dX5_takeSea_48 : decode cX5_takeSea 48 = .ok (.getfield 71, 3) := by decide +kernel
theorem dX5_takeSea_51 : decode cX5_takeSea 51 = .ok (.if_icmp .ge 111, 3) := by decide +kernel
theorem dX5_takeSea_54 : decode cX5_takeSea 54 = .ok (.aload_n 0, 1) := by decide +kernel
theorem dX5_takeSea_55 : decode cX5_takeSea 55 = .ok (.getfield 22, 3) := by decide +kernel
theorem dX5_takeSea_58 : decode cX5_takeSea 58 = .ok (.iload_n 1, 1) := by decide +kernel
theorem dX5_takeSea_59 : decode cX5_takeSea 59 = .ok (.aload_n 0, 1) := by decide +kernel
theorem dX5_takeSea_60 : decode cX5_takeSea 60 = .ok (.getfield 40, 3) := by decide +kernel
theorem dX5_takeSea_63 : decode cX5_takeSea 63 = .ok (.bipush 8, 2) := by decide +kernel
theorem dX5_takeSea_65 : decode cX5_takeSea 65 = .ok (.iload_n 1, 1) := by decide +kernel
theorem dX5_takeSea_66 : decode cX5_takeSea 66 = .ok (.imul, 1) := by decide +kernel
theorem dX5_takeSea_67 : decode cX5_takeSea 67 = .ok (.iaload, 1) := by decide +kernel
theorem dX5_takeSea_68 : decode cX5_takeSea 68 = .ok (.iastore, 1) := by decide +kernel
theorem dX5_takeSea_69 : decode cX5_takeSea 69 = .ok (.aload_n 0, 1) := by decide +kernel
theorem dX5_takeSea_70 : decode cX5_takeSea 70 = .ok (.getfield 25, 3) := by decide +kernel
theorem dX5_takeSea_73 : decode cX5_takeSea 73 = .ok (.iload_n 1, 1) := by decide +kernel
theorem dX5_takeSea_74 : decode cX5_takeSea 74 = .ok (.aload_n 0, 1) := by decide +kernel
theorem dX5_takeSea_75 : decode cX5_takeSea 75 = .ok (.getfield 40, 3) := by decide +kernel
theorem dX5_takeSea_78 : decode cX5_takeSea 78 = .ok (.bipush 8, 2) := by decide +kernel
theorem dX5_takeSea_80 : decode cX5_takeSea 80 = .ok (.iload_n 1, 1) := by decide +kernel
theorem dX5_takeSea_81 : decode cX5_takeSea 81 = .ok (.imul, 1) := by decide +kernel
theorem dX5_takeSea_82 : decode cX5_takeSea 82 = .ok (.iconst 1, 1) := by decide +kernel
theorem dX5_takeSea_83 : decode cX5_takeSea 83 = .ok (.iadd, 1) := by decide +kernel
theorem dX5_takeSea_84 : decode cX5_takeSea 84 = .ok (.iaload, 1) := by decide +kernel
theorem dX5_takeSea_85 : decode cX5_takeSea 85 = .ok (.iastore, 1) := by decide +kernel
theorem dX5_takeSea_86 : decode cX5_takeSea 86 = .ok (.aload_n 0, 1) := by decide +kernel
theorem dX5_takeSea_87 : decode cX5_takeSea 87 = .ok (.getfield 28, 3) := by decide +kernel
theorem dX5_takeSea_90 : decode cX5_takeSea 90 = .ok (.iload_n 1, 1) := by decide +kernel
theorem dX5_takeSea_91 : decode cX5_takeSea 91 = .ok (.aload_n 0, 1) := by decide +kernel
theorem dX5_takeSea_92 : decode cX5_takeSea 92 = .ok (.getfield 40, 3) := by decide +kernel
theorem dX5_takeSea_95 : decode cX5_takeSea 95 = .ok (.bipush 8, 2) := by decide +kernel
theorem dX5_takeSea_97 : decode cX5_takeSea 97 = .ok (.iload_n 1, 1) := by decide +kernel
theorem dX5_takeSea_98 : decode cX5_takeSea 98 = .ok (.imul, 1) := by decide +kernel
theorem dX5_takeSea_99 : decode cX5_takeSea 99 = .ok (.iconst 2, 1) := by decide +kernel
theorem dX5_takeSea_100 : decode cX5_takeSea 100 = .ok (.iadd, 1) := by decide +kernel
theorem dX5_takeSea_101 : decode cX5_takeSea 101 = .ok (.iaload, 1) := by decide +kernel
theorem dX5_takeSea_102 : decode cX5_takeSea 102 = .ok (.iastore, 1) := by decide +kernel
theorem dX5_takeSea_103 : decode cX5_takeSea 103 = .ok (.aload_n 0, 1) := by decide +kernel
theorem dX5_takeSea_104 : decode cX5_takeSea 104 = .ok (.getfield 31, 3) := by decide +kernel
theorem dX5_takeSea_107 : decode cX5_takeSea 107 = .ok (.iload_n 1, 1) := by decide +kernel
theorem dX5_takeSea_108 : decode cX5_takeSea 108 = .ok (.aload_n 0, 1) := by decide +kernel
theorem dX5_takeSea_109 : decode cX5_takeSea 109 = .ok (.getfield 40, 3) := by decide +kernel
theorem dX5_takeSea_112 : decode cX5_takeSea 112 = .ok (.bipush 8, 2) := by decide +kernel
theorem dX5_takeSea_114 : decode cX5_takeSea 114 = .ok (.iload_n 1, 1) := by decide +kernel
theorem dX5_takeSea_115 : decode cX5_takeSea 115 = .ok (.imul, 1) := by decide +kernel
theorem dX5_takeSea_116 : decode cX5_takeSea 116 = .ok (.iconst 3, 1) := by decide +kernel
theorem dX5_takeSea_117 : decode cX5_takeSea 117 = .ok (.iadd, 1) := by decide +kernel
theorem dX5_takeSea_118 : decode cX5_takeSea 118 = .ok (.iaload, 1) := by decide +kernel
theorem dX5_takeSea_119 : decode cX5_takeSea 119 = .ok (.iastore, 1) := by decide +kernel
theorem dX5_takeSea_120 : decode cX5_takeSea 120 = .ok (.iconst 0, 1) := by decide +kernel
theorem dX5_takeSea_121 : decode cX5_takeSea 121 = .ok (.istore_n 2, 1) := by decide +kernel
theorem dX5_takeSea_122 : decode cX5_takeSea 122 = .ok (.iload_n 2, 1) := by decide +kernel
theorem dX5_takeSea_123 : decode cX5_takeSea 123 = .ok (.iconst 4, 1) := by decide +kernel
theorem dX5_takeSea_124 : decode cX5_takeSea 124 = .ok (.if_icmp .ge 32, 3) := by decide +kernel
theorem dX5_takeSea_127 : decode cX5_takeSea 127 = .ok (.aload_n 0, 1) := by decide +kernel
theorem dX5_takeSea_128 : decode cX5_takeSea 128 = .ok (.getfield 34, 3) := by decide +kernel
theorem dX5_takeSea_131 : decode cX5_takeSea 131 = .ok (.iconst 4, 1) := by decide +kernel
theorem dX5_takeSea_132 : decode cX5_takeSea 132 = .ok (.iload_n 1, 1) := by decide +kernel
theorem dX5_takeSea_133 : decode cX5_takeSea 133 = .ok (.imul, 1) := by decide +kernel
theorem dX5_takeSea_134 : decode cX5_takeSea 134 = .ok (.iload_n 2, 1) := by decide +kernel
theorem dX5_takeSea_135 : decode cX5_takeSea 135 = .ok (.iadd, 1) := by decide +kernel
theorem dX5_takeSea_136 : decode cX5_takeSea 136 = .ok (.aload_n 0, 1) := by decide +kernel
theorem dX5_takeSea_137 : decode cX5_takeSea 137 = .ok (.getfield 40, 3) := by decide +kernel
theorem dX5_takeSea_140 : decode cX5_takeSea 140 = .ok (.bipush 8, 2) := by decide +kernel
theorem dX5_takeSea_142 : decode cX5_takeSea 142 = .ok (.iload_n 1, 1) := by decide +kernel
theorem dX5_takeSea_143 : decode cX5_takeSea 143 = .ok (.imul, 1) := by decide +kernel
theorem dX5_takeSea_144 : decode cX5_takeSea 144 = .ok (.iconst 4, 1) := by decide +kernel
theorem dX5_takeSea_145 : decode cX5_takeSea 145 = .ok (.iadd, 1) := by decide +kernel
theorem dX5_takeSea_146 : decode cX5_takeSea 146 = .ok (.iload_n 2, 1) := by decide +kernel
theorem dX5_takeSea_147 : decode cX5_takeSea 147 = .ok (.iadd, 1) := by decide +kernel
theorem dX5_takeSea_148 : decode cX5_takeSea 148 = .ok (.iaload, 1) := by decide +kernel
theorem dX5_takeSea_149 : decode cX5_takeSea 149 = .ok (.iastore, 1) := by decide +kernel
theorem dX5_takeSea_150 : decode cX5_takeSea 150 = .ok (.iinc 2 1, 3) := by decide +kernel
theorem dX5_takeSea_153 : decode cX5_takeSea 153 = .ok (.goto (-31), 3) := by decide +kernel
theorem dX5_takeSea_156 : decode cX5_takeSea 156 = .ok (.iinc 1 1, 3) := by decide +kernel
theorem dX5_takeSea_159 : decode cX5_takeSea 159 = .ok (.goto (-113), 3) := by decide +kernel
theorem dX5_takeSea_162 : decode cX5_takeSea 162 = .ok (.aload_n 0, 1) := by decide +kernel
theorem dX5_takeSea_163 : decode cX5_takeSea 163 = .ok (.iconst 0, 1) := by decide +kernel
theorem dX5_takeSea_164 : decode cX5_takeSea 164 = .ok (.putfield 107, 3) := by decide +kernel
theorem dX5_takeSea_167 : decode cX5_takeSea 167 = .ok (.aload_n 0, 1) := by decide +kernel
theorem dX5_takeSea_168 : decode cX5_takeSea 168 = .ok (.iconst 0, 1) := by decide +kernel
theorem dX5_takeSea_169 : decode cX5_takeSea 169 = .ok (.putfield 110, 3) := by decide +kernel
theorem dX5_takeSea_172 : decode cX5_takeSea 172 = .ok (.return_, 1) := by decide +kernel
theorem dX5_readSea_0 : decode cX5_readSea 0 = .ok (.aload_n 0, 1) := by decide +kernel
theorem dX5_readSea_1 : decode cX5_readSea 1 = .ok (.iconst 0, 1) := by decide +kernel
theorem dX5_readSea_2 : decode cX5_readSea 2 = .ok (.putfield 104, 3) := by decide +kernel
theorem dX5_readSea_5 : decode cX5_readSea 5 = .ok (.aload_n 0, 1) := by decide +kernel
theorem dX5_readSea_6 : decode cX5_readSea 6 = .ok (.iload_n 1, 1) := by decide +kernel
theorem dX5_readSea_7 : decode cX5_readSea 7 = .ok (.bipush 121, 2) := by decide +kernel
theorem dX5_readSea_9 : decode cX5_readSea 9 = .ok (.invokevirtual 113, 3) := by decide +kernel
theorem dX5_readSea_12 : decode cX5_readSea 12 = .ok (.ifCond .eq 11, 3) := by decide +kernel
theorem dX5_readSea_15 : decode cX5_readSea 15 = .ok (.aload_n 0, 1) := by decide +kernel
theorem dX5_readSea_16 : decode cX5_readSea 16 = .ok (.iload_n 1, 1) := by decide +kernel
theorem dX5_readSea_17 : decode cX5_readSea 17 = .ok (.invokevirtual 117, 3) := by decide +kernel
theorem dX5_readSea_20 : decode cX5_readSea 20 = .ok (.ifCond .ne 5, 3) := by decide +kernel
theorem dX5_readSea_23 : decode cX5_readSea 23 = .ok (.iconst 0, 1) := by decide +kernel
theorem dX5_readSea_24 : decode cX5_readSea 24 = .ok (.ireturn, 1) := by decide +kernel
theorem dX5_readSea_25 : decode cX5_readSea 25 = .ok (.aload_n 0, 1) := by decide +kernel
theorem dX5_readSea_26 : decode cX5_readSea 26 = .ok (.getfield 104, 3) := by decide +kernel
theorem dX5_readSea_29 : decode cX5_readSea 29 = .ok (.ifCond .eq 19, 3) := by decide +kernel
theorem dX5_readSea_32 : decode cX5_readSea 32 = .ok (.aload_n 0, 1) := by decide +kernel
theorem dX5_readSea_33 : decode cX5_readSea 33 = .ok (.getfield 104, 3) := by decide +kernel
theorem dX5_readSea_36 : decode cX5_readSea 36 = .ok (.iconst 5, 1) := by decide +kernel
theorem dX5_readSea_37 : decode cX5_readSea 37 = .ok (.if_icmp .ge 31, 3) := by decide +kernel
theorem dX5_readSea_40 : decode cX5_readSea 40 = .ok (.aload_n 0, 1) := by decide +kernel
theorem dX5_readSea_41 : decode cX5_readSea 41 = .ok (.getfield 77, 3) := by decide +kernel
theorem dX5_readSea_44 : decode cX5_readSea 44 = .ok (.iload_n 1, 1) := by decide +kernel
theorem dX5_readSea_45 : decode cX5_readSea 45 = .ok (.if_icmp .ge 23, 3) := by decide +kernel
theorem dX5_readSea_48 : decode cX5_readSea 48 = .ok (.aload_n 0, 1) := by decide +kernel
theorem dX5_readSea_49 : decode cX5_readSea 49 = .ok (.iload_n 1, 1) := by decide +kernel
theorem dX5_readSea_50 : decode cX5_readSea 50 = .ok (.bipush 59, 2) := by decide +kernel
theorem dX5_readSea_52 : decode cX5_readSea 52 = .ok (.invokevirtual 113, 3) := by decide +kernel
theorem dX5_readSea_55 : decode cX5_readSea 55 = .ok (.ifCond .eq 11, 3) := by decide +kernel
theorem dX5_readSea_58 : decode cX5_readSea 58 = .ok (.aload_n 0, 1) := by decide +kernel
theorem dX5_readSea_59 : decode cX5_readSea 59 = .ok (.iload_n 1, 1) := by decide +kernel
theorem dX5_readSea_60 : decode cX5_readSea 60 = .ok (.invokevirtual 120, 3) := by decide +kernel
theorem dX5_readSea_63 : decode cX5_readSea 63 = .ok (.ifCond .ne (-38), 3) := by decide +kernel
theorem dX5_readSea_66 : decode cX5_readSea 66 = .ok (.iconst 0, 1) := by decide +kernel
theorem dX5_readSea_67 : decode cX5_readSea 67 = .ok (.ireturn, 1) := by decide +kernel
theorem dX5_readSea_68 : decode cX5_readSea 68 = .ok (.aload_n 0, 1) := by decide +kernel
theorem dX5_readSea_69 : decode cX5_readSea 69 = .ok (.getfield 77, 3) := by decide +kernel
theorem dX5_readSea_72 : decode cX5_readSea 72 = .ok (.iload_n 1, 1) := by decide +kernel
theorem dX5_readSea_73 : decode cX5_readSea 73 = .ok (.if_icmp .ne 7, 3) := by decide +kernel
theorem dX5_readSea_76 : decode cX5_readSea 76 = .ok (.iconst 1, 1) := by decide +kernel
theorem dX5_readSea_77 : decode cX5_readSea 77 = .ok (.goto 4, 3) := by decide +kernel
theorem dX5_readSea_80 : decode cX5_readSea 80 = .ok (.iconst 0, 1) := by decide +kernel
theorem dX5_readSea_81 : decode cX5_readSea 81 = .ok (.ireturn, 1) := by decide +kernel
theorem dX5_readThePorts_0 : decode cX5_readThePorts 0 = .ok (.aload_n 0, 1) := by decide +kernel
theorem dX5_readThePorts_1 : decode cX5_readThePorts 1 = .ok (.iconst 0, 1) := by decide +kernel
theorem dX5_readThePorts_2 : decode cX5_readThePorts 2 = .ok (.putfield 101, 3) := by decide +kernel
theorem dX5_readThePorts_5 : decode cX5_readThePorts 5 = .ok (.aload_n 0, 1) := by decide +kernel
theorem dX5_readThePorts_6 : decode cX5_readThePorts 6 = .ok (.getfield 101, 3) := by decide +kernel
theorem dX5_readThePorts_9 : decode cX5_readThePorts 9 = .ok (.bipush 6, 2) := by decide +kernel
theorem dX5_readThePorts_11 : decode cX5_readThePorts 11 = .ok (.if_icmp .ge 55, 3) := by decide +kernel
theorem dX5_readThePorts_14 : decode cX5_readThePorts 14 = .ok (.aload_n 0, 1) := by decide +kernel
theorem dX5_readThePorts_15 : decode cX5_readThePorts 15 = .ok (.iload_n 1, 1) := by decide +kernel
theorem dX5_readThePorts_16 : decode cX5_readThePorts 16 = .ok (.iconst 0, 1) := by decide +kernel
theorem dX5_readThePorts_17 : decode cX5_readThePorts 17 = .ok (.bipush 9, 2) := by decide +kernel
theorem dX5_readThePorts_19 : decode cX5_readThePorts 19 = .ok (.invokevirtual 123, 3) := by decide +kernel
theorem dX5_readThePorts_22 : decode cX5_readThePorts 22 = .ok (.istore_n 2, 1) := by decide +kernel
theorem dX5_readThePorts_23 : decode cX5_readThePorts 23 = .ok (.iload_n 2, 1) := by decide +kernel
theorem dX5_readThePorts_24 : decode cX5_readThePorts 24 = .ok (.bipush (-9), 2) := by decide +kernel
theorem dX5_readThePorts_26 : decode cX5_readThePorts 26 = .ok (.if_icmp .ne 17, 3) := by decide +kernel
theorem dX5_readThePorts_29 : decode cX5_readThePorts 29 = .ok (.aload_n 0, 1) := by decide +kernel
theorem dX5_readThePorts_30 : decode cX5_readThePorts 30 = .ok (.getfield 101, 3) := by decide +kernel
theorem dX5_readThePorts_33 : decode cX5_readThePorts 33 = .ok (.iconst 2, 1) := by decide +kernel
theorem dX5_readThePorts_34 : decode cX5_readThePorts 34 = .ok (.if_icmp .lt 7, 3) := by decide +kernel
theorem dX5_readThePorts_37 : decode cX5_readThePorts 37 = .ok (.iconst 1, 1) := by decide +kernel
theorem dX5_readThePorts_38 : decode cX5_readThePorts 38 = .ok (.goto 4, 3) := by decide +kernel
theorem dX5_readThePorts_41 : decode cX5_readThePorts 41 = .ok (.iconst 0, 1) := by decide +kernel
theorem dX5_readThePorts_42 : decode cX5_readThePorts 42 = .ok (.ireturn, 1) := by decide +kernel
theorem dX5_readThePorts_43 : decode cX5_readThePorts 43 = .ok (.aload_n 0, 1) := by decide +kernel
theorem dX5_readThePorts_44 : decode cX5_readThePorts 44 = .ok (.getfield 37, 3) := by decide +kernel
theorem dX5_readThePorts_47 : decode cX5_readThePorts 47 = .ok (.aload_n 0, 1) := by decide +kernel
theorem dX5_readThePorts_48 : decode cX5_readThePorts 48 = .ok (.getfield 101, 3) := by decide +kernel
theorem dX5_readThePorts_51 : decode cX5_readThePorts 51 = .ok (.iload_n 2, 1) := by decide +kernel
theorem dX5_readThePorts_52 : decode cX5_readThePorts 52 = .ok (.iastore, 1) := by decide +kernel
theorem dX5_readThePorts_53 : decode cX5_readThePorts 53 = .ok (.aload_n 0, 1) := by decide +kernel
theorem dX5_readThePorts_54 : decode cX5_readThePorts 54 = .ok (.dup, 1) := by decide +kernel
theorem dX5_readThePorts_55 : decode cX5_readThePorts 55 = .ok (.getfield 101, 3) := by decide +kernel
theorem dX5_readThePorts_58 : decode cX5_readThePorts 58 = .ok (.iconst 1, 1) := by decide +kernel
theorem dX5_readThePorts_59 : decode cX5_readThePorts 59 = .ok (.iadd, 1) := by decide +kernel
theorem dX5_readThePorts_60 : decode cX5_readThePorts 60 = .ok (.putfield 101, 3) := by decide +kernel
theorem dX5_readThePorts_63 : decode cX5_readThePorts 63 = .ok (.goto (-58), 3) := by decide +kernel
theorem dX5_readThePorts_66 : decode cX5_readThePorts 66 = .ok (.iconst 1, 1) := by decide +kernel
theorem dX5_readThePorts_67 : decode cX5_readThePorts 67 = .ok (.ireturn, 1) := by decide +kernel
theorem dX5_readShip_0 : decode cX5_readShip 0 = .ok (.aload_n 0, 1) := by decide +kernel
theorem dX5_readShip_1 : decode cX5_readShip 1 = .ok (.getfield 77, 3) := by decide +kernel
theorem dX5_readShip_4 : decode cX5_readShip 4 = .ok (.iload_n 1, 1) := by decide +kernel
theorem dX5_readShip_5 : decode cX5_readShip 5 = .ok (.if_icmp .ge 15, 3) := by decide +kernel
theorem dX5_readShip_8 : decode cX5_readShip 8 = .ok (.aload_n 0, 1) := by decide +kernel
theorem dX5_readShip_9 : decode cX5_readShip 9 = .ok (.getfield 16, 3) := by decide +kernel
theorem dX5_readShip_12 : decode cX5_readShip 12 = .ok (.aload_n 0, 1) := by decide +kernel
theorem dX5_readShip_13 : decode cX5_readShip 13 = .ok (.getfield 77, 3) := by decide +kernel
theorem dX5_readShip_16 : decode cX5_readShip 16 = .ok (.iaload, 1) := by decide +kernel
theorem dX5_readShip_17 : decode cX5_readShip 17 = .ok (.goto 4, 3) := by decide +kernel
theorem dX5_readShip_20 : decode cX5_readShip 20 = .ok (.iconst 0, 1) := by decide +kernel
theorem dX5_readShip_21 : decode cX5_readShip 21 = .ok (.istore_n 2, 1) := by decide +kernel
theorem dX5_readShip_22 : decode cX5_readShip 22 = .ok (.bipush 8, 2) := by decide +kernel
theorem dX5_readShip_24 : decode cX5_readShip 24 = .ok (.aload_n 0, 1) := by decide +kernel
theorem dX5_readShip_25 : decode cX5_readShip 25 = .ok (.getfield 104, 3) := by decide +kernel
theorem dX5_readShip_28 : decode cX5_readShip 28 = .ok (.imul, 1) := by decide +kernel
theorem dX5_readShip_29 : decode cX5_readShip 29 = .ok (.istore_n 3, 1) := by decide +kernel
theorem dX5_readShip_30 : decode cX5_readShip 30 = .ok (.aload_n 0, 1) := by decide +kernel
theorem dX5_readShip_31 : decode cX5_readShip 31 = .ok (.getfield 40, 3) := by decide +kernel
theorem dX5_readShip_34 : decode cX5_readShip 34 = .ok (.iload_n 3, 1) := by decide +kernel
theorem dX5_readShip_35 : decode cX5_readShip 35 = .ok (.iload_n 2, 1) := by decide +kernel
theorem dX5_readShip_36 : decode cX5_readShip 36 = .ok (.bipush 98, 2) := by decide +kernel
theorem dX5_readShip_38 : decode cX5_readShip 38 = .ok (.if_icmp .ne 7, 3) := by decide +kernel
theorem dX5_readShip_41 : decode cX5_readShip 41 = .ok (.iconst 0, 1) := by decide +kernel
theorem dX5_readShip_42 : decode cX5_readShip 42 = .ok (.goto 25, 3) := by decide +kernel
theorem dX5_readShip_45 : decode cX5_readShip 45 = .ok (.iload_n 2, 1) := by decide +kernel
theorem dX5_readShip_46 : decode cX5_readShip 46 = .ok (.bipush 99, 2) := by decide +kernel
theorem dX5_readShip_48 : decode cX5_readShip 48 = .ok (.if_icmp .ne 7, 3) := by decide +kernel
theorem dX5_readShip_51 : decode cX5_readShip 51 = .ok (.iconst 1, 1) := by decide +kernel
theorem dX5_readShip_52 : decode cX5_readShip 52 = .ok (.goto 15, 3) := by decide +kernel
theorem dX5_readShip_55 : decode cX5_readShip 55 = .ok (.iload_n 2, 1) := by decide +kernel
theorem dX5_readShip_56 : decode cX5_readShip 56 = .ok (.bipush 115, 2) := by decide +kernel
theorem dX5_readShip_58 : decode cX5_readShip 58 = .ok (.if_icmp .ne 7, 3) := by decide +kernel
theorem dX5_readShip_61 : decode cX5_readShip 61 = .ok (.iconst 2, 1) := by decide +kernel
theorem dX5_readShip_62 : decode cX5_readShip 62 = .ok (.goto 5, 3) := by decide +kernel
theorem dX5_readShip_65 : decode cX5_readShip 65 = .ok (.bipush (-9), 2) := by decide +kernel
theorem dX5_readShip_67 : decode cX5_readShip 67 = .ok (.iastore, 1) := by decide +kernel
theorem dX5_readShip_68 : decode cX5_readShip 68 = .ok (.aload_n 0, 1) := by decide +kernel
theorem dX5_readShip_69 : decode cX5_readShip 69 = .ok (.getfield 40, 3) := by decide +kernel
theorem dX5_readShip_72 : decode cX5_readShip 72 = .ok (.iload_n 3, 1) := by decide +kernel
theorem dX5_readShip_73 : decode cX5_readShip 73 = .ok (.iaload, 1) := by decide +kernel
theorem dX5_readShip_74 : decode cX5_readShip 74 = .ok (.bipush (-9), 2) := by decide +kernel
theorem dX5_readShip_76 : decode cX5_readShip 76 = .ok (.if_icmp .ne 5, 3) := by decide +kernel
theorem dX5_readShip_79 : decode cX5_readShip 79 = .ok (.iconst 0, 1) := by decide +kernel
theorem dX5_readShip_80 : decode cX5_readShip 80 = .ok (.ireturn, 1) := by decide +kernel
theorem dX5_readShip_81 : decode cX5_readShip 81 = .ok (.aload_n 0, 1) := by decide +kernel
theorem dX5_readShip_82 : decode cX5_readShip 82 = .ok (.dup, 1) := by decide +kernel
theorem dX5_readShip_83 : decode cX5_readShip 83 = .ok (.getfield 77, 3) := by decide +kernel
theorem dX5_readShip_86 : decode cX5_readShip 86 = .ok (.iconst 1, 1) := by decide +kernel
theorem dX5_readShip_87 : decode cX5_readShip 87 = .ok (.iadd, 1) := by decide +kernel
theorem dX5_readShip_88 : decode cX5_readShip 88 = .ok (.putfield 77, 3) := by decide +kernel
theorem dX5_readShip_91 : decode cX5_readShip 91 = .ok (.iconst 1, 1) := by decide +kernel
theorem dX5_readShip_92 : decode cX5_readShip 92 = .ok (.istore 4, 2) := by decide +kernel
theorem dX5_readShip_94 : decode cX5_readShip 94 = .ok (.iload 4, 2) := by decide +kernel
theorem dX5_readShip_96 : decode cX5_readShip 96 = .ok (.bipush 8, 2) := by decide +kernel
theorem dX5_readShip_98 : decode cX5_readShip 98 = .ok (.if_icmp .ge 67, 3) := by decide +kernel
theorem dX5_readShip_101 : decode cX5_readShip 101 = .ok (.aload_n 0, 1) := by decide +kernel
theorem dX5_readShip_102 : decode cX5_readShip 102 = .ok (.getfield 40, 3) := by decide +kernel
theorem dX5_readShip_105 : decode cX5_readShip 105 = .ok (.iload_n 3, 1) := by decide +kernel
theorem dX5_readShip_106 : decode cX5_readShip 106 = .ok (.iload 4, 2) := by decide +kernel
theorem dX5_readShip_108 : decode cX5_readShip 108 = .ok (.iadd, 1) := by decide +kernel
theorem dX5_readShip_109 : decode cX5_readShip 109 = .ok (.aload_n 0, 1) := by decide +kernel
theorem dX5_readShip_110 : decode cX5_readShip 110 = .ok (.iload_n 1, 1) := by decide +kernel
theorem dX5_readShip_111 : decode cX5_readShip 111 = .ok (.iconst 0, 1) := by decide +kernel
theorem dX5_readShip_112 : decode cX5_readShip 112 = .ok (.iload 4, 2) := by decide +kernel
theorem dX5_readShip_114 : decode cX5_readShip 114 = .ok (.iconst 1, 1) := by decide +kernel
theorem dX5_readShip_115 : decode cX5_readShip 115 = .ok (.if_icmp .ne 7, 3) := by decide +kernel
theorem dX5_readShip_118 : decode cX5_readShip 118 = .ok (.iconst 3, 1) := by decide +kernel
theorem dX5_readShip_119 : decode cX5_readShip 119 = .ok (.goto 20, 3) := by decide +kernel
theorem dX5_readShip_122 : decode cX5_readShip 122 = .ok (.iload 4, 2) := by decide +kernel
theorem dX5_readShip_124 : decode cX5_readShip 124 = .ok (.iconst 3, 1) := by decide +kernel
theorem dX5_readShip_125 : decode cX5_readShip 125 = .ok (.if_icmp .ne 12, 3) := by decide +kernel
theorem dX5_readShip_128 : decode cX5_readShip 128 = .ok (.aload_n 0, 1) := by decide +kernel
theorem dX5_readShip_129 : decode cX5_readShip 129 = .ok (.getfield 101, 3) := by decide +kernel
theorem dX5_readShip_132 : decode cX5_readShip 132 = .ok (.iconst 1, 1) := by decide +kernel
theorem dX5_readShip_133 : decode cX5_readShip 133 = .ok (.isub, 1) := by decide +kernel
theorem dX5_readShip_134 : decode cX5_readShip 134 = .ok (.goto 5, 3) := by decide +kernel
theorem dX5_readShip_137 : decode cX5_readShip 137 = .ok (.bipush 9, 2) := by decide +kernel
theorem dX5_readShip_139 : decode cX5_readShip 139 = .ok (.invokevirtual 123, 3) := by decide +kernel
theorem dX5_readShip_142 : decode cX5_readShip 142 = .ok (.iastore, 1) := by decide +kernel
theorem dX5_readShip_143 : decode cX5_readShip 143 = .ok (.aload_n 0, 1) := by decide +kernel
theorem dX5_readShip_144 : decode cX5_readShip 144 = .ok (.getfield 40, 3) := by decide +kernel
theorem dX5_readShip_147 : decode cX5_readShip 147 = .ok (.iload_n 3, 1) := by decide +kernel
theorem dX5_readShip_148 : decode cX5_readShip 148 = .ok (.iload 4, 2) := by decide +kernel
theorem dX5_readShip_150 : decode cX5_readShip 150 = .ok (.iadd, 1) := by decide +kernel
theorem dX5_readShip_151 : decode cX5_readShip 151 = .ok (.iaload, 1) := by decide +kernel
theorem dX5_readShip_152 : decode cX5_readShip 152 = .ok (.bipush (-9), 2) := by decide +kernel
theorem dX5_readShip_154 : decode cX5_readShip 154 = .ok (.if_icmp .ne 5, 3) := by decide +kernel
theorem dX5_readShip_157 : decode cX5_readShip 157 = .ok (.iconst 0, 1) := by decide +kernel
theorem dX5_readShip_158 : decode cX5_readShip 158 = .ok (.ireturn, 1) := by decide +kernel
theorem dX5_readShip_159 : decode cX5_readShip 159 = .ok (.iinc 4 1, 3) := by decide +kernel
theorem dX5_readShip_162 : decode cX5_readShip 162 = .ok (.goto (-68), 3) := by decide +kernel
theorem dX5_readShip_165 : decode cX5_readShip 165 = .ok (.aload_n 0, 1) := by decide +kernel
theorem dX5_readShip_166 : decode cX5_readShip 166 = .ok (.dup, 1) := by decide +kernel
theorem dX5_readShip_167 : decode cX5_readShip 167 = .ok (.getfield 104, 3) := by decide +kernel
theorem dX5_readShip_170 : decode cX5_readShip 170 = .ok (.iconst 1, 1) := by decide +kernel
theorem dX5_readShip_171 : decode cX5_readShip 171 = .ok (.iadd, 1) := by decide +kernel
theorem dX5_readShip_172 : decode cX5_readShip 172 = .ok (.putfield 104, 3) := by decide +kernel
theorem dX5_readShip_175 : decode cX5_readShip 175 = .ok (.iconst 1, 1) := by decide +kernel
theorem dX5_readShip_176 : decode cX5_readShip 176 = .ok (.ireturn, 1) := by decide +kernel
theorem dX5_bearsOf_0 : decode cX5_bearsOf 0 = .ok (.aload_n 0, 1) := by decide +kernel
theorem dX5_bearsOf_1 : decode cX5_bearsOf 1 = .ok (.getfield 22, 3) := by decide +kernel
theorem dX5_bearsOf_4 : decode cX5_bearsOf 4 = .ok (.iload_n 1, 1) := by decide +kernel
theorem dX5_bearsOf_5 : decode cX5_bearsOf 5 = .ok (.iaload, 1) := by decide +kernel
theorem dX5_bearsOf_6 : decode cX5_bearsOf 6 = .ok (.ifCond .ne 12, 3) := by decide +kernel
theorem dX5_bearsOf_9 : decode cX5_bearsOf 9 = .ok (.aload_n 0, 1) := by decide +kernel
theorem dX5_bearsOf_10 : decode cX5_bearsOf 10 = .ok (.getfield 28, 3) := by decide +kernel
theorem dX5_bearsOf_13 : decode cX5_bearsOf 13 = .ok (.iload_n 1, 1) := by decide +kernel
theorem dX5_bearsOf_14 : decode cX5_bearsOf 14 = .ok (.iaload, 1) := by decide +kernel
theorem dX5_bearsOf_15 : decode cX5_bearsOf 15 = .ok (.goto 32, 3) := by decide +kernel
theorem dX5_bearsOf_18 : decode cX5_bearsOf 18 = .ok (.aload_n 0, 1) := by decide +kernel
theorem dX5_bearsOf_19 : decode cX5_bearsOf 19 = .ok (.getfield 22, 3) := by decide +kernel
theorem dX5_bearsOf_22 : decode cX5_bearsOf 22 = .ok (.iload_n 1, 1) := by decide +kernel
theorem dX5_bearsOf_23 : decode cX5_bearsOf 23 = .ok (.iaload, 1) := by decide +kernel
theorem dX5_bearsOf_24 : decode cX5_bearsOf 24 = .ok (.iconst 1, 1) := by decide +kernel
theorem dX5_bearsOf_25 : decode cX5_bearsOf 25 = .ok (.if_icmp .ne 14, 3) := by decide +kernel
theorem dX5_bearsOf_28 : decode cX5_bearsOf 28 = .ok (.aload_n 0, 1) := by decide +kernel
theorem dX5_bearsOf_29 : decode cX5_bearsOf 29 = .ok (.getfield 28, 3) := by decide +kernel
theorem dX5_bearsOf_32 : decode cX5_bearsOf 32 = .ok (.iload_n 1, 1) := by decide +kernel
theorem dX5_bearsOf_33 : decode cX5_bearsOf 33 = .ok (.iaload, 1) := by decide +kernel
theorem dX5_bearsOf_34 : decode cX5_bearsOf 34 = .ok (.iconst 1, 1) := by decide +kernel
theorem dX5_bearsOf_35 : decode cX5_bearsOf 35 = .ok (.iadd, 1) := by decide +kernel
theorem dX5_bearsOf_36 : decode cX5_bearsOf 36 = .ok (.goto 11, 3) := by decide +kernel
theorem dX5_bearsOf_39 : decode cX5_bearsOf 39 = .ok (.iconst 2, 1) := by decide +kernel
theorem dX5_bearsOf_40 : decode cX5_bearsOf 40 = .ok (.aload_n 0, 1) := by decide +kernel
theorem dX5_bearsOf_41 : decode cX5_bearsOf 41 = .ok (.getfield 28, 3) := by decide +kernel
theorem dX5_bearsOf_44 : decode cX5_bearsOf 44 = .ok (.iload_n 1, 1) := by decide +kernel
theorem dX5_bearsOf_45 : decode cX5_bearsOf 45 = .ok (.iaload, 1) := by decide +kernel
theorem dX5_bearsOf_46 : decode cX5_bearsOf 46 = .ok (.imul, 1) := by decide +kernel
theorem dX5_bearsOf_47 : decode cX5_bearsOf 47 = .ok (.ireturn, 1) := by decide +kernel
theorem dX5_isMet_0 : decode cX5_isMet 0 = .ok (.aload_n 0, 1) := by decide +kernel
theorem dX5_isMet_1 : decode cX5_isMet 1 = .ok (.getfield 34, 3) := by decide +kernel
theorem dX5_isMet_4 : decode cX5_isMet 4 = .ok (.iconst 4, 1) := by decide +kernel
theorem dX5_isMet_5 : decode cX5_isMet 5 = .ok (.iload_n 1, 1) := by decide +kernel
theorem dX5_isMet_6 : decode cX5_isMet 6 = .ok (.imul, 1) := by decide +kernel
theorem dX5_isMet_7 : decode cX5_isMet 7 = .ok (.aload_n 0, 1) := by decide +kernel
theorem dX5_isMet_8 : decode cX5_isMet 8 = .ok (.getfield 25, 3) := by decide +kernel
theorem dX5_isMet_11 : decode cX5_isMet 11 = .ok (.iload_n 1, 1) := by decide +kernel
theorem dX5_isMet_12 : decode cX5_isMet 12 = .ok (.iaload, 1) := by decide +kernel
theorem dX5_isMet_13 : decode cX5_isMet 13 = .ok (.iadd, 1) := by decide +kernel
theorem dX5_isMet_14 : decode cX5_isMet 14 = .ok (.iaload, 1) := by decide +kernel
theorem dX5_isMet_15 : decode cX5_isMet 15 = .ok (.ifCond .ne 7, 3) := by decide +kernel
theorem dX5_isMet_18 : decode cX5_isMet 18 = .ok (.iconst 1, 1) := by decide +kernel
theorem dX5_isMet_19 : decode cX5_isMet 19 = .ok (.goto 4, 3) := by decide +kernel
theorem dX5_isMet_22 : decode cX5_isMet 22 = .ok (.iconst 0, 1) := by decide +kernel
theorem dX5_isMet_23 : decode cX5_isMet 23 = .ok (.ireturn, 1) := by decide +kernel
theorem dX5_worthOf_0 : decode cX5_worthOf 0 = .ok (.iconst 0, 1) := by decide +kernel
theorem dX5_worthOf_1 : decode cX5_worthOf 1 = .ok (.istore_n 2, 1) := by decide +kernel
theorem dX5_worthOf_2 : decode cX5_worthOf 2 = .ok (.iconst 0, 1) := by decide +kernel
theorem dX5_worthOf_3 : decode cX5_worthOf 3 = .ok (.istore_n 3, 1) := by decide +kernel
theorem dX5_worthOf_4 : decode cX5_worthOf 4 = .ok (.iload_n 3, 1) := by decide +kernel
theorem dX5_worthOf_5 : decode cX5_worthOf 5 = .ok (.iconst 4, 1) := by decide +kernel
theorem dX5_worthOf_6 : decode cX5_worthOf 6 = .ok (.if_icmp .ge 26, 3) := by decide +kernel
theorem dX5_worthOf_9 : decode cX5_worthOf 9 = .ok (.iload_n 2, 1) := by decide +kernel
theorem dX5_worthOf_10 : decode cX5_worthOf 10 = .ok (.iload_n 3, 1) := by decide +kernel
theorem dX5_worthOf_11 : decode cX5_worthOf 11 = .ok (.iconst 1, 1) := by decide +kernel
theorem dX5_worthOf_12 : decode cX5_worthOf 12 = .ok (.iadd, 1) := by decide +kernel
theorem dX5_worthOf_13 : decode cX5_worthOf 13 = .ok (.aload_n 0, 1) := by decide +kernel
theorem dX5_worthOf_14 : decode cX5_worthOf 14 = .ok (.getfield 34, 3) := by decide +kernel
theorem dX5_worthOf_17 : decode cX5_worthOf 17 = .ok (.iconst 4, 1) := by decide +kernel
theorem dX5_worthOf_18 : decode cX5_worthOf 18 = .ok (.iload_n 1, 1) := by decide +kernel
theorem dX5_worthOf_19 : decode cX5_worthOf 19 = .ok (.imul, 1) := by decide +kernel
theorem dX5_worthOf_20 : decode cX5_worthOf 20 = .ok (.iload_n 3, 1) := by decide +kernel
theorem dX5_worthOf_21 : decode cX5_worthOf 21 = .ok (.iadd, 1) := by decide +kernel
theorem dX5_worthOf_22 : decode cX5_worthOf 22 = .ok (.iaload, 1) := by decide +kernel
theorem dX5_worthOf_23 : decode cX5_worthOf 23 = .ok (.imul, 1) := by decide +kernel
theorem dX5_worthOf_24 : decode cX5_worthOf 24 = .ok (.iadd, 1) := by decide +kernel
theorem dX5_worthOf_25 : decode cX5_worthOf 25 = .ok (.istore_n 2, 1) := by decide +kernel
theorem dX5_worthOf_26 : decode cX5_worthOf 26 = .ok (.iinc 3 1, 3) := by decide +kernel
theorem dX5_worthOf_29 : decode cX5_worthOf 29 = .ok (.goto (-25), 3) := by decide +kernel
theorem dX5_worthOf_32 : decode cX5_worthOf 32 = .ok (.iload_n 2, 1) := by decide +kernel
theorem dX5_worthOf_33 : decode cX5_worthOf 33 = .ok (.ireturn, 1) := by decide +kernel
theorem dX5_piecesOf_0 : decode cX5_piecesOf 0 = .ok (.iconst 0, 1) := by decide +kernel
theorem dX5_piecesOf_1 : decode cX5_piecesOf 1 = .ok (.istore_n 2, 1) := by decide +kernel
theorem dX5_piecesOf_2 : decode cX5_piecesOf 2 = .ok (.iconst 0, 1) := by decide +kernel
theorem dX5_piecesOf_3 : decode cX5_piecesOf 3 = .ok (.istore_n 3, 1) := by decide +kernel
theorem dX5_piecesOf_4 : decode cX5_piecesOf 4 = .ok (.iload_n 3, 1) := by decide +kernel
theorem dX5_piecesOf_5 : decode cX5_piecesOf 5 = .ok (.iconst 4, 1) := by decide +kernel
theorem dX5_piecesOf_6 : decode cX5_piecesOf 6 = .ok (.if_icmp .ge 22, 3) := by decide +kernel
theorem dX5_piecesOf_9 : decode cX5_piecesOf 9 = .ok (.iload_n 2, 1) := by decide +kernel
theorem dX5_piecesOf_10 : decode cX5_piecesOf 10 = .ok (.aload_n 0, 1) := by decide +kernel
theorem dX5_piecesOf_11 : decode cX5_piecesOf 11 = .ok (.getfield 34, 3) := by decide +kernel
theorem dX5_piecesOf_14 : decode cX5_piecesOf 14 = .ok (.iconst 4, 1) := by decide +kernel
theorem dX5_piecesOf_15 : decode cX5_piecesOf 15 = .ok (.iload_n 1, 1) := by decide +kernel
theorem dX5_piecesOf_16 : decode cX5_piecesOf 16 = .ok (.imul, 1) := by decide +kernel
theorem dX5_piecesOf_17 : decode cX5_piecesOf 17 = .ok (.iload_n 3, 1) := by decide +kernel
theorem dX5_piecesOf_18 : decode cX5_piecesOf 18 = .ok (.iadd, 1) := by decide +kernel
theorem dX5_piecesOf_19 : decode cX5_piecesOf 19 = .ok (.iaload, 1) := by decide +kernel
theorem dX5_piecesOf_20 : decode cX5_piecesOf 20 = .ok (.iadd, 1) := by decide +kernel
theorem dX5_piecesOf_21 : decode cX5_piecesOf 21 = .ok (.istore_n 2, 1) := by decide +kernel
theorem dX5_piecesOf_22 : decode cX5_piecesOf 22 = .ok (.iinc 3 1, 3) := by decide +kernel
theorem dX5_piecesOf_25 : decode cX5_piecesOf 25 = .ok (.goto (-21), 3) := by decide +kernel
theorem dX5_piecesOf_28 : decode cX5_piecesOf 28 = .ok (.iload_n 2, 1) := by decide +kernel
theorem dX5_piecesOf_29 : decode cX5_piecesOf 29 = .ok (.ireturn, 1) := by decide +kernel
theorem dX5_ofShip_0 : decode cX5_ofShip 0 = .ok (.aload_n 0, 1) := by decide +kernel
theorem dX5_ofShip_1 : decode cX5_ofShip 1 = .ok (.iload_n 1, 1) := by decide +kernel
theorem dX5_ofShip_2 : decode cX5_ofShip 2 = .ok (.invokevirtual 127, 3) := by decide +kernel
theorem dX5_ofShip_5 : decode cX5_ofShip 5 = .ok (.ifCond .ne 5, 3) := by decide +kernel
theorem dX5_ofShip_8 : decode cX5_ofShip 8 = .ok (.iconst (-1), 1) := by decide +kernel
theorem dX5_ofShip_9 : decode cX5_ofShip 9 = .ok (.ireturn, 1) := by decide +kernel
theorem dX5_ofShip_10 : decode cX5_ofShip 10 = .ok (.iload_n 2, 1) := by decide +kernel
theorem dX5_ofShip_11 : decode cX5_ofShip 11 = .ok (.tableswitch 105 0 7 #[45, 52, 59, 66, 72, 79, 93, 99], 45) := by decide +kernel
theorem dX5_ofShip_56 : decode cX5_ofShip 56 = .ok (.aload_n 0, 1) := by decide +kernel
theorem dX5_ofShip_57 : decode cX5_ofShip 57 = .ok (.getfield 22, 3) := by decide +kernel
theorem dX5_ofShip_60 : decode cX5_ofShip 60 = .ok (.iload_n 1, 1) := by decide +kernel
theorem dX5_ofShip_61 : decode cX5_ofShip 61 = .ok (.iaload, 1) := by decide +kernel
theorem dX5_ofShip_62 : decode cX5_ofShip 62 = .ok (.ireturn, 1) := by decide +kernel
theorem dX5_ofShip_63 : decode cX5_ofShip 63 = .ok (.aload_n 0, 1) := by decide +kernel
theorem dX5_ofShip_64 : decode cX5_ofShip 64 = .ok (.getfield 25, 3) := by decide +kernel
theorem dX5_ofShip_67 : decode cX5_ofShip 67 = .ok (.iload_n 1, 1) := by decide +kernel
theorem dX5_ofShip_68 : decode cX5_ofShip 68 = .ok (.iaload, 1) := by decide +kernel
theorem dX5_ofShip_69 : decode cX5_ofShip 69 = .ok (.ireturn, 1) := by decide +kernel
theorem dX5_ofShip_70 : decode cX5_ofShip 70 = .ok (.aload_n 0, 1) := by decide +kernel
theorem dX5_ofShip_71 : decode cX5_ofShip 71 = .ok (.getfield 28, 3) := by decide +kernel
theorem dX5_ofShip_74 : decode cX5_ofShip 74 = .ok (.iload_n 1, 1) := by decide +kernel
theorem dX5_ofShip_75 : decode cX5_ofShip 75 = .ok (.iaload, 1) := by decide +kernel
theorem dX5_ofShip_76 : decode cX5_ofShip 76 = .ok (.ireturn, 1) := by decide +kernel
theorem dX5_ofShip_77 : decode cX5_ofShip 77 = .ok (.aload_n 0, 1) := by decide +kernel
theorem dX5_ofShip_78 : decode cX5_ofShip 78 = .ok (.iload_n 1, 1) := by decide +kernel
theorem dX5_ofShip_79 : decode cX5_ofShip 79 = .ok (.invokevirtual 130, 3) := by decide +kernel
theorem dX5_ofShip_82 : decode cX5_ofShip 82 = .ok (.ireturn, 1) := by decide +kernel
theorem dX5_ofShip_83 : decode cX5_ofShip 83 = .ok (.aload_n 0, 1) := by decide +kernel
theorem dX5_ofShip_84 : decode cX5_ofShip 84 = .ok (.getfield 31, 3) := by decide +kernel
theorem dX5_ofShip_87 : decode cX5_ofShip 87 = .ok (.iload_n 1, 1) := by decide +kernel
theorem dX5_ofShip_88 : decode cX5_ofShip 88 = .ok (.iaload, 1) := by decide +kernel
theorem dX5_ofShip_89 : decode cX5_ofShip 89 = .ok (.ireturn, 1) := by decide +kernel
theorem dX5_ofShip_90 : decode cX5_ofShip 90 = .ok (.aload_n 0, 1) := by decide +kernel
theorem dX5_ofShip_91 : decode cX5_ofShip 91 = .ok (.iload_n 1, 1) := by decide +kernel
theorem dX5_ofShip_92 : decode cX5_ofShip 92 = .ok (.invokevirtual 133, 3) := by decide +kernel
theorem dX5_ofShip_95 : decode cX5_ofShip 95 = .ok (.ifCond .eq 7, 3) := by decide +kernel
theorem dX5_ofShip_98 : decode cX5_ofShip 98 = .ok (.iconst 1, 1) := by decide +kernel
theorem dX5_ofShip_99 : decode cX5_ofShip 99 = .ok (.goto 4, 3) := by decide +kernel
theorem dX5_ofShip_102 : decode cX5_ofShip 102 = .ok (.iconst 0, 1) := by decide +kernel
theorem dX5_ofShip_103 : decode cX5_ofShip 103 = .ok (.ireturn, 1) := by decide +kernel
theorem dX5_ofShip_104 : decode cX5_ofShip 104 = .ok (.aload_n 0, 1) := by decide +kernel
theorem dX5_ofShip_105 : decode cX5_ofShip 105 = .ok (.iload_n 1, 1) := by decide +kernel
theorem dX5_ofShip_106 : decode cX5_ofShip 106 = .ok (.invokevirtual 136, 3) := by decide +kernel
theorem dX5_ofShip_109 : decode cX5_ofShip 109 = .ok (.ireturn, 1) := by decide +kernel
theorem dX5_ofShip_110 : decode cX5_ofShip 110 = .ok (.aload_n 0, 1) := by decide +kernel
theorem dX5_ofShip_111 : decode cX5_ofShip 111 = .ok (.iload_n 1, 1) := by decide +kernel
theorem dX5_ofShip_112 : decode cX5_ofShip 112 = .ok (.invokevirtual 139, 3) := by decide +kernel
theorem dX5_ofShip_115 : decode cX5_ofShip 115 = .ok (.ireturn, 1) := by decide +kernel
theorem dX5_ofShip_116 : decode cX5_ofShip 116 = .ok (.iload_n 2, 1) := by decide +kernel
theorem dX5_ofShip_117 : decode cX5_ofShip 117 = .ok (.bipush 10, 2) := by decide +kernel
theorem dX5_ofShip_119 : decode cX5_ofShip 119 = .ok (.bipush 13, 2) := by decide +kernel
theorem dX5_ofShip_121 : decode cX5_ofShip 121 = .ok (.invokestatic 67, 3) := by decide +kernel
theorem dX5_ofShip_124 : decode cX5_ofShip 124 = .ok (.ifCond .eq 19, 3) := by decide +kernel
theorem dX5_ofShip_127 : decode cX5_ofShip 127 = .ok (.aload_n 0, 1) := by decide +kernel
theorem dX5_ofShip_128 : decode cX5_ofShip 128 = .ok (.getfield 34, 3) := by decide +kernel
theorem dX5_ofShip_131 : decode cX5_ofShip 131 = .ok (.iconst 4, 1) := by decide +kernel
theorem dX5_ofShip_132 : decode cX5_ofShip 132 = .ok (.iload_n 1, 1) := by decide +kernel
theorem dX5_ofShip_133 : decode cX5_ofShip 133 = .ok (.imul, 1) := by decide +kernel
theorem dX5_ofShip_134 : decode cX5_ofShip 134 = .ok (.iload_n 2, 1) := by decide +kernel
theorem dX5_ofShip_135 : decode cX5_ofShip 135 = .ok (.iadd, 1) := by decide +kernel
theorem dX5_ofShip_136 : decode cX5_ofShip 136 = .ok (.bipush 10, 2) := by decide +kernel
theorem dX5_ofShip_138 : decode cX5_ofShip 138 = .ok (.isub, 1) := by decide +kernel
theorem dX5_ofShip_139 : decode cX5_ofShip 139 = .ok (.iaload, 1) := by decide +kernel
theorem dX5_ofShip_140 : decode cX5_ofShip 140 = .ok (.goto 5, 3) := by decide +kernel
theorem dX5_ofShip_143 : decode cX5_ofShip 143 = .ok (.bipush (-2), 2) := by decide +kernel
theorem dX5_ofShip_145 : decode cX5_ofShip 145 = .ok (.ireturn, 1) := by decide +kernel
theorem dX5_rough_0 : decode cX5_rough 0 = .ok (.aload_n 0, 1) := by decide +kernel
theorem dX5_rough_1 : decode cX5_rough 1 = .ok (.iload_n 1, 1) := by decide +kernel
theorem dX5_rough_2 : decode cX5_rough 2 = .ok (.invokevirtual 142, 3) := by decide +kernel
theorem dX5_rough_5 : decode cX5_rough 5 = .ok (.ifCond .eq 12, 3) := by decide +kernel
theorem dX5_rough_8 : decode cX5_rough 8 = .ok (.aload_n 0, 1) := by decide +kernel
theorem dX5_rough_9 : decode cX5_rough 9 = .ok (.getfield 19, 3) := by decide +kernel
theorem dX5_rough_12 : decode cX5_rough 12 = .ok (.iload_n 1, 1) := by decide +kernel
theorem dX5_rough_13 : decode cX5_rough 13 = .ok (.iaload, 1) := by decide +kernel
theorem dX5_rough_14 : decode cX5_rough 14 = .ok (.goto 4, 3) := by decide +kernel
theorem dX5_rough_17 : decode cX5_rough 17 = .ok (.iconst (-1), 1) := by decide +kernel
theorem dX5_rough_18 : decode cX5_rough 18 = .ok (.ireturn, 1) := by decide +kernel
theorem dX5_blow_0 : decode cX5_blow 0 = .ok (.aload_n 0, 1) := by decide +kernel
theorem dX5_blow_1 : decode cX5_blow 1 = .ok (.iload_n 1, 1) := by decide +kernel
theorem dX5_blow_2 : decode cX5_blow 2 = .ok (.invokevirtual 142, 3) := by decide +kernel
theorem dX5_blow_5 : decode cX5_blow 5 = .ok (.ifCond .ne 5, 3) := by decide +kernel
theorem dX5_blow_8 : decode cX5_blow 8 = .ok (.iconst (-1), 1) := by decide +kernel
theorem dX5_blow_9 : decode cX5_blow 9 = .ok (.ireturn, 1) := by decide +kernel
theorem dX5_blow_10 : decode cX5_blow 10 = .ok (.iload_n 2, 1) := by decide +kernel
theorem dX5_blow_11 : decode cX5_blow 11 = .ok (.invokestatic 145, 3) := by decide +kernel
theorem dX5_blow_14 : decode cX5_blow 14 = .ok (.ifCond .ne 6, 3) := by decide +kernel
theorem dX5_blow_17 : decode cX5_blow 17 = .ok (.bipush (-2), 2) := by decide +kernel
theorem dX5_blow_19 : decode cX5_blow 19 = .ok (.ireturn, 1) := by decide +kernel
theorem dX5_blow_20 : decode cX5_blow 20 = .ok (.aload_n 0, 1) := by decide +kernel
theorem dX5_blow_21 : decode cX5_blow 21 = .ok (.getfield 19, 3) := by decide +kernel
theorem dX5_blow_24 : decode cX5_blow 24 = .ok (.iload_n 1, 1) := by decide +kernel
theorem dX5_blow_25 : decode cX5_blow 25 = .ok (.iaload, 1) := by decide +kernel
theorem dX5_blow_26 : decode cX5_blow 26 = .ok (.istore_n 3, 1) := by decide +kernel
theorem dX5_blow_27 : decode cX5_blow 27 = .ok (.aload_n 0, 1) := by decide +kernel
theorem dX5_blow_28 : decode cX5_blow 28 = .ok (.getfield 19, 3) := by decide +kernel
theorem dX5_blow_31 : decode cX5_blow 31 = .ok (.iload_n 1, 1) := by decide +kernel
theorem dX5_blow_32 : decode cX5_blow 32 = .ok (.iload_n 2, 1) := by decide +kernel
theorem dX5_blow_33 : decode cX5_blow 33 = .ok (.iastore, 1) := by decide +kernel
theorem dX5_blow_34 : decode cX5_blow 34 = .ok (.iload_n 3, 1) := by decide +kernel
theorem dX5_blow_35 : decode cX5_blow 35 = .ok (.ireturn, 1) := by decide +kernel
theorem dX5_name_0 : decode cX5_name 0 = .ok (.aload_n 0, 1) := by decide +kernel
theorem dX5_name_1 : decode cX5_name 1 = .ok (.iload_n 1, 1) := by decide +kernel
theorem dX5_name_2 : decode cX5_name 2 = .ok (.invokevirtual 127, 3) := by decide +kernel
theorem dX5_name_5 : decode cX5_name 5 = .ok (.ifCond .ne 5, 3) := by decide +kernel
theorem dX5_name_8 : decode cX5_name 8 = .ok (.iconst (-1), 1) := by decide +kernel
theorem dX5_name_9 : decode cX5_name 9 = .ok (.ireturn, 1) := by decide +kernel
theorem dX5_name_10 : decode cX5_name 10 = .ok (.iload_n 2, 1) := by decide +kernel
theorem dX5_name_11 : decode cX5_name 11 = .ok (.invokestatic 148, 3) := by decide +kernel
theorem dX5_name_14 : decode cX5_name 14 = .ok (.ifCond .ne 6, 3) := by decide +kernel
theorem dX5_name_17 : decode cX5_name 17 = .ok (.bipush (-2), 2) := by decide +kernel
theorem dX5_name_19 : decode cX5_name 19 = .ok (.ireturn, 1) := by decide +kernel
theorem dX5_name_20 : decode cX5_name 20 = .ok (.aload_n 0, 1) := by decide +kernel
theorem dX5_name_21 : decode cX5_name 21 = .ok (.getfield 25, 3) := by decide +kernel
theorem dX5_name_24 : decode cX5_name 24 = .ok (.iload_n 1, 1) := by decide +kernel
theorem dX5_name_25 : decode cX5_name 25 = .ok (.iaload, 1) := by decide +kernel
theorem dX5_name_26 : decode cX5_name 26 = .ok (.istore_n 3, 1) := by decide +kernel
theorem dX5_name_27 : decode cX5_name 27 = .ok (.aload_n 0, 1) := by decide +kernel
theorem dX5_name_28 : decode cX5_name 28 = .ok (.getfield 25, 3) := by decide +kernel
theorem dX5_name_31 : decode cX5_name 31 = .ok (.iload_n 1, 1) := by decide +kernel
theorem dX5_name_32 : decode cX5_name 32 = .ok (.iload_n 2, 1) := by decide +kernel
theorem dX5_name_33 : decode cX5_name 33 = .ok (.iastore, 1) := by decide +kernel
theorem dX5_name_34 : decode cX5_name 34 = .ok (.iload_n 3, 1) := by decide +kernel
theorem dX5_name_35 : decode cX5_name 35 = .ok (.ireturn, 1) := by decide +kernel
theorem dX5_wouldLose_0 : decode cX5_wouldLose 0 = .ok (.aload_n 0, 1) := by decide +kernel
theorem dX5_wouldLose_1 : decode cX5_wouldLose 1 = .ok (.iload_n 1, 1) := by decide +kernel
theorem dX5_wouldLose_2 : decode cX5_wouldLose 2 = .ok (.invokevirtual 133, 3) := by decide +kernel
theorem dX5_wouldLose_5 : decode cX5_wouldLose 5 = .ok (.ifCond .ne 10, 3) := by decide +kernel
theorem dX5_wouldLose_8 : decode cX5_wouldLose 8 = .ok (.aload_n 0, 1) := by decide +kernel
theorem dX5_wouldLose_9 : decode cX5_wouldLose 9 = .ok (.getfield 25, 3) := by decide +kernel
theorem dX5_wouldLose_12 : decode cX5_wouldLose 12 = .ok (.iload_n 1, 1) := by decide +kernel
theorem dX5_wouldLose_13 : decode cX5_wouldLose 13 = .ok (.iaload, 1) := by decide +kernel
theorem dX5_wouldLose_14 : decode cX5_wouldLose 14 = .ok (.ireturn, 1) := by decide +kernel
theorem dX5_wouldLose_15 : decode cX5_wouldLose 15 = .ok (.iconst 0, 1) := by decide +kernel
theorem dX5_wouldLose_16 : decode cX5_wouldLose 16 = .ok (.istore_n 2, 1) := by decide +kernel
theorem dX5_wouldLose_17 : decode cX5_wouldLose 17 = .ok (.iload_n 2, 1) := by decide +kernel
theorem dX5_wouldLose_18 : decode cX5_wouldLose 18 = .ok (.iconst 4, 1) := by decide +kernel
theorem dX5_wouldLose_19 : decode cX5_wouldLose 19 = .ok (.if_icmp .ge 24, 3) := by decide +kernel
theorem dX5_wouldLose_22 : decode cX5_wouldLose 22 = .ok (.aload_n 0, 1) := by decide +kernel
theorem dX5_wouldLose_23 : decode cX5_wouldLose 23 = .ok (.getfield 34, 3) := by decide +kernel
theorem dX5_wouldLose_26 : decode cX5_wouldLose 26 = .ok (.iconst 4, 1) := by decide +kernel
theorem dX5_wouldLose_27 : decode cX5_wouldLose 27 = .ok (.iload_n 1, 1) := by decide +kernel
theorem dX5_wouldLose_28 : decode cX5_wouldLose 28 = .ok (.imul, 1) := by decide +kernel
theorem dX5_wouldLose_29 : decode cX5_wouldLose 29 = .ok (.iload_n 2, 1) := by decide +kernel
theorem dX5_wouldLose_30 : decode cX5_wouldLose 30 = .ok (.iadd, 1) := by decide +kernel
theorem dX5_wouldLose_31 : decode cX5_wouldLose 31 = .ok (.iaload, 1) := by decide +kernel
theorem dX5_wouldLose_32 : decode cX5_wouldLose 32 = .ok (.ifCond .le 5, 3) := by decide +kernel
theorem dX5_wouldLose_35 : decode cX5_wouldLose 35 = .ok (.iload_n 2, 1) := by decide +kernel
theorem dX5_wouldLose_36 : decode cX5_wouldLose 36 = .ok (.ireturn, 1) := by decide +kernel
theorem dX5_wouldLose_37 : decode cX5_wouldLose 37 = .ok (.iinc 2 1, 3) := by decide +kernel
theorem dX5_wouldLose_40 : decode cX5_wouldLose 40 = .ok (.goto (-23), 3) := by decide +kernel
theorem dX5_wouldLose_43 : decode cX5_wouldLose 43 = .ok (.bipush (-9), 2) := by decide +kernel
theorem dX5_wouldLose_45 : decode cX5_wouldLose 45 = .ok (.ireturn, 1) := by decide +kernel
theorem dX5_goesOn_0 : decode cX5_goesOn 0 = .ok (.aload_n 0, 1) := by decide +kernel
theorem dX5_goesOn_1 : decode cX5_goesOn 1 = .ok (.getfield 19, 3) := by decide +kernel
theorem dX5_goesOn_4 : decode cX5_goesOn 4 = .ok (.aload_n 0, 1) := by decide +kernel
theorem dX5_goesOn_5 : decode cX5_goesOn 5 = .ok (.getfield 31, 3) := by decide +kernel
theorem dX5_goesOn_8 : decode cX5_goesOn 8 = .ok (.iload_n 1, 1) := by decide +kernel
theorem dX5_goesOn_9 : decode cX5_goesOn 9 = .ok (.iaload, 1) := by decide +kernel
theorem dX5_goesOn_10 : decode cX5_goesOn 10 = .ok (.iaload, 1) := by decide +kernel
theorem dX5_goesOn_11 : decode cX5_goesOn 11 = .ok (.aload_n 0, 1) := by decide +kernel
theorem dX5_goesOn_12 : decode cX5_goesOn 12 = .ok (.iload_n 1, 1) := by decide +kernel
theorem dX5_goesOn_13 : decode cX5_goesOn 13 = .ok (.invokevirtual 130, 3) := by decide +kernel
theorem dX5_goesOn_16 : decode cX5_goesOn 16 = .ok (.if_icmp .le 11, 3) := by decide +kernel
theorem dX5_goesOn_19 : decode cX5_goesOn 19 = .ok (.aload_n 0, 1) := by decide +kernel
theorem dX5_goesOn_20 : decode cX5_goesOn 20 = .ok (.iload_n 1, 1) := by decide +kernel
theorem dX5_goesOn_21 : decode cX5_goesOn 21 = .ok (.invokevirtual 151, 3) := by decide +kernel
theorem dX5_goesOn_24 : decode cX5_goesOn 24 = .ok (.goto 5, 3) := by decide +kernel
theorem dX5_goesOn_27 : decode cX5_goesOn 27 = .ok (.bipush (-9), 2) := by decide +kernel
theorem dX5_goesOn_29 : decode cX5_goesOn 29 = .ok (.istore_n 2, 1) := by decide +kernel
theorem dX5_goesOn_30 : decode cX5_goesOn 30 = .ok (.iload_n 2, 1) := by decide +kernel
theorem dX5_goesOn_31 : decode cX5_goesOn 31 = .ok (.bipush (-9), 2) := by decide +kernel
theorem dX5_goesOn_33 : decode cX5_goesOn 33 = .ok (.if_icmp .eq 17, 3) := by decide +kernel
theorem dX5_goesOn_36 : decode cX5_goesOn 36 = .ok (.aload_n 0, 1) := by decide +kernel
theorem dX5_goesOn_37 : decode cX5_goesOn 37 = .ok (.getfield 34, 3) := by decide +kernel
theorem dX5_goesOn_40 : decode cX5_goesOn 40 = .ok (.iconst 4, 1) := by decide +kernel
theorem dX5_goesOn_41 : decode cX5_goesOn 41 = .ok (.iload_n 1, 1) := by decide +kernel
theorem dX5_goesOn_42 : decode cX5_goesOn 42 = .ok (.imul, 1) := by decide +kernel
theorem dX5_goesOn_43 : decode cX5_goesOn 43 = .ok (.iload_n 2, 1) := by decide +kernel
theorem dX5_goesOn_44 : decode cX5_goesOn 44 = .ok (.iadd, 1) := by decide +kernel
theorem dX5_goesOn_45 : decode cX5_goesOn 45 = .ok (.dup2, 1) := by decide +kernel
theorem dX5_goesOn_46 : decode cX5_goesOn 46 = .ok (.iaload, 1) := by decide +kernel
theorem dX5_goesOn_47 : decode cX5_goesOn 47 = .ok (.iconst 1, 1) := by decide +kernel
theorem dX5_goesOn_48 : decode cX5_goesOn 48 = .ok (.isub, 1) := by decide +kernel
theorem dX5_goesOn_49 : decode cX5_goesOn 49 = .ok (.iastore, 1) := by decide +kernel
theorem dX5_goesOn_50 : decode cX5_goesOn 50 = .ok (.aload_n 0, 1) := by decide +kernel
theorem dX5_goesOn_51 : decode cX5_goesOn 51 = .ok (.getfield 31, 3) := by decide +kernel
theorem dX5_goesOn_54 : decode cX5_goesOn 54 = .ok (.iload_n 1, 1) := by decide +kernel
theorem dX5_goesOn_55 : decode cX5_goesOn 55 = .ok (.aload_n 0, 1) := by decide +kernel
theorem dX5_goesOn_56 : decode cX5_goesOn 56 = .ok (.getfield 31, 3) := by decide +kernel
theorem dX5_goesOn_59 : decode cX5_goesOn 59 = .ok (.iload_n 1, 1) := by decide +kernel
theorem dX5_goesOn_60 : decode cX5_goesOn 60 = .ok (.iaload, 1) := by decide +kernel
theorem dX5_goesOn_61 : decode cX5_goesOn 61 = .ok (.iconst 1, 1) := by decide +kernel
theorem dX5_goesOn_62 : decode cX5_goesOn 62 = .ok (.iadd, 1) := by decide +kernel
theorem dX5_goesOn_63 : decode cX5_goesOn 63 = .ok (.aload_n 0, 1) := by decide +kernel
theorem dX5_goesOn_64 : decode cX5_goesOn 64 = .ok (.getfield 74, 3) := by decide +kernel
theorem dX5_goesOn_67 : decode cX5_goesOn 67 = .ok (.if_icmp .ne 7, 3) := by decide +kernel
theorem dX5_goesOn_70 : decode cX5_goesOn 70 = .ok (.iconst 0, 1) := by decide +kernel
theorem dX5_goesOn_71 : decode cX5_goesOn 71 = .ok (.goto 11, 3) := by decide +kernel
theorem dX5_goesOn_74 : decode cX5_goesOn 74 = .ok (.aload_n 0, 1) := by decide +kernel
theorem dX5_goesOn_75 : decode cX5_goesOn 75 = .ok (.getfield 31, 3) := by decide +kernel
theorem dX5_goesOn_78 : decode cX5_goesOn 78 = .ok (.iload_n 1, 1) := by decide +kernel
theorem dX5_goesOn_79 : decode cX5_goesOn 79 = .ok (.iaload, 1) := by decide +kernel
theorem dX5_goesOn_80 : decode cX5_goesOn 80 = .ok (.iconst 1, 1) := by decide +kernel
theorem dX5_goesOn_81 : decode cX5_goesOn 81 = .ok (.iadd, 1) := by decide +kernel
theorem dX5_goesOn_82 : decode cX5_goesOn 82 = .ok (.iastore, 1) := by decide +kernel
theorem dX5_goesOn_83 : decode cX5_goesOn 83 = .ok (.iload_n 2, 1) := by decide +kernel
theorem dX5_goesOn_84 : decode cX5_goesOn 84 = .ok (.ireturn, 1) := by decide +kernel
