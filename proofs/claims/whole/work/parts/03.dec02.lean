theorem dX4_firstFault_0 : decode cX4_firstFault 0 = .ok (.iload_n 2, 1) := by decide +kernel
theorem dX4_firstFault_1 : decode cX4_firstFault 1 = .ok (.iconst 1, 1) := by decide +kernel
theorem dX4_firstFault_2 : decode cX4_firstFault 2 = .ok (.if_icmp .lt 13, 3) := by decide +kernel
theorem dX4_firstFault_5 : decode cX4_firstFault 5 = .ok (.aload_n 0, 1) := by decide +kernel
theorem dX4_firstFault_6 : decode cX4_firstFault 6 = .ok (.iload_n 1, 1) := by decide +kernel
theorem dX4_firstFault_7 : decode cX4_firstFault 7 = .ok (.invokevirtual 267, 3) := by decide +kernel
theorem dX4_firstFault_10 : decode cX4_firstFault 10 = .ok (.bipush 121, 2) := by decide +kernel
theorem dX4_firstFault_12 : decode cX4_firstFault 12 = .ok (.if_icmp .eq 5, 3) := by decide +kernel
theorem dX4_firstFault_15 : decode cX4_firstFault 15 = .ok (.iconst 0, 1) := by decide +kernel
theorem dX4_firstFault_16 : decode cX4_firstFault 16 = .ok (.ireturn, 1) := by decide +kernel
theorem dX4_firstFault_17 : decode cX4_firstFault 17 = .ok (.aload_n 0, 1) := by decide +kernel
theorem dX4_firstFault_18 : decode cX4_firstFault 18 = .ok (.iload_n 1, 1) := by decide +kernel
theorem dX4_firstFault_19 : decode cX4_firstFault 19 = .ok (.iload_n 2, 1) := by decide +kernel
theorem dX4_firstFault_20 : decode cX4_firstFault 20 = .ok (.invokestatic 270, 3) := by decide +kernel
theorem dX4_firstFault_23 : decode cX4_firstFault 23 = .ok (.istore_n 3, 1) := by decide +kernel
theorem dX4_firstFault_24 : decode cX4_firstFault 24 = .ok (.iconst 1, 1) := by decide +kernel
theorem dX4_firstFault_25 : decode cX4_firstFault 25 = .ok (.iload_n 3, 1) := by decide +kernel
theorem dX4_firstFault_26 : decode cX4_firstFault 26 = .ok (.iadd, 1) := by decide +kernel
theorem dX4_firstFault_27 : decode cX4_firstFault 27 = .ok (.istore 4, 2) := by decide +kernel
theorem dX4_firstFault_29 : decode cX4_firstFault 29 = .ok (.iload_n 3, 1) := by decide +kernel
theorem dX4_firstFault_30 : decode cX4_firstFault 30 = .ok (.iconst 2, 1) := by decide +kernel
theorem dX4_firstFault_31 : decode cX4_firstFault 31 = .ok (.if_icmp .ge 6, 3) := by decide +kernel
theorem dX4_firstFault_34 : decode cX4_firstFault 34 = .ok (.iload 4, 2) := by decide +kernel
theorem dX4_firstFault_36 : decode cX4_firstFault 36 = .ok (.ireturn, 1) := by decide +kernel
theorem dX4_firstFault_37 : decode cX4_firstFault 37 = .ok (.iconst 0, 1) := by decide +kernel
theorem dX4_firstFault_38 : decode cX4_firstFault 38 = .ok (.istore 5, 2) := by decide +kernel
theorem dX4_firstFault_40 : decode cX4_firstFault 40 = .ok (.iload 5, 2) := by decide +kernel
theorem dX4_firstFault_42 : decode cX4_firstFault 42 = .ok (.iconst 5, 1) := by decide +kernel
theorem dX4_firstFault_43 : decode cX4_firstFault 43 = .ok (.if_icmp .ge 55, 3) := by decide +kernel
theorem dX4_firstFault_46 : decode cX4_firstFault 46 = .ok (.iload 4, 2) := by decide +kernel
theorem dX4_firstFault_48 : decode cX4_firstFault 48 = .ok (.iload_n 2, 1) := by decide +kernel
theorem dX4_firstFault_49 : decode cX4_firstFault 49 = .ok (.if_icmp .ne 11, 3) := by decide +kernel
theorem dX4_firstFault_52 : decode cX4_firstFault 52 = .ok (.iload 5, 2) := by decide +kernel
theorem dX4_firstFault_54 : decode cX4_firstFault 54 = .ok (.ifCond .le 6, 3) := by decide +kernel
theorem dX4_firstFault_57 : decode cX4_firstFault 57 = .ok (.bipush (-9), 2) := by decide +kernel
theorem dX4_firstFault_59 : decode cX4_firstFault 59 = .ok (.ireturn, 1) := by decide +kernel
theorem dX4_firstFault_60 : decode cX4_firstFault 60 = .ok (.aload_n 0, 1) := by decide +kernel
theorem dX4_firstFault_61 : decode cX4_firstFault 61 = .ok (.iload_n 1, 1) := by decide +kernel
theorem dX4_firstFault_62 : decode cX4_firstFault 62 = .ok (.iload 4, 2) := by decide +kernel
theorem dX4_firstFault_64 : decode cX4_firstFault 64 = .ok (.iadd, 1) := by decide +kernel
theorem dX4_firstFault_65 : decode cX4_firstFault 65 = .ok (.iload_n 2, 1) := by decide +kernel
theorem dX4_firstFault_66 : decode cX4_firstFault 66 = .ok (.iload 4, 2) := by decide +kernel
theorem dX4_firstFault_68 : decode cX4_firstFault 68 = .ok (.isub, 1) := by decide +kernel
theorem dX4_firstFault_69 : decode cX4_firstFault 69 = .ok (.iload_n 3, 1) := by decide +kernel
theorem dX4_firstFault_70 : decode cX4_firstFault 70 = .ok (.invokestatic 273, 3) := by decide +kernel
theorem dX4_firstFault_73 : decode cX4_firstFault 73 = .ok (.istore 6, 2) := by decide +kernel
theorem dX4_firstFault_75 : decode cX4_firstFault 75 = .ok (.iload 4, 2) := by decide +kernel
theorem dX4_firstFault_77 : decode cX4_firstFault 77 = .ok (.iload 6, 2) := by decide +kernel
theorem dX4_firstFault_79 : decode cX4_firstFault 79 = .ok (.iadd, 1) := by decide +kernel
theorem dX4_firstFault_80 : decode cX4_firstFault 80 = .ok (.istore 4, 2) := by decide +kernel
theorem dX4_firstFault_82 : decode cX4_firstFault 82 = .ok (.iload 6, 2) := by decide +kernel
theorem dX4_firstFault_84 : decode cX4_firstFault 84 = .ok (.bipush 9, 2) := by decide +kernel
theorem dX4_firstFault_86 : decode cX4_firstFault 86 = .ok (.if_icmp .ge 6, 3) := by decide +kernel
theorem dX4_firstFault_89 : decode cX4_firstFault 89 = .ok (.iload 4, 2) := by decide +kernel
theorem dX4_firstFault_91 : decode cX4_firstFault 91 = .ok (.ireturn, 1) := by decide +kernel
theorem dX4_firstFault_92 : decode cX4_firstFault 92 = .ok (.iinc 5 1, 3) := by decide +kernel
theorem dX4_firstFault_95 : decode cX4_firstFault 95 = .ok (.goto (-55), 3) := by decide +kernel
theorem dX4_firstFault_98 : decode cX4_firstFault 98 = .ok (.iload 4, 2) := by decide +kernel
theorem dX4_firstFault_100 : decode cX4_firstFault 100 = .ok (.iload_n 2, 1) := by decide +kernel
theorem dX4_firstFault_101 : decode cX4_firstFault 101 = .ok (.if_icmp .ne 8, 3) := by decide +kernel
theorem dX4_firstFault_104 : decode cX4_firstFault 104 = .ok (.bipush (-9), 2) := by decide +kernel
theorem dX4_firstFault_106 : decode cX4_firstFault 106 = .ok (.goto 5, 3) := by decide +kernel
theorem dX4_firstFault_109 : decode cX4_firstFault 109 = .ok (.iload 4, 2) := by decide +kernel
theorem dX4_firstFault_111 : decode cX4_firstFault 111 = .ok (.ireturn, 1) := by decide +kernel
theorem dX4_countPorts_0 : decode cX4_countPorts 0 = .ok (.iconst 0, 1) := by decide +kernel
theorem dX4_countPorts_1 : decode cX4_countPorts 1 = .ok (.istore_n 3, 1) := by decide +kernel
theorem dX4_countPorts_2 : decode cX4_countPorts 2 = .ok (.iload_n 3, 1) := by decide +kernel
theorem dX4_countPorts_3 : decode cX4_countPorts 3 = .ok (.bipush 6, 2) := by decide +kernel
theorem dX4_countPorts_5 : decode cX4_countPorts 5 = .ok (.if_icmp .ge 33, 3) := by decide +kernel
theorem dX4_countPorts_8 : decode cX4_countPorts 8 = .ok (.iconst 1, 1) := by decide +kernel
theorem dX4_countPorts_9 : decode cX4_countPorts 9 = .ok (.iload_n 3, 1) := by decide +kernel
theorem dX4_countPorts_10 : decode cX4_countPorts 10 = .ok (.iadd, 1) := by decide +kernel
theorem dX4_countPorts_11 : decode cX4_countPorts 11 = .ok (.iload_n 2, 1) := by decide +kernel
theorem dX4_countPorts_12 : decode cX4_countPorts 12 = .ok (.if_icmp .ge 26, 3) := by decide +kernel
theorem dX4_countPorts_15 : decode cX4_countPorts 15 = .ok (.aload_n 0, 1) := by decide +kernel
theorem dX4_countPorts_16 : decode cX4_countPorts 16 = .ok (.iload_n 1, 1) := by decide +kernel
theorem dX4_countPorts_17 : decode cX4_countPorts 17 = .ok (.iconst 1, 1) := by decide +kernel
theorem dX4_countPorts_18 : decode cX4_countPorts 18 = .ok (.iadd, 1) := by decide +kernel
theorem dX4_countPorts_19 : decode cX4_countPorts 19 = .ok (.iload_n 3, 1) := by decide +kernel
theorem dX4_countPorts_20 : decode cX4_countPorts 20 = .ok (.iadd, 1) := by decide +kernel
theorem dX4_countPorts_21 : decode cX4_countPorts 21 = .ok (.invokevirtual 267, 3) := by decide +kernel
theorem dX4_countPorts_24 : decode cX4_countPorts 24 = .ok (.bipush 10, 2) := by decide +kernel
theorem dX4_countPorts_26 : decode cX4_countPorts 26 = .ok (.invokestatic 277, 3) := by decide +kernel
theorem dX4_countPorts_29 : decode cX4_countPorts 29 = .ok (.ifCond .eq 9, 3) := by decide +kernel
theorem dX4_countPorts_32 : decode cX4_countPorts 32 = .ok (.iinc 3 1, 3) := by decide +kernel
theorem dX4_countPorts_35 : decode cX4_countPorts 35 = .ok (.goto (-33), 3) := by decide +kernel
theorem dX4_countPorts_38 : decode cX4_countPorts 38 = .ok (.iload_n 3, 1) := by decide +kernel
theorem dX4_countPorts_39 : decode cX4_countPorts 39 = .ok (.ireturn, 1) := by decide +kernel
theorem dX4_countShipCodes_0 : decode cX4_countShipCodes 0 = .ok (.iconst 0, 1) := by decide +kernel
theorem dX4_countShipCodes_1 : decode cX4_countShipCodes 1 = .ok (.istore 4, 2) := by decide +kernel
theorem dX4_countShipCodes_3 : decode cX4_countShipCodes 3 = .ok (.iload 4, 2) := by decide +kernel
theorem dX4_countShipCodes_5 : decode cX4_countShipCodes 5 = .ok (.bipush 9, 2) := by decide +kernel
theorem dX4_countShipCodes_7 : decode cX4_countShipCodes 7 = .ok (.if_icmp .ge 32, 3) := by decide +kernel
theorem dX4_countShipCodes_10 : decode cX4_countShipCodes 10 = .ok (.iload 4, 2) := by decide +kernel
theorem dX4_countShipCodes_12 : decode cX4_countShipCodes 12 = .ok (.iload_n 2, 1) := by decide +kernel
theorem dX4_countShipCodes_13 : decode cX4_countShipCodes 13 = .ok (.if_icmp .ge 26, 3) := by decide +kernel
theorem dX4_countShipCodes_16 : decode cX4_countShipCodes 16 = .ok (.iload 4, 2) := by decide +kernel
theorem dX4_countShipCodes_18 : decode cX4_countShipCodes 18 = .ok (.aload_n 0, 1) := by decide +kernel
theorem dX4_countShipCodes_19 : decode cX4_countShipCodes 19 = .ok (.iload_n 1, 1) := by decide +kernel
theorem dX4_countShipCodes_20 : decode cX4_countShipCodes 20 = .ok (.iload 4, 2) := by decide +kernel
theorem dX4_countShipCodes_22 : decode cX4_countShipCodes 22 = .ok (.iadd, 1) := by decide +kernel
theorem dX4_countShipCodes_23 : decode cX4_countShipCodes 23 = .ok (.invokevirtual 267, 3) := by decide +kernel
theorem dX4_countShipCodes_26 : decode cX4_countShipCodes 26 = .ok (.iload_n 3, 1) := by decide +kernel
theorem dX4_countShipCodes_27 : decode cX4_countShipCodes 27 = .ok (.invokestatic 280, 3) := by decide +kernel
theorem dX4_countShipCodes_30 : decode cX4_countShipCodes 30 = .ok (.ifCond .eq 9, 3) := by decide +kernel
theorem dX4_countShipCodes_33 : decode cX4_countShipCodes 33 = .ok (.iinc 4 1, 3) := by decide +kernel
theorem dX4_countShipCodes_36 : decode cX4_countShipCodes 36 = .ok (.goto (-33), 3) := by decide +kernel
theorem dX4_countShipCodes_39 : decode cX4_countShipCodes 39 = .ok (.iload 4, 2) := by decide +kernel
theorem dX4_countShipCodes_41 : decode cX4_countShipCodes 41 = .ok (.ireturn, 1) := by decide +kernel
theorem dX4_isShipCode_0 : decode cX4_isShipCode 0 = .ok (.iload_n 0, 1) := by decide +kernel
theorem dX4_isShipCode_1 : decode cX4_isShipCode 1 = .ok (.tableswitch 74 0 4 #[35, 47, 62, 74, 68], 35) := by decide +kernel
theorem dX4_isShipCode_36 : decode cX4_isShipCode 36 = .ok (.iload_n 1, 1) := by decide +kernel
theorem dX4_isShipCode_37 : decode cX4_isShipCode 37 = .ok (.bipush 59, 2) := by decide +kernel
theorem dX4_isShipCode_39 : decode cX4_isShipCode 39 = .ok (.if_icmp .ne 7, 3) := by decide +kernel
theorem dX4_isShipCode_42 : decode cX4_isShipCode 42 = .ok (.iconst 1, 1) := by decide +kernel
theorem dX4_isShipCode_43 : decode cX4_isShipCode 43 = .ok (.goto 4, 3) := by decide +kernel
theorem dX4_isShipCode_46 : decode cX4_isShipCode 46 = .ok (.iconst 0, 1) := by decide +kernel
theorem dX4_isShipCode_47 : decode cX4_isShipCode 47 = .ok (.ireturn, 1) := by decide +kernel
theorem dX4_isShipCode_48 : decode cX4_isShipCode 48 = .ok (.iload_n 1, 1) := by decide +kernel
theorem dX4_isShipCode_49 : decode cX4_isShipCode 49 = .ok (.invokestatic 284, 3) := by decide +kernel
theorem dX4_isShipCode_52 : decode cX4_isShipCode 52 = .ok (.bipush (-9), 2) := by decide +kernel
theorem dX4_isShipCode_54 : decode cX4_isShipCode 54 = .ok (.if_icmp .eq 7, 3) := by decide +kernel
theorem dX4_isShipCode_57 : decode cX4_isShipCode 57 = .ok (.iconst 1, 1) := by decide +kernel
theorem dX4_isShipCode_58 : decode cX4_isShipCode 58 = .ok (.goto 4, 3) := by decide +kernel
theorem dX4_isShipCode_61 : decode cX4_isShipCode 61 = .ok (.iconst 0, 1) := by decide +kernel
theorem dX4_isShipCode_62 : decode cX4_isShipCode 62 = .ok (.ireturn, 1) := by decide +kernel
theorem dX4_isShipCode_63 : decode cX4_isShipCode 63 = .ok (.iload_n 1, 1) := by decide +kernel
theorem dX4_isShipCode_64 : decode cX4_isShipCode 64 = .ok (.iconst 4, 1) := by decide +kernel
theorem dX4_isShipCode_65 : decode cX4_isShipCode 65 = .ok (.invokestatic 277, 3) := by decide +kernel
theorem dX4_isShipCode_68 : decode cX4_isShipCode 68 = .ok (.ireturn, 1) := by decide +kernel
theorem dX4_isShipCode_69 : decode cX4_isShipCode 69 = .ok (.iload_n 1, 1) := by decide +kernel
theorem dX4_isShipCode_70 : decode cX4_isShipCode 70 = .ok (.iload_n 2, 1) := by decide +kernel
theorem dX4_isShipCode_71 : decode cX4_isShipCode 71 = .ok (.invokestatic 277, 3) := by decide +kernel
theorem dX4_isShipCode_74 : decode cX4_isShipCode 74 = .ok (.ireturn, 1) := by decide +kernel
theorem dX4_isShipCode_75 : decode cX4_isShipCode 75 = .ok (.iload_n 1, 1) := by decide +kernel
theorem dX4_isShipCode_76 : decode cX4_isShipCode 76 = .ok (.bipush 10, 2) := by decide +kernel
theorem dX4_isShipCode_78 : decode cX4_isShipCode 78 = .ok (.invokestatic 277, 3) := by decide +kernel
theorem dX4_isShipCode_81 : decode cX4_isShipCode 81 = .ok (.ireturn, 1) := by decide +kernel
theorem dX4_isDigit_0 : decode cX4_isDigit 0 = .ok (.iload_n 0, 1) := by decide +kernel
theorem dX4_isDigit_1 : decode cX4_isDigit 1 = .ok (.bipush 48, 2) := by decide +kernel
theorem dX4_isDigit_3 : decode cX4_isDigit 3 = .ok (.if_icmp .lt 15, 3) := by decide +kernel
theorem dX4_isDigit_6 : decode cX4_isDigit 6 = .ok (.iload_n 0, 1) := by decide +kernel
theorem dX4_isDigit_7 : decode cX4_isDigit 7 = .ok (.bipush 48, 2) := by decide +kernel
theorem dX4_isDigit_9 : decode cX4_isDigit 9 = .ok (.iload_n 1, 1) := by decide +kernel
theorem dX4_isDigit_10 : decode cX4_isDigit 10 = .ok (.iadd, 1) := by decide +kernel
theorem dX4_isDigit_11 : decode cX4_isDigit 11 = .ok (.if_icmp .ge 7, 3) := by decide +kernel
theorem dX4_isDigit_14 : decode cX4_isDigit 14 = .ok (.iconst 1, 1) := by decide +kernel
theorem dX4_isDigit_15 : decode cX4_isDigit 15 = .ok (.goto 4, 3) := by decide +kernel
theorem dX4_isDigit_18 : decode cX4_isDigit 18 = .ok (.iconst 0, 1) := by decide +kernel
theorem dX4_isDigit_19 : decode cX4_isDigit 19 = .ok (.ireturn, 1) := by decide +kernel
theorem dX4_kindByCode_0 : decode cX4_kindByCode 0 = .ok (.iload_n 0, 1) := by decide +kernel
theorem dX4_kindByCode_1 : decode cX4_kindByCode 1 = .ok (.lookupswitch 41 #[(98, 35), (99, 37), (115, 39)], 35) := by decide +kernel
theorem dX4_kindByCode_36 : decode cX4_kindByCode 36 = .ok (.iconst 0, 1) := by decide +kernel
theorem dX4_kindByCode_37 : decode cX4_kindByCode 37 = .ok (.ireturn, 1) := by decide +kernel
theorem dX4_kindByCode_38 : decode cX4_kindByCode 38 = .ok (.iconst 1, 1) := by decide +kernel
theorem dX4_kindByCode_39 : decode cX4_kindByCode 39 = .ok (.ireturn, 1) := by decide +kernel
theorem dX4_kindByCode_40 : decode cX4_kindByCode 40 = .ok (.iconst 2, 1) := by decide +kernel
theorem dX4_kindByCode_41 : decode cX4_kindByCode 41 = .ok (.ireturn, 1) := by decide +kernel
theorem dX4_kindByCode_42 : decode cX4_kindByCode 42 = .ok (.bipush (-9), 2) := by decide +kernel
theorem dX4_kindByCode_44 : decode cX4_kindByCode 44 = .ok (.ireturn, 1) := by decide +kernel
theorem dX4_takeText_0 : decode cX4_takeText 0 = .ok (.aload_n 0, 1) := by decide +kernel
theorem dX4_takeText_1 : decode cX4_takeText 1 = .ok (.aload_n 1, 1) := by decide +kernel
theorem dX4_takeText_2 : decode cX4_takeText 2 = .ok (.iload_n 2, 1) := by decide +kernel
theorem dX4_takeText_3 : decode cX4_takeText 3 = .ok (.iload_n 3, 1) := by decide +kernel
theorem dX4_takeText_4 : decode cX4_takeText 4 = .ok (.invokestatic 270, 3) := by decide +kernel
theorem dX4_takeText_7 : decode cX4_takeText 7 = .ok (.putfield 162, 3) := by decide +kernel
theorem dX4_takeText_10 : decode cX4_takeText 10 = .ok (.iconst 0, 1) := by decide +kernel
theorem dX4_takeText_11 : decode cX4_takeText 11 = .ok (.istore 4, 2) := by decide +kernel
theorem dX4_takeText_13 : decode cX4_takeText 13 = .ok (.iload 4, 2) := by decide +kernel
theorem dX4_takeText_15 : decode cX4_takeText 15 = .ok (.aload_n 0, 1) := by decide +kernel
theorem dX4_takeText_16 : decode cX4_takeText 16 = .ok (.getfield 162, 3) := by decide +kernel
theorem dX4_takeText_19 : decode cX4_takeText 19 = .ok (.if_icmp .ge 26, 3) := by decide +kernel
theorem dX4_takeText_22 : decode cX4_takeText 22 = .ok (.aload_n 0, 1) := by decide +kernel
theorem dX4_takeText_23 : decode cX4_takeText 23 = .ok (.getfield 11, 3) := by decide +kernel
theorem dX4_takeText_26 : decode cX4_takeText 26 = .ok (.iload 4, 2) := by decide +kernel
theorem dX4_takeText_28 : decode cX4_takeText 28 = .ok (.aload_n 1, 1) := by decide +kernel
theorem dX4_takeText_29 : decode cX4_takeText 29 = .ok (.iload_n 2, 1) := by decide +kernel
theorem dX4_takeText_30 : decode cX4_takeText 30 = .ok (.iconst 1, 1) := by decide +kernel
theorem dX4_takeText_31 : decode cX4_takeText 31 = .ok (.iadd, 1) := by decide +kernel
theorem dX4_takeText_32 : decode cX4_takeText 32 = .ok (.iload 4, 2) := by decide +kernel
theorem dX4_takeText_34 : decode cX4_takeText 34 = .ok (.iadd, 1) := by decide +kernel
theorem dX4_takeText_35 : decode cX4_takeText 35 = .ok (.invokevirtual 287, 3) := by decide +kernel
theorem dX4_takeText_38 : decode cX4_takeText 38 = .ok (.iastore, 1) := by decide +kernel
theorem dX4_takeText_39 : decode cX4_takeText 39 = .ok (.iinc 4 1, 3) := by decide +kernel
theorem dX4_takeText_42 : decode cX4_takeText 42 = .ok (.goto (-29), 3) := by decide +kernel
theorem dX4_takeText_45 : decode cX4_takeText 45 = .ok (.iconst 1, 1) := by decide +kernel
theorem dX4_takeText_46 : decode cX4_takeText 46 = .ok (.aload_n 0, 1) := by decide +kernel
theorem dX4_takeText_47 : decode cX4_takeText 47 = .ok (.getfield 162, 3) := by decide +kernel
theorem dX4_takeText_50 : decode cX4_takeText 50 = .ok (.iadd, 1) := by decide +kernel
theorem dX4_takeText_51 : decode cX4_takeText 51 = .ok (.istore 4, 2) := by decide +kernel
theorem dX4_takeText_53 : decode cX4_takeText 53 = .ok (.aload_n 0, 1) := by decide +kernel
theorem dX4_takeText_54 : decode cX4_takeText 54 = .ok (.iconst 0, 1) := by decide +kernel
theorem dX4_takeText_55 : decode cX4_takeText 55 = .ok (.putfield 86, 3) := by decide +kernel
theorem dX4_takeText_58 : decode cX4_takeText 58 = .ok (.aload_n 0, 1) := by decide +kernel
theorem dX4_takeText_59 : decode cX4_takeText 59 = .ok (.getfield 86, 3) := by decide +kernel
theorem dX4_takeText_62 : decode cX4_takeText 62 = .ok (.iconst 5, 1) := by decide +kernel
theorem dX4_takeText_63 : decode cX4_takeText 63 = .ok (.if_icmp .ge 42, 3) := by decide +kernel
theorem dX4_takeText_66 : decode cX4_takeText 66 = .ok (.iload 4, 2) := by decide +kernel
theorem dX4_takeText_68 : decode cX4_takeText 68 = .ok (.iload_n 3, 1) := by decide +kernel
theorem dX4_takeText_69 : decode cX4_takeText 69 = .ok (.if_icmp .ge 36, 3) := by decide +kernel
theorem dX4_takeText_72 : decode cX4_takeText 72 = .ok (.aload_n 0, 1) := by decide +kernel
theorem dX4_takeText_73 : decode cX4_takeText 73 = .ok (.getfield 17, 3) := by decide +kernel
theorem dX4_takeText_76 : decode cX4_takeText 76 = .ok (.aload_n 0, 1) := by decide +kernel
theorem dX4_takeText_77 : decode cX4_takeText 77 = .ok (.getfield 86, 3) := by decide +kernel
theorem dX4_takeText_80 : decode cX4_takeText 80 = .ok (.aaload, 1) := by decide +kernel
theorem dX4_takeText_81 : decode cX4_takeText 81 = .ok (.aload_n 1, 1) := by decide +kernel
theorem dX4_takeText_82 : decode cX4_takeText 82 = .ok (.iload_n 2, 1) := by decide +kernel
theorem dX4_takeText_83 : decode cX4_takeText 83 = .ok (.iload 4, 2) := by decide +kernel
theorem dX4_takeText_85 : decode cX4_takeText 85 = .ok (.iadd, 1) := by decide +kernel
theorem dX4_takeText_86 : decode cX4_takeText 86 = .ok (.invokestatic 290, 3) := by decide +kernel
theorem dX4_takeText_89 : decode cX4_takeText 89 = .ok (.aload_n 0, 1) := by decide +kernel
theorem dX4_takeText_90 : decode cX4_takeText 90 = .ok (.dup, 1) := by decide +kernel
theorem dX4_takeText_91 : decode cX4_takeText 91 = .ok (.getfield 86, 3) := by decide +kernel
theorem dX4_takeText_94 : decode cX4_takeText 94 = .ok (.iconst 1, 1) := by decide +kernel
theorem dX4_takeText_95 : decode cX4_takeText 95 = .ok (.iadd, 1) := by decide +kernel
theorem dX4_takeText_96 : decode cX4_takeText 96 = .ok (.putfield 86, 3) := by decide +kernel
theorem dX4_takeText_99 : decode cX4_takeText 99 = .ok (.iinc 4 9, 3) := by decide +kernel
theorem dX4_takeText_102 : decode cX4_takeText 102 = .ok (.goto (-44), 3) := by decide +kernel
theorem dX4_takeText_105 : decode cX4_takeText 105 = .ok (.aload_n 0, 1) := by decide +kernel
theorem dX4_takeText_106 : decode cX4_takeText 106 = .ok (.iconst 0, 1) := by decide +kernel
theorem dX4_takeText_107 : decode cX4_takeText 107 = .ok (.putfield 137, 3) := by decide +kernel
theorem dX4_takeText_110 : decode cX4_takeText 110 = .ok (.aload_n 0, 1) := by decide +kernel
theorem dX4_takeText_111 : decode cX4_takeText 111 = .ok (.iconst 0, 1) := by decide +kernel
theorem dX4_takeText_112 : decode cX4_takeText 112 = .ok (.putfield 181, 3) := by decide +kernel
theorem dX4_takeText_115 : decode cX4_takeText 115 = .ok (.return_, 1) := by decide +kernel
theorem dX4_takeShip_0 : decode cX4_takeShip 0 = .ok (.aload_n 0, 1) := by decide +kernel
theorem dX4_takeShip_1 : decode cX4_takeShip 1 = .ok (.aload_n 1, 1) := by decide +kernel
theorem dX4_takeShip_2 : decode cX4_takeShip 2 = .ok (.iload_n 2, 1) := by decide +kernel
theorem dX4_takeShip_3 : decode cX4_takeShip 3 = .ok (.iconst 1, 1) := by decide +kernel
theorem dX4_takeShip_4 : decode cX4_takeShip 4 = .ok (.iadd, 1) := by decide +kernel
theorem dX4_takeShip_5 : decode cX4_takeShip 5 = .ok (.invokevirtual 267, 3) := by decide +kernel
theorem dX4_takeShip_8 : decode cX4_takeShip 8 = .ok (.invokestatic 284, 3) := by decide +kernel
theorem dX4_takeShip_11 : decode cX4_takeShip 11 = .ok (.putfield 92, 3) := by decide +kernel
theorem dX4_takeShip_14 : decode cX4_takeShip 14 = .ok (.aload_n 0, 1) := by decide +kernel
theorem dX4_takeShip_15 : decode cX4_takeShip 15 = .ok (.aload_n 1, 1) := by decide +kernel
theorem dX4_takeShip_16 : decode cX4_takeShip 16 = .ok (.iload_n 2, 1) := by decide +kernel
theorem dX4_takeShip_17 : decode cX4_takeShip 17 = .ok (.iconst 2, 1) := by decide +kernel
theorem dX4_takeShip_18 : decode cX4_takeShip 18 = .ok (.iadd, 1) := by decide +kernel
theorem dX4_takeShip_19 : decode cX4_takeShip 19 = .ok (.invokevirtual 287, 3) := by decide +kernel
theorem dX4_takeShip_22 : decode cX4_takeShip 22 = .ok (.putfield 95, 3) := by decide +kernel
theorem dX4_takeShip_25 : decode cX4_takeShip 25 = .ok (.aload_n 0, 1) := by decide +kernel
theorem dX4_takeShip_26 : decode cX4_takeShip 26 = .ok (.aload_n 1, 1) := by decide +kernel
theorem dX4_takeShip_27 : decode cX4_takeShip 27 = .ok (.iload_n 2, 1) := by decide +kernel
theorem dX4_takeShip_28 : decode cX4_takeShip 28 = .ok (.iconst 3, 1) := by decide +kernel
theorem dX4_takeShip_29 : decode cX4_takeShip 29 = .ok (.iadd, 1) := by decide +kernel
theorem dX4_takeShip_30 : decode cX4_takeShip 30 = .ok (.invokevirtual 287, 3) := by decide +kernel
theorem dX4_takeShip_33 : decode cX4_takeShip 33 = .ok (.putfield 98, 3) := by decide +kernel
theorem dX4_takeShip_36 : decode cX4_takeShip 36 = .ok (.aload_n 0, 1) := by decide +kernel
theorem dX4_takeShip_37 : decode cX4_takeShip 37 = .ok (.aload_n 1, 1) := by decide +kernel
theorem dX4_takeShip_38 : decode cX4_takeShip 38 = .ok (.iload_n 2, 1) := by decide +kernel
theorem dX4_takeShip_39 : decode cX4_takeShip 39 = .ok (.iconst 4, 1) := by decide +kernel
theorem dX4_takeShip_40 : decode cX4_takeShip 40 = .ok (.iadd, 1) := by decide +kernel
theorem dX4_takeShip_41 : decode cX4_takeShip 41 = .ok (.invokevirtual 287, 3) := by decide +kernel
theorem dX4_takeShip_44 : decode cX4_takeShip 44 = .ok (.putfield 105, 3) := by decide +kernel
theorem dX4_takeShip_47 : decode cX4_takeShip 47 = .ok (.iconst 0, 1) := by decide +kernel
theorem dX4_takeShip_48 : decode cX4_takeShip 48 = .ok (.istore_n 3, 1) := by decide +kernel
theorem dX4_takeShip_49 : decode cX4_takeShip 49 = .ok (.iload_n 3, 1) := by decide +kernel
theorem dX4_takeShip_50 : decode cX4_takeShip 50 = .ok (.iconst 4, 1) := by decide +kernel
theorem dX4_takeShip_51 : decode cX4_takeShip 51 = .ok (.if_icmp .ge 24, 3) := by decide +kernel
theorem dX4_takeShip_54 : decode cX4_takeShip 54 = .ok (.aload_n 0, 1) := by decide +kernel
theorem dX4_takeShip_55 : decode cX4_takeShip 55 = .ok (.getfield 121, 3) := by decide +kernel
theorem dX4_takeShip_58 : decode cX4_takeShip 58 = .ok (.iload_n 3, 1) := by decide +kernel
theorem dX4_takeShip_59 : decode cX4_takeShip 59 = .ok (.aload_n 1, 1) := by decide +kernel
theorem dX4_takeShip_60 : decode cX4_takeShip 60 = .ok (.iload_n 2, 1) := by decide +kernel
theorem dX4_takeShip_61 : decode cX4_takeShip 61 = .ok (.iconst 5, 1) := by decide +kernel
theorem dX4_takeShip_62 : decode cX4_takeShip 62 = .ok (.iadd, 1) := by decide +kernel
theorem dX4_takeShip_63 : decode cX4_takeShip 63 = .ok (.iload_n 3, 1) := by decide +kernel
theorem dX4_takeShip_64 : decode cX4_takeShip 64 = .ok (.iadd, 1) := by decide +kernel
theorem dX4_takeShip_65 : decode cX4_takeShip 65 = .ok (.invokevirtual 287, 3) := by decide +kernel
theorem dX4_takeShip_68 : decode cX4_takeShip 68 = .ok (.iastore, 1) := by decide +kernel
theorem dX4_takeShip_69 : decode cX4_takeShip 69 = .ok (.iinc 3 1, 3) := by decide +kernel
theorem dX4_takeShip_72 : decode cX4_takeShip 72 = .ok (.goto (-23), 3) := by decide +kernel
theorem dX4_takeShip_75 : decode cX4_takeShip 75 = .ok (.return_, 1) := by decide +kernel
theorem dX4_portBehind_0 : decode cX4_portBehind 0 = .ok (.iload_n 1, 1) := by decide +kernel
theorem dX4_portBehind_1 : decode cX4_portBehind 1 = .ok (.iconst 1, 1) := by decide +kernel
theorem dX4_portBehind_2 : decode cX4_portBehind 2 = .ok (.iadd, 1) := by decide +kernel
theorem dX4_portBehind_3 : decode cX4_portBehind 3 = .ok (.aload_n 0, 1) := by decide +kernel
theorem dX4_portBehind_4 : decode cX4_portBehind 4 = .ok (.getfield 162, 3) := by decide +kernel
theorem dX4_portBehind_7 : decode cX4_portBehind 7 = .ok (.if_icmp .ge 9, 3) := by decide +kernel
theorem dX4_portBehind_10 : decode cX4_portBehind 10 = .ok (.iload_n 1, 1) := by decide +kernel
theorem dX4_portBehind_11 : decode cX4_portBehind 11 = .ok (.iconst 1, 1) := by decide +kernel
theorem dX4_portBehind_12 : decode cX4_portBehind 12 = .ok (.iadd, 1) := by decide +kernel
theorem dX4_portBehind_13 : decode cX4_portBehind 13 = .ok (.goto 4, 3) := by decide +kernel
theorem dX4_portBehind_16 : decode cX4_portBehind 16 = .ok (.iconst 0, 1) := by decide +kernel
theorem dX4_portBehind_17 : decode cX4_portBehind 17 = .ok (.ireturn, 1) := by decide +kernel
theorem dX4_sailDay_0 : decode cX4_sailDay 0 = .ok (.aload_n 0, 1) := by decide +kernel
theorem dX4_sailDay_1 : decode cX4_sailDay 1 = .ok (.getfield 11, 3) := by decide +kernel
theorem dX4_sailDay_4 : decode cX4_sailDay 4 = .ok (.aload_n 1, 1) := by decide +kernel
theorem dX4_sailDay_5 : decode cX4_sailDay 5 = .ok (.getfield 105, 3) := by decide +kernel
theorem dX4_sailDay_8 : decode cX4_sailDay 8 = .ok (.iaload, 1) := by decide +kernel
theorem dX4_sailDay_9 : decode cX4_sailDay 9 = .ok (.aload_n 1, 1) := by decide +kernel
theorem dX4_sailDay_10 : decode cX4_sailDay 10 = .ok (.invokevirtual 101, 3) := by decide +kernel
theorem dX4_sailDay_13 : decode cX4_sailDay 13 = .ok (.if_icmp .le 10, 3) := by decide +kernel
theorem dX4_sailDay_16 : decode cX4_sailDay 16 = .ok (.aload_n 1, 1) := by decide +kernel
theorem dX4_sailDay_17 : decode cX4_sailDay 17 = .ok (.invokevirtual 201, 3) := by decide +kernel
theorem dX4_sailDay_20 : decode cX4_sailDay 20 = .ok (.goto 5, 3) := by decide +kernel
theorem dX4_sailDay_23 : decode cX4_sailDay 23 = .ok (.bipush (-9), 2) := by decide +kernel
theorem dX4_sailDay_25 : decode cX4_sailDay 25 = .ok (.istore_n 2, 1) := by decide +kernel
theorem dX4_sailDay_26 : decode cX4_sailDay 26 = .ok (.iload_n 2, 1) := by decide +kernel
theorem dX4_sailDay_27 : decode cX4_sailDay 27 = .ok (.bipush (-9), 2) := by decide +kernel
theorem dX4_sailDay_29 : decode cX4_sailDay 29 = .ok (.if_icmp .eq 13, 3) := by decide +kernel
theorem dX4_sailDay_32 : decode cX4_sailDay 32 = .ok (.aload_n 1, 1) := by decide +kernel
theorem dX4_sailDay_33 : decode cX4_sailDay 33 = .ok (.getfield 121, 3) := by decide +kernel
theorem dX4_sailDay_36 : decode cX4_sailDay 36 = .ok (.iload_n 2, 1) := by decide +kernel
theorem dX4_sailDay_37 : decode cX4_sailDay 37 = .ok (.dup2, 1) := by decide +kernel
theorem dX4_sailDay_38 : decode cX4_sailDay 38 = .ok (.iaload, 1) := by decide +kernel
theorem dX4_sailDay_39 : decode cX4_sailDay 39 = .ok (.iconst 1, 1) := by decide +kernel
theorem dX4_sailDay_40 : decode cX4_sailDay 40 = .ok (.isub, 1) := by decide +kernel
theorem dX4_sailDay_41 : decode cX4_sailDay 41 = .ok (.iastore, 1) := by decide +kernel
theorem dX4_sailDay_42 : decode cX4_sailDay 42 = .ok (.aload_n 1, 1) := by decide +kernel
theorem dX4_sailDay_43 : decode cX4_sailDay 43 = .ok (.aload_n 0, 1) := by decide +kernel
theorem dX4_sailDay_44 : decode cX4_sailDay 44 = .ok (.aload_n 1, 1) := by decide +kernel
theorem dX4_sailDay_45 : decode cX4_sailDay 45 = .ok (.getfield 105, 3) := by decide +kernel
theorem dX4_sailDay_48 : decode cX4_sailDay 48 = .ok (.invokevirtual 155, 3) := by decide +kernel
theorem dX4_sailDay_51 : decode cX4_sailDay 51 = .ok (.putfield 105, 3) := by decide +kernel
theorem dX4_sailDay_54 : decode cX4_sailDay 54 = .ok (.iload_n 2, 1) := by decide +kernel
theorem dX4_sailDay_55 : decode cX4_sailDay 55 = .ok (.ireturn, 1) := by decide +kernel
theorem dX4_roughDays_0 : decode cX4_roughDays 0 = .ok (.iload_n 2, 1) := by decide +kernel
theorem dX4_roughDays_1 : decode cX4_roughDays 1 = .ok (.istore 4, 2) := by decide +kernel
theorem dX4_roughDays_3 : decode cX4_roughDays 3 = .ok (.iconst 0, 1) := by decide +kernel
theorem dX4_roughDays_4 : decode cX4_roughDays 4 = .ok (.istore 5, 2) := by decide +kernel
theorem dX4_roughDays_6 : decode cX4_roughDays 6 = .ok (.iconst 0, 1) := by decide +kernel
theorem dX4_roughDays_7 : decode cX4_roughDays 7 = .ok (.istore 6, 2) := by decide +kernel
theorem dX4_roughDays_9 : decode cX4_roughDays 9 = .ok (.iload 6, 2) := by decide +kernel
theorem dX4_roughDays_11 : decode cX4_roughDays 11 = .ok (.iload_n 3, 1) := by decide +kernel
theorem dX4_roughDays_12 : decode cX4_roughDays 12 = .ok (.if_icmp .ge 31, 3) := by decide +kernel
theorem dX4_roughDays_15 : decode cX4_roughDays 15 = .ok (.aload_n 0, 1) := by decide +kernel
theorem dX4_roughDays_16 : decode cX4_roughDays 16 = .ok (.getfield 11, 3) := by decide +kernel
theorem dX4_roughDays_19 : decode cX4_roughDays 19 = .ok (.iload 4, 2) := by decide +kernel
theorem dX4_roughDays_21 : decode cX4_roughDays 21 = .ok (.iaload, 1) := by decide +kernel
theorem dX4_roughDays_22 : decode cX4_roughDays 22 = .ok (.iload_n 1, 1) := by decide +kernel
theorem dX4_roughDays_23 : decode cX4_roughDays 23 = .ok (.if_icmp .le 6, 3) := by decide +kernel
theorem dX4_roughDays_26 : decode cX4_roughDays 26 = .ok (.iinc 5 1, 3) := by decide +kernel
theorem dX4_roughDays_29 : decode cX4_roughDays 29 = .ok (.aload_n 0, 1) := by decide +kernel
theorem dX4_roughDays_30 : decode cX4_roughDays 30 = .ok (.iload 4, 2) := by decide +kernel
theorem dX4_roughDays_32 : decode cX4_roughDays 32 = .ok (.invokevirtual 155, 3) := by decide +kernel
theorem dX4_roughDays_35 : decode cX4_roughDays 35 = .ok (.istore 4, 2) := by decide +kernel
theorem dX4_roughDays_37 : decode cX4_roughDays 37 = .ok (.iinc 6 1, 3) := by decide +kernel
theorem dX4_roughDays_40 : decode cX4_roughDays 40 = .ok (.goto (-31), 3) := by decide +kernel
theorem dX4_roughDays_43 : decode cX4_roughDays 43 = .ok (.iload 5, 2) := by decide +kernel
theorem dX4_roughDays_45 : decode cX4_roughDays 45 = .ok (.ireturn, 1) := by decide +kernel
theorem dX4_roughPorts_0 : decode cX4_roughPorts 0 = .ok (.aload_n 0, 1) := by decide +kernel
theorem dX4_roughPorts_1 : decode cX4_roughPorts 1 = .ok (.iload_n 1, 1) := by decide +kernel
theorem dX4_roughPorts_2 : decode cX4_roughPorts 2 = .ok (.iconst 0, 1) := by decide +kernel
theorem dX4_roughPorts_3 : decode cX4_roughPorts 3 = .ok (.aload_n 0, 1) := by decide +kernel
theorem dX4_roughPorts_4 : decode cX4_roughPorts 4 = .ok (.getfield 162, 3) := by decide +kernel
theorem dX4_roughPorts_7 : decode cX4_roughPorts 7 = .ok (.invokevirtual 165, 3) := by decide +kernel
theorem dX4_roughPorts_10 : decode cX4_roughPorts 10 = .ok (.ireturn, 1) := by decide +kernel
theorem dX4_worthLostFrom_0 : decode cX4_worthLostFrom 0 = .ok (.aload_n 1, 1) := by decide +kernel
theorem dX4_worthLostFrom_1 : decode cX4_worthLostFrom 1 = .ok (.getfield 121, 3) := by decide +kernel
theorem dX4_worthLostFrom_4 : decode cX4_worthLostFrom 4 = .ok (.aload_n 1, 1) := by decide +kernel
theorem dX4_worthLostFrom_5 : decode cX4_worthLostFrom 5 = .ok (.getfield 95, 3) := by decide +kernel
theorem dX4_worthLostFrom_8 : decode cX4_worthLostFrom 8 = .ok (.aload_n 0, 1) := by decide +kernel
theorem dX4_worthLostFrom_9 : decode cX4_worthLostFrom 9 = .ok (.aload_n 1, 1) := by decide +kernel
theorem dX4_worthLostFrom_10 : decode cX4_worthLostFrom 10 = .ok (.invokevirtual 101, 3) := by decide +kernel
theorem dX4_worthLostFrom_13 : decode cX4_worthLostFrom 13 = .ok (.iload_n 2, 1) := by decide +kernel
theorem dX4_worthLostFrom_14 : decode cX4_worthLostFrom 14 = .ok (.iload_n 3, 1) := by decide +kernel
theorem dX4_worthLostFrom_15 : decode cX4_worthLostFrom 15 = .ok (.invokevirtual 165, 3) := by decide +kernel
theorem dX4_worthLostFrom_18 : decode cX4_worthLostFrom 18 = .ok (.aload_n 0, 1) := by decide +kernel
theorem dX4_worthLostFrom_19 : decode cX4_worthLostFrom 19 = .ok (.getfield 38, 3) := by decide +kernel
theorem dX4_worthLostFrom_22 : decode cX4_worthLostFrom 22 = .ok (.invokestatic 191, 3) := by decide +kernel
theorem dX4_worthLostFrom_25 : decode cX4_worthLostFrom 25 = .ok (.aload_n 0, 1) := by decide +kernel
theorem dX4_worthLostFrom_26 : decode cX4_worthLostFrom 26 = .ok (.getfield 38, 3) := by decide +kernel
theorem dX4_worthLostFrom_29 : decode cX4_worthLostFrom 29 = .ok (.invokestatic 294, 3) := by decide +kernel
theorem dX4_worthLostFrom_32 : decode cX4_worthLostFrom 32 = .ok (.ireturn, 1) := by decide +kernel
theorem dX4_fillLosses_0 : decode cX4_fillLosses 0 = .ok (.iload_n 2, 1) := by decide +kernel
theorem dX4_fillLosses_1 : decode cX4_fillLosses 1 = .ok (.istore 4, 2) := by decide +kernel
theorem dX4_fillLosses_3 : decode cX4_fillLosses 3 = .ok (.aload_n 3, 1) := by decide +kernel
theorem dX4_fillLosses_4 : decode cX4_fillLosses 4 = .ok (.iload_n 1, 1) := by decide +kernel
theorem dX4_fillLosses_5 : decode cX4_fillLosses 5 = .ok (.iload 4, 2) := by decide +kernel
theorem dX4_fillLosses_7 : decode cX4_fillLosses 7 = .ok (.aload_n 0, 1) := by decide +kernel
theorem dX4_fillLosses_8 : decode cX4_fillLosses 8 = .ok (.iload_n 1, 1) := by decide +kernel
theorem dX4_fillLosses_9 : decode cX4_fillLosses 9 = .ok (.iaload, 1) := by decide +kernel
theorem dX4_fillLosses_10 : decode cX4_fillLosses 10 = .ok (.invokestatic 298, 3) := by decide +kernel
theorem dX4_fillLosses_13 : decode cX4_fillLosses 13 = .ok (.iastore, 1) := by decide +kernel
theorem dX4_fillLosses_14 : decode cX4_fillLosses 14 = .ok (.iload 4, 2) := by decide +kernel
theorem dX4_fillLosses_16 : decode cX4_fillLosses 16 = .ok (.aload_n 3, 1) := by decide +kernel
theorem dX4_fillLosses_17 : decode cX4_fillLosses 17 = .ok (.iload_n 1, 1) := by decide +kernel
theorem dX4_fillLosses_18 : decode cX4_fillLosses 18 = .ok (.iaload, 1) := by decide +kernel
theorem dX4_fillLosses_19 : decode cX4_fillLosses 19 = .ok (.isub, 1) := by decide +kernel
theorem dX4_fillLosses_20 : decode cX4_fillLosses 20 = .ok (.istore 4, 2) := by decide +kernel
theorem dX4_fillLosses_22 : decode cX4_fillLosses 22 = .ok (.iconst 0, 1) := by decide +kernel
theorem dX4_fillLosses_23 : decode cX4_fillLosses 23 = .ok (.istore 5, 2) := by decide +kernel
theorem dX4_fillLosses_25 : decode cX4_fillLosses 25 = .ok (.iload 5, 2) := by decide +kernel
theorem dX4_fillLosses_27 : decode cX4_fillLosses 27 = .ok (.iconst 4, 1) := by decide +kernel
theorem dX4_fillLosses_28 : decode cX4_fillLosses 28 = .ok (.if_icmp .ge 37, 3) := by decide +kernel
theorem dX4_fillLosses_31 : decode cX4_fillLosses 31 = .ok (.iload 5, 2) := by decide +kernel
theorem dX4_fillLosses_33 : decode cX4_fillLosses 33 = .ok (.iload_n 1, 1) := by decide +kernel
theorem dX4_fillLosses_34 : decode cX4_fillLosses 34 = .ok (.if_icmp .eq 25, 3) := by decide +kernel
theorem dX4_fillLosses_37 : decode cX4_fillLosses 37 = .ok (.aload_n 3, 1) := by decide +kernel
theorem dX4_fillLosses_38 : decode cX4_fillLosses 38 = .ok (.iload 5, 2) := by decide +kernel
theorem dX4_fillLosses_40 : decode cX4_fillLosses 40 = .ok (.iload 4, 2) := by decide +kernel
theorem dX4_fillLosses_42 : decode cX4_fillLosses 42 = .ok (.aload_n 0, 1) := by decide +kernel
theorem dX4_fillLosses_43 : decode cX4_fillLosses 43 = .ok (.iload 5, 2) := by decide +kernel
theorem dX4_fillLosses_45 : decode cX4_fillLosses 45 = .ok (.iaload, 1) := by decide +kernel
theorem dX4_fillLosses_46 : decode cX4_fillLosses 46 = .ok (.invokestatic 298, 3) := by decide +kernel
theorem dX4_fillLosses_49 : decode cX4_fillLosses 49 = .ok (.iastore, 1) := by decide +kernel
theorem dX4_fillLosses_50 : decode cX4_fillLosses 50 = .ok (.iload 4, 2) := by decide +kernel
theorem dX4_fillLosses_52 : decode cX4_fillLosses 52 = .ok (.aload_n 3, 1) := by decide +kernel
theorem dX4_fillLosses_53 : decode cX4_fillLosses 53 = .ok (.iload 5, 2) := by decide +kernel
theorem dX4_fillLosses_55 : decode cX4_fillLosses 55 = .ok (.iaload, 1) := by decide +kernel
theorem dX4_fillLosses_56 : decode cX4_fillLosses 56 = .ok (.isub, 1) := by decide +kernel
theorem dX4_fillLosses_57 : decode cX4_fillLosses 57 = .ok (.istore 4, 2) := by decide +kernel
theorem dX4_fillLosses_59 : decode cX4_fillLosses 59 = .ok (.iinc 5 1, 3) := by decide +kernel
theorem dX4_fillLosses_62 : decode cX4_fillLosses 62 = .ok (.goto (-37), 3) := by decide +kernel
theorem dX4_fillLosses_65 : decode cX4_fillLosses 65 = .ok (.return_, 1) := by decide +kernel
theorem dX4_worthOf_0 : decode cX4_worthOf 0 = .ok (.iload_n 0, 1) := by decide +kernel
theorem dX4_worthOf_1 : decode cX4_worthOf 1 = .ok (.iconst 1, 1) := by decide +kernel
theorem dX4_worthOf_2 : decode cX4_worthOf 2 = .ok (.iadd, 1) := by decide +kernel
theorem dX4_worthOf_3 : decode cX4_worthOf 3 = .ok (.ireturn, 1) := by decide +kernel
theorem dX4_worthOfAll_0 : decode cX4_worthOfAll 0 = .ok (.iconst 0, 1) := by decide +kernel
theorem dX4_worthOfAll_1 : decode cX4_worthOfAll 1 = .ok (.istore_n 1, 1) := by decide +kernel
theorem dX4_worthOfAll_2 : decode cX4_worthOfAll 2 = .ok (.iconst 0, 1) := by decide +kernel
theorem dX4_worthOfAll_3 : decode cX4_worthOfAll 3 = .ok (.istore_n 2, 1) := by decide +kernel
theorem dX4_worthOfAll_4 : decode cX4_worthOfAll 4 = .ok (.iload_n 2, 1) := by decide +kernel
theorem dX4_worthOfAll_5 : decode cX4_worthOfAll 5 = .ok (.iconst 4, 1) := by decide +kernel
theorem dX4_worthOfAll_6 : decode cX4_worthOfAll 6 = .ok (.if_icmp .ge 20, 3) := by decide +kernel
theorem dX4_worthOfAll_9 : decode cX4_worthOfAll 9 = .ok (.iload_n 1, 1) := by decide +kernel
theorem dX4_worthOfAll_10 : decode cX4_worthOfAll 10 = .ok (.aload_n 0, 1) := by decide +kernel
theorem dX4_worthOfAll_11 : decode cX4_worthOfAll 11 = .ok (.iload_n 2, 1) := by decide +kernel
theorem dX4_worthOfAll_12 : decode cX4_worthOfAll 12 = .ok (.iaload, 1) := by decide +kernel
theorem dX4_worthOfAll_13 : decode cX4_worthOfAll 13 = .ok (.iload_n 2, 1) := by decide +kernel
theorem dX4_worthOfAll_14 : decode cX4_worthOfAll 14 = .ok (.invokestatic 211, 3) := by decide +kernel
theorem dX4_worthOfAll_17 : decode cX4_worthOfAll 17 = .ok (.imul, 1) := by decide +kernel
theorem dX4_worthOfAll_18 : decode cX4_worthOfAll 18 = .ok (.iadd, 1) := by decide +kernel
theorem dX4_worthOfAll_19 : decode cX4_worthOfAll 19 = .ok (.istore_n 1, 1) := by decide +kernel
theorem dX4_worthOfAll_20 : decode cX4_worthOfAll 20 = .ok (.iinc 2 1, 3) := by decide +kernel
theorem dX4_worthOfAll_23 : decode cX4_worthOfAll 23 = .ok (.goto (-19), 3) := by decide +kernel
theorem dX4_worthOfAll_26 : decode cX4_worthOfAll 26 = .ok (.iload_n 1, 1) := by decide +kernel
theorem dX4_worthOfAll_27 : decode cX4_worthOfAll 27 = .ok (.ireturn, 1) := by decide +kernel
theorem dX4_bearingOf_0 : decode cX4_bearingOf 0 = .ok (.iload_n 0, 1) := by decide +kernel
theorem dX4_bearingOf_1 : decode cX4_bearingOf 1 = .ok (.lookupswitch 35 #[(1, 31), (2, 27)], 27) := by decide +kernel
theorem dX4_bearingOf_28 : decode cX4_bearingOf 28 = .ok (.iconst 2, 1) := by decide +kernel
theorem dX4_bearingOf_29 : decode cX4_bearingOf 29 = .ok (.iload_n 1, 1) := by decide +kernel
theorem dX4_bearingOf_30 : decode cX4_bearingOf 30 = .ok (.imul, 1) := by decide +kernel
theorem dX4_bearingOf_31 : decode cX4_bearingOf 31 = .ok (.ireturn, 1) := by decide +kernel
theorem dX4_bearingOf_32 : decode cX4_bearingOf 32 = .ok (.iload_n 1, 1) := by decide +kernel
theorem dX4_bearingOf_33 : decode cX4_bearingOf 33 = .ok (.iconst 1, 1) := by decide +kernel
theorem dX4_bearingOf_34 : decode cX4_bearingOf 34 = .ok (.iadd, 1) := by decide +kernel
theorem dX4_bearingOf_35 : decode cX4_bearingOf 35 = .ok (.ireturn, 1) := by decide +kernel
theorem dX4_bearingOf_36 : decode cX4_bearingOf 36 = .ok (.iload_n 1, 1) := by decide +kernel
theorem dX4_bearingOf_37 : decode cX4_bearingOf 37 = .ok (.ireturn, 1) := by decide +kernel
theorem dX4_metOf_0 : decode cX4_metOf 0 = .ok (.iconst 0, 1) := by decide +kernel
theorem dX4_metOf_1 : decode cX4_metOf 1 = .ok (.istore_n 2, 1) := by decide +kernel
theorem dX4_metOf_2 : decode cX4_metOf 2 = .ok (.iconst 0, 1) := by decide +kernel
theorem dX4_metOf_3 : decode cX4_metOf 3 = .ok (.istore_n 3, 1) := by decide +kernel
theorem dX4_metOf_4 : decode cX4_metOf 4 = .ok (.iload_n 3, 1) := by decide +kernel
theorem dX4_metOf_5 : decode cX4_metOf 5 = .ok (.aload_n 0, 1) := by decide +kernel
theorem dX4_metOf_6 : decode cX4_metOf 6 = .ok (.getfield 86, 3) := by decide +kernel
theorem dX4_metOf_9 : decode cX4_metOf 9 = .ok (.if_icmp .ge 24, 3) := by decide +kernel
theorem dX4_metOf_12 : decode cX4_metOf 12 = .ok (.aload_n 1, 1) := by decide +kernel
theorem dX4_metOf_13 : decode cX4_metOf 13 = .ok (.iload_n 3, 1) := by decide +kernel
theorem dX4_metOf_14 : decode cX4_metOf 14 = .ok (.aaload, 1) := by decide +kernel
theorem dX4_metOf_15 : decode cX4_metOf 15 = .ok (.invokevirtual 108, 3) := by decide +kernel
theorem dX4_metOf_18 : decode cX4_metOf 18 = .ok (.ifCond .eq 9, 3) := by decide +kernel
theorem dX4_metOf_21 : decode cX4_metOf 21 = .ok (.iload_n 2, 1) := by decide +kernel
theorem dX4_metOf_22 : decode cX4_metOf 22 = .ok (.iconst 1, 1) := by decide +kernel
theorem dX4_metOf_23 : decode cX4_metOf 23 = .ok (.iload_n 3, 1) := by decide +kernel
theorem dX4_metOf_24 : decode cX4_metOf 24 = .ok (.ishl, 1) := by decide +kernel
theorem dX4_metOf_25 : decode cX4_metOf 25 = .ok (.ior, 1) := by decide +kernel
theorem dX4_metOf_26 : decode cX4_metOf 26 = .ok (.istore_n 2, 1) := by decide +kernel
theorem dX4_metOf_27 : decode cX4_metOf 27 = .ok (.iinc 3 1, 3) := by decide +kernel
theorem dX4_metOf_30 : decode cX4_metOf 30 = .ok (.goto (-26), 3) := by decide +kernel
theorem dX4_metOf_33 : decode cX4_metOf 33 = .ok (.iload_n 2, 1) := by decide +kernel
theorem dX4_metOf_34 : decode cX4_metOf 34 = .ok (.ireturn, 1) := by decide +kernel
theorem dX4_isAskedOfVoyage_0 : decode cX4_isAskedOfVoyage 0 = .ok (.iload_n 0, 1) := by decide +kernel
theorem dX4_isAskedOfVoyage_1 : decode cX4_isAskedOfVoyage 1 = .ok (.iconst 4, 1) := by decide +kernel
theorem dX4_isAskedOfVoyage_2 : decode cX4_isAskedOfVoyage 2 = .ok (.invokestatic 127, 3) := by decide +kernel
theorem dX4_isAskedOfVoyage_5 : decode cX4_isAskedOfVoyage 5 = .ok (.ifCond .ne 14, 3) := by decide +kernel
theorem dX4_isAskedOfVoyage_8 : decode cX4_isAskedOfVoyage 8 = .ok (.iload_n 0, 1) := by decide +kernel
theorem dX4_isAskedOfVoyage_9 : decode cX4_isAskedOfVoyage 9 = .ok (.bipush 10, 2) := by decide +kernel
theorem dX4_isAskedOfVoyage_11 : decode cX4_isAskedOfVoyage 11 = .ok (.isub, 1) := by decide +kernel
theorem dX4_isAskedOfVoyage_12 : decode cX4_isAskedOfVoyage 12 = .ok (.iconst 5, 1) := by decide +kernel
theorem dX4_isAskedOfVoyage_13 : decode cX4_isAskedOfVoyage 13 = .ok (.invokestatic 66, 3) := by decide +kernel
theorem dX4_isAskedOfVoyage_16 : decode cX4_isAskedOfVoyage 16 = .ok (.ifCond .eq 7, 3) := by decide +kernel
theorem dX4_isAskedOfVoyage_19 : decode cX4_isAskedOfVoyage 19 = .ok (.iconst 1, 1) := by decide +kernel
theorem dX4_isAskedOfVoyage_20 : decode cX4_isAskedOfVoyage 20 = .ok (.goto 4, 3) := by decide +kernel
theorem dX4_isAskedOfVoyage_23 : decode cX4_isAskedOfVoyage 23 = .ok (.iconst 0, 1) := by decide +kernel
theorem dX4_isAskedOfVoyage_24 : decode cX4_isAskedOfVoyage 24 = .ok (.ireturn, 1) := by decide +kernel
theorem dX4_refusalOfPairs_0 : decode cX4_refusalOfPairs 0 = .ok (.iconst 0, 1) := by decide +kernel
theorem dX4_refusalOfPairs_1 : decode cX4_refusalOfPairs 1 = .ok (.istore 4, 2) := by decide +kernel
theorem dX4_refusalOfPairs_3 : decode cX4_refusalOfPairs 3 = .ok (.iload 4, 2) := by decide +kernel
theorem dX4_refusalOfPairs_5 : decode cX4_refusalOfPairs 5 = .ok (.iload_n 3, 1) := by decide +kernel
theorem dX4_refusalOfPairs_6 : decode cX4_refusalOfPairs 6 = .ok (.if_icmp .ge 86, 3) := by decide +kernel
theorem dX4_refusalOfPairs_9 : decode cX4_refusalOfPairs 9 = .ok (.aload_n 1, 1) := by decide +kernel
theorem dX4_refusalOfPairs_10 : decode cX4_refusalOfPairs 10 = .ok (.iload_n 2, 1) := by decide +kernel
theorem dX4_refusalOfPairs_11 : decode cX4_refusalOfPairs 11 = .ok (.iconst 2, 1) := by decide +kernel
theorem dX4_refusalOfPairs_12 : decode cX4_refusalOfPairs 12 = .ok (.iload 4, 2) := by decide +kernel
theorem dX4_refusalOfPairs_14 : decode cX4_refusalOfPairs 14 = .ok (.imul, 1) := by decide +kernel
theorem dX4_refusalOfPairs_15 : decode cX4_refusalOfPairs 15 = .ok (.iadd, 1) := by decide +kernel
theorem dX4_refusalOfPairs_16 : decode cX4_refusalOfPairs 16 = .ok (.invokevirtual 267, 3) := by decide +kernel
theorem dX4_refusalOfPairs_19 : decode cX4_refusalOfPairs 19 = .ok (.istore 5, 2) := by decide +kernel
theorem dX4_refusalOfPairs_21 : decode cX4_refusalOfPairs 21 = .ok (.aload_n 1, 1) := by decide +kernel
theorem dX4_refusalOfPairs_22 : decode cX4_refusalOfPairs 22 = .ok (.iload_n 2, 1) := by decide +kernel
theorem dX4_refusalOfPairs_23 : decode cX4_refusalOfPairs 23 = .ok (.iconst 2, 1) := by decide +kernel
theorem dX4_refusalOfPairs_24 : decode cX4_refusalOfPairs 24 = .ok (.iload 4, 2) := by decide +kernel
theorem dX4_refusalOfPairs_26 : decode cX4_refusalOfPairs 26 = .ok (.imul, 1) := by decide +kernel
theorem dX4_refusalOfPairs_27 : decode cX4_refusalOfPairs 27 = .ok (.iadd, 1) := by decide +kernel
theorem dX4_refusalOfPairs_28 : decode cX4_refusalOfPairs 28 = .ok (.iconst 1, 1) := by decide +kernel
theorem dX4_refusalOfPairs_29 : decode cX4_refusalOfPairs 29 = .ok (.iadd, 1) := by decide +kernel
theorem dX4_refusalOfPairs_30 : decode cX4_refusalOfPairs 30 = .ok (.invokevirtual 267, 3) := by decide +kernel
theorem dX4_refusalOfPairs_33 : decode cX4_refusalOfPairs 33 = .ok (.istore 6, 2) := by decide +kernel
theorem dX4_refusalOfPairs_35 : decode cX4_refusalOfPairs 35 = .ok (.iload 6, 2) := by decide +kernel
theorem dX4_refusalOfPairs_37 : decode cX4_refusalOfPairs 37 = .ok (.bipush 8, 2) := by decide +kernel
theorem dX4_refusalOfPairs_39 : decode cX4_refusalOfPairs 39 = .ok (.invokestatic 127, 3) := by decide +kernel
theorem dX4_refusalOfPairs_42 : decode cX4_refusalOfPairs 42 = .ok (.ifCond .ne 6, 3) := by decide +kernel
theorem dX4_refusalOfPairs_45 : decode cX4_refusalOfPairs 45 = .ok (.bipush (-2), 2) := by decide +kernel
theorem dX4_refusalOfPairs_47 : decode cX4_refusalOfPairs 47 = .ok (.ireturn, 1) := by decide +kernel
theorem dX4_refusalOfPairs_48 : decode cX4_refusalOfPairs 48 = .ok (.iload 6, 2) := by decide +kernel
theorem dX4_refusalOfPairs_50 : decode cX4_refusalOfPairs 50 = .ok (.bipush 8, 2) := by decide +kernel
theorem dX4_refusalOfPairs_52 : decode cX4_refusalOfPairs 52 = .ok (.if_icmp .ne 16, 3) := by decide +kernel
theorem dX4_refusalOfPairs_55 : decode cX4_refusalOfPairs 55 = .ok (.iload 5, 2) := by decide +kernel
theorem dX4_refusalOfPairs_57 : decode cX4_refusalOfPairs 57 = .ok (.bipush 9, 2) := by decide +kernel
theorem dX4_refusalOfPairs_59 : decode cX4_refusalOfPairs 59 = .ok (.invokestatic 127, 3) := by decide +kernel
theorem dX4_refusalOfPairs_62 : decode cX4_refusalOfPairs 62 = .ok (.ifCond .ne 6, 3) := by decide +kernel
theorem dX4_refusalOfPairs_65 : decode cX4_refusalOfPairs 65 = .ok (.bipush (-2), 2) := by decide +kernel
theorem dX4_refusalOfPairs_67 : decode cX4_refusalOfPairs 67 = .ok (.ireturn, 1) := by decide +kernel
theorem dX4_refusalOfPairs_68 : decode cX4_refusalOfPairs 68 = .ok (.iload 6, 2) := by decide +kernel
theorem dX4_refusalOfPairs_70 : decode cX4_refusalOfPairs 70 = .ok (.bipush 8, 2) := by decide +kernel
theorem dX4_refusalOfPairs_72 : decode cX4_refusalOfPairs 72 = .ok (.if_icmp .eq 14, 3) := by decide +kernel
theorem dX4_refusalOfPairs_75 : decode cX4_refusalOfPairs 75 = .ok (.aload_n 0, 1) := by decide +kernel
theorem dX4_refusalOfPairs_76 : decode cX4_refusalOfPairs 76 = .ok (.iload 5, 2) := by decide +kernel
theorem dX4_refusalOfPairs_78 : decode cX4_refusalOfPairs 78 = .ok (.invokevirtual 89, 3) := by decide +kernel
theorem dX4_refusalOfPairs_81 : decode cX4_refusalOfPairs 81 = .ok (.ifCond .ne 5, 3) := by decide +kernel
theorem dX4_refusalOfPairs_84 : decode cX4_refusalOfPairs 84 = .ok (.iconst (-1), 1) := by decide +kernel
theorem dX4_refusalOfPairs_85 : decode cX4_refusalOfPairs 85 = .ok (.ireturn, 1) := by decide +kernel
theorem dX4_refusalOfPairs_86 : decode cX4_refusalOfPairs 86 = .ok (.iinc 4 1, 3) := by decide +kernel
theorem dX4_refusalOfPairs_89 : decode cX4_refusalOfPairs 89 = .ok (.goto (-86), 3) := by decide +kernel
theorem dX4_refusalOfPairs_92 : decode cX4_refusalOfPairs 92 = .ok (.iconst 0, 1) := by decide +kernel
theorem dX4_refusalOfPairs_93 : decode cX4_refusalOfPairs 93 = .ok (.ireturn, 1) := by decide +kernel
theorem dX4_sailVoyage_0 : decode cX4_sailVoyage 0 = .ok (.iconst 0, 1) := by decide +kernel
theorem dX4_sailVoyage_1 : decode cX4_sailVoyage 1 = .ok (.istore 4, 2) := by decide +kernel
theorem dX4_sailVoyage_3 : decode cX4_sailVoyage 3 = .ok (.iload 4, 2) := by decide +kernel
theorem dX4_sailVoyage_5 : decode cX4_sailVoyage 5 = .ok (.aload_n 0, 1) := by decide +kernel
theorem dX4_sailVoyage_6 : decode cX4_sailVoyage 6 = .ok (.getfield 86, 3) := by decide +kernel
theorem dX4_sailVoyage_9 : decode cX4_sailVoyage 9 = .ok (.if_icmp .ge 26, 3) := by decide +kernel
theorem dX4_sailVoyage_12 : decode cX4_sailVoyage 12 = .ok (.aload_n 0, 1) := by decide +kernel
theorem dX4_sailVoyage_13 : decode cX4_sailVoyage 13 = .ok (.getfield 21, 3) := by decide +kernel
theorem dX4_sailVoyage_16 : decode cX4_sailVoyage 16 = .ok (.iload 4, 2) := by decide +kernel
theorem dX4_sailVoyage_18 : decode cX4_sailVoyage 18 = .ok (.aaload, 1) := by decide +kernel
theorem dX4_sailVoyage_19 : decode cX4_sailVoyage 19 = .ok (.aload_n 0, 1) := by decide +kernel
theorem dX4_sailVoyage_20 : decode cX4_sailVoyage 20 = .ok (.getfield 17, 3) := by decide +kernel
theorem dX4_sailVoyage_23 : decode cX4_sailVoyage 23 = .ok (.iload 4, 2) := by decide +kernel
theorem dX4_sailVoyage_25 : decode cX4_sailVoyage 25 = .ok (.aaload, 1) := by decide +kernel
theorem dX4_sailVoyage_26 : decode cX4_sailVoyage 26 = .ok (.invokevirtual 303, 3) := by decide +kernel
theorem dX4_sailVoyage_29 : decode cX4_sailVoyage 29 = .ok (.iinc 4 1, 3) := by decide +kernel
theorem dX4_sailVoyage_32 : decode cX4_sailVoyage 32 = .ok (.goto (-29), 3) := by decide +kernel
theorem dX4_sailVoyage_35 : decode cX4_sailVoyage 35 = .ok (.aload_n 0, 1) := by decide +kernel
theorem dX4_sailVoyage_36 : decode cX4_sailVoyage 36 = .ok (.getfield 27, 3) := by decide +kernel
theorem dX4_sailVoyage_39 : decode cX4_sailVoyage 39 = .ok (.invokevirtual 307, 3) := by decide +kernel
theorem dX4_sailVoyage_42 : decode cX4_sailVoyage 42 = .ok (.iconst 0, 1) := by decide +kernel
theorem dX4_sailVoyage_43 : decode cX4_sailVoyage 43 = .ok (.istore 4, 2) := by decide +kernel
theorem dX4_sailVoyage_45 : decode cX4_sailVoyage 45 = .ok (.iload 4, 2) := by decide +kernel
theorem dX4_sailVoyage_47 : decode cX4_sailVoyage 47 = .ok (.iload_n 3, 1) := by decide +kernel
theorem dX4_sailVoyage_48 : decode cX4_sailVoyage 48 = .ok (.if_icmp .ge 78, 3) := by decide +kernel
theorem dX4_sailVoyage_51 : decode cX4_sailVoyage 51 = .ok (.aload_n 1, 1) := by decide +kernel
theorem dX4_sailVoyage_52 : decode cX4_sailVoyage 52 = .ok (.iload_n 2, 1) := by decide +kernel
theorem dX4_sailVoyage_53 : decode cX4_sailVoyage 53 = .ok (.iconst 2, 1) := by decide +kernel
theorem dX4_sailVoyage_54 : decode cX4_sailVoyage 54 = .ok (.iload 4, 2) := by decide +kernel
theorem dX4_sailVoyage_56 : decode cX4_sailVoyage 56 = .ok (.imul, 1) := by decide +kernel
theorem dX4_sailVoyage_57 : decode cX4_sailVoyage 57 = .ok (.iadd, 1) := by decide +kernel
theorem dX4_sailVoyage_58 : decode cX4_sailVoyage 58 = .ok (.invokevirtual 267, 3) := by decide +kernel
theorem dX4_sailVoyage_61 : decode cX4_sailVoyage 61 = .ok (.istore 5, 2) := by decide +kernel
theorem dX4_sailVoyage_63 : decode cX4_sailVoyage 63 = .ok (.aload_n 1, 1) := by decide +kernel
theorem dX4_sailVoyage_64 : decode cX4_sailVoyage 64 = .ok (.iload_n 2, 1) := by decide +kernel
theorem dX4_sailVoyage_65 : decode cX4_sailVoyage 65 = .ok (.iconst 2, 1) := by decide +kernel
theorem dX4_sailVoyage_66 : decode cX4_sailVoyage 66 = .ok (.iload 4, 2) := by decide +kernel
theorem dX4_sailVoyage_68 : decode cX4_sailVoyage 68 = .ok (.imul, 1) := by decide +kernel
theorem dX4_sailVoyage_69 : decode cX4_sailVoyage 69 = .ok (.iadd, 1) := by decide +kernel
theorem dX4_sailVoyage_70 : decode cX4_sailVoyage 70 = .ok (.iconst 1, 1) := by decide +kernel
theorem dX4_sailVoyage_71 : decode cX4_sailVoyage 71 = .ok (.iadd, 1) := by decide +kernel
theorem dX4_sailVoyage_72 : decode cX4_sailVoyage 72 = .ok (.invokevirtual 267, 3) := by decide +kernel
theorem dX4_sailVoyage_75 : decode cX4_sailVoyage 75 = .ok (.istore 6, 2) := by decide +kernel
theorem dX4_sailVoyage_77 : decode cX4_sailVoyage 77 = .ok (.iload 6, 2) := by decide +kernel
theorem dX4_sailVoyage_79 : decode cX4_sailVoyage 79 = .ok (.bipush 8, 2) := by decide +kernel
theorem dX4_sailVoyage_81 : decode cX4_sailVoyage 81 = .ok (.if_icmp .ne 12, 3) := by decide +kernel
theorem dX4_sailVoyage_84 : decode cX4_sailVoyage 84 = .ok (.aload_n 0, 1) := by decide +kernel
theorem dX4_sailVoyage_85 : decode cX4_sailVoyage 85 = .ok (.iload 5, 2) := by decide +kernel
theorem dX4_sailVoyage_87 : decode cX4_sailVoyage 87 = .ok (.invokevirtual 309, 3) := by decide +kernel
theorem dX4_sailVoyage_90 : decode cX4_sailVoyage 90 = .ok (.goto 30, 3) := by decide +kernel
theorem dX4_sailVoyage_93 : decode cX4_sailVoyage 93 = .ok (.aload_n 0, 1) := by decide +kernel
theorem dX4_sailVoyage_94 : decode cX4_sailVoyage 94 = .ok (.iload 5, 2) := by decide +kernel
theorem dX4_sailVoyage_96 : decode cX4_sailVoyage 96 = .ok (.invokevirtual 89, 3) := by decide +kernel
theorem dX4_sailVoyage_99 : decode cX4_sailVoyage 99 = .ok (.ifCond .eq 18, 3) := by decide +kernel
theorem dX4_sailVoyage_102 : decode cX4_sailVoyage 102 = .ok (.aload_n 0, 1) := by decide +kernel
theorem dX4_sailVoyage_103 : decode cX4_sailVoyage 103 = .ok (.getfield 21, 3) := by decide +kernel
theorem dX4_sailVoyage_106 : decode cX4_sailVoyage 106 = .ok (.iload 5, 2) := by decide +kernel
theorem dX4_sailVoyage_108 : decode cX4_sailVoyage 108 = .ok (.aaload, 1) := by decide +kernel
theorem dX4_sailVoyage_109 : decode cX4_sailVoyage 109 = .ok (.iload 6, 2) := by decide +kernel
theorem dX4_sailVoyage_111 : decode cX4_sailVoyage 111 = .ok (.invokevirtual 313, 3) := by decide +kernel
theorem dX4_sailVoyage_114 : decode cX4_sailVoyage 114 = .ok (.ifCond .ne 6, 3) := by decide +kernel
theorem dX4_sailVoyage_117 : decode cX4_sailVoyage 117 = .ok (.iload 4, 2) := by decide +kernel
theorem dX4_sailVoyage_119 : decode cX4_sailVoyage 119 = .ok (.ireturn, 1) := by decide +kernel
theorem dX4_sailVoyage_120 : decode cX4_sailVoyage 120 = .ok (.iinc 4 1, 3) := by decide +kernel
theorem dX4_sailVoyage_123 : decode cX4_sailVoyage 123 = .ok (.goto (-78), 3) := by decide +kernel
theorem dX4_sailVoyage_126 : decode cX4_sailVoyage 126 = .ok (.bipush (-9), 2) := by decide +kernel
theorem dX4_sailVoyage_128 : decode cX4_sailVoyage 128 = .ok (.ireturn, 1) := by decide +kernel
theorem dX4_sailToldDays_0 : decode cX4_sailToldDays 0 = .ok (.iconst 0, 1) := by decide +kernel
theorem dX4_sailToldDays_1 : decode cX4_sailToldDays 1 = .ok (.istore_n 2, 1) := by decide +kernel
theorem dX4_sailToldDays_2 : decode cX4_sailToldDays 2 = .ok (.iload_n 2, 1) := by decide +kernel
theorem dX4_sailToldDays_3 : decode cX4_sailToldDays 3 = .ok (.iload_n 1, 1) := by decide +kernel
theorem dX4_sailToldDays_4 : decode cX4_sailToldDays 4 = .ok (.if_icmp .ge 73, 3) := by decide +kernel
theorem dX4_sailToldDays_7 : decode cX4_sailToldDays 7 = .ok (.iconst 0, 1) := by decide +kernel
theorem dX4_sailToldDays_8 : decode cX4_sailToldDays 8 = .ok (.istore_n 3, 1) := by decide +kernel
theorem dX4_sailToldDays_9 : decode cX4_sailToldDays 9 = .ok (.iload_n 3, 1) := by decide +kernel
theorem dX4_sailToldDays_10 : decode cX4_sailToldDays 10 = .ok (.aload_n 0, 1) := by decide +kernel
theorem dX4_sailToldDays_11 : decode cX4_sailToldDays 11 = .ok (.getfield 86, 3) := by decide +kernel
theorem dX4_sailToldDays_14 : decode cX4_sailToldDays 14 = .ok (.if_icmp .ge 57, 3) := by decide +kernel
theorem dX4_sailToldDays_17 : decode cX4_sailToldDays 17 = .ok (.aload_n 0, 1) := by decide +kernel
theorem dX4_sailToldDays_18 : decode cX4_sailToldDays 18 = .ok (.aload_n 0, 1) := by decide +kernel
theorem dX4_sailToldDays_19 : decode cX4_sailToldDays 19 = .ok (.getfield 21, 3) := by decide +kernel
theorem dX4_sailToldDays_22 : decode cX4_sailToldDays 22 = .ok (.iload_n 3, 1) := by decide +kernel
theorem dX4_sailToldDays_23 : decode cX4_sailToldDays 23 = .ok (.aaload, 1) := by decide +kernel
theorem dX4_sailToldDays_24 : decode cX4_sailToldDays 24 = .ok (.invokevirtual 133, 3) := by decide +kernel
theorem dX4_sailToldDays_27 : decode cX4_sailToldDays 27 = .ok (.istore 4, 2) := by decide +kernel
theorem dX4_sailToldDays_29 : decode cX4_sailToldDays 29 = .ok (.iload 4, 2) := by decide +kernel
theorem dX4_sailToldDays_31 : decode cX4_sailToldDays 31 = .ok (.bipush (-9), 2) := by decide +kernel
theorem dX4_sailToldDays_33 : decode cX4_sailToldDays 33 = .ok (.if_icmp .eq 32, 3) := by decide +kernel
theorem dX4_sailToldDays_36 : decode cX4_sailToldDays 36 = .ok (.aload_n 0, 1) := by decide +kernel
theorem dX4_sailToldDays_37 : decode cX4_sailToldDays 37 = .ok (.getfield 27, 3) := by decide +kernel
theorem dX4_sailToldDays_40 : decode cX4_sailToldDays 40 = .ok (.iload_n 3, 1) := by decide +kernel
theorem dX4_sailToldDays_41 : decode cX4_sailToldDays 41 = .ok (.iload 4, 2) := by decide +kernel
theorem dX4_sailToldDays_43 : decode cX4_sailToldDays 43 = .ok (.iload 4, 2) := by decide +kernel
theorem dX4_sailToldDays_45 : decode cX4_sailToldDays 45 = .ok (.aload_n 0, 1) := by decide +kernel
theorem dX4_sailToldDays_46 : decode cX4_sailToldDays 46 = .ok (.getfield 21, 3) := by decide +kernel
theorem dX4_sailToldDays_49 : decode cX4_sailToldDays 49 = .ok (.iload_n 3, 1) := by decide +kernel
theorem dX4_sailToldDays_50 : decode cX4_sailToldDays 50 = .ok (.aaload, 1) := by decide +kernel
theorem dX4_sailToldDays_51 : decode cX4_sailToldDays 51 = .ok (.getfield 95, 3) := by decide +kernel
theorem dX4_sailToldDays_54 : decode cX4_sailToldDays 54 = .ok (.if_icmp .ne 7, 3) := by decide +kernel
theorem dX4_sailToldDays_57 : decode cX4_sailToldDays 57 = .ok (.iconst 1, 1) := by decide +kernel
theorem dX4_sailToldDays_58 : decode cX4_sailToldDays 58 = .ok (.goto 4, 3) := by decide +kernel
theorem dX4_sailToldDays_61 : decode cX4_sailToldDays 61 = .ok (.iconst 0, 1) := by decide +kernel
theorem dX4_sailToldDays_62 : decode cX4_sailToldDays 62 = .ok (.invokevirtual 316, 3) := by decide +kernel
theorem dX4_sailToldDays_65 : decode cX4_sailToldDays 65 = .ok (.iinc 3 1, 3) := by decide +kernel
theorem dX4_sailToldDays_68 : decode cX4_sailToldDays 68 = .ok (.goto (-59), 3) := by decide +kernel
theorem dX4_sailToldDays_71 : decode cX4_sailToldDays 71 = .ok (.iinc 2 1, 3) := by decide +kernel
theorem dX4_sailToldDays_74 : decode cX4_sailToldDays 74 = .ok (.goto (-72), 3) := by decide +kernel
theorem dX4_sailToldDays_77 : decode cX4_sailToldDays 77 = .ok (.return_, 1) := by decide +kernel
theorem dX4_ofVoyage_0 : decode cX4_ofVoyage 0 = .ok (.iload_n 1, 1) := by decide +kernel
theorem dX4_ofVoyage_1 : decode cX4_ofVoyage 1 = .ok (.tableswitch 68 0 4 #[35, 68, 43, 52, 60], 35) := by decide +kernel
theorem dX4_ofVoyage_36 : decode cX4_ofVoyage 36 = .ok (.aload_n 0, 1) := by decide +kernel
theorem dX4_ofVoyage_37 : decode cX4_ofVoyage 37 = .ok (.getfield 27, 3) := by decide +kernel
theorem dX4_ofVoyage_40 : decode cX4_ofVoyage 40 = .ok (.getfield 320, 3) := by decide +kernel
theorem dX4_ofVoyage_43 : decode cX4_ofVoyage 43 = .ok (.ireturn, 1) := by decide +kernel
theorem dX4_ofVoyage_44 : decode cX4_ofVoyage 44 = .ok (.aload_n 0, 1) := by decide +kernel
theorem dX4_ofVoyage_45 : decode cX4_ofVoyage 45 = .ok (.aload_n 0, 1) := by decide +kernel
theorem dX4_ofVoyage_46 : decode cX4_ofVoyage 46 = .ok (.getfield 21, 3) := by decide +kernel
theorem dX4_ofVoyage_49 : decode cX4_ofVoyage 49 = .ok (.invokevirtual 258, 3) := by decide +kernel
theorem dX4_ofVoyage_52 : decode cX4_ofVoyage 52 = .ok (.ireturn, 1) := by decide +kernel
theorem dX4_ofVoyage_53 : decode cX4_ofVoyage 53 = .ok (.aload_n 0, 1) := by decide +kernel
theorem dX4_ofVoyage_54 : decode cX4_ofVoyage 54 = .ok (.getfield 27, 3) := by decide +kernel
theorem dX4_ofVoyage_57 : decode cX4_ofVoyage 57 = .ok (.getfield 323, 3) := by decide +kernel
theorem dX4_ofVoyage_60 : decode cX4_ofVoyage 60 = .ok (.ireturn, 1) := by decide +kernel
theorem dX4_ofVoyage_61 : decode cX4_ofVoyage 61 = .ok (.aload_n 0, 1) := by decide +kernel
theorem dX4_ofVoyage_62 : decode cX4_ofVoyage 62 = .ok (.getfield 27, 3) := by decide +kernel
theorem dX4_ofVoyage_65 : decode cX4_ofVoyage 65 = .ok (.getfield 326, 3) := by decide +kernel
theorem dX4_ofVoyage_68 : decode cX4_ofVoyage 68 = .ok (.ireturn, 1) := by decide +kernel
theorem dX4_ofVoyage_69 : decode cX4_ofVoyage 69 = .ok (.aload_n 0, 1) := by decide +kernel
theorem dX4_ofVoyage_70 : decode cX4_ofVoyage 70 = .ok (.iload_n 1, 1) := by decide +kernel
theorem dX4_ofVoyage_71 : decode cX4_ofVoyage 71 = .ok (.bipush 10, 2) := by decide +kernel
theorem dX4_ofVoyage_73 : decode cX4_ofVoyage 73 = .ok (.isub, 1) := by decide +kernel
theorem dX4_ofVoyage_74 : decode cX4_ofVoyage 74 = .ok (.invokevirtual 89, 3) := by decide +kernel
theorem dX4_ofVoyage_77 : decode cX4_ofVoyage 77 = .ok (.ifCond .eq 18, 3) := by decide +kernel
theorem dX4_ofVoyage_80 : decode cX4_ofVoyage 80 = .ok (.aload_n 0, 1) := by decide +kernel
theorem dX4_ofVoyage_81 : decode cX4_ofVoyage 81 = .ok (.getfield 21, 3) := by decide +kernel
theorem dX4_ofVoyage_84 : decode cX4_ofVoyage 84 = .ok (.iload_n 1, 1) := by decide +kernel
theorem dX4_ofVoyage_85 : decode cX4_ofVoyage 85 = .ok (.bipush 10, 2) := by decide +kernel
theorem dX4_ofVoyage_87 : decode cX4_ofVoyage 87 = .ok (.isub, 1) := by decide +kernel
theorem dX4_ofVoyage_88 : decode cX4_ofVoyage 88 = .ok (.aaload, 1) := by decide +kernel
theorem dX4_ofVoyage_89 : decode cX4_ofVoyage 89 = .ok (.invokevirtual 112, 3) := by decide +kernel
theorem dX4_ofVoyage_92 : decode cX4_ofVoyage 92 = .ok (.goto 5, 3) := by decide +kernel
theorem dX4_ofVoyage_95 : decode cX4_ofVoyage 95 = .ok (.bipush (-9), 2) := by decide +kernel
theorem dX4_ofVoyage_97 : decode cX4_ofVoyage 97 = .ok (.ireturn, 1) := by decide +kernel
theorem dX4_readingsAreSo_0 : decode cX4_readingsAreSo 0 = .ok (.iconst 0, 1) := by decide +kernel
theorem dX4_readingsAreSo_1 : decode cX4_readingsAreSo 1 = .ok (.istore_n 3, 1) := by decide +kernel
theorem dX4_readingsAreSo_2 : decode cX4_readingsAreSo 2 = .ok (.iload_n 3, 1) := by decide +kernel
theorem dX4_readingsAreSo_3 : decode cX4_readingsAreSo 3 = .ok (.aload_n 0, 1) := by decide +kernel
theorem dX4_readingsAreSo_4 : decode cX4_readingsAreSo 4 = .ok (.getfield 181, 3) := by decide +kernel
theorem dX4_readingsAreSo_7 : decode cX4_readingsAreSo 7 = .ok (.if_icmp .ge 75, 3) := by decide +kernel
theorem dX4_readingsAreSo_10 : decode cX4_readingsAreSo 10 = .ok (.aload_n 0, 1) := by decide +kernel
theorem dX4_readingsAreSo_11 : decode cX4_readingsAreSo 11 = .ok (.getfield 41, 3) := by decide +kernel
theorem dX4_readingsAreSo_14 : decode cX4_readingsAreSo 14 = .ok (.iload_n 3, 1) := by decide +kernel
theorem dX4_readingsAreSo_15 : decode cX4_readingsAreSo 15 = .ok (.iaload, 1) := by decide +kernel
theorem dX4_readingsAreSo_16 : decode cX4_readingsAreSo 16 = .ok (.iload_n 1, 1) := by decide +kernel
theorem dX4_readingsAreSo_17 : decode cX4_readingsAreSo 17 = .ok (.if_icmp .ne 7, 3) := by decide +kernel
theorem dX4_readingsAreSo_20 : decode cX4_readingsAreSo 20 = .ok (.iload_n 2, 1) := by decide +kernel
theorem dX4_readingsAreSo_21 : decode cX4_readingsAreSo 21 = .ok (.goto 17, 3) := by decide +kernel
theorem dX4_readingsAreSo_24 : decode cX4_readingsAreSo 24 = .ok (.aload_n 0, 1) := by decide +kernel
theorem dX4_readingsAreSo_25 : decode cX4_readingsAreSo 25 = .ok (.getfield 17, 3) := by decide +kernel
theorem dX4_readingsAreSo_28 : decode cX4_readingsAreSo 28 = .ok (.aload_n 0, 1) := by decide +kernel
theorem dX4_readingsAreSo_29 : decode cX4_readingsAreSo 29 = .ok (.getfield 41, 3) := by decide +kernel
theorem dX4_readingsAreSo_32 : decode cX4_readingsAreSo 32 = .ok (.iload_n 3, 1) := by decide +kernel
theorem dX4_readingsAreSo_33 : decode cX4_readingsAreSo 33 = .ok (.iaload, 1) := by decide +kernel
theorem dX4_readingsAreSo_34 : decode cX4_readingsAreSo 34 = .ok (.aaload, 1) := by decide +kernel
theorem dX4_readingsAreSo_35 : decode cX4_readingsAreSo 35 = .ok (.invokevirtual 101, 3) := by decide +kernel
theorem dX4_readingsAreSo_38 : decode cX4_readingsAreSo 38 = .ok (.istore 4, 2) := by decide +kernel
theorem dX4_readingsAreSo_40 : decode cX4_readingsAreSo 40 = .ok (.aload_n 0, 1) := by decide +kernel
theorem dX4_readingsAreSo_41 : decode cX4_readingsAreSo 41 = .ok (.getfield 11, 3) := by decide +kernel
theorem dX4_readingsAreSo_44 : decode cX4_readingsAreSo 44 = .ok (.aload_n 0, 1) := by decide +kernel
theorem dX4_readingsAreSo_45 : decode cX4_readingsAreSo 45 = .ok (.getfield 44, 3) := by decide +kernel
theorem dX4_readingsAreSo_48 : decode cX4_readingsAreSo 48 = .ok (.iload_n 3, 1) := by decide +kernel
theorem dX4_readingsAreSo_49 : decode cX4_readingsAreSo 49 = .ok (.iaload, 1) := by decide +kernel
theorem dX4_readingsAreSo_50 : decode cX4_readingsAreSo 50 = .ok (.iaload, 1) := by decide +kernel
theorem dX4_readingsAreSo_51 : decode cX4_readingsAreSo 51 = .ok (.iload 4, 2) := by decide +kernel
theorem dX4_readingsAreSo_53 : decode cX4_readingsAreSo 53 = .ok (.if_icmp .le 7, 3) := by decide +kernel
theorem dX4_readingsAreSo_56 : decode cX4_readingsAreSo 56 = .ok (.iconst 1, 1) := by decide +kernel
theorem dX4_readingsAreSo_57 : decode cX4_readingsAreSo 57 = .ok (.goto 4, 3) := by decide +kernel
theorem dX4_readingsAreSo_60 : decode cX4_readingsAreSo 60 = .ok (.iconst 0, 1) := by decide +kernel
theorem dX4_readingsAreSo_61 : decode cX4_readingsAreSo 61 = .ok (.istore 5, 2) := by decide +kernel
theorem dX4_readingsAreSo_63 : decode cX4_readingsAreSo 63 = .ok (.iload 5, 2) := by decide +kernel
theorem dX4_readingsAreSo_65 : decode cX4_readingsAreSo 65 = .ok (.aload_n 0, 1) := by decide +kernel
theorem dX4_readingsAreSo_66 : decode cX4_readingsAreSo 66 = .ok (.getfield 47, 3) := by decide +kernel
theorem dX4_readingsAreSo_69 : decode cX4_readingsAreSo 69 = .ok (.iload_n 3, 1) := by decide +kernel
theorem dX4_readingsAreSo_70 : decode cX4_readingsAreSo 70 = .ok (.iaload, 1) := by decide +kernel
theorem dX4_readingsAreSo_71 : decode cX4_readingsAreSo 71 = .ok (.if_icmp .eq 5, 3) := by decide +kernel
theorem dX4_readingsAreSo_74 : decode cX4_readingsAreSo 74 = .ok (.iconst 0, 1) := by decide +kernel
theorem dX4_readingsAreSo_75 : decode cX4_readingsAreSo 75 = .ok (.ireturn, 1) := by decide +kernel
theorem dX4_readingsAreSo_76 : decode cX4_readingsAreSo 76 = .ok (.iinc 3 1, 3) := by decide +kernel
theorem dX4_readingsAreSo_79 : decode cX4_readingsAreSo 79 = .ok (.goto (-77), 3) := by decide +kernel
theorem dX4_readingsAreSo_82 : decode cX4_readingsAreSo 82 = .ok (.iconst 1, 1) := by decide +kernel
theorem dX4_readingsAreSo_83 : decode cX4_readingsAreSo 83 = .ok (.ireturn, 1) := by decide +kernel
theorem dX4_ofShare_0 : decode cX4_ofShare 0 = .ok (.iload_n 2, 1) := by decide +kernel
theorem dX4_ofShare_1 : decode cX4_ofShare 1 = .ok (.ifCond .ne 7, 3) := by decide +kernel
theorem dX4_ofShare_4 : decode cX4_ofShare 4 = .ok (.iload_n 0, 1) := by decide +kernel
theorem dX4_ofShare_5 : decode cX4_ofShare 5 = .ok (.goto 4, 3) := by decide +kernel
theorem dX4_ofShare_8 : decode cX4_ofShare 8 = .ok (.iload_n 1, 1) := by decide +kernel
theorem dX4_ofShare_9 : decode cX4_ofShare 9 = .ok (.istore_n 3, 1) := by decide +kernel
theorem dX4_ofShare_10 : decode cX4_ofShare 10 = .ok (.iload_n 0, 1) := by decide +kernel
theorem dX4_ofShare_11 : decode cX4_ofShare 11 = .ok (.iload_n 1, 1) := by decide +kernel
theorem dX4_ofShare_12 : decode cX4_ofShare 12 = .ok (.invokestatic 329, 3) := by decide +kernel
theorem dX4_ofShare_15 : decode cX4_ofShare 15 = .ok (.istore 4, 2) := by decide +kernel
theorem dX4_ofShare_17 : decode cX4_ofShare 17 = .ok (.iload 4, 2) := by decide +kernel
theorem dX4_ofShare_19 : decode cX4_ofShare 19 = .ok (.iconst 1, 1) := by decide +kernel
theorem dX4_ofShare_20 : decode cX4_ofShare 20 = .ok (.if_icmp .le 11, 3) := by decide +kernel
theorem dX4_ofShare_23 : decode cX4_ofShare 23 = .ok (.iload_n 3, 1) := by decide +kernel
theorem dX4_ofShare_24 : decode cX4_ofShare 24 = .ok (.iload 4, 2) := by decide +kernel
theorem dX4_ofShare_26 : decode cX4_ofShare 26 = .ok (.idiv, 1) := by decide +kernel
theorem dX4_ofShare_27 : decode cX4_ofShare 27 = .ok (.i2l, 1) := by decide +kernel
theorem dX4_ofShare_28 : decode cX4_ofShare 28 = .ok (.goto 5, 3) := by decide +kernel
theorem dX4_ofShare_31 : decode cX4_ofShare 31 = .ok (.iload_n 3, 1) := by decide +kernel
theorem dX4_ofShare_32 : decode cX4_ofShare 32 = .ok (.i2l, 1) := by decide +kernel
theorem dX4_ofShare_33 : decode cX4_ofShare 33 = .ok (.lreturn, 1) := by decide +kernel
theorem dX4_commonDivisor_0 : decode cX4_commonDivisor 0 = .ok (.iload_n 1, 1) := by decide +kernel
theorem dX4_commonDivisor_1 : decode cX4_commonDivisor 1 = .ok (.istore_n 2, 1) := by decide +kernel
theorem dX4_commonDivisor_2 : decode cX4_commonDivisor 2 = .ok (.iload_n 2, 1) := by decide +kernel
theorem dX4_commonDivisor_3 : decode cX4_commonDivisor 3 = .ok (.iconst 1, 1) := by decide +kernel
theorem dX4_commonDivisor_4 : decode cX4_commonDivisor 4 = .ok (.if_icmp .le 23, 3) := by decide +kernel
theorem dX4_commonDivisor_7 : decode cX4_commonDivisor 7 = .ok (.iload_n 0, 1) := by decide +kernel
theorem dX4_commonDivisor_8 : decode cX4_commonDivisor 8 = .ok (.iload_n 2, 1) := by decide +kernel
theorem dX4_commonDivisor_9 : decode cX4_commonDivisor 9 = .ok (.irem, 1) := by decide +kernel
theorem dX4_commonDivisor_10 : decode cX4_commonDivisor 10 = .ok (.ifCond .ne 11, 3) := by decide +kernel
theorem dX4_commonDivisor_13 : decode cX4_commonDivisor 13 = .ok (.iload_n 1, 1) := by decide +kernel
theorem dX4_commonDivisor_14 : decode cX4_commonDivisor 14 = .ok (.iload_n 2, 1) := by decide +kernel
theorem dX4_commonDivisor_15 : decode cX4_commonDivisor 15 = .ok (.irem, 1) := by decide +kernel
theorem dX4_commonDivisor_16 : decode cX4_commonDivisor 16 = .ok (.ifCond .ne 5, 3) := by decide +kernel
theorem dX4_commonDivisor_19 : decode cX4_commonDivisor 19 = .ok (.iload_n 2, 1) := by decide +kernel
theorem dX4_commonDivisor_20 : decode cX4_commonDivisor 20 = .ok (.ireturn, 1) := by decide +kernel
theorem dX4_commonDivisor_21 : decode cX4_commonDivisor 21 = .ok (.iinc 2 (-1), 3) := by decide +kernel
theorem dX4_commonDivisor_24 : decode cX4_commonDivisor 24 = .ok (.goto (-22), 3) := by decide +kernel
theorem dX4_commonDivisor_27 : decode cX4_commonDivisor 27 = .ok (.iconst 1, 1) := by decide +kernel
theorem dX4_commonDivisor_28 : decode cX4_commonDivisor 28 = .ok (.ireturn, 1) := by decide +kernel
theorem dX4_leave_0 : decode cX4_leave 0 = .ok (.aload_n 0, 1) := by decide +kernel
theorem dX4_leave_1 : decode cX4_leave 1 = .ok (.bipush 31, 2) := by decide +kernel
theorem dX4_leave_3 : decode cX4_leave 3 = .ok (.aload_n 0, 1) := by decide +kernel
theorem dX4_leave_4 : decode cX4_leave 4 = .ok (.getfield 255, 3) := by decide +kernel
theorem dX4_leave_7 : decode cX4_leave 7 = .ok (.imul, 1) := by decide +kernel
theorem dX4_leave_8 : decode cX4_leave 8 = .ok (.iload_n 1, 1) := by decide +kernel
theorem dX4_leave_9 : decode cX4_leave 9 = .ok (.iadd, 1) := by decide +kernel
theorem dX4_leave_10 : decode cX4_leave 10 = .ok (.putfield 255, 3) := by decide +kernel
theorem dX4_leave_13 : decode cX4_leave 13 = .ok (.return_, 1) := by decide +kernel
theorem dX4_tellBarge_0 : decode cX4_tellBarge 0 = .ok (.aload_n 0, 1) := by decide +kernel
theorem dX4_tellBarge_1 : decode cX4_tellBarge 1 = .ok (.iconst 1, 1) := by decide +kernel
theorem dX4_tellBarge_2 : decode cX4_tellBarge 2 = .ok (.invokevirtual 332, 3) := by decide +kernel
theorem dX4_tellBarge_5 : decode cX4_tellBarge 5 = .ok (.aload_n 1, 1) := by decide +kernel
theorem dX4_tellBarge_6 : decode cX4_tellBarge 6 = .ok (.getfield 98, 3) := by decide +kernel
theorem dX4_tellBarge_9 : decode cX4_tellBarge 9 = .ok (.ireturn, 1) := by decide +kernel
theorem dX4_tellCutter_0 : decode cX4_tellCutter 0 = .ok (.aload_n 0, 1) := by decide +kernel
theorem dX4_tellCutter_1 : decode cX4_tellCutter 1 = .ok (.iconst 2, 1) := by decide +kernel
theorem dX4_tellCutter_2 : decode cX4_tellCutter 2 = .ok (.invokevirtual 332, 3) := by decide +kernel
theorem dX4_tellCutter_5 : decode cX4_tellCutter 5 = .ok (.aload_n 0, 1) := by decide +kernel
theorem dX4_tellCutter_6 : decode cX4_tellCutter 6 = .ok (.aload_n 1, 1) := by decide +kernel
theorem dX4_tellCutter_7 : decode cX4_tellCutter 7 = .ok (.invokevirtual 246, 3) := by decide +kernel
theorem dX4_tellCutter_10 : decode cX4_tellCutter 10 = .ok (.bipush 100, 2) := by decide +kernel
theorem dX4_tellCutter_12 : decode cX4_tellCutter 12 = .ok (.iadd, 1) := by decide +kernel
theorem dX4_tellCutter_13 : decode cX4_tellCutter 13 = .ok (.ireturn, 1) := by decide +kernel
theorem dX4_tellSloop_0 : decode cX4_tellSloop 0 = .ok (.aload_n 0, 1) := by decide +kernel
theorem dX4_tellSloop_1 : decode cX4_tellSloop 1 = .ok (.iconst 3, 1) := by decide +kernel
theorem dX4_tellSloop_2 : decode cX4_tellSloop 2 = .ok (.invokevirtual 332, 3) := by decide +kernel
theorem dX4_tellSloop_5 : decode cX4_tellSloop 5 = .ok (.aload_n 0, 1) := by decide +kernel
theorem dX4_tellSloop_6 : decode cX4_tellSloop 6 = .ok (.aload_n 1, 1) := by decide +kernel
theorem dX4_tellSloop_7 : decode cX4_tellSloop 7 = .ok (.invokevirtual 243, 3) := by decide +kernel
theorem dX4_tellSloop_10 : decode cX4_tellSloop 10 = .ok (.istore_n 2, 1) := by decide +kernel
theorem dX4_tellSloop_11 : decode cX4_tellSloop 11 = .ok (.iload_n 2, 1) := by decide +kernel
theorem dX4_tellSloop_12 : decode cX4_tellSloop 12 = .ok (.aload_n 0, 1) := by decide +kernel
theorem dX4_tellSloop_13 : decode cX4_tellSloop 13 = .ok (.aload_n 1, 1) := by decide +kernel
theorem dX4_tellSloop_14 : decode cX4_tellSloop 14 = .ok (.invokevirtual 246, 3) := by decide +kernel
theorem dX4_tellSloop_17 : decode cX4_tellSloop 17 = .ok (.iadd, 1) := by decide +kernel
theorem dX4_tellSloop_18 : decode cX4_tellSloop 18 = .ok (.ireturn, 1) := by decide +kernel
theorem dX4_hailLent_0 : decode cX4_hailLent 0 = .ok (.aload_n 0, 1) := by decide +kernel
theorem dX4_hailLent_1 : decode cX4_hailLent 1 = .ok (.iconst 4, 1) := by decide +kernel
theorem dX4_hailLent_2 : decode cX4_hailLent 2 = .ok (.invokevirtual 332, 3) := by decide +kernel
theorem dX4_hailLent_5 : decode cX4_hailLent 5 = .ok (.aload_n 1, 1) := by decide +kernel
theorem dX4_hailLent_6 : decode cX4_hailLent 6 = .ok (.getfield 95, 3) := by decide +kernel
theorem dX4_hailLent_9 : decode cX4_hailLent 9 = .ok (.ireturn, 1) := by decide +kernel
theorem dX4_hailSloop_0 : decode cX4_hailSloop 0 = .ok (.aload_n 0, 1) := by decide +kernel
theorem dX4_hailSloop_1 : decode cX4_hailSloop 1 = .ok (.iconst 5, 1) := by decide +kernel
theorem dX4_hailSloop_2 : decode cX4_hailSloop 2 = .ok (.invokevirtual 332, 3) := by decide +kernel
theorem dX4_hailSloop_5 : decode cX4_hailSloop 5 = .ok (.bipush 60, 2) := by decide +kernel
theorem dX4_hailSloop_7 : decode cX4_hailSloop 7 = .ok (.ireturn, 1) := by decide +kernel
theorem dX4_cutTo_0 : decode cX4_cutTo 0 = .ok (.iload_n 0, 1) := by decide +kernel
theorem dX4_cutTo_1 : decode cX4_cutTo 1 = .ok (.lookupswitch 33 #[(0, 27), (1, 30)], 27) := by decide +kernel
theorem dX4_cutTo_28 : decode cX4_cutTo 28 = .ok (.iload_n 1, 1) := by decide +kernel
theorem dX4_cutTo_29 : decode cX4_cutTo 29 = .ok (.i2b, 1) := by decide +kernel
theorem dX4_cutTo_30 : decode cX4_cutTo 30 = .ok (.ireturn, 1) := by decide +kernel
theorem dX4_cutTo_31 : decode cX4_cutTo 31 = .ok (.iload_n 1, 1) := by decide +kernel
theorem dX4_cutTo_32 : decode cX4_cutTo 32 = .ok (.i2s, 1) := by decide +kernel
theorem dX4_cutTo_33 : decode cX4_cutTo 33 = .ok (.ireturn, 1) := by decide +kernel
theorem dX4_cutTo_34 : decode cX4_cutTo 34 = .ok (.iload_n 1, 1) := by decide +kernel
theorem dX4_cutTo_35 : decode cX4_cutTo 35 = .ok (.ireturn, 1) := by decide +kernel
