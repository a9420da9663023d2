theorem dX10_init_0 : decode cX10_init 0 = .ok (.aload_n 0, 1) := by decide +kernel
theorem dX10_init_1 : decode cX10_init 1 = .ok (.invokespecial 1, 3) := by decide +kernel
theorem dX10_init_4 : decode cX10_init 4 = .ok (.aload_n 0, 1) := by decide +kernel
theorem dX10_init_5 : decode cX10_init 5 = .ok (.sipush 643, 3) := by decide +kernel
theorem dX10_init_8 : decode cX10_init 8 = .ok (.newarray .int, 2) := by decide +kernel
theorem dX10_init_10 : decode cX10_init 10 = .ok (.putfield 7, 3) := by decide +kernel
theorem dX10_init_13 : decode cX10_init 13 = .ok (.aload_n 0, 1) := by decide +kernel
theorem dX10_init_14 : decode cX10_init 14 = .ok (.sipush 2572, 3) := by decide +kernel
theorem dX10_init_17 : decode cX10_init 17 = .ok (.newarray .int, 2) := by decide +kernel
theorem dX10_init_19 : decode cX10_init 19 = .ok (.putfield 13, 3) := by decide +kernel
theorem dX10_init_22 : decode cX10_init 22 = .ok (.aload_n 0, 1) := by decide +kernel
theorem dX10_init_23 : decode cX10_init 23 = .ok (.sipush 643, 3) := by decide +kernel
theorem dX10_init_26 : decode cX10_init 26 = .ok (.newarray .int, 2) := by decide +kernel
theorem dX10_init_28 : decode cX10_init 28 = .ok (.putfield 16, 3) := by decide +kernel
theorem dX10_init_31 : decode cX10_init 31 = .ok (.aload_n 0, 1) := by decide +kernel
theorem dX10_init_32 : decode cX10_init 32 = .ok (.bipush 60, 2) := by decide +kernel
theorem dX10_init_34 : decode cX10_init 34 = .ok (.newarray .int, 2) := by decide +kernel
theorem dX10_init_36 : decode cX10_init 36 = .ok (.putfield 19, 3) := by decide +kernel
theorem dX10_init_39 : decode cX10_init 39 = .ok (.aload_n 0, 1) := by decide +kernel
theorem dX10_init_40 : decode cX10_init 40 = .ok (.iconst 4, 1) := by decide +kernel
theorem dX10_init_41 : decode cX10_init 41 = .ok (.newarray .int, 2) := by decide +kernel
theorem dX10_init_43 : decode cX10_init 43 = .ok (.putfield 22, 3) := by decide +kernel
theorem dX10_init_46 : decode cX10_init 46 = .ok (.aload_n 0, 1) := by decide +kernel
theorem dX10_init_47 : decode cX10_init 47 = .ok (.iconst 2, 1) := by decide +kernel
theorem dX10_init_48 : decode cX10_init 48 = .ok (.newarray .int, 2) := by decide +kernel
theorem dX10_init_50 : decode cX10_init 50 = .ok (.putfield 25, 3) := by decide +kernel
theorem dX10_init_53 : decode cX10_init 53 = .ok (.aload_n 0, 1) := by decide +kernel
theorem dX10_init_54 : decode cX10_init 54 = .ok (.iconst 3, 1) := by decide +kernel
theorem dX10_init_55 : decode cX10_init 55 = .ok (.newarray .int, 2) := by decide +kernel
theorem dX10_init_57 : decode cX10_init 57 = .ok (.putfield 28, 3) := by decide +kernel
theorem dX10_init_60 : decode cX10_init 60 = .ok (.aload_n 0, 1) := by decide +kernel
theorem dX10_init_61 : decode cX10_init 61 = .ok (.getfield 7, 3) := by decide +kernel
theorem dX10_init_64 : decode cX10_init 64 = .ok (.iconst 0, 1) := by decide +kernel
theorem dX10_init_65 : decode cX10_init 65 = .ok (.bipush 20, 2) := by decide +kernel
theorem dX10_init_67 : decode cX10_init 67 = .ok (.iastore, 1) := by decide +kernel
theorem dX10_init_68 : decode cX10_init 68 = .ok (.aload_n 0, 1) := by decide +kernel
theorem dX10_init_69 : decode cX10_init 69 = .ok (.getfield 7, 3) := by decide +kernel
theorem dX10_init_72 : decode cX10_init 72 = .ok (.iconst 1, 1) := by decide +kernel
theorem dX10_init_73 : decode cX10_init 73 = .ok (.iconst 5, 1) := by decide +kernel
theorem dX10_init_74 : decode cX10_init 74 = .ok (.iastore, 1) := by decide +kernel
theorem dX10_init_75 : decode cX10_init 75 = .ok (.aload_n 0, 1) := by decide +kernel
theorem dX10_init_76 : decode cX10_init 76 = .ok (.getfield 7, 3) := by decide +kernel
theorem dX10_init_79 : decode cX10_init 79 = .ok (.iconst 2, 1) := by decide +kernel
theorem dX10_init_80 : decode cX10_init 80 = .ok (.sipush 200, 3) := by decide +kernel
theorem dX10_init_83 : decode cX10_init 83 = .ok (.iastore, 1) := by decide +kernel
theorem dX10_init_84 : decode cX10_init 84 = .ok (.aload_n 0, 1) := by decide +kernel
theorem dX10_init_85 : decode cX10_init 85 = .ok (.getfield 7, 3) := by decide +kernel
theorem dX10_init_88 : decode cX10_init 88 = .ok (.iconst 3, 1) := by decide +kernel
theorem dX10_init_89 : decode cX10_init 89 = .ok (.sipush 8000, 3) := by decide +kernel
theorem dX10_init_92 : decode cX10_init 92 = .ok (.iastore, 1) := by decide +kernel
theorem dX10_init_93 : decode cX10_init 93 = .ok (.aload_n 0, 1) := by decide +kernel
theorem dX10_init_94 : decode cX10_init 94 = .ok (.getfield 7, 3) := by decide +kernel
theorem dX10_init_97 : decode cX10_init 97 = .ok (.iconst 4, 1) := by decide +kernel
theorem dX10_init_98 : decode cX10_init 98 = .ok (.sipush 150, 3) := by decide +kernel
theorem dX10_init_101 : decode cX10_init 101 = .ok (.iastore, 1) := by decide +kernel
theorem dX10_init_102 : decode cX10_init 102 = .ok (.aload_n 0, 1) := by decide +kernel
theorem dX10_init_103 : decode cX10_init 103 = .ok (.getfield 7, 3) := by decide +kernel
theorem dX10_init_106 : decode cX10_init 106 = .ok (.iconst 5, 1) := by decide +kernel
theorem dX10_init_107 : decode cX10_init 107 = .ok (.bipush 10, 2) := by decide +kernel
theorem dX10_init_109 : decode cX10_init 109 = .ok (.iastore, 1) := by decide +kernel
theorem dX10_init_110 : decode cX10_init 110 = .ok (.aload_n 0, 1) := by decide +kernel
theorem dX10_init_111 : decode cX10_init 111 = .ok (.getfield 7, 3) := by decide +kernel
theorem dX10_init_114 : decode cX10_init 114 = .ok (.bipush 6, 2) := by decide +kernel
theorem dX10_init_116 : decode cX10_init 116 = .ok (.sipush 2000, 3) := by decide +kernel
theorem dX10_init_119 : decode cX10_init 119 = .ok (.iastore, 1) := by decide +kernel
theorem dX10_init_120 : decode cX10_init 120 = .ok (.return_, 1) := by decide +kernel
theorem dX10_in_0 : decode cX10_in 0 = .ok (.iload_n 0, 1) := by decide +kernel
theorem dX10_in_1 : decode cX10_in 1 = .ok (.iload_n 1, 1) := by decide +kernel
theorem dX10_in_2 : decode cX10_in 2 = .ok (.if_icmp .lt 12, 3) := by decide +kernel
theorem dX10_in_5 : decode cX10_in 5 = .ok (.iload_n 0, 1) := by decide +kernel
theorem dX10_in_6 : decode cX10_in 6 = .ok (.iload_n 2, 1) := by decide +kernel
theorem dX10_in_7 : decode cX10_in 7 = .ok (.if_icmp .gt 7, 3) := by decide +kernel
theorem dX10_in_10 : decode cX10_in 10 = .ok (.iconst 1, 1) := by decide +kernel
theorem dX10_in_11 : decode cX10_in 11 = .ok (.goto 4, 3) := by decide +kernel
theorem dX10_in_14 : decode cX10_in 14 = .ok (.iconst 0, 1) := by decide +kernel
theorem dX10_in_15 : decode cX10_in 15 = .ok (.ireturn, 1) := by decide +kernel
theorem dX10_isVat_0 : decode cX10_isVat 0 = .ok (.iload_n 1, 1) := by decide +kernel
theorem dX10_isVat_1 : decode cX10_isVat 1 = .ok (.iconst 0, 1) := by decide +kernel
theorem dX10_isVat_2 : decode cX10_isVat 2 = .ok (.aload_n 0, 1) := by decide +kernel
theorem dX10_isVat_3 : decode cX10_isVat 3 = .ok (.getfield 7, 3) := by decide +kernel
theorem dX10_isVat_6 : decode cX10_isVat 6 = .ok (.bipush 7, 2) := by decide +kernel
theorem dX10_isVat_8 : decode cX10_isVat 8 = .ok (.iaload, 1) := by decide +kernel
theorem dX10_isVat_9 : decode cX10_isVat 9 = .ok (.iconst 1, 1) := by decide +kernel
theorem dX10_isVat_10 : decode cX10_isVat 10 = .ok (.isub, 1) := by decide +kernel
theorem dX10_isVat_11 : decode cX10_isVat 11 = .ok (.invokestatic 31, 3) := by decide +kernel
theorem dX10_isVat_14 : decode cX10_isVat 14 = .ok (.ireturn, 1) := by decide +kernel
theorem dX10_isLot_0 : decode cX10_isLot 0 = .ok (.iload_n 1, 1) := by decide +kernel
theorem dX10_isLot_1 : decode cX10_isLot 1 = .ok (.iconst 0, 1) := by decide +kernel
theorem dX10_isLot_2 : decode cX10_isLot 2 = .ok (.aload_n 0, 1) := by decide +kernel
theorem dX10_isLot_3 : decode cX10_isLot 3 = .ok (.getfield 7, 3) := by decide +kernel
theorem dX10_isLot_6 : decode cX10_isLot 6 = .ok (.bipush 8, 2) := by decide +kernel
theorem dX10_isLot_8 : decode cX10_isLot 8 = .ok (.iaload, 1) := by decide +kernel
theorem dX10_isLot_9 : decode cX10_isLot 9 = .ok (.iconst 1, 1) := by decide +kernel
theorem dX10_isLot_10 : decode cX10_isLot 10 = .ok (.isub, 1) := by decide +kernel
theorem dX10_isLot_11 : decode cX10_isLot 11 = .ok (.invokestatic 31, 3) := by decide +kernel
theorem dX10_isLot_14 : decode cX10_isLot 14 = .ok (.ireturn, 1) := by decide +kernel
theorem dX10_isOrder_0 : decode cX10_isOrder 0 = .ok (.iload_n 1, 1) := by decide +kernel
theorem dX10_isOrder_1 : decode cX10_isOrder 1 = .ok (.iconst 0, 1) := by decide +kernel
theorem dX10_isOrder_2 : decode cX10_isOrder 2 = .ok (.aload_n 0, 1) := by decide +kernel
theorem dX10_isOrder_3 : decode cX10_isOrder 3 = .ok (.getfield 7, 3) := by decide +kernel
theorem dX10_isOrder_6 : decode cX10_isOrder 6 = .ok (.bipush 9, 2) := by decide +kernel
theorem dX10_isOrder_8 : decode cX10_isOrder 8 = .ok (.iaload, 1) := by decide +kernel
theorem dX10_isOrder_9 : decode cX10_isOrder 9 = .ok (.iconst 1, 1) := by decide +kernel
theorem dX10_isOrder_10 : decode cX10_isOrder 10 = .ok (.isub, 1) := by decide +kernel
theorem dX10_isOrder_11 : decode cX10_isOrder 11 = .ok (.invokestatic 31, 3) := by decide +kernel
theorem dX10_isOrder_14 : decode cX10_isOrder 14 = .ok (.ireturn, 1) := by decide +kernel
theorem dX10_isDye_0 : decode cX10_isDye 0 = .ok (.iload_n 0, 1) := by decide +kernel
theorem dX10_isDye_1 : decode cX10_isDye 1 = .ok (.iconst 0, 1) := by decide +kernel
theorem dX10_isDye_2 : decode cX10_isDye 2 = .ok (.iconst 3, 1) := by decide +kernel
theorem dX10_isDye_3 : decode cX10_isDye 3 = .ok (.invokestatic 31, 3) := by decide +kernel
theorem dX10_isDye_6 : decode cX10_isDye 6 = .ok (.ireturn, 1) := by decide +kernel
theorem dX10_vatNumber_0 : decode cX10_vatNumber 0 = .ok (.aload_n 0, 1) := by decide +kernel
theorem dX10_vatNumber_1 : decode cX10_vatNumber 1 = .ok (.getfield 7, 3) := by decide +kernel
theorem dX10_vatNumber_4 : decode cX10_vatNumber 4 = .ok (.bipush 19, 2) := by decide +kernel
theorem dX10_vatNumber_6 : decode cX10_vatNumber 6 = .ok (.iconst 4, 1) := by decide +kernel
theorem dX10_vatNumber_7 : decode cX10_vatNumber 7 = .ok (.iload_n 1, 1) := by decide +kernel
theorem dX10_vatNumber_8 : decode cX10_vatNumber 8 = .ok (.imul, 1) := by decide +kernel
theorem dX10_vatNumber_9 : decode cX10_vatNumber 9 = .ok (.iadd, 1) := by decide +kernel
theorem dX10_vatNumber_10 : decode cX10_vatNumber 10 = .ok (.iload_n 2, 1) := by decide +kernel
theorem dX10_vatNumber_11 : decode cX10_vatNumber 11 = .ok (.iadd, 1) := by decide +kernel
theorem dX10_vatNumber_12 : decode cX10_vatNumber 12 = .ok (.iaload, 1) := by decide +kernel
theorem dX10_vatNumber_13 : decode cX10_vatNumber 13 = .ok (.ireturn, 1) := by decide +kernel
theorem dX10_lotNumber_0 : decode cX10_lotNumber 0 = .ok (.aload_n 0, 1) := by decide +kernel
theorem dX10_lotNumber_1 : decode cX10_lotNumber 1 = .ok (.getfield 7, 3) := by decide +kernel
theorem dX10_lotNumber_4 : decode cX10_lotNumber 4 = .ok (.bipush 43, 2) := by decide +kernel
theorem dX10_lotNumber_6 : decode cX10_lotNumber 6 = .ok (.bipush 15, 2) := by decide +kernel
theorem dX10_lotNumber_8 : decode cX10_lotNumber 8 = .ok (.iload_n 1, 1) := by decide +kernel
theorem dX10_lotNumber_9 : decode cX10_lotNumber 9 = .ok (.imul, 1) := by decide +kernel
theorem dX10_lotNumber_10 : decode cX10_lotNumber 10 = .ok (.iadd, 1) := by decide +kernel
theorem dX10_lotNumber_11 : decode cX10_lotNumber 11 = .ok (.iload_n 2, 1) := by decide +kernel
theorem dX10_lotNumber_12 : decode cX10_lotNumber 12 = .ok (.iadd, 1) := by decide +kernel
theorem dX10_lotNumber_13 : decode cX10_lotNumber 13 = .ok (.iaload, 1) := by decide +kernel
theorem dX10_lotNumber_14 : decode cX10_lotNumber 14 = .ok (.ireturn, 1) := by decide +kernel
theorem dX10_puts_0 : decode cX10_puts 0 = .ok (.aload_n 0, 1) := by decide +kernel
theorem dX10_puts_1 : decode cX10_puts 1 = .ok (.getfield 7, 3) := by decide +kernel
theorem dX10_puts_4 : decode cX10_puts 4 = .ok (.bipush 43, 2) := by decide +kernel
theorem dX10_puts_6 : decode cX10_puts 6 = .ok (.bipush 15, 2) := by decide +kernel
theorem dX10_puts_8 : decode cX10_puts 8 = .ok (.iload_n 1, 1) := by decide +kernel
theorem dX10_puts_9 : decode cX10_puts 9 = .ok (.imul, 1) := by decide +kernel
theorem dX10_puts_10 : decode cX10_puts 10 = .ok (.iadd, 1) := by decide +kernel
theorem dX10_puts_11 : decode cX10_puts 11 = .ok (.iload_n 2, 1) := by decide +kernel
theorem dX10_puts_12 : decode cX10_puts 12 = .ok (.iadd, 1) := by decide +kernel
theorem dX10_puts_13 : decode cX10_puts 13 = .ok (.iload_n 3, 1) := by decide +kernel
theorem dX10_puts_14 : decode cX10_puts 14 = .ok (.iastore, 1) := by decide +kernel
theorem dX10_puts_15 : decode cX10_puts 15 = .ok (.return_, 1) := by decide +kernel
theorem dX10_orderNumber_0 : decode cX10_orderNumber 0 = .ok (.aload_n 0, 1) := by decide +kernel
theorem dX10_orderNumber_1 : decode cX10_orderNumber 1 = .ok (.getfield 7, 3) := by decide +kernel
theorem dX10_orderNumber_4 : decode cX10_orderNumber 4 = .ok (.sipush 343, 3) := by decide +kernel
theorem dX10_orderNumber_7 : decode cX10_orderNumber 7 = .ok (.iconst 5, 1) := by decide +kernel
theorem dX10_orderNumber_8 : decode cX10_orderNumber 8 = .ok (.iload_n 1, 1) := by decide +kernel
theorem dX10_orderNumber_9 : decode cX10_orderNumber 9 = .ok (.imul, 1) := by decide +kernel
theorem dX10_orderNumber_10 : decode cX10_orderNumber 10 = .ok (.iadd, 1) := by decide +kernel
theorem dX10_orderNumber_11 : decode cX10_orderNumber 11 = .ok (.iload_n 2, 1) := by decide +kernel
theorem dX10_orderNumber_12 : decode cX10_orderNumber 12 = .ok (.iadd, 1) := by decide +kernel
theorem dX10_orderNumber_13 : decode cX10_orderNumber 13 = .ok (.iaload, 1) := by decide +kernel
theorem dX10_orderNumber_14 : decode cX10_orderNumber 14 = .ok (.ireturn, 1) := by decide +kernel
theorem dX10_isSold_0 : decode cX10_isSold 0 = .ok (.aload_n 0, 1) := by decide +kernel
theorem dX10_isSold_1 : decode cX10_isSold 1 = .ok (.iload_n 1, 1) := by decide +kernel
theorem dX10_isSold_2 : decode cX10_isSold 2 = .ok (.bipush 13, 2) := by decide +kernel
theorem dX10_isSold_4 : decode cX10_isSold 4 = .ok (.invokevirtual 35, 3) := by decide +kernel
theorem dX10_isSold_7 : decode cX10_isSold 7 = .ok (.ifCond .le 7, 3) := by decide +kernel
theorem dX10_isSold_10 : decode cX10_isSold 10 = .ok (.iconst 1, 1) := by decide +kernel
theorem dX10_isSold_11 : decode cX10_isSold 11 = .ok (.goto 4, 3) := by decide +kernel
theorem dX10_isSold_14 : decode cX10_isSold 14 = .ok (.iconst 0, 1) := by decide +kernel
theorem dX10_isSold_15 : decode cX10_isSold 15 = .ok (.ireturn, 1) := by decide +kernel
theorem dX10_hangs_0 : decode cX10_hangs 0 = .ok (.aload_n 0, 1) := by decide +kernel
theorem dX10_hangs_1 : decode cX10_hangs 1 = .ok (.iload_n 1, 1) := by decide +kernel
theorem dX10_hangs_2 : decode cX10_hangs 2 = .ok (.bipush 10, 2) := by decide +kernel
theorem dX10_hangs_4 : decode cX10_hangs 4 = .ok (.invokevirtual 35, 3) := by decide +kernel
theorem dX10_hangs_7 : decode cX10_hangs 7 = .ok (.iconst 1, 1) := by decide +kernel
theorem dX10_hangs_8 : decode cX10_hangs 8 = .ok (.if_icmp .ne 7, 3) := by decide +kernel
theorem dX10_hangs_11 : decode cX10_hangs 11 = .ok (.iconst 1, 1) := by decide +kernel
theorem dX10_hangs_12 : decode cX10_hangs 12 = .ok (.goto 4, 3) := by decide +kernel
theorem dX10_hangs_15 : decode cX10_hangs 15 = .ok (.iconst 0, 1) := by decide +kernel
theorem dX10_hangs_16 : decode cX10_hangs 16 = .ok (.ireturn, 1) := by decide +kernel
theorem dX10_notes_0 : decode cX10_notes 0 = .ok (.aload_n 0, 1) := by decide +kernel
theorem dX10_notes_1 : decode cX10_notes 1 = .ok (.getfield 39, 3) := by decide +kernel
theorem dX10_notes_4 : decode cX10_notes 4 = .ok (.iconst 4, 1) := by decide +kernel
theorem dX10_notes_5 : decode cX10_notes 5 = .ok (.if_icmp .ne 41, 3) := by decide +kernel
theorem dX10_notes_8 : decode cX10_notes 8 = .ok (.sipush 643, 3) := by decide +kernel
theorem dX10_notes_11 : decode cX10_notes 11 = .ok (.istore_n 1, 1) := by decide +kernel
theorem dX10_notes_12 : decode cX10_notes 12 = .ok (.iload_n 1, 1) := by decide +kernel
theorem dX10_notes_13 : decode cX10_notes 13 = .ok (.sipush 2572, 3) := by decide +kernel
theorem dX10_notes_16 : decode cX10_notes 16 = .ok (.if_icmp .ge 25, 3) := by decide +kernel
theorem dX10_notes_19 : decode cX10_notes 19 = .ok (.aload_n 0, 1) := by decide +kernel
theorem dX10_notes_20 : decode cX10_notes 20 = .ok (.getfield 13, 3) := by decide +kernel
theorem dX10_notes_23 : decode cX10_notes 23 = .ok (.iload_n 1, 1) := by decide +kernel
theorem dX10_notes_24 : decode cX10_notes 24 = .ok (.sipush 643, 3) := by decide +kernel
theorem dX10_notes_27 : decode cX10_notes 27 = .ok (.isub, 1) := by decide +kernel
theorem dX10_notes_28 : decode cX10_notes 28 = .ok (.aload_n 0, 1) := by decide +kernel
theorem dX10_notes_29 : decode cX10_notes 29 = .ok (.getfield 13, 3) := by decide +kernel
theorem dX10_notes_32 : decode cX10_notes 32 = .ok (.iload_n 1, 1) := by decide +kernel
theorem dX10_notes_33 : decode cX10_notes 33 = .ok (.iaload, 1) := by decide +kernel
theorem dX10_notes_34 : decode cX10_notes 34 = .ok (.iastore, 1) := by decide +kernel
theorem dX10_notes_35 : decode cX10_notes 35 = .ok (.iinc 1 1, 3) := by decide +kernel
theorem dX10_notes_38 : decode cX10_notes 38 = .ok (.goto (-26), 3) := by decide +kernel
theorem dX10_notes_41 : decode cX10_notes 41 = .ok (.aload_n 0, 1) := by decide +kernel
theorem dX10_notes_42 : decode cX10_notes 42 = .ok (.iconst 3, 1) := by decide +kernel
theorem dX10_notes_43 : decode cX10_notes 43 = .ok (.putfield 39, 3) := by decide +kernel
theorem dX10_notes_46 : decode cX10_notes 46 = .ok (.iconst 0, 1) := by decide +kernel
theorem dX10_notes_47 : decode cX10_notes 47 = .ok (.istore_n 1, 1) := by decide +kernel
theorem dX10_notes_48 : decode cX10_notes 48 = .ok (.iload_n 1, 1) := by decide +kernel
theorem dX10_notes_49 : decode cX10_notes 49 = .ok (.sipush 643, 3) := by decide +kernel
theorem dX10_notes_52 : decode cX10_notes 52 = .ok (.if_icmp .ge 30, 3) := by decide +kernel
theorem dX10_notes_55 : decode cX10_notes 55 = .ok (.aload_n 0, 1) := by decide +kernel
theorem dX10_notes_56 : decode cX10_notes 56 = .ok (.getfield 13, 3) := by decide +kernel
theorem dX10_notes_59 : decode cX10_notes 59 = .ok (.sipush 643, 3) := by decide +kernel
theorem dX10_notes_62 : decode cX10_notes 62 = .ok (.aload_n 0, 1) := by decide +kernel
theorem dX10_notes_63 : decode cX10_notes 63 = .ok (.getfield 39, 3) := by decide +kernel
theorem dX10_notes_66 : decode cX10_notes 66 = .ok (.imul, 1) := by decide +kernel
theorem dX10_notes_67 : decode cX10_notes 67 = .ok (.iload_n 1, 1) := by decide +kernel
theorem dX10_notes_68 : decode cX10_notes 68 = .ok (.iadd, 1) := by decide +kernel
theorem dX10_notes_69 : decode cX10_notes 69 = .ok (.aload_n 0, 1) := by decide +kernel
theorem dX10_notes_70 : decode cX10_notes 70 = .ok (.getfield 7, 3) := by decide +kernel
theorem dX10_notes_73 : decode cX10_notes 73 = .ok (.iload_n 1, 1) := by decide +kernel
theorem dX10_notes_74 : decode cX10_notes 74 = .ok (.iaload, 1) := by decide +kernel
theorem dX10_notes_75 : decode cX10_notes 75 = .ok (.iastore, 1) := by decide +kernel
theorem dX10_notes_76 : decode cX10_notes 76 = .ok (.iinc 1 1, 3) := by decide +kernel
theorem dX10_notes_79 : decode cX10_notes 79 = .ok (.goto (-31), 3) := by decide +kernel
theorem dX10_notes_82 : decode cX10_notes 82 = .ok (.aload_n 0, 1) := by decide +kernel
theorem dX10_notes_83 : decode cX10_notes 83 = .ok (.dup, 1) := by decide +kernel
theorem dX10_notes_84 : decode cX10_notes 84 = .ok (.getfield 39, 3) := by decide +kernel
theorem dX10_notes_87 : decode cX10_notes 87 = .ok (.iconst 1, 1) := by decide +kernel
theorem dX10_notes_88 : decode cX10_notes 88 = .ok (.iadd, 1) := by decide +kernel
theorem dX10_notes_89 : decode cX10_notes 89 = .ok (.putfield 39, 3) := by decide +kernel
theorem dX10_notes_92 : decode cX10_notes 92 = .ok (.return_, 1) := by decide +kernel
theorem dX10_asides_0 : decode cX10_asides 0 = .ok (.iconst 0, 1) := by decide +kernel
theorem dX10_asides_1 : decode cX10_asides 1 = .ok (.istore_n 1, 1) := by decide +kernel
theorem dX10_asides_2 : decode cX10_asides 2 = .ok (.iload_n 1, 1) := by decide +kernel
theorem dX10_asides_3 : decode cX10_asides 3 = .ok (.sipush 643, 3) := by decide +kernel
theorem dX10_asides_6 : decode cX10_asides 6 = .ok (.if_icmp .ge 21, 3) := by decide +kernel
theorem dX10_asides_9 : decode cX10_asides 9 = .ok (.aload_n 0, 1) := by decide +kernel
theorem dX10_asides_10 : decode cX10_asides 10 = .ok (.getfield 16, 3) := by decide +kernel
theorem dX10_asides_13 : decode cX10_asides 13 = .ok (.iload_n 1, 1) := by decide +kernel
theorem dX10_asides_14 : decode cX10_asides 14 = .ok (.aload_n 0, 1) := by decide +kernel
theorem dX10_asides_15 : decode cX10_asides 15 = .ok (.getfield 7, 3) := by decide +kernel
theorem dX10_asides_18 : decode cX10_asides 18 = .ok (.iload_n 1, 1) := by decide +kernel
theorem dX10_asides_19 : decode cX10_asides 19 = .ok (.iaload, 1) := by decide +kernel
theorem dX10_asides_20 : decode cX10_asides 20 = .ok (.iastore, 1) := by decide +kernel
theorem dX10_asides_21 : decode cX10_asides 21 = .ok (.iinc 1 1, 3) := by decide +kernel
theorem dX10_asides_24 : decode cX10_asides 24 = .ok (.goto (-22), 3) := by decide +kernel
theorem dX10_asides_27 : decode cX10_asides 27 = .ok (.return_, 1) := by decide +kernel
theorem dX10_backs_0 : decode cX10_backs 0 = .ok (.iconst 0, 1) := by decide +kernel
theorem dX10_backs_1 : decode cX10_backs 1 = .ok (.istore_n 1, 1) := by decide +kernel
theorem dX10_backs_2 : decode cX10_backs 2 = .ok (.iload_n 1, 1) := by decide +kernel
theorem dX10_backs_3 : decode cX10_backs 3 = .ok (.sipush 643, 3) := by decide +kernel
theorem dX10_backs_6 : decode cX10_backs 6 = .ok (.if_icmp .ge 21, 3) := by decide +kernel
theorem dX10_backs_9 : decode cX10_backs 9 = .ok (.aload_n 0, 1) := by decide +kernel
theorem dX10_backs_10 : decode cX10_backs 10 = .ok (.getfield 7, 3) := by decide +kernel
theorem dX10_backs_13 : decode cX10_backs 13 = .ok (.iload_n 1, 1) := by decide +kernel
theorem dX10_backs_14 : decode cX10_backs 14 = .ok (.aload_n 0, 1) := by decide +kernel
theorem dX10_backs_15 : decode cX10_backs 15 = .ok (.getfield 16, 3) := by decide +kernel
theorem dX10_backs_18 : decode cX10_backs 18 = .ok (.iload_n 1, 1) := by decide +kernel
theorem dX10_backs_19 : decode cX10_backs 19 = .ok (.iaload, 1) := by decide +kernel
theorem dX10_backs_20 : decode cX10_backs 20 = .ok (.iastore, 1) := by decide +kernel
theorem dX10_backs_21 : decode cX10_backs 21 = .ok (.iinc 1 1, 3) := by decide +kernel
theorem dX10_backs_24 : decode cX10_backs 24 = .ok (.goto (-22), 3) := by decide +kernel
theorem dX10_backs_27 : decode cX10_backs 27 = .ok (.return_, 1) := by decide +kernel
theorem dX10_done_0 : decode cX10_done 0 = .ok (.iload_n 1, 1) := by decide +kernel
theorem dX10_done_1 : decode cX10_done 1 = .ok (.ifCond .lt 52, 3) := by decide +kernel
theorem dX10_done_4 : decode cX10_done 4 = .ok (.iconst 0, 1) := by decide +kernel
theorem dX10_done_5 : decode cX10_done 5 = .ok (.istore_n 2, 1) := by decide +kernel
theorem dX10_done_6 : decode cX10_done 6 = .ok (.iload_n 2, 1) := by decide +kernel
theorem dX10_done_7 : decode cX10_done 7 = .ok (.sipush 643, 3) := by decide +kernel
theorem dX10_done_10 : decode cX10_done 10 = .ok (.if_icmp .ge 35, 3) := by decide +kernel
theorem dX10_done_13 : decode cX10_done 13 = .ok (.aload_n 0, 1) := by decide +kernel
theorem dX10_done_14 : decode cX10_done 14 = .ok (.getfield 7, 3) := by decide +kernel
theorem dX10_done_17 : decode cX10_done 17 = .ok (.iload_n 2, 1) := by decide +kernel
theorem dX10_done_18 : decode cX10_done 18 = .ok (.iaload, 1) := by decide +kernel
theorem dX10_done_19 : decode cX10_done 19 = .ok (.istore_n 3, 1) := by decide +kernel
theorem dX10_done_20 : decode cX10_done 20 = .ok (.aload_n 0, 1) := by decide +kernel
theorem dX10_done_21 : decode cX10_done 21 = .ok (.getfield 7, 3) := by decide +kernel
theorem dX10_done_24 : decode cX10_done 24 = .ok (.iload_n 2, 1) := by decide +kernel
theorem dX10_done_25 : decode cX10_done 25 = .ok (.aload_n 0, 1) := by decide +kernel
theorem dX10_done_26 : decode cX10_done 26 = .ok (.getfield 16, 3) := by decide +kernel
theorem dX10_done_29 : decode cX10_done 29 = .ok (.iload_n 2, 1) := by decide +kernel
theorem dX10_done_30 : decode cX10_done 30 = .ok (.iaload, 1) := by decide +kernel
theorem dX10_done_31 : decode cX10_done 31 = .ok (.iastore, 1) := by decide +kernel
theorem dX10_done_32 : decode cX10_done 32 = .ok (.aload_n 0, 1) := by decide +kernel
theorem dX10_done_33 : decode cX10_done 33 = .ok (.getfield 16, 3) := by decide +kernel
theorem dX10_done_36 : decode cX10_done 36 = .ok (.iload_n 2, 1) := by decide +kernel
theorem dX10_done_37 : decode cX10_done 37 = .ok (.iload_n 3, 1) := by decide +kernel
theorem dX10_done_38 : decode cX10_done 38 = .ok (.iastore, 1) := by decide +kernel
theorem dX10_done_39 : decode cX10_done 39 = .ok (.iinc 2 1, 3) := by decide +kernel
theorem dX10_done_42 : decode cX10_done 42 = .ok (.goto (-36), 3) := by decide +kernel
theorem dX10_done_45 : decode cX10_done 45 = .ok (.aload_n 0, 1) := by decide +kernel
theorem dX10_done_46 : decode cX10_done 46 = .ok (.invokevirtual 43, 3) := by decide +kernel
theorem dX10_done_49 : decode cX10_done 49 = .ok (.aload_n 0, 1) := by decide +kernel
theorem dX10_done_50 : decode cX10_done 50 = .ok (.invokevirtual 46, 3) := by decide +kernel
theorem dX10_done_53 : decode cX10_done 53 = .ok (.iload_n 1, 1) := by decide +kernel
theorem dX10_done_54 : decode cX10_done 54 = .ok (.ireturn, 1) := by decide +kernel
theorem dX10_undo_0 : decode cX10_undo 0 = .ok (.aload_n 0, 1) := by decide +kernel
theorem dX10_undo_1 : decode cX10_undo 1 = .ok (.getfield 39, 3) := by decide +kernel
theorem dX10_undo_4 : decode cX10_undo 4 = .ok (.ifCond .ne 6, 3) := by decide +kernel
theorem dX10_undo_7 : decode cX10_undo 7 = .ok (.bipush (-2), 2) := by decide +kernel
theorem dX10_undo_9 : decode cX10_undo 9 = .ok (.ireturn, 1) := by decide +kernel
theorem dX10_undo_10 : decode cX10_undo 10 = .ok (.aload_n 0, 1) := by decide +kernel
theorem dX10_undo_11 : decode cX10_undo 11 = .ok (.dup, 1) := by decide +kernel
theorem dX10_undo_12 : decode cX10_undo 12 = .ok (.getfield 39, 3) := by decide +kernel
theorem dX10_undo_15 : decode cX10_undo 15 = .ok (.iconst 1, 1) := by decide +kernel
theorem dX10_undo_16 : decode cX10_undo 16 = .ok (.isub, 1) := by decide +kernel
theorem dX10_undo_17 : decode cX10_undo 17 = .ok (.putfield 39, 3) := by decide +kernel
theorem dX10_undo_20 : decode cX10_undo 20 = .ok (.iconst 0, 1) := by decide +kernel
theorem dX10_undo_21 : decode cX10_undo 21 = .ok (.istore_n 1, 1) := by decide +kernel
theorem dX10_undo_22 : decode cX10_undo 22 = .ok (.iload_n 1, 1) := by decide +kernel
theorem dX10_undo_23 : decode cX10_undo 23 = .ok (.sipush 643, 3) := by decide +kernel
theorem dX10_undo_26 : decode cX10_undo 26 = .ok (.if_icmp .ge 30, 3) := by decide +kernel
theorem dX10_undo_29 : decode cX10_undo 29 = .ok (.aload_n 0, 1) := by decide +kernel
theorem dX10_undo_30 : decode cX10_undo 30 = .ok (.getfield 7, 3) := by decide +kernel
theorem dX10_undo_33 : decode cX10_undo 33 = .ok (.iload_n 1, 1) := by decide +kernel
theorem dX10_undo_34 : decode cX10_undo 34 = .ok (.aload_n 0, 1) := by decide +kernel
theorem dX10_undo_35 : decode cX10_undo 35 = .ok (.getfield 13, 3) := by decide +kernel
theorem dX10_undo_38 : decode cX10_undo 38 = .ok (.sipush 643, 3) := by decide +kernel
theorem dX10_undo_41 : decode cX10_undo 41 = .ok (.aload_n 0, 1) := by decide +kernel
theorem dX10_undo_42 : decode cX10_undo 42 = .ok (.getfield 39, 3) := by decide +kernel
theorem dX10_undo_45 : decode cX10_undo 45 = .ok (.imul, 1) := by decide +kernel
theorem dX10_undo_46 : decode cX10_undo 46 = .ok (.iload_n 1, 1) := by decide +kernel
theorem dX10_undo_47 : decode cX10_undo 47 = .ok (.iadd, 1) := by decide +kernel
theorem dX10_undo_48 : decode cX10_undo 48 = .ok (.iaload, 1) := by decide +kernel
theorem dX10_undo_49 : decode cX10_undo 49 = .ok (.iastore, 1) := by decide +kernel
theorem dX10_undo_50 : decode cX10_undo 50 = .ok (.iinc 1 1, 3) := by decide +kernel
theorem dX10_undo_53 : decode cX10_undo 53 = .ok (.goto (-31), 3) := by decide +kernel
theorem dX10_undo_56 : decode cX10_undo 56 = .ok (.aload_n 0, 1) := by decide +kernel
theorem dX10_undo_57 : decode cX10_undo 57 = .ok (.getfield 39, 3) := by decide +kernel
theorem dX10_undo_60 : decode cX10_undo 60 = .ok (.ireturn, 1) := by decide +kernel
theorem dX10_vat_0 : decode cX10_vat 0 = .ok (.iload_n 1, 1) := by decide +kernel
theorem dX10_vat_1 : decode cX10_vat 1 = .ok (.invokestatic 49, 3) := by decide +kernel
theorem dX10_vat_4 : decode cX10_vat 4 = .ok (.ifCond .eq 15, 3) := by decide +kernel
theorem dX10_vat_7 : decode cX10_vat 7 = .ok (.iload_n 2, 1) := by decide +kernel
theorem dX10_vat_8 : decode cX10_vat 8 = .ok (.bipush 10, 2) := by decide +kernel
theorem dX10_vat_10 : decode cX10_vat 10 = .ok (.sipush 1000, 3) := by decide +kernel
theorem dX10_vat_13 : decode cX10_vat 13 = .ok (.invokestatic 31, 3) := by decide +kernel
theorem dX10_vat_16 : decode cX10_vat 16 = .ok (.ifCond .ne 5, 3) := by decide +kernel
theorem dX10_vat_19 : decode cX10_vat 19 = .ok (.iconst (-1), 1) := by decide +kernel
theorem dX10_vat_20 : decode cX10_vat 20 = .ok (.ireturn, 1) := by decide +kernel
theorem dX10_vat_21 : decode cX10_vat 21 = .ok (.aload_n 0, 1) := by decide +kernel
theorem dX10_vat_22 : decode cX10_vat 22 = .ok (.getfield 7, 3) := by decide +kernel
theorem dX10_vat_25 : decode cX10_vat 25 = .ok (.bipush 7, 2) := by decide +kernel
theorem dX10_vat_27 : decode cX10_vat 27 = .ok (.iaload, 1) := by decide +kernel
theorem dX10_vat_28 : decode cX10_vat 28 = .ok (.bipush 6, 2) := by decide +kernel
theorem dX10_vat_30 : decode cX10_vat 30 = .ok (.if_icmp .ne 6, 3) := by decide +kernel
theorem dX10_vat_33 : decode cX10_vat 33 = .ok (.bipush (-3), 2) := by decide +kernel
theorem dX10_vat_35 : decode cX10_vat 35 = .ok (.ireturn, 1) := by decide +kernel
theorem dX10_vat_36 : decode cX10_vat 36 = .ok (.aload_n 0, 1) := by decide +kernel
theorem dX10_vat_37 : decode cX10_vat 37 = .ok (.invokevirtual 43, 3) := by decide +kernel
theorem dX10_vat_40 : decode cX10_vat 40 = .ok (.bipush 19, 2) := by decide +kernel
theorem dX10_vat_42 : decode cX10_vat 42 = .ok (.iconst 4, 1) := by decide +kernel
theorem dX10_vat_43 : decode cX10_vat 43 = .ok (.aload_n 0, 1) := by decide +kernel
theorem dX10_vat_44 : decode cX10_vat 44 = .ok (.getfield 7, 3) := by decide +kernel
theorem dX10_vat_47 : decode cX10_vat 47 = .ok (.bipush 7, 2) := by decide +kernel
theorem dX10_vat_49 : decode cX10_vat 49 = .ok (.iaload, 1) := by decide +kernel
theorem dX10_vat_50 : decode cX10_vat 50 = .ok (.imul, 1) := by decide +kernel
theorem dX10_vat_51 : decode cX10_vat 51 = .ok (.iadd, 1) := by decide +kernel
theorem dX10_vat_52 : decode cX10_vat 52 = .ok (.istore_n 3, 1) := by decide +kernel
theorem dX10_vat_53 : decode cX10_vat 53 = .ok (.aload_n 0, 1) := by decide +kernel
theorem dX10_vat_54 : decode cX10_vat 54 = .ok (.getfield 7, 3) := by decide +kernel
theorem dX10_vat_57 : decode cX10_vat 57 = .ok (.iload_n 3, 1) := by decide +kernel
theorem dX10_vat_58 : decode cX10_vat 58 = .ok (.iload_n 1, 1) := by decide +kernel
theorem dX10_vat_59 : decode cX10_vat 59 = .ok (.iastore, 1) := by decide +kernel
theorem dX10_vat_60 : decode cX10_vat 60 = .ok (.aload_n 0, 1) := by decide +kernel
theorem dX10_vat_61 : decode cX10_vat 61 = .ok (.getfield 7, 3) := by decide +kernel
theorem dX10_vat_64 : decode cX10_vat 64 = .ok (.iload_n 3, 1) := by decide +kernel
theorem dX10_vat_65 : decode cX10_vat 65 = .ok (.iconst 1, 1) := by decide +kernel
theorem dX10_vat_66 : decode cX10_vat 66 = .ok (.iadd, 1) := by decide +kernel
theorem dX10_vat_67 : decode cX10_vat 67 = .ok (.iload_n 2, 1) := by decide +kernel
theorem dX10_vat_68 : decode cX10_vat 68 = .ok (.iastore, 1) := by decide +kernel
theorem dX10_vat_69 : decode cX10_vat 69 = .ok (.aload_n 0, 1) := by decide +kernel
theorem dX10_vat_70 : decode cX10_vat 70 = .ok (.getfield 7, 3) := by decide +kernel
theorem dX10_vat_73 : decode cX10_vat 73 = .ok (.iload_n 3, 1) := by decide +kernel
theorem dX10_vat_74 : decode cX10_vat 74 = .ok (.iconst 2, 1) := by decide +kernel
theorem dX10_vat_75 : decode cX10_vat 75 = .ok (.iadd, 1) := by decide +kernel
theorem dX10_vat_76 : decode cX10_vat 76 = .ok (.iconst 0, 1) := by decide +kernel
theorem dX10_vat_77 : decode cX10_vat 77 = .ok (.iastore, 1) := by decide +kernel
theorem dX10_vat_78 : decode cX10_vat 78 = .ok (.aload_n 0, 1) := by decide +kernel
theorem dX10_vat_79 : decode cX10_vat 79 = .ok (.getfield 7, 3) := by decide +kernel
theorem dX10_vat_82 : decode cX10_vat 82 = .ok (.iload_n 3, 1) := by decide +kernel
theorem dX10_vat_83 : decode cX10_vat 83 = .ok (.iconst 3, 1) := by decide +kernel
theorem dX10_vat_84 : decode cX10_vat 84 = .ok (.iadd, 1) := by decide +kernel
theorem dX10_vat_85 : decode cX10_vat 85 = .ok (.iconst 0, 1) := by decide +kernel
theorem dX10_vat_86 : decode cX10_vat 86 = .ok (.iastore, 1) := by decide +kernel
theorem dX10_vat_87 : decode cX10_vat 87 = .ok (.aload_n 0, 1) := by decide +kernel
theorem dX10_vat_88 : decode cX10_vat 88 = .ok (.getfield 7, 3) := by decide +kernel
theorem dX10_vat_91 : decode cX10_vat 91 = .ok (.bipush 7, 2) := by decide +kernel
theorem dX10_vat_93 : decode cX10_vat 93 = .ok (.dup2, 1) := by decide +kernel
theorem dX10_vat_94 : decode cX10_vat 94 = .ok (.iaload, 1) := by decide +kernel
theorem dX10_vat_95 : decode cX10_vat 95 = .ok (.iconst 1, 1) := by decide +kernel
theorem dX10_vat_96 : decode cX10_vat 96 = .ok (.iadd, 1) := by decide +kernel
theorem dX10_vat_97 : decode cX10_vat 97 = .ok (.iastore, 1) := by decide +kernel
theorem dX10_vat_98 : decode cX10_vat 98 = .ok (.aload_n 0, 1) := by decide +kernel
theorem dX10_vat_99 : decode cX10_vat 99 = .ok (.getfield 7, 3) := by decide +kernel
theorem dX10_vat_102 : decode cX10_vat 102 = .ok (.bipush 7, 2) := by decide +kernel
theorem dX10_vat_104 : decode cX10_vat 104 = .ok (.iaload, 1) := by decide +kernel
theorem dX10_vat_105 : decode cX10_vat 105 = .ok (.iconst 1, 1) := by decide +kernel
theorem dX10_vat_106 : decode cX10_vat 106 = .ok (.isub, 1) := by decide +kernel
theorem dX10_vat_107 : decode cX10_vat 107 = .ok (.ireturn, 1) := by decide +kernel
theorem dX10_weigh_0 : decode cX10_weigh 0 = .ok (.aload_n 0, 1) := by decide +kernel
theorem dX10_weigh_1 : decode cX10_weigh 1 = .ok (.iload_n 1, 1) := by decide +kernel
theorem dX10_weigh_2 : decode cX10_weigh 2 = .ok (.invokevirtual 53, 3) := by decide +kernel
theorem dX10_weigh_5 : decode cX10_weigh 5 = .ok (.ifCond .eq 13, 3) := by decide +kernel
theorem dX10_weigh_8 : decode cX10_weigh 8 = .ok (.iload_n 2, 1) := by decide +kernel
theorem dX10_weigh_9 : decode cX10_weigh 9 = .ok (.iconst 1, 1) := by decide +kernel
theorem dX10_weigh_10 : decode cX10_weigh 10 = .ok (.ldc 56, 2) := by decide +kernel
theorem dX10_weigh_12 : decode cX10_weigh 12 = .ok (.invokestatic 31, 3) := by decide +kernel
theorem dX10_weigh_15 : decode cX10_weigh 15 = .ok (.ifCond .ne 5, 3) := by decide +kernel
theorem dX10_weigh_18 : decode cX10_weigh 18 = .ok (.iconst (-1), 1) := by decide +kernel
theorem dX10_weigh_19 : decode cX10_weigh 19 = .ok (.ireturn, 1) := by decide +kernel
theorem dX10_weigh_20 : decode cX10_weigh 20 = .ok (.aload_n 0, 1) := by decide +kernel
theorem dX10_weigh_21 : decode cX10_weigh 21 = .ok (.iload_n 1, 1) := by decide +kernel
theorem dX10_weigh_22 : decode cX10_weigh 22 = .ok (.iconst 0, 1) := by decide +kernel
theorem dX10_weigh_23 : decode cX10_weigh 23 = .ok (.invokevirtual 57, 3) := by decide +kernel
theorem dX10_weigh_26 : decode cX10_weigh 26 = .ok (.istore_n 3, 1) := by decide +kernel
theorem dX10_weigh_27 : decode cX10_weigh 27 = .ok (.aload_n 0, 1) := by decide +kernel
theorem dX10_weigh_28 : decode cX10_weigh 28 = .ok (.getfield 7, 3) := by decide +kernel
theorem dX10_weigh_31 : decode cX10_weigh 31 = .ok (.bipush 11, 2) := by decide +kernel
theorem dX10_weigh_33 : decode cX10_weigh 33 = .ok (.iload_n 3, 1) := by decide +kernel
theorem dX10_weigh_34 : decode cX10_weigh 34 = .ok (.iadd, 1) := by decide +kernel
theorem dX10_weigh_35 : decode cX10_weigh 35 = .ok (.iaload, 1) := by decide +kernel
theorem dX10_weigh_36 : decode cX10_weigh 36 = .ok (.iload_n 2, 1) := by decide +kernel
theorem dX10_weigh_37 : decode cX10_weigh 37 = .ok (.iadd, 1) := by decide +kernel
theorem dX10_weigh_38 : decode cX10_weigh 38 = .ok (.ldc 60, 2) := by decide +kernel
theorem dX10_weigh_40 : decode cX10_weigh 40 = .ok (.if_icmp .le 6, 3) := by decide +kernel
theorem dX10_weigh_43 : decode cX10_weigh 43 = .ok (.bipush (-3), 2) := by decide +kernel
theorem dX10_weigh_45 : decode cX10_weigh 45 = .ok (.ireturn, 1) := by decide +kernel
theorem dX10_weigh_46 : decode cX10_weigh 46 = .ok (.aload_n 0, 1) := by decide +kernel
theorem dX10_weigh_47 : decode cX10_weigh 47 = .ok (.invokevirtual 43, 3) := by decide +kernel
theorem dX10_weigh_50 : decode cX10_weigh 50 = .ok (.aload_n 0, 1) := by decide +kernel
theorem dX10_weigh_51 : decode cX10_weigh 51 = .ok (.getfield 7, 3) := by decide +kernel
theorem dX10_weigh_54 : decode cX10_weigh 54 = .ok (.bipush 11, 2) := by decide +kernel
theorem dX10_weigh_56 : decode cX10_weigh 56 = .ok (.iload_n 3, 1) := by decide +kernel
theorem dX10_weigh_57 : decode cX10_weigh 57 = .ok (.iadd, 1) := by decide +kernel
theorem dX10_weigh_58 : decode cX10_weigh 58 = .ok (.dup2, 1) := by decide +kernel
theorem dX10_weigh_59 : decode cX10_weigh 59 = .ok (.iaload, 1) := by decide +kernel
theorem dX10_weigh_60 : decode cX10_weigh 60 = .ok (.iload_n 2, 1) := by decide +kernel
theorem dX10_weigh_61 : decode cX10_weigh 61 = .ok (.iadd, 1) := by decide +kernel
theorem dX10_weigh_62 : decode cX10_weigh 62 = .ok (.iastore, 1) := by decide +kernel
theorem dX10_weigh_63 : decode cX10_weigh 63 = .ok (.aload_n 0, 1) := by decide +kernel
theorem dX10_weigh_64 : decode cX10_weigh 64 = .ok (.getfield 7, 3) := by decide +kernel
theorem dX10_weigh_67 : decode cX10_weigh 67 = .ok (.bipush 19, 2) := by decide +kernel
theorem dX10_weigh_69 : decode cX10_weigh 69 = .ok (.iconst 4, 1) := by decide +kernel
theorem dX10_weigh_70 : decode cX10_weigh 70 = .ok (.iload_n 1, 1) := by decide +kernel
theorem dX10_weigh_71 : decode cX10_weigh 71 = .ok (.imul, 1) := by decide +kernel
theorem dX10_weigh_72 : decode cX10_weigh 72 = .ok (.iadd, 1) := by decide +kernel
theorem dX10_weigh_73 : decode cX10_weigh 73 = .ok (.iconst 2, 1) := by decide +kernel
theorem dX10_weigh_74 : decode cX10_weigh 74 = .ok (.iadd, 1) := by decide +kernel
theorem dX10_weigh_75 : decode cX10_weigh 75 = .ok (.dup2, 1) := by decide +kernel
theorem dX10_weigh_76 : decode cX10_weigh 76 = .ok (.iaload, 1) := by decide +kernel
theorem dX10_weigh_77 : decode cX10_weigh 77 = .ok (.iload_n 2, 1) := by decide +kernel
theorem dX10_weigh_78 : decode cX10_weigh 78 = .ok (.iadd, 1) := by decide +kernel
theorem dX10_weigh_79 : decode cX10_weigh 79 = .ok (.iastore, 1) := by decide +kernel
theorem dX10_weigh_80 : decode cX10_weigh 80 = .ok (.aload_n 0, 1) := by decide +kernel
theorem dX10_weigh_81 : decode cX10_weigh 81 = .ok (.iload_n 1, 1) := by decide +kernel
theorem dX10_weigh_82 : decode cX10_weigh 82 = .ok (.iconst 2, 1) := by decide +kernel
theorem dX10_weigh_83 : decode cX10_weigh 83 = .ok (.invokevirtual 57, 3) := by decide +kernel
theorem dX10_weigh_86 : decode cX10_weigh 86 = .ok (.ireturn, 1) := by decide +kernel
theorem dX10_drains_0 : decode cX10_drains 0 = .ok (.aload_n 0, 1) := by decide +kernel
theorem dX10_drains_1 : decode cX10_drains 1 = .ok (.iload_n 1, 1) := by decide +kernel
theorem dX10_drains_2 : decode cX10_drains 2 = .ok (.invokevirtual 53, 3) := by decide +kernel
theorem dX10_drains_5 : decode cX10_drains 5 = .ok (.ifCond .ne 5, 3) := by decide +kernel
theorem dX10_drains_8 : decode cX10_drains 8 = .ok (.iconst (-1), 1) := by decide +kernel
theorem dX10_drains_9 : decode cX10_drains 9 = .ok (.ireturn, 1) := by decide +kernel
theorem dX10_drains_10 : decode cX10_drains 10 = .ok (.aload_n 0, 1) := by decide +kernel
theorem dX10_drains_11 : decode cX10_drains 11 = .ok (.iload_n 1, 1) := by decide +kernel
theorem dX10_drains_12 : decode cX10_drains 12 = .ok (.iconst 2, 1) := by decide +kernel
theorem dX10_drains_13 : decode cX10_drains 13 = .ok (.invokevirtual 57, 3) := by decide +kernel
theorem dX10_drains_16 : decode cX10_drains 16 = .ok (.istore_n 2, 1) := by decide +kernel
theorem dX10_drains_17 : decode cX10_drains 17 = .ok (.aload_n 0, 1) := by decide +kernel
theorem dX10_drains_18 : decode cX10_drains 18 = .ok (.getfield 7, 3) := by decide +kernel
theorem dX10_drains_21 : decode cX10_drains 21 = .ok (.bipush 15, 2) := by decide +kernel
theorem dX10_drains_23 : decode cX10_drains 23 = .ok (.aload_n 0, 1) := by decide +kernel
theorem dX10_drains_24 : decode cX10_drains 24 = .ok (.iload_n 1, 1) := by decide +kernel
theorem dX10_drains_25 : decode cX10_drains 25 = .ok (.iconst 0, 1) := by decide +kernel
theorem dX10_drains_26 : decode cX10_drains 26 = .ok (.invokevirtual 57, 3) := by decide +kernel
theorem dX10_drains_29 : decode cX10_drains 29 = .ok (.iadd, 1) := by decide +kernel
theorem dX10_drains_30 : decode cX10_drains 30 = .ok (.dup2, 1) := by decide +kernel
theorem dX10_drains_31 : decode cX10_drains 31 = .ok (.iaload, 1) := by decide +kernel
theorem dX10_drains_32 : decode cX10_drains 32 = .ok (.iload_n 2, 1) := by decide +kernel
theorem dX10_drains_33 : decode cX10_drains 33 = .ok (.iadd, 1) := by decide +kernel
theorem dX10_drains_34 : decode cX10_drains 34 = .ok (.iastore, 1) := by decide +kernel
theorem dX10_drains_35 : decode cX10_drains 35 = .ok (.aload_n 0, 1) := by decide +kernel
theorem dX10_drains_36 : decode cX10_drains 36 = .ok (.getfield 7, 3) := by decide +kernel
theorem dX10_drains_39 : decode cX10_drains 39 = .ok (.bipush 19, 2) := by decide +kernel
theorem dX10_drains_41 : decode cX10_drains 41 = .ok (.iconst 4, 1) := by decide +kernel
theorem dX10_drains_42 : decode cX10_drains 42 = .ok (.iload_n 1, 1) := by decide +kernel
theorem dX10_drains_43 : decode cX10_drains 43 = .ok (.imul, 1) := by decide +kernel
theorem dX10_drains_44 : decode cX10_drains 44 = .ok (.iadd, 1) := by decide +kernel
theorem dX10_drains_45 : decode cX10_drains 45 = .ok (.iconst 2, 1) := by decide +kernel
theorem dX10_drains_46 : decode cX10_drains 46 = .ok (.iadd, 1) := by decide +kernel
theorem dX10_drains_47 : decode cX10_drains 47 = .ok (.iconst 0, 1) := by decide +kernel
theorem dX10_drains_48 : decode cX10_drains 48 = .ok (.iastore, 1) := by decide +kernel
theorem dX10_drains_49 : decode cX10_drains 49 = .ok (.aload_n 0, 1) := by decide +kernel
theorem dX10_drains_50 : decode cX10_drains 50 = .ok (.getfield 7, 3) := by decide +kernel
theorem dX10_drains_53 : decode cX10_drains 53 = .ok (.bipush 19, 2) := by decide +kernel
theorem dX10_drains_55 : decode cX10_drains 55 = .ok (.iconst 4, 1) := by decide +kernel
theorem dX10_drains_56 : decode cX10_drains 56 = .ok (.iload_n 1, 1) := by decide +kernel
theorem dX10_drains_57 : decode cX10_drains 57 = .ok (.imul, 1) := by decide +kernel
theorem dX10_drains_58 : decode cX10_drains 58 = .ok (.iadd, 1) := by decide +kernel
theorem dX10_drains_59 : decode cX10_drains 59 = .ok (.iconst 3, 1) := by decide +kernel
theorem dX10_drains_60 : decode cX10_drains 60 = .ok (.iadd, 1) := by decide +kernel
theorem dX10_drains_61 : decode cX10_drains 61 = .ok (.iconst 0, 1) := by decide +kernel
theorem dX10_drains_62 : decode cX10_drains 62 = .ok (.iastore, 1) := by decide +kernel
theorem dX10_drains_63 : decode cX10_drains 63 = .ok (.iload_n 2, 1) := by decide +kernel
theorem dX10_drains_64 : decode cX10_drains 64 = .ok (.ireturn, 1) := by decide +kernel
theorem dX10_drain_0 : decode cX10_drain 0 = .ok (.aload_n 0, 1) := by decide +kernel
theorem dX10_drain_1 : decode cX10_drain 1 = .ok (.invokevirtual 61, 3) := by decide +kernel
theorem dX10_drain_4 : decode cX10_drain 4 = .ok (.aload_n 0, 1) := by decide +kernel
theorem dX10_drain_5 : decode cX10_drain 5 = .ok (.aload_n 0, 1) := by decide +kernel
theorem dX10_drain_6 : decode cX10_drain 6 = .ok (.iload_n 1, 1) := by decide +kernel
theorem dX10_drain_7 : decode cX10_drain 7 = .ok (.invokevirtual 64, 3) := by decide +kernel
theorem dX10_drain_10 : decode cX10_drain 10 = .ok (.invokevirtual 68, 3) := by decide +kernel
theorem dX10_drain_13 : decode cX10_drain 13 = .ok (.ireturn, 1) := by decide +kernel
theorem dX10_vatOf_0 : decode cX10_vatOf 0 = .ok (.aload_n 0, 1) := by decide +kernel
theorem dX10_vatOf_1 : decode cX10_vatOf 1 = .ok (.iload_n 1, 1) := by decide +kernel
theorem dX10_vatOf_2 : decode cX10_vatOf 2 = .ok (.invokevirtual 53, 3) := by decide +kernel
theorem dX10_vatOf_5 : decode cX10_vatOf 5 = .ok (.ifCond .eq 12, 3) := by decide +kernel
theorem dX10_vatOf_8 : decode cX10_vatOf 8 = .ok (.iload_n 2, 1) := by decide +kernel
theorem dX10_vatOf_9 : decode cX10_vatOf 9 = .ok (.iconst 0, 1) := by decide +kernel
theorem dX10_vatOf_10 : decode cX10_vatOf 10 = .ok (.iconst 4, 1) := by decide +kernel
theorem dX10_vatOf_11 : decode cX10_vatOf 11 = .ok (.invokestatic 31, 3) := by decide +kernel
theorem dX10_vatOf_14 : decode cX10_vatOf 14 = .ok (.ifCond .ne 5, 3) := by decide +kernel
theorem dX10_vatOf_17 : decode cX10_vatOf 17 = .ok (.iconst (-1), 1) := by decide +kernel
theorem dX10_vatOf_18 : decode cX10_vatOf 18 = .ok (.ireturn, 1) := by decide +kernel
theorem dX10_vatOf_19 : decode cX10_vatOf 19 = .ok (.iload_n 2, 1) := by decide +kernel
theorem dX10_vatOf_20 : decode cX10_vatOf 20 = .ok (.iconst 4, 1) := by decide +kernel
theorem dX10_vatOf_21 : decode cX10_vatOf 21 = .ok (.if_icmp .ge 12, 3) := by decide +kernel
theorem dX10_vatOf_24 : decode cX10_vatOf 24 = .ok (.aload_n 0, 1) := by decide +kernel
theorem dX10_vatOf_25 : decode cX10_vatOf 25 = .ok (.iload_n 1, 1) := by decide +kernel
theorem dX10_vatOf_26 : decode cX10_vatOf 26 = .ok (.iload_n 2, 1) := by decide +kernel
theorem dX10_vatOf_27 : decode cX10_vatOf 27 = .ok (.invokevirtual 57, 3) := by decide +kernel
theorem dX10_vatOf_30 : decode cX10_vatOf 30 = .ok (.goto 23, 3) := by decide +kernel
theorem dX10_vatOf_33 : decode cX10_vatOf 33 = .ok (.aload_n 0, 1) := by decide +kernel
theorem dX10_vatOf_34 : decode cX10_vatOf 34 = .ok (.iload_n 1, 1) := by decide +kernel
theorem dX10_vatOf_35 : decode cX10_vatOf 35 = .ok (.iconst 3, 1) := by decide +kernel
theorem dX10_vatOf_36 : decode cX10_vatOf 36 = .ok (.invokevirtual 57, 3) := by decide +kernel
theorem dX10_vatOf_39 : decode cX10_vatOf 39 = .ok (.aload_n 0, 1) := by decide +kernel
theorem dX10_vatOf_40 : decode cX10_vatOf 40 = .ok (.getfield 7, 3) := by decide +kernel
theorem dX10_vatOf_43 : decode cX10_vatOf 43 = .ok (.iconst 2, 1) := by decide +kernel
theorem dX10_vatOf_44 : decode cX10_vatOf 44 = .ok (.iaload, 1) := by decide +kernel
theorem dX10_vatOf_45 : decode cX10_vatOf 45 = .ok (.if_icmp .le 7, 3) := by decide +kernel
theorem dX10_vatOf_48 : decode cX10_vatOf 48 = .ok (.iconst 1, 1) := by decide +kernel
theorem dX10_vatOf_49 : decode cX10_vatOf 49 = .ok (.goto 4, 3) := by decide +kernel
theorem dX10_vatOf_52 : decode cX10_vatOf 52 = .ok (.iconst 0, 1) := by decide +kernel
theorem dX10_vatOf_53 : decode cX10_vatOf 53 = .ok (.ireturn, 1) := by decide +kernel
theorem dX10_isStronger_0 : decode cX10_isStronger 0 = .ok (.aload_n 0, 1) := by decide +kernel
theorem dX10_isStronger_1 : decode cX10_isStronger 1 = .ok (.iload_n 1, 1) := by decide +kernel
theorem dX10_isStronger_2 : decode cX10_isStronger 2 = .ok (.iconst 2, 1) := by decide +kernel
theorem dX10_isStronger_3 : decode cX10_isStronger 3 = .ok (.invokevirtual 57, 3) := by decide +kernel
theorem dX10_isStronger_6 : decode cX10_isStronger 6 = .ok (.aload_n 0, 1) := by decide +kernel
theorem dX10_isStronger_7 : decode cX10_isStronger 7 = .ok (.iload_n 1, 1) := by decide +kernel
theorem dX10_isStronger_8 : decode cX10_isStronger 8 = .ok (.iconst 1, 1) := by decide +kernel
theorem dX10_isStronger_9 : decode cX10_isStronger 9 = .ok (.invokevirtual 57, 3) := by decide +kernel
theorem dX10_isStronger_12 : decode cX10_isStronger 12 = .ok (.idiv, 1) := by decide +kernel
theorem dX10_isStronger_13 : decode cX10_isStronger 13 = .ok (.istore_n 3, 1) := by decide +kernel
theorem dX10_isStronger_14 : decode cX10_isStronger 14 = .ok (.aload_n 0, 1) := by decide +kernel
theorem dX10_isStronger_15 : decode cX10_isStronger 15 = .ok (.iload_n 2, 1) := by decide +kernel
theorem dX10_isStronger_16 : decode cX10_isStronger 16 = .ok (.iconst 2, 1) := by decide +kernel
theorem dX10_isStronger_17 : decode cX10_isStronger 17 = .ok (.invokevirtual 57, 3) := by decide +kernel
theorem dX10_isStronger_20 : decode cX10_isStronger 20 = .ok (.aload_n 0, 1) := by decide +kernel
theorem dX10_isStronger_21 : decode cX10_isStronger 21 = .ok (.iload_n 2, 1) := by decide +kernel
theorem dX10_isStronger_22 : decode cX10_isStronger 22 = .ok (.iconst 1, 1) := by decide +kernel
theorem dX10_isStronger_23 : decode cX10_isStronger 23 = .ok (.invokevirtual 57, 3) := by decide +kernel
theorem dX10_isStronger_26 : decode cX10_isStronger 26 = .ok (.idiv, 1) := by decide +kernel
theorem dX10_isStronger_27 : decode cX10_isStronger 27 = .ok (.istore 4, 2) := by decide +kernel
theorem dX10_isStronger_29 : decode cX10_isStronger 29 = .ok (.iload_n 3, 1) := by decide +kernel
theorem dX10_isStronger_30 : decode cX10_isStronger 30 = .ok (.iload 4, 2) := by decide +kernel
theorem dX10_isStronger_32 : decode cX10_isStronger 32 = .ok (.if_icmp .eq 15, 3) := by decide +kernel
theorem dX10_isStronger_35 : decode cX10_isStronger 35 = .ok (.iload_n 3, 1) := by decide +kernel
theorem dX10_isStronger_36 : decode cX10_isStronger 36 = .ok (.iload 4, 2) := by decide +kernel
theorem dX10_isStronger_38 : decode cX10_isStronger 38 = .ok (.if_icmp .le 7, 3) := by decide +kernel
theorem dX10_isStronger_41 : decode cX10_isStronger 41 = .ok (.iconst 1, 1) := by decide +kernel
theorem dX10_isStronger_42 : decode cX10_isStronger 42 = .ok (.goto 4, 3) := by decide +kernel
theorem dX10_isStronger_45 : decode cX10_isStronger 45 = .ok (.iconst 0, 1) := by decide +kernel
theorem dX10_isStronger_46 : decode cX10_isStronger 46 = .ok (.ireturn, 1) := by decide +kernel
theorem dX10_isStronger_47 : decode cX10_isStronger 47 = .ok (.aload_n 0, 1) := by decide +kernel
theorem dX10_isStronger_48 : decode cX10_isStronger 48 = .ok (.iload_n 1, 1) := by decide +kernel
theorem dX10_isStronger_49 : decode cX10_isStronger 49 = .ok (.iconst 3, 1) := by decide +kernel
theorem dX10_isStronger_50 : decode cX10_isStronger 50 = .ok (.invokevirtual 57, 3) := by decide +kernel
theorem dX10_isStronger_53 : decode cX10_isStronger 53 = .ok (.aload_n 0, 1) := by decide +kernel
theorem dX10_isStronger_54 : decode cX10_isStronger 54 = .ok (.iload_n 2, 1) := by decide +kernel
theorem dX10_isStronger_55 : decode cX10_isStronger 55 = .ok (.iconst 3, 1) := by decide +kernel
theorem dX10_isStronger_56 : decode cX10_isStronger 56 = .ok (.invokevirtual 57, 3) := by decide +kernel
theorem dX10_isStronger_59 : decode cX10_isStronger 59 = .ok (.if_icmp .eq 26, 3) := by decide +kernel
theorem dX10_isStronger_62 : decode cX10_isStronger 62 = .ok (.aload_n 0, 1) := by decide +kernel
theorem dX10_isStronger_63 : decode cX10_isStronger 63 = .ok (.iload_n 1, 1) := by decide +kernel
theorem dX10_isStronger_64 : decode cX10_isStronger 64 = .ok (.iconst 3, 1) := by decide +kernel
theorem dX10_isStronger_65 : decode cX10_isStronger 65 = .ok (.invokevirtual 57, 3) := by decide +kernel
theorem dX10_isStronger_68 : decode cX10_isStronger 68 = .ok (.aload_n 0, 1) := by decide +kernel
theorem dX10_isStronger_69 : decode cX10_isStronger 69 = .ok (.iload_n 2, 1) := by decide +kernel
theorem dX10_isStronger_70 : decode cX10_isStronger 70 = .ok (.iconst 3, 1) := by decide +kernel
theorem dX10_isStronger_71 : decode cX10_isStronger 71 = .ok (.invokevirtual 57, 3) := by decide +kernel
theorem dX10_isStronger_74 : decode cX10_isStronger 74 = .ok (.if_icmp .ge 7, 3) := by decide +kernel
theorem dX10_isStronger_77 : decode cX10_isStronger 77 = .ok (.iconst 1, 1) := by decide +kernel
theorem dX10_isStronger_78 : decode cX10_isStronger 78 = .ok (.goto 17, 3) := by decide +kernel
theorem dX10_isStronger_81 : decode cX10_isStronger 81 = .ok (.iconst 0, 1) := by decide +kernel
theorem dX10_isStronger_82 : decode cX10_isStronger 82 = .ok (.goto 13, 3) := by decide +kernel
theorem dX10_isStronger_85 : decode cX10_isStronger 85 = .ok (.iload_n 1, 1) := by decide +kernel
theorem dX10_isStronger_86 : decode cX10_isStronger 86 = .ok (.iload_n 2, 1) := by decide +kernel
theorem dX10_isStronger_87 : decode cX10_isStronger 87 = .ok (.if_icmp .ge 7, 3) := by decide +kernel
theorem dX10_isStronger_90 : decode cX10_isStronger 90 = .ok (.iconst 1, 1) := by decide +kernel
theorem dX10_isStronger_91 : decode cX10_isStronger 91 = .ok (.goto 4, 3) := by decide +kernel
theorem dX10_isStronger_94 : decode cX10_isStronger 94 = .ok (.iconst 0, 1) := by decide +kernel
theorem dX10_isStronger_95 : decode cX10_isStronger 95 = .ok (.ireturn, 1) := by decide +kernel
theorem dX10_vatAt_0 : decode cX10_vatAt 0 = .ok (.iload_n 1, 1) := by decide +kernel
theorem dX10_vatAt_1 : decode cX10_vatAt 1 = .ok (.ifCond .ge 5, 3) := by decide +kernel
theorem dX10_vatAt_4 : decode cX10_vatAt 4 = .ok (.iconst (-1), 1) := by decide +kernel
theorem dX10_vatAt_5 : decode cX10_vatAt 5 = .ok (.ireturn, 1) := by decide +kernel
theorem dX10_vatAt_6 : decode cX10_vatAt 6 = .ok (.iconst 0, 1) := by decide +kernel
theorem dX10_vatAt_7 : decode cX10_vatAt 7 = .ok (.istore_n 2, 1) := by decide +kernel
theorem dX10_vatAt_8 : decode cX10_vatAt 8 = .ok (.iload_n 2, 1) := by decide +kernel
theorem dX10_vatAt_9 : decode cX10_vatAt 9 = .ok (.aload_n 0, 1) := by decide +kernel
theorem dX10_vatAt_10 : decode cX10_vatAt 10 = .ok (.getfield 7, 3) := by decide +kernel
theorem dX10_vatAt_13 : decode cX10_vatAt 13 = .ok (.bipush 7, 2) := by decide +kernel
theorem dX10_vatAt_15 : decode cX10_vatAt 15 = .ok (.iaload, 1) := by decide +kernel
theorem dX10_vatAt_16 : decode cX10_vatAt 16 = .ok (.if_icmp .ge 63, 3) := by decide +kernel
theorem dX10_vatAt_19 : decode cX10_vatAt 19 = .ok (.iconst 0, 1) := by decide +kernel
theorem dX10_vatAt_20 : decode cX10_vatAt 20 = .ok (.istore_n 3, 1) := by decide +kernel
theorem dX10_vatAt_21 : decode cX10_vatAt 21 = .ok (.iconst 0, 1) := by decide +kernel
theorem dX10_vatAt_22 : decode cX10_vatAt 22 = .ok (.istore 4, 2) := by decide +kernel
theorem dX10_vatAt_24 : decode cX10_vatAt 24 = .ok (.iload 4, 2) := by decide +kernel
theorem dX10_vatAt_26 : decode cX10_vatAt 26 = .ok (.aload_n 0, 1) := by decide +kernel
theorem dX10_vatAt_27 : decode cX10_vatAt 27 = .ok (.getfield 7, 3) := by decide +kernel
theorem dX10_vatAt_30 : decode cX10_vatAt 30 = .ok (.bipush 7, 2) := by decide +kernel
theorem dX10_vatAt_32 : decode cX10_vatAt 32 = .ok (.iaload, 1) := by decide +kernel
theorem dX10_vatAt_33 : decode cX10_vatAt 33 = .ok (.if_icmp .ge 33, 3) := by decide +kernel
theorem dX10_vatAt_36 : decode cX10_vatAt 36 = .ok (.iload_n 3, 1) := by decide +kernel
theorem dX10_vatAt_37 : decode cX10_vatAt 37 = .ok (.iload 4, 2) := by decide +kernel
theorem dX10_vatAt_39 : decode cX10_vatAt 39 = .ok (.iload_n 2, 1) := by decide +kernel
theorem dX10_vatAt_40 : decode cX10_vatAt 40 = .ok (.if_icmp .eq 17, 3) := by decide +kernel
theorem dX10_vatAt_43 : decode cX10_vatAt 43 = .ok (.aload_n 0, 1) := by decide +kernel
theorem dX10_vatAt_44 : decode cX10_vatAt 44 = .ok (.iload 4, 2) := by decide +kernel
theorem dX10_vatAt_46 : decode cX10_vatAt 46 = .ok (.iload_n 2, 1) := by decide +kernel
theorem dX10_vatAt_47 : decode cX10_vatAt 47 = .ok (.invokevirtual 71, 3) := by decide +kernel
theorem dX10_vatAt_50 : decode cX10_vatAt 50 = .ok (.ifCond .eq 7, 3) := by decide +kernel
theorem dX10_vatAt_53 : decode cX10_vatAt 53 = .ok (.iconst 1, 1) := by decide +kernel
theorem dX10_vatAt_54 : decode cX10_vatAt 54 = .ok (.goto 4, 3) := by decide +kernel
theorem dX10_vatAt_57 : decode cX10_vatAt 57 = .ok (.iconst 0, 1) := by decide +kernel
theorem dX10_vatAt_58 : decode cX10_vatAt 58 = .ok (.iadd, 1) := by decide +kernel
theorem dX10_vatAt_59 : decode cX10_vatAt 59 = .ok (.istore_n 3, 1) := by decide +kernel
theorem dX10_vatAt_60 : decode cX10_vatAt 60 = .ok (.iinc 4 1, 3) := by decide +kernel
theorem dX10_vatAt_63 : decode cX10_vatAt 63 = .ok (.goto (-39), 3) := by decide +kernel
theorem dX10_vatAt_66 : decode cX10_vatAt 66 = .ok (.iload_n 3, 1) := by decide +kernel
theorem dX10_vatAt_67 : decode cX10_vatAt 67 = .ok (.iload_n 1, 1) := by decide +kernel
theorem dX10_vatAt_68 : decode cX10_vatAt 68 = .ok (.if_icmp .ne 5, 3) := by decide +kernel
theorem dX10_vatAt_71 : decode cX10_vatAt 71 = .ok (.iload_n 2, 1) := by decide +kernel
theorem dX10_vatAt_72 : decode cX10_vatAt 72 = .ok (.ireturn, 1) := by decide +kernel
theorem dX10_vatAt_73 : decode cX10_vatAt 73 = .ok (.iinc 2 1, 3) := by decide +kernel
theorem dX10_vatAt_76 : decode cX10_vatAt 76 = .ok (.goto (-68), 3) := by decide +kernel
theorem dX10_vatAt_79 : decode cX10_vatAt 79 = .ok (.bipush (-4), 2) := by decide +kernel
theorem dX10_vatAt_81 : decode cX10_vatAt 81 = .ok (.ireturn, 1) := by decide +kernel
theorem dX10_grains_0 : decode cX10_grains 0 = .ok (.aload_n 0, 1) := by decide +kernel
theorem dX10_grains_1 : decode cX10_grains 1 = .ok (.iload_n 1, 1) := by decide +kernel
theorem dX10_grains_2 : decode cX10_grains 2 = .ok (.iconst 2, 1) := by decide +kernel
theorem dX10_grains_3 : decode cX10_grains 3 = .ok (.iload_n 2, 1) := by decide +kernel
theorem dX10_grains_4 : decode cX10_grains 4 = .ok (.iadd, 1) := by decide +kernel
theorem dX10_grains_5 : decode cX10_grains 5 = .ok (.invokevirtual 35, 3) := by decide +kernel
theorem dX10_grains_8 : decode cX10_grains 8 = .ok (.aload_n 0, 1) := by decide +kernel
theorem dX10_grains_9 : decode cX10_grains 9 = .ok (.iload_n 1, 1) := by decide +kernel
theorem dX10_grains_10 : decode cX10_grains 10 = .ok (.bipush 6, 2) := by decide +kernel
theorem dX10_grains_12 : decode cX10_grains 12 = .ok (.iload_n 2, 1) := by decide +kernel
theorem dX10_grains_13 : decode cX10_grains 13 = .ok (.iadd, 1) := by decide +kernel
theorem dX10_grains_14 : decode cX10_grains 14 = .ok (.invokevirtual 35, 3) := by decide +kernel
theorem dX10_grains_17 : decode cX10_grains 17 = .ok (.iadd, 1) := by decide +kernel
theorem dX10_grains_18 : decode cX10_grains 18 = .ok (.ireturn, 1) := by decide +kernel
theorem dX10_shadeOf_0 : decode cX10_shadeOf 0 = .ok (.ldc2_w 75, 3) := by decide +kernel
theorem dX10_shadeOf_3 : decode cX10_shadeOf 3 = .ok (.aload_n 0, 1) := by decide +kernel
theorem dX10_shadeOf_4 : decode cX10_shadeOf 4 = .ok (.iload_n 1, 1) := by decide +kernel
theorem dX10_shadeOf_5 : decode cX10_shadeOf 5 = .ok (.iload_n 2, 1) := by decide +kernel
theorem dX10_shadeOf_6 : decode cX10_shadeOf 6 = .ok (.invokevirtual 77, 3) := by decide +kernel
theorem dX10_shadeOf_9 : decode cX10_shadeOf 9 = .ok (.i2l, 1) := by decide +kernel
theorem dX10_shadeOf_10 : decode cX10_shadeOf 10 = .ok (.lmul, 1) := by decide +kernel
theorem dX10_shadeOf_11 : decode cX10_shadeOf 11 = .ok (.aload_n 0, 1) := by decide +kernel
theorem dX10_shadeOf_12 : decode cX10_shadeOf 12 = .ok (.iload_n 1, 1) := by decide +kernel
theorem dX10_shadeOf_13 : decode cX10_shadeOf 13 = .ok (.iconst 1, 1) := by decide +kernel
theorem dX10_shadeOf_14 : decode cX10_shadeOf 14 = .ok (.invokevirtual 35, 3) := by decide +kernel
theorem dX10_shadeOf_17 : decode cX10_shadeOf 17 = .ok (.i2l, 1) := by decide +kernel
theorem dX10_shadeOf_18 : decode cX10_shadeOf 18 = .ok (.ldiv, 1) := by decide +kernel
theorem dX10_shadeOf_19 : decode cX10_shadeOf 19 = .ok (.l2i, 1) := by decide +kernel
theorem dX10_shadeOf_20 : decode cX10_shadeOf 20 = .ok (.ireturn, 1) := by decide +kernel
theorem dX10_depth_0 : decode cX10_depth 0 = .ok (.lconst 0, 1) := by decide +kernel
theorem dX10_depth_1 : decode cX10_depth 1 = .ok (.lstore_n 2, 1) := by decide +kernel
theorem dX10_depth_2 : decode cX10_depth 2 = .ok (.iconst 0, 1) := by decide +kernel
theorem dX10_depth_3 : decode cX10_depth 3 = .ok (.istore 4, 2) := by decide +kernel
theorem dX10_depth_5 : decode cX10_depth 5 = .ok (.iload 4, 2) := by decide +kernel
theorem dX10_depth_7 : decode cX10_depth 7 = .ok (.iconst 4, 1) := by decide +kernel
theorem dX10_depth_8 : decode cX10_depth 8 = .ok (.if_icmp .ge 20, 3) := by decide +kernel
theorem dX10_depth_11 : decode cX10_depth 11 = .ok (.lload_n 2, 1) := by decide +kernel
theorem dX10_depth_12 : decode cX10_depth 12 = .ok (.aload_n 0, 1) := by decide +kernel
theorem dX10_depth_13 : decode cX10_depth 13 = .ok (.iload_n 1, 1) := by decide +kernel
theorem dX10_depth_14 : decode cX10_depth 14 = .ok (.iload 4, 2) := by decide +kernel
theorem dX10_depth_16 : decode cX10_depth 16 = .ok (.invokevirtual 77, 3) := by decide +kernel
theorem dX10_depth_19 : decode cX10_depth 19 = .ok (.i2l, 1) := by decide +kernel
theorem dX10_depth_20 : decode cX10_depth 20 = .ok (.ladd, 1) := by decide +kernel
theorem dX10_depth_21 : decode cX10_depth 21 = .ok (.lstore_n 2, 1) := by decide +kernel
theorem dX10_depth_22 : decode cX10_depth 22 = .ok (.iinc 4 1, 3) := by decide +kernel
theorem dX10_depth_25 : decode cX10_depth 25 = .ok (.goto (-20), 3) := by decide +kernel
theorem dX10_depth_28 : decode cX10_depth 28 = .ok (.ldc2_w 75, 3) := by decide +kernel
theorem dX10_depth_31 : decode cX10_depth 31 = .ok (.lload_n 2, 1) := by decide +kernel
theorem dX10_depth_32 : decode cX10_depth 32 = .ok (.lmul, 1) := by decide +kernel
theorem dX10_depth_33 : decode cX10_depth 33 = .ok (.aload_n 0, 1) := by decide +kernel
theorem dX10_depth_34 : decode cX10_depth 34 = .ok (.iload_n 1, 1) := by decide +kernel
theorem dX10_depth_35 : decode cX10_depth 35 = .ok (.iconst 1, 1) := by decide +kernel
theorem dX10_depth_36 : decode cX10_depth 36 = .ok (.invokevirtual 35, 3) := by decide +kernel
theorem dX10_depth_39 : decode cX10_depth 39 = .ok (.i2l, 1) := by decide +kernel
theorem dX10_depth_40 : decode cX10_depth 40 = .ok (.ldiv, 1) := by decide +kernel
theorem dX10_depth_41 : decode cX10_depth 41 = .ok (.l2i, 1) := by decide +kernel
theorem dX10_depth_42 : decode cX10_depth 42 = .ok (.ireturn, 1) := by decide +kernel
theorem dX10_lot_0 : decode cX10_lot 0 = .ok (.iload_n 1, 1) := by decide +kernel
theorem dX10_lot_1 : decode cX10_lot 1 = .ok (.iconst 0, 1) := by decide +kernel
theorem dX10_lot_2 : decode cX10_lot 2 = .ok (.iconst 1, 1) := by decide +kernel
theorem dX10_lot_3 : decode cX10_lot 3 = .ok (.invokestatic 31, 3) := by decide +kernel
theorem dX10_lot_6 : decode cX10_lot 6 = .ok (.ifCond .eq 15, 3) := by decide +kernel
theorem dX10_lot_9 : decode cX10_lot 9 = .ok (.iload_n 2, 1) := by decide +kernel
theorem dX10_lot_10 : decode cX10_lot 10 = .ok (.bipush 100, 2) := by decide +kernel
theorem dX10_lot_12 : decode cX10_lot 12 = .ok (.sipush 5000, 3) := by decide +kernel
theorem dX10_lot_15 : decode cX10_lot 15 = .ok (.invokestatic 31, 3) := by decide +kernel
theorem dX10_lot_18 : decode cX10_lot 18 = .ok (.ifCond .ne 5, 3) := by decide +kernel
theorem dX10_lot_21 : decode cX10_lot 21 = .ok (.iconst (-1), 1) := by decide +kernel
theorem dX10_lot_22 : decode cX10_lot 22 = .ok (.ireturn, 1) := by decide +kernel
theorem dX10_lot_23 : decode cX10_lot 23 = .ok (.aload_n 0, 1) := by decide +kernel
theorem dX10_lot_24 : decode cX10_lot 24 = .ok (.getfield 7, 3) := by decide +kernel
theorem dX10_lot_27 : decode cX10_lot 27 = .ok (.bipush 8, 2) := by decide +kernel
theorem dX10_lot_29 : decode cX10_lot 29 = .ok (.iaload, 1) := by decide +kernel
theorem dX10_lot_30 : decode cX10_lot 30 = .ok (.bipush 20, 2) := by decide +kernel
theorem dX10_lot_32 : decode cX10_lot 32 = .ok (.if_icmp .ne 6, 3) := by decide +kernel
theorem dX10_lot_35 : decode cX10_lot 35 = .ok (.bipush (-3), 2) := by decide +kernel
theorem dX10_lot_37 : decode cX10_lot 37 = .ok (.ireturn, 1) := by decide +kernel
theorem dX10_lot_38 : decode cX10_lot 38 = .ok (.aload_n 0, 1) := by decide +kernel
theorem dX10_lot_39 : decode cX10_lot 39 = .ok (.invokevirtual 43, 3) := by decide +kernel
theorem dX10_lot_42 : decode cX10_lot 42 = .ok (.aload_n 0, 1) := by decide +kernel
theorem dX10_lot_43 : decode cX10_lot 43 = .ok (.getfield 7, 3) := by decide +kernel
theorem dX10_lot_46 : decode cX10_lot 46 = .ok (.bipush 8, 2) := by decide +kernel
theorem dX10_lot_48 : decode cX10_lot 48 = .ok (.iaload, 1) := by decide +kernel
theorem dX10_lot_49 : decode cX10_lot 49 = .ok (.istore_n 3, 1) := by decide +kernel
theorem dX10_lot_50 : decode cX10_lot 50 = .ok (.iconst 0, 1) := by decide +kernel
theorem dX10_lot_51 : decode cX10_lot 51 = .ok (.istore 4, 2) := by decide +kernel
theorem dX10_lot_53 : decode cX10_lot 53 = .ok (.iload 4, 2) := by decide +kernel
theorem dX10_lot_55 : decode cX10_lot 55 = .ok (.bipush 15, 2) := by decide +kernel
theorem dX10_lot_57 : decode cX10_lot 57 = .ok (.if_icmp .ge 17, 3) := by decide +kernel
theorem dX10_lot_60 : decode cX10_lot 60 = .ok (.aload_n 0, 1) := by decide +kernel
theorem dX10_lot_61 : decode cX10_lot 61 = .ok (.iload_n 3, 1) := by decide +kernel
theorem dX10_lot_62 : decode cX10_lot 62 = .ok (.iload 4, 2) := by decide +kernel
theorem dX10_lot_64 : decode cX10_lot 64 = .ok (.iconst 0, 1) := by decide +kernel
theorem dX10_lot_65 : decode cX10_lot 65 = .ok (.invokevirtual 80, 3) := by decide +kernel
theorem dX10_lot_68 : decode cX10_lot 68 = .ok (.iinc 4 1, 3) := by decide +kernel
theorem dX10_lot_71 : decode cX10_lot 71 = .ok (.goto (-18), 3) := by decide +kernel
theorem dX10_lot_74 : decode cX10_lot 74 = .ok (.aload_n 0, 1) := by decide +kernel
theorem dX10_lot_75 : decode cX10_lot 75 = .ok (.iload_n 3, 1) := by decide +kernel
theorem dX10_lot_76 : decode cX10_lot 76 = .ok (.iconst 0, 1) := by decide +kernel
theorem dX10_lot_77 : decode cX10_lot 77 = .ok (.iload_n 1, 1) := by decide +kernel
theorem dX10_lot_78 : decode cX10_lot 78 = .ok (.invokevirtual 80, 3) := by decide +kernel
theorem dX10_lot_81 : decode cX10_lot 81 = .ok (.aload_n 0, 1) := by decide +kernel
theorem dX10_lot_82 : decode cX10_lot 82 = .ok (.iload_n 3, 1) := by decide +kernel
theorem dX10_lot_83 : decode cX10_lot 83 = .ok (.iconst 1, 1) := by decide +kernel
theorem dX10_lot_84 : decode cX10_lot 84 = .ok (.iload_n 2, 1) := by decide +kernel
theorem dX10_lot_85 : decode cX10_lot 85 = .ok (.invokevirtual 80, 3) := by decide +kernel
theorem dX10_lot_88 : decode cX10_lot 88 = .ok (.aload_n 0, 1) := by decide +kernel
theorem dX10_lot_89 : decode cX10_lot 89 = .ok (.getfield 7, 3) := by decide +kernel
theorem dX10_lot_92 : decode cX10_lot 92 = .ok (.bipush 8, 2) := by decide +kernel
theorem dX10_lot_94 : decode cX10_lot 94 = .ok (.dup2, 1) := by decide +kernel
theorem dX10_lot_95 : decode cX10_lot 95 = .ok (.iaload, 1) := by decide +kernel
theorem dX10_lot_96 : decode cX10_lot 96 = .ok (.iconst 1, 1) := by decide +kernel
theorem dX10_lot_97 : decode cX10_lot 97 = .ok (.iadd, 1) := by decide +kernel
theorem dX10_lot_98 : decode cX10_lot 98 = .ok (.iastore, 1) := by decide +kernel
theorem dX10_lot_99 : decode cX10_lot 99 = .ok (.iload_n 3, 1) := by decide +kernel
theorem dX10_lot_100 : decode cX10_lot 100 = .ok (.ireturn, 1) := by decide +kernel
theorem dX10_taken_0 : decode cX10_taken 0 = .ok (.aload_n 0, 1) := by decide +kernel
theorem dX10_taken_1 : decode cX10_taken 1 = .ok (.iload_n 1, 1) := by decide +kernel
theorem dX10_taken_2 : decode cX10_taken 2 = .ok (.iconst 0, 1) := by decide +kernel
theorem dX10_taken_3 : decode cX10_taken 3 = .ok (.invokevirtual 35, 3) := by decide +kernel
theorem dX10_taken_6 : decode cX10_taken 6 = .ok (.i2l, 1) := by decide +kernel
theorem dX10_taken_7 : decode cX10_taken 7 = .ok (.lconst 1, 1) := by decide +kernel
theorem dX10_taken_8 : decode cX10_taken 8 = .ok (.ladd, 1) := by decide +kernel
theorem dX10_taken_9 : decode cX10_taken 9 = .ok (.aload_n 0, 1) := by decide +kernel
theorem dX10_taken_10 : decode cX10_taken 10 = .ok (.iload_n 1, 1) := by decide +kernel
theorem dX10_taken_11 : decode cX10_taken 11 = .ok (.iconst 1, 1) := by decide +kernel
theorem dX10_taken_12 : decode cX10_taken 12 = .ok (.invokevirtual 35, 3) := by decide +kernel
theorem dX10_taken_15 : decode cX10_taken 15 = .ok (.i2l, 1) := by decide +kernel
theorem dX10_taken_16 : decode cX10_taken 16 = .ok (.lmul, 1) := by decide +kernel
theorem dX10_taken_17 : decode cX10_taken 17 = .ok (.lstore 4, 2) := by decide +kernel
theorem dX10_taken_19 : decode cX10_taken 19 = .ok (.iload_n 3, 1) := by decide +kernel
theorem dX10_taken_20 : decode cX10_taken 20 = .ok (.i2l, 1) := by decide +kernel
theorem dX10_taken_21 : decode cX10_taken 21 = .ok (.lload 4, 2) := by decide +kernel
theorem dX10_taken_23 : decode cX10_taken 23 = .ok (.lmul, 1) := by decide +kernel
theorem dX10_taken_24 : decode cX10_taken 24 = .ok (.lload 4, 2) := by decide +kernel
theorem dX10_taken_26 : decode cX10_taken 26 = .ok (.aload_n 0, 1) := by decide +kernel
theorem dX10_taken_27 : decode cX10_taken 27 = .ok (.getfield 7, 3) := by decide +kernel
theorem dX10_taken_30 : decode cX10_taken 30 = .ok (.iconst 0, 1) := by decide +kernel
theorem dX10_taken_31 : decode cX10_taken 31 = .ok (.iaload, 1) := by decide +kernel
theorem dX10_taken_32 : decode cX10_taken 32 = .ok (.i2l, 1) := by decide +kernel
theorem dX10_taken_33 : decode cX10_taken 33 = .ok (.aload_n 0, 1) := by decide +kernel
theorem dX10_taken_34 : decode cX10_taken 34 = .ok (.iload_n 2, 1) := by decide +kernel
theorem dX10_taken_35 : decode cX10_taken 35 = .ok (.iconst 1, 1) := by decide +kernel
theorem dX10_taken_36 : decode cX10_taken 36 = .ok (.invokevirtual 57, 3) := by decide +kernel
theorem dX10_taken_39 : decode cX10_taken 39 = .ok (.i2l, 1) := by decide +kernel
theorem dX10_taken_40 : decode cX10_taken 40 = .ok (.lmul, 1) := by decide +kernel
theorem dX10_taken_41 : decode cX10_taken 41 = .ok (.ladd, 1) := by decide +kernel
theorem dX10_taken_42 : decode cX10_taken 42 = .ok (.ldiv, 1) := by decide +kernel
theorem dX10_taken_43 : decode cX10_taken 43 = .ok (.l2i, 1) := by decide +kernel
theorem dX10_taken_44 : decode cX10_taken 44 = .ok (.ireturn, 1) := by decide +kernel
theorem dX10_dyes_0 : decode cX10_dyes 0 = .ok (.bipush 19, 2) := by decide +kernel
theorem dX10_dyes_2 : decode cX10_dyes 2 = .ok (.iconst 4, 1) := by decide +kernel
theorem dX10_dyes_3 : decode cX10_dyes 3 = .ok (.iload_n 2, 1) := by decide +kernel
theorem dX10_dyes_4 : decode cX10_dyes 4 = .ok (.imul, 1) := by decide +kernel
theorem dX10_dyes_5 : decode cX10_dyes 5 = .ok (.iadd, 1) := by decide +kernel
theorem dX10_dyes_6 : decode cX10_dyes 6 = .ok (.istore_n 3, 1) := by decide +kernel
theorem dX10_dyes_7 : decode cX10_dyes 7 = .ok (.aload_n 0, 1) := by decide +kernel
theorem dX10_dyes_8 : decode cX10_dyes 8 = .ok (.getfield 7, 3) := by decide +kernel
theorem dX10_dyes_11 : decode cX10_dyes 11 = .ok (.iload_n 3, 1) := by decide +kernel
theorem dX10_dyes_12 : decode cX10_dyes 12 = .ok (.iaload, 1) := by decide +kernel
theorem dX10_dyes_13 : decode cX10_dyes 13 = .ok (.istore 4, 2) := by decide +kernel
theorem dX10_dyes_15 : decode cX10_dyes 15 = .ok (.aload_n 0, 1) := by decide +kernel
theorem dX10_dyes_16 : decode cX10_dyes 16 = .ok (.iload_n 1, 1) := by decide +kernel
theorem dX10_dyes_17 : decode cX10_dyes 17 = .ok (.iload_n 2, 1) := by decide +kernel
theorem dX10_dyes_18 : decode cX10_dyes 18 = .ok (.aload_n 0, 1) := by decide +kernel
theorem dX10_dyes_19 : decode cX10_dyes 19 = .ok (.getfield 7, 3) := by decide +kernel
theorem dX10_dyes_22 : decode cX10_dyes 22 = .ok (.iload_n 3, 1) := by decide +kernel
theorem dX10_dyes_23 : decode cX10_dyes 23 = .ok (.iconst 2, 1) := by decide +kernel
theorem dX10_dyes_24 : decode cX10_dyes 24 = .ok (.iadd, 1) := by decide +kernel
theorem dX10_dyes_25 : decode cX10_dyes 25 = .ok (.iaload, 1) := by decide +kernel
theorem dX10_dyes_26 : decode cX10_dyes 26 = .ok (.invokevirtual 84, 3) := by decide +kernel
theorem dX10_dyes_29 : decode cX10_dyes 29 = .ok (.istore 5, 2) := by decide +kernel
theorem dX10_dyes_31 : decode cX10_dyes 31 = .ok (.iload 5, 2) := by decide +kernel
theorem dX10_dyes_33 : decode cX10_dyes 33 = .ok (.aload_n 0, 1) := by decide +kernel
theorem dX10_dyes_34 : decode cX10_dyes 34 = .ok (.getfield 7, 3) := by decide +kernel
theorem dX10_dyes_37 : decode cX10_dyes 37 = .ok (.iconst 5, 1) := by decide +kernel
theorem dX10_dyes_38 : decode cX10_dyes 38 = .ok (.iaload, 1) := by decide +kernel
theorem dX10_dyes_39 : decode cX10_dyes 39 = .ok (.imul, 1) := by decide +kernel
theorem dX10_dyes_40 : decode cX10_dyes 40 = .ok (.bipush 100, 2) := by decide +kernel
theorem dX10_dyes_42 : decode cX10_dyes 42 = .ok (.idiv, 1) := by decide +kernel
theorem dX10_dyes_43 : decode cX10_dyes 43 = .ok (.istore 6, 2) := by decide +kernel
theorem dX10_dyes_45 : decode cX10_dyes 45 = .ok (.aload_n 0, 1) := by decide +kernel
theorem dX10_dyes_46 : decode cX10_dyes 46 = .ok (.getfield 7, 3) := by decide +kernel
theorem dX10_dyes_49 : decode cX10_dyes 49 = .ok (.iload_n 3, 1) := by decide +kernel
theorem dX10_dyes_50 : decode cX10_dyes 50 = .ok (.iconst 3, 1) := by decide +kernel
theorem dX10_dyes_51 : decode cX10_dyes 51 = .ok (.iadd, 1) := by decide +kernel
theorem dX10_dyes_52 : decode cX10_dyes 52 = .ok (.iaload, 1) := by decide +kernel
theorem dX10_dyes_53 : decode cX10_dyes 53 = .ok (.aload_n 0, 1) := by decide +kernel
theorem dX10_dyes_54 : decode cX10_dyes 54 = .ok (.getfield 7, 3) := by decide +kernel
theorem dX10_dyes_57 : decode cX10_dyes 57 = .ok (.iconst 2, 1) := by decide +kernel
theorem dX10_dyes_58 : decode cX10_dyes 58 = .ok (.iaload, 1) := by decide +kernel
theorem dX10_dyes_59 : decode cX10_dyes 59 = .ok (.if_icmp .le 7, 3) := by decide +kernel
theorem dX10_dyes_62 : decode cX10_dyes 62 = .ok (.iconst 1, 1) := by decide +kernel
theorem dX10_dyes_63 : decode cX10_dyes 63 = .ok (.goto 4, 3) := by decide +kernel
theorem dX10_dyes_66 : decode cX10_dyes 66 = .ok (.iconst 0, 1) := by decide +kernel
theorem dX10_dyes_67 : decode cX10_dyes 67 = .ok (.istore 7, 2) := by decide +kernel
theorem dX10_dyes_69 : decode cX10_dyes 69 = .ok (.aload_n 0, 1) := by decide +kernel
theorem dX10_dyes_70 : decode cX10_dyes 70 = .ok (.getfield 7, 3) := by decide +kernel
theorem dX10_dyes_73 : decode cX10_dyes 73 = .ok (.iload_n 3, 1) := by decide +kernel
theorem dX10_dyes_74 : decode cX10_dyes 74 = .ok (.iconst 2, 1) := by decide +kernel
theorem dX10_dyes_75 : decode cX10_dyes 75 = .ok (.iadd, 1) := by decide +kernel
theorem dX10_dyes_76 : decode cX10_dyes 76 = .ok (.dup2, 1) := by decide +kernel
theorem dX10_dyes_77 : decode cX10_dyes 77 = .ok (.iaload, 1) := by decide +kernel
theorem dX10_dyes_78 : decode cX10_dyes 78 = .ok (.iload 5, 2) := by decide +kernel
theorem dX10_dyes_80 : decode cX10_dyes 80 = .ok (.isub, 1) := by decide +kernel
theorem dX10_dyes_81 : decode cX10_dyes 81 = .ok (.iastore, 1) := by decide +kernel
theorem dX10_dyes_82 : decode cX10_dyes 82 = .ok (.aload_n 0, 1) := by decide +kernel
theorem dX10_dyes_83 : decode cX10_dyes 83 = .ok (.getfield 7, 3) := by decide +kernel
theorem dX10_dyes_86 : decode cX10_dyes 86 = .ok (.iload_n 3, 1) := by decide +kernel
theorem dX10_dyes_87 : decode cX10_dyes 87 = .ok (.iconst 3, 1) := by decide +kernel
theorem dX10_dyes_88 : decode cX10_dyes 88 = .ok (.iadd, 1) := by decide +kernel
theorem dX10_dyes_89 : decode cX10_dyes 89 = .ok (.dup2, 1) := by decide +kernel
theorem dX10_dyes_90 : decode cX10_dyes 90 = .ok (.iaload, 1) := by decide +kernel
theorem dX10_dyes_91 : decode cX10_dyes 91 = .ok (.aload_n 0, 1) := by decide +kernel
theorem dX10_dyes_92 : decode cX10_dyes 92 = .ok (.iload_n 1, 1) := by decide +kernel
theorem dX10_dyes_93 : decode cX10_dyes 93 = .ok (.iconst 1, 1) := by decide +kernel
theorem dX10_dyes_94 : decode cX10_dyes 94 = .ok (.invokevirtual 35, 3) := by decide +kernel
theorem dX10_dyes_97 : decode cX10_dyes 97 = .ok (.aload_n 0, 1) := by decide +kernel
theorem dX10_dyes_98 : decode cX10_dyes 98 = .ok (.getfield 7, 3) := by decide +kernel
theorem dX10_dyes_101 : decode cX10_dyes 101 = .ok (.iconst 1, 1) := by decide +kernel
theorem dX10_dyes_102 : decode cX10_dyes 102 = .ok (.iaload, 1) := by decide +kernel
theorem dX10_dyes_103 : decode cX10_dyes 103 = .ok (.imul, 1) := by decide +kernel
theorem dX10_dyes_104 : decode cX10_dyes 104 = .ok (.sipush 999, 3) := by decide +kernel
theorem dX10_dyes_107 : decode cX10_dyes 107 = .ok (.iadd, 1) := by decide +kernel
theorem dX10_dyes_108 : decode cX10_dyes 108 = .ok (.sipush 1000, 3) := by decide +kernel
theorem dX10_dyes_111 : decode cX10_dyes 111 = .ok (.idiv, 1) := by decide +kernel
theorem dX10_dyes_112 : decode cX10_dyes 112 = .ok (.iadd, 1) := by decide +kernel
theorem dX10_dyes_113 : decode cX10_dyes 113 = .ok (.iastore, 1) := by decide +kernel
theorem dX10_dyes_114 : decode cX10_dyes 114 = .ok (.aload_n 0, 1) := by decide +kernel
theorem dX10_dyes_115 : decode cX10_dyes 115 = .ok (.iload_n 1, 1) := by decide +kernel
theorem dX10_dyes_116 : decode cX10_dyes 116 = .ok (.bipush 6, 2) := by decide +kernel
theorem dX10_dyes_118 : decode cX10_dyes 118 = .ok (.iload 4, 2) := by decide +kernel
theorem dX10_dyes_120 : decode cX10_dyes 120 = .ok (.iadd, 1) := by decide +kernel
theorem dX10_dyes_121 : decode cX10_dyes 121 = .ok (.aload_n 0, 1) := by decide +kernel
theorem dX10_dyes_122 : decode cX10_dyes 122 = .ok (.iload_n 1, 1) := by decide +kernel
theorem dX10_dyes_123 : decode cX10_dyes 123 = .ok (.bipush 6, 2) := by decide +kernel
theorem dX10_dyes_125 : decode cX10_dyes 125 = .ok (.iload 4, 2) := by decide +kernel
theorem dX10_dyes_127 : decode cX10_dyes 127 = .ok (.iadd, 1) := by decide +kernel
theorem dX10_dyes_128 : decode cX10_dyes 128 = .ok (.invokevirtual 35, 3) := by decide +kernel
theorem dX10_dyes_131 : decode cX10_dyes 131 = .ok (.iload 6, 2) := by decide +kernel
theorem dX10_dyes_133 : decode cX10_dyes 133 = .ok (.iadd, 1) := by decide +kernel
theorem dX10_dyes_134 : decode cX10_dyes 134 = .ok (.invokevirtual 80, 3) := by decide +kernel
theorem dX10_dyes_137 : decode cX10_dyes 137 = .ok (.aload_n 0, 1) := by decide +kernel
theorem dX10_dyes_138 : decode cX10_dyes 138 = .ok (.iload_n 1, 1) := by decide +kernel
theorem dX10_dyes_139 : decode cX10_dyes 139 = .ok (.iconst 2, 1) := by decide +kernel
theorem dX10_dyes_140 : decode cX10_dyes 140 = .ok (.iload 4, 2) := by decide +kernel
theorem dX10_dyes_142 : decode cX10_dyes 142 = .ok (.iadd, 1) := by decide +kernel
theorem dX10_dyes_143 : decode cX10_dyes 143 = .ok (.aload_n 0, 1) := by decide +kernel
theorem dX10_dyes_144 : decode cX10_dyes 144 = .ok (.iload_n 1, 1) := by decide +kernel
theorem dX10_dyes_145 : decode cX10_dyes 145 = .ok (.iconst 2, 1) := by decide +kernel
theorem dX10_dyes_146 : decode cX10_dyes 146 = .ok (.iload 4, 2) := by decide +kernel
theorem dX10_dyes_148 : decode cX10_dyes 148 = .ok (.iadd, 1) := by decide +kernel
theorem dX10_dyes_149 : decode cX10_dyes 149 = .ok (.invokevirtual 35, 3) := by decide +kernel
theorem dX10_dyes_152 : decode cX10_dyes 152 = .ok (.iload 5, 2) := by decide +kernel
theorem dX10_dyes_154 : decode cX10_dyes 154 = .ok (.iadd, 1) := by decide +kernel
theorem dX10_dyes_155 : decode cX10_dyes 155 = .ok (.iload 6, 2) := by decide +kernel
theorem dX10_dyes_157 : decode cX10_dyes 157 = .ok (.isub, 1) := by decide +kernel
theorem dX10_dyes_158 : decode cX10_dyes 158 = .ok (.invokevirtual 80, 3) := by decide +kernel
theorem dX10_dyes_161 : decode cX10_dyes 161 = .ok (.aload_n 0, 1) := by decide +kernel
theorem dX10_dyes_162 : decode cX10_dyes 162 = .ok (.iload_n 1, 1) := by decide +kernel
theorem dX10_dyes_163 : decode cX10_dyes 163 = .ok (.bipush 14, 2) := by decide +kernel
theorem dX10_dyes_165 : decode cX10_dyes 165 = .ok (.aload_n 0, 1) := by decide +kernel
theorem dX10_dyes_166 : decode cX10_dyes 166 = .ok (.iload_n 1, 1) := by decide +kernel
theorem dX10_dyes_167 : decode cX10_dyes 167 = .ok (.bipush 14, 2) := by decide +kernel
theorem dX10_dyes_169 : decode cX10_dyes 169 = .ok (.invokevirtual 35, 3) := by decide +kernel
theorem dX10_dyes_172 : decode cX10_dyes 172 = .ok (.iconst 1, 1) := by decide +kernel
theorem dX10_dyes_173 : decode cX10_dyes 173 = .ok (.iadd, 1) := by decide +kernel
theorem dX10_dyes_174 : decode cX10_dyes 174 = .ok (.invokevirtual 80, 3) := by decide +kernel
theorem dX10_dyes_177 : decode cX10_dyes 177 = .ok (.aload_n 0, 1) := by decide +kernel
theorem dX10_dyes_178 : decode cX10_dyes 178 = .ok (.getfield 7, 3) := by decide +kernel
theorem dX10_dyes_181 : decode cX10_dyes 181 = .ok (.bipush 10, 2) := by decide +kernel
theorem dX10_dyes_183 : decode cX10_dyes 183 = .ok (.dup2, 1) := by decide +kernel
theorem dX10_dyes_184 : decode cX10_dyes 184 = .ok (.iaload, 1) := by decide +kernel
theorem dX10_dyes_185 : decode cX10_dyes 185 = .ok (.iconst 1, 1) := by decide +kernel
theorem dX10_dyes_186 : decode cX10_dyes 186 = .ok (.iadd, 1) := by decide +kernel
theorem dX10_dyes_187 : decode cX10_dyes 187 = .ok (.iastore, 1) := by decide +kernel
theorem dX10_dyes_188 : decode cX10_dyes 188 = .ok (.iload 7, 2) := by decide +kernel
theorem dX10_dyes_190 : decode cX10_dyes 190 = .ok (.ifCond .ne 17, 3) := by decide +kernel
theorem dX10_dyes_193 : decode cX10_dyes 193 = .ok (.aload_n 0, 1) := by decide +kernel
theorem dX10_dyes_194 : decode cX10_dyes 194 = .ok (.iload_n 1, 1) := by decide +kernel
theorem dX10_dyes_195 : decode cX10_dyes 195 = .ok (.invokevirtual 88, 3) := by decide +kernel
theorem dX10_dyes_198 : decode cX10_dyes 198 = .ok (.aload_n 0, 1) := by decide +kernel
theorem dX10_dyes_199 : decode cX10_dyes 199 = .ok (.getfield 7, 3) := by decide +kernel
theorem dX10_dyes_202 : decode cX10_dyes 202 = .ok (.iconst 3, 1) := by decide +kernel
theorem dX10_dyes_203 : decode cX10_dyes 203 = .ok (.iaload, 1) := by decide +kernel
theorem dX10_dyes_204 : decode cX10_dyes 204 = .ok (.if_icmp .le 21, 3) := by decide +kernel
theorem dX10_dyes_207 : decode cX10_dyes 207 = .ok (.aload_n 0, 1) := by decide +kernel
theorem dX10_dyes_208 : decode cX10_dyes 208 = .ok (.iload_n 1, 1) := by decide +kernel
theorem dX10_dyes_209 : decode cX10_dyes 209 = .ok (.bipush 12, 2) := by decide +kernel
theorem dX10_dyes_211 : decode cX10_dyes 211 = .ok (.invokevirtual 35, 3) := by decide +kernel
theorem dX10_dyes_214 : decode cX10_dyes 214 = .ok (.ifCond .ne 11, 3) := by decide +kernel
theorem dX10_dyes_217 : decode cX10_dyes 217 = .ok (.aload_n 0, 1) := by decide +kernel
theorem dX10_dyes_218 : decode cX10_dyes 218 = .ok (.iload_n 1, 1) := by decide +kernel
theorem dX10_dyes_219 : decode cX10_dyes 219 = .ok (.bipush 11, 2) := by decide +kernel
theorem dX10_dyes_221 : decode cX10_dyes 221 = .ok (.iconst 1, 1) := by decide +kernel
theorem dX10_dyes_222 : decode cX10_dyes 222 = .ok (.invokevirtual 80, 3) := by decide +kernel
theorem dX10_dyes_225 : decode cX10_dyes 225 = .ok (.aload_n 0, 1) := by decide +kernel
theorem dX10_dyes_226 : decode cX10_dyes 226 = .ok (.iload_n 1, 1) := by decide +kernel
theorem dX10_dyes_227 : decode cX10_dyes 227 = .ok (.bipush 11, 2) := by decide +kernel
theorem dX10_dyes_229 : decode cX10_dyes 229 = .ok (.invokevirtual 35, 3) := by decide +kernel
theorem dX10_dyes_232 : decode cX10_dyes 232 = .ok (.iconst 1, 1) := by decide +kernel
theorem dX10_dyes_233 : decode cX10_dyes 233 = .ok (.if_icmp .ne 41, 3) := by decide +kernel
theorem dX10_dyes_236 : decode cX10_dyes 236 = .ok (.iload 4, 2) := by decide +kernel
theorem dX10_dyes_238 : decode cX10_dyes 238 = .ok (.iconst 3, 1) := by decide +kernel
theorem dX10_dyes_239 : decode cX10_dyes 239 = .ok (.if_icmp .ne 35, 3) := by decide +kernel
theorem dX10_dyes_242 : decode cX10_dyes 242 = .ok (.aload_n 0, 1) := by decide +kernel
theorem dX10_dyes_243 : decode cX10_dyes 243 = .ok (.iload_n 1, 1) := by decide +kernel
theorem dX10_dyes_244 : decode cX10_dyes 244 = .ok (.iconst 3, 1) := by decide +kernel
theorem dX10_dyes_245 : decode cX10_dyes 245 = .ok (.invokevirtual 91, 3) := by decide +kernel
theorem dX10_dyes_248 : decode cX10_dyes 248 = .ok (.aload_n 0, 1) := by decide +kernel
theorem dX10_dyes_249 : decode cX10_dyes 249 = .ok (.getfield 7, 3) := by decide +kernel
theorem dX10_dyes_252 : decode cX10_dyes 252 = .ok (.bipush 6, 2) := by decide +kernel
theorem dX10_dyes_254 : decode cX10_dyes 254 = .ok (.iaload, 1) := by decide +kernel
theorem dX10_dyes_255 : decode cX10_dyes 255 = .ok (.if_icmp .lt 19, 3) := by decide +kernel
theorem dX10_dyes_258 : decode cX10_dyes 258 = .ok (.aload_n 0, 1) := by decide +kernel
theorem dX10_dyes_259 : decode cX10_dyes 259 = .ok (.iload_n 1, 1) := by decide +kernel
theorem dX10_dyes_260 : decode cX10_dyes 260 = .ok (.bipush 11, 2) := by decide +kernel
theorem dX10_dyes_262 : decode cX10_dyes 262 = .ok (.iconst 0, 1) := by decide +kernel
theorem dX10_dyes_263 : decode cX10_dyes 263 = .ok (.invokevirtual 80, 3) := by decide +kernel
theorem dX10_dyes_266 : decode cX10_dyes 266 = .ok (.aload_n 0, 1) := by decide +kernel
theorem dX10_dyes_267 : decode cX10_dyes 267 = .ok (.iload_n 1, 1) := by decide +kernel
theorem dX10_dyes_268 : decode cX10_dyes 268 = .ok (.bipush 12, 2) := by decide +kernel
theorem dX10_dyes_270 : decode cX10_dyes 270 = .ok (.iconst 1, 1) := by decide +kernel
theorem dX10_dyes_271 : decode cX10_dyes 271 = .ok (.invokevirtual 80, 3) := by decide +kernel
theorem dX10_dyes_274 : decode cX10_dyes 274 = .ok (.iload 5, 2) := by decide +kernel
theorem dX10_dyes_276 : decode cX10_dyes 276 = .ok (.ireturn, 1) := by decide +kernel
theorem dX10_dips_0 : decode cX10_dips 0 = .ok (.aload_n 0, 1) := by decide +kernel
theorem dX10_dips_1 : decode cX10_dips 1 = .ok (.iload_n 1, 1) := by decide +kernel
theorem dX10_dips_2 : decode cX10_dips 2 = .ok (.invokevirtual 94, 3) := by decide +kernel
theorem dX10_dips_5 : decode cX10_dips 5 = .ok (.ifCond .eq 11, 3) := by decide +kernel
theorem dX10_dips_8 : decode cX10_dips 8 = .ok (.aload_n 0, 1) := by decide +kernel
theorem dX10_dips_9 : decode cX10_dips 9 = .ok (.iload_n 2, 1) := by decide +kernel
theorem dX10_dips_10 : decode cX10_dips 10 = .ok (.invokevirtual 53, 3) := by decide +kernel
theorem dX10_dips_13 : decode cX10_dips 13 = .ok (.ifCond .ne 5, 3) := by decide +kernel
theorem dX10_dips_16 : decode cX10_dips 16 = .ok (.iconst (-1), 1) := by decide +kernel
theorem dX10_dips_17 : decode cX10_dips 17 = .ok (.ireturn, 1) := by decide +kernel
theorem dX10_dips_18 : decode cX10_dips 18 = .ok (.aload_n 0, 1) := by decide +kernel
theorem dX10_dips_19 : decode cX10_dips 19 = .ok (.iload_n 1, 1) := by decide +kernel
theorem dX10_dips_20 : decode cX10_dips 20 = .ok (.invokevirtual 97, 3) := by decide +kernel
theorem dX10_dips_23 : decode cX10_dips 23 = .ok (.ifCond .ne 20, 3) := by decide +kernel
theorem dX10_dips_26 : decode cX10_dips 26 = .ok (.aload_n 0, 1) := by decide +kernel
theorem dX10_dips_27 : decode cX10_dips 27 = .ok (.iload_n 1, 1) := by decide +kernel
theorem dX10_dips_28 : decode cX10_dips 28 = .ok (.invokevirtual 100, 3) := by decide +kernel
theorem dX10_dips_31 : decode cX10_dips 31 = .ok (.ifCond .ne 12, 3) := by decide +kernel
theorem dX10_dips_34 : decode cX10_dips 34 = .ok (.aload_n 0, 1) := by decide +kernel
theorem dX10_dips_35 : decode cX10_dips 35 = .ok (.iload_n 2, 1) := by decide +kernel
theorem dX10_dips_36 : decode cX10_dips 36 = .ok (.iconst 2, 1) := by decide +kernel
theorem dX10_dips_37 : decode cX10_dips 37 = .ok (.invokevirtual 57, 3) := by decide +kernel
theorem dX10_dips_40 : decode cX10_dips 40 = .ok (.ifCond .ne 8, 3) := by decide +kernel
theorem dX10_dips_43 : decode cX10_dips 43 = .ok (.bipush (-2), 2) := by decide +kernel
theorem dX10_dips_45 : decode cX10_dips 45 = .ok (.goto 9, 3) := by decide +kernel
theorem dX10_dips_48 : decode cX10_dips 48 = .ok (.aload_n 0, 1) := by decide +kernel
theorem dX10_dips_49 : decode cX10_dips 49 = .ok (.iload_n 1, 1) := by decide +kernel
theorem dX10_dips_50 : decode cX10_dips 50 = .ok (.iload_n 2, 1) := by decide +kernel
theorem dX10_dips_51 : decode cX10_dips 51 = .ok (.invokevirtual 103, 3) := by decide +kernel
theorem dX10_dips_54 : decode cX10_dips 54 = .ok (.ireturn, 1) := by decide +kernel
theorem dX10_dip_0 : decode cX10_dip 0 = .ok (.aload_n 0, 1) := by decide +kernel
theorem dX10_dip_1 : decode cX10_dip 1 = .ok (.invokevirtual 61, 3) := by decide +kernel
theorem dX10_dip_4 : decode cX10_dip 4 = .ok (.aload_n 0, 1) := by decide +kernel
theorem dX10_dip_5 : decode cX10_dip 5 = .ok (.aload_n 0, 1) := by decide +kernel
theorem dX10_dip_6 : decode cX10_dip 6 = .ok (.iload_n 1, 1) := by decide +kernel
theorem dX10_dip_7 : decode cX10_dip 7 = .ok (.iload_n 2, 1) := by decide +kernel
theorem dX10_dip_8 : decode cX10_dip 8 = .ok (.invokevirtual 106, 3) := by decide +kernel
theorem dX10_dip_11 : decode cX10_dip 11 = .ok (.invokevirtual 68, 3) := by decide +kernel
theorem dX10_dip_14 : decode cX10_dip 14 = .ok (.ireturn, 1) := by decide +kernel
theorem dX10_rinses_0 : decode cX10_rinses 0 = .ok (.aload_n 0, 1) := by decide +kernel
theorem dX10_rinses_1 : decode cX10_rinses 1 = .ok (.iload_n 1, 1) := by decide +kernel
theorem dX10_rinses_2 : decode cX10_rinses 2 = .ok (.invokevirtual 94, 3) := by decide +kernel
theorem dX10_rinses_5 : decode cX10_rinses 5 = .ok (.ifCond .ne 5, 3) := by decide +kernel
theorem dX10_rinses_8 : decode cX10_rinses 8 = .ok (.iconst (-1), 1) := by decide +kernel
theorem dX10_rinses_9 : decode cX10_rinses 9 = .ok (.ireturn, 1) := by decide +kernel
theorem dX10_rinses_10 : decode cX10_rinses 10 = .ok (.aload_n 0, 1) := by decide +kernel
theorem dX10_rinses_11 : decode cX10_rinses 11 = .ok (.iload_n 1, 1) := by decide +kernel
theorem dX10_rinses_12 : decode cX10_rinses 12 = .ok (.invokevirtual 97, 3) := by decide +kernel
theorem dX10_rinses_15 : decode cX10_rinses 15 = .ok (.ifCond .ne 11, 3) := by decide +kernel
theorem dX10_rinses_18 : decode cX10_rinses 18 = .ok (.aload_n 0, 1) := by decide +kernel
theorem dX10_rinses_19 : decode cX10_rinses 19 = .ok (.iload_n 1, 1) := by decide +kernel
theorem dX10_rinses_20 : decode cX10_rinses 20 = .ok (.invokevirtual 100, 3) := by decide +kernel
theorem dX10_rinses_23 : decode cX10_rinses 23 = .ok (.ifCond .eq 6, 3) := by decide +kernel
theorem dX10_rinses_26 : decode cX10_rinses 26 = .ok (.bipush (-2), 2) := by decide +kernel
theorem dX10_rinses_28 : decode cX10_rinses 28 = .ok (.ireturn, 1) := by decide +kernel
theorem dX10_rinses_29 : decode cX10_rinses 29 = .ok (.iconst 0, 1) := by decide +kernel
theorem dX10_rinses_30 : decode cX10_rinses 30 = .ok (.istore_n 2, 1) := by decide +kernel
theorem dX10_rinses_31 : decode cX10_rinses 31 = .ok (.iconst 0, 1) := by decide +kernel
theorem dX10_rinses_32 : decode cX10_rinses 32 = .ok (.istore_n 3, 1) := by decide +kernel
theorem dX10_rinses_33 : decode cX10_rinses 33 = .ok (.iload_n 3, 1) := by decide +kernel
theorem dX10_rinses_34 : decode cX10_rinses 34 = .ok (.iconst 4, 1) := by decide +kernel
theorem dX10_rinses_35 : decode cX10_rinses 35 = .ok (.if_icmp .ge 49, 3) := by decide +kernel
theorem dX10_rinses_38 : decode cX10_rinses 38 = .ok (.aload_n 0, 1) := by decide +kernel
theorem dX10_rinses_39 : decode cX10_rinses 39 = .ok (.iload_n 1, 1) := by decide +kernel
theorem dX10_rinses_40 : decode cX10_rinses 40 = .ok (.bipush 6, 2) := by decide +kernel
theorem dX10_rinses_42 : decode cX10_rinses 42 = .ok (.iload_n 3, 1) := by decide +kernel
theorem dX10_rinses_43 : decode cX10_rinses 43 = .ok (.iadd, 1) := by decide +kernel
theorem dX10_rinses_44 : decode cX10_rinses 44 = .ok (.invokevirtual 35, 3) := by decide +kernel
theorem dX10_rinses_47 : decode cX10_rinses 47 = .ok (.istore 4, 2) := by decide +kernel
theorem dX10_rinses_49 : decode cX10_rinses 49 = .ok (.iload_n 2, 1) := by decide +kernel
theorem dX10_rinses_50 : decode cX10_rinses 50 = .ok (.iload 4, 2) := by decide +kernel
theorem dX10_rinses_52 : decode cX10_rinses 52 = .ok (.iadd, 1) := by decide +kernel
theorem dX10_rinses_53 : decode cX10_rinses 53 = .ok (.istore_n 2, 1) := by decide +kernel
theorem dX10_rinses_54 : decode cX10_rinses 54 = .ok (.aload_n 0, 1) := by decide +kernel
theorem dX10_rinses_55 : decode cX10_rinses 55 = .ok (.getfield 7, 3) := by decide +kernel
theorem dX10_rinses_58 : decode cX10_rinses 58 = .ok (.bipush 15, 2) := by decide +kernel
theorem dX10_rinses_60 : decode cX10_rinses 60 = .ok (.iload_n 3, 1) := by decide +kernel
theorem dX10_rinses_61 : decode cX10_rinses 61 = .ok (.iadd, 1) := by decide +kernel
theorem dX10_rinses_62 : decode cX10_rinses 62 = .ok (.dup2, 1) := by decide +kernel
theorem dX10_rinses_63 : decode cX10_rinses 63 = .ok (.iaload, 1) := by decide +kernel
theorem dX10_rinses_64 : decode cX10_rinses 64 = .ok (.iload 4, 2) := by decide +kernel
theorem dX10_rinses_66 : decode cX10_rinses 66 = .ok (.iadd, 1) := by decide +kernel
theorem dX10_rinses_67 : decode cX10_rinses 67 = .ok (.iastore, 1) := by decide +kernel
theorem dX10_rinses_68 : decode cX10_rinses 68 = .ok (.aload_n 0, 1) := by decide +kernel
theorem dX10_rinses_69 : decode cX10_rinses 69 = .ok (.iload_n 1, 1) := by decide +kernel
theorem dX10_rinses_70 : decode cX10_rinses 70 = .ok (.bipush 6, 2) := by decide +kernel
theorem dX10_rinses_72 : decode cX10_rinses 72 = .ok (.iload_n 3, 1) := by decide +kernel
theorem dX10_rinses_73 : decode cX10_rinses 73 = .ok (.iadd, 1) := by decide +kernel
theorem dX10_rinses_74 : decode cX10_rinses 74 = .ok (.iconst 0, 1) := by decide +kernel
theorem dX10_rinses_75 : decode cX10_rinses 75 = .ok (.invokevirtual 80, 3) := by decide +kernel
theorem dX10_rinses_78 : decode cX10_rinses 78 = .ok (.iinc 3 1, 3) := by decide +kernel
theorem dX10_rinses_81 : decode cX10_rinses 81 = .ok (.goto (-48), 3) := by decide +kernel
theorem dX10_rinses_84 : decode cX10_rinses 84 = .ok (.iload_n 2, 1) := by decide +kernel
theorem dX10_rinses_85 : decode cX10_rinses 85 = .ok (.ireturn, 1) := by decide +kernel
theorem dX10_rinse_0 : decode cX10_rinse 0 = .ok (.aload_n 0, 1) := by decide +kernel
theorem dX10_rinse_1 : decode cX10_rinse 1 = .ok (.invokevirtual 61, 3) := by decide +kernel
theorem dX10_rinse_4 : decode cX10_rinse 4 = .ok (.aload_n 0, 1) := by decide +kernel
theorem dX10_rinse_5 : decode cX10_rinse 5 = .ok (.aload_n 0, 1) := by decide +kernel
theorem dX10_rinse_6 : decode cX10_rinse 6 = .ok (.iload_n 1, 1) := by decide +kernel
theorem dX10_rinse_7 : decode cX10_rinse 7 = .ok (.invokevirtual 109, 3) := by decide +kernel
theorem dX10_rinse_10 : decode cX10_rinse 10 = .ok (.invokevirtual 68, 3) := by decide +kernel
theorem dX10_rinse_13 : decode cX10_rinse 13 = .ok (.ireturn, 1) := by decide +kernel
theorem dX10_hanging_0 : decode cX10_hanging 0 = .ok (.iconst 0, 1) := by decide +kernel
theorem dX10_hanging_1 : decode cX10_hanging 1 = .ok (.istore_n 2, 1) := by decide +kernel
theorem dX10_hanging_2 : decode cX10_hanging 2 = .ok (.iconst 0, 1) := by decide +kernel
theorem dX10_hanging_3 : decode cX10_hanging 3 = .ok (.istore_n 3, 1) := by decide +kernel
theorem dX10_hanging_4 : decode cX10_hanging 4 = .ok (.iload_n 3, 1) := by decide +kernel
theorem dX10_hanging_5 : decode cX10_hanging 5 = .ok (.aload_n 0, 1) := by decide +kernel
theorem dX10_hanging_6 : decode cX10_hanging 6 = .ok (.getfield 7, 3) := by decide +kernel
theorem dX10_hanging_9 : decode cX10_hanging 9 = .ok (.bipush 8, 2) := by decide +kernel
theorem dX10_hanging_11 : decode cX10_hanging 11 = .ok (.iaload, 1) := by decide +kernel
theorem dX10_hanging_12 : decode cX10_hanging 12 = .ok (.if_icmp .ge 35, 3) := by decide +kernel
theorem dX10_hanging_15 : decode cX10_hanging 15 = .ok (.iload_n 2, 1) := by decide +kernel
theorem dX10_hanging_16 : decode cX10_hanging 16 = .ok (.aload_n 0, 1) := by decide +kernel
theorem dX10_hanging_17 : decode cX10_hanging 17 = .ok (.iload_n 3, 1) := by decide +kernel
theorem dX10_hanging_18 : decode cX10_hanging 18 = .ok (.invokevirtual 100, 3) := by decide +kernel
theorem dX10_hanging_21 : decode cX10_hanging 21 = .ok (.ifCond .eq 17, 3) := by decide +kernel
theorem dX10_hanging_24 : decode cX10_hanging 24 = .ok (.aload_n 0, 1) := by decide +kernel
theorem dX10_hanging_25 : decode cX10_hanging 25 = .ok (.iload_n 3, 1) := by decide +kernel
theorem dX10_hanging_26 : decode cX10_hanging 26 = .ok (.iconst 0, 1) := by decide +kernel
theorem dX10_hanging_27 : decode cX10_hanging 27 = .ok (.invokevirtual 35, 3) := by decide +kernel
theorem dX10_hanging_30 : decode cX10_hanging 30 = .ok (.iload_n 1, 1) := by decide +kernel
theorem dX10_hanging_31 : decode cX10_hanging 31 = .ok (.if_icmp .ne 7, 3) := by decide +kernel
theorem dX10_hanging_34 : decode cX10_hanging 34 = .ok (.iconst 1, 1) := by decide +kernel
theorem dX10_hanging_35 : decode cX10_hanging 35 = .ok (.goto 4, 3) := by decide +kernel
theorem dX10_hanging_38 : decode cX10_hanging 38 = .ok (.iconst 0, 1) := by decide +kernel
theorem dX10_hanging_39 : decode cX10_hanging 39 = .ok (.iadd, 1) := by decide +kernel
theorem dX10_hanging_40 : decode cX10_hanging 40 = .ok (.istore_n 2, 1) := by decide +kernel
theorem dX10_hanging_41 : decode cX10_hanging 41 = .ok (.iinc 3 1, 3) := by decide +kernel
theorem dX10_hanging_44 : decode cX10_hanging 44 = .ok (.goto (-40), 3) := by decide +kernel
theorem dX10_hanging_47 : decode cX10_hanging 47 = .ok (.iload_n 2, 1) := by decide +kernel
theorem dX10_hanging_48 : decode cX10_hanging 48 = .ok (.ireturn, 1) := by decide +kernel
theorem dX10_hangsOn_0 : decode cX10_hangsOn 0 = .ok (.aload_n 0, 1) := by decide +kernel
theorem dX10_hangsOn_1 : decode cX10_hangsOn 1 = .ok (.iload_n 1, 1) := by decide +kernel
theorem dX10_hangsOn_2 : decode cX10_hangsOn 2 = .ok (.invokevirtual 94, 3) := by decide +kernel
theorem dX10_hangsOn_5 : decode cX10_hangsOn 5 = .ok (.ifCond .eq 12, 3) := by decide +kernel
theorem dX10_hangsOn_8 : decode cX10_hangsOn 8 = .ok (.iload_n 2, 1) := by decide +kernel
theorem dX10_hangsOn_9 : decode cX10_hangsOn 9 = .ok (.iconst 0, 1) := by decide +kernel
theorem dX10_hangsOn_10 : decode cX10_hangsOn 10 = .ok (.iconst 1, 1) := by decide +kernel
theorem dX10_hangsOn_11 : decode cX10_hangsOn 11 = .ok (.invokestatic 31, 3) := by decide +kernel
theorem dX10_hangsOn_14 : decode cX10_hangsOn 14 = .ok (.ifCond .ne 5, 3) := by decide +kernel
theorem dX10_hangsOn_17 : decode cX10_hangsOn 17 = .ok (.iconst (-1), 1) := by decide +kernel
theorem dX10_hangsOn_18 : decode cX10_hangsOn 18 = .ok (.ireturn, 1) := by decide +kernel
theorem dX10_hangsOn_19 : decode cX10_hangsOn 19 = .ok (.aload_n 0, 1) := by decide +kernel
theorem dX10_hangsOn_20 : decode cX10_hangsOn 20 = .ok (.iload_n 1, 1) := by decide +kernel
theorem dX10_hangsOn_21 : decode cX10_hangsOn 21 = .ok (.invokevirtual 97, 3) := by decide +kernel
theorem dX10_hangsOn_24 : decode cX10_hangsOn 24 = .ok (.ifCond .ne 21, 3) := by decide +kernel
theorem dX10_hangsOn_27 : decode cX10_hangsOn 27 = .ok (.aload_n 0, 1) := by decide +kernel
theorem dX10_hangsOn_28 : decode cX10_hangsOn 28 = .ok (.iload_n 1, 1) := by decide +kernel
theorem dX10_hangsOn_29 : decode cX10_hangsOn 29 = .ok (.invokevirtual 100, 3) := by decide +kernel
theorem dX10_hangsOn_32 : decode cX10_hangsOn 32 = .ok (.ifCond .ne 13, 3) := by decide +kernel
theorem dX10_hangsOn_35 : decode cX10_hangsOn 35 = .ok (.aload_n 0, 1) := by decide +kernel
theorem dX10_hangsOn_36 : decode cX10_hangsOn 36 = .ok (.iload_n 1, 1) := by decide +kernel
theorem dX10_hangsOn_37 : decode cX10_hangsOn 37 = .ok (.iconst 0, 1) := by decide +kernel
theorem dX10_hangsOn_38 : decode cX10_hangsOn 38 = .ok (.invokevirtual 35, 3) := by decide +kernel
theorem dX10_hangsOn_41 : decode cX10_hangsOn 41 = .ok (.iload_n 2, 1) := by decide +kernel
theorem dX10_hangsOn_42 : decode cX10_hangsOn 42 = .ok (.if_icmp .eq 6, 3) := by decide +kernel
theorem dX10_hangsOn_45 : decode cX10_hangsOn 45 = .ok (.bipush (-2), 2) := by decide +kernel
theorem dX10_hangsOn_47 : decode cX10_hangsOn 47 = .ok (.ireturn, 1) := by decide +kernel
theorem dX10_hangsOn_48 : decode cX10_hangsOn 48 = .ok (.aload_n 0, 1) := by decide +kernel
theorem dX10_hangsOn_49 : decode cX10_hangsOn 49 = .ok (.iload_n 2, 1) := by decide +kernel
theorem dX10_hangsOn_50 : decode cX10_hangsOn 50 = .ok (.invokevirtual 112, 3) := by decide +kernel
theorem dX10_hangsOn_53 : decode cX10_hangsOn 53 = .ok (.iconst 4, 1) := by decide +kernel
theorem dX10_hangsOn_54 : decode cX10_hangsOn 54 = .ok (.if_icmp .ne 6, 3) := by decide +kernel
theorem dX10_hangsOn_57 : decode cX10_hangsOn 57 = .ok (.bipush (-3), 2) := by decide +kernel
theorem dX10_hangsOn_59 : decode cX10_hangsOn 59 = .ok (.ireturn, 1) := by decide +kernel
theorem dX10_hangsOn_60 : decode cX10_hangsOn 60 = .ok (.aload_n 0, 1) := by decide +kernel
theorem dX10_hangsOn_61 : decode cX10_hangsOn 61 = .ok (.iload_n 1, 1) := by decide +kernel
theorem dX10_hangsOn_62 : decode cX10_hangsOn 62 = .ok (.bipush 10, 2) := by decide +kernel
theorem dX10_hangsOn_64 : decode cX10_hangsOn 64 = .ok (.iconst 1, 1) := by decide +kernel
theorem dX10_hangsOn_65 : decode cX10_hangsOn 65 = .ok (.invokevirtual 80, 3) := by decide +kernel
theorem dX10_hangsOn_68 : decode cX10_hangsOn 68 = .ok (.aload_n 0, 1) := by decide +kernel
theorem dX10_hangsOn_69 : decode cX10_hangsOn 69 = .ok (.iload_n 2, 1) := by decide +kernel
theorem dX10_hangsOn_70 : decode cX10_hangsOn 70 = .ok (.invokevirtual 112, 3) := by decide +kernel
theorem dX10_hangsOn_73 : decode cX10_hangsOn 73 = .ok (.ireturn, 1) := by decide +kernel
theorem dX10_hang_0 : decode cX10_hang 0 = .ok (.aload_n 0, 1) := by decide +kernel
theorem dX10_hang_1 : decode cX10_hang 1 = .ok (.invokevirtual 61, 3) := by decide +kernel
theorem dX10_hang_4 : decode cX10_hang 4 = .ok (.aload_n 0, 1) := by decide +kernel
theorem dX10_hang_5 : decode cX10_hang 5 = .ok (.aload_n 0, 1) := by decide +kernel
theorem dX10_hang_6 : decode cX10_hang 6 = .ok (.iload_n 1, 1) := by decide +kernel
theorem dX10_hang_7 : decode cX10_hang 7 = .ok (.iload_n 2, 1) := by decide +kernel
theorem dX10_hang_8 : decode cX10_hang 8 = .ok (.invokevirtual 115, 3) := by decide +kernel
theorem dX10_hang_11 : decode cX10_hang 11 = .ok (.invokevirtual 68, 3) := by decide +kernel
theorem dX10_hang_14 : decode cX10_hang 14 = .ok (.ireturn, 1) := by decide +kernel
theorem dX10_takesDown_0 : decode cX10_takesDown 0 = .ok (.aload_n 0, 1) := by decide +kernel
theorem dX10_takesDown_1 : decode cX10_takesDown 1 = .ok (.iload_n 1, 1) := by decide +kernel
theorem dX10_takesDown_2 : decode cX10_takesDown 2 = .ok (.invokevirtual 94, 3) := by decide +kernel
theorem dX10_takesDown_5 : decode cX10_takesDown 5 = .ok (.ifCond .ne 5, 3) := by decide +kernel
theorem dX10_takesDown_8 : decode cX10_takesDown 8 = .ok (.iconst (-1), 1) := by decide +kernel
theorem dX10_takesDown_9 : decode cX10_takesDown 9 = .ok (.ireturn, 1) := by decide +kernel
theorem dX10_takesDown_10 : decode cX10_takesDown 10 = .ok (.aload_n 0, 1) := by decide +kernel
theorem dX10_takesDown_11 : decode cX10_takesDown 11 = .ok (.iload_n 1, 1) := by decide +kernel
theorem dX10_takesDown_12 : decode cX10_takesDown 12 = .ok (.invokevirtual 100, 3) := by decide +kernel
theorem dX10_takesDown_15 : decode cX10_takesDown 15 = .ok (.ifCond .ne 6, 3) := by decide +kernel
theorem dX10_takesDown_18 : decode cX10_takesDown 18 = .ok (.bipush (-2), 2) := by decide +kernel
theorem dX10_takesDown_20 : decode cX10_takesDown 20 = .ok (.ireturn, 1) := by decide +kernel
theorem dX10_takesDown_21 : decode cX10_takesDown 21 = .ok (.aload_n 0, 1) := by decide +kernel
theorem dX10_takesDown_22 : decode cX10_takesDown 22 = .ok (.iload_n 1, 1) := by decide +kernel
theorem dX10_takesDown_23 : decode cX10_takesDown 23 = .ok (.bipush 10, 2) := by decide +kernel
theorem dX10_takesDown_25 : decode cX10_takesDown 25 = .ok (.iconst 0, 1) := by decide +kernel
theorem dX10_takesDown_26 : decode cX10_takesDown 26 = .ok (.invokevirtual 80, 3) := by decide +kernel
theorem dX10_takesDown_29 : decode cX10_takesDown 29 = .ok (.aload_n 0, 1) := by decide +kernel
theorem dX10_takesDown_30 : decode cX10_takesDown 30 = .ok (.aload_n 0, 1) := by decide +kernel
theorem dX10_takesDown_31 : decode cX10_takesDown 31 = .ok (.iload_n 1, 1) := by decide +kernel
theorem dX10_takesDown_32 : decode cX10_takesDown 32 = .ok (.iconst 0, 1) := by decide +kernel
theorem dX10_takesDown_33 : decode cX10_takesDown 33 = .ok (.invokevirtual 35, 3) := by decide +kernel
theorem dX10_takesDown_36 : decode cX10_takesDown 36 = .ok (.invokevirtual 112, 3) := by decide +kernel
theorem dX10_takesDown_39 : decode cX10_takesDown 39 = .ok (.ireturn, 1) := by decide +kernel
theorem dX10_take_0 : decode cX10_take 0 = .ok (.aload_n 0, 1) := by decide +kernel
theorem dX10_take_1 : decode cX10_take 1 = .ok (.invokevirtual 61, 3) := by decide +kernel
theorem dX10_take_4 : decode cX10_take 4 = .ok (.aload_n 0, 1) := by decide +kernel
theorem dX10_take_5 : decode cX10_take 5 = .ok (.aload_n 0, 1) := by decide +kernel
theorem dX10_take_6 : decode cX10_take 6 = .ok (.iload_n 1, 1) := by decide +kernel
theorem dX10_take_7 : decode cX10_take 7 = .ok (.invokevirtual 118, 3) := by decide +kernel
theorem dX10_take_10 : decode cX10_take 10 = .ok (.invokevirtual 68, 3) := by decide +kernel
theorem dX10_take_13 : decode cX10_take 13 = .ok (.ireturn, 1) := by decide +kernel
theorem dX10_sum_0 : decode cX10_sum 0 = .ok (.aload_n 0, 1) := by decide +kernel
theorem dX10_sum_1 : decode cX10_sum 1 = .ok (.iload_n 1, 1) := by decide +kernel
theorem dX10_sum_2 : decode cX10_sum 2 = .ok (.iload_n 2, 1) := by decide +kernel
theorem dX10_sum_3 : decode cX10_sum 3 = .ok (.invokevirtual 35, 3) := by decide +kernel
theorem dX10_sum_6 : decode cX10_sum 6 = .ok (.aload_n 0, 1) := by decide +kernel
theorem dX10_sum_7 : decode cX10_sum 7 = .ok (.iload_n 1, 1) := by decide +kernel
theorem dX10_sum_8 : decode cX10_sum 8 = .ok (.iload_n 2, 1) := by decide +kernel
theorem dX10_sum_9 : decode cX10_sum 9 = .ok (.iconst 1, 1) := by decide +kernel
theorem dX10_sum_10 : decode cX10_sum 10 = .ok (.iadd, 1) := by decide +kernel
theorem dX10_sum_11 : decode cX10_sum 11 = .ok (.invokevirtual 35, 3) := by decide +kernel
theorem dX10_sum_14 : decode cX10_sum 14 = .ok (.iadd, 1) := by decide +kernel
theorem dX10_sum_15 : decode cX10_sum 15 = .ok (.aload_n 0, 1) := by decide +kernel
theorem dX10_sum_16 : decode cX10_sum 16 = .ok (.iload_n 1, 1) := by decide +kernel
theorem dX10_sum_17 : decode cX10_sum 17 = .ok (.iload_n 2, 1) := by decide +kernel
theorem dX10_sum_18 : decode cX10_sum 18 = .ok (.iconst 2, 1) := by decide +kernel
theorem dX10_sum_19 : decode cX10_sum 19 = .ok (.iadd, 1) := by decide +kernel
theorem dX10_sum_20 : decode cX10_sum 20 = .ok (.invokevirtual 35, 3) := by decide +kernel
theorem dX10_sum_23 : decode cX10_sum 23 = .ok (.iadd, 1) := by decide +kernel
theorem dX10_sum_24 : decode cX10_sum 24 = .ok (.aload_n 0, 1) := by decide +kernel
theorem dX10_sum_25 : decode cX10_sum 25 = .ok (.iload_n 1, 1) := by decide +kernel
theorem dX10_sum_26 : decode cX10_sum 26 = .ok (.iload_n 2, 1) := by decide +kernel
theorem dX10_sum_27 : decode cX10_sum 27 = .ok (.iconst 3, 1) := by decide +kernel
theorem dX10_sum_28 : decode cX10_sum 28 = .ok (.iadd, 1) := by decide +kernel
theorem dX10_sum_29 : decode cX10_sum 29 = .ok (.invokevirtual 35, 3) := by decide +kernel
theorem dX10_sum_32 : decode cX10_sum 32 = .ok (.iadd, 1) := by decide +kernel
theorem dX10_sum_33 : decode cX10_sum 33 = .ok (.ireturn, 1) := by decide +kernel
theorem dX10_lotOf_0 : decode cX10_lotOf 0 = .ok (.aload_n 0, 1) := by decide +kernel
theorem dX10_lotOf_1 : decode cX10_lotOf 1 = .ok (.iload_n 1, 1) := by decide +kernel
theorem dX10_lotOf_2 : decode cX10_lotOf 2 = .ok (.invokevirtual 94, 3) := by decide +kernel
theorem dX10_lotOf_5 : decode cX10_lotOf 5 = .ok (.ifCond .ne 5, 3) := by decide +kernel
theorem dX10_lotOf_8 : decode cX10_lotOf 8 = .ok (.iconst (-1), 1) := by decide +kernel
theorem dX10_lotOf_9 : decode cX10_lotOf 9 = .ok (.ireturn, 1) := by decide +kernel
theorem dX10_lotOf_10 : decode cX10_lotOf 10 = .ok (.iload_n 2, 1) := by decide +kernel
theorem dX10_lotOf_11 : decode cX10_lotOf 11 = .ok (.tableswitch 124 0 9 #[53, 53, 60, 66, 73, 81, 81, 81, 93, 116], 53) := by decide +kernel
theorem dX10_lotOf_64 : decode cX10_lotOf 64 = .ok (.aload_n 0, 1) := by decide +kernel
theorem dX10_lotOf_65 : decode cX10_lotOf 65 = .ok (.iload_n 1, 1) := by decide +kernel
theorem dX10_lotOf_66 : decode cX10_lotOf 66 = .ok (.iload_n 2, 1) := by decide +kernel
theorem dX10_lotOf_67 : decode cX10_lotOf 67 = .ok (.invokevirtual 35, 3) := by decide +kernel
theorem dX10_lotOf_70 : decode cX10_lotOf 70 = .ok (.ireturn, 1) := by decide +kernel
theorem dX10_lotOf_71 : decode cX10_lotOf 71 = .ok (.aload_n 0, 1) := by decide +kernel
theorem dX10_lotOf_72 : decode cX10_lotOf 72 = .ok (.iload_n 1, 1) := by decide +kernel
theorem dX10_lotOf_73 : decode cX10_lotOf 73 = .ok (.invokevirtual 88, 3) := by decide +kernel
theorem dX10_lotOf_76 : decode cX10_lotOf 76 = .ok (.ireturn, 1) := by decide +kernel
theorem dX10_lotOf_77 : decode cX10_lotOf 77 = .ok (.aload_n 0, 1) := by decide +kernel
theorem dX10_lotOf_78 : decode cX10_lotOf 78 = .ok (.iload_n 1, 1) := by decide +kernel
theorem dX10_lotOf_79 : decode cX10_lotOf 79 = .ok (.iconst 2, 1) := by decide +kernel
theorem dX10_lotOf_80 : decode cX10_lotOf 80 = .ok (.invokevirtual 121, 3) := by decide +kernel
theorem dX10_lotOf_83 : decode cX10_lotOf 83 = .ok (.ireturn, 1) := by decide +kernel
theorem dX10_lotOf_84 : decode cX10_lotOf 84 = .ok (.aload_n 0, 1) := by decide +kernel
theorem dX10_lotOf_85 : decode cX10_lotOf 85 = .ok (.iload_n 1, 1) := by decide +kernel
theorem dX10_lotOf_86 : decode cX10_lotOf 86 = .ok (.bipush 6, 2) := by decide +kernel
theorem dX10_lotOf_88 : decode cX10_lotOf 88 = .ok (.invokevirtual 121, 3) := by decide +kernel
theorem dX10_lotOf_91 : decode cX10_lotOf 91 = .ok (.ireturn, 1) := by decide +kernel
theorem dX10_lotOf_92 : decode cX10_lotOf 92 = .ok (.aload_n 0, 1) := by decide +kernel
theorem dX10_lotOf_93 : decode cX10_lotOf 93 = .ok (.iload_n 1, 1) := by decide +kernel
theorem dX10_lotOf_94 : decode cX10_lotOf 94 = .ok (.bipush 10, 2) := by decide +kernel
theorem dX10_lotOf_96 : decode cX10_lotOf 96 = .ok (.iload_n 2, 1) := by decide +kernel
theorem dX10_lotOf_97 : decode cX10_lotOf 97 = .ok (.iadd, 1) := by decide +kernel
theorem dX10_lotOf_98 : decode cX10_lotOf 98 = .ok (.iconst 5, 1) := by decide +kernel
theorem dX10_lotOf_99 : decode cX10_lotOf 99 = .ok (.isub, 1) := by decide +kernel
theorem dX10_lotOf_100 : decode cX10_lotOf 100 = .ok (.invokevirtual 35, 3) := by decide +kernel
theorem dX10_lotOf_103 : decode cX10_lotOf 103 = .ok (.ireturn, 1) := by decide +kernel
theorem dX10_lotOf_104 : decode cX10_lotOf 104 = .ok (.aload_n 0, 1) := by decide +kernel
theorem dX10_lotOf_105 : decode cX10_lotOf 105 = .ok (.iload_n 1, 1) := by decide +kernel
theorem dX10_lotOf_106 : decode cX10_lotOf 106 = .ok (.invokevirtual 97, 3) := by decide +kernel
theorem dX10_lotOf_109 : decode cX10_lotOf 109 = .ok (.ifCond .eq 15, 3) := by decide +kernel
theorem dX10_lotOf_112 : decode cX10_lotOf 112 = .ok (.aload_n 0, 1) := by decide +kernel
theorem dX10_lotOf_113 : decode cX10_lotOf 113 = .ok (.iload_n 1, 1) := by decide +kernel
theorem dX10_lotOf_114 : decode cX10_lotOf 114 = .ok (.bipush 13, 2) := by decide +kernel
theorem dX10_lotOf_116 : decode cX10_lotOf 116 = .ok (.invokevirtual 35, 3) := by decide +kernel
theorem dX10_lotOf_119 : decode cX10_lotOf 119 = .ok (.iconst 1, 1) := by decide +kernel
theorem dX10_lotOf_120 : decode cX10_lotOf 120 = .ok (.isub, 1) := by decide +kernel
theorem dX10_lotOf_121 : decode cX10_lotOf 121 = .ok (.goto 5, 3) := by decide +kernel
theorem dX10_lotOf_124 : decode cX10_lotOf 124 = .ok (.bipush (-4), 2) := by decide +kernel
theorem dX10_lotOf_126 : decode cX10_lotOf 126 = .ok (.ireturn, 1) := by decide +kernel
theorem dX10_lotOf_127 : decode cX10_lotOf 127 = .ok (.aload_n 0, 1) := by decide +kernel
theorem dX10_lotOf_128 : decode cX10_lotOf 128 = .ok (.iload_n 1, 1) := by decide +kernel
theorem dX10_lotOf_129 : decode cX10_lotOf 129 = .ok (.bipush 14, 2) := by decide +kernel
theorem dX10_lotOf_131 : decode cX10_lotOf 131 = .ok (.invokevirtual 35, 3) := by decide +kernel
theorem dX10_lotOf_134 : decode cX10_lotOf 134 = .ok (.ireturn, 1) := by decide +kernel
theorem dX10_lotOf_135 : decode cX10_lotOf 135 = .ok (.iconst (-1), 1) := by decide +kernel
theorem dX10_lotOf_136 : decode cX10_lotOf 136 = .ok (.ireturn, 1) := by decide +kernel
theorem dX10_shade_0 : decode cX10_shade 0 = .ok (.aload_n 0, 1) := by decide +kernel
theorem dX10_shade_1 : decode cX10_shade 1 = .ok (.iload_n 1, 1) := by decide +kernel
theorem dX10_shade_2 : decode cX10_shade 2 = .ok (.invokevirtual 94, 3) := by decide +kernel
theorem dX10_shade_5 : decode cX10_shade 5 = .ok (.ifCond .eq 19, 3) := by decide +kernel
theorem dX10_shade_8 : decode cX10_shade 8 = .ok (.iload_n 2, 1) := by decide +kernel
theorem dX10_shade_9 : decode cX10_shade 9 = .ok (.invokestatic 49, 3) := by decide +kernel
theorem dX10_shade_12 : decode cX10_shade 12 = .ok (.ifCond .eq 12, 3) := by decide +kernel
theorem dX10_shade_15 : decode cX10_shade 15 = .ok (.aload_n 0, 1) := by decide +kernel
theorem dX10_shade_16 : decode cX10_shade 16 = .ok (.iload_n 1, 1) := by decide +kernel
theorem dX10_shade_17 : decode cX10_shade 17 = .ok (.iload_n 2, 1) := by decide +kernel
theorem dX10_shade_18 : decode cX10_shade 18 = .ok (.invokevirtual 91, 3) := by decide +kernel
theorem dX10_shade_21 : decode cX10_shade 21 = .ok (.goto 4, 3) := by decide +kernel
theorem dX10_shade_24 : decode cX10_shade 24 = .ok (.iconst (-1), 1) := by decide +kernel
theorem dX10_shade_25 : decode cX10_shade 25 = .ok (.ireturn, 1) := by decide +kernel
theorem dX10_exact_0 : decode cX10_exact 0 = .ok (.aload_n 0, 1) := by decide +kernel
theorem dX10_exact_1 : decode cX10_exact 1 = .ok (.iload_n 1, 1) := by decide +kernel
theorem dX10_exact_2 : decode cX10_exact 2 = .ok (.iload_n 2, 1) := by decide +kernel
theorem dX10_exact_3 : decode cX10_exact 3 = .ok (.invokevirtual 77, 3) := by decide +kernel
theorem dX10_exact_6 : decode cX10_exact 6 = .ok (.i2f, 1) := by decide +kernel
theorem dX10_exact_7 : decode cX10_exact 7 = .ok (.aload_n 0, 1) := by decide +kernel
theorem dX10_exact_8 : decode cX10_exact 8 = .ok (.iload_n 1, 1) := by decide +kernel
theorem dX10_exact_9 : decode cX10_exact 9 = .ok (.iconst 1, 1) := by decide +kernel
theorem dX10_exact_10 : decode cX10_exact 10 = .ok (.invokevirtual 35, 3) := by decide +kernel
theorem dX10_exact_13 : decode cX10_exact 13 = .ok (.i2f, 1) := by decide +kernel
theorem dX10_exact_14 : decode cX10_exact 14 = .ok (.fdiv, 1) := by decide +kernel
theorem dX10_exact_15 : decode cX10_exact 15 = .ok (.freturn, 1) := by decide +kernel
theorem dX10_shadeBits_0 : decode cX10_shadeBits 0 = .ok (.aload_n 0, 1) := by decide +kernel
theorem dX10_shadeBits_1 : decode cX10_shadeBits 1 = .ok (.iload_n 1, 1) := by decide +kernel
theorem dX10_shadeBits_2 : decode cX10_shadeBits 2 = .ok (.invokevirtual 94, 3) := by decide +kernel
theorem dX10_shadeBits_5 : decode cX10_shadeBits 5 = .ok (.ifCond .eq 22, 3) := by decide +kernel
theorem dX10_shadeBits_8 : decode cX10_shadeBits 8 = .ok (.iload_n 2, 1) := by decide +kernel
theorem dX10_shadeBits_9 : decode cX10_shadeBits 9 = .ok (.invokestatic 49, 3) := by decide +kernel
theorem dX10_shadeBits_12 : decode cX10_shadeBits 12 = .ok (.ifCond .eq 15, 3) := by decide +kernel
theorem dX10_shadeBits_15 : decode cX10_shadeBits 15 = .ok (.aload_n 0, 1) := by decide +kernel
theorem dX10_shadeBits_16 : decode cX10_shadeBits 16 = .ok (.iload_n 1, 1) := by decide +kernel
theorem dX10_shadeBits_17 : decode cX10_shadeBits 17 = .ok (.iload_n 2, 1) := by decide +kernel
theorem dX10_shadeBits_18 : decode cX10_shadeBits 18 = .ok (.invokevirtual 124, 3) := by decide +kernel
