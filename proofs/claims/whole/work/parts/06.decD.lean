theorem dX10_shadeBits_21 : decode cX10_shadeBits 21 = .ok (.invokestatic 128, 3) := by decide +kernel
theorem dX10_shadeBits_24 : decode cX10_shadeBits 24 = .ok (.goto 4, 3) := by decide +kernel
theorem dX10_shadeBits_27 : decode cX10_shadeBits 27 = .ok (.iconst (-1), 1) := by decide +kernel
theorem dX10_shadeBits_28 : decode cX10_shadeBits 28 = .ok (.ireturn, 1) := by decide +kernel
theorem dX10_meanBits_0 : decode cX10_meanBits 0 = .ok (.iload_n 1, 1) := by decide +kernel
theorem dX10_meanBits_1 : decode cX10_meanBits 1 = .ok (.invokestatic 49, 3) := by decide +kernel
theorem dX10_meanBits_4 : decode cX10_meanBits 4 = .ok (.ifCond .ne 5, 3) := by decide +kernel
theorem dX10_meanBits_7 : decode cX10_meanBits 7 = .ok (.iconst (-1), 1) := by decide +kernel
theorem dX10_meanBits_8 : decode cX10_meanBits 8 = .ok (.ireturn, 1) := by decide +kernel
theorem dX10_meanBits_9 : decode cX10_meanBits 9 = .ok (.dconst 0, 1) := by decide +kernel
theorem dX10_meanBits_10 : decode cX10_meanBits 10 = .ok (.dstore_n 2, 1) := by decide +kernel
theorem dX10_meanBits_11 : decode cX10_meanBits 11 = .ok (.iconst 0, 1) := by decide +kernel
theorem dX10_meanBits_12 : decode cX10_meanBits 12 = .ok (.istore 4, 2) := by decide +kernel
theorem dX10_meanBits_14 : decode cX10_meanBits 14 = .ok (.iconst 0, 1) := by decide +kernel
theorem dX10_meanBits_15 : decode cX10_meanBits 15 = .ok (.istore 5, 2) := by decide +kernel
theorem dX10_meanBits_17 : decode cX10_meanBits 17 = .ok (.iload 5, 2) := by decide +kernel
theorem dX10_meanBits_19 : decode cX10_meanBits 19 = .ok (.aload_n 0, 1) := by decide +kernel
theorem dX10_meanBits_20 : decode cX10_meanBits 20 = .ok (.getfield 7, 3) := by decide +kernel
theorem dX10_meanBits_23 : decode cX10_meanBits 23 = .ok (.bipush 8, 2) := by decide +kernel
theorem dX10_meanBits_25 : decode cX10_meanBits 25 = .ok (.iaload, 1) := by decide +kernel
theorem dX10_meanBits_26 : decode cX10_meanBits 26 = .ok (.if_icmp .ge 32, 3) := by decide +kernel
theorem dX10_meanBits_29 : decode cX10_meanBits 29 = .ok (.aload_n 0, 1) := by decide +kernel
theorem dX10_meanBits_30 : decode cX10_meanBits 30 = .ok (.iload 5, 2) := by decide +kernel
theorem dX10_meanBits_32 : decode cX10_meanBits 32 = .ok (.invokevirtual 97, 3) := by decide +kernel
theorem dX10_meanBits_35 : decode cX10_meanBits 35 = .ok (.ifCond .ne 17, 3) := by decide +kernel
theorem dX10_meanBits_38 : decode cX10_meanBits 38 = .ok (.dload_n 2, 1) := by decide +kernel
theorem dX10_meanBits_39 : decode cX10_meanBits 39 = .ok (.aload_n 0, 1) := by decide +kernel
theorem dX10_meanBits_40 : decode cX10_meanBits 40 = .ok (.iload 5, 2) := by decide +kernel
theorem dX10_meanBits_42 : decode cX10_meanBits 42 = .ok (.iload_n 1, 1) := by decide +kernel
theorem dX10_meanBits_43 : decode cX10_meanBits 43 = .ok (.invokevirtual 124, 3) := by decide +kernel
theorem dX10_meanBits_46 : decode cX10_meanBits 46 = .ok (.f2d, 1) := by decide +kernel
theorem dX10_meanBits_47 : decode cX10_meanBits 47 = .ok (.dadd, 1) := by decide +kernel
theorem dX10_meanBits_48 : decode cX10_meanBits 48 = .ok (.dstore_n 2, 1) := by decide +kernel
theorem dX10_meanBits_49 : decode cX10_meanBits 49 = .ok (.iinc 4 1, 3) := by decide +kernel
theorem dX10_meanBits_52 : decode cX10_meanBits 52 = .ok (.iinc 5 1, 3) := by decide +kernel
theorem dX10_meanBits_55 : decode cX10_meanBits 55 = .ok (.goto (-38), 3) := by decide +kernel
theorem dX10_meanBits_58 : decode cX10_meanBits 58 = .ok (.iload 4, 2) := by decide +kernel
theorem dX10_meanBits_60 : decode cX10_meanBits 60 = .ok (.ifCond .ne 8, 3) := by decide +kernel
theorem dX10_meanBits_63 : decode cX10_meanBits 63 = .ok (.bipush (-4), 2) := by decide +kernel
theorem dX10_meanBits_65 : decode cX10_meanBits 65 = .ok (.goto 12, 3) := by decide +kernel
theorem dX10_meanBits_68 : decode cX10_meanBits 68 = .ok (.dload_n 2, 1) := by decide +kernel
theorem dX10_meanBits_69 : decode cX10_meanBits 69 = .ok (.iload 4, 2) := by decide +kernel
theorem dX10_meanBits_71 : decode cX10_meanBits 71 = .ok (.i2d, 1) := by decide +kernel
theorem dX10_meanBits_72 : decode cX10_meanBits 72 = .ok (.ddiv, 1) := by decide +kernel
theorem dX10_meanBits_73 : decode cX10_meanBits 73 = .ok (.d2f, 1) := by decide +kernel
theorem dX10_meanBits_74 : decode cX10_meanBits 74 = .ok (.invokestatic 128, 3) := by decide +kernel
theorem dX10_meanBits_77 : decode cX10_meanBits 77 = .ok (.ireturn, 1) := by decide +kernel
theorem dX10_unserved_0 : decode cX10_unserved 0 = .ok (.iconst 0, 1) := by decide +kernel
theorem dX10_unserved_1 : decode cX10_unserved 1 = .ok (.istore_n 1, 1) := by decide +kernel
theorem dX10_unserved_2 : decode cX10_unserved 2 = .ok (.iconst 0, 1) := by decide +kernel
theorem dX10_unserved_3 : decode cX10_unserved 3 = .ok (.istore_n 2, 1) := by decide +kernel
theorem dX10_unserved_4 : decode cX10_unserved 4 = .ok (.iload_n 2, 1) := by decide +kernel
theorem dX10_unserved_5 : decode cX10_unserved 5 = .ok (.aload_n 0, 1) := by decide +kernel
theorem dX10_unserved_6 : decode cX10_unserved 6 = .ok (.getfield 7, 3) := by decide +kernel
theorem dX10_unserved_9 : decode cX10_unserved 9 = .ok (.bipush 9, 2) := by decide +kernel
theorem dX10_unserved_11 : decode cX10_unserved 11 = .ok (.iaload, 1) := by decide +kernel
theorem dX10_unserved_12 : decode cX10_unserved 12 = .ok (.if_icmp .ge 20, 3) := by decide +kernel
theorem dX10_unserved_15 : decode cX10_unserved 15 = .ok (.iload_n 1, 1) := by decide +kernel
theorem dX10_unserved_16 : decode cX10_unserved 16 = .ok (.iconst 1, 1) := by decide +kernel
theorem dX10_unserved_17 : decode cX10_unserved 17 = .ok (.aload_n 0, 1) := by decide +kernel
theorem dX10_unserved_18 : decode cX10_unserved 18 = .ok (.iload_n 2, 1) := by decide +kernel
theorem dX10_unserved_19 : decode cX10_unserved 19 = .ok (.iconst 4, 1) := by decide +kernel
theorem dX10_unserved_20 : decode cX10_unserved 20 = .ok (.invokevirtual 134, 3) := by decide +kernel
theorem dX10_unserved_23 : decode cX10_unserved 23 = .ok (.isub, 1) := by decide +kernel
theorem dX10_unserved_24 : decode cX10_unserved 24 = .ok (.iadd, 1) := by decide +kernel
theorem dX10_unserved_25 : decode cX10_unserved 25 = .ok (.istore_n 1, 1) := by decide +kernel
theorem dX10_unserved_26 : decode cX10_unserved 26 = .ok (.iinc 2 1, 3) := by decide +kernel
theorem dX10_unserved_29 : decode cX10_unserved 29 = .ok (.goto (-25), 3) := by decide +kernel
theorem dX10_unserved_32 : decode cX10_unserved 32 = .ok (.iload_n 1, 1) := by decide +kernel
theorem dX10_unserved_33 : decode cX10_unserved 33 = .ok (.ireturn, 1) := by decide +kernel
theorem dX10_isShade_0 : decode cX10_isShade 0 = .ok (.iload_n 0, 1) := by decide +kernel
theorem dX10_isShade_1 : decode cX10_isShade 1 = .ok (.iconst 0, 1) := by decide +kernel
theorem dX10_isShade_2 : decode cX10_isShade 2 = .ok (.sipush 20000, 3) := by decide +kernel
theorem dX10_isShade_5 : decode cX10_isShade 5 = .ok (.invokestatic 31, 3) := by decide +kernel
theorem dX10_isShade_8 : decode cX10_isShade 8 = .ok (.ireturn, 1) := by decide +kernel
theorem dX10_order_0 : decode cX10_order 0 = .ok (.iload_n 1, 1) := by decide +kernel
theorem dX10_order_1 : decode cX10_order 1 = .ok (.invokestatic 137, 3) := by decide +kernel
theorem dX10_order_4 : decode cX10_order 4 = .ok (.ifCond .eq 25, 3) := by decide +kernel
theorem dX10_order_7 : decode cX10_order 7 = .ok (.iload_n 2, 1) := by decide +kernel
theorem dX10_order_8 : decode cX10_order 8 = .ok (.invokestatic 137, 3) := by decide +kernel
theorem dX10_order_11 : decode cX10_order 11 = .ok (.ifCond .eq 18, 3) := by decide +kernel
theorem dX10_order_14 : decode cX10_order 14 = .ok (.iload_n 3, 1) := by decide +kernel
theorem dX10_order_15 : decode cX10_order 15 = .ok (.invokestatic 137, 3) := by decide +kernel
theorem dX10_order_18 : decode cX10_order 18 = .ok (.ifCond .eq 11, 3) := by decide +kernel
theorem dX10_order_21 : decode cX10_order 21 = .ok (.iload 4, 2) := by decide +kernel
theorem dX10_order_23 : decode cX10_order 23 = .ok (.invokestatic 137, 3) := by decide +kernel
theorem dX10_order_26 : decode cX10_order 26 = .ok (.ifCond .ne 5, 3) := by decide +kernel
theorem dX10_order_29 : decode cX10_order 29 = .ok (.iconst (-1), 1) := by decide +kernel
theorem dX10_order_30 : decode cX10_order 30 = .ok (.ireturn, 1) := by decide +kernel
theorem dX10_order_31 : decode cX10_order 31 = .ok (.aload_n 0, 1) := by decide +kernel
theorem dX10_order_32 : decode cX10_order 32 = .ok (.invokevirtual 140, 3) := by decide +kernel
theorem dX10_order_35 : decode cX10_order 35 = .ok (.bipush 8, 2) := by decide +kernel
theorem dX10_order_37 : decode cX10_order 37 = .ok (.if_icmp .eq 15, 3) := by decide +kernel
theorem dX10_order_40 : decode cX10_order 40 = .ok (.aload_n 0, 1) := by decide +kernel
theorem dX10_order_41 : decode cX10_order 41 = .ok (.getfield 7, 3) := by decide +kernel
theorem dX10_order_44 : decode cX10_order 44 = .ok (.bipush 9, 2) := by decide +kernel
theorem dX10_order_46 : decode cX10_order 46 = .ok (.iaload, 1) := by decide +kernel
theorem dX10_order_47 : decode cX10_order 47 = .ok (.bipush 60, 2) := by decide +kernel
theorem dX10_order_49 : decode cX10_order 49 = .ok (.if_icmp .ne 6, 3) := by decide +kernel
theorem dX10_order_52 : decode cX10_order 52 = .ok (.bipush (-3), 2) := by decide +kernel
theorem dX10_order_54 : decode cX10_order 54 = .ok (.ireturn, 1) := by decide +kernel
theorem dX10_order_55 : decode cX10_order 55 = .ok (.aload_n 0, 1) := by decide +kernel
theorem dX10_order_56 : decode cX10_order 56 = .ok (.invokevirtual 43, 3) := by decide +kernel
theorem dX10_order_59 : decode cX10_order 59 = .ok (.sipush 343, 3) := by decide +kernel
theorem dX10_order_62 : decode cX10_order 62 = .ok (.iconst 5, 1) := by decide +kernel
theorem dX10_order_63 : decode cX10_order 63 = .ok (.aload_n 0, 1) := by decide +kernel
theorem dX10_order_64 : decode cX10_order 64 = .ok (.getfield 7, 3) := by decide +kernel
theorem dX10_order_67 : decode cX10_order 67 = .ok (.bipush 9, 2) := by decide +kernel
theorem dX10_order_69 : decode cX10_order 69 = .ok (.iaload, 1) := by decide +kernel
theorem dX10_order_70 : decode cX10_order 70 = .ok (.imul, 1) := by decide +kernel
theorem dX10_order_71 : decode cX10_order 71 = .ok (.iadd, 1) := by decide +kernel
theorem dX10_order_72 : decode cX10_order 72 = .ok (.istore 5, 2) := by decide +kernel
theorem dX10_order_74 : decode cX10_order 74 = .ok (.aload_n 0, 1) := by decide +kernel
theorem dX10_order_75 : decode cX10_order 75 = .ok (.getfield 7, 3) := by decide +kernel
theorem dX10_order_78 : decode cX10_order 78 = .ok (.iload 5, 2) := by decide +kernel
theorem dX10_order_80 : decode cX10_order 80 = .ok (.iload_n 1, 1) := by decide +kernel
theorem dX10_order_81 : decode cX10_order 81 = .ok (.iastore, 1) := by decide +kernel
theorem dX10_order_82 : decode cX10_order 82 = .ok (.aload_n 0, 1) := by decide +kernel
theorem dX10_order_83 : decode cX10_order 83 = .ok (.getfield 7, 3) := by decide +kernel
theorem dX10_order_86 : decode cX10_order 86 = .ok (.iload 5, 2) := by decide +kernel
theorem dX10_order_88 : decode cX10_order 88 = .ok (.iconst 1, 1) := by decide +kernel
theorem dX10_order_89 : decode cX10_order 89 = .ok (.iadd, 1) := by decide +kernel
theorem dX10_order_90 : decode cX10_order 90 = .ok (.iload_n 2, 1) := by decide +kernel
theorem dX10_order_91 : decode cX10_order 91 = .ok (.iastore, 1) := by decide +kernel
theorem dX10_order_92 : decode cX10_order 92 = .ok (.aload_n 0, 1) := by decide +kernel
theorem dX10_order_93 : decode cX10_order 93 = .ok (.getfield 7, 3) := by decide +kernel
theorem dX10_order_96 : decode cX10_order 96 = .ok (.iload 5, 2) := by decide +kernel
theorem dX10_order_98 : decode cX10_order 98 = .ok (.iconst 2, 1) := by decide +kernel
theorem dX10_order_99 : decode cX10_order 99 = .ok (.iadd, 1) := by decide +kernel
theorem dX10_order_100 : decode cX10_order 100 = .ok (.iload_n 3, 1) := by decide +kernel
theorem dX10_order_101 : decode cX10_order 101 = .ok (.iastore, 1) := by decide +kernel
theorem dX10_order_102 : decode cX10_order 102 = .ok (.aload_n 0, 1) := by decide +kernel
theorem dX10_order_103 : decode cX10_order 103 = .ok (.getfield 7, 3) := by decide +kernel
theorem dX10_order_106 : decode cX10_order 106 = .ok (.iload 5, 2) := by decide +kernel
theorem dX10_order_108 : decode cX10_order 108 = .ok (.iconst 3, 1) := by decide +kernel
theorem dX10_order_109 : decode cX10_order 109 = .ok (.iadd, 1) := by decide +kernel
theorem dX10_order_110 : decode cX10_order 110 = .ok (.iload 4, 2) := by decide +kernel
theorem dX10_order_112 : decode cX10_order 112 = .ok (.iastore, 1) := by decide +kernel
theorem dX10_order_113 : decode cX10_order 113 = .ok (.aload_n 0, 1) := by decide +kernel
theorem dX10_order_114 : decode cX10_order 114 = .ok (.getfield 7, 3) := by decide +kernel
theorem dX10_order_117 : decode cX10_order 117 = .ok (.iload 5, 2) := by decide +kernel
theorem dX10_order_119 : decode cX10_order 119 = .ok (.iconst 4, 1) := by decide +kernel
theorem dX10_order_120 : decode cX10_order 120 = .ok (.iadd, 1) := by decide +kernel
theorem dX10_order_121 : decode cX10_order 121 = .ok (.iconst 0, 1) := by decide +kernel
theorem dX10_order_122 : decode cX10_order 122 = .ok (.iastore, 1) := by decide +kernel
theorem dX10_order_123 : decode cX10_order 123 = .ok (.aload_n 0, 1) := by decide +kernel
theorem dX10_order_124 : decode cX10_order 124 = .ok (.getfield 7, 3) := by decide +kernel
theorem dX10_order_127 : decode cX10_order 127 = .ok (.bipush 9, 2) := by decide +kernel
theorem dX10_order_129 : decode cX10_order 129 = .ok (.dup2, 1) := by decide +kernel
theorem dX10_order_130 : decode cX10_order 130 = .ok (.iaload, 1) := by decide +kernel
theorem dX10_order_131 : decode cX10_order 131 = .ok (.iconst 1, 1) := by decide +kernel
theorem dX10_order_132 : decode cX10_order 132 = .ok (.iadd, 1) := by decide +kernel
theorem dX10_order_133 : decode cX10_order 133 = .ok (.iastore, 1) := by decide +kernel
theorem dX10_order_134 : decode cX10_order 134 = .ok (.aload_n 0, 1) := by decide +kernel
theorem dX10_order_135 : decode cX10_order 135 = .ok (.getfield 7, 3) := by decide +kernel
theorem dX10_order_138 : decode cX10_order 138 = .ok (.bipush 9, 2) := by decide +kernel
theorem dX10_order_140 : decode cX10_order 140 = .ok (.iaload, 1) := by decide +kernel
theorem dX10_order_141 : decode cX10_order 141 = .ok (.iconst 1, 1) := by decide +kernel
theorem dX10_order_142 : decode cX10_order 142 = .ok (.isub, 1) := by decide +kernel
theorem dX10_order_143 : decode cX10_order 143 = .ok (.ireturn, 1) := by decide +kernel
theorem dX10_apart_0 : decode cX10_apart 0 = .ok (.iload_n 0, 1) := by decide +kernel
theorem dX10_apart_1 : decode cX10_apart 1 = .ok (.iload_n 1, 1) := by decide +kernel
theorem dX10_apart_2 : decode cX10_apart 2 = .ok (.if_icmp .ge 9, 3) := by decide +kernel
theorem dX10_apart_5 : decode cX10_apart 5 = .ok (.iload_n 1, 1) := by decide +kernel
theorem dX10_apart_6 : decode cX10_apart 6 = .ok (.iload_n 0, 1) := by decide +kernel
theorem dX10_apart_7 : decode cX10_apart 7 = .ok (.isub, 1) := by decide +kernel
theorem dX10_apart_8 : decode cX10_apart 8 = .ok (.goto 6, 3) := by decide +kernel
theorem dX10_apart_11 : decode cX10_apart 11 = .ok (.iload_n 0, 1) := by decide +kernel
theorem dX10_apart_12 : decode cX10_apart 12 = .ok (.iload_n 1, 1) := by decide +kernel
theorem dX10_apart_13 : decode cX10_apart 13 = .ok (.isub, 1) := by decide +kernel
theorem dX10_apart_14 : decode cX10_apart 14 = .ok (.ireturn, 1) := by decide +kernel
theorem dX10_fits_0 : decode cX10_fits 0 = .ok (.aload_n 0, 1) := by decide +kernel
theorem dX10_fits_1 : decode cX10_fits 1 = .ok (.iload_n 1, 1) := by decide +kernel
theorem dX10_fits_2 : decode cX10_fits 2 = .ok (.bipush 11, 2) := by decide +kernel
theorem dX10_fits_4 : decode cX10_fits 4 = .ok (.invokevirtual 35, 3) := by decide +kernel
theorem dX10_fits_7 : decode cX10_fits 7 = .ok (.ifCond .ne 7, 3) := by decide +kernel
theorem dX10_fits_10 : decode cX10_fits 10 = .ok (.iconst 1, 1) := by decide +kernel
theorem dX10_fits_11 : decode cX10_fits 11 = .ok (.goto 4, 3) := by decide +kernel
theorem dX10_fits_14 : decode cX10_fits 14 = .ok (.iconst 0, 1) := by decide +kernel
theorem dX10_fits_15 : decode cX10_fits 15 = .ok (.istore_n 3, 1) := by decide +kernel
theorem dX10_fits_16 : decode cX10_fits 16 = .ok (.iconst 0, 1) := by decide +kernel
theorem dX10_fits_17 : decode cX10_fits 17 = .ok (.istore 4, 2) := by decide +kernel
theorem dX10_fits_19 : decode cX10_fits 19 = .ok (.iload 4, 2) := by decide +kernel
theorem dX10_fits_21 : decode cX10_fits 21 = .ok (.iconst 4, 1) := by decide +kernel
theorem dX10_fits_22 : decode cX10_fits 22 = .ok (.if_icmp .ge 45, 3) := by decide +kernel
theorem dX10_fits_25 : decode cX10_fits 25 = .ok (.iload_n 3, 1) := by decide +kernel
theorem dX10_fits_26 : decode cX10_fits 26 = .ok (.ifCond .eq 33, 3) := by decide +kernel
theorem dX10_fits_29 : decode cX10_fits 29 = .ok (.aload_n 0, 1) := by decide +kernel
theorem dX10_fits_30 : decode cX10_fits 30 = .ok (.iload_n 1, 1) := by decide +kernel
theorem dX10_fits_31 : decode cX10_fits 31 = .ok (.iload 4, 2) := by decide +kernel
theorem dX10_fits_33 : decode cX10_fits 33 = .ok (.invokevirtual 91, 3) := by decide +kernel
theorem dX10_fits_36 : decode cX10_fits 36 = .ok (.aload_n 0, 1) := by decide +kernel
theorem dX10_fits_37 : decode cX10_fits 37 = .ok (.iload_n 2, 1) := by decide +kernel
theorem dX10_fits_38 : decode cX10_fits 38 = .ok (.iload 4, 2) := by decide +kernel
theorem dX10_fits_40 : decode cX10_fits 40 = .ok (.invokevirtual 134, 3) := by decide +kernel
theorem dX10_fits_43 : decode cX10_fits 43 = .ok (.invokestatic 144, 3) := by decide +kernel
theorem dX10_fits_46 : decode cX10_fits 46 = .ok (.aload_n 0, 1) := by decide +kernel
theorem dX10_fits_47 : decode cX10_fits 47 = .ok (.getfield 7, 3) := by decide +kernel
theorem dX10_fits_50 : decode cX10_fits 50 = .ok (.iconst 4, 1) := by decide +kernel
theorem dX10_fits_51 : decode cX10_fits 51 = .ok (.iaload, 1) := by decide +kernel
theorem dX10_fits_52 : decode cX10_fits 52 = .ok (.if_icmp .gt 7, 3) := by decide +kernel
theorem dX10_fits_55 : decode cX10_fits 55 = .ok (.iconst 1, 1) := by decide +kernel
theorem dX10_fits_56 : decode cX10_fits 56 = .ok (.goto 4, 3) := by decide +kernel
theorem dX10_fits_59 : decode cX10_fits 59 = .ok (.iconst 0, 1) := by decide +kernel
theorem dX10_fits_60 : decode cX10_fits 60 = .ok (.istore_n 3, 1) := by decide +kernel
theorem dX10_fits_61 : decode cX10_fits 61 = .ok (.iinc 4 1, 3) := by decide +kernel
theorem dX10_fits_64 : decode cX10_fits 64 = .ok (.goto (-45), 3) := by decide +kernel
theorem dX10_fits_67 : decode cX10_fits 67 = .ok (.iload_n 3, 1) := by decide +kernel
theorem dX10_fits_68 : decode cX10_fits 68 = .ok (.ireturn, 1) := by decide +kernel
theorem dX10_sells_0 : decode cX10_sells 0 = .ok (.aload_n 0, 1) := by decide +kernel
theorem dX10_sells_1 : decode cX10_sells 1 = .ok (.iload_n 1, 1) := by decide +kernel
theorem dX10_sells_2 : decode cX10_sells 2 = .ok (.invokevirtual 94, 3) := by decide +kernel
theorem dX10_sells_5 : decode cX10_sells 5 = .ok (.ifCond .eq 11, 3) := by decide +kernel
theorem dX10_sells_8 : decode cX10_sells 8 = .ok (.aload_n 0, 1) := by decide +kernel
theorem dX10_sells_9 : decode cX10_sells 9 = .ok (.iload_n 2, 1) := by decide +kernel
theorem dX10_sells_10 : decode cX10_sells 10 = .ok (.invokevirtual 147, 3) := by decide +kernel
theorem dX10_sells_13 : decode cX10_sells 13 = .ok (.ifCond .ne 5, 3) := by decide +kernel
theorem dX10_sells_16 : decode cX10_sells 16 = .ok (.iconst (-1), 1) := by decide +kernel
theorem dX10_sells_17 : decode cX10_sells 17 = .ok (.ireturn, 1) := by decide +kernel
theorem dX10_sells_18 : decode cX10_sells 18 = .ok (.aload_n 0, 1) := by decide +kernel
theorem dX10_sells_19 : decode cX10_sells 19 = .ok (.iload_n 1, 1) := by decide +kernel
theorem dX10_sells_20 : decode cX10_sells 20 = .ok (.invokevirtual 97, 3) := by decide +kernel
theorem dX10_sells_23 : decode cX10_sells 23 = .ok (.ifCond .ne 30, 3) := by decide +kernel
theorem dX10_sells_26 : decode cX10_sells 26 = .ok (.aload_n 0, 1) := by decide +kernel
theorem dX10_sells_27 : decode cX10_sells 27 = .ok (.iload_n 1, 1) := by decide +kernel
theorem dX10_sells_28 : decode cX10_sells 28 = .ok (.invokevirtual 100, 3) := by decide +kernel
theorem dX10_sells_31 : decode cX10_sells 31 = .ok (.ifCond .eq 22, 3) := by decide +kernel
theorem dX10_sells_34 : decode cX10_sells 34 = .ok (.aload_n 0, 1) := by decide +kernel
theorem dX10_sells_35 : decode cX10_sells 35 = .ok (.iload_n 1, 1) := by decide +kernel
theorem dX10_sells_36 : decode cX10_sells 36 = .ok (.iload_n 2, 1) := by decide +kernel
theorem dX10_sells_37 : decode cX10_sells 37 = .ok (.invokevirtual 150, 3) := by decide +kernel
theorem dX10_sells_40 : decode cX10_sells 40 = .ok (.ifCond .eq 13, 3) := by decide +kernel
theorem dX10_sells_43 : decode cX10_sells 43 = .ok (.aload_n 0, 1) := by decide +kernel
theorem dX10_sells_44 : decode cX10_sells 44 = .ok (.iload_n 2, 1) := by decide +kernel
theorem dX10_sells_45 : decode cX10_sells 45 = .ok (.iconst 4, 1) := by decide +kernel
theorem dX10_sells_46 : decode cX10_sells 46 = .ok (.invokevirtual 134, 3) := by decide +kernel
theorem dX10_sells_49 : decode cX10_sells 49 = .ok (.iconst 1, 1) := by decide +kernel
theorem dX10_sells_50 : decode cX10_sells 50 = .ok (.if_icmp .ne 6, 3) := by decide +kernel
theorem dX10_sells_53 : decode cX10_sells 53 = .ok (.bipush (-2), 2) := by decide +kernel
theorem dX10_sells_55 : decode cX10_sells 55 = .ok (.ireturn, 1) := by decide +kernel
theorem dX10_sells_56 : decode cX10_sells 56 = .ok (.aload_n 0, 1) := by decide +kernel
theorem dX10_sells_57 : decode cX10_sells 57 = .ok (.iload_n 1, 1) := by decide +kernel
theorem dX10_sells_58 : decode cX10_sells 58 = .ok (.bipush 10, 2) := by decide +kernel
theorem dX10_sells_60 : decode cX10_sells 60 = .ok (.iconst 0, 1) := by decide +kernel
theorem dX10_sells_61 : decode cX10_sells 61 = .ok (.invokevirtual 80, 3) := by decide +kernel
theorem dX10_sells_64 : decode cX10_sells 64 = .ok (.aload_n 0, 1) := by decide +kernel
theorem dX10_sells_65 : decode cX10_sells 65 = .ok (.iload_n 1, 1) := by decide +kernel
theorem dX10_sells_66 : decode cX10_sells 66 = .ok (.bipush 13, 2) := by decide +kernel
theorem dX10_sells_68 : decode cX10_sells 68 = .ok (.iload_n 2, 1) := by decide +kernel
theorem dX10_sells_69 : decode cX10_sells 69 = .ok (.iconst 1, 1) := by decide +kernel
theorem dX10_sells_70 : decode cX10_sells 70 = .ok (.iadd, 1) := by decide +kernel
theorem dX10_sells_71 : decode cX10_sells 71 = .ok (.invokevirtual 80, 3) := by decide +kernel
theorem dX10_sells_74 : decode cX10_sells 74 = .ok (.aload_n 0, 1) := by decide +kernel
theorem dX10_sells_75 : decode cX10_sells 75 = .ok (.getfield 7, 3) := by decide +kernel
theorem dX10_sells_78 : decode cX10_sells 78 = .ok (.sipush 343, 3) := by decide +kernel
theorem dX10_sells_81 : decode cX10_sells 81 = .ok (.iconst 5, 1) := by decide +kernel
theorem dX10_sells_82 : decode cX10_sells 82 = .ok (.iload_n 2, 1) := by decide +kernel
theorem dX10_sells_83 : decode cX10_sells 83 = .ok (.imul, 1) := by decide +kernel
theorem dX10_sells_84 : decode cX10_sells 84 = .ok (.iadd, 1) := by decide +kernel
theorem dX10_sells_85 : decode cX10_sells 85 = .ok (.iconst 4, 1) := by decide +kernel
theorem dX10_sells_86 : decode cX10_sells 86 = .ok (.iadd, 1) := by decide +kernel
theorem dX10_sells_87 : decode cX10_sells 87 = .ok (.iconst 1, 1) := by decide +kernel
theorem dX10_sells_88 : decode cX10_sells 88 = .ok (.iastore, 1) := by decide +kernel
theorem dX10_sells_89 : decode cX10_sells 89 = .ok (.aload_n 0, 1) := by decide +kernel
theorem dX10_sells_90 : decode cX10_sells 90 = .ok (.iload_n 1, 1) := by decide +kernel
theorem dX10_sells_91 : decode cX10_sells 91 = .ok (.iconst 1, 1) := by decide +kernel
theorem dX10_sells_92 : decode cX10_sells 92 = .ok (.invokevirtual 35, 3) := by decide +kernel
theorem dX10_sells_95 : decode cX10_sells 95 = .ok (.ireturn, 1) := by decide +kernel
theorem dX10_sell_0 : decode cX10_sell 0 = .ok (.aload_n 0, 1) := by decide +kernel
theorem dX10_sell_1 : decode cX10_sell 1 = .ok (.invokevirtual 61, 3) := by decide +kernel
theorem dX10_sell_4 : decode cX10_sell 4 = .ok (.aload_n 0, 1) := by decide +kernel
theorem dX10_sell_5 : decode cX10_sell 5 = .ok (.aload_n 0, 1) := by decide +kernel
theorem dX10_sell_6 : decode cX10_sell 6 = .ok (.iload_n 1, 1) := by decide +kernel
theorem dX10_sell_7 : decode cX10_sell 7 = .ok (.iload_n 2, 1) := by decide +kernel
theorem dX10_sell_8 : decode cX10_sell 8 = .ok (.invokevirtual 153, 3) := by decide +kernel
theorem dX10_sell_11 : decode cX10_sell 11 = .ok (.invokevirtual 68, 3) := by decide +kernel
theorem dX10_sell_14 : decode cX10_sell 14 = .ok (.ireturn, 1) := by decide +kernel
theorem dX10_fitting_0 : decode cX10_fitting 0 = .ok (.iconst 0, 1) := by decide +kernel
theorem dX10_fitting_1 : decode cX10_fitting 1 = .ok (.istore_n 2, 1) := by decide +kernel
theorem dX10_fitting_2 : decode cX10_fitting 2 = .ok (.iconst 0, 1) := by decide +kernel
theorem dX10_fitting_3 : decode cX10_fitting 3 = .ok (.istore_n 3, 1) := by decide +kernel
theorem dX10_fitting_4 : decode cX10_fitting 4 = .ok (.iload_n 3, 1) := by decide +kernel
theorem dX10_fitting_5 : decode cX10_fitting 5 = .ok (.aload_n 0, 1) := by decide +kernel
theorem dX10_fitting_6 : decode cX10_fitting 6 = .ok (.getfield 7, 3) := by decide +kernel
theorem dX10_fitting_9 : decode cX10_fitting 9 = .ok (.bipush 8, 2) := by decide +kernel
theorem dX10_fitting_11 : decode cX10_fitting 11 = .ok (.iaload, 1) := by decide +kernel
theorem dX10_fitting_12 : decode cX10_fitting 12 = .ok (.if_icmp .ge 34, 3) := by decide +kernel
theorem dX10_fitting_15 : decode cX10_fitting 15 = .ok (.iload_n 2, 1) := by decide +kernel
theorem dX10_fitting_16 : decode cX10_fitting 16 = .ok (.aload_n 0, 1) := by decide +kernel
theorem dX10_fitting_17 : decode cX10_fitting 17 = .ok (.iload_n 3, 1) := by decide +kernel
theorem dX10_fitting_18 : decode cX10_fitting 18 = .ok (.invokevirtual 97, 3) := by decide +kernel
theorem dX10_fitting_21 : decode cX10_fitting 21 = .ok (.ifCond .ne 16, 3) := by decide +kernel
theorem dX10_fitting_24 : decode cX10_fitting 24 = .ok (.aload_n 0, 1) := by decide +kernel
theorem dX10_fitting_25 : decode cX10_fitting 25 = .ok (.iload_n 3, 1) := by decide +kernel
theorem dX10_fitting_26 : decode cX10_fitting 26 = .ok (.iload_n 1, 1) := by decide +kernel
theorem dX10_fitting_27 : decode cX10_fitting 27 = .ok (.invokevirtual 150, 3) := by decide +kernel
theorem dX10_fitting_30 : decode cX10_fitting 30 = .ok (.ifCond .eq 7, 3) := by decide +kernel
theorem dX10_fitting_33 : decode cX10_fitting 33 = .ok (.iconst 1, 1) := by decide +kernel
theorem dX10_fitting_34 : decode cX10_fitting 34 = .ok (.goto 4, 3) := by decide +kernel
theorem dX10_fitting_37 : decode cX10_fitting 37 = .ok (.iconst 0, 1) := by decide +kernel
theorem dX10_fitting_38 : decode cX10_fitting 38 = .ok (.iadd, 1) := by decide +kernel
theorem dX10_fitting_39 : decode cX10_fitting 39 = .ok (.istore_n 2, 1) := by decide +kernel
theorem dX10_fitting_40 : decode cX10_fitting 40 = .ok (.iinc 3 1, 3) := by decide +kernel
theorem dX10_fitting_43 : decode cX10_fitting 43 = .ok (.goto (-39), 3) := by decide +kernel
theorem dX10_fitting_46 : decode cX10_fitting 46 = .ok (.iload_n 2, 1) := by decide +kernel
theorem dX10_fitting_47 : decode cX10_fitting 47 = .ok (.ireturn, 1) := by decide +kernel
theorem dX10_nearest_0 : decode cX10_nearest 0 = .ok (.bipush (-4), 2) := by decide +kernel
theorem dX10_nearest_2 : decode cX10_nearest 2 = .ok (.istore_n 2, 1) := by decide +kernel
theorem dX10_nearest_3 : decode cX10_nearest 3 = .ok (.iconst 0, 1) := by decide +kernel
theorem dX10_nearest_4 : decode cX10_nearest 4 = .ok (.istore_n 3, 1) := by decide +kernel
theorem dX10_nearest_5 : decode cX10_nearest 5 = .ok (.iconst 0, 1) := by decide +kernel
theorem dX10_nearest_6 : decode cX10_nearest 6 = .ok (.istore 4, 2) := by decide +kernel
theorem dX10_nearest_8 : decode cX10_nearest 8 = .ok (.iload 4, 2) := by decide +kernel
theorem dX10_nearest_10 : decode cX10_nearest 10 = .ok (.aload_n 0, 1) := by decide +kernel
theorem dX10_nearest_11 : decode cX10_nearest 11 = .ok (.getfield 7, 3) := by decide +kernel
theorem dX10_nearest_14 : decode cX10_nearest 14 = .ok (.bipush 8, 2) := by decide +kernel
theorem dX10_nearest_16 : decode cX10_nearest 16 = .ok (.iaload, 1) := by decide +kernel
theorem dX10_nearest_17 : decode cX10_nearest 17 = .ok (.if_icmp .ge 77, 3) := by decide +kernel
theorem dX10_nearest_20 : decode cX10_nearest 20 = .ok (.iconst 0, 1) := by decide +kernel
theorem dX10_nearest_21 : decode cX10_nearest 21 = .ok (.istore 5, 2) := by decide +kernel
theorem dX10_nearest_23 : decode cX10_nearest 23 = .ok (.iconst 0, 1) := by decide +kernel
theorem dX10_nearest_24 : decode cX10_nearest 24 = .ok (.istore 6, 2) := by decide +kernel
theorem dX10_nearest_26 : decode cX10_nearest 26 = .ok (.iload 6, 2) := by decide +kernel
theorem dX10_nearest_28 : decode cX10_nearest 28 = .ok (.iconst 4, 1) := by decide +kernel
theorem dX10_nearest_29 : decode cX10_nearest 29 = .ok (.if_icmp .ge 32, 3) := by decide +kernel
theorem dX10_nearest_32 : decode cX10_nearest 32 = .ok (.iload 5, 2) := by decide +kernel
theorem dX10_nearest_34 : decode cX10_nearest 34 = .ok (.aload_n 0, 1) := by decide +kernel
theorem dX10_nearest_35 : decode cX10_nearest 35 = .ok (.iload 4, 2) := by decide +kernel
theorem dX10_nearest_37 : decode cX10_nearest 37 = .ok (.iload 6, 2) := by decide +kernel
theorem dX10_nearest_39 : decode cX10_nearest 39 = .ok (.invokevirtual 91, 3) := by decide +kernel
theorem dX10_nearest_42 : decode cX10_nearest 42 = .ok (.aload_n 0, 1) := by decide +kernel
theorem dX10_nearest_43 : decode cX10_nearest 43 = .ok (.iload_n 1, 1) := by decide +kernel
theorem dX10_nearest_44 : decode cX10_nearest 44 = .ok (.iload 6, 2) := by decide +kernel
theorem dX10_nearest_46 : decode cX10_nearest 46 = .ok (.invokevirtual 134, 3) := by decide +kernel
theorem dX10_nearest_49 : decode cX10_nearest 49 = .ok (.invokestatic 144, 3) := by decide +kernel
theorem dX10_nearest_52 : decode cX10_nearest 52 = .ok (.iadd, 1) := by decide +kernel
theorem dX10_nearest_53 : decode cX10_nearest 53 = .ok (.istore 5, 2) := by decide +kernel
theorem dX10_nearest_55 : decode cX10_nearest 55 = .ok (.iinc 6 1, 3) := by decide +kernel
theorem dX10_nearest_58 : decode cX10_nearest 58 = .ok (.goto (-32), 3) := by decide +kernel
theorem dX10_nearest_61 : decode cX10_nearest 61 = .ok (.aload_n 0, 1) := by decide +kernel
theorem dX10_nearest_62 : decode cX10_nearest 62 = .ok (.iload 4, 2) := by decide +kernel
theorem dX10_nearest_64 : decode cX10_nearest 64 = .ok (.invokevirtual 97, 3) := by decide +kernel
theorem dX10_nearest_67 : decode cX10_nearest 67 = .ok (.ifCond .ne 21, 3) := by decide +kernel
theorem dX10_nearest_70 : decode cX10_nearest 70 = .ok (.iload_n 2, 1) := by decide +kernel
theorem dX10_nearest_71 : decode cX10_nearest 71 = .ok (.bipush (-4), 2) := by decide +kernel
theorem dX10_nearest_73 : decode cX10_nearest 73 = .ok (.if_icmp .eq 9, 3) := by decide +kernel
theorem dX10_nearest_76 : decode cX10_nearest 76 = .ok (.iload 5, 2) := by decide +kernel
theorem dX10_nearest_78 : decode cX10_nearest 78 = .ok (.iload_n 3, 1) := by decide +kernel
theorem dX10_nearest_79 : decode cX10_nearest 79 = .ok (.if_icmp .ge 9, 3) := by decide +kernel
theorem dX10_nearest_82 : decode cX10_nearest 82 = .ok (.iload 4, 2) := by decide +kernel
theorem dX10_nearest_84 : decode cX10_nearest 84 = .ok (.istore_n 2, 1) := by decide +kernel
theorem dX10_nearest_85 : decode cX10_nearest 85 = .ok (.iload 5, 2) := by decide +kernel
theorem dX10_nearest_87 : decode cX10_nearest 87 = .ok (.istore_n 3, 1) := by decide +kernel
theorem dX10_nearest_88 : decode cX10_nearest 88 = .ok (.iinc 4 1, 3) := by decide +kernel
theorem dX10_nearest_91 : decode cX10_nearest 91 = .ok (.goto (-83), 3) := by decide +kernel
theorem dX10_nearest_94 : decode cX10_nearest 94 = .ok (.iload_n 2, 1) := by decide +kernel
theorem dX10_nearest_95 : decode cX10_nearest 95 = .ok (.ireturn, 1) := by decide +kernel
theorem dX10_orderOf_0 : decode cX10_orderOf 0 = .ok (.aload_n 0, 1) := by decide +kernel
theorem dX10_orderOf_1 : decode cX10_orderOf 1 = .ok (.iload_n 1, 1) := by decide +kernel
theorem dX10_orderOf_2 : decode cX10_orderOf 2 = .ok (.invokevirtual 147, 3) := by decide +kernel
theorem dX10_orderOf_5 : decode cX10_orderOf 5 = .ok (.ifCond .eq 13, 3) := by decide +kernel
theorem dX10_orderOf_8 : decode cX10_orderOf 8 = .ok (.iload_n 2, 1) := by decide +kernel
theorem dX10_orderOf_9 : decode cX10_orderOf 9 = .ok (.iconst 0, 1) := by decide +kernel
theorem dX10_orderOf_10 : decode cX10_orderOf 10 = .ok (.bipush 6, 2) := by decide +kernel
theorem dX10_orderOf_12 : decode cX10_orderOf 12 = .ok (.invokestatic 31, 3) := by decide +kernel
theorem dX10_orderOf_15 : decode cX10_orderOf 15 = .ok (.ifCond .ne 5, 3) := by decide +kernel
theorem dX10_orderOf_18 : decode cX10_orderOf 18 = .ok (.iconst (-1), 1) := by decide +kernel
theorem dX10_orderOf_19 : decode cX10_orderOf 19 = .ok (.ireturn, 1) := by decide +kernel
theorem dX10_orderOf_20 : decode cX10_orderOf 20 = .ok (.iload_n 2, 1) := by decide +kernel
theorem dX10_orderOf_21 : decode cX10_orderOf 21 = .ok (.iconst 5, 1) := by decide +kernel
theorem dX10_orderOf_22 : decode cX10_orderOf 22 = .ok (.if_icmp .ge 12, 3) := by decide +kernel
theorem dX10_orderOf_25 : decode cX10_orderOf 25 = .ok (.aload_n 0, 1) := by decide +kernel
theorem dX10_orderOf_26 : decode cX10_orderOf 26 = .ok (.iload_n 1, 1) := by decide +kernel
theorem dX10_orderOf_27 : decode cX10_orderOf 27 = .ok (.iload_n 2, 1) := by decide +kernel
theorem dX10_orderOf_28 : decode cX10_orderOf 28 = .ok (.invokevirtual 134, 3) := by decide +kernel
theorem dX10_orderOf_31 : decode cX10_orderOf 31 = .ok (.goto 21, 3) := by decide +kernel
theorem dX10_orderOf_34 : decode cX10_orderOf 34 = .ok (.iload_n 2, 1) := by decide +kernel
theorem dX10_orderOf_35 : decode cX10_orderOf 35 = .ok (.iconst 5, 1) := by decide +kernel
theorem dX10_orderOf_36 : decode cX10_orderOf 36 = .ok (.if_icmp .ne 11, 3) := by decide +kernel
theorem dX10_orderOf_39 : decode cX10_orderOf 39 = .ok (.aload_n 0, 1) := by decide +kernel
theorem dX10_orderOf_40 : decode cX10_orderOf 40 = .ok (.iload_n 1, 1) := by decide +kernel
theorem dX10_orderOf_41 : decode cX10_orderOf 41 = .ok (.invokevirtual 156, 3) := by decide +kernel
theorem dX10_orderOf_44 : decode cX10_orderOf 44 = .ok (.goto 8, 3) := by decide +kernel
theorem dX10_orderOf_47 : decode cX10_orderOf 47 = .ok (.aload_n 0, 1) := by decide +kernel
theorem dX10_orderOf_48 : decode cX10_orderOf 48 = .ok (.iload_n 1, 1) := by decide +kernel
theorem dX10_orderOf_49 : decode cX10_orderOf 49 = .ok (.invokevirtual 159, 3) := by decide +kernel
theorem dX10_orderOf_52 : decode cX10_orderOf 52 = .ok (.ireturn, 1) := by decide +kernel
theorem dX10_match_0 : decode cX10_match 0 = .ok (.aload_n 0, 1) := by decide +kernel
theorem dX10_match_1 : decode cX10_match 1 = .ok (.iload_n 1, 1) := by decide +kernel
theorem dX10_match_2 : decode cX10_match 2 = .ok (.invokevirtual 94, 3) := by decide +kernel
theorem dX10_match_5 : decode cX10_match 5 = .ok (.ifCond .eq 11, 3) := by decide +kernel
theorem dX10_match_8 : decode cX10_match 8 = .ok (.aload_n 0, 1) := by decide +kernel
theorem dX10_match_9 : decode cX10_match 9 = .ok (.iload_n 2, 1) := by decide +kernel
theorem dX10_match_10 : decode cX10_match 10 = .ok (.invokevirtual 94, 3) := by decide +kernel
theorem dX10_match_13 : decode cX10_match 13 = .ok (.ifCond .ne 5, 3) := by decide +kernel
theorem dX10_match_16 : decode cX10_match 16 = .ok (.iconst (-1), 1) := by decide +kernel
theorem dX10_match_17 : decode cX10_match 17 = .ok (.ireturn, 1) := by decide +kernel
theorem dX10_match_18 : decode cX10_match 18 = .ok (.iconst 1, 1) := by decide +kernel
theorem dX10_match_19 : decode cX10_match 19 = .ok (.istore_n 3, 1) := by decide +kernel
theorem dX10_match_20 : decode cX10_match 20 = .ok (.iconst 0, 1) := by decide +kernel
theorem dX10_match_21 : decode cX10_match 21 = .ok (.istore 4, 2) := by decide +kernel
theorem dX10_match_23 : decode cX10_match 23 = .ok (.iload 4, 2) := by decide +kernel
theorem dX10_match_25 : decode cX10_match 25 = .ok (.iconst 4, 1) := by decide +kernel
theorem dX10_match_26 : decode cX10_match 26 = .ok (.if_icmp .ge 45, 3) := by decide +kernel
theorem dX10_match_29 : decode cX10_match 29 = .ok (.iload_n 3, 1) := by decide +kernel
theorem dX10_match_30 : decode cX10_match 30 = .ok (.ifCond .eq 33, 3) := by decide +kernel
theorem dX10_match_33 : decode cX10_match 33 = .ok (.aload_n 0, 1) := by decide +kernel
theorem dX10_match_34 : decode cX10_match 34 = .ok (.iload_n 1, 1) := by decide +kernel
theorem dX10_match_35 : decode cX10_match 35 = .ok (.iload 4, 2) := by decide +kernel
theorem dX10_match_37 : decode cX10_match 37 = .ok (.invokevirtual 91, 3) := by decide +kernel
theorem dX10_match_40 : decode cX10_match 40 = .ok (.aload_n 0, 1) := by decide +kernel
theorem dX10_match_41 : decode cX10_match 41 = .ok (.iload_n 2, 1) := by decide +kernel
theorem dX10_match_42 : decode cX10_match 42 = .ok (.iload 4, 2) := by decide +kernel
theorem dX10_match_44 : decode cX10_match 44 = .ok (.invokevirtual 91, 3) := by decide +kernel
theorem dX10_match_47 : decode cX10_match 47 = .ok (.invokestatic 144, 3) := by decide +kernel
theorem dX10_match_50 : decode cX10_match 50 = .ok (.aload_n 0, 1) := by decide +kernel
theorem dX10_match_51 : decode cX10_match 51 = .ok (.getfield 7, 3) := by decide +kernel
theorem dX10_match_54 : decode cX10_match 54 = .ok (.iconst 4, 1) := by decide +kernel
theorem dX10_match_55 : decode cX10_match 55 = .ok (.iaload, 1) := by decide +kernel
theorem dX10_match_56 : decode cX10_match 56 = .ok (.if_icmp .gt 7, 3) := by decide +kernel
theorem dX10_match_59 : decode cX10_match 59 = .ok (.iconst 1, 1) := by decide +kernel
theorem dX10_match_60 : decode cX10_match 60 = .ok (.goto 4, 3) := by decide +kernel
theorem dX10_match_63 : decode cX10_match 63 = .ok (.iconst 0, 1) := by decide +kernel
theorem dX10_match_64 : decode cX10_match 64 = .ok (.istore_n 3, 1) := by decide +kernel
theorem dX10_match_65 : decode cX10_match 65 = .ok (.iinc 4 1, 3) := by decide +kernel
theorem dX10_match_68 : decode cX10_match 68 = .ok (.goto (-45), 3) := by decide +kernel
theorem dX10_match_71 : decode cX10_match 71 = .ok (.iload_n 3, 1) := by decide +kernel
theorem dX10_match_72 : decode cX10_match 72 = .ok (.ifCond .eq 7, 3) := by decide +kernel
theorem dX10_match_75 : decode cX10_match 75 = .ok (.iconst 1, 1) := by decide +kernel
theorem dX10_match_76 : decode cX10_match 76 = .ok (.goto 4, 3) := by decide +kernel
theorem dX10_match_79 : decode cX10_match 79 = .ok (.iconst 0, 1) := by decide +kernel
theorem dX10_match_80 : decode cX10_match 80 = .ok (.ireturn, 1) := by decide +kernel
theorem dX10_alike_0 : decode cX10_alike 0 = .ok (.iload_n 1, 1) := by decide +kernel
theorem dX10_alike_1 : decode cX10_alike 1 = .ok (.invokestatic 49, 3) := by decide +kernel
theorem dX10_alike_4 : decode cX10_alike 4 = .ok (.ifCond .ne 5, 3) := by decide +kernel
theorem dX10_alike_7 : decode cX10_alike 7 = .ok (.iconst (-1), 1) := by decide +kernel
theorem dX10_alike_8 : decode cX10_alike 8 = .ok (.ireturn, 1) := by decide +kernel
theorem dX10_alike_9 : decode cX10_alike 9 = .ok (.iconst 0, 1) := by decide +kernel
theorem dX10_alike_10 : decode cX10_alike 10 = .ok (.istore_n 2, 1) := by decide +kernel
theorem dX10_alike_11 : decode cX10_alike 11 = .ok (.iconst 0, 1) := by decide +kernel
theorem dX10_alike_12 : decode cX10_alike 12 = .ok (.istore_n 3, 1) := by decide +kernel
theorem dX10_alike_13 : decode cX10_alike 13 = .ok (.iload_n 3, 1) := by decide +kernel
theorem dX10_alike_14 : decode cX10_alike 14 = .ok (.aload_n 0, 1) := by decide +kernel
theorem dX10_alike_15 : decode cX10_alike 15 = .ok (.getfield 7, 3) := by decide +kernel
theorem dX10_alike_18 : decode cX10_alike 18 = .ok (.bipush 8, 2) := by decide +kernel
theorem dX10_alike_20 : decode cX10_alike 20 = .ok (.iaload, 1) := by decide +kernel
theorem dX10_alike_21 : decode cX10_alike 21 = .ok (.if_icmp .ge 100, 3) := by decide +kernel
theorem dX10_alike_24 : decode cX10_alike 24 = .ok (.iconst 0, 1) := by decide +kernel
theorem dX10_alike_25 : decode cX10_alike 25 = .ok (.istore 4, 2) := by decide +kernel
theorem dX10_alike_27 : decode cX10_alike 27 = .ok (.iconst 0, 1) := by decide +kernel
theorem dX10_alike_28 : decode cX10_alike 28 = .ok (.istore 5, 2) := by decide +kernel
theorem dX10_alike_30 : decode cX10_alike 30 = .ok (.iload 5, 2) := by decide +kernel
theorem dX10_alike_32 : decode cX10_alike 32 = .ok (.aload_n 0, 1) := by decide +kernel
theorem dX10_alike_33 : decode cX10_alike 33 = .ok (.getfield 7, 3) := by decide +kernel
theorem dX10_alike_36 : decode cX10_alike 36 = .ok (.bipush 8, 2) := by decide +kernel
theorem dX10_alike_38 : decode cX10_alike 38 = .ok (.iaload, 1) := by decide +kernel
theorem dX10_alike_39 : decode cX10_alike 39 = .ok (.if_icmp .ge 55, 3) := by decide +kernel
theorem dX10_alike_42 : decode cX10_alike 42 = .ok (.iload 4, 2) := by decide +kernel
theorem dX10_alike_44 : decode cX10_alike 44 = .ok (.aload_n 0, 1) := by decide +kernel
theorem dX10_alike_45 : decode cX10_alike 45 = .ok (.iload 5, 2) := by decide +kernel
theorem dX10_alike_47 : decode cX10_alike 47 = .ok (.invokevirtual 97, 3) := by decide +kernel
theorem dX10_alike_50 : decode cX10_alike 50 = .ok (.ifCond .ne 34, 3) := by decide +kernel
theorem dX10_alike_53 : decode cX10_alike 53 = .ok (.aload_n 0, 1) := by decide +kernel
theorem dX10_alike_54 : decode cX10_alike 54 = .ok (.iload 5, 2) := by decide +kernel
theorem dX10_alike_56 : decode cX10_alike 56 = .ok (.iload_n 1, 1) := by decide +kernel
theorem dX10_alike_57 : decode cX10_alike 57 = .ok (.invokevirtual 91, 3) := by decide +kernel
theorem dX10_alike_60 : decode cX10_alike 60 = .ok (.aload_n 0, 1) := by decide +kernel
theorem dX10_alike_61 : decode cX10_alike 61 = .ok (.iload_n 3, 1) := by decide +kernel
theorem dX10_alike_62 : decode cX10_alike 62 = .ok (.iload_n 1, 1) := by decide +kernel
theorem dX10_alike_63 : decode cX10_alike 63 = .ok (.invokevirtual 91, 3) := by decide +kernel
theorem dX10_alike_66 : decode cX10_alike 66 = .ok (.isub, 1) := by decide +kernel
theorem dX10_alike_67 : decode cX10_alike 67 = .ok (.iconst 0, 1) := by decide +kernel
theorem dX10_alike_68 : decode cX10_alike 68 = .ok (.aload_n 0, 1) := by decide +kernel
theorem dX10_alike_69 : decode cX10_alike 69 = .ok (.getfield 7, 3) := by decide +kernel
theorem dX10_alike_72 : decode cX10_alike 72 = .ok (.iconst 4, 1) := by decide +kernel
theorem dX10_alike_73 : decode cX10_alike 73 = .ok (.iaload, 1) := by decide +kernel
theorem dX10_alike_74 : decode cX10_alike 74 = .ok (.invokestatic 31, 3) := by decide +kernel
theorem dX10_alike_77 : decode cX10_alike 77 = .ok (.ifCond .eq 7, 3) := by decide +kernel
theorem dX10_alike_80 : decode cX10_alike 80 = .ok (.iconst 1, 1) := by decide +kernel
theorem dX10_alike_81 : decode cX10_alike 81 = .ok (.goto 4, 3) := by decide +kernel
theorem dX10_alike_84 : decode cX10_alike 84 = .ok (.iconst 0, 1) := by decide +kernel
theorem dX10_alike_85 : decode cX10_alike 85 = .ok (.iadd, 1) := by decide +kernel
theorem dX10_alike_86 : decode cX10_alike 86 = .ok (.istore 4, 2) := by decide +kernel
theorem dX10_alike_88 : decode cX10_alike 88 = .ok (.iinc 5 1, 3) := by decide +kernel
theorem dX10_alike_91 : decode cX10_alike 91 = .ok (.goto (-61), 3) := by decide +kernel
theorem dX10_alike_94 : decode cX10_alike 94 = .ok (.aload_n 0, 1) := by decide +kernel
theorem dX10_alike_95 : decode cX10_alike 95 = .ok (.iload_n 3, 1) := by decide +kernel
theorem dX10_alike_96 : decode cX10_alike 96 = .ok (.invokevirtual 97, 3) := by decide +kernel
theorem dX10_alike_99 : decode cX10_alike 99 = .ok (.ifCond .ne 14, 3) := by decide +kernel
theorem dX10_alike_102 : decode cX10_alike 102 = .ok (.iload 4, 2) := by decide +kernel
theorem dX10_alike_104 : decode cX10_alike 104 = .ok (.iload_n 2, 1) := by decide +kernel
theorem dX10_alike_105 : decode cX10_alike 105 = .ok (.if_icmp .le 8, 3) := by decide +kernel
theorem dX10_alike_108 : decode cX10_alike 108 = .ok (.iload 4, 2) := by decide +kernel
theorem dX10_alike_110 : decode cX10_alike 110 = .ok (.goto 4, 3) := by decide +kernel
theorem dX10_alike_113 : decode cX10_alike 113 = .ok (.iload_n 2, 1) := by decide +kernel
theorem dX10_alike_114 : decode cX10_alike 114 = .ok (.istore_n 2, 1) := by decide +kernel
theorem dX10_alike_115 : decode cX10_alike 115 = .ok (.iinc 3 1, 3) := by decide +kernel
theorem dX10_alike_118 : decode cX10_alike 118 = .ok (.goto (-105), 3) := by decide +kernel
theorem dX10_alike_121 : decode cX10_alike 121 = .ok (.iload_n 2, 1) := by decide +kernel
theorem dX10_alike_122 : decode cX10_alike 122 = .ok (.ireturn, 1) := by decide +kernel
theorem dX10_makesFit_0 : decode cX10_makesFit 0 = .ok (.iload_n 3, 1) := by decide +kernel
theorem dX10_makesFit_1 : decode cX10_makesFit 1 = .ok (.istore 5, 2) := by decide +kernel
theorem dX10_makesFit_3 : decode cX10_makesFit 3 = .ok (.iload 4, 2) := by decide +kernel
theorem dX10_makesFit_5 : decode cX10_makesFit 5 = .ok (.iconst 1, 1) := by decide +kernel
theorem dX10_makesFit_6 : decode cX10_makesFit 6 = .ok (.isub, 1) := by decide +kernel
theorem dX10_makesFit_7 : decode cX10_makesFit 7 = .ok (.istore 6, 2) := by decide +kernel
theorem dX10_makesFit_9 : decode cX10_makesFit 9 = .ok (.iload 6, 2) := by decide +kernel
theorem dX10_makesFit_11 : decode cX10_makesFit 11 = .ok (.ifCond .lt 38, 3) := by decide +kernel
theorem dX10_makesFit_14 : decode cX10_makesFit 14 = .ok (.aload_n 0, 1) := by decide +kernel
theorem dX10_makesFit_15 : decode cX10_makesFit 15 = .ok (.getfield 22, 3) := by decide +kernel
theorem dX10_makesFit_18 : decode cX10_makesFit 18 = .ok (.iload 6, 2) := by decide +kernel
theorem dX10_makesFit_20 : decode cX10_makesFit 20 = .ok (.iload 5, 2) := by decide +kernel
theorem dX10_makesFit_22 : decode cX10_makesFit 22 = .ok (.aload_n 0, 1) := by decide +kernel
theorem dX10_makesFit_23 : decode cX10_makesFit 23 = .ok (.getfield 7, 3) := by decide +kernel
theorem dX10_makesFit_26 : decode cX10_makesFit 26 = .ok (.bipush 7, 2) := by decide +kernel
theorem dX10_makesFit_28 : decode cX10_makesFit 28 = .ok (.iaload, 1) := by decide +kernel
theorem dX10_makesFit_29 : decode cX10_makesFit 29 = .ok (.irem, 1) := by decide +kernel
theorem dX10_makesFit_30 : decode cX10_makesFit 30 = .ok (.iastore, 1) := by decide +kernel
theorem dX10_makesFit_31 : decode cX10_makesFit 31 = .ok (.iload 5, 2) := by decide +kernel
theorem dX10_makesFit_33 : decode cX10_makesFit 33 = .ok (.aload_n 0, 1) := by decide +kernel
theorem dX10_makesFit_34 : decode cX10_makesFit 34 = .ok (.getfield 7, 3) := by decide +kernel
theorem dX10_makesFit_37 : decode cX10_makesFit 37 = .ok (.bipush 7, 2) := by decide +kernel
theorem dX10_makesFit_39 : decode cX10_makesFit 39 = .ok (.iaload, 1) := by decide +kernel
theorem dX10_makesFit_40 : decode cX10_makesFit 40 = .ok (.idiv, 1) := by decide +kernel
theorem dX10_makesFit_41 : decode cX10_makesFit 41 = .ok (.istore 5, 2) := by decide +kernel
theorem dX10_makesFit_43 : decode cX10_makesFit 43 = .ok (.iinc 6 (-1), 3) := by decide +kernel
theorem dX10_makesFit_46 : decode cX10_makesFit 46 = .ok (.goto (-37), 3) := by decide +kernel
theorem dX10_makesFit_49 : decode cX10_makesFit 49 = .ok (.iconst 1, 1) := by decide +kernel
theorem dX10_makesFit_50 : decode cX10_makesFit 50 = .ok (.istore 6, 2) := by decide +kernel
theorem dX10_makesFit_52 : decode cX10_makesFit 52 = .ok (.iconst 0, 1) := by decide +kernel
theorem dX10_makesFit_53 : decode cX10_makesFit 53 = .ok (.istore 7, 2) := by decide +kernel
theorem dX10_makesFit_55 : decode cX10_makesFit 55 = .ok (.iload 7, 2) := by decide +kernel
theorem dX10_makesFit_57 : decode cX10_makesFit 57 = .ok (.iload 4, 2) := by decide +kernel
theorem dX10_makesFit_59 : decode cX10_makesFit 59 = .ok (.if_icmp .ge 54, 3) := by decide +kernel
theorem dX10_makesFit_62 : decode cX10_makesFit 62 = .ok (.iload 6, 2) := by decide +kernel
theorem dX10_makesFit_64 : decode cX10_makesFit 64 = .ok (.ifCond .eq 49, 3) := by decide +kernel
theorem dX10_makesFit_67 : decode cX10_makesFit 67 = .ok (.aload_n 0, 1) := by decide +kernel
theorem dX10_makesFit_68 : decode cX10_makesFit 68 = .ok (.aload_n 0, 1) := by decide +kernel
theorem dX10_makesFit_69 : decode cX10_makesFit 69 = .ok (.getfield 22, 3) := by decide +kernel
theorem dX10_makesFit_72 : decode cX10_makesFit 72 = .ok (.iload 7, 2) := by decide +kernel
theorem dX10_makesFit_74 : decode cX10_makesFit 74 = .ok (.iaload, 1) := by decide +kernel
theorem dX10_makesFit_75 : decode cX10_makesFit 75 = .ok (.iconst 2, 1) := by decide +kernel
theorem dX10_makesFit_76 : decode cX10_makesFit 76 = .ok (.invokevirtual 57, 3) := by decide +kernel
theorem dX10_makesFit_79 : decode cX10_makesFit 79 = .ok (.ifCond .le 7, 3) := by decide +kernel
theorem dX10_makesFit_82 : decode cX10_makesFit 82 = .ok (.iconst 1, 1) := by decide +kernel
theorem dX10_makesFit_83 : decode cX10_makesFit 83 = .ok (.goto 4, 3) := by decide +kernel
theorem dX10_makesFit_86 : decode cX10_makesFit 86 = .ok (.iconst 0, 1) := by decide +kernel
theorem dX10_makesFit_87 : decode cX10_makesFit 87 = .ok (.istore 6, 2) := by decide +kernel
theorem dX10_makesFit_89 : decode cX10_makesFit 89 = .ok (.iload 6, 2) := by decide +kernel
theorem dX10_makesFit_91 : decode cX10_makesFit 91 = .ok (.ifCond .eq 16, 3) := by decide +kernel
theorem dX10_makesFit_94 : decode cX10_makesFit 94 = .ok (.aload_n 0, 1) := by decide +kernel
theorem dX10_makesFit_95 : decode cX10_makesFit 95 = .ok (.iload_n 1, 1) := by decide +kernel
theorem dX10_makesFit_96 : decode cX10_makesFit 96 = .ok (.aload_n 0, 1) := by decide +kernel
theorem dX10_makesFit_97 : decode cX10_makesFit 97 = .ok (.getfield 22, 3) := by decide +kernel
theorem dX10_makesFit_100 : decode cX10_makesFit 100 = .ok (.iload 7, 2) := by decide +kernel
theorem dX10_makesFit_102 : decode cX10_makesFit 102 = .ok (.iaload, 1) := by decide +kernel
theorem dX10_makesFit_103 : decode cX10_makesFit 103 = .ok (.invokevirtual 103, 3) := by decide +kernel
theorem dX10_makesFit_106 : decode cX10_makesFit 106 = .ok (.pop, 1) := by decide +kernel
theorem dX10_makesFit_107 : decode cX10_makesFit 107 = .ok (.iinc 7 1, 3) := by decide +kernel
theorem dX10_makesFit_110 : decode cX10_makesFit 110 = .ok (.goto (-55), 3) := by decide +kernel
theorem dX10_makesFit_113 : decode cX10_makesFit 113 = .ok (.iload 6, 2) := by decide +kernel
theorem dX10_makesFit_115 : decode cX10_makesFit 115 = .ok (.ifCond .eq 16, 3) := by decide +kernel
theorem dX10_makesFit_118 : decode cX10_makesFit 118 = .ok (.aload_n 0, 1) := by decide +kernel
theorem dX10_makesFit_119 : decode cX10_makesFit 119 = .ok (.iload_n 1, 1) := by decide +kernel
theorem dX10_makesFit_120 : decode cX10_makesFit 120 = .ok (.iload_n 2, 1) := by decide +kernel
theorem dX10_makesFit_121 : decode cX10_makesFit 121 = .ok (.invokevirtual 150, 3) := by decide +kernel
theorem dX10_makesFit_124 : decode cX10_makesFit 124 = .ok (.ifCond .eq 7, 3) := by decide +kernel
theorem dX10_makesFit_127 : decode cX10_makesFit 127 = .ok (.iconst 1, 1) := by decide +kernel
theorem dX10_makesFit_128 : decode cX10_makesFit 128 = .ok (.goto 4, 3) := by decide +kernel
theorem dX10_makesFit_131 : decode cX10_makesFit 131 = .ok (.iconst 0, 1) := by decide +kernel
theorem dX10_makesFit_132 : decode cX10_makesFit 132 = .ok (.istore 6, 2) := by decide +kernel
theorem dX10_makesFit_134 : decode cX10_makesFit 134 = .ok (.aload_n 0, 1) := by decide +kernel
theorem dX10_makesFit_135 : decode cX10_makesFit 135 = .ok (.invokevirtual 46, 3) := by decide +kernel
theorem dX10_makesFit_138 : decode cX10_makesFit 138 = .ok (.iload 6, 2) := by decide +kernel
theorem dX10_makesFit_140 : decode cX10_makesFit 140 = .ok (.ireturn, 1) := by decide +kernel
theorem dX10_plans_0 : decode cX10_plans 0 = .ok (.aload_n 0, 1) := by decide +kernel
theorem dX10_plans_1 : decode cX10_plans 1 = .ok (.invokevirtual 61, 3) := by decide +kernel
theorem dX10_plans_4 : decode cX10_plans 4 = .ok (.aload_n 0, 1) := by decide +kernel
theorem dX10_plans_5 : decode cX10_plans 5 = .ok (.iload_n 1, 1) := by decide +kernel
theorem dX10_plans_6 : decode cX10_plans 6 = .ok (.iload_n 2, 1) := by decide +kernel
theorem dX10_plans_7 : decode cX10_plans 7 = .ok (.invokevirtual 150, 3) := by decide +kernel
theorem dX10_plans_10 : decode cX10_plans 10 = .ok (.ifCond .eq 5, 3) := by decide +kernel
theorem dX10_plans_13 : decode cX10_plans 13 = .ok (.iconst 0, 1) := by decide +kernel
theorem dX10_plans_14 : decode cX10_plans 14 = .ok (.ireturn, 1) := by decide +kernel
theorem dX10_plans_15 : decode cX10_plans 15 = .ok (.iconst 1, 1) := by decide +kernel
theorem dX10_plans_16 : decode cX10_plans 16 = .ok (.istore_n 3, 1) := by decide +kernel
theorem dX10_plans_17 : decode cX10_plans 17 = .ok (.iconst 1, 1) := by decide +kernel
theorem dX10_plans_18 : decode cX10_plans 18 = .ok (.istore 4, 2) := by decide +kernel
theorem dX10_plans_20 : decode cX10_plans 20 = .ok (.iload 4, 2) := by decide +kernel
theorem dX10_plans_22 : decode cX10_plans 22 = .ok (.iconst 5, 1) := by decide +kernel
theorem dX10_plans_23 : decode cX10_plans 23 = .ok (.if_icmp .ge 50, 3) := by decide +kernel
theorem dX10_plans_26 : decode cX10_plans 26 = .ok (.iload_n 3, 1) := by decide +kernel
theorem dX10_plans_27 : decode cX10_plans 27 = .ok (.aload_n 0, 1) := by decide +kernel
theorem dX10_plans_28 : decode cX10_plans 28 = .ok (.getfield 7, 3) := by decide +kernel
theorem dX10_plans_31 : decode cX10_plans 31 = .ok (.bipush 7, 2) := by decide +kernel
theorem dX10_plans_33 : decode cX10_plans 33 = .ok (.iaload, 1) := by decide +kernel
theorem dX10_plans_34 : decode cX10_plans 34 = .ok (.imul, 1) := by decide +kernel
theorem dX10_plans_35 : decode cX10_plans 35 = .ok (.istore_n 3, 1) := by decide +kernel
theorem dX10_plans_36 : decode cX10_plans 36 = .ok (.iconst 0, 1) := by decide +kernel
theorem dX10_plans_37 : decode cX10_plans 37 = .ok (.istore 5, 2) := by decide +kernel
theorem dX10_plans_39 : decode cX10_plans 39 = .ok (.iload 5, 2) := by decide +kernel
theorem dX10_plans_41 : decode cX10_plans 41 = .ok (.iload_n 3, 1) := by decide +kernel
theorem dX10_plans_42 : decode cX10_plans 42 = .ok (.if_icmp .ge 25, 3) := by decide +kernel
theorem dX10_plans_45 : decode cX10_plans 45 = .ok (.aload_n 0, 1) := by decide +kernel
theorem dX10_plans_46 : decode cX10_plans 46 = .ok (.iload_n 1, 1) := by decide +kernel
theorem dX10_plans_47 : decode cX10_plans 47 = .ok (.iload_n 2, 1) := by decide +kernel
theorem dX10_plans_48 : decode cX10_plans 48 = .ok (.iload 5, 2) := by decide +kernel
theorem dX10_plans_50 : decode cX10_plans 50 = .ok (.iload 4, 2) := by decide +kernel
theorem dX10_plans_52 : decode cX10_plans 52 = .ok (.invokevirtual 162, 3) := by decide +kernel
theorem dX10_plans_55 : decode cX10_plans 55 = .ok (.ifCond .eq 6, 3) := by decide +kernel
theorem dX10_plans_58 : decode cX10_plans 58 = .ok (.iload 4, 2) := by decide +kernel
theorem dX10_plans_60 : decode cX10_plans 60 = .ok (.ireturn, 1) := by decide +kernel
theorem dX10_plans_61 : decode cX10_plans 61 = .ok (.iinc 5 1, 3) := by decide +kernel
theorem dX10_plans_64 : decode cX10_plans 64 = .ok (.goto (-25), 3) := by decide +kernel
theorem dX10_plans_67 : decode cX10_plans 67 = .ok (.iinc 4 1, 3) := by decide +kernel
theorem dX10_plans_70 : decode cX10_plans 70 = .ok (.goto (-50), 3) := by decide +kernel
theorem dX10_plans_73 : decode cX10_plans 73 = .ok (.bipush (-4), 2) := by decide +kernel
theorem dX10_plans_75 : decode cX10_plans 75 = .ok (.ireturn, 1) := by decide +kernel
theorem dX10_plan_0 : decode cX10_plan 0 = .ok (.aload_n 0, 1) := by decide +kernel
theorem dX10_plan_1 : decode cX10_plan 1 = .ok (.iload_n 1, 1) := by decide +kernel
theorem dX10_plan_2 : decode cX10_plan 2 = .ok (.invokevirtual 94, 3) := by decide +kernel
theorem dX10_plan_5 : decode cX10_plan 5 = .ok (.ifCond .eq 16, 3) := by decide +kernel
theorem dX10_plan_8 : decode cX10_plan 8 = .ok (.aload_n 0, 1) := by decide +kernel
theorem dX10_plan_9 : decode cX10_plan 9 = .ok (.iload_n 2, 1) := by decide +kernel
theorem dX10_plan_10 : decode cX10_plan 10 = .ok (.invokevirtual 147, 3) := by decide +kernel
theorem dX10_plan_13 : decode cX10_plan 13 = .ok (.ifCond .eq 8, 3) := by decide +kernel
theorem dX10_plan_16 : decode cX10_plan 16 = .ok (.iload_n 3, 1) := by decide +kernel
theorem dX10_plan_17 : decode cX10_plan 17 = .ok (.iconst (-1), 1) := by decide +kernel
theorem dX10_plan_18 : decode cX10_plan 18 = .ok (.if_icmp .ge 5, 3) := by decide +kernel
theorem dX10_plan_21 : decode cX10_plan 21 = .ok (.iconst (-1), 1) := by decide +kernel
theorem dX10_plan_22 : decode cX10_plan 22 = .ok (.ireturn, 1) := by decide +kernel
theorem dX10_plan_23 : decode cX10_plan 23 = .ok (.aload_n 0, 1) := by decide +kernel
theorem dX10_plan_24 : decode cX10_plan 24 = .ok (.iload_n 1, 1) := by decide +kernel
theorem dX10_plan_25 : decode cX10_plan 25 = .ok (.invokevirtual 97, 3) := by decide +kernel
theorem dX10_plan_28 : decode cX10_plan 28 = .ok (.ifCond .eq 6, 3) := by decide +kernel
theorem dX10_plan_31 : decode cX10_plan 31 = .ok (.bipush (-2), 2) := by decide +kernel
theorem dX10_plan_33 : decode cX10_plan 33 = .ok (.ireturn, 1) := by decide +kernel
theorem dX10_plan_34 : decode cX10_plan 34 = .ok (.aload_n 0, 1) := by decide +kernel
theorem dX10_plan_35 : decode cX10_plan 35 = .ok (.iload_n 1, 1) := by decide +kernel
theorem dX10_plan_36 : decode cX10_plan 36 = .ok (.iload_n 2, 1) := by decide +kernel
theorem dX10_plan_37 : decode cX10_plan 37 = .ok (.invokevirtual 166, 3) := by decide +kernel
theorem dX10_plan_40 : decode cX10_plan 40 = .ok (.istore 4, 2) := by decide +kernel
theorem dX10_plan_42 : decode cX10_plan 42 = .ok (.iload_n 3, 1) := by decide +kernel
theorem dX10_plan_43 : decode cX10_plan 43 = .ok (.iconst (-1), 1) := by decide +kernel
theorem dX10_plan_44 : decode cX10_plan 44 = .ok (.if_icmp .eq 8, 3) := by decide +kernel
theorem dX10_plan_47 : decode cX10_plan 47 = .ok (.iload 4, 2) := by decide +kernel
theorem dX10_plan_49 : decode cX10_plan 49 = .ok (.ifCond .ge 8, 3) := by decide +kernel
theorem dX10_plan_52 : decode cX10_plan 52 = .ok (.iload 4, 2) := by decide +kernel
theorem dX10_plan_54 : decode cX10_plan 54 = .ok (.goto 20, 3) := by decide +kernel
theorem dX10_plan_57 : decode cX10_plan 57 = .ok (.iload_n 3, 1) := by decide +kernel
theorem dX10_plan_58 : decode cX10_plan 58 = .ok (.iload 4, 2) := by decide +kernel
theorem dX10_plan_60 : decode cX10_plan 60 = .ok (.if_icmp .ge 12, 3) := by decide +kernel
theorem dX10_plan_63 : decode cX10_plan 63 = .ok (.aload_n 0, 1) := by decide +kernel
theorem dX10_plan_64 : decode cX10_plan 64 = .ok (.getfield 22, 3) := by decide +kernel
theorem dX10_plan_67 : decode cX10_plan 67 = .ok (.iload_n 3, 1) := by decide +kernel
theorem dX10_plan_68 : decode cX10_plan 68 = .ok (.iaload, 1) := by decide +kernel
theorem dX10_plan_69 : decode cX10_plan 69 = .ok (.goto 5, 3) := by decide +kernel
theorem dX10_plan_72 : decode cX10_plan 72 = .ok (.bipush (-4), 2) := by decide +kernel
theorem dX10_plan_74 : decode cX10_plan 74 = .ok (.ireturn, 1) := by decide +kernel
theorem dX10_takes_0 : decode cX10_takes 0 = .ok (.aload_n 0, 1) := by decide +kernel
theorem dX10_takes_1 : decode cX10_takes 1 = .ok (.iload_n 1, 1) := by decide +kernel
theorem dX10_takes_2 : decode cX10_takes 2 = .ok (.invokevirtual 94, 3) := by decide +kernel
theorem dX10_takes_5 : decode cX10_takes 5 = .ok (.ifCond .eq 21, 3) := by decide +kernel
theorem dX10_takes_8 : decode cX10_takes 8 = .ok (.aload_n 0, 1) := by decide +kernel
theorem dX10_takes_9 : decode cX10_takes 9 = .ok (.iload_n 2, 1) := by decide +kernel
theorem dX10_takes_10 : decode cX10_takes 10 = .ok (.invokevirtual 53, 3) := by decide +kernel
theorem dX10_takes_13 : decode cX10_takes 13 = .ok (.ifCond .eq 13, 3) := by decide +kernel
theorem dX10_takes_16 : decode cX10_takes 16 = .ok (.iload_n 3, 1) := by decide +kernel
theorem dX10_takes_17 : decode cX10_takes 17 = .ok (.iconst 1, 1) := by decide +kernel
theorem dX10_takes_18 : decode cX10_takes 18 = .ok (.bipush 30, 2) := by decide +kernel
theorem dX10_takes_20 : decode cX10_takes 20 = .ok (.invokestatic 31, 3) := by decide +kernel
theorem dX10_takes_23 : decode cX10_takes 23 = .ok (.ifCond .ne 5, 3) := by decide +kernel
theorem dX10_takes_26 : decode cX10_takes 26 = .ok (.iconst (-1), 1) := by decide +kernel
theorem dX10_takes_27 : decode cX10_takes 27 = .ok (.ireturn, 1) := by decide +kernel
theorem dX10_takes_28 : decode cX10_takes 28 = .ok (.aload_n 0, 1) := by decide +kernel
theorem dX10_takes_29 : decode cX10_takes 29 = .ok (.iload_n 1, 1) := by decide +kernel
theorem dX10_takes_30 : decode cX10_takes 30 = .ok (.invokevirtual 97, 3) := by decide +kernel
theorem dX10_takes_33 : decode cX10_takes 33 = .ok (.ifCond .eq 6, 3) := by decide +kernel
theorem dX10_takes_36 : decode cX10_takes 36 = .ok (.bipush (-2), 2) := by decide +kernel
theorem dX10_takes_38 : decode cX10_takes 38 = .ok (.ireturn, 1) := by decide +kernel
theorem dX10_takes_39 : decode cX10_takes 39 = .ok (.aload_n 0, 1) := by decide +kernel
theorem dX10_takes_40 : decode cX10_takes 40 = .ok (.iload_n 2, 1) := by decide +kernel
theorem dX10_takes_41 : decode cX10_takes 41 = .ok (.iconst 2, 1) := by decide +kernel
theorem dX10_takes_42 : decode cX10_takes 42 = .ok (.invokevirtual 57, 3) := by decide +kernel
theorem dX10_takes_45 : decode cX10_takes 45 = .ok (.istore 4, 2) := by decide +kernel
theorem dX10_takes_47 : decode cX10_takes 47 = .ok (.iconst 0, 1) := by decide +kernel
theorem dX10_takes_48 : decode cX10_takes 48 = .ok (.istore 5, 2) := by decide +kernel
theorem dX10_takes_50 : decode cX10_takes 50 = .ok (.iload 5, 2) := by decide +kernel
theorem dX10_takes_52 : decode cX10_takes 52 = .ok (.iload_n 3, 1) := by decide +kernel
theorem dX10_takes_53 : decode cX10_takes 53 = .ok (.if_icmp .ge 22, 3) := by decide +kernel
theorem dX10_takes_56 : decode cX10_takes 56 = .ok (.iload 4, 2) := by decide +kernel
theorem dX10_takes_58 : decode cX10_takes 58 = .ok (.aload_n 0, 1) := by decide +kernel
theorem dX10_takes_59 : decode cX10_takes 59 = .ok (.iload_n 1, 1) := by decide +kernel
theorem dX10_takes_60 : decode cX10_takes 60 = .ok (.iload_n 2, 1) := by decide +kernel
theorem dX10_takes_61 : decode cX10_takes 61 = .ok (.iload 4, 2) := by decide +kernel
theorem dX10_takes_63 : decode cX10_takes 63 = .ok (.invokevirtual 84, 3) := by decide +kernel
theorem dX10_takes_66 : decode cX10_takes 66 = .ok (.isub, 1) := by decide +kernel
theorem dX10_takes_67 : decode cX10_takes 67 = .ok (.istore 4, 2) := by decide +kernel
theorem dX10_takes_69 : decode cX10_takes 69 = .ok (.iinc 5 1, 3) := by decide +kernel
theorem dX10_takes_72 : decode cX10_takes 72 = .ok (.goto (-22), 3) := by decide +kernel
theorem dX10_takes_75 : decode cX10_takes 75 = .ok (.aload_n 0, 1) := by decide +kernel
theorem dX10_takes_76 : decode cX10_takes 76 = .ok (.iload_n 2, 1) := by decide +kernel
theorem dX10_takes_77 : decode cX10_takes 77 = .ok (.iconst 2, 1) := by decide +kernel
theorem dX10_takes_78 : decode cX10_takes 78 = .ok (.invokevirtual 57, 3) := by decide +kernel
theorem dX10_takes_81 : decode cX10_takes 81 = .ok (.iload 4, 2) := by decide +kernel
theorem dX10_takes_83 : decode cX10_takes 83 = .ok (.isub, 1) := by decide +kernel
theorem dX10_takes_84 : decode cX10_takes 84 = .ok (.ireturn, 1) := by decide +kernel
theorem dX10_inVats_0 : decode cX10_inVats 0 = .ok (.iconst 0, 1) := by decide +kernel
theorem dX10_inVats_1 : decode cX10_inVats 1 = .ok (.istore_n 2, 1) := by decide +kernel
theorem dX10_inVats_2 : decode cX10_inVats 2 = .ok (.iconst 0, 1) := by decide +kernel
theorem dX10_inVats_3 : decode cX10_inVats 3 = .ok (.istore_n 3, 1) := by decide +kernel
theorem dX10_inVats_4 : decode cX10_inVats 4 = .ok (.iload_n 3, 1) := by decide +kernel
theorem dX10_inVats_5 : decode cX10_inVats 5 = .ok (.aload_n 0, 1) := by decide +kernel
theorem dX10_inVats_6 : decode cX10_inVats 6 = .ok (.getfield 7, 3) := by decide +kernel
theorem dX10_inVats_9 : decode cX10_inVats 9 = .ok (.bipush 7, 2) := by decide +kernel
theorem dX10_inVats_11 : decode cX10_inVats 11 = .ok (.iaload, 1) := by decide +kernel
theorem dX10_inVats_12 : decode cX10_inVats 12 = .ok (.if_icmp .ge 32, 3) := by decide +kernel
theorem dX10_inVats_15 : decode cX10_inVats 15 = .ok (.iload_n 2, 1) := by decide +kernel
theorem dX10_inVats_16 : decode cX10_inVats 16 = .ok (.aload_n 0, 1) := by decide +kernel
theorem dX10_inVats_17 : decode cX10_inVats 17 = .ok (.iload_n 3, 1) := by decide +kernel
theorem dX10_inVats_18 : decode cX10_inVats 18 = .ok (.iconst 0, 1) := by decide +kernel
theorem dX10_inVats_19 : decode cX10_inVats 19 = .ok (.invokevirtual 57, 3) := by decide +kernel
theorem dX10_inVats_22 : decode cX10_inVats 22 = .ok (.iload_n 1, 1) := by decide +kernel
theorem dX10_inVats_23 : decode cX10_inVats 23 = .ok (.if_icmp .ne 12, 3) := by decide +kernel
theorem dX10_inVats_26 : decode cX10_inVats 26 = .ok (.aload_n 0, 1) := by decide +kernel
theorem dX10_inVats_27 : decode cX10_inVats 27 = .ok (.iload_n 3, 1) := by decide +kernel
theorem dX10_inVats_28 : decode cX10_inVats 28 = .ok (.iconst 2, 1) := by decide +kernel
theorem dX10_inVats_29 : decode cX10_inVats 29 = .ok (.invokevirtual 57, 3) := by decide +kernel
theorem dX10_inVats_32 : decode cX10_inVats 32 = .ok (.goto 4, 3) := by decide +kernel
theorem dX10_inVats_35 : decode cX10_inVats 35 = .ok (.iconst 0, 1) := by decide +kernel
theorem dX10_inVats_36 : decode cX10_inVats 36 = .ok (.iadd, 1) := by decide +kernel
theorem dX10_inVats_37 : decode cX10_inVats 37 = .ok (.istore_n 2, 1) := by decide +kernel
theorem dX10_inVats_38 : decode cX10_inVats 38 = .ok (.iinc 3 1, 3) := by decide +kernel
theorem dX10_inVats_41 : decode cX10_inVats 41 = .ok (.goto (-37), 3) := by decide +kernel
theorem dX10_inVats_44 : decode cX10_inVats 44 = .ok (.iload_n 2, 1) := by decide +kernel
theorem dX10_inVats_45 : decode cX10_inVats 45 = .ok (.ireturn, 1) := by decide +kernel
theorem dX10_inLots_0 : decode cX10_inLots 0 = .ok (.iconst 0, 1) := by decide +kernel
theorem dX10_inLots_1 : decode cX10_inLots 1 = .ok (.istore_n 3, 1) := by decide +kernel
theorem dX10_inLots_2 : decode cX10_inLots 2 = .ok (.iconst 0, 1) := by decide +kernel
theorem dX10_inLots_3 : decode cX10_inLots 3 = .ok (.istore 4, 2) := by decide +kernel
theorem dX10_inLots_5 : decode cX10_inLots 5 = .ok (.iload 4, 2) := by decide +kernel
theorem dX10_inLots_7 : decode cX10_inLots 7 = .ok (.aload_n 0, 1) := by decide +kernel
theorem dX10_inLots_8 : decode cX10_inLots 8 = .ok (.getfield 7, 3) := by decide +kernel
theorem dX10_inLots_11 : decode cX10_inLots 11 = .ok (.bipush 8, 2) := by decide +kernel
theorem dX10_inLots_13 : decode cX10_inLots 13 = .ok (.iaload, 1) := by decide +kernel
theorem dX10_inLots_14 : decode cX10_inLots 14 = .ok (.if_icmp .ge 33, 3) := by decide +kernel
theorem dX10_inLots_17 : decode cX10_inLots 17 = .ok (.iload_n 3, 1) := by decide +kernel
theorem dX10_inLots_18 : decode cX10_inLots 18 = .ok (.aload_n 0, 1) := by decide +kernel
theorem dX10_inLots_19 : decode cX10_inLots 19 = .ok (.iload 4, 2) := by decide +kernel
theorem dX10_inLots_21 : decode cX10_inLots 21 = .ok (.invokevirtual 97, 3) := by decide +kernel
theorem dX10_inLots_24 : decode cX10_inLots 24 = .ok (.iload_n 2, 1) := by decide +kernel
theorem dX10_inLots_25 : decode cX10_inLots 25 = .ok (.if_icmp .ne 13, 3) := by decide +kernel
theorem dX10_inLots_28 : decode cX10_inLots 28 = .ok (.aload_n 0, 1) := by decide +kernel
theorem dX10_inLots_29 : decode cX10_inLots 29 = .ok (.iload 4, 2) := by decide +kernel
theorem dX10_inLots_31 : decode cX10_inLots 31 = .ok (.iload_n 1, 1) := by decide +kernel
theorem dX10_inLots_32 : decode cX10_inLots 32 = .ok (.invokevirtual 35, 3) := by decide +kernel
theorem dX10_inLots_35 : decode cX10_inLots 35 = .ok (.goto 4, 3) := by decide +kernel
theorem dX10_inLots_38 : decode cX10_inLots 38 = .ok (.iconst 0, 1) := by decide +kernel
theorem dX10_inLots_39 : decode cX10_inLots 39 = .ok (.iadd, 1) := by decide +kernel
theorem dX10_inLots_40 : decode cX10_inLots 40 = .ok (.istore_n 3, 1) := by decide +kernel
theorem dX10_inLots_41 : decode cX10_inLots 41 = .ok (.iinc 4 1, 3) := by decide +kernel
theorem dX10_inLots_44 : decode cX10_inLots 44 = .ok (.goto (-39), 3) := by decide +kernel
theorem dX10_inLots_47 : decode cX10_inLots 47 = .ok (.iload_n 3, 1) := by decide +kernel
theorem dX10_inLots_48 : decode cX10_inLots 48 = .ok (.ireturn, 1) := by decide +kernel
theorem dX10_account_0 : decode cX10_account 0 = .ok (.iload_n 1, 1) := by decide +kernel
theorem dX10_account_1 : decode cX10_account 1 = .ok (.invokestatic 49, 3) := by decide +kernel
theorem dX10_account_4 : decode cX10_account 4 = .ok (.ifCond .ne 5, 3) := by decide +kernel
theorem dX10_account_7 : decode cX10_account 7 = .ok (.iconst (-1), 1) := by decide +kernel
theorem dX10_account_8 : decode cX10_account 8 = .ok (.ireturn, 1) := by decide +kernel
theorem dX10_account_9 : decode cX10_account 9 = .ok (.iload_n 2, 1) := by decide +kernel
theorem dX10_account_10 : decode cX10_account 10 = .ok (.tableswitch 102 0 5 #[38, 48, 54, 63, 73, 92], 38) := by decide +kernel
theorem dX10_account_48 : decode cX10_account 48 = .ok (.aload_n 0, 1) := by decide +kernel
theorem dX10_account_49 : decode cX10_account 49 = .ok (.getfield 7, 3) := by decide +kernel
theorem dX10_account_52 : decode cX10_account 52 = .ok (.bipush 11, 2) := by decide +kernel
theorem dX10_account_54 : decode cX10_account 54 = .ok (.iload_n 1, 1) := by decide +kernel
theorem dX10_account_55 : decode cX10_account 55 = .ok (.iadd, 1) := by decide +kernel
theorem dX10_account_56 : decode cX10_account 56 = .ok (.iaload, 1) := by decide +kernel
theorem dX10_account_57 : decode cX10_account 57 = .ok (.ireturn, 1) := by decide +kernel
theorem dX10_account_58 : decode cX10_account 58 = .ok (.aload_n 0, 1) := by decide +kernel
theorem dX10_account_59 : decode cX10_account 59 = .ok (.iload_n 1, 1) := by decide +kernel
theorem dX10_account_60 : decode cX10_account 60 = .ok (.invokevirtual 169, 3) := by decide +kernel
theorem dX10_account_63 : decode cX10_account 63 = .ok (.ireturn, 1) := by decide +kernel
theorem dX10_account_64 : decode cX10_account 64 = .ok (.aload_n 0, 1) := by decide +kernel
theorem dX10_account_65 : decode cX10_account 65 = .ok (.iconst 2, 1) := by decide +kernel
theorem dX10_account_66 : decode cX10_account 66 = .ok (.iload_n 1, 1) := by decide +kernel
theorem dX10_account_67 : decode cX10_account 67 = .ok (.iadd, 1) := by decide +kernel
theorem dX10_account_68 : decode cX10_account 68 = .ok (.iconst 0, 1) := by decide +kernel
theorem dX10_account_69 : decode cX10_account 69 = .ok (.invokevirtual 172, 3) := by decide +kernel
theorem dX10_account_72 : decode cX10_account 72 = .ok (.ireturn, 1) := by decide +kernel
theorem dX10_account_73 : decode cX10_account 73 = .ok (.aload_n 0, 1) := by decide +kernel
theorem dX10_account_74 : decode cX10_account 74 = .ok (.bipush 6, 2) := by decide +kernel
theorem dX10_account_76 : decode cX10_account 76 = .ok (.iload_n 1, 1) := by decide +kernel
theorem dX10_account_77 : decode cX10_account 77 = .ok (.iadd, 1) := by decide +kernel
theorem dX10_account_78 : decode cX10_account 78 = .ok (.iconst 0, 1) := by decide +kernel
theorem dX10_account_79 : decode cX10_account 79 = .ok (.invokevirtual 172, 3) := by decide +kernel
theorem dX10_account_82 : decode cX10_account 82 = .ok (.ireturn, 1) := by decide +kernel
theorem dX10_account_83 : decode cX10_account 83 = .ok (.aload_n 0, 1) := by decide +kernel
theorem dX10_account_84 : decode cX10_account 84 = .ok (.iconst 2, 1) := by decide +kernel
theorem dX10_account_85 : decode cX10_account 85 = .ok (.iload_n 1, 1) := by decide +kernel
theorem dX10_account_86 : decode cX10_account 86 = .ok (.iadd, 1) := by decide +kernel
theorem dX10_account_87 : decode cX10_account 87 = .ok (.iconst 1, 1) := by decide +kernel
theorem dX10_account_88 : decode cX10_account 88 = .ok (.invokevirtual 172, 3) := by decide +kernel
theorem dX10_account_91 : decode cX10_account 91 = .ok (.aload_n 0, 1) := by decide +kernel
theorem dX10_account_92 : decode cX10_account 92 = .ok (.bipush 6, 2) := by decide +kernel
theorem dX10_account_94 : decode cX10_account 94 = .ok (.iload_n 1, 1) := by decide +kernel
theorem dX10_account_95 : decode cX10_account 95 = .ok (.iadd, 1) := by decide +kernel
theorem dX10_account_96 : decode cX10_account 96 = .ok (.iconst 1, 1) := by decide +kernel
theorem dX10_account_97 : decode cX10_account 97 = .ok (.invokevirtual 172, 3) := by decide +kernel
theorem dX10_account_100 : decode cX10_account 100 = .ok (.iadd, 1) := by decide +kernel
theorem dX10_account_101 : decode cX10_account 101 = .ok (.ireturn, 1) := by decide +kernel
theorem dX10_account_102 : decode cX10_account 102 = .ok (.aload_n 0, 1) := by decide +kernel
theorem dX10_account_103 : decode cX10_account 103 = .ok (.getfield 7, 3) := by decide +kernel
theorem dX10_account_106 : decode cX10_account 106 = .ok (.bipush 15, 2) := by decide +kernel
theorem dX10_account_108 : decode cX10_account 108 = .ok (.iload_n 1, 1) := by decide +kernel
theorem dX10_account_109 : decode cX10_account 109 = .ok (.iadd, 1) := by decide +kernel
theorem dX10_account_110 : decode cX10_account 110 = .ok (.iaload, 1) := by decide +kernel
theorem dX10_account_111 : decode cX10_account 111 = .ok (.ireturn, 1) := by decide +kernel
theorem dX10_account_112 : decode cX10_account 112 = .ok (.iconst (-1), 1) := by decide +kernel
theorem dX10_account_113 : decode cX10_account 113 = .ok (.ireturn, 1) := by decide +kernel
theorem dX10_inHouse_0 : decode cX10_inHouse 0 = .ok (.iconst 0, 1) := by decide +kernel
theorem dX10_inHouse_1 : decode cX10_inHouse 1 = .ok (.istore_n 1, 1) := by decide +kernel
theorem dX10_inHouse_2 : decode cX10_inHouse 2 = .ok (.iconst 0, 1) := by decide +kernel
theorem dX10_inHouse_3 : decode cX10_inHouse 3 = .ok (.istore_n 2, 1) := by decide +kernel
theorem dX10_inHouse_4 : decode cX10_inHouse 4 = .ok (.iload_n 2, 1) := by decide +kernel
theorem dX10_inHouse_5 : decode cX10_inHouse 5 = .ok (.aload_n 0, 1) := by decide +kernel
theorem dX10_inHouse_6 : decode cX10_inHouse 6 = .ok (.getfield 7, 3) := by decide +kernel
theorem dX10_inHouse_9 : decode cX10_inHouse 9 = .ok (.bipush 8, 2) := by decide +kernel
theorem dX10_inHouse_11 : decode cX10_inHouse 11 = .ok (.iaload, 1) := by decide +kernel
theorem dX10_inHouse_12 : decode cX10_inHouse 12 = .ok (.if_icmp .ge 25, 3) := by decide +kernel
theorem dX10_inHouse_15 : decode cX10_inHouse 15 = .ok (.iload_n 1, 1) := by decide +kernel
theorem dX10_inHouse_16 : decode cX10_inHouse 16 = .ok (.aload_n 0, 1) := by decide +kernel
theorem dX10_inHouse_17 : decode cX10_inHouse 17 = .ok (.iload_n 2, 1) := by decide +kernel
theorem dX10_inHouse_18 : decode cX10_inHouse 18 = .ok (.invokevirtual 97, 3) := by decide +kernel
theorem dX10_inHouse_21 : decode cX10_inHouse 21 = .ok (.ifCond .eq 7, 3) := by decide +kernel
theorem dX10_inHouse_24 : decode cX10_inHouse 24 = .ok (.iconst 0, 1) := by decide +kernel
theorem dX10_inHouse_25 : decode cX10_inHouse 25 = .ok (.goto 4, 3) := by decide +kernel
theorem dX10_inHouse_28 : decode cX10_inHouse 28 = .ok (.iconst 1, 1) := by decide +kernel
theorem dX10_inHouse_29 : decode cX10_inHouse 29 = .ok (.iadd, 1) := by decide +kernel
theorem dX10_inHouse_30 : decode cX10_inHouse 30 = .ok (.istore_n 1, 1) := by decide +kernel
theorem dX10_inHouse_31 : decode cX10_inHouse 31 = .ok (.iinc 2 1, 3) := by decide +kernel
theorem dX10_inHouse_34 : decode cX10_inHouse 34 = .ok (.goto (-30), 3) := by decide +kernel
theorem dX10_inHouse_37 : decode cX10_inHouse 37 = .ok (.iload_n 1, 1) := by decide +kernel
theorem dX10_inHouse_38 : decode cX10_inHouse 38 = .ok (.ireturn, 1) := by decide +kernel
theorem dX10_count_0 : decode cX10_count 0 = .ok (.iload_n 1, 1) := by decide +kernel
theorem dX10_count_1 : decode cX10_count 1 = .ok (.bipush 20, 2) := by decide +kernel
theorem dX10_count_3 : decode cX10_count 3 = .ok (.bipush 26, 2) := by decide +kernel
theorem dX10_count_5 : decode cX10_count 5 = .ok (.invokestatic 31, 3) := by decide +kernel
theorem dX10_count_8 : decode cX10_count 8 = .ok (.ifCond .eq 13, 3) := by decide +kernel
theorem dX10_count_11 : decode cX10_count 11 = .ok (.aload_n 0, 1) := by decide +kernel
theorem dX10_count_12 : decode cX10_count 12 = .ok (.getfield 7, 3) := by decide +kernel
theorem dX10_count_15 : decode cX10_count 15 = .ok (.iload_n 1, 1) := by decide +kernel
theorem dX10_count_16 : decode cX10_count 16 = .ok (.bipush 20, 2) := by decide +kernel
theorem dX10_count_18 : decode cX10_count 18 = .ok (.isub, 1) := by decide +kernel
theorem dX10_count_19 : decode cX10_count 19 = .ok (.iaload, 1) := by decide +kernel
theorem dX10_count_20 : decode cX10_count 20 = .ok (.ireturn, 1) := by decide +kernel
theorem dX10_count_21 : decode cX10_count 21 = .ok (.iload_n 1, 1) := by decide +kernel
theorem dX10_count_22 : decode cX10_count 22 = .ok (.tableswitch 163 0 11 #[62, 70, 78, 83, 95, 103, 119, 132, 140, 145, 153, 158], 62) := by decide +kernel
theorem dX10_count_84 : decode cX10_count 84 = .ok (.aload_n 0, 1) := by decide +kernel
theorem dX10_count_85 : decode cX10_count 85 = .ok (.getfield 7, 3) := by decide +kernel
theorem dX10_count_88 : decode cX10_count 88 = .ok (.bipush 7, 2) := by decide +kernel
theorem dX10_count_90 : decode cX10_count 90 = .ok (.iaload, 1) := by decide +kernel
theorem dX10_count_91 : decode cX10_count 91 = .ok (.ireturn, 1) := by decide +kernel
theorem dX10_count_92 : decode cX10_count 92 = .ok (.aload_n 0, 1) := by decide +kernel
theorem dX10_count_93 : decode cX10_count 93 = .ok (.getfield 7, 3) := by decide +kernel
theorem dX10_count_96 : decode cX10_count 96 = .ok (.bipush 8, 2) := by decide +kernel
theorem dX10_count_98 : decode cX10_count 98 = .ok (.iaload, 1) := by decide +kernel
theorem dX10_count_99 : decode cX10_count 99 = .ok (.ireturn, 1) := by decide +kernel
theorem dX10_count_100 : decode cX10_count 100 = .ok (.aload_n 0, 1) := by decide +kernel
theorem dX10_count_101 : decode cX10_count 101 = .ok (.invokevirtual 176, 3) := by decide +kernel
theorem dX10_count_104 : decode cX10_count 104 = .ok (.ireturn, 1) := by decide +kernel
theorem dX10_count_105 : decode cX10_count 105 = .ok (.aload_n 0, 1) := by decide +kernel
theorem dX10_count_106 : decode cX10_count 106 = .ok (.iconst 0, 1) := by decide +kernel
theorem dX10_count_107 : decode cX10_count 107 = .ok (.invokevirtual 112, 3) := by decide +kernel
theorem dX10_count_110 : decode cX10_count 110 = .ok (.aload_n 0, 1) := by decide +kernel
theorem dX10_count_111 : decode cX10_count 111 = .ok (.iconst 1, 1) := by decide +kernel
theorem dX10_count_112 : decode cX10_count 112 = .ok (.invokevirtual 112, 3) := by decide +kernel
theorem dX10_count_115 : decode cX10_count 115 = .ok (.iadd, 1) := by decide +kernel
theorem dX10_count_116 : decode cX10_count 116 = .ok (.ireturn, 1) := by decide +kernel
theorem dX10_count_117 : decode cX10_count 117 = .ok (.aload_n 0, 1) := by decide +kernel
theorem dX10_count_118 : decode cX10_count 118 = .ok (.bipush 11, 2) := by decide +kernel
theorem dX10_count_120 : decode cX10_count 120 = .ok (.iconst 0, 1) := by decide +kernel
theorem dX10_count_121 : decode cX10_count 121 = .ok (.invokevirtual 172, 3) := by decide +kernel
theorem dX10_count_124 : decode cX10_count 124 = .ok (.ireturn, 1) := by decide +kernel
theorem dX10_count_125 : decode cX10_count 125 = .ok (.aload_n 0, 1) := by decide +kernel
theorem dX10_count_126 : decode cX10_count 126 = .ok (.bipush 12, 2) := by decide +kernel
theorem dX10_count_128 : decode cX10_count 128 = .ok (.iconst 0, 1) := by decide +kernel
theorem dX10_count_129 : decode cX10_count 129 = .ok (.invokevirtual 172, 3) := by decide +kernel
theorem dX10_count_132 : decode cX10_count 132 = .ok (.aload_n 0, 1) := by decide +kernel
theorem dX10_count_133 : decode cX10_count 133 = .ok (.bipush 12, 2) := by decide +kernel
theorem dX10_count_135 : decode cX10_count 135 = .ok (.iconst 1, 1) := by decide +kernel
theorem dX10_count_136 : decode cX10_count 136 = .ok (.invokevirtual 172, 3) := by decide +kernel
theorem dX10_count_139 : decode cX10_count 139 = .ok (.iadd, 1) := by decide +kernel
theorem dX10_count_140 : decode cX10_count 140 = .ok (.ireturn, 1) := by decide +kernel
theorem dX10_count_141 : decode cX10_count 141 = .ok (.aload_n 0, 1) := by decide +kernel
theorem dX10_count_142 : decode cX10_count 142 = .ok (.getfield 7, 3) := by decide +kernel
theorem dX10_count_145 : decode cX10_count 145 = .ok (.bipush 8, 2) := by decide +kernel
theorem dX10_count_147 : decode cX10_count 147 = .ok (.iaload, 1) := by decide +kernel
theorem dX10_count_148 : decode cX10_count 148 = .ok (.aload_n 0, 1) := by decide +kernel
theorem dX10_count_149 : decode cX10_count 149 = .ok (.invokevirtual 176, 3) := by decide +kernel
theorem dX10_count_152 : decode cX10_count 152 = .ok (.isub, 1) := by decide +kernel
theorem dX10_count_153 : decode cX10_count 153 = .ok (.ireturn, 1) := by decide +kernel
theorem dX10_count_154 : decode cX10_count 154 = .ok (.aload_n 0, 1) := by decide +kernel
theorem dX10_count_155 : decode cX10_count 155 = .ok (.getfield 7, 3) := by decide +kernel
theorem dX10_count_158 : decode cX10_count 158 = .ok (.bipush 9, 2) := by decide +kernel
theorem dX10_count_160 : decode cX10_count 160 = .ok (.iaload, 1) := by decide +kernel
theorem dX10_count_161 : decode cX10_count 161 = .ok (.ireturn, 1) := by decide +kernel
theorem dX10_count_162 : decode cX10_count 162 = .ok (.aload_n 0, 1) := by decide +kernel
theorem dX10_count_163 : decode cX10_count 163 = .ok (.invokevirtual 140, 3) := by decide +kernel
theorem dX10_count_166 : decode cX10_count 166 = .ok (.ireturn, 1) := by decide +kernel
theorem dX10_count_167 : decode cX10_count 167 = .ok (.aload_n 0, 1) := by decide +kernel
theorem dX10_count_168 : decode cX10_count 168 = .ok (.getfield 7, 3) := by decide +kernel
theorem dX10_count_171 : decode cX10_count 171 = .ok (.bipush 10, 2) := by decide +kernel
theorem dX10_count_173 : decode cX10_count 173 = .ok (.iaload, 1) := by decide +kernel
theorem dX10_count_174 : decode cX10_count 174 = .ok (.ireturn, 1) := by decide +kernel
theorem dX10_count_175 : decode cX10_count 175 = .ok (.aload_n 0, 1) := by decide +kernel
theorem dX10_count_176 : decode cX10_count 176 = .ok (.getfield 39, 3) := by decide +kernel
theorem dX10_count_179 : decode cX10_count 179 = .ok (.ireturn, 1) := by decide +kernel
theorem dX10_count_180 : decode cX10_count 180 = .ok (.aload_n 0, 1) := by decide +kernel
theorem dX10_count_181 : decode cX10_count 181 = .ok (.getfield 179, 3) := by decide +kernel
theorem dX10_count_184 : decode cX10_count 184 = .ok (.ireturn, 1) := by decide +kernel
theorem dX10_count_185 : decode cX10_count 185 = .ok (.iconst (-1), 1) := by decide +kernel
theorem dX10_count_186 : decode cX10_count 186 = .ok (.ireturn, 1) := by decide +kernel
theorem dX10_isSetting_0 : decode cX10_isSetting 0 = .ok (.iload_n 0, 1) := by decide +kernel
theorem dX10_isSetting_1 : decode cX10_isSetting 1 = .ok (.tableswitch 84 0 5 #[39, 47, 55, 65, 75, 47], 39) := by decide +kernel
theorem dX10_isSetting_40 : decode cX10_isSetting 40 = .ok (.iload_n 1, 1) := by decide +kernel
theorem dX10_isSetting_41 : decode cX10_isSetting 41 = .ok (.iconst 1, 1) := by decide +kernel
theorem dX10_isSetting_42 : decode cX10_isSetting 42 = .ok (.bipush 100, 2) := by decide +kernel
theorem dX10_isSetting_44 : decode cX10_isSetting 44 = .ok (.invokestatic 31, 3) := by decide +kernel
theorem dX10_isSetting_47 : decode cX10_isSetting 47 = .ok (.ireturn, 1) := by decide +kernel
theorem dX10_isSetting_48 : decode cX10_isSetting 48 = .ok (.iload_n 1, 1) := by decide +kernel
theorem dX10_isSetting_49 : decode cX10_isSetting 49 = .ok (.iconst 0, 1) := by decide +kernel
theorem dX10_isSetting_50 : decode cX10_isSetting 50 = .ok (.bipush 50, 2) := by decide +kernel
theorem dX10_isSetting_52 : decode cX10_isSetting 52 = .ok (.invokestatic 31, 3) := by decide +kernel
theorem dX10_isSetting_55 : decode cX10_isSetting 55 = .ok (.ireturn, 1) := by decide +kernel
theorem dX10_isSetting_56 : decode cX10_isSetting 56 = .ok (.iload_n 1, 1) := by decide +kernel
theorem dX10_isSetting_57 : decode cX10_isSetting 57 = .ok (.bipush 10, 2) := by decide +kernel
theorem dX10_isSetting_59 : decode cX10_isSetting 59 = .ok (.sipush 1000, 3) := by decide +kernel
theorem dX10_isSetting_62 : decode cX10_isSetting 62 = .ok (.invokestatic 31, 3) := by decide +kernel
theorem dX10_isSetting_65 : decode cX10_isSetting 65 = .ok (.ireturn, 1) := by decide +kernel
theorem dX10_isSetting_66 : decode cX10_isSetting 66 = .ok (.iload_n 1, 1) := by decide +kernel
theorem dX10_isSetting_67 : decode cX10_isSetting 67 = .ok (.bipush 100, 2) := by decide +kernel
theorem dX10_isSetting_69 : decode cX10_isSetting 69 = .ok (.sipush 20000, 3) := by decide +kernel
theorem dX10_isSetting_72 : decode cX10_isSetting 72 = .ok (.invokestatic 31, 3) := by decide +kernel
theorem dX10_isSetting_75 : decode cX10_isSetting 75 = .ok (.ireturn, 1) := by decide +kernel
theorem dX10_isSetting_76 : decode cX10_isSetting 76 = .ok (.iload_n 1, 1) := by decide +kernel
theorem dX10_isSetting_77 : decode cX10_isSetting 77 = .ok (.iconst 0, 1) := by decide +kernel
theorem dX10_isSetting_78 : decode cX10_isSetting 78 = .ok (.sipush 2000, 3) := by decide +kernel
theorem dX10_isSetting_81 : decode cX10_isSetting 81 = .ok (.invokestatic 31, 3) := by decide +kernel
theorem dX10_isSetting_84 : decode cX10_isSetting 84 = .ok (.ireturn, 1) := by decide +kernel
theorem dX10_isSetting_85 : decode cX10_isSetting 85 = .ok (.iload_n 0, 1) := by decide +kernel
theorem dX10_isSetting_86 : decode cX10_isSetting 86 = .ok (.bipush 6, 2) := by decide +kernel
theorem dX10_isSetting_88 : decode cX10_isSetting 88 = .ok (.if_icmp .ne 18, 3) := by decide +kernel
theorem dX10_isSetting_91 : decode cX10_isSetting 91 = .ok (.iload_n 1, 1) := by decide +kernel
theorem dX10_isSetting_92 : decode cX10_isSetting 92 = .ok (.iconst 0, 1) := by decide +kernel
theorem dX10_isSetting_93 : decode cX10_isSetting 93 = .ok (.sipush 20000, 3) := by decide +kernel
theorem dX10_isSetting_96 : decode cX10_isSetting 96 = .ok (.invokestatic 31, 3) := by decide +kernel
theorem dX10_isSetting_99 : decode cX10_isSetting 99 = .ok (.ifCond .eq 7, 3) := by decide +kernel
theorem dX10_isSetting_102 : decode cX10_isSetting 102 = .ok (.iconst 1, 1) := by decide +kernel
theorem dX10_isSetting_103 : decode cX10_isSetting 103 = .ok (.goto 4, 3) := by decide +kernel
theorem dX10_isSetting_106 : decode cX10_isSetting 106 = .ok (.iconst 0, 1) := by decide +kernel
theorem dX10_isSetting_107 : decode cX10_isSetting 107 = .ok (.ireturn, 1) := by decide +kernel
theorem dX10_set_0 : decode cX10_set 0 = .ok (.iload_n 1, 1) := by decide +kernel
theorem dX10_set_1 : decode cX10_set 1 = .ok (.iload_n 2, 1) := by decide +kernel
theorem dX10_set_2 : decode cX10_set 2 = .ok (.invokestatic 182, 3) := by decide +kernel
theorem dX10_set_5 : decode cX10_set 5 = .ok (.ifCond .ne 5, 3) := by decide +kernel
theorem dX10_set_8 : decode cX10_set 8 = .ok (.iconst (-1), 1) := by decide +kernel
theorem dX10_set_9 : decode cX10_set 9 = .ok (.ireturn, 1) := by decide +kernel
theorem dX10_set_10 : decode cX10_set 10 = .ok (.aload_n 0, 1) := by decide +kernel
theorem dX10_set_11 : decode cX10_set 11 = .ok (.invokevirtual 43, 3) := by decide +kernel
theorem dX10_set_14 : decode cX10_set 14 = .ok (.aload_n 0, 1) := by decide +kernel
theorem dX10_set_15 : decode cX10_set 15 = .ok (.getfield 7, 3) := by decide +kernel
theorem dX10_set_18 : decode cX10_set 18 = .ok (.iload_n 1, 1) := by decide +kernel
theorem dX10_set_19 : decode cX10_set 19 = .ok (.iaload, 1) := by decide +kernel
theorem dX10_set_20 : decode cX10_set 20 = .ok (.istore_n 3, 1) := by decide +kernel
theorem dX10_set_21 : decode cX10_set 21 = .ok (.aload_n 0, 1) := by decide +kernel
theorem dX10_set_22 : decode cX10_set 22 = .ok (.getfield 7, 3) := by decide +kernel
theorem dX10_set_25 : decode cX10_set 25 = .ok (.iload_n 1, 1) := by decide +kernel
theorem dX10_set_26 : decode cX10_set 26 = .ok (.iload_n 2, 1) := by decide +kernel
theorem dX10_set_27 : decode cX10_set 27 = .ok (.iastore, 1) := by decide +kernel
theorem dX10_set_28 : decode cX10_set 28 = .ok (.iload_n 3, 1) := by decide +kernel
theorem dX10_set_29 : decode cX10_set 29 = .ok (.ireturn, 1) := by decide +kernel
theorem dX10_type_0 : decode cX10_type 0 = .ok (.iload_n 1, 1) := by decide +kernel
theorem dX10_type_1 : decode cX10_type 1 = .ok (.bipush 32, 2) := by decide +kernel
theorem dX10_type_3 : decode cX10_type 3 = .ok (.bipush 126, 2) := by decide +kernel
theorem dX10_type_5 : decode cX10_type 5 = .ok (.invokestatic 31, 3) := by decide +kernel
theorem dX10_type_8 : decode cX10_type 8 = .ok (.ifCond .ne 5, 3) := by decide +kernel
theorem dX10_type_11 : decode cX10_type 11 = .ok (.iconst (-1), 1) := by decide +kernel
theorem dX10_type_12 : decode cX10_type 12 = .ok (.ireturn, 1) := by decide +kernel
theorem dX10_type_13 : decode cX10_type 13 = .ok (.aload_n 0, 1) := by decide +kernel
theorem dX10_type_14 : decode cX10_type 14 = .ok (.getfield 179, 3) := by decide +kernel
theorem dX10_type_17 : decode cX10_type 17 = .ok (.bipush 60, 2) := by decide +kernel
theorem dX10_type_19 : decode cX10_type 19 = .ok (.if_icmp .ne 6, 3) := by decide +kernel
theorem dX10_type_22 : decode cX10_type 22 = .ok (.bipush (-3), 2) := by decide +kernel
theorem dX10_type_24 : decode cX10_type 24 = .ok (.ireturn, 1) := by decide +kernel
theorem dX10_type_25 : decode cX10_type 25 = .ok (.aload_n 0, 1) := by decide +kernel
theorem dX10_type_26 : decode cX10_type 26 = .ok (.getfield 19, 3) := by decide +kernel
theorem dX10_type_29 : decode cX10_type 29 = .ok (.aload_n 0, 1) := by decide +kernel
theorem dX10_type_30 : decode cX10_type 30 = .ok (.getfield 179, 3) := by decide +kernel
theorem dX10_type_33 : decode cX10_type 33 = .ok (.iload_n 1, 1) := by decide +kernel
theorem dX10_type_34 : decode cX10_type 34 = .ok (.iastore, 1) := by decide +kernel
theorem dX10_type_35 : decode cX10_type 35 = .ok (.aload_n 0, 1) := by decide +kernel
theorem dX10_type_36 : decode cX10_type 36 = .ok (.dup, 1) := by decide +kernel
theorem dX10_type_37 : decode cX10_type 37 = .ok (.getfield 179, 3) := by decide +kernel
theorem dX10_type_40 : decode cX10_type 40 = .ok (.iconst 1, 1) := by decide +kernel
theorem dX10_type_41 : decode cX10_type 41 = .ok (.iadd, 1) := by decide +kernel
theorem dX10_type_42 : decode cX10_type 42 = .ok (.putfield 179, 3) := by decide +kernel
theorem dX10_type_45 : decode cX10_type 45 = .ok (.aload_n 0, 1) := by decide +kernel
theorem dX10_type_46 : decode cX10_type 46 = .ok (.getfield 179, 3) := by decide +kernel
theorem dX10_type_49 : decode cX10_type 49 = .ok (.ireturn, 1) := by decide +kernel
theorem dX10_clearText_0 : decode cX10_clearText 0 = .ok (.aload_n 0, 1) := by decide +kernel
theorem dX10_clearText_1 : decode cX10_clearText 1 = .ok (.getfield 179, 3) := by decide +kernel
theorem dX10_clearText_4 : decode cX10_clearText 4 = .ok (.istore_n 1, 1) := by decide +kernel
theorem dX10_clearText_5 : decode cX10_clearText 5 = .ok (.aload_n 0, 1) := by decide +kernel
theorem dX10_clearText_6 : decode cX10_clearText 6 = .ok (.iconst 0, 1) := by decide +kernel
theorem dX10_clearText_7 : decode cX10_clearText 7 = .ok (.putfield 179, 3) := by decide +kernel
theorem dX10_clearText_10 : decode cX10_clearText 10 = .ok (.iload_n 1, 1) := by decide +kernel
theorem dX10_clearText_11 : decode cX10_clearText 11 = .ok (.ireturn, 1) := by decide +kernel
theorem dX10_here_0 : decode cX10_here 0 = .ok (.aload_n 0, 1) := by decide +kernel
theorem dX10_here_1 : decode cX10_here 1 = .ok (.getfield 185, 3) := by decide +kernel
theorem dX10_here_4 : decode cX10_here 4 = .ok (.aload_n 0, 1) := by decide +kernel
theorem dX10_here_5 : decode cX10_here 5 = .ok (.getfield 179, 3) := by decide +kernel
theorem dX10_here_8 : decode cX10_here 8 = .ok (.if_icmp .ge 15, 3) := by decide +kernel
theorem dX10_here_11 : decode cX10_here 11 = .ok (.aload_n 0, 1) := by decide +kernel
theorem dX10_here_12 : decode cX10_here 12 = .ok (.getfield 19, 3) := by decide +kernel
theorem dX10_here_15 : decode cX10_here 15 = .ok (.aload_n 0, 1) := by decide +kernel
theorem dX10_here_16 : decode cX10_here 16 = .ok (.getfield 185, 3) := by decide +kernel
theorem dX10_here_19 : decode cX10_here 19 = .ok (.iaload, 1) := by decide +kernel
theorem dX10_here_20 : decode cX10_here 20 = .ok (.goto 4, 3) := by decide +kernel
theorem dX10_here_23 : decode cX10_here 23 = .ok (.iconst 0, 1) := by decide +kernel
theorem dX10_here_24 : decode cX10_here 24 = .ok (.ireturn, 1) := by decide +kernel
theorem dX10_sign_0 : decode cX10_sign 0 = .ok (.aload_n 0, 1) := by decide +kernel
theorem dX10_sign_1 : decode cX10_sign 1 = .ok (.aload_n 0, 1) := by decide +kernel
theorem dX10_sign_2 : decode cX10_sign 2 = .ok (.getfield 188, 3) := by decide +kernel
theorem dX10_sign_5 : decode cX10_sign 5 = .ok (.ifCond .eq 15, 3) := by decide +kernel
theorem dX10_sign_8 : decode cX10_sign 8 = .ok (.aload_n 0, 1) := by decide +kernel
theorem dX10_sign_9 : decode cX10_sign 9 = .ok (.invokevirtual 192, 3) := by decide +kernel
theorem dX10_sign_12 : decode cX10_sign 12 = .ok (.iload_n 1, 1) := by decide +kernel
theorem dX10_sign_13 : decode cX10_sign 13 = .ok (.if_icmp .ne 7, 3) := by decide +kernel
theorem dX10_sign_16 : decode cX10_sign 16 = .ok (.iconst 1, 1) := by decide +kernel
theorem dX10_sign_17 : decode cX10_sign 17 = .ok (.goto 4, 3) := by decide +kernel
theorem dX10_sign_20 : decode cX10_sign 20 = .ok (.iconst 0, 1) := by decide +kernel
theorem dX10_sign_21 : decode cX10_sign 21 = .ok (.putfield 188, 3) := by decide +kernel
theorem dX10_sign_24 : decode cX10_sign 24 = .ok (.aload_n 0, 1) := by decide +kernel
theorem dX10_sign_25 : decode cX10_sign 25 = .ok (.dup, 1) := by decide +kernel
theorem dX10_sign_26 : decode cX10_sign 26 = .ok (.getfield 185, 3) := by decide +kernel
theorem dX10_sign_29 : decode cX10_sign 29 = .ok (.aload_n 0, 1) := by decide +kernel
theorem dX10_sign_30 : decode cX10_sign 30 = .ok (.getfield 188, 3) := by decide +kernel
theorem dX10_sign_33 : decode cX10_sign 33 = .ok (.ifCond .eq 7, 3) := by decide +kernel
theorem dX10_sign_36 : decode cX10_sign 36 = .ok (.iconst 1, 1) := by decide +kernel
theorem dX10_sign_37 : decode cX10_sign 37 = .ok (.goto 4, 3) := by decide +kernel
theorem dX10_sign_40 : decode cX10_sign 40 = .ok (.iconst 0, 1) := by decide +kernel
theorem dX10_sign_41 : decode cX10_sign 41 = .ok (.iadd, 1) := by decide +kernel
theorem dX10_sign_42 : decode cX10_sign 42 = .ok (.putfield 185, 3) := by decide +kernel
theorem dX10_sign_45 : decode cX10_sign 45 = .ok (.return_, 1) := by decide +kernel
theorem dX10_number_0 : decode cX10_number 0 = .ok (.iconst 0, 1) := by decide +kernel
theorem dX10_number_1 : decode cX10_number 1 = .ok (.istore_n 1, 1) := by decide +kernel
theorem dX10_number_2 : decode cX10_number 2 = .ok (.aload_n 0, 1) := by decide +kernel
theorem dX10_number_3 : decode cX10_number 3 = .ok (.getfield 185, 3) := by decide +kernel
theorem dX10_number_6 : decode cX10_number 6 = .ok (.istore_n 2, 1) := by decide +kernel
theorem dX10_number_7 : decode cX10_number 7 = .ok (.aload_n 0, 1) := by decide +kernel
theorem dX10_number_8 : decode cX10_number 8 = .ok (.getfield 188, 3) := by decide +kernel
theorem dX10_number_11 : decode cX10_number 11 = .ok (.ifCond .eq 53, 3) := by decide +kernel
theorem dX10_number_14 : decode cX10_number 14 = .ok (.aload_n 0, 1) := by decide +kernel
theorem dX10_number_15 : decode cX10_number 15 = .ok (.getfield 185, 3) := by decide +kernel
theorem dX10_number_18 : decode cX10_number 18 = .ok (.iload_n 2, 1) := by decide +kernel
theorem dX10_number_19 : decode cX10_number 19 = .ok (.isub, 1) := by decide +kernel
theorem dX10_number_20 : decode cX10_number 20 = .ok (.iconst 2, 1) := by decide +kernel
theorem dX10_number_21 : decode cX10_number 21 = .ok (.if_icmp .ge 43, 3) := by decide +kernel
theorem dX10_number_24 : decode cX10_number 24 = .ok (.aload_n 0, 1) := by decide +kernel
theorem dX10_number_25 : decode cX10_number 25 = .ok (.invokevirtual 192, 3) := by decide +kernel
theorem dX10_number_28 : decode cX10_number 28 = .ok (.bipush 48, 2) := by decide +kernel
theorem dX10_number_30 : decode cX10_number 30 = .ok (.bipush 57, 2) := by decide +kernel
theorem dX10_number_32 : decode cX10_number 32 = .ok (.invokestatic 31, 3) := by decide +kernel
theorem dX10_number_35 : decode cX10_number 35 = .ok (.ifCond .eq 29, 3) := by decide +kernel
theorem dX10_number_38 : decode cX10_number 38 = .ok (.bipush 10, 2) := by decide +kernel
theorem dX10_number_40 : decode cX10_number 40 = .ok (.iload_n 1, 1) := by decide +kernel
theorem dX10_number_41 : decode cX10_number 41 = .ok (.imul, 1) := by decide +kernel
theorem dX10_number_42 : decode cX10_number 42 = .ok (.aload_n 0, 1) := by decide +kernel
theorem dX10_number_43 : decode cX10_number 43 = .ok (.invokevirtual 192, 3) := by decide +kernel
theorem dX10_number_46 : decode cX10_number 46 = .ok (.iadd, 1) := by decide +kernel
theorem dX10_number_47 : decode cX10_number 47 = .ok (.bipush 48, 2) := by decide +kernel
theorem dX10_number_49 : decode cX10_number 49 = .ok (.isub, 1) := by decide +kernel
theorem dX10_number_50 : decode cX10_number 50 = .ok (.istore_n 1, 1) := by decide +kernel
theorem dX10_number_51 : decode cX10_number 51 = .ok (.aload_n 0, 1) := by decide +kernel
theorem dX10_number_52 : decode cX10_number 52 = .ok (.dup, 1) := by decide +kernel
theorem dX10_number_53 : decode cX10_number 53 = .ok (.getfield 185, 3) := by decide +kernel
theorem dX10_number_56 : decode cX10_number 56 = .ok (.iconst 1, 1) := by decide +kernel
theorem dX10_number_57 : decode cX10_number 57 = .ok (.iadd, 1) := by decide +kernel
theorem dX10_number_58 : decode cX10_number 58 = .ok (.putfield 185, 3) := by decide +kernel
theorem dX10_number_61 : decode cX10_number 61 = .ok (.goto (-54), 3) := by decide +kernel
theorem dX10_number_64 : decode cX10_number 64 = .ok (.aload_n 0, 1) := by decide +kernel
theorem dX10_number_65 : decode cX10_number 65 = .ok (.aload_n 0, 1) := by decide +kernel
theorem dX10_number_66 : decode cX10_number 66 = .ok (.getfield 188, 3) := by decide +kernel
theorem dX10_number_69 : decode cX10_number 69 = .ok (.ifCond .eq 15, 3) := by decide +kernel
theorem dX10_number_72 : decode cX10_number 72 = .ok (.aload_n 0, 1) := by decide +kernel
theorem dX10_number_73 : decode cX10_number 73 = .ok (.getfield 185, 3) := by decide +kernel
theorem dX10_number_76 : decode cX10_number 76 = .ok (.iload_n 2, 1) := by decide +kernel
theorem dX10_number_77 : decode cX10_number 77 = .ok (.if_icmp .le 7, 3) := by decide +kernel
theorem dX10_number_80 : decode cX10_number 80 = .ok (.iconst 1, 1) := by decide +kernel
theorem dX10_number_81 : decode cX10_number 81 = .ok (.goto 4, 3) := by decide +kernel
theorem dX10_number_84 : decode cX10_number 84 = .ok (.iconst 0, 1) := by decide +kernel
theorem dX10_number_85 : decode cX10_number 85 = .ok (.putfield 188, 3) := by decide +kernel
theorem dX10_number_88 : decode cX10_number 88 = .ok (.iload_n 1, 1) := by decide +kernel
theorem dX10_number_89 : decode cX10_number 89 = .ok (.ireturn, 1) := by decide +kernel
theorem dX10_numbers_0 : decode cX10_numbers 0 = .ok (.iload_n 0, 1) := by decide +kernel
theorem dX10_numbers_1 : decode cX10_numbers 1 = .ok (.tableswitch 87 100 116 #[83, 85, 87, 87, 83, 87, 87, 87, 87, 87, 87, 87, 87, 87, 85, 83, 85], 83) := by decide +kernel
theorem dX10_numbers_84 : decode cX10_numbers 84 = .ok (.iconst 2, 1) := by decide +kernel
theorem dX10_numbers_85 : decode cX10_numbers 85 = .ok (.ireturn, 1) := by decide +kernel
theorem dX10_numbers_86 : decode cX10_numbers 86 = .ok (.iconst 1, 1) := by decide +kernel
theorem dX10_numbers_87 : decode cX10_numbers 87 = .ok (.ireturn, 1) := by decide +kernel
theorem dX10_numbers_88 : decode cX10_numbers 88 = .ok (.iconst 0, 1) := by decide +kernel
theorem dX10_numbers_89 : decode cX10_numbers 89 = .ok (.ireturn, 1) := by decide +kernel
theorem dX10_reads_0 : decode cX10_reads 0 = .ok (.aload_n 0, 1) := by decide +kernel
theorem dX10_reads_1 : decode cX10_reads 1 = .ok (.aload_n 0, 1) := by decide +kernel
theorem dX10_reads_2 : decode cX10_reads 2 = .ok (.invokevirtual 192, 3) := by decide +kernel
theorem dX10_reads_5 : decode cX10_reads 5 = .ok (.putfield 195, 3) := by decide +kernel
theorem dX10_reads_8 : decode cX10_reads 8 = .ok (.aload_n 0, 1) := by decide +kernel
theorem dX10_reads_9 : decode cX10_reads 9 = .ok (.getfield 195, 3) := by decide +kernel
theorem dX10_reads_12 : decode cX10_reads 12 = .ok (.invokestatic 198, 3) := by decide +kernel
theorem dX10_reads_15 : decode cX10_reads 15 = .ok (.istore_n 1, 1) := by decide +kernel
theorem dX10_reads_16 : decode cX10_reads 16 = .ok (.aload_n 0, 1) := by decide +kernel
theorem dX10_reads_17 : decode cX10_reads 17 = .ok (.iload_n 1, 1) := by decide +kernel
theorem dX10_reads_18 : decode cX10_reads 18 = .ok (.ifCond .le 7, 3) := by decide +kernel
theorem dX10_reads_21 : decode cX10_reads 21 = .ok (.iconst 1, 1) := by decide +kernel
theorem dX10_reads_22 : decode cX10_reads 22 = .ok (.goto 4, 3) := by decide +kernel
theorem dX10_reads_25 : decode cX10_reads 25 = .ok (.iconst 0, 1) := by decide +kernel
theorem dX10_reads_26 : decode cX10_reads 26 = .ok (.putfield 188, 3) := by decide +kernel
theorem dX10_reads_29 : decode cX10_reads 29 = .ok (.aload_n 0, 1) := by decide +kernel
theorem dX10_reads_30 : decode cX10_reads 30 = .ok (.dup, 1) := by decide +kernel
theorem dX10_reads_31 : decode cX10_reads 31 = .ok (.getfield 185, 3) := by decide +kernel
theorem dX10_reads_34 : decode cX10_reads 34 = .ok (.iconst 1, 1) := by decide +kernel
theorem dX10_reads_35 : decode cX10_reads 35 = .ok (.iadd, 1) := by decide +kernel
theorem dX10_reads_36 : decode cX10_reads 36 = .ok (.putfield 185, 3) := by decide +kernel
theorem dX10_reads_39 : decode cX10_reads 39 = .ok (.aload_n 0, 1) := by decide +kernel
theorem dX10_reads_40 : decode cX10_reads 40 = .ok (.getfield 25, 3) := by decide +kernel
theorem dX10_reads_43 : decode cX10_reads 43 = .ok (.iconst 0, 1) := by decide +kernel
theorem dX10_reads_44 : decode cX10_reads 44 = .ok (.aload_n 0, 1) := by decide +kernel
theorem dX10_reads_45 : decode cX10_reads 45 = .ok (.invokevirtual 201, 3) := by decide +kernel
theorem dX10_reads_48 : decode cX10_reads 48 = .ok (.iastore, 1) := by decide +kernel
theorem dX10_reads_49 : decode cX10_reads 49 = .ok (.iload_n 1, 1) := by decide +kernel
theorem dX10_reads_50 : decode cX10_reads 50 = .ok (.iconst 2, 1) := by decide +kernel
theorem dX10_reads_51 : decode cX10_reads 51 = .ok (.if_icmp .ne 19, 3) := by decide +kernel
theorem dX10_reads_54 : decode cX10_reads 54 = .ok (.aload_n 0, 1) := by decide +kernel
theorem dX10_reads_55 : decode cX10_reads 55 = .ok (.bipush 44, 2) := by decide +kernel
theorem dX10_reads_57 : decode cX10_reads 57 = .ok (.invokevirtual 204, 3) := by decide +kernel
theorem dX10_reads_60 : decode cX10_reads 60 = .ok (.aload_n 0, 1) := by decide +kernel
theorem dX10_reads_61 : decode cX10_reads 61 = .ok (.getfield 25, 3) := by decide +kernel
theorem dX10_reads_64 : decode cX10_reads 64 = .ok (.iconst 1, 1) := by decide +kernel
theorem dX10_reads_65 : decode cX10_reads 65 = .ok (.aload_n 0, 1) := by decide +kernel
theorem dX10_reads_66 : decode cX10_reads 66 = .ok (.invokevirtual 201, 3) := by decide +kernel
theorem dX10_reads_69 : decode cX10_reads 69 = .ok (.iastore, 1) := by decide +kernel
theorem dX10_reads_70 : decode cX10_reads 70 = .ok (.aload_n 0, 1) := by decide +kernel
theorem dX10_reads_71 : decode cX10_reads 71 = .ok (.bipush 59, 2) := by decide +kernel
theorem dX10_reads_73 : decode cX10_reads 73 = .ok (.invokevirtual 204, 3) := by decide +kernel
theorem dX10_reads_76 : decode cX10_reads 76 = .ok (.return_, 1) := by decide +kernel
theorem dX10_does_0 : decode cX10_does 0 = .ok (.aload_n 0, 1) := by decide +kernel
theorem dX10_does_1 : decode cX10_does 1 = .ok (.getfield 195, 3) := by decide +kernel
theorem dX10_does_4 : decode cX10_does 4 = .ok (.lookupswitch 125 #[(100, 52), (104, 69), (114, 103), (115, 86), (116, 114)], 52) := by decide +kernel
theorem dX10_does_56 : decode cX10_does 56 = .ok (.aload_n 0, 1) := by decide +kernel
theorem dX10_does_57 : decode cX10_does 57 = .ok (.aload_n 0, 1) := by decide +kernel
theorem dX10_does_58 : decode cX10_does 58 = .ok (.getfield 25, 3) := by decide +kernel
theorem dX10_does_61 : decode cX10_does 61 = .ok (.iconst 0, 1) := by decide +kernel
theorem dX10_does_62 : decode cX10_does 62 = .ok (.iaload, 1) := by decide +kernel
theorem dX10_does_63 : decode cX10_does 63 = .ok (.aload_n 0, 1) := by decide +kernel
theorem dX10_does_64 : decode cX10_does 64 = .ok (.getfield 25, 3) := by decide +kernel
theorem dX10_does_67 : decode cX10_does 67 = .ok (.iconst 1, 1) := by decide +kernel
theorem dX10_does_68 : decode cX10_does 68 = .ok (.iaload, 1) := by decide +kernel
theorem dX10_does_69 : decode cX10_does 69 = .ok (.invokevirtual 106, 3) := by decide +kernel
theorem dX10_does_72 : decode cX10_does 72 = .ok (.ireturn, 1) := by decide +kernel
theorem dX10_does_73 : decode cX10_does 73 = .ok (.aload_n 0, 1) := by decide +kernel
theorem dX10_does_74 : decode cX10_does 74 = .ok (.aload_n 0, 1) := by decide +kernel
theorem dX10_does_75 : decode cX10_does 75 = .ok (.getfield 25, 3) := by decide +kernel
theorem dX10_does_78 : decode cX10_does 78 = .ok (.iconst 0, 1) := by decide +kernel
theorem dX10_does_79 : decode cX10_does 79 = .ok (.iaload, 1) := by decide +kernel
theorem dX10_does_80 : decode cX10_does 80 = .ok (.aload_n 0, 1) := by decide +kernel
theorem dX10_does_81 : decode cX10_does 81 = .ok (.getfield 25, 3) := by decide +kernel
theorem dX10_does_84 : decode cX10_does 84 = .ok (.iconst 1, 1) := by decide +kernel
theorem dX10_does_85 : decode cX10_does 85 = .ok (.iaload, 1) := by decide +kernel
theorem dX10_does_86 : decode cX10_does 86 = .ok (.invokevirtual 115, 3) := by decide +kernel
theorem dX10_does_89 : decode cX10_does 89 = .ok (.ireturn, 1) := by decide +kernel
theorem dX10_does_90 : decode cX10_does 90 = .ok (.aload_n 0, 1) := by decide +kernel
theorem dX10_does_91 : decode cX10_does 91 = .ok (.aload_n 0, 1) := by decide +kernel
theorem dX10_does_92 : decode cX10_does 92 = .ok (.getfield 25, 3) := by decide +kernel
theorem dX10_does_95 : decode cX10_does 95 = .ok (.iconst 0, 1) := by decide +kernel
theorem dX10_does_96 : decode cX10_does 96 = .ok (.iaload, 1) := by decide +kernel
theorem dX10_does_97 : decode cX10_does 97 = .ok (.aload_n 0, 1) := by decide +kernel
theorem dX10_does_98 : decode cX10_does 98 = .ok (.getfield 25, 3) := by decide +kernel
theorem dX10_does_101 : decode cX10_does 101 = .ok (.iconst 1, 1) := by decide +kernel
theorem dX10_does_102 : decode cX10_does 102 = .ok (.iaload, 1) := by decide +kernel
theorem dX10_does_103 : decode cX10_does 103 = .ok (.invokevirtual 153, 3) := by decide +kernel
theorem dX10_does_106 : decode cX10_does 106 = .ok (.ireturn, 1) := by decide +kernel
theorem dX10_does_107 : decode cX10_does 107 = .ok (.aload_n 0, 1) := by decide +kernel
theorem dX10_does_108 : decode cX10_does 108 = .ok (.aload_n 0, 1) := by decide +kernel
theorem dX10_does_109 : decode cX10_does 109 = .ok (.getfield 25, 3) := by decide +kernel
theorem dX10_does_112 : decode cX10_does 112 = .ok (.iconst 0, 1) := by decide +kernel
theorem dX10_does_113 : decode cX10_does 113 = .ok (.iaload, 1) := by decide +kernel
theorem dX10_does_114 : decode cX10_does 114 = .ok (.invokevirtual 109, 3) := by decide +kernel
theorem dX10_does_117 : decode cX10_does 117 = .ok (.ireturn, 1) := by decide +kernel
theorem dX10_does_118 : decode cX10_does 118 = .ok (.aload_n 0, 1) := by decide +kernel
theorem dX10_does_119 : decode cX10_does 119 = .ok (.aload_n 0, 1) := by decide +kernel
theorem dX10_does_120 : decode cX10_does 120 = .ok (.getfield 25, 3) := by decide +kernel
theorem dX10_does_123 : decode cX10_does 123 = .ok (.iconst 0, 1) := by decide +kernel
theorem dX10_does_124 : decode cX10_does 124 = .ok (.iaload, 1) := by decide +kernel
theorem dX10_does_125 : decode cX10_does 125 = .ok (.invokevirtual 118, 3) := by decide +kernel
theorem dX10_does_128 : decode cX10_does 128 = .ok (.ireturn, 1) := by decide +kernel
theorem dX10_does_129 : decode cX10_does 129 = .ok (.aload_n 0, 1) := by decide +kernel
theorem dX10_does_130 : decode cX10_does 130 = .ok (.aload_n 0, 1) := by decide +kernel
theorem dX10_does_131 : decode cX10_does 131 = .ok (.getfield 25, 3) := by decide +kernel
theorem dX10_does_134 : decode cX10_does 134 = .ok (.iconst 0, 1) := by decide +kernel
theorem dX10_does_135 : decode cX10_does 135 = .ok (.iaload, 1) := by decide +kernel
theorem dX10_does_136 : decode cX10_does 136 = .ok (.invokevirtual 64, 3) := by decide +kernel
theorem dX10_does_139 : decode cX10_does 139 = .ok (.ireturn, 1) := by decide +kernel
theorem dX10_plays_0 : decode cX10_plays 0 = .ok (.iconst 0, 1) := by decide +kernel
theorem dX10_plays_1 : decode cX10_plays 1 = .ok (.istore_n 1, 1) := by decide +kernel
theorem dX10_plays_2 : decode cX10_plays 2 = .ok (.aload_n 0, 1) := by decide +kernel
theorem dX10_plays_3 : decode cX10_plays 3 = .ok (.iconst 0, 1) := by decide +kernel
theorem dX10_plays_4 : decode cX10_plays 4 = .ok (.putfield 185, 3) := by decide +kernel
theorem dX10_plays_7 : decode cX10_plays 7 = .ok (.aload_n 0, 1) := by decide +kernel
theorem dX10_plays_8 : decode cX10_plays 8 = .ok (.getfield 185, 3) := by decide +kernel
theorem dX10_plays_11 : decode cX10_plays 11 = .ok (.aload_n 0, 1) := by decide +kernel
theorem dX10_plays_12 : decode cX10_plays 12 = .ok (.getfield 179, 3) := by decide +kernel
theorem dX10_plays_15 : decode cX10_plays 15 = .ok (.if_icmp .ge 92, 3) := by decide +kernel
theorem dX10_plays_18 : decode cX10_plays 18 = .ok (.aload_n 0, 1) := by decide +kernel
theorem dX10_plays_19 : decode cX10_plays 19 = .ok (.getfield 185, 3) := by decide +kernel
theorem dX10_plays_22 : decode cX10_plays 22 = .ok (.istore_n 2, 1) := by decide +kernel
theorem dX10_plays_23 : decode cX10_plays 23 = .ok (.aload_n 0, 1) := by decide +kernel
theorem dX10_plays_24 : decode cX10_plays 24 = .ok (.invokevirtual 208, 3) := by decide +kernel
theorem dX10_plays_27 : decode cX10_plays 27 = .ok (.aload_n 0, 1) := by decide +kernel
theorem dX10_plays_28 : decode cX10_plays 28 = .ok (.getfield 188, 3) := by decide +kernel
theorem dX10_plays_31 : decode cX10_plays 31 = .ok (.ifCond .eq 10, 3) := by decide +kernel
theorem dX10_plays_34 : decode cX10_plays 34 = .ok (.aload_n 0, 1) := by decide +kernel
theorem dX10_plays_35 : decode cX10_plays 35 = .ok (.invokevirtual 211, 3) := by decide +kernel
theorem dX10_plays_38 : decode cX10_plays 38 = .ok (.goto 4, 3) := by decide +kernel
theorem dX10_plays_41 : decode cX10_plays 41 = .ok (.iconst 0, 1) := by decide +kernel
theorem dX10_plays_42 : decode cX10_plays 42 = .ok (.istore_n 3, 1) := by decide +kernel
theorem dX10_plays_43 : decode cX10_plays 43 = .ok (.aload_n 0, 1) := by decide +kernel
theorem dX10_plays_44 : decode cX10_plays 44 = .ok (.getfield 188, 3) := by decide +kernel
theorem dX10_plays_47 : decode cX10_plays 47 = .ok (.ifCond .eq 7, 3) := by decide +kernel
theorem dX10_plays_50 : decode cX10_plays 50 = .ok (.iload_n 3, 1) := by decide +kernel
theorem dX10_plays_51 : decode cX10_plays 51 = .ok (.ifCond .ge 50, 3) := by decide +kernel
theorem dX10_plays_54 : decode cX10_plays 54 = .ok (.aload_n 0, 1) := by decide +kernel
theorem dX10_plays_55 : decode cX10_plays 55 = .ok (.getfield 28, 3) := by decide +kernel
theorem dX10_plays_58 : decode cX10_plays 58 = .ok (.iconst 0, 1) := by decide +kernel
theorem dX10_plays_59 : decode cX10_plays 59 = .ok (.iload_n 2, 1) := by decide +kernel
theorem dX10_plays_60 : decode cX10_plays 60 = .ok (.iastore, 1) := by decide +kernel
theorem dX10_plays_61 : decode cX10_plays 61 = .ok (.aload_n 0, 1) := by decide +kernel
theorem dX10_plays_62 : decode cX10_plays 62 = .ok (.getfield 28, 3) := by decide +kernel
theorem dX10_plays_65 : decode cX10_plays 65 = .ok (.iconst 1, 1) := by decide +kernel
theorem dX10_plays_66 : decode cX10_plays 66 = .ok (.aload_n 0, 1) := by decide +kernel
theorem dX10_plays_67 : decode cX10_plays 67 = .ok (.getfield 188, 3) := by decide +kernel
theorem dX10_plays_70 : decode cX10_plays 70 = .ok (.ifCond .eq 7, 3) := by decide +kernel
theorem dX10_plays_73 : decode cX10_plays 73 = .ok (.iconst 2, 1) := by decide +kernel
theorem dX10_plays_74 : decode cX10_plays 74 = .ok (.goto 4, 3) := by decide +kernel
theorem dX10_plays_77 : decode cX10_plays 77 = .ok (.iconst 1, 1) := by decide +kernel
theorem dX10_plays_78 : decode cX10_plays 78 = .ok (.iastore, 1) := by decide +kernel
theorem dX10_plays_79 : decode cX10_plays 79 = .ok (.aload_n 0, 1) := by decide +kernel
theorem dX10_plays_80 : decode cX10_plays 80 = .ok (.getfield 28, 3) := by decide +kernel
theorem dX10_plays_83 : decode cX10_plays 83 = .ok (.iconst 2, 1) := by decide +kernel
theorem dX10_plays_84 : decode cX10_plays 84 = .ok (.aload_n 0, 1) := by decide +kernel
theorem dX10_plays_85 : decode cX10_plays 85 = .ok (.getfield 188, 3) := by decide +kernel
theorem dX10_plays_88 : decode cX10_plays 88 = .ok (.ifCond .eq 7, 3) := by decide +kernel
theorem dX10_plays_91 : decode cX10_plays 91 = .ok (.iload_n 3, 1) := by decide +kernel
theorem dX10_plays_92 : decode cX10_plays 92 = .ok (.goto 5, 3) := by decide +kernel
theorem dX10_plays_95 : decode cX10_plays 95 = .ok (.bipush (-4), 2) := by decide +kernel
theorem dX10_plays_97 : decode cX10_plays 97 = .ok (.iastore, 1) := by decide +kernel
theorem dX10_plays_98 : decode cX10_plays 98 = .ok (.bipush (-4), 2) := by decide +kernel
theorem dX10_plays_100 : decode cX10_plays 100 = .ok (.ireturn, 1) := by decide +kernel
theorem dX10_plays_101 : decode cX10_plays 101 = .ok (.iinc 1 1, 3) := by decide +kernel
theorem dX10_plays_104 : decode cX10_plays 104 = .ok (.goto (-97), 3) := by decide +kernel
theorem dX10_plays_107 : decode cX10_plays 107 = .ok (.iload_n 1, 1) := by decide +kernel
theorem dX10_plays_108 : decode cX10_plays 108 = .ok (.ireturn, 1) := by decide +kernel
theorem dX10_fault_0 : decode cX10_fault 0 = .ok (.iload_n 1, 1) := by decide +kernel
theorem dX10_fault_1 : decode cX10_fault 1 = .ok (.iconst 0, 1) := by decide +kernel
theorem dX10_fault_2 : decode cX10_fault 2 = .ok (.iconst 2, 1) := by decide +kernel
theorem dX10_fault_3 : decode cX10_fault 3 = .ok (.invokestatic 31, 3) := by decide +kernel
theorem dX10_fault_6 : decode cX10_fault 6 = .ok (.ifCond .ne 5, 3) := by decide +kernel
theorem dX10_fault_9 : decode cX10_fault 9 = .ok (.iconst (-1), 1) := by decide +kernel
theorem dX10_fault_10 : decode cX10_fault 10 = .ok (.ireturn, 1) := by decide +kernel
theorem dX10_fault_11 : decode cX10_fault 11 = .ok (.aload_n 0, 1) := by decide +kernel
theorem dX10_fault_12 : decode cX10_fault 12 = .ok (.invokevirtual 61, 3) := by decide +kernel
theorem dX10_fault_15 : decode cX10_fault 15 = .ok (.aload_n 0, 1) := by decide +kernel
theorem dX10_fault_16 : decode cX10_fault 16 = .ok (.invokevirtual 214, 3) := by decide +kernel
theorem dX10_fault_19 : decode cX10_fault 19 = .ok (.istore_n 2, 1) := by decide +kernel
theorem dX10_fault_20 : decode cX10_fault 20 = .ok (.aload_n 0, 1) := by decide +kernel
theorem dX10_fault_21 : decode cX10_fault 21 = .ok (.invokevirtual 46, 3) := by decide +kernel
theorem dX10_fault_24 : decode cX10_fault 24 = .ok (.iload_n 2, 1) := by decide +kernel
theorem dX10_fault_25 : decode cX10_fault 25 = .ok (.ifCond .ge 12, 3) := by decide +kernel
theorem dX10_fault_28 : decode cX10_fault 28 = .ok (.aload_n 0, 1) := by decide +kernel
theorem dX10_fault_29 : decode cX10_fault 29 = .ok (.getfield 28, 3) := by decide +kernel
theorem dX10_fault_32 : decode cX10_fault 32 = .ok (.iload_n 1, 1) := by decide +kernel
theorem dX10_fault_33 : decode cX10_fault 33 = .ok (.iaload, 1) := by decide +kernel
theorem dX10_fault_34 : decode cX10_fault 34 = .ok (.goto 5, 3) := by decide +kernel
theorem dX10_fault_37 : decode cX10_fault 37 = .ok (.bipush (-4), 2) := by decide +kernel
theorem dX10_fault_39 : decode cX10_fault 39 = .ok (.ireturn, 1) := by decide +kernel
theorem dX10_play_0 : decode cX10_play 0 = .ok (.aload_n 0, 1) := by decide +kernel
theorem dX10_play_1 : decode cX10_play 1 = .ok (.invokevirtual 61, 3) := by decide +kernel
theorem dX10_play_4 : decode cX10_play 4 = .ok (.aload_n 0, 1) := by decide +kernel
theorem dX10_play_5 : decode cX10_play 5 = .ok (.invokevirtual 214, 3) := by decide +kernel
theorem dX10_play_8 : decode cX10_play 8 = .ok (.istore_n 1, 1) := by decide +kernel
theorem dX10_play_9 : decode cX10_play 9 = .ok (.iload_n 1, 1) := by decide +kernel
theorem dX10_play_10 : decode cX10_play 10 = .ok (.ifCond .ge 10, 3) := by decide +kernel
theorem dX10_play_13 : decode cX10_play 13 = .ok (.aload_n 0, 1) := by decide +kernel
theorem dX10_play_14 : decode cX10_play 14 = .ok (.invokevirtual 46, 3) := by decide +kernel
theorem dX10_play_17 : decode cX10_play 17 = .ok (.bipush (-2), 2) := by decide +kernel
theorem dX10_play_19 : decode cX10_play 19 = .ok (.ireturn, 1) := by decide +kernel
theorem dX10_play_20 : decode cX10_play 20 = .ok (.aload_n 0, 1) := by decide +kernel
theorem dX10_play_21 : decode cX10_play 21 = .ok (.iload_n 1, 1) := by decide +kernel
theorem dX10_play_22 : decode cX10_play 22 = .ok (.invokevirtual 68, 3) := by decide +kernel
theorem dX10_play_25 : decode cX10_play 25 = .ok (.ireturn, 1) := by decide +kernel
