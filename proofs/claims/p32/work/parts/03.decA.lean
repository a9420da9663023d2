theorem dX0_init_0 : decode cX0_init 0 = .ok (.aload_n 0, 1) := by decide +kernel
theorem dX0_init_1 : decode cX0_init 1 = .ok (.invokespecial 3, 3) := by decide +kernel
theorem dX0_init_4 : decode cX0_init 4 = .ok (.aload_n 0, 1) := by decide +kernel
theorem dX0_init_5 : decode cX0_init 5 = .ok (.iconst 5, 1) := by decide +kernel
theorem dX0_init_6 : decode cX0_init 6 = .ok (.anewarray 11, 3) := by decide +kernel
theorem dX0_init_9 : decode cX0_init 9 = .ok (.putfield 13, 3) := by decide +kernel
theorem dX0_init_12 : decode cX0_init 12 = .ok (.iconst 0, 1) := by decide +kernel
theorem dX0_init_13 : decode cX0_init 13 = .ok (.istore_n 1, 1) := by decide +kernel
theorem dX0_init_14 : decode cX0_init 14 = .ok (.iload_n 1, 1) := by decide +kernel
theorem dX0_init_15 : decode cX0_init 15 = .ok (.aload_n 0, 1) := by decide +kernel
theorem dX0_init_16 : decode cX0_init 16 = .ok (.getfield 13, 3) := by decide +kernel
theorem dX0_init_19 : decode cX0_init 19 = .ok (.arraylength, 1) := by decide +kernel
theorem dX0_init_20 : decode cX0_init 20 = .ok (.if_icmp .ge 22, 3) := by decide +kernel
theorem dX0_init_23 : decode cX0_init 23 = .ok (.aload_n 0, 1) := by decide +kernel
theorem dX0_init_24 : decode cX0_init 24 = .ok (.getfield 13, 3) := by decide +kernel
theorem dX0_init_27 : decode cX0_init 27 = .ok (.iload_n 1, 1) := by decide +kernel
theorem dX0_init_28 : decode cX0_init 28 = .ok (.new 11, 3) := by decide +kernel
theorem dX0_init_31 : decode cX0_init 31 = .ok (.dup, 1) := by decide +kernel
theorem dX0_init_32 : decode cX0_init 32 = .ok (.invokespecial 17, 3) := by decide +kernel
theorem dX0_init_35 : decode cX0_init 35 = .ok (.aastore, 1) := by decide +kernel
theorem dX0_init_36 : decode cX0_init 36 = .ok (.iinc 1 1, 3) := by decide +kernel
theorem dX0_init_39 : decode cX0_init 39 = .ok (.goto (-25), 3) := by decide +kernel
theorem dX0_init_42 : decode cX0_init 42 = .ok (.return_, 1) := by decide +kernel
theorem dX0_stateAt_0 : decode cX0_stateAt 0 = .ok (.iload_n 1, 1) := by decide +kernel
theorem dX0_stateAt_1 : decode cX0_stateAt 1 = .ok (.ifCond .lt 21, 3) := by decide +kernel
theorem dX0_stateAt_4 : decode cX0_stateAt 4 = .ok (.iload_n 1, 1) := by decide +kernel
theorem dX0_stateAt_5 : decode cX0_stateAt 5 = .ok (.aload_n 0, 1) := by decide +kernel
theorem dX0_stateAt_6 : decode cX0_stateAt 6 = .ok (.getfield 13, 3) := by decide +kernel
theorem dX0_stateAt_9 : decode cX0_stateAt 9 = .ok (.arraylength, 1) := by decide +kernel
theorem dX0_stateAt_10 : decode cX0_stateAt 10 = .ok (.if_icmp .ge 12, 3) := by decide +kernel
theorem dX0_stateAt_13 : decode cX0_stateAt 13 = .ok (.aload_n 0, 1) := by decide +kernel
theorem dX0_stateAt_14 : decode cX0_stateAt 14 = .ok (.getfield 13, 3) := by decide +kernel
theorem dX0_stateAt_17 : decode cX0_stateAt 17 = .ok (.iload_n 1, 1) := by decide +kernel
theorem dX0_stateAt_18 : decode cX0_stateAt 18 = .ok (.aaload, 1) := by decide +kernel
theorem dX0_stateAt_19 : decode cX0_stateAt 19 = .ok (.goto 4, 3) := by decide +kernel
theorem dX0_stateAt_22 : decode cX0_stateAt 22 = .ok (.aconst_null, 1) := by decide +kernel
theorem dX0_stateAt_23 : decode cX0_stateAt 23 = .ok (.areturn, 1) := by decide +kernel
theorem dX0_noteState_0 : decode cX0_noteState 0 = .ok (.aload_n 0, 1) := by decide +kernel
theorem dX0_noteState_1 : decode cX0_noteState 1 = .ok (.aload_n 0, 1) := by decide +kernel
theorem dX0_noteState_2 : decode cX0_noteState 2 = .ok (.getfield 18, 3) := by decide +kernel
theorem dX0_noteState_5 : decode cX0_noteState 5 = .ok (.invokevirtual 22, 3) := by decide +kernel
theorem dX0_noteState_8 : decode cX0_noteState 8 = .ok (.astore_n 2, 1) := by decide +kernel
theorem dX0_noteState_9 : decode cX0_noteState 9 = .ok (.aload_n 2, 1) := by decide +kernel
theorem dX0_noteState_10 : decode cX0_noteState 10 = .ok (.ifnull 8, 3) := by decide +kernel
theorem dX0_noteState_13 : decode cX0_noteState 13 = .ok (.aload_n 2, 1) := by decide +kernel
theorem dX0_noteState_14 : decode cX0_noteState 14 = .ok (.aload_n 1, 1) := by decide +kernel
theorem dX0_noteState_15 : decode cX0_noteState 15 = .ok (.invokevirtual 26, 3) := by decide +kernel
theorem dX0_noteState_18 : decode cX0_noteState 18 = .ok (.return_, 1) := by decide +kernel
theorem dX0_keepNoted_0 : decode cX0_keepNoted 0 = .ok (.iload_n 1, 1) := by decide +kernel
theorem dX0_keepNoted_1 : decode cX0_keepNoted 1 = .ok (.ifCond .lt 25, 3) := by decide +kernel
theorem dX0_keepNoted_4 : decode cX0_keepNoted 4 = .ok (.aload_n 0, 1) := by decide +kernel
theorem dX0_keepNoted_5 : decode cX0_keepNoted 5 = .ok (.dup, 1) := by decide +kernel
theorem dX0_keepNoted_6 : decode cX0_keepNoted 6 = .ok (.getfield 18, 3) := by decide +kernel
theorem dX0_keepNoted_9 : decode cX0_keepNoted 9 = .ok (.iconst 1, 1) := by decide +kernel
theorem dX0_keepNoted_10 : decode cX0_keepNoted 10 = .ok (.iadd, 1) := by decide +kernel
theorem dX0_keepNoted_11 : decode cX0_keepNoted 11 = .ok (.putfield 18, 3) := by decide +kernel
theorem dX0_keepNoted_14 : decode cX0_keepNoted 14 = .ok (.aload_n 0, 1) := by decide +kernel
theorem dX0_keepNoted_15 : decode cX0_keepNoted 15 = .ok (.getfield 18, 3) := by decide +kernel
theorem dX0_keepNoted_18 : decode cX0_keepNoted 18 = .ok (.iconst 4, 1) := by decide +kernel
theorem dX0_keepNoted_19 : decode cX0_keepNoted 19 = .ok (.if_icmp .le 7, 3) := by decide +kernel
theorem dX0_keepNoted_22 : decode cX0_keepNoted 22 = .ok (.aload_n 0, 1) := by decide +kernel
theorem dX0_keepNoted_23 : decode cX0_keepNoted 23 = .ok (.invokevirtual 30, 3) := by decide +kernel
theorem dX0_keepNoted_26 : decode cX0_keepNoted 26 = .ok (.iload_n 1, 1) := by decide +kernel
theorem dX0_keepNoted_27 : decode cX0_keepNoted 27 = .ok (.ireturn, 1) := by decide +kernel
theorem dX0_dropOldest_0 : decode cX0_dropOldest 0 = .ok (.iconst 1, 1) := by decide +kernel
theorem dX0_dropOldest_1 : decode cX0_dropOldest 1 = .ok (.istore_n 1, 1) := by decide +kernel
theorem dX0_dropOldest_2 : decode cX0_dropOldest 2 = .ok (.iload_n 1, 1) := by decide +kernel
theorem dX0_dropOldest_3 : decode cX0_dropOldest 3 = .ok (.aload_n 0, 1) := by decide +kernel
theorem dX0_dropOldest_4 : decode cX0_dropOldest 4 = .ok (.getfield 13, 3) := by decide +kernel
theorem dX0_dropOldest_7 : decode cX0_dropOldest 7 = .ok (.arraylength, 1) := by decide +kernel
theorem dX0_dropOldest_8 : decode cX0_dropOldest 8 = .ok (.if_icmp .ge 39, 3) := by decide +kernel
theorem dX0_dropOldest_11 : decode cX0_dropOldest 11 = .ok (.aload_n 0, 1) := by decide +kernel
theorem dX0_dropOldest_12 : decode cX0_dropOldest 12 = .ok (.getfield 13, 3) := by decide +kernel
theorem dX0_dropOldest_15 : decode cX0_dropOldest 15 = .ok (.iload_n 1, 1) := by decide +kernel
theorem dX0_dropOldest_16 : decode cX0_dropOldest 16 = .ok (.iconst 1, 1) := by decide +kernel
theorem dX0_dropOldest_17 : decode cX0_dropOldest 17 = .ok (.isub, 1) := by decide +kernel
theorem dX0_dropOldest_18 : decode cX0_dropOldest 18 = .ok (.aaload, 1) := by decide +kernel
theorem dX0_dropOldest_19 : decode cX0_dropOldest 19 = .ok (.astore_n 2, 1) := by decide +kernel
theorem dX0_dropOldest_20 : decode cX0_dropOldest 20 = .ok (.aload_n 0, 1) := by decide +kernel
theorem dX0_dropOldest_21 : decode cX0_dropOldest 21 = .ok (.getfield 13, 3) := by decide +kernel
theorem dX0_dropOldest_24 : decode cX0_dropOldest 24 = .ok (.iload_n 1, 1) := by decide +kernel
theorem dX0_dropOldest_25 : decode cX0_dropOldest 25 = .ok (.iconst 1, 1) := by decide +kernel
theorem dX0_dropOldest_26 : decode cX0_dropOldest 26 = .ok (.isub, 1) := by decide +kernel
theorem dX0_dropOldest_27 : decode cX0_dropOldest 27 = .ok (.aload_n 0, 1) := by decide +kernel
theorem dX0_dropOldest_28 : decode cX0_dropOldest 28 = .ok (.getfield 13, 3) := by decide +kernel
theorem dX0_dropOldest_31 : decode cX0_dropOldest 31 = .ok (.iload_n 1, 1) := by decide +kernel
theorem dX0_dropOldest_32 : decode cX0_dropOldest 32 = .ok (.aaload, 1) := by decide +kernel
theorem dX0_dropOldest_33 : decode cX0_dropOldest 33 = .ok (.aastore, 1) := by decide +kernel
theorem dX0_dropOldest_34 : decode cX0_dropOldest 34 = .ok (.aload_n 0, 1) := by decide +kernel
theorem dX0_dropOldest_35 : decode cX0_dropOldest 35 = .ok (.getfield 13, 3) := by decide +kernel
theorem dX0_dropOldest_38 : decode cX0_dropOldest 38 = .ok (.iload_n 1, 1) := by decide +kernel
theorem dX0_dropOldest_39 : decode cX0_dropOldest 39 = .ok (.aload_n 2, 1) := by decide +kernel
theorem dX0_dropOldest_40 : decode cX0_dropOldest 40 = .ok (.aastore, 1) := by decide +kernel
theorem dX0_dropOldest_41 : decode cX0_dropOldest 41 = .ok (.iinc 1 1, 3) := by decide +kernel
theorem dX0_dropOldest_44 : decode cX0_dropOldest 44 = .ok (.goto (-42), 3) := by decide +kernel
theorem dX0_dropOldest_47 : decode cX0_dropOldest 47 = .ok (.aload_n 0, 1) := by decide +kernel
theorem dX0_dropOldest_48 : decode cX0_dropOldest 48 = .ok (.dup, 1) := by decide +kernel
theorem dX0_dropOldest_49 : decode cX0_dropOldest 49 = .ok (.getfield 18, 3) := by decide +kernel
theorem dX0_dropOldest_52 : decode cX0_dropOldest 52 = .ok (.iconst 1, 1) := by decide +kernel
theorem dX0_dropOldest_53 : decode cX0_dropOldest 53 = .ok (.isub, 1) := by decide +kernel
theorem dX0_dropOldest_54 : decode cX0_dropOldest 54 = .ok (.putfield 18, 3) := by decide +kernel
theorem dX0_dropOldest_57 : decode cX0_dropOldest 57 = .ok (.return_, 1) := by decide +kernel
theorem dX0_stepBack_0 : decode cX0_stepBack 0 = .ok (.aload_n 0, 1) := by decide +kernel
theorem dX0_stepBack_1 : decode cX0_stepBack 1 = .ok (.aload_n 0, 1) := by decide +kernel
theorem dX0_stepBack_2 : decode cX0_stepBack 2 = .ok (.getfield 18, 3) := by decide +kernel
theorem dX0_stepBack_5 : decode cX0_stepBack 5 = .ok (.iconst 1, 1) := by decide +kernel
theorem dX0_stepBack_6 : decode cX0_stepBack 6 = .ok (.isub, 1) := by decide +kernel
theorem dX0_stepBack_7 : decode cX0_stepBack 7 = .ok (.invokevirtual 22, 3) := by decide +kernel
theorem dX0_stepBack_10 : decode cX0_stepBack 10 = .ok (.astore_n 2, 1) := by decide +kernel
theorem dX0_stepBack_11 : decode cX0_stepBack 11 = .ok (.aload_n 2, 1) := by decide +kernel
theorem dX0_stepBack_12 : decode cX0_stepBack 12 = .ok (.ifnonnull 6, 3) := by decide +kernel
theorem dX0_stepBack_15 : decode cX0_stepBack 15 = .ok (.bipush (-2), 2) := by decide +kernel
theorem dX0_stepBack_17 : decode cX0_stepBack 17 = .ok (.ireturn, 1) := by decide +kernel
theorem dX0_stepBack_18 : decode cX0_stepBack 18 = .ok (.aload_n 1, 1) := by decide +kernel
theorem dX0_stepBack_19 : decode cX0_stepBack 19 = .ok (.aload_n 2, 1) := by decide +kernel
theorem dX0_stepBack_20 : decode cX0_stepBack 20 = .ok (.invokevirtual 26, 3) := by decide +kernel
theorem dX0_stepBack_23 : decode cX0_stepBack 23 = .ok (.aload_n 0, 1) := by decide +kernel
theorem dX0_stepBack_24 : decode cX0_stepBack 24 = .ok (.dup, 1) := by decide +kernel
theorem dX0_stepBack_25 : decode cX0_stepBack 25 = .ok (.getfield 18, 3) := by decide +kernel
theorem dX0_stepBack_28 : decode cX0_stepBack 28 = .ok (.iconst 1, 1) := by decide +kernel
theorem dX0_stepBack_29 : decode cX0_stepBack 29 = .ok (.isub, 1) := by decide +kernel
theorem dX0_stepBack_30 : decode cX0_stepBack 30 = .ok (.putfield 18, 3) := by decide +kernel
theorem dX0_stepBack_33 : decode cX0_stepBack 33 = .ok (.aload_n 0, 1) := by decide +kernel
theorem dX0_stepBack_34 : decode cX0_stepBack 34 = .ok (.getfield 18, 3) := by decide +kernel
theorem dX0_stepBack_37 : decode cX0_stepBack 37 = .ok (.ireturn, 1) := by decide +kernel
theorem dX1_init_0 : decode cX1_init 0 = .ok (.aload_n 0, 1) := by decide +kernel
theorem dX1_init_1 : decode cX1_init 1 = .ok (.invokespecial 3, 3) := by decide +kernel
theorem dX1_init_4 : decode cX1_init 4 = .ok (.aload_n 0, 1) := by decide +kernel
theorem dX1_init_5 : decode cX1_init 5 = .ok (.bipush 6, 2) := by decide +kernel
theorem dX1_init_7 : decode cX1_init 7 = .ok (.anewarray 9, 3) := by decide +kernel
theorem dX1_init_10 : decode cX1_init 10 = .ok (.putfield 11, 3) := by decide +kernel
theorem dX1_init_13 : decode cX1_init 13 = .ok (.aload_n 0, 1) := by decide +kernel
theorem dX1_init_14 : decode cX1_init 14 = .ok (.bipush 20, 2) := by decide +kernel
theorem dX1_init_16 : decode cX1_init 16 = .ok (.anewarray 17, 3) := by decide +kernel
theorem dX1_init_19 : decode cX1_init 19 = .ok (.putfield 19, 3) := by decide +kernel
theorem dX1_init_22 : decode cX1_init 22 = .ok (.aload_n 0, 1) := by decide +kernel
theorem dX1_init_23 : decode cX1_init 23 = .ok (.bipush 60, 2) := by decide +kernel
theorem dX1_init_25 : decode cX1_init 25 = .ok (.anewarray 23, 3) := by decide +kernel
theorem dX1_init_28 : decode cX1_init 28 = .ok (.putfield 25, 3) := by decide +kernel
theorem dX1_init_31 : decode cX1_init 31 = .ok (.aload_n 0, 1) := by decide +kernel
theorem dX1_init_32 : decode cX1_init 32 = .ok (.iconst 4, 1) := by decide +kernel
theorem dX1_init_33 : decode cX1_init 33 = .ok (.newarray .int, 2) := by decide +kernel
theorem dX1_init_35 : decode cX1_init 35 = .ok (.putfield 29, 3) := by decide +kernel
theorem dX1_init_38 : decode cX1_init 38 = .ok (.aload_n 0, 1) := by decide +kernel
theorem dX1_init_39 : decode cX1_init 39 = .ok (.iconst 4, 1) := by decide +kernel
theorem dX1_init_40 : decode cX1_init 40 = .ok (.newarray .int, 2) := by decide +kernel
theorem dX1_init_42 : decode cX1_init 42 = .ok (.putfield 33, 3) := by decide +kernel
theorem dX1_init_45 : decode cX1_init 45 = .ok (.aload_n 0, 1) := by decide +kernel
theorem dX1_init_46 : decode cX1_init 46 = .ok (.new 36, 3) := by decide +kernel
theorem dX1_init_49 : decode cX1_init 49 = .ok (.dup, 1) := by decide +kernel
theorem dX1_init_50 : decode cX1_init 50 = .ok (.invokespecial 38, 3) := by decide +kernel
theorem dX1_init_53 : decode cX1_init 53 = .ok (.putfield 39, 3) := by decide +kernel
theorem dX1_init_56 : decode cX1_init 56 = .ok (.iconst 0, 1) := by decide +kernel
theorem dX1_init_57 : decode cX1_init 57 = .ok (.istore_n 1, 1) := by decide +kernel
theorem dX1_init_58 : decode cX1_init 58 = .ok (.iload_n 1, 1) := by decide +kernel
theorem dX1_init_59 : decode cX1_init 59 = .ok (.aload_n 0, 1) := by decide +kernel
theorem dX1_init_60 : decode cX1_init 60 = .ok (.getfield 11, 3) := by decide +kernel
theorem dX1_init_63 : decode cX1_init 63 = .ok (.arraylength, 1) := by decide +kernel
theorem dX1_init_64 : decode cX1_init 64 = .ok (.if_icmp .ge 22, 3) := by decide +kernel
theorem dX1_init_67 : decode cX1_init 67 = .ok (.aload_n 0, 1) := by decide +kernel
theorem dX1_init_68 : decode cX1_init 68 = .ok (.getfield 11, 3) := by decide +kernel
theorem dX1_init_71 : decode cX1_init 71 = .ok (.iload_n 1, 1) := by decide +kernel
theorem dX1_init_72 : decode cX1_init 72 = .ok (.new 9, 3) := by decide +kernel
theorem dX1_init_75 : decode cX1_init 75 = .ok (.dup, 1) := by decide +kernel
theorem dX1_init_76 : decode cX1_init 76 = .ok (.invokespecial 43, 3) := by decide +kernel
theorem dX1_init_79 : decode cX1_init 79 = .ok (.aastore, 1) := by decide +kernel
theorem dX1_init_80 : decode cX1_init 80 = .ok (.iinc 1 1, 3) := by decide +kernel
theorem dX1_init_83 : decode cX1_init 83 = .ok (.goto (-25), 3) := by decide +kernel
theorem dX1_init_86 : decode cX1_init 86 = .ok (.iconst 0, 1) := by decide +kernel
theorem dX1_init_87 : decode cX1_init 87 = .ok (.istore_n 1, 1) := by decide +kernel
theorem dX1_init_88 : decode cX1_init 88 = .ok (.iload_n 1, 1) := by decide +kernel
theorem dX1_init_89 : decode cX1_init 89 = .ok (.aload_n 0, 1) := by decide +kernel
theorem dX1_init_90 : decode cX1_init 90 = .ok (.getfield 19, 3) := by decide +kernel
theorem dX1_init_93 : decode cX1_init 93 = .ok (.arraylength, 1) := by decide +kernel
theorem dX1_init_94 : decode cX1_init 94 = .ok (.if_icmp .ge 22, 3) := by decide +kernel
theorem dX1_init_97 : decode cX1_init 97 = .ok (.aload_n 0, 1) := by decide +kernel
theorem dX1_init_98 : decode cX1_init 98 = .ok (.getfield 19, 3) := by decide +kernel
theorem dX1_init_101 : decode cX1_init 101 = .ok (.iload_n 1, 1) := by decide +kernel
theorem dX1_init_102 : decode cX1_init 102 = .ok (.new 17, 3) := by decide +kernel
theorem dX1_init_105 : decode cX1_init 105 = .ok (.dup, 1) := by decide +kernel
theorem dX1_init_106 : decode cX1_init 106 = .ok (.invokespecial 44, 3) := by decide +kernel
theorem dX1_init_109 : decode cX1_init 109 = .ok (.aastore, 1) := by decide +kernel
theorem dX1_init_110 : decode cX1_init 110 = .ok (.iinc 1 1, 3) := by decide +kernel
theorem dX1_init_113 : decode cX1_init 113 = .ok (.goto (-25), 3) := by decide +kernel
theorem dX1_init_116 : decode cX1_init 116 = .ok (.iconst 0, 1) := by decide +kernel
theorem dX1_init_117 : decode cX1_init 117 = .ok (.istore_n 1, 1) := by decide +kernel
theorem dX1_init_118 : decode cX1_init 118 = .ok (.iload_n 1, 1) := by decide +kernel
theorem dX1_init_119 : decode cX1_init 119 = .ok (.aload_n 0, 1) := by decide +kernel
theorem dX1_init_120 : decode cX1_init 120 = .ok (.getfield 25, 3) := by decide +kernel
theorem dX1_init_123 : decode cX1_init 123 = .ok (.arraylength, 1) := by decide +kernel
theorem dX1_init_124 : decode cX1_init 124 = .ok (.if_icmp .ge 22, 3) := by decide +kernel
theorem dX1_init_127 : decode cX1_init 127 = .ok (.aload_n 0, 1) := by decide +kernel
theorem dX1_init_128 : decode cX1_init 128 = .ok (.getfield 25, 3) := by decide +kernel
theorem dX1_init_131 : decode cX1_init 131 = .ok (.iload_n 1, 1) := by decide +kernel
theorem dX1_init_132 : decode cX1_init 132 = .ok (.new 23, 3) := by decide +kernel
theorem dX1_init_135 : decode cX1_init 135 = .ok (.dup, 1) := by decide +kernel
theorem dX1_init_136 : decode cX1_init 136 = .ok (.invokespecial 45, 3) := by decide +kernel
theorem dX1_init_139 : decode cX1_init 139 = .ok (.aastore, 1) := by decide +kernel
theorem dX1_init_140 : decode cX1_init 140 = .ok (.iinc 1 1, 3) := by decide +kernel
theorem dX1_init_143 : decode cX1_init 143 = .ok (.goto (-25), 3) := by decide +kernel
theorem dX1_init_146 : decode cX1_init 146 = .ok (.return_, 1) := by decide +kernel
theorem dX1_copyFrom_0 : decode cX1_copyFrom 0 = .ok (.aload_n 0, 1) := by decide +kernel
theorem dX1_copyFrom_1 : decode cX1_copyFrom 1 = .ok (.aload_n 1, 1) := by decide +kernel
theorem dX1_copyFrom_2 : decode cX1_copyFrom 2 = .ok (.getfield 46, 3) := by decide +kernel
theorem dX1_copyFrom_5 : decode cX1_copyFrom 5 = .ok (.putfield 46, 3) := by decide +kernel
theorem dX1_copyFrom_8 : decode cX1_copyFrom 8 = .ok (.aload_n 0, 1) := by decide +kernel
theorem dX1_copyFrom_9 : decode cX1_copyFrom 9 = .ok (.aload_n 1, 1) := by decide +kernel
theorem dX1_copyFrom_10 : decode cX1_copyFrom 10 = .ok (.getfield 50, 3) := by decide +kernel
theorem dX1_copyFrom_13 : decode cX1_copyFrom 13 = .ok (.putfield 50, 3) := by decide +kernel
theorem dX1_copyFrom_16 : decode cX1_copyFrom 16 = .ok (.aload_n 0, 1) := by decide +kernel
theorem dX1_copyFrom_17 : decode cX1_copyFrom 17 = .ok (.aload_n 1, 1) := by decide +kernel
theorem dX1_copyFrom_18 : decode cX1_copyFrom 18 = .ok (.getfield 53, 3) := by decide +kernel
theorem dX1_copyFrom_21 : decode cX1_copyFrom 21 = .ok (.putfield 53, 3) := by decide +kernel
theorem dX1_copyFrom_24 : decode cX1_copyFrom 24 = .ok (.aload_n 0, 1) := by decide +kernel
theorem dX1_copyFrom_25 : decode cX1_copyFrom 25 = .ok (.aload_n 1, 1) := by decide +kernel
theorem dX1_copyFrom_26 : decode cX1_copyFrom 26 = .ok (.getfield 56, 3) := by decide +kernel
theorem dX1_copyFrom_29 : decode cX1_copyFrom 29 = .ok (.putfield 56, 3) := by decide +kernel
theorem dX1_copyFrom_32 : decode cX1_copyFrom 32 = .ok (.aload_n 1, 1) := by decide +kernel
theorem dX1_copyFrom_33 : decode cX1_copyFrom 33 = .ok (.getfield 29, 3) := by decide +kernel
theorem dX1_copyFrom_36 : decode cX1_copyFrom 36 = .ok (.aload_n 0, 1) := by decide +kernel
theorem dX1_copyFrom_37 : decode cX1_copyFrom 37 = .ok (.getfield 29, 3) := by decide +kernel
theorem dX1_copyFrom_40 : decode cX1_copyFrom 40 = .ok (.invokestatic 59, 3) := by decide +kernel
theorem dX1_copyFrom_43 : decode cX1_copyFrom 43 = .ok (.aload_n 1, 1) := by decide +kernel
theorem dX1_copyFrom_44 : decode cX1_copyFrom 44 = .ok (.getfield 33, 3) := by decide +kernel
theorem dX1_copyFrom_47 : decode cX1_copyFrom 47 = .ok (.aload_n 0, 1) := by decide +kernel
theorem dX1_copyFrom_48 : decode cX1_copyFrom 48 = .ok (.getfield 33, 3) := by decide +kernel
theorem dX1_copyFrom_51 : decode cX1_copyFrom 51 = .ok (.invokestatic 59, 3) := by decide +kernel
theorem dX1_copyFrom_54 : decode cX1_copyFrom 54 = .ok (.aload_n 0, 1) := by decide +kernel
theorem dX1_copyFrom_55 : decode cX1_copyFrom 55 = .ok (.getfield 39, 3) := by decide +kernel
theorem dX1_copyFrom_58 : decode cX1_copyFrom 58 = .ok (.aload_n 1, 1) := by decide +kernel
theorem dX1_copyFrom_59 : decode cX1_copyFrom 59 = .ok (.getfield 39, 3) := by decide +kernel
theorem dX1_copyFrom_62 : decode cX1_copyFrom 62 = .ok (.invokevirtual 63, 3) := by decide +kernel
theorem dX1_copyFrom_65 : decode cX1_copyFrom 65 = .ok (.aload_n 0, 1) := by decide +kernel
theorem dX1_copyFrom_66 : decode cX1_copyFrom 66 = .ok (.aload_n 1, 1) := by decide +kernel
theorem dX1_copyFrom_67 : decode cX1_copyFrom 67 = .ok (.getfield 11, 3) := by decide +kernel
theorem dX1_copyFrom_70 : decode cX1_copyFrom 70 = .ok (.invokevirtual 67, 3) := by decide +kernel
theorem dX1_copyFrom_73 : decode cX1_copyFrom 73 = .ok (.aload_n 0, 1) := by decide +kernel
theorem dX1_copyFrom_74 : decode cX1_copyFrom 74 = .ok (.aload_n 1, 1) := by decide +kernel
theorem dX1_copyFrom_75 : decode cX1_copyFrom 75 = .ok (.getfield 19, 3) := by decide +kernel
theorem dX1_copyFrom_78 : decode cX1_copyFrom 78 = .ok (.invokevirtual 71, 3) := by decide +kernel
theorem dX1_copyFrom_81 : decode cX1_copyFrom 81 = .ok (.aload_n 0, 1) := by decide +kernel
theorem dX1_copyFrom_82 : decode cX1_copyFrom 82 = .ok (.aload_n 1, 1) := by decide +kernel
theorem dX1_copyFrom_83 : decode cX1_copyFrom 83 = .ok (.getfield 25, 3) := by decide +kernel
theorem dX1_copyFrom_86 : decode cX1_copyFrom 86 = .ok (.invokevirtual 75, 3) := by decide +kernel
theorem dX1_copyFrom_89 : decode cX1_copyFrom 89 = .ok (.return_, 1) := by decide +kernel
theorem dX1_copyVats_0 : decode cX1_copyVats 0 = .ok (.iconst 0, 1) := by decide +kernel
theorem dX1_copyVats_1 : decode cX1_copyVats 1 = .ok (.istore_n 2, 1) := by decide +kernel
theorem dX1_copyVats_2 : decode cX1_copyVats 2 = .ok (.iload_n 2, 1) := by decide +kernel
theorem dX1_copyVats_3 : decode cX1_copyVats 3 = .ok (.aload_n 0, 1) := by decide +kernel
theorem dX1_copyVats_4 : decode cX1_copyVats 4 = .ok (.getfield 11, 3) := by decide +kernel
theorem dX1_copyVats_7 : decode cX1_copyVats 7 = .ok (.arraylength, 1) := by decide +kernel
theorem dX1_copyVats_8 : decode cX1_copyVats 8 = .ok (.if_icmp .ge 42, 3) := by decide +kernel
theorem dX1_copyVats_11 : decode cX1_copyVats 11 = .ok (.iload_n 2, 1) := by decide +kernel
theorem dX1_copyVats_12 : decode cX1_copyVats 12 = .ok (.aload_n 1, 1) := by decide +kernel
theorem dX1_copyVats_13 : decode cX1_copyVats 13 = .ok (.arraylength, 1) := by decide +kernel
theorem dX1_copyVats_14 : decode cX1_copyVats 14 = .ok (.if_icmp .ge 36, 3) := by decide +kernel
theorem dX1_copyVats_17 : decode cX1_copyVats 17 = .ok (.aload_n 1, 1) := by decide +kernel
theorem dX1_copyVats_18 : decode cX1_copyVats 18 = .ok (.iload_n 2, 1) := by decide +kernel
theorem dX1_copyVats_19 : decode cX1_copyVats 19 = .ok (.aaload, 1) := by decide +kernel
theorem dX1_copyVats_20 : decode cX1_copyVats 20 = .ok (.astore_n 3, 1) := by decide +kernel
theorem dX1_copyVats_21 : decode cX1_copyVats 21 = .ok (.aload_n 0, 1) := by decide +kernel
theorem dX1_copyVats_22 : decode cX1_copyVats 22 = .ok (.getfield 11, 3) := by decide +kernel
theorem dX1_copyVats_25 : decode cX1_copyVats 25 = .ok (.iload_n 2, 1) := by decide +kernel
theorem dX1_copyVats_26 : decode cX1_copyVats 26 = .ok (.aaload, 1) := by decide +kernel
theorem dX1_copyVats_27 : decode cX1_copyVats 27 = .ok (.astore 4, 2) := by decide +kernel
theorem dX1_copyVats_29 : decode cX1_copyVats 29 = .ok (.aload_n 3, 1) := by decide +kernel
theorem dX1_copyVats_30 : decode cX1_copyVats 30 = .ok (.ifnull 14, 3) := by decide +kernel
theorem dX1_copyVats_33 : decode cX1_copyVats 33 = .ok (.aload 4, 2) := by decide +kernel
theorem dX1_copyVats_35 : decode cX1_copyVats 35 = .ok (.ifnull 9, 3) := by decide +kernel
theorem dX1_copyVats_38 : decode cX1_copyVats 38 = .ok (.aload 4, 2) := by decide +kernel
theorem dX1_copyVats_40 : decode cX1_copyVats 40 = .ok (.aload_n 3, 1) := by decide +kernel
theorem dX1_copyVats_41 : decode cX1_copyVats 41 = .ok (.invokevirtual 79, 3) := by decide +kernel
theorem dX1_copyVats_44 : decode cX1_copyVats 44 = .ok (.iinc 2 1, 3) := by decide +kernel
theorem dX1_copyVats_47 : decode cX1_copyVats 47 = .ok (.goto (-45), 3) := by decide +kernel
theorem dX1_copyVats_50 : decode cX1_copyVats 50 = .ok (.return_, 1) := by decide +kernel
theorem dX1_copyLots_0 : decode cX1_copyLots 0 = .ok (.iconst 0, 1) := by decide +kernel
theorem dX1_copyLots_1 : decode cX1_copyLots 1 = .ok (.istore_n 2, 1) := by decide +kernel
theorem dX1_copyLots_2 : decode cX1_copyLots 2 = .ok (.iload_n 2, 1) := by decide +kernel
theorem dX1_copyLots_3 : decode cX1_copyLots 3 = .ok (.aload_n 0, 1) := by decide +kernel
theorem dX1_copyLots_4 : decode cX1_copyLots 4 = .ok (.getfield 19, 3) := by decide +kernel
theorem dX1_copyLots_7 : decode cX1_copyLots 7 = .ok (.arraylength, 1) := by decide +kernel
theorem dX1_copyLots_8 : decode cX1_copyLots 8 = .ok (.if_icmp .ge 42, 3) := by decide +kernel
theorem dX1_copyLots_11 : decode cX1_copyLots 11 = .ok (.iload_n 2, 1) := by decide +kernel
theorem dX1_copyLots_12 : decode cX1_copyLots 12 = .ok (.aload_n 1, 1) := by decide +kernel
theorem dX1_copyLots_13 : decode cX1_copyLots 13 = .ok (.arraylength, 1) := by decide +kernel
theorem dX1_copyLots_14 : decode cX1_copyLots 14 = .ok (.if_icmp .ge 36, 3) := by decide +kernel
theorem dX1_copyLots_17 : decode cX1_copyLots 17 = .ok (.aload_n 1, 1) := by decide +kernel
theorem dX1_copyLots_18 : decode cX1_copyLots 18 = .ok (.iload_n 2, 1) := by decide +kernel
theorem dX1_copyLots_19 : decode cX1_copyLots 19 = .ok (.aaload, 1) := by decide +kernel
theorem dX1_copyLots_20 : decode cX1_copyLots 20 = .ok (.astore_n 3, 1) := by decide +kernel
theorem dX1_copyLots_21 : decode cX1_copyLots 21 = .ok (.aload_n 0, 1) := by decide +kernel
theorem dX1_copyLots_22 : decode cX1_copyLots 22 = .ok (.getfield 19, 3) := by decide +kernel
theorem dX1_copyLots_25 : decode cX1_copyLots 25 = .ok (.iload_n 2, 1) := by decide +kernel
theorem dX1_copyLots_26 : decode cX1_copyLots 26 = .ok (.aaload, 1) := by decide +kernel
theorem dX1_copyLots_27 : decode cX1_copyLots 27 = .ok (.astore 4, 2) := by decide +kernel
theorem dX1_copyLots_29 : decode cX1_copyLots 29 = .ok (.aload_n 3, 1) := by decide +kernel
theorem dX1_copyLots_30 : decode cX1_copyLots 30 = .ok (.ifnull 14, 3) := by decide +kernel
theorem dX1_copyLots_33 : decode cX1_copyLots 33 = .ok (.aload 4, 2) := by decide +kernel
theorem dX1_copyLots_35 : decode cX1_copyLots 35 = .ok (.ifnull 9, 3) := by decide +kernel
theorem dX1_copyLots_38 : decode cX1_copyLots 38 = .ok (.aload 4, 2) := by decide +kernel
theorem dX1_copyLots_40 : decode cX1_copyLots 40 = .ok (.aload_n 3, 1) := by decide +kernel
theorem dX1_copyLots_41 : decode cX1_copyLots 41 = .ok (.invokevirtual 82, 3) := by decide +kernel
theorem dX1_copyLots_44 : decode cX1_copyLots 44 = .ok (.iinc 2 1, 3) := by decide +kernel
theorem dX1_copyLots_47 : decode cX1_copyLots 47 = .ok (.goto (-45), 3) := by decide +kernel
theorem dX1_copyLots_50 : decode cX1_copyLots 50 = .ok (.return_, 1) := by decide +kernel
theorem dX1_copyOrders_0 : decode cX1_copyOrders 0 = .ok (.iconst 0, 1) := by decide +kernel
theorem dX1_copyOrders_1 : decode cX1_copyOrders 1 = .ok (.istore_n 2, 1) := by decide +kernel
theorem dX1_copyOrders_2 : decode cX1_copyOrders 2 = .ok (.iload_n 2, 1) := by decide +kernel
theorem dX1_copyOrders_3 : decode cX1_copyOrders 3 = .ok (.aload_n 0, 1) := by decide +kernel
theorem dX1_copyOrders_4 : decode cX1_copyOrders 4 = .ok (.getfield 25, 3) := by decide +kernel
theorem dX1_copyOrders_7 : decode cX1_copyOrders 7 = .ok (.arraylength, 1) := by decide +kernel
theorem dX1_copyOrders_8 : decode cX1_copyOrders 8 = .ok (.if_icmp .ge 42, 3) := by decide +kernel
theorem dX1_copyOrders_11 : decode cX1_copyOrders 11 = .ok (.iload_n 2, 1) := by decide +kernel
theorem dX1_copyOrders_12 : decode cX1_copyOrders 12 = .ok (.aload_n 1, 1) := by decide +kernel
theorem dX1_copyOrders_13 : decode cX1_copyOrders 13 = .ok (.arraylength, 1) := by decide +kernel
theorem dX1_copyOrders_14 : decode cX1_copyOrders 14 = .ok (.if_icmp .ge 36, 3) := by decide +kernel
theorem dX1_copyOrders_17 : decode cX1_copyOrders 17 = .ok (.aload_n 1, 1) := by decide +kernel
theorem dX1_copyOrders_18 : decode cX1_copyOrders 18 = .ok (.iload_n 2, 1) := by decide +kernel
theorem dX1_copyOrders_19 : decode cX1_copyOrders 19 = .ok (.aaload, 1) := by decide +kernel
theorem dX1_copyOrders_20 : decode cX1_copyOrders 20 = .ok (.astore_n 3, 1) := by decide +kernel
theorem dX1_copyOrders_21 : decode cX1_copyOrders 21 = .ok (.aload_n 0, 1) := by decide +kernel
theorem dX1_copyOrders_22 : decode cX1_copyOrders 22 = .ok (.getfield 25, 3) := by decide +kernel
theorem dX1_copyOrders_25 : decode cX1_copyOrders 25 = .ok (.iload_n 2, 1) := by decide +kernel
theorem dX1_copyOrders_26 : decode cX1_copyOrders 26 = .ok (.aaload, 1) := by decide +kernel
theorem dX1_copyOrders_27 : decode cX1_copyOrders 27 = .ok (.astore 4, 2) := by decide +kernel
theorem dX1_copyOrders_29 : decode cX1_copyOrders 29 = .ok (.aload_n 3, 1) := by decide +kernel
theorem dX1_copyOrders_30 : decode cX1_copyOrders 30 = .ok (.ifnull 14, 3) := by decide +kernel
theorem dX1_copyOrders_33 : decode cX1_copyOrders 33 = .ok (.aload 4, 2) := by decide +kernel
theorem dX1_copyOrders_35 : decode cX1_copyOrders 35 = .ok (.ifnull 9, 3) := by decide +kernel
theorem dX1_copyOrders_38 : decode cX1_copyOrders 38 = .ok (.aload 4, 2) := by decide +kernel
theorem dX1_copyOrders_40 : decode cX1_copyOrders 40 = .ok (.aload_n 3, 1) := by decide +kernel
theorem dX1_copyOrders_41 : decode cX1_copyOrders 41 = .ok (.invokevirtual 85, 3) := by decide +kernel
theorem dX1_copyOrders_44 : decode cX1_copyOrders 44 = .ok (.iinc 2 1, 3) := by decide +kernel
theorem dX1_copyOrders_47 : decode cX1_copyOrders 47 = .ok (.goto (-45), 3) := by decide +kernel
theorem dX1_copyOrders_50 : decode cX1_copyOrders 50 = .ok (.return_, 1) := by decide +kernel
theorem dX1_findVat_0 : decode cX1_findVat 0 = .ok (.iload_n 1, 1) := by decide +kernel
theorem dX1_findVat_1 : decode cX1_findVat 1 = .ok (.ifCond .lt 24, 3) := by decide +kernel
theorem dX1_findVat_4 : decode cX1_findVat 4 = .ok (.iload_n 1, 1) := by decide +kernel
theorem dX1_findVat_5 : decode cX1_findVat 5 = .ok (.aload_n 0, 1) := by decide +kernel
theorem dX1_findVat_6 : decode cX1_findVat 6 = .ok (.getfield 46, 3) := by decide +kernel
theorem dX1_findVat_9 : decode cX1_findVat 9 = .ok (.if_icmp .ge 16, 3) := by decide +kernel
theorem dX1_findVat_12 : decode cX1_findVat 12 = .ok (.iload_n 1, 1) := by decide +kernel
theorem dX1_findVat_13 : decode cX1_findVat 13 = .ok (.aload_n 0, 1) := by decide +kernel
theorem dX1_findVat_14 : decode cX1_findVat 14 = .ok (.getfield 11, 3) := by decide +kernel
theorem dX1_findVat_17 : decode cX1_findVat 17 = .ok (.arraylength, 1) := by decide +kernel
theorem dX1_findVat_18 : decode cX1_findVat 18 = .ok (.if_icmp .ge 7, 3) := by decide +kernel
theorem dX1_findVat_21 : decode cX1_findVat 21 = .ok (.iconst 1, 1) := by decide +kernel
theorem dX1_findVat_22 : decode cX1_findVat 22 = .ok (.goto 4, 3) := by decide +kernel
theorem dX1_findVat_25 : decode cX1_findVat 25 = .ok (.iconst 0, 1) := by decide +kernel
theorem dX1_findVat_26 : decode cX1_findVat 26 = .ok (.istore_n 2, 1) := by decide +kernel
theorem dX1_findVat_27 : decode cX1_findVat 27 = .ok (.iload_n 2, 1) := by decide +kernel
theorem dX1_findVat_28 : decode cX1_findVat 28 = .ok (.ifCond .eq 12, 3) := by decide +kernel
theorem dX1_findVat_31 : decode cX1_findVat 31 = .ok (.aload_n 0, 1) := by decide +kernel
theorem dX1_findVat_32 : decode cX1_findVat 32 = .ok (.getfield 11, 3) := by decide +kernel
theorem dX1_findVat_35 : decode cX1_findVat 35 = .ok (.iload_n 1, 1) := by decide +kernel
theorem dX1_findVat_36 : decode cX1_findVat 36 = .ok (.aaload, 1) := by decide +kernel
theorem dX1_findVat_37 : decode cX1_findVat 37 = .ok (.goto 4, 3) := by decide +kernel
theorem dX1_findVat_40 : decode cX1_findVat 40 = .ok (.aconst_null, 1) := by decide +kernel
theorem dX1_findVat_41 : decode cX1_findVat 41 = .ok (.areturn, 1) := by decide +kernel
theorem dX1_findLot_0 : decode cX1_findLot 0 = .ok (.iload_n 1, 1) := by decide +kernel
theorem dX1_findLot_1 : decode cX1_findLot 1 = .ok (.ifCond .lt 24, 3) := by decide +kernel
theorem dX1_findLot_4 : decode cX1_findLot 4 = .ok (.iload_n 1, 1) := by decide +kernel
theorem dX1_findLot_5 : decode cX1_findLot 5 = .ok (.aload_n 0, 1) := by decide +kernel
theorem dX1_findLot_6 : decode cX1_findLot 6 = .ok (.getfield 50, 3) := by decide +kernel
theorem dX1_findLot_9 : decode cX1_findLot 9 = .ok (.if_icmp .ge 16, 3) := by decide +kernel
theorem dX1_findLot_12 : decode cX1_findLot 12 = .ok (.iload_n 1, 1) := by decide +kernel
theorem dX1_findLot_13 : decode cX1_findLot 13 = .ok (.aload_n 0, 1) := by decide +kernel
theorem dX1_findLot_14 : decode cX1_findLot 14 = .ok (.getfield 19, 3) := by decide +kernel
theorem dX1_findLot_17 : decode cX1_findLot 17 = .ok (.arraylength, 1) := by decide +kernel
theorem dX1_findLot_18 : decode cX1_findLot 18 = .ok (.if_icmp .ge 7, 3) := by decide +kernel
theorem dX1_findLot_21 : decode cX1_findLot 21 = .ok (.iconst 1, 1) := by decide +kernel
theorem dX1_findLot_22 : decode cX1_findLot 22 = .ok (.goto 4, 3) := by decide +kernel
theorem dX1_findLot_25 : decode cX1_findLot 25 = .ok (.iconst 0, 1) := by decide +kernel
theorem dX1_findLot_26 : decode cX1_findLot 26 = .ok (.istore_n 2, 1) := by decide +kernel
theorem dX1_findLot_27 : decode cX1_findLot 27 = .ok (.iload_n 2, 1) := by decide +kernel
theorem dX1_findLot_28 : decode cX1_findLot 28 = .ok (.ifCond .eq 12, 3) := by decide +kernel
theorem dX1_findLot_31 : decode cX1_findLot 31 = .ok (.aload_n 0, 1) := by decide +kernel
theorem dX1_findLot_32 : decode cX1_findLot 32 = .ok (.getfield 19, 3) := by decide +kernel
theorem dX1_findLot_35 : decode cX1_findLot 35 = .ok (.iload_n 1, 1) := by decide +kernel
theorem dX1_findLot_36 : decode cX1_findLot 36 = .ok (.aaload, 1) := by decide +kernel
theorem dX1_findLot_37 : decode cX1_findLot 37 = .ok (.goto 4, 3) := by decide +kernel
theorem dX1_findLot_40 : decode cX1_findLot 40 = .ok (.aconst_null, 1) := by decide +kernel
theorem dX1_findLot_41 : decode cX1_findLot 41 = .ok (.areturn, 1) := by decide +kernel
theorem dX1_findOrder_0 : decode cX1_findOrder 0 = .ok (.iload_n 1, 1) := by decide +kernel
theorem dX1_findOrder_1 : decode cX1_findOrder 1 = .ok (.ifCond .lt 24, 3) := by decide +kernel
theorem dX1_findOrder_4 : decode cX1_findOrder 4 = .ok (.iload_n 1, 1) := by decide +kernel
theorem dX1_findOrder_5 : decode cX1_findOrder 5 = .ok (.aload_n 0, 1) := by decide +kernel
theorem dX1_findOrder_6 : decode cX1_findOrder 6 = .ok (.getfield 53, 3) := by decide +kernel
theorem dX1_findOrder_9 : decode cX1_findOrder 9 = .ok (.if_icmp .ge 16, 3) := by decide +kernel
theorem dX1_findOrder_12 : decode cX1_findOrder 12 = .ok (.iload_n 1, 1) := by decide +kernel
theorem dX1_findOrder_13 : decode cX1_findOrder 13 = .ok (.aload_n 0, 1) := by decide +kernel
theorem dX1_findOrder_14 : decode cX1_findOrder 14 = .ok (.getfield 25, 3) := by decide +kernel
theorem dX1_findOrder_17 : decode cX1_findOrder 17 = .ok (.arraylength, 1) := by decide +kernel
theorem dX1_findOrder_18 : decode cX1_findOrder 18 = .ok (.if_icmp .ge 7, 3) := by decide +kernel
theorem dX1_findOrder_21 : decode cX1_findOrder 21 = .ok (.iconst 1, 1) := by decide +kernel
theorem dX1_findOrder_22 : decode cX1_findOrder 22 = .ok (.goto 4, 3) := by decide +kernel
theorem dX1_findOrder_25 : decode cX1_findOrder 25 = .ok (.iconst 0, 1) := by decide +kernel
theorem dX1_findOrder_26 : decode cX1_findOrder 26 = .ok (.istore_n 2, 1) := by decide +kernel
theorem dX1_findOrder_27 : decode cX1_findOrder 27 = .ok (.iload_n 2, 1) := by decide +kernel
theorem dX1_findOrder_28 : decode cX1_findOrder 28 = .ok (.ifCond .eq 12, 3) := by decide +kernel
theorem dX1_findOrder_31 : decode cX1_findOrder 31 = .ok (.aload_n 0, 1) := by decide +kernel
theorem dX1_findOrder_32 : decode cX1_findOrder 32 = .ok (.getfield 25, 3) := by decide +kernel
theorem dX1_findOrder_35 : decode cX1_findOrder 35 = .ok (.iload_n 1, 1) := by decide +kernel
theorem dX1_findOrder_36 : decode cX1_findOrder 36 = .ok (.aaload, 1) := by decide +kernel
theorem dX1_findOrder_37 : decode cX1_findOrder 37 = .ok (.goto 4, 3) := by decide +kernel
theorem dX1_findOrder_40 : decode cX1_findOrder 40 = .ok (.aconst_null, 1) := by decide +kernel
theorem dX1_findOrder_41 : decode cX1_findOrder 41 = .ok (.areturn, 1) := by decide +kernel
theorem dX1_addVat_0 : decode cX1_addVat 0 = .ok (.iload_n 1, 1) := by decide +kernel
theorem dX1_addVat_1 : decode cX1_addVat 1 = .ok (.invokestatic 88, 3) := by decide +kernel
theorem dX1_addVat_4 : decode cX1_addVat 4 = .ok (.ifCond .eq 16, 3) := by decide +kernel
theorem dX1_addVat_7 : decode cX1_addVat 7 = .ok (.iload_n 2, 1) := by decide +kernel
theorem dX1_addVat_8 : decode cX1_addVat 8 = .ok (.bipush 10, 2) := by decide +kernel
theorem dX1_addVat_10 : decode cX1_addVat 10 = .ok (.if_icmp .lt 10, 3) := by decide +kernel
theorem dX1_addVat_13 : decode cX1_addVat 13 = .ok (.iload_n 2, 1) := by decide +kernel
theorem dX1_addVat_14 : decode cX1_addVat 14 = .ok (.sipush 1000, 3) := by decide +kernel
theorem dX1_addVat_17 : decode cX1_addVat 17 = .ok (.if_icmp .le 5, 3) := by decide +kernel
theorem dX1_addVat_20 : decode cX1_addVat 20 = .ok (.iconst (-1), 1) := by decide +kernel
theorem dX1_addVat_21 : decode cX1_addVat 21 = .ok (.ireturn, 1) := by decide +kernel
theorem dX1_addVat_22 : decode cX1_addVat 22 = .ok (.aload_n 0, 1) := by decide +kernel
theorem dX1_addVat_23 : decode cX1_addVat 23 = .ok (.getfield 46, 3) := by decide +kernel
theorem dX1_addVat_26 : decode cX1_addVat 26 = .ok (.aload_n 0, 1) := by decide +kernel
theorem dX1_addVat_27 : decode cX1_addVat 27 = .ok (.getfield 11, 3) := by decide +kernel
theorem dX1_addVat_30 : decode cX1_addVat 30 = .ok (.arraylength, 1) := by decide +kernel
theorem dX1_addVat_31 : decode cX1_addVat 31 = .ok (.if_icmp .lt 6, 3) := by decide +kernel
theorem dX1_addVat_34 : decode cX1_addVat 34 = .ok (.bipush (-3), 2) := by decide +kernel
theorem dX1_addVat_36 : decode cX1_addVat 36 = .ok (.ireturn, 1) := by decide +kernel
theorem dX1_addVat_37 : decode cX1_addVat 37 = .ok (.aload_n 0, 1) := by decide +kernel
theorem dX1_addVat_38 : decode cX1_addVat 38 = .ok (.dup, 1) := by decide +kernel
theorem dX1_addVat_39 : decode cX1_addVat 39 = .ok (.getfield 46, 3) := by decide +kernel
theorem dX1_addVat_42 : decode cX1_addVat 42 = .ok (.iconst 1, 1) := by decide +kernel
theorem dX1_addVat_43 : decode cX1_addVat 43 = .ok (.iadd, 1) := by decide +kernel
theorem dX1_addVat_44 : decode cX1_addVat 44 = .ok (.putfield 46, 3) := by decide +kernel
theorem dX1_addVat_47 : decode cX1_addVat 47 = .ok (.aload_n 0, 1) := by decide +kernel
theorem dX1_addVat_48 : decode cX1_addVat 48 = .ok (.aload_n 0, 1) := by decide +kernel
theorem dX1_addVat_49 : decode cX1_addVat 49 = .ok (.getfield 46, 3) := by decide +kernel
theorem dX1_addVat_52 : decode cX1_addVat 52 = .ok (.iconst 1, 1) := by decide +kernel
theorem dX1_addVat_53 : decode cX1_addVat 53 = .ok (.isub, 1) := by decide +kernel
theorem dX1_addVat_54 : decode cX1_addVat 54 = .ok (.invokevirtual 92, 3) := by decide +kernel
theorem dX1_addVat_57 : decode cX1_addVat 57 = .ok (.astore_n 3, 1) := by decide +kernel
theorem dX1_addVat_58 : decode cX1_addVat 58 = .ok (.aload_n 3, 1) := by decide +kernel
theorem dX1_addVat_59 : decode cX1_addVat 59 = .ok (.ifnull 13, 3) := by decide +kernel
theorem dX1_addVat_62 : decode cX1_addVat 62 = .ok (.aload_n 3, 1) := by decide +kernel
theorem dX1_addVat_63 : decode cX1_addVat 63 = .ok (.iload_n 1, 1) := by decide +kernel
theorem dX1_addVat_64 : decode cX1_addVat 64 = .ok (.putfield 96, 3) := by decide +kernel
theorem dX1_addVat_67 : decode cX1_addVat 67 = .ok (.aload_n 3, 1) := by decide +kernel
theorem dX1_addVat_68 : decode cX1_addVat 68 = .ok (.iload_n 2, 1) := by decide +kernel
theorem dX1_addVat_69 : decode cX1_addVat 69 = .ok (.putfield 99, 3) := by decide +kernel
theorem dX1_addVat_72 : decode cX1_addVat 72 = .ok (.aload_n 0, 1) := by decide +kernel
theorem dX1_addVat_73 : decode cX1_addVat 73 = .ok (.getfield 46, 3) := by decide +kernel
theorem dX1_addVat_76 : decode cX1_addVat 76 = .ok (.iconst 1, 1) := by decide +kernel
theorem dX1_addVat_77 : decode cX1_addVat 77 = .ok (.isub, 1) := by decide +kernel
theorem dX1_addVat_78 : decode cX1_addVat 78 = .ok (.ireturn, 1) := by decide +kernel
theorem dX1_weighInto_0 : decode cX1_weighInto 0 = .ok (.aload_n 0, 1) := by decide +kernel
theorem dX1_weighInto_1 : decode cX1_weighInto 1 = .ok (.iload_n 1, 1) := by decide +kernel
theorem dX1_weighInto_2 : decode cX1_weighInto 2 = .ok (.invokevirtual 92, 3) := by decide +kernel
theorem dX1_weighInto_5 : decode cX1_weighInto 5 = .ok (.astore_n 3, 1) := by decide +kernel
theorem dX1_weighInto_6 : decode cX1_weighInto 6 = .ok (.aload_n 3, 1) := by decide +kernel
theorem dX1_weighInto_7 : decode cX1_weighInto 7 = .ok (.ifnull 14, 3) := by decide +kernel
theorem dX1_weighInto_10 : decode cX1_weighInto 10 = .ok (.iload_n 2, 1) := by decide +kernel
theorem dX1_weighInto_11 : decode cX1_weighInto 11 = .ok (.iconst 1, 1) := by decide +kernel
theorem dX1_weighInto_12 : decode cX1_weighInto 12 = .ok (.if_icmp .lt 9, 3) := by decide +kernel
theorem dX1_weighInto_15 : decode cX1_weighInto 15 = .ok (.iload_n 2, 1) := by decide +kernel
theorem dX1_weighInto_16 : decode cX1_weighInto 16 = .ok (.ldc 102, 2) := by decide +kernel
theorem dX1_weighInto_18 : decode cX1_weighInto 18 = .ok (.if_icmp .le 5, 3) := by decide +kernel
theorem dX1_weighInto_21 : decode cX1_weighInto 21 = .ok (.iconst (-1), 1) := by decide +kernel
theorem dX1_weighInto_22 : decode cX1_weighInto 22 = .ok (.ireturn, 1) := by decide +kernel
theorem dX1_weighInto_23 : decode cX1_weighInto 23 = .ok (.aload_n 0, 1) := by decide +kernel
theorem dX1_weighInto_24 : decode cX1_weighInto 24 = .ok (.getfield 29, 3) := by decide +kernel
theorem dX1_weighInto_27 : decode cX1_weighInto 27 = .ok (.aload_n 3, 1) := by decide +kernel
theorem dX1_weighInto_28 : decode cX1_weighInto 28 = .ok (.getfield 96, 3) := by decide +kernel
theorem dX1_weighInto_31 : decode cX1_weighInto 31 = .ok (.invokestatic 103, 3) := by decide +kernel
theorem dX1_weighInto_34 : decode cX1_weighInto 34 = .ok (.iload_n 2, 1) := by decide +kernel
theorem dX1_weighInto_35 : decode cX1_weighInto 35 = .ok (.iadd, 1) := by decide +kernel
theorem dX1_weighInto_36 : decode cX1_weighInto 36 = .ok (.ldc 107, 2) := by decide +kernel
theorem dX1_weighInto_38 : decode cX1_weighInto 38 = .ok (.if_icmp .le 6, 3) := by decide +kernel
theorem dX1_weighInto_41 : decode cX1_weighInto 41 = .ok (.bipush (-3), 2) := by decide +kernel
theorem dX1_weighInto_43 : decode cX1_weighInto 43 = .ok (.ireturn, 1) := by decide +kernel
theorem dX1_weighInto_44 : decode cX1_weighInto 44 = .ok (.aload_n 0, 1) := by decide +kernel
theorem dX1_weighInto_45 : decode cX1_weighInto 45 = .ok (.getfield 29, 3) := by decide +kernel
theorem dX1_weighInto_48 : decode cX1_weighInto 48 = .ok (.aload_n 3, 1) := by decide +kernel
theorem dX1_weighInto_49 : decode cX1_weighInto 49 = .ok (.getfield 96, 3) := by decide +kernel
theorem dX1_weighInto_52 : decode cX1_weighInto 52 = .ok (.iload_n 2, 1) := by decide +kernel
theorem dX1_weighInto_53 : decode cX1_weighInto 53 = .ok (.invokestatic 108, 3) := by decide +kernel
theorem dX1_weighInto_56 : decode cX1_weighInto 56 = .ok (.aload_n 3, 1) := by decide +kernel
theorem dX1_weighInto_57 : decode cX1_weighInto 57 = .ok (.dup, 1) := by decide +kernel
theorem dX1_weighInto_58 : decode cX1_weighInto 58 = .ok (.getfield 112, 3) := by decide +kernel
theorem dX1_weighInto_61 : decode cX1_weighInto 61 = .ok (.iload_n 2, 1) := by decide +kernel
theorem dX1_weighInto_62 : decode cX1_weighInto 62 = .ok (.iadd, 1) := by decide +kernel
theorem dX1_weighInto_63 : decode cX1_weighInto 63 = .ok (.putfield 112, 3) := by decide +kernel
theorem dX1_weighInto_66 : decode cX1_weighInto 66 = .ok (.aload_n 3, 1) := by decide +kernel
theorem dX1_weighInto_67 : decode cX1_weighInto 67 = .ok (.getfield 112, 3) := by decide +kernel
theorem dX1_weighInto_70 : decode cX1_weighInto 70 = .ok (.ireturn, 1) := by decide +kernel
theorem dX1_drainVat_0 : decode cX1_drainVat 0 = .ok (.aload_n 0, 1) := by decide +kernel
theorem dX1_drainVat_1 : decode cX1_drainVat 1 = .ok (.iload_n 1, 1) := by decide +kernel
theorem dX1_drainVat_2 : decode cX1_drainVat 2 = .ok (.invokevirtual 92, 3) := by decide +kernel
theorem dX1_drainVat_5 : decode cX1_drainVat 5 = .ok (.astore_n 2, 1) := by decide +kernel
theorem dX1_drainVat_6 : decode cX1_drainVat 6 = .ok (.aload_n 2, 1) := by decide +kernel
theorem dX1_drainVat_7 : decode cX1_drainVat 7 = .ok (.ifnonnull 5, 3) := by decide +kernel
theorem dX1_drainVat_10 : decode cX1_drainVat 10 = .ok (.iconst (-1), 1) := by decide +kernel
theorem dX1_drainVat_11 : decode cX1_drainVat 11 = .ok (.ireturn, 1) := by decide +kernel
theorem dX1_drainVat_12 : decode cX1_drainVat 12 = .ok (.aload_n 2, 1) := by decide +kernel
theorem dX1_drainVat_13 : decode cX1_drainVat 13 = .ok (.getfield 112, 3) := by decide +kernel
theorem dX1_drainVat_16 : decode cX1_drainVat 16 = .ok (.istore_n 3, 1) := by decide +kernel
theorem dX1_drainVat_17 : decode cX1_drainVat 17 = .ok (.aload_n 0, 1) := by decide +kernel
theorem dX1_drainVat_18 : decode cX1_drainVat 18 = .ok (.getfield 33, 3) := by decide +kernel
theorem dX1_drainVat_21 : decode cX1_drainVat 21 = .ok (.aload_n 2, 1) := by decide +kernel
theorem dX1_drainVat_22 : decode cX1_drainVat 22 = .ok (.getfield 96, 3) := by decide +kernel
theorem dX1_drainVat_25 : decode cX1_drainVat 25 = .ok (.iload_n 3, 1) := by decide +kernel
theorem dX1_drainVat_26 : decode cX1_drainVat 26 = .ok (.invokestatic 108, 3) := by decide +kernel
theorem dX1_drainVat_29 : decode cX1_drainVat 29 = .ok (.aload_n 2, 1) := by decide +kernel
theorem dX1_drainVat_30 : decode cX1_drainVat 30 = .ok (.iconst 0, 1) := by decide +kernel
theorem dX1_drainVat_31 : decode cX1_drainVat 31 = .ok (.putfield 112, 3) := by decide +kernel
theorem dX1_drainVat_34 : decode cX1_drainVat 34 = .ok (.aload_n 2, 1) := by decide +kernel
theorem dX1_drainVat_35 : decode cX1_drainVat 35 = .ok (.iconst 0, 1) := by decide +kernel
theorem dX1_drainVat_36 : decode cX1_drainVat 36 = .ok (.putfield 115, 3) := by decide +kernel
theorem dX1_drainVat_39 : decode cX1_drainVat 39 = .ok (.iload_n 3, 1) := by decide +kernel
theorem dX1_drainVat_40 : decode cX1_drainVat 40 = .ok (.ireturn, 1) := by decide +kernel
theorem dX1_addLot_0 : decode cX1_addLot 0 = .ok (.iload_n 1, 1) := by decide +kernel
theorem dX1_addLot_1 : decode cX1_addLot 1 = .ok (.ifCond .eq 8, 3) := by decide +kernel
theorem dX1_addLot_4 : decode cX1_addLot 4 = .ok (.iload_n 1, 1) := by decide +kernel
theorem dX1_addLot_5 : decode cX1_addLot 5 = .ok (.iconst 1, 1) := by decide +kernel
theorem dX1_addLot_6 : decode cX1_addLot 6 = .ok (.if_icmp .ne 16, 3) := by decide +kernel
theorem dX1_addLot_9 : decode cX1_addLot 9 = .ok (.iload_n 2, 1) := by decide +kernel
theorem dX1_addLot_10 : decode cX1_addLot 10 = .ok (.bipush 100, 2) := by decide +kernel
theorem dX1_addLot_12 : decode cX1_addLot 12 = .ok (.if_icmp .lt 10, 3) := by decide +kernel
theorem dX1_addLot_15 : decode cX1_addLot 15 = .ok (.iload_n 2, 1) := by decide +kernel
theorem dX1_addLot_16 : decode cX1_addLot 16 = .ok (.sipush 5000, 3) := by decide +kernel
theorem dX1_addLot_19 : decode cX1_addLot 19 = .ok (.if_icmp .le 5, 3) := by decide +kernel
theorem dX1_addLot_22 : decode cX1_addLot 22 = .ok (.iconst (-1), 1) := by decide +kernel
theorem dX1_addLot_23 : decode cX1_addLot 23 = .ok (.ireturn, 1) := by decide +kernel
theorem dX1_addLot_24 : decode cX1_addLot 24 = .ok (.aload_n 0, 1) := by decide +kernel
theorem dX1_addLot_25 : decode cX1_addLot 25 = .ok (.getfield 50, 3) := by decide +kernel
theorem dX1_addLot_28 : decode cX1_addLot 28 = .ok (.aload_n 0, 1) := by decide +kernel
theorem dX1_addLot_29 : decode cX1_addLot 29 = .ok (.getfield 19, 3) := by decide +kernel
theorem dX1_addLot_32 : decode cX1_addLot 32 = .ok (.arraylength, 1) := by decide +kernel
theorem dX1_addLot_33 : decode cX1_addLot 33 = .ok (.if_icmp .lt 6, 3) := by decide +kernel
theorem dX1_addLot_36 : decode cX1_addLot 36 = .ok (.bipush (-3), 2) := by decide +kernel
theorem dX1_addLot_38 : decode cX1_addLot 38 = .ok (.ireturn, 1) := by decide +kernel
theorem dX1_addLot_39 : decode cX1_addLot 39 = .ok (.aload_n 0, 1) := by decide +kernel
theorem dX1_addLot_40 : decode cX1_addLot 40 = .ok (.dup, 1) := by decide +kernel
theorem dX1_addLot_41 : decode cX1_addLot 41 = .ok (.getfield 50, 3) := by decide +kernel
theorem dX1_addLot_44 : decode cX1_addLot 44 = .ok (.iconst 1, 1) := by decide +kernel
theorem dX1_addLot_45 : decode cX1_addLot 45 = .ok (.iadd, 1) := by decide +kernel
theorem dX1_addLot_46 : decode cX1_addLot 46 = .ok (.putfield 50, 3) := by decide +kernel
theorem dX1_addLot_49 : decode cX1_addLot 49 = .ok (.aload_n 0, 1) := by decide +kernel
theorem dX1_addLot_50 : decode cX1_addLot 50 = .ok (.aload_n 0, 1) := by decide +kernel
theorem dX1_addLot_51 : decode cX1_addLot 51 = .ok (.getfield 50, 3) := by decide +kernel
theorem dX1_addLot_54 : decode cX1_addLot 54 = .ok (.iconst 1, 1) := by decide +kernel
theorem dX1_addLot_55 : decode cX1_addLot 55 = .ok (.isub, 1) := by decide +kernel
theorem dX1_addLot_56 : decode cX1_addLot 56 = .ok (.invokevirtual 118, 3) := by decide +kernel
theorem dX1_addLot_59 : decode cX1_addLot 59 = .ok (.astore_n 3, 1) := by decide +kernel
theorem dX1_addLot_60 : decode cX1_addLot 60 = .ok (.aload_n 3, 1) := by decide +kernel
theorem dX1_addLot_61 : decode cX1_addLot 61 = .ok (.ifnull 13, 3) := by decide +kernel
theorem dX1_addLot_64 : decode cX1_addLot 64 = .ok (.aload_n 3, 1) := by decide +kernel
theorem dX1_addLot_65 : decode cX1_addLot 65 = .ok (.iload_n 1, 1) := by decide +kernel
theorem dX1_addLot_66 : decode cX1_addLot 66 = .ok (.putfield 122, 3) := by decide +kernel
theorem dX1_addLot_69 : decode cX1_addLot 69 = .ok (.aload_n 3, 1) := by decide +kernel
theorem dX1_addLot_70 : decode cX1_addLot 70 = .ok (.iload_n 2, 1) := by decide +kernel
theorem dX1_addLot_71 : decode cX1_addLot 71 = .ok (.putfield 125, 3) := by decide +kernel
theorem dX1_addLot_74 : decode cX1_addLot 74 = .ok (.aload_n 0, 1) := by decide +kernel
theorem dX1_addLot_75 : decode cX1_addLot 75 = .ok (.getfield 50, 3) := by decide +kernel
theorem dX1_addLot_78 : decode cX1_addLot 78 = .ok (.iconst 1, 1) := by decide +kernel
theorem dX1_addLot_79 : decode cX1_addLot 79 = .ok (.isub, 1) := by decide +kernel
theorem dX1_addLot_80 : decode cX1_addLot 80 = .ok (.ireturn, 1) := by decide +kernel
theorem dX1_dipLot_0 : decode cX1_dipLot 0 = .ok (.aload_n 0, 1) := by decide +kernel
theorem dX1_dipLot_1 : decode cX1_dipLot 1 = .ok (.iload_n 1, 1) := by decide +kernel
theorem dX1_dipLot_2 : decode cX1_dipLot 2 = .ok (.invokevirtual 118, 3) := by decide +kernel
theorem dX1_dipLot_5 : decode cX1_dipLot 5 = .ok (.astore_n 3, 1) := by decide +kernel
theorem dX1_dipLot_6 : decode cX1_dipLot 6 = .ok (.aload_n 0, 1) := by decide +kernel
theorem dX1_dipLot_7 : decode cX1_dipLot 7 = .ok (.iload_n 2, 1) := by decide +kernel
theorem dX1_dipLot_8 : decode cX1_dipLot 8 = .ok (.invokevirtual 92, 3) := by decide +kernel
theorem dX1_dipLot_11 : decode cX1_dipLot 11 = .ok (.astore 4, 2) := by decide +kernel
theorem dX1_dipLot_13 : decode cX1_dipLot 13 = .ok (.aload_n 3, 1) := by decide +kernel
theorem dX1_dipLot_14 : decode cX1_dipLot 14 = .ok (.ifnull 8, 3) := by decide +kernel
theorem dX1_dipLot_17 : decode cX1_dipLot 17 = .ok (.aload 4, 2) := by decide +kernel
theorem dX1_dipLot_19 : decode cX1_dipLot 19 = .ok (.ifnonnull 5, 3) := by decide +kernel
theorem dX1_dipLot_22 : decode cX1_dipLot 22 = .ok (.iconst (-1), 1) := by decide +kernel
theorem dX1_dipLot_23 : decode cX1_dipLot 23 = .ok (.ireturn, 1) := by decide +kernel
theorem dX1_dipLot_24 : decode cX1_dipLot 24 = .ok (.aload_n 3, 1) := by decide +kernel
theorem dX1_dipLot_25 : decode cX1_dipLot 25 = .ok (.invokevirtual 128, 3) := by decide +kernel
theorem dX1_dipLot_28 : decode cX1_dipLot 28 = .ok (.ifCond .ne 18, 3) := by decide +kernel
theorem dX1_dipLot_31 : decode cX1_dipLot 31 = .ok (.aload_n 3, 1) := by decide +kernel
theorem dX1_dipLot_32 : decode cX1_dipLot 32 = .ok (.getfield 132, 3) := by decide +kernel
theorem dX1_dipLot_35 : decode cX1_dipLot 35 = .ok (.ifCond .ne 11, 3) := by decide +kernel
theorem dX1_dipLot_38 : decode cX1_dipLot 38 = .ok (.aload 4, 2) := by decide +kernel
theorem dX1_dipLot_40 : decode cX1_dipLot 40 = .ok (.getfield 112, 3) := by decide +kernel
theorem dX1_dipLot_43 : decode cX1_dipLot 43 = .ok (.ifCond .gt 6, 3) := by decide +kernel
theorem dX1_dipLot_46 : decode cX1_dipLot 46 = .ok (.bipush (-2), 2) := by decide +kernel
theorem dX1_dipLot_48 : decode cX1_dipLot 48 = .ok (.ireturn, 1) := by decide +kernel
theorem dX1_dipLot_49 : decode cX1_dipLot 49 = .ok (.aload_n 0, 1) := by decide +kernel
theorem dX1_dipLot_50 : decode cX1_dipLot 50 = .ok (.dup, 1) := by decide +kernel
theorem dX1_dipLot_51 : decode cX1_dipLot 51 = .ok (.getfield 56, 3) := by decide +kernel
theorem dX1_dipLot_54 : decode cX1_dipLot 54 = .ok (.iconst 1, 1) := by decide +kernel
theorem dX1_dipLot_55 : decode cX1_dipLot 55 = .ok (.iadd, 1) := by decide +kernel
theorem dX1_dipLot_56 : decode cX1_dipLot 56 = .ok (.putfield 56, 3) := by decide +kernel
theorem dX1_dipLot_59 : decode cX1_dipLot 59 = .ok (.aload_n 3, 1) := by decide +kernel
theorem dX1_dipLot_60 : decode cX1_dipLot 60 = .ok (.aload 4, 2) := by decide +kernel
theorem dX1_dipLot_62 : decode cX1_dipLot 62 = .ok (.aload_n 0, 1) := by decide +kernel
theorem dX1_dipLot_63 : decode cX1_dipLot 63 = .ok (.getfield 39, 3) := by decide +kernel
theorem dX1_dipLot_66 : decode cX1_dipLot 66 = .ok (.invokevirtual 136, 3) := by decide +kernel
theorem dX1_dipLot_69 : decode cX1_dipLot 69 = .ok (.ireturn, 1) := by decide +kernel
theorem dX1_rinseLot_0 : decode cX1_rinseLot 0 = .ok (.aload_n 0, 1) := by decide +kernel
theorem dX1_rinseLot_1 : decode cX1_rinseLot 1 = .ok (.iload_n 1, 1) := by decide +kernel
theorem dX1_rinseLot_2 : decode cX1_rinseLot 2 = .ok (.invokevirtual 118, 3) := by decide +kernel
theorem dX1_rinseLot_5 : decode cX1_rinseLot 5 = .ok (.astore_n 2, 1) := by decide +kernel
theorem dX1_rinseLot_6 : decode cX1_rinseLot 6 = .ok (.aload_n 2, 1) := by decide +kernel
theorem dX1_rinseLot_7 : decode cX1_rinseLot 7 = .ok (.ifnonnull 5, 3) := by decide +kernel
theorem dX1_rinseLot_10 : decode cX1_rinseLot 10 = .ok (.iconst (-1), 1) := by decide +kernel
theorem dX1_rinseLot_11 : decode cX1_rinseLot 11 = .ok (.ireturn, 1) := by decide +kernel
theorem dX1_rinseLot_12 : decode cX1_rinseLot 12 = .ok (.aload_n 2, 1) := by decide +kernel
theorem dX1_rinseLot_13 : decode cX1_rinseLot 13 = .ok (.invokevirtual 128, 3) := by decide +kernel
theorem dX1_rinseLot_16 : decode cX1_rinseLot 16 = .ok (.ifCond .ne 10, 3) := by decide +kernel
theorem dX1_rinseLot_19 : decode cX1_rinseLot 19 = .ok (.aload_n 2, 1) := by decide +kernel
theorem dX1_rinseLot_20 : decode cX1_rinseLot 20 = .ok (.getfield 132, 3) := by decide +kernel
theorem dX1_rinseLot_23 : decode cX1_rinseLot 23 = .ok (.ifCond .eq 6, 3) := by decide +kernel
theorem dX1_rinseLot_26 : decode cX1_rinseLot 26 = .ok (.bipush (-2), 2) := by decide +kernel
theorem dX1_rinseLot_28 : decode cX1_rinseLot 28 = .ok (.ireturn, 1) := by decide +kernel
theorem dX1_rinseLot_29 : decode cX1_rinseLot 29 = .ok (.aload_n 2, 1) := by decide +kernel
theorem dX1_rinseLot_30 : decode cX1_rinseLot 30 = .ok (.getfield 140, 3) := by decide +kernel
theorem dX1_rinseLot_33 : decode cX1_rinseLot 33 = .ok (.invokestatic 143, 3) := by decide +kernel
theorem dX1_rinseLot_36 : decode cX1_rinseLot 36 = .ok (.istore_n 3, 1) := by decide +kernel
theorem dX1_rinseLot_37 : decode cX1_rinseLot 37 = .ok (.iconst 0, 1) := by decide +kernel
theorem dX1_rinseLot_38 : decode cX1_rinseLot 38 = .ok (.istore 4, 2) := by decide +kernel
theorem dX1_rinseLot_40 : decode cX1_rinseLot 40 = .ok (.iload 4, 2) := by decide +kernel
theorem dX1_rinseLot_42 : decode cX1_rinseLot 42 = .ok (.iconst 4, 1) := by decide +kernel
theorem dX1_rinseLot_43 : decode cX1_rinseLot 43 = .ok (.if_icmp .ge 37, 3) := by decide +kernel
theorem dX1_rinseLot_46 : decode cX1_rinseLot 46 = .ok (.aload_n 0, 1) := by decide +kernel
theorem dX1_rinseLot_47 : decode cX1_rinseLot 47 = .ok (.getfield 33, 3) := by decide +kernel
theorem dX1_rinseLot_50 : decode cX1_rinseLot 50 = .ok (.iload 4, 2) := by decide +kernel
theorem dX1_rinseLot_52 : decode cX1_rinseLot 52 = .ok (.aload_n 2, 1) := by decide +kernel
theorem dX1_rinseLot_53 : decode cX1_rinseLot 53 = .ok (.getfield 140, 3) := by decide +kernel
theorem dX1_rinseLot_56 : decode cX1_rinseLot 56 = .ok (.iload 4, 2) := by decide +kernel
theorem dX1_rinseLot_58 : decode cX1_rinseLot 58 = .ok (.invokestatic 103, 3) := by decide +kernel
theorem dX1_rinseLot_61 : decode cX1_rinseLot 61 = .ok (.invokestatic 108, 3) := by decide +kernel
theorem dX1_rinseLot_64 : decode cX1_rinseLot 64 = .ok (.aload_n 2, 1) := by decide +kernel
theorem dX1_rinseLot_65 : decode cX1_rinseLot 65 = .ok (.getfield 140, 3) := by decide +kernel
theorem dX1_rinseLot_68 : decode cX1_rinseLot 68 = .ok (.iload 4, 2) := by decide +kernel
theorem dX1_rinseLot_70 : decode cX1_rinseLot 70 = .ok (.iconst 0, 1) := by decide +kernel
theorem dX1_rinseLot_71 : decode cX1_rinseLot 71 = .ok (.invokestatic 147, 3) := by decide +kernel
theorem dX1_rinseLot_74 : decode cX1_rinseLot 74 = .ok (.iinc 4 1, 3) := by decide +kernel
theorem dX1_rinseLot_77 : decode cX1_rinseLot 77 = .ok (.goto (-37), 3) := by decide +kernel
theorem dX1_rinseLot_80 : decode cX1_rinseLot 80 = .ok (.iload_n 3, 1) := by decide +kernel
theorem dX1_rinseLot_81 : decode cX1_rinseLot 81 = .ok (.ireturn, 1) := by decide +kernel
theorem dX1_hangLot_0 : decode cX1_hangLot 0 = .ok (.aload_n 0, 1) := by decide +kernel
theorem dX1_hangLot_1 : decode cX1_hangLot 1 = .ok (.iload_n 1, 1) := by decide +kernel
theorem dX1_hangLot_2 : decode cX1_hangLot 2 = .ok (.invokevirtual 118, 3) := by decide +kernel
theorem dX1_hangLot_5 : decode cX1_hangLot 5 = .ok (.astore_n 3, 1) := by decide +kernel
theorem dX1_hangLot_6 : decode cX1_hangLot 6 = .ok (.aload_n 3, 1) := by decide +kernel
theorem dX1_hangLot_7 : decode cX1_hangLot 7 = .ok (.ifnull 12, 3) := by decide +kernel
theorem dX1_hangLot_10 : decode cX1_hangLot 10 = .ok (.iload_n 2, 1) := by decide +kernel
theorem dX1_hangLot_11 : decode cX1_hangLot 11 = .ok (.ifCond .eq 10, 3) := by decide +kernel
theorem dX1_hangLot_14 : decode cX1_hangLot 14 = .ok (.iload_n 2, 1) := by decide +kernel
theorem dX1_hangLot_15 : decode cX1_hangLot 15 = .ok (.iconst 1, 1) := by decide +kernel
theorem dX1_hangLot_16 : decode cX1_hangLot 16 = .ok (.if_icmp .eq 5, 3) := by decide +kernel
theorem dX1_hangLot_19 : decode cX1_hangLot 19 = .ok (.iconst (-1), 1) := by decide +kernel
theorem dX1_hangLot_20 : decode cX1_hangLot 20 = .ok (.ireturn, 1) := by decide +kernel
theorem dX1_hangLot_21 : decode cX1_hangLot 21 = .ok (.aload_n 3, 1) := by decide +kernel
theorem dX1_hangLot_22 : decode cX1_hangLot 22 = .ok (.invokevirtual 128, 3) := by decide +kernel
theorem dX1_hangLot_25 : decode cX1_hangLot 25 = .ok (.ifCond .ne 18, 3) := by decide +kernel
theorem dX1_hangLot_28 : decode cX1_hangLot 28 = .ok (.aload_n 3, 1) := by decide +kernel
theorem dX1_hangLot_29 : decode cX1_hangLot 29 = .ok (.getfield 132, 3) := by decide +kernel
theorem dX1_hangLot_32 : decode cX1_hangLot 32 = .ok (.ifCond .ne 11, 3) := by decide +kernel
theorem dX1_hangLot_35 : decode cX1_hangLot 35 = .ok (.aload_n 3, 1) := by decide +kernel
theorem dX1_hangLot_36 : decode cX1_hangLot 36 = .ok (.getfield 122, 3) := by decide +kernel
theorem dX1_hangLot_39 : decode cX1_hangLot 39 = .ok (.iload_n 2, 1) := by decide +kernel
theorem dX1_hangLot_40 : decode cX1_hangLot 40 = .ok (.if_icmp .eq 6, 3) := by decide +kernel
theorem dX1_hangLot_43 : decode cX1_hangLot 43 = .ok (.bipush (-2), 2) := by decide +kernel
theorem dX1_hangLot_45 : decode cX1_hangLot 45 = .ok (.ireturn, 1) := by decide +kernel
theorem dX1_hangLot_46 : decode cX1_hangLot 46 = .ok (.aload_n 0, 1) := by decide +kernel
theorem dX1_hangLot_47 : decode cX1_hangLot 47 = .ok (.iload_n 2, 1) := by decide +kernel
theorem dX1_hangLot_48 : decode cX1_hangLot 48 = .ok (.invokevirtual 150, 3) := by decide +kernel
theorem dX1_hangLot_51 : decode cX1_hangLot 51 = .ok (.iconst 4, 1) := by decide +kernel
theorem dX1_hangLot_52 : decode cX1_hangLot 52 = .ok (.if_icmp .lt 6, 3) := by decide +kernel
theorem dX1_hangLot_55 : decode cX1_hangLot 55 = .ok (.bipush (-3), 2) := by decide +kernel
theorem dX1_hangLot_57 : decode cX1_hangLot 57 = .ok (.ireturn, 1) := by decide +kernel
theorem dX1_hangLot_58 : decode cX1_hangLot 58 = .ok (.aload_n 3, 1) := by decide +kernel
theorem dX1_hangLot_59 : decode cX1_hangLot 59 = .ok (.iconst 1, 1) := by decide +kernel
theorem dX1_hangLot_60 : decode cX1_hangLot 60 = .ok (.putfield 132, 3) := by decide +kernel
theorem dX1_hangLot_63 : decode cX1_hangLot 63 = .ok (.aload_n 0, 1) := by decide +kernel
theorem dX1_hangLot_64 : decode cX1_hangLot 64 = .ok (.iload_n 2, 1) := by decide +kernel
theorem dX1_hangLot_65 : decode cX1_hangLot 65 = .ok (.invokevirtual 150, 3) := by decide +kernel
theorem dX1_hangLot_68 : decode cX1_hangLot 68 = .ok (.ireturn, 1) := by decide +kernel
theorem dX1_takeDown_0 : decode cX1_takeDown 0 = .ok (.aload_n 0, 1) := by decide +kernel
theorem dX1_takeDown_1 : decode cX1_takeDown 1 = .ok (.iload_n 1, 1) := by decide +kernel
theorem dX1_takeDown_2 : decode cX1_takeDown 2 = .ok (.invokevirtual 118, 3) := by decide +kernel
theorem dX1_takeDown_5 : decode cX1_takeDown 5 = .ok (.astore_n 2, 1) := by decide +kernel
theorem dX1_takeDown_6 : decode cX1_takeDown 6 = .ok (.aload_n 2, 1) := by decide +kernel
theorem dX1_takeDown_7 : decode cX1_takeDown 7 = .ok (.ifnonnull 5, 3) := by decide +kernel
theorem dX1_takeDown_10 : decode cX1_takeDown 10 = .ok (.iconst (-1), 1) := by decide +kernel
theorem dX1_takeDown_11 : decode cX1_takeDown 11 = .ok (.ireturn, 1) := by decide +kernel
theorem dX1_takeDown_12 : decode cX1_takeDown 12 = .ok (.aload_n 2, 1) := by decide +kernel
theorem dX1_takeDown_13 : decode cX1_takeDown 13 = .ok (.getfield 132, 3) := by decide +kernel
theorem dX1_takeDown_16 : decode cX1_takeDown 16 = .ok (.ifCond .ne 6, 3) := by decide +kernel
theorem dX1_takeDown_19 : decode cX1_takeDown 19 = .ok (.bipush (-2), 2) := by decide +kernel
theorem dX1_takeDown_21 : decode cX1_takeDown 21 = .ok (.ireturn, 1) := by decide +kernel
theorem dX1_takeDown_22 : decode cX1_takeDown 22 = .ok (.aload_n 2, 1) := by decide +kernel
theorem dX1_takeDown_23 : decode cX1_takeDown 23 = .ok (.iconst 0, 1) := by decide +kernel
theorem dX1_takeDown_24 : decode cX1_takeDown 24 = .ok (.putfield 132, 3) := by decide +kernel
theorem dX1_takeDown_27 : decode cX1_takeDown 27 = .ok (.aload_n 0, 1) := by decide +kernel
theorem dX1_takeDown_28 : decode cX1_takeDown 28 = .ok (.aload_n 2, 1) := by decide +kernel
theorem dX1_takeDown_29 : decode cX1_takeDown 29 = .ok (.getfield 122, 3) := by decide +kernel
theorem dX1_takeDown_32 : decode cX1_takeDown 32 = .ok (.invokevirtual 150, 3) := by decide +kernel
theorem dX1_takeDown_35 : decode cX1_takeDown 35 = .ok (.ireturn, 1) := by decide +kernel
theorem dX1_addOrder_0 : decode cX1_addOrder 0 = .ok (.iload_n 1, 1) := by decide +kernel
theorem dX1_addOrder_1 : decode cX1_addOrder 1 = .ok (.invokestatic 154, 3) := by decide +kernel
theorem dX1_addOrder_4 : decode cX1_addOrder 4 = .ok (.ifCond .eq 25, 3) := by decide +kernel
theorem dX1_addOrder_7 : decode cX1_addOrder 7 = .ok (.iload_n 2, 1) := by decide +kernel
theorem dX1_addOrder_8 : decode cX1_addOrder 8 = .ok (.invokestatic 154, 3) := by decide +kernel
theorem dX1_addOrder_11 : decode cX1_addOrder 11 = .ok (.ifCond .eq 18, 3) := by decide +kernel
theorem dX1_addOrder_14 : decode cX1_addOrder 14 = .ok (.iload_n 3, 1) := by decide +kernel
theorem dX1_addOrder_15 : decode cX1_addOrder 15 = .ok (.invokestatic 154, 3) := by decide +kernel
theorem dX1_addOrder_18 : decode cX1_addOrder 18 = .ok (.ifCond .eq 11, 3) := by decide +kernel
theorem dX1_addOrder_21 : decode cX1_addOrder 21 = .ok (.iload 4, 2) := by decide +kernel
theorem dX1_addOrder_23 : decode cX1_addOrder 23 = .ok (.invokestatic 154, 3) := by decide +kernel
theorem dX1_addOrder_26 : decode cX1_addOrder 26 = .ok (.ifCond .ne 5, 3) := by decide +kernel
theorem dX1_addOrder_29 : decode cX1_addOrder 29 = .ok (.iconst (-1), 1) := by decide +kernel
theorem dX1_addOrder_30 : decode cX1_addOrder 30 = .ok (.ireturn, 1) := by decide +kernel
theorem dX1_addOrder_31 : decode cX1_addOrder 31 = .ok (.aload_n 0, 1) := by decide +kernel
theorem dX1_addOrder_32 : decode cX1_addOrder 32 = .ok (.getfield 53, 3) := by decide +kernel
theorem dX1_addOrder_35 : decode cX1_addOrder 35 = .ok (.aload_n 0, 1) := by decide +kernel
theorem dX1_addOrder_36 : decode cX1_addOrder 36 = .ok (.getfield 25, 3) := by decide +kernel
theorem dX1_addOrder_39 : decode cX1_addOrder 39 = .ok (.arraylength, 1) := by decide +kernel
theorem dX1_addOrder_40 : decode cX1_addOrder 40 = .ok (.if_icmp .ge 12, 3) := by decide +kernel
theorem dX1_addOrder_43 : decode cX1_addOrder 43 = .ok (.aload_n 0, 1) := by decide +kernel
theorem dX1_addOrder_44 : decode cX1_addOrder 44 = .ok (.invokevirtual 157, 3) := by decide +kernel
theorem dX1_addOrder_47 : decode cX1_addOrder 47 = .ok (.bipush 8, 2) := by decide +kernel
theorem dX1_addOrder_49 : decode cX1_addOrder 49 = .ok (.if_icmp .lt 6, 3) := by decide +kernel
theorem dX1_addOrder_52 : decode cX1_addOrder 52 = .ok (.bipush (-3), 2) := by decide +kernel
theorem dX1_addOrder_54 : decode cX1_addOrder 54 = .ok (.ireturn, 1) := by decide +kernel
theorem dX1_addOrder_55 : decode cX1_addOrder 55 = .ok (.aload_n 0, 1) := by decide +kernel
theorem dX1_addOrder_56 : decode cX1_addOrder 56 = .ok (.dup, 1) := by decide +kernel
theorem dX1_addOrder_57 : decode cX1_addOrder 57 = .ok (.getfield 53, 3) := by decide +kernel
theorem dX1_addOrder_60 : decode cX1_addOrder 60 = .ok (.iconst 1, 1) := by decide +kernel
theorem dX1_addOrder_61 : decode cX1_addOrder 61 = .ok (.iadd, 1) := by decide +kernel
theorem dX1_addOrder_62 : decode cX1_addOrder 62 = .ok (.putfield 53, 3) := by decide +kernel
theorem dX1_addOrder_65 : decode cX1_addOrder 65 = .ok (.aload_n 0, 1) := by decide +kernel
theorem dX1_addOrder_66 : decode cX1_addOrder 66 = .ok (.aload_n 0, 1) := by decide +kernel
theorem dX1_addOrder_67 : decode cX1_addOrder 67 = .ok (.getfield 53, 3) := by decide +kernel
theorem dX1_addOrder_70 : decode cX1_addOrder 70 = .ok (.iconst 1, 1) := by decide +kernel
theorem dX1_addOrder_71 : decode cX1_addOrder 71 = .ok (.isub, 1) := by decide +kernel
theorem dX1_addOrder_72 : decode cX1_addOrder 72 = .ok (.invokevirtual 161, 3) := by decide +kernel
theorem dX1_addOrder_75 : decode cX1_addOrder 75 = .ok (.astore 5, 2) := by decide +kernel
theorem dX1_addOrder_77 : decode cX1_addOrder 77 = .ok (.aload 5, 2) := by decide +kernel
theorem dX1_addOrder_79 : decode cX1_addOrder 79 = .ok (.ifnull 13, 3) := by decide +kernel
theorem dX1_addOrder_82 : decode cX1_addOrder 82 = .ok (.aload 5, 2) := by decide +kernel
theorem dX1_addOrder_84 : decode cX1_addOrder 84 = .ok (.iload_n 1, 1) := by decide +kernel
theorem dX1_addOrder_85 : decode cX1_addOrder 85 = .ok (.iload_n 2, 1) := by decide +kernel
theorem dX1_addOrder_86 : decode cX1_addOrder 86 = .ok (.iload_n 3, 1) := by decide +kernel
theorem dX1_addOrder_87 : decode cX1_addOrder 87 = .ok (.iload 4, 2) := by decide +kernel
theorem dX1_addOrder_89 : decode cX1_addOrder 89 = .ok (.invokevirtual 165, 3) := by decide +kernel
theorem dX1_addOrder_92 : decode cX1_addOrder 92 = .ok (.aload_n 0, 1) := by decide +kernel
theorem dX1_addOrder_93 : decode cX1_addOrder 93 = .ok (.getfield 53, 3) := by decide +kernel
theorem dX1_addOrder_96 : decode cX1_addOrder 96 = .ok (.iconst 1, 1) := by decide +kernel
theorem dX1_addOrder_97 : decode cX1_addOrder 97 = .ok (.isub, 1) := by decide +kernel
theorem dX1_addOrder_98 : decode cX1_addOrder 98 = .ok (.ireturn, 1) := by decide +kernel
theorem dX1_isAskable_0 : decode cX1_isAskable 0 = .ok (.iload_n 0, 1) := by decide +kernel
theorem dX1_isAskable_1 : decode cX1_isAskable 1 = .ok (.ifCond .lt 14, 3) := by decide +kernel
theorem dX1_isAskable_4 : decode cX1_isAskable 4 = .ok (.iload_n 0, 1) := by decide +kernel
theorem dX1_isAskable_5 : decode cX1_isAskable 5 = .ok (.sipush 20000, 3) := by decide +kernel
theorem dX1_isAskable_8 : decode cX1_isAskable 8 = .ok (.if_icmp .gt 7, 3) := by decide +kernel
theorem dX1_isAskable_11 : decode cX1_isAskable 11 = .ok (.iconst 1, 1) := by decide +kernel
theorem dX1_isAskable_12 : decode cX1_isAskable 12 = .ok (.goto 4, 3) := by decide +kernel
theorem dX1_isAskable_15 : decode cX1_isAskable 15 = .ok (.iconst 0, 1) := by decide +kernel
theorem dX1_isAskable_16 : decode cX1_isAskable 16 = .ok (.ireturn, 1) := by decide +kernel
theorem dX1_sellLot_0 : decode cX1_sellLot 0 = .ok (.aload_n 0, 1) := by decide +kernel
theorem dX1_sellLot_1 : decode cX1_sellLot 1 = .ok (.iload_n 1, 1) := by decide +kernel
theorem dX1_sellLot_2 : decode cX1_sellLot 2 = .ok (.invokevirtual 118, 3) := by decide +kernel
theorem dX1_sellLot_5 : decode cX1_sellLot 5 = .ok (.astore_n 3, 1) := by decide +kernel
theorem dX1_sellLot_6 : decode cX1_sellLot 6 = .ok (.aload_n 0, 1) := by decide +kernel
theorem dX1_sellLot_7 : decode cX1_sellLot 7 = .ok (.iload_n 2, 1) := by decide +kernel
theorem dX1_sellLot_8 : decode cX1_sellLot 8 = .ok (.invokevirtual 161, 3) := by decide +kernel
theorem dX1_sellLot_11 : decode cX1_sellLot 11 = .ok (.astore 4, 2) := by decide +kernel
theorem dX1_sellLot_13 : decode cX1_sellLot 13 = .ok (.aload_n 3, 1) := by decide +kernel
theorem dX1_sellLot_14 : decode cX1_sellLot 14 = .ok (.ifnull 8, 3) := by decide +kernel
theorem dX1_sellLot_17 : decode cX1_sellLot 17 = .ok (.aload 4, 2) := by decide +kernel
theorem dX1_sellLot_19 : decode cX1_sellLot 19 = .ok (.ifnonnull 5, 3) := by decide +kernel
theorem dX1_sellLot_22 : decode cX1_sellLot 22 = .ok (.iconst (-1), 1) := by decide +kernel
theorem dX1_sellLot_23 : decode cX1_sellLot 23 = .ok (.ireturn, 1) := by decide +kernel
theorem dX1_sellLot_24 : decode cX1_sellLot 24 = .ok (.aload_n 3, 1) := by decide +kernel
theorem dX1_sellLot_25 : decode cX1_sellLot 25 = .ok (.invokevirtual 128, 3) := by decide +kernel
theorem dX1_sellLot_28 : decode cX1_sellLot 28 = .ok (.ifCond .ne 31, 3) := by decide +kernel
theorem dX1_sellLot_31 : decode cX1_sellLot 31 = .ok (.aload_n 3, 1) := by decide +kernel
theorem dX1_sellLot_32 : decode cX1_sellLot 32 = .ok (.getfield 132, 3) := by decide +kernel
theorem dX1_sellLot_35 : decode cX1_sellLot 35 = .ok (.ifCond .eq 24, 3) := by decide +kernel
theorem dX1_sellLot_38 : decode cX1_sellLot 38 = .ok (.aload 4, 2) := by decide +kernel
theorem dX1_sellLot_40 : decode cX1_sellLot 40 = .ok (.getfield 169, 3) := by decide +kernel
theorem dX1_sellLot_43 : decode cX1_sellLot 43 = .ok (.ifCond .ne 16, 3) := by decide +kernel
theorem dX1_sellLot_46 : decode cX1_sellLot 46 = .ok (.aload 4, 2) := by decide +kernel
theorem dX1_sellLot_48 : decode cX1_sellLot 48 = .ok (.aload_n 3, 1) := by decide +kernel
theorem dX1_sellLot_49 : decode cX1_sellLot 49 = .ok (.aload_n 0, 1) := by decide +kernel
theorem dX1_sellLot_50 : decode cX1_sellLot 50 = .ok (.getfield 39, 3) := by decide +kernel
theorem dX1_sellLot_53 : decode cX1_sellLot 53 = .ok (.invokevirtual 172, 3) := by decide +kernel
theorem dX1_sellLot_56 : decode cX1_sellLot 56 = .ok (.ifCond .ne 6, 3) := by decide +kernel
theorem dX1_sellLot_59 : decode cX1_sellLot 59 = .ok (.bipush (-2), 2) := by decide +kernel
theorem dX1_sellLot_61 : decode cX1_sellLot 61 = .ok (.ireturn, 1) := by decide +kernel
theorem dX1_sellLot_62 : decode cX1_sellLot 62 = .ok (.aload_n 3, 1) := by decide +kernel
theorem dX1_sellLot_63 : decode cX1_sellLot 63 = .ok (.iload_n 2, 1) := by decide +kernel
theorem dX1_sellLot_64 : decode cX1_sellLot 64 = .ok (.putfield 176, 3) := by decide +kernel
theorem dX1_sellLot_67 : decode cX1_sellLot 67 = .ok (.aload_n 3, 1) := by decide +kernel
theorem dX1_sellLot_68 : decode cX1_sellLot 68 = .ok (.iconst 0, 1) := by decide +kernel
theorem dX1_sellLot_69 : decode cX1_sellLot 69 = .ok (.putfield 132, 3) := by decide +kernel
theorem dX1_sellLot_72 : decode cX1_sellLot 72 = .ok (.aload 4, 2) := by decide +kernel
theorem dX1_sellLot_74 : decode cX1_sellLot 74 = .ok (.iconst 1, 1) := by decide +kernel
theorem dX1_sellLot_75 : decode cX1_sellLot 75 = .ok (.putfield 169, 3) := by decide +kernel
theorem dX1_sellLot_78 : decode cX1_sellLot 78 = .ok (.aload_n 3, 1) := by decide +kernel
theorem dX1_sellLot_79 : decode cX1_sellLot 79 = .ok (.getfield 125, 3) := by decide +kernel
theorem dX1_sellLot_82 : decode cX1_sellLot 82 = .ok (.ireturn, 1) := by decide +kernel
theorem dX1_doWork_0 : decode cX1_doWork 0 = .ok (.iload_n 1, 1) := by decide +kernel
theorem dX1_doWork_1 : decode cX1_doWork 1 = .ok (.tableswitch 122 100 116 #[83, 109, 122, 122, 96, 122, 122, 122, 122, 122, 122, 122, 122, 122, 90, 115, 103], 83) := by decide +kernel
theorem dX1_doWork_84 : decode cX1_doWork 84 = .ok (.aload_n 0, 1) := by decide +kernel
theorem dX1_doWork_85 : decode cX1_doWork 85 = .ok (.iload_n 2, 1) := by decide +kernel
theorem dX1_doWork_86 : decode cX1_doWork 86 = .ok (.iload_n 3, 1) := by decide +kernel
theorem dX1_doWork_87 : decode cX1_doWork 87 = .ok (.invokevirtual 179, 3) := by decide +kernel
theorem dX1_doWork_90 : decode cX1_doWork 90 = .ok (.ireturn, 1) := by decide +kernel
theorem dX1_doWork_91 : decode cX1_doWork 91 = .ok (.aload_n 0, 1) := by decide +kernel
theorem dX1_doWork_92 : decode cX1_doWork 92 = .ok (.iload_n 2, 1) := by decide +kernel
theorem dX1_doWork_93 : decode cX1_doWork 93 = .ok (.invokevirtual 183, 3) := by decide +kernel
theorem dX1_doWork_96 : decode cX1_doWork 96 = .ok (.ireturn, 1) := by decide +kernel
theorem dX1_doWork_97 : decode cX1_doWork 97 = .ok (.aload_n 0, 1) := by decide +kernel
theorem dX1_doWork_98 : decode cX1_doWork 98 = .ok (.iload_n 2, 1) := by decide +kernel
theorem dX1_doWork_99 : decode cX1_doWork 99 = .ok (.iload_n 3, 1) := by decide +kernel
theorem dX1_doWork_100 : decode cX1_doWork 100 = .ok (.invokevirtual 186, 3) := by decide +kernel
theorem dX1_doWork_103 : decode cX1_doWork 103 = .ok (.ireturn, 1) := by decide +kernel
theorem dX1_doWork_104 : decode cX1_doWork 104 = .ok (.aload_n 0, 1) := by decide +kernel
theorem dX1_doWork_105 : decode cX1_doWork 105 = .ok (.iload_n 2, 1) := by decide +kernel
theorem dX1_doWork_106 : decode cX1_doWork 106 = .ok (.invokevirtual 189, 3) := by decide +kernel
theorem dX1_doWork_109 : decode cX1_doWork 109 = .ok (.ireturn, 1) := by decide +kernel
theorem dX1_doWork_110 : decode cX1_doWork 110 = .ok (.aload_n 0, 1) := by decide +kernel
theorem dX1_doWork_111 : decode cX1_doWork 111 = .ok (.iload_n 2, 1) := by decide +kernel
theorem dX1_doWork_112 : decode cX1_doWork 112 = .ok (.invokevirtual 192, 3) := by decide +kernel
theorem dX1_doWork_115 : decode cX1_doWork 115 = .ok (.ireturn, 1) := by decide +kernel
theorem dX1_doWork_116 : decode cX1_doWork 116 = .ok (.aload_n 0, 1) := by decide +kernel
theorem dX1_doWork_117 : decode cX1_doWork 117 = .ok (.iload_n 2, 1) := by decide +kernel
theorem dX1_doWork_118 : decode cX1_doWork 118 = .ok (.iload_n 3, 1) := by decide +kernel
theorem dX1_doWork_119 : decode cX1_doWork 119 = .ok (.invokevirtual 195, 3) := by decide +kernel
theorem dX1_doWork_122 : decode cX1_doWork 122 = .ok (.ireturn, 1) := by decide +kernel
theorem dX1_doWork_123 : decode cX1_doWork 123 = .ok (.iconst (-1), 1) := by decide +kernel
theorem dX1_doWork_124 : decode cX1_doWork 124 = .ok (.ireturn, 1) := by decide +kernel
theorem dX1_vatsAheadOf_0 : decode cX1_vatsAheadOf 0 = .ok (.aload_n 0, 1) := by decide +kernel
theorem dX1_vatsAheadOf_1 : decode cX1_vatsAheadOf 1 = .ok (.iload_n 1, 1) := by decide +kernel
theorem dX1_vatsAheadOf_2 : decode cX1_vatsAheadOf 2 = .ok (.invokevirtual 92, 3) := by decide +kernel
theorem dX1_vatsAheadOf_5 : decode cX1_vatsAheadOf 5 = .ok (.astore_n 2, 1) := by decide +kernel
theorem dX1_vatsAheadOf_6 : decode cX1_vatsAheadOf 6 = .ok (.iconst 0, 1) := by decide +kernel
theorem dX1_vatsAheadOf_7 : decode cX1_vatsAheadOf 7 = .ok (.istore_n 3, 1) := by decide +kernel
theorem dX1_vatsAheadOf_8 : decode cX1_vatsAheadOf 8 = .ok (.iconst 0, 1) := by decide +kernel
theorem dX1_vatsAheadOf_9 : decode cX1_vatsAheadOf 9 = .ok (.istore 4, 2) := by decide +kernel
theorem dX1_vatsAheadOf_11 : decode cX1_vatsAheadOf 11 = .ok (.iload 4, 2) := by decide +kernel
theorem dX1_vatsAheadOf_13 : decode cX1_vatsAheadOf 13 = .ok (.aload_n 0, 1) := by decide +kernel
theorem dX1_vatsAheadOf_14 : decode cX1_vatsAheadOf 14 = .ok (.getfield 46, 3) := by decide +kernel
theorem dX1_vatsAheadOf_17 : decode cX1_vatsAheadOf 17 = .ok (.if_icmp .ge 65, 3) := by decide +kernel
theorem dX1_vatsAheadOf_20 : decode cX1_vatsAheadOf 20 = .ok (.aload_n 2, 1) := by decide +kernel
theorem dX1_vatsAheadOf_21 : decode cX1_vatsAheadOf 21 = .ok (.ifnull 61, 3) := by decide +kernel
theorem dX1_vatsAheadOf_24 : decode cX1_vatsAheadOf 24 = .ok (.aload_n 0, 1) := by decide +kernel
theorem dX1_vatsAheadOf_25 : decode cX1_vatsAheadOf 25 = .ok (.iload 4, 2) := by decide +kernel
theorem dX1_vatsAheadOf_27 : decode cX1_vatsAheadOf 27 = .ok (.invokevirtual 92, 3) := by decide +kernel
theorem dX1_vatsAheadOf_30 : decode cX1_vatsAheadOf 30 = .ok (.astore 5, 2) := by decide +kernel
theorem dX1_vatsAheadOf_32 : decode cX1_vatsAheadOf 32 = .ok (.aload 5, 2) := by decide +kernel
theorem dX1_vatsAheadOf_34 : decode cX1_vatsAheadOf 34 = .ok (.ifnull 42, 3) := by decide +kernel
theorem dX1_vatsAheadOf_37 : decode cX1_vatsAheadOf 37 = .ok (.iload 4, 2) := by decide +kernel
theorem dX1_vatsAheadOf_39 : decode cX1_vatsAheadOf 39 = .ok (.iload_n 1, 1) := by decide +kernel
theorem dX1_vatsAheadOf_40 : decode cX1_vatsAheadOf 40 = .ok (.if_icmp .ne 6, 3) := by decide +kernel
theorem dX1_vatsAheadOf_43 : decode cX1_vatsAheadOf 43 = .ok (.goto 33, 3) := by decide +kernel
theorem dX1_vatsAheadOf_46 : decode cX1_vatsAheadOf 46 = .ok (.iload 4, 2) := by decide +kernel
theorem dX1_vatsAheadOf_48 : decode cX1_vatsAheadOf 48 = .ok (.iload_n 1, 1) := by decide +kernel
theorem dX1_vatsAheadOf_49 : decode cX1_vatsAheadOf 49 = .ok (.if_icmp .ge 15, 3) := by decide +kernel
theorem dX1_vatsAheadOf_52 : decode cX1_vatsAheadOf 52 = .ok (.aload 5, 2) := by decide +kernel
theorem dX1_vatsAheadOf_54 : decode cX1_vatsAheadOf 54 = .ok (.aload_n 2, 1) := by decide +kernel
theorem dX1_vatsAheadOf_55 : decode cX1_vatsAheadOf 55 = .ok (.invokevirtual 198, 3) := by decide +kernel
theorem dX1_vatsAheadOf_58 : decode cX1_vatsAheadOf 58 = .ok (.ifCond .eq 18, 3) := by decide +kernel
theorem dX1_vatsAheadOf_61 : decode cX1_vatsAheadOf 61 = .ok (.goto 12, 3) := by decide +kernel
theorem dX1_vatsAheadOf_64 : decode cX1_vatsAheadOf 64 = .ok (.aload_n 2, 1) := by decide +kernel
theorem dX1_vatsAheadOf_65 : decode cX1_vatsAheadOf 65 = .ok (.aload 5, 2) := by decide +kernel
theorem dX1_vatsAheadOf_67 : decode cX1_vatsAheadOf 67 = .ok (.invokevirtual 198, 3) := by decide +kernel
theorem dX1_vatsAheadOf_70 : decode cX1_vatsAheadOf 70 = .ok (.ifCond .ne 6, 3) := by decide +kernel
theorem dX1_vatsAheadOf_73 : decode cX1_vatsAheadOf 73 = .ok (.iinc 3 1, 3) := by decide +kernel
theorem dX1_vatsAheadOf_76 : decode cX1_vatsAheadOf 76 = .ok (.iinc 4 1, 3) := by decide +kernel
theorem dX1_vatsAheadOf_79 : decode cX1_vatsAheadOf 79 = .ok (.goto (-68), 3) := by decide +kernel
theorem dX1_vatsAheadOf_82 : decode cX1_vatsAheadOf 82 = .ok (.iload_n 3, 1) := by decide +kernel
theorem dX1_vatsAheadOf_83 : decode cX1_vatsAheadOf 83 = .ok (.ireturn, 1) := by decide +kernel
theorem dX1_lotsOnRack_0 : decode cX1_lotsOnRack 0 = .ok (.iconst 0, 1) := by decide +kernel
theorem dX1_lotsOnRack_1 : decode cX1_lotsOnRack 1 = .ok (.istore_n 2, 1) := by decide +kernel
theorem dX1_lotsOnRack_2 : decode cX1_lotsOnRack 2 = .ok (.iconst 0, 1) := by decide +kernel
theorem dX1_lotsOnRack_3 : decode cX1_lotsOnRack 3 = .ok (.istore_n 3, 1) := by decide +kernel
theorem dX1_lotsOnRack_4 : decode cX1_lotsOnRack 4 = .ok (.iload_n 3, 1) := by decide +kernel
theorem dX1_lotsOnRack_5 : decode cX1_lotsOnRack 5 = .ok (.aload_n 0, 1) := by decide +kernel
theorem dX1_lotsOnRack_6 : decode cX1_lotsOnRack 6 = .ok (.getfield 50, 3) := by decide +kernel
theorem dX1_lotsOnRack_9 : decode cX1_lotsOnRack 9 = .ok (.if_icmp .ge 41, 3) := by decide +kernel
theorem dX1_lotsOnRack_12 : decode cX1_lotsOnRack 12 = .ok (.aload_n 0, 1) := by decide +kernel
theorem dX1_lotsOnRack_13 : decode cX1_lotsOnRack 13 = .ok (.iload_n 3, 1) := by decide +kernel
theorem dX1_lotsOnRack_14 : decode cX1_lotsOnRack 14 = .ok (.invokevirtual 118, 3) := by decide +kernel
theorem dX1_lotsOnRack_17 : decode cX1_lotsOnRack 17 = .ok (.astore 4, 2) := by decide +kernel
theorem dX1_lotsOnRack_19 : decode cX1_lotsOnRack 19 = .ok (.aload 4, 2) := by decide +kernel
theorem dX1_lotsOnRack_21 : decode cX1_lotsOnRack 21 = .ok (.ifnull 23, 3) := by decide +kernel
theorem dX1_lotsOnRack_24 : decode cX1_lotsOnRack 24 = .ok (.aload 4, 2) := by decide +kernel
theorem dX1_lotsOnRack_26 : decode cX1_lotsOnRack 26 = .ok (.getfield 132, 3) := by decide +kernel
theorem dX1_lotsOnRack_29 : decode cX1_lotsOnRack 29 = .ok (.ifCond .eq 15, 3) := by decide +kernel
theorem dX1_lotsOnRack_32 : decode cX1_lotsOnRack 32 = .ok (.aload 4, 2) := by decide +kernel
theorem dX1_lotsOnRack_34 : decode cX1_lotsOnRack 34 = .ok (.getfield 122, 3) := by decide +kernel
theorem dX1_lotsOnRack_37 : decode cX1_lotsOnRack 37 = .ok (.iload_n 1, 1) := by decide +kernel
theorem dX1_lotsOnRack_38 : decode cX1_lotsOnRack 38 = .ok (.if_icmp .ne 6, 3) := by decide +kernel
theorem dX1_lotsOnRack_41 : decode cX1_lotsOnRack 41 = .ok (.iinc 2 1, 3) := by decide +kernel
theorem dX1_lotsOnRack_44 : decode cX1_lotsOnRack 44 = .ok (.iinc 3 1, 3) := by decide +kernel
theorem dX1_lotsOnRack_47 : decode cX1_lotsOnRack 47 = .ok (.goto (-43), 3) := by decide +kernel
theorem dX1_lotsOnRack_50 : decode cX1_lotsOnRack 50 = .ok (.iload_n 2, 1) := by decide +kernel
theorem dX1_lotsOnRack_51 : decode cX1_lotsOnRack 51 = .ok (.ireturn, 1) := by decide +kernel
theorem dX1_openOrders_0 : decode cX1_openOrders 0 = .ok (.iconst 0, 1) := by decide +kernel
theorem dX1_openOrders_1 : decode cX1_openOrders 1 = .ok (.istore_n 1, 1) := by decide +kernel
theorem dX1_openOrders_2 : decode cX1_openOrders 2 = .ok (.iconst 0, 1) := by decide +kernel
theorem dX1_openOrders_3 : decode cX1_openOrders 3 = .ok (.istore_n 2, 1) := by decide +kernel
theorem dX1_openOrders_4 : decode cX1_openOrders 4 = .ok (.iload_n 2, 1) := by decide +kernel
theorem dX1_openOrders_5 : decode cX1_openOrders 5 = .ok (.aload_n 0, 1) := by decide +kernel
theorem dX1_openOrders_6 : decode cX1_openOrders 6 = .ok (.getfield 53, 3) := by decide +kernel
theorem dX1_openOrders_9 : decode cX1_openOrders 9 = .ok (.if_icmp .ge 29, 3) := by decide +kernel
theorem dX1_openOrders_12 : decode cX1_openOrders 12 = .ok (.aload_n 0, 1) := by decide +kernel
theorem dX1_openOrders_13 : decode cX1_openOrders 13 = .ok (.iload_n 2, 1) := by decide +kernel
theorem dX1_openOrders_14 : decode cX1_openOrders 14 = .ok (.invokevirtual 161, 3) := by decide +kernel
theorem dX1_openOrders_17 : decode cX1_openOrders 17 = .ok (.astore_n 3, 1) := by decide +kernel
theorem dX1_openOrders_18 : decode cX1_openOrders 18 = .ok (.aload_n 3, 1) := by decide +kernel
theorem dX1_openOrders_19 : decode cX1_openOrders 19 = .ok (.ifnull 13, 3) := by decide +kernel
theorem dX1_openOrders_22 : decode cX1_openOrders 22 = .ok (.aload_n 3, 1) := by decide +kernel
theorem dX1_openOrders_23 : decode cX1_openOrders 23 = .ok (.getfield 169, 3) := by decide +kernel
theorem dX1_openOrders_26 : decode cX1_openOrders 26 = .ok (.ifCond .ne 6, 3) := by decide +kernel
theorem dX1_openOrders_29 : decode cX1_openOrders 29 = .ok (.iinc 1 1, 3) := by decide +kernel
theorem dX1_openOrders_32 : decode cX1_openOrders 32 = .ok (.iinc 2 1, 3) := by decide +kernel
theorem dX1_openOrders_35 : decode cX1_openOrders 35 = .ok (.goto (-31), 3) := by decide +kernel
theorem dX1_openOrders_38 : decode cX1_openOrders 38 = .ok (.iload_n 1, 1) := by decide +kernel
theorem dX1_openOrders_39 : decode cX1_openOrders 39 = .ok (.ireturn, 1) := by decide +kernel
theorem dX1_lotsThatFit_0 : decode cX1_lotsThatFit 0 = .ok (.iconst 0, 1) := by decide +kernel
theorem dX1_lotsThatFit_1 : decode cX1_lotsThatFit 1 = .ok (.istore_n 2, 1) := by decide +kernel
theorem dX1_lotsThatFit_2 : decode cX1_lotsThatFit 2 = .ok (.iconst 0, 1) := by decide +kernel
theorem dX1_lotsThatFit_3 : decode cX1_lotsThatFit 3 = .ok (.istore_n 3, 1) := by decide +kernel
theorem dX1_lotsThatFit_4 : decode cX1_lotsThatFit 4 = .ok (.iload_n 3, 1) := by decide +kernel
theorem dX1_lotsThatFit_5 : decode cX1_lotsThatFit 5 = .ok (.aload_n 0, 1) := by decide +kernel
theorem dX1_lotsThatFit_6 : decode cX1_lotsThatFit 6 = .ok (.getfield 50, 3) := by decide +kernel
theorem dX1_lotsThatFit_9 : decode cX1_lotsThatFit 9 = .ok (.if_icmp .ge 45, 3) := by decide +kernel
theorem dX1_lotsThatFit_12 : decode cX1_lotsThatFit 12 = .ok (.aload_n 0, 1) := by decide +kernel
theorem dX1_lotsThatFit_13 : decode cX1_lotsThatFit 13 = .ok (.iload_n 3, 1) := by decide +kernel
theorem dX1_lotsThatFit_14 : decode cX1_lotsThatFit 14 = .ok (.invokevirtual 118, 3) := by decide +kernel
theorem dX1_lotsThatFit_17 : decode cX1_lotsThatFit 17 = .ok (.astore 4, 2) := by decide +kernel
theorem dX1_lotsThatFit_19 : decode cX1_lotsThatFit 19 = .ok (.aload 4, 2) := by decide +kernel
theorem dX1_lotsThatFit_21 : decode cX1_lotsThatFit 21 = .ok (.ifnull 27, 3) := by decide +kernel
theorem dX1_lotsThatFit_24 : decode cX1_lotsThatFit 24 = .ok (.aload 4, 2) := by decide +kernel
theorem dX1_lotsThatFit_26 : decode cX1_lotsThatFit 26 = .ok (.invokevirtual 128, 3) := by decide +kernel
theorem dX1_lotsThatFit_29 : decode cX1_lotsThatFit 29 = .ok (.ifCond .ne 19, 3) := by decide +kernel
theorem dX1_lotsThatFit_32 : decode cX1_lotsThatFit 32 = .ok (.aload_n 1, 1) := by decide +kernel
theorem dX1_lotsThatFit_33 : decode cX1_lotsThatFit 33 = .ok (.aload 4, 2) := by decide +kernel
theorem dX1_lotsThatFit_35 : decode cX1_lotsThatFit 35 = .ok (.aload_n 0, 1) := by decide +kernel
theorem dX1_lotsThatFit_36 : decode cX1_lotsThatFit 36 = .ok (.getfield 39, 3) := by decide +kernel
theorem dX1_lotsThatFit_39 : decode cX1_lotsThatFit 39 = .ok (.invokevirtual 172, 3) := by decide +kernel
theorem dX1_lotsThatFit_42 : decode cX1_lotsThatFit 42 = .ok (.ifCond .eq 6, 3) := by decide +kernel
theorem dX1_lotsThatFit_45 : decode cX1_lotsThatFit 45 = .ok (.iinc 2 1, 3) := by decide +kernel
theorem dX1_lotsThatFit_48 : decode cX1_lotsThatFit 48 = .ok (.iinc 3 1, 3) := by decide +kernel
theorem dX1_lotsThatFit_51 : decode cX1_lotsThatFit 51 = .ok (.goto (-47), 3) := by decide +kernel
theorem dX1_lotsThatFit_54 : decode cX1_lotsThatFit 54 = .ok (.iload_n 2, 1) := by decide +kernel
theorem dX1_lotsThatFit_55 : decode cX1_lotsThatFit 55 = .ok (.ireturn, 1) := by decide +kernel
theorem dX1_nearestLot_0 : decode cX1_nearestLot 0 = .ok (.bipush (-4), 2) := by decide +kernel
theorem dX1_nearestLot_2 : decode cX1_nearestLot 2 = .ok (.istore_n 2, 1) := by decide +kernel
theorem dX1_nearestLot_3 : decode cX1_nearestLot 3 = .ok (.iconst 0, 1) := by decide +kernel
theorem dX1_nearestLot_4 : decode cX1_nearestLot 4 = .ok (.istore_n 3, 1) := by decide +kernel
theorem dX1_nearestLot_5 : decode cX1_nearestLot 5 = .ok (.iconst 0, 1) := by decide +kernel
theorem dX1_nearestLot_6 : decode cX1_nearestLot 6 = .ok (.istore 4, 2) := by decide +kernel
theorem dX1_nearestLot_8 : decode cX1_nearestLot 8 = .ok (.iload 4, 2) := by decide +kernel
theorem dX1_nearestLot_10 : decode cX1_nearestLot 10 = .ok (.aload_n 0, 1) := by decide +kernel
theorem dX1_nearestLot_11 : decode cX1_nearestLot 11 = .ok (.getfield 50, 3) := by decide +kernel
theorem dX1_nearestLot_14 : decode cX1_nearestLot 14 = .ok (.if_icmp .ge 57, 3) := by decide +kernel
theorem dX1_nearestLot_17 : decode cX1_nearestLot 17 = .ok (.aload_n 0, 1) := by decide +kernel
theorem dX1_nearestLot_18 : decode cX1_nearestLot 18 = .ok (.iload 4, 2) := by decide +kernel
theorem dX1_nearestLot_20 : decode cX1_nearestLot 20 = .ok (.invokevirtual 118, 3) := by decide +kernel
theorem dX1_nearestLot_23 : decode cX1_nearestLot 23 = .ok (.astore 5, 2) := by decide +kernel
theorem dX1_nearestLot_25 : decode cX1_nearestLot 25 = .ok (.aload 5, 2) := by decide +kernel
theorem dX1_nearestLot_27 : decode cX1_nearestLot 27 = .ok (.ifnull 38, 3) := by decide +kernel
theorem dX1_nearestLot_30 : decode cX1_nearestLot 30 = .ok (.aload 5, 2) := by decide +kernel
theorem dX1_nearestLot_32 : decode cX1_nearestLot 32 = .ok (.invokevirtual 128, 3) := by decide +kernel
theorem dX1_nearestLot_35 : decode cX1_nearestLot 35 = .ok (.ifCond .eq 6, 3) := by decide +kernel
theorem dX1_nearestLot_38 : decode cX1_nearestLot 38 = .ok (.goto 27, 3) := by decide +kernel
theorem dX1_nearestLot_41 : decode cX1_nearestLot 41 = .ok (.aload_n 1, 1) := by decide +kernel
theorem dX1_nearestLot_42 : decode cX1_nearestLot 42 = .ok (.aload 5, 2) := by decide +kernel
theorem dX1_nearestLot_44 : decode cX1_nearestLot 44 = .ok (.invokevirtual 202, 3) := by decide +kernel
theorem dX1_nearestLot_47 : decode cX1_nearestLot 47 = .ok (.istore 6, 2) := by decide +kernel
theorem dX1_nearestLot_49 : decode cX1_nearestLot 49 = .ok (.iload_n 2, 1) := by decide +kernel
theorem dX1_nearestLot_50 : decode cX1_nearestLot 50 = .ok (.ifCond .lt 9, 3) := by decide +kernel
theorem dX1_nearestLot_53 : decode cX1_nearestLot 53 = .ok (.iload 6, 2) := by decide +kernel
theorem dX1_nearestLot_55 : decode cX1_nearestLot 55 = .ok (.iload_n 3, 1) := by decide +kernel
theorem dX1_nearestLot_56 : decode cX1_nearestLot 56 = .ok (.if_icmp .ge 9, 3) := by decide +kernel
theorem dX1_nearestLot_59 : decode cX1_nearestLot 59 = .ok (.iload 4, 2) := by decide +kernel
theorem dX1_nearestLot_61 : decode cX1_nearestLot 61 = .ok (.istore_n 2, 1) := by decide +kernel
theorem dX1_nearestLot_62 : decode cX1_nearestLot 62 = .ok (.iload 6, 2) := by decide +kernel
theorem dX1_nearestLot_64 : decode cX1_nearestLot 64 = .ok (.istore_n 3, 1) := by decide +kernel
theorem dX1_nearestLot_65 : decode cX1_nearestLot 65 = .ok (.iinc 4 1, 3) := by decide +kernel
theorem dX1_nearestLot_68 : decode cX1_nearestLot 68 = .ok (.goto (-60), 3) := by decide +kernel
theorem dX1_nearestLot_71 : decode cX1_nearestLot 71 = .ok (.iload_n 2, 1) := by decide +kernel
theorem dX1_nearestLot_72 : decode cX1_nearestLot 72 = .ok (.ireturn, 1) := by decide +kernel
theorem dX1_lotsNotFarAbove_0 : decode cX1_lotsNotFarAbove 0 = .ok (.aload_n 0, 1) := by decide +kernel
theorem dX1_lotsNotFarAbove_1 : decode cX1_lotsNotFarAbove 1 = .ok (.getfield 39, 3) := by decide +kernel
theorem dX1_lotsNotFarAbove_4 : decode cX1_lotsNotFarAbove 4 = .ok (.iconst 4, 1) := by decide +kernel
theorem dX1_lotsNotFarAbove_5 : decode cX1_lotsNotFarAbove 5 = .ok (.invokevirtual 206, 3) := by decide +kernel
theorem dX1_lotsNotFarAbove_8 : decode cX1_lotsNotFarAbove 8 = .ok (.istore_n 3, 1) := by decide +kernel
theorem dX1_lotsNotFarAbove_9 : decode cX1_lotsNotFarAbove 9 = .ok (.iconst 0, 1) := by decide +kernel
theorem dX1_lotsNotFarAbove_10 : decode cX1_lotsNotFarAbove 10 = .ok (.istore 4, 2) := by decide +kernel
theorem dX1_lotsNotFarAbove_12 : decode cX1_lotsNotFarAbove 12 = .ok (.iconst 0, 1) := by decide +kernel
theorem dX1_lotsNotFarAbove_13 : decode cX1_lotsNotFarAbove 13 = .ok (.istore 5, 2) := by decide +kernel
theorem dX1_lotsNotFarAbove_15 : decode cX1_lotsNotFarAbove 15 = .ok (.iload 5, 2) := by decide +kernel
theorem dX1_lotsNotFarAbove_17 : decode cX1_lotsNotFarAbove 17 = .ok (.aload_n 0, 1) := by decide +kernel
theorem dX1_lotsNotFarAbove_18 : decode cX1_lotsNotFarAbove 18 = .ok (.getfield 50, 3) := by decide +kernel
theorem dX1_lotsNotFarAbove_21 : decode cX1_lotsNotFarAbove 21 = .ok (.if_icmp .ge 57, 3) := by decide +kernel
theorem dX1_lotsNotFarAbove_24 : decode cX1_lotsNotFarAbove 24 = .ok (.aload_n 0, 1) := by decide +kernel
theorem dX1_lotsNotFarAbove_25 : decode cX1_lotsNotFarAbove 25 = .ok (.iload 5, 2) := by decide +kernel
theorem dX1_lotsNotFarAbove_27 : decode cX1_lotsNotFarAbove 27 = .ok (.invokevirtual 118, 3) := by decide +kernel
theorem dX1_lotsNotFarAbove_30 : decode cX1_lotsNotFarAbove 30 = .ok (.astore 6, 2) := by decide +kernel
theorem dX1_lotsNotFarAbove_32 : decode cX1_lotsNotFarAbove 32 = .ok (.aload 6, 2) := by decide +kernel
theorem dX1_lotsNotFarAbove_34 : decode cX1_lotsNotFarAbove 34 = .ok (.ifnull 38, 3) := by decide +kernel
theorem dX1_lotsNotFarAbove_37 : decode cX1_lotsNotFarAbove 37 = .ok (.aload 6, 2) := by decide +kernel
theorem dX1_lotsNotFarAbove_39 : decode cX1_lotsNotFarAbove 39 = .ok (.invokevirtual 128, 3) := by decide +kernel
theorem dX1_lotsNotFarAbove_42 : decode cX1_lotsNotFarAbove 42 = .ok (.ifCond .eq 6, 3) := by decide +kernel
theorem dX1_lotsNotFarAbove_45 : decode cX1_lotsNotFarAbove 45 = .ok (.goto 27, 3) := by decide +kernel
theorem dX1_lotsNotFarAbove_48 : decode cX1_lotsNotFarAbove 48 = .ok (.aload 6, 2) := by decide +kernel
theorem dX1_lotsNotFarAbove_50 : decode cX1_lotsNotFarAbove 50 = .ok (.iload_n 2, 1) := by decide +kernel
theorem dX1_lotsNotFarAbove_51 : decode cX1_lotsNotFarAbove 51 = .ok (.invokevirtual 209, 3) := by decide +kernel
theorem dX1_lotsNotFarAbove_54 : decode cX1_lotsNotFarAbove 54 = .ok (.iload_n 1, 1) := by decide +kernel
theorem dX1_lotsNotFarAbove_55 : decode cX1_lotsNotFarAbove 55 = .ok (.isub, 1) := by decide +kernel
theorem dX1_lotsNotFarAbove_56 : decode cX1_lotsNotFarAbove 56 = .ok (.istore 7, 2) := by decide +kernel
theorem dX1_lotsNotFarAbove_58 : decode cX1_lotsNotFarAbove 58 = .ok (.iload 7, 2) := by decide +kernel
theorem dX1_lotsNotFarAbove_60 : decode cX1_lotsNotFarAbove 60 = .ok (.ifCond .lt 12, 3) := by decide +kernel
theorem dX1_lotsNotFarAbove_63 : decode cX1_lotsNotFarAbove 63 = .ok (.iload 7, 2) := by decide +kernel
theorem dX1_lotsNotFarAbove_65 : decode cX1_lotsNotFarAbove 65 = .ok (.iload_n 3, 1) := by decide +kernel
theorem dX1_lotsNotFarAbove_66 : decode cX1_lotsNotFarAbove 66 = .ok (.if_icmp .gt 6, 3) := by decide +kernel
theorem dX1_lotsNotFarAbove_69 : decode cX1_lotsNotFarAbove 69 = .ok (.iinc 4 1, 3) := by decide +kernel
theorem dX1_lotsNotFarAbove_72 : decode cX1_lotsNotFarAbove 72 = .ok (.iinc 5 1, 3) := by decide +kernel
theorem dX1_lotsNotFarAbove_75 : decode cX1_lotsNotFarAbove 75 = .ok (.goto (-60), 3) := by decide +kernel
theorem dX1_lotsNotFarAbove_78 : decode cX1_lotsNotFarAbove 78 = .ok (.iload 4, 2) := by decide +kernel
theorem dX1_lotsNotFarAbove_80 : decode cX1_lotsNotFarAbove 80 = .ok (.ireturn, 1) := by decide +kernel
theorem dX1_lotsCounted_0 : decode cX1_lotsCounted 0 = .ok (.iconst 0, 1) := by decide +kernel
theorem dX1_lotsCounted_1 : decode cX1_lotsCounted 1 = .ok (.istore_n 2, 1) := by decide +kernel
theorem dX1_lotsCounted_2 : decode cX1_lotsCounted 2 = .ok (.iconst 0, 1) := by decide +kernel
theorem dX1_lotsCounted_3 : decode cX1_lotsCounted 3 = .ok (.istore_n 3, 1) := by decide +kernel
theorem dX1_lotsCounted_4 : decode cX1_lotsCounted 4 = .ok (.iload_n 3, 1) := by decide +kernel
theorem dX1_lotsCounted_5 : decode cX1_lotsCounted 5 = .ok (.aload_n 0, 1) := by decide +kernel
theorem dX1_lotsCounted_6 : decode cX1_lotsCounted 6 = .ok (.getfield 50, 3) := by decide +kernel
theorem dX1_lotsCounted_9 : decode cX1_lotsCounted 9 = .ok (.if_icmp .ge 33, 3) := by decide +kernel
theorem dX1_lotsCounted_12 : decode cX1_lotsCounted 12 = .ok (.aload_n 0, 1) := by decide +kernel
theorem dX1_lotsCounted_13 : decode cX1_lotsCounted 13 = .ok (.iload_n 3, 1) := by decide +kernel
theorem dX1_lotsCounted_14 : decode cX1_lotsCounted 14 = .ok (.invokevirtual 118, 3) := by decide +kernel
theorem dX1_lotsCounted_17 : decode cX1_lotsCounted 17 = .ok (.astore 4, 2) := by decide +kernel
theorem dX1_lotsCounted_19 : decode cX1_lotsCounted 19 = .ok (.aload 4, 2) := by decide +kernel
theorem dX1_lotsCounted_21 : decode cX1_lotsCounted 21 = .ok (.ifnull 15, 3) := by decide +kernel
theorem dX1_lotsCounted_24 : decode cX1_lotsCounted 24 = .ok (.aload 4, 2) := by decide +kernel
theorem dX1_lotsCounted_26 : decode cX1_lotsCounted 26 = .ok (.iload_n 1, 1) := by decide +kernel
theorem dX1_lotsCounted_27 : decode cX1_lotsCounted 27 = .ok (.invokestatic 212, 3) := by decide +kernel
theorem dX1_lotsCounted_30 : decode cX1_lotsCounted 30 = .ok (.ifCond .eq 6, 3) := by decide +kernel
theorem dX1_lotsCounted_33 : decode cX1_lotsCounted 33 = .ok (.iinc 2 1, 3) := by decide +kernel
theorem dX1_lotsCounted_36 : decode cX1_lotsCounted 36 = .ok (.iinc 3 1, 3) := by decide +kernel
theorem dX1_lotsCounted_39 : decode cX1_lotsCounted 39 = .ok (.goto (-35), 3) := by decide +kernel
theorem dX1_lotsCounted_42 : decode cX1_lotsCounted 42 = .ok (.iload_n 2, 1) := by decide +kernel
theorem dX1_lotsCounted_43 : decode cX1_lotsCounted 43 = .ok (.ireturn, 1) := by decide +kernel
theorem dX1_isCounted_0 : decode cX1_isCounted 0 = .ok (.iload_n 1, 1) := by decide +kernel
theorem dX1_isCounted_1 : decode cX1_isCounted 1 = .ok (.tableswitch 83 2 6 #[35, 48, 53, 73, 78], 35) := by decide +kernel
theorem dX1_isCounted_36 : decode cX1_isCounted 36 = .ok (.aload_n 0, 1) := by decide +kernel
theorem dX1_isCounted_37 : decode cX1_isCounted 37 = .ok (.invokevirtual 128, 3) := by decide +kernel
theorem dX1_isCounted_40 : decode cX1_isCounted 40 = .ok (.ifCond .ne 7, 3) := by decide +kernel
theorem dX1_isCounted_43 : decode cX1_isCounted 43 = .ok (.iconst 1, 1) := by decide +kernel
theorem dX1_isCounted_44 : decode cX1_isCounted 44 = .ok (.goto 4, 3) := by decide +kernel
theorem dX1_isCounted_47 : decode cX1_isCounted 47 = .ok (.iconst 0, 1) := by decide +kernel
theorem dX1_isCounted_48 : decode cX1_isCounted 48 = .ok (.ireturn, 1) := by decide +kernel
theorem dX1_isCounted_49 : decode cX1_isCounted 49 = .ok (.aload_n 0, 1) := by decide +kernel
theorem dX1_isCounted_50 : decode cX1_isCounted 50 = .ok (.getfield 132, 3) := by decide +kernel
theorem dX1_isCounted_53 : decode cX1_isCounted 53 = .ok (.ireturn, 1) := by decide +kernel
theorem dX1_isCounted_54 : decode cX1_isCounted 54 = .ok (.aload_n 0, 1) := by decide +kernel
theorem dX1_isCounted_55 : decode cX1_isCounted 55 = .ok (.invokevirtual 128, 3) := by decide +kernel
theorem dX1_isCounted_58 : decode cX1_isCounted 58 = .ok (.ifCond .ne 14, 3) := by decide +kernel
theorem dX1_isCounted_61 : decode cX1_isCounted 61 = .ok (.aload_n 0, 1) := by decide +kernel
theorem dX1_isCounted_62 : decode cX1_isCounted 62 = .ok (.getfield 216, 3) := by decide +kernel
theorem dX1_isCounted_65 : decode cX1_isCounted 65 = .ok (.ifCond .eq 7, 3) := by decide +kernel
theorem dX1_isCounted_68 : decode cX1_isCounted 68 = .ok (.iconst 1, 1) := by decide +kernel
theorem dX1_isCounted_69 : decode cX1_isCounted 69 = .ok (.goto 4, 3) := by decide +kernel
theorem dX1_isCounted_72 : decode cX1_isCounted 72 = .ok (.iconst 0, 1) := by decide +kernel
theorem dX1_isCounted_73 : decode cX1_isCounted 73 = .ok (.ireturn, 1) := by decide +kernel
theorem dX1_isCounted_74 : decode cX1_isCounted 74 = .ok (.aload_n 0, 1) := by decide +kernel
theorem dX1_isCounted_75 : decode cX1_isCounted 75 = .ok (.getfield 219, 3) := by decide +kernel
theorem dX1_isCounted_78 : decode cX1_isCounted 78 = .ok (.ireturn, 1) := by decide +kernel
theorem dX1_isCounted_79 : decode cX1_isCounted 79 = .ok (.aload_n 0, 1) := by decide +kernel
theorem dX1_isCounted_80 : decode cX1_isCounted 80 = .ok (.invokevirtual 128, 3) := by decide +kernel
theorem dX1_isCounted_83 : decode cX1_isCounted 83 = .ok (.ireturn, 1) := by decide +kernel
theorem dX1_isCounted_84 : decode cX1_isCounted 84 = .ok (.iconst 0, 1) := by decide +kernel
theorem dX1_isCounted_85 : decode cX1_isCounted 85 = .ok (.ireturn, 1) := by decide +kernel
theorem dX1_grainsInVats_0 : decode cX1_grainsInVats 0 = .ok (.iconst 0, 1) := by decide +kernel
theorem dX1_grainsInVats_1 : decode cX1_grainsInVats 1 = .ok (.istore_n 2, 1) := by decide +kernel
theorem dX1_grainsInVats_2 : decode cX1_grainsInVats 2 = .ok (.iconst 0, 1) := by decide +kernel
theorem dX1_grainsInVats_3 : decode cX1_grainsInVats 3 = .ok (.istore_n 3, 1) := by decide +kernel
theorem dX1_grainsInVats_4 : decode cX1_grainsInVats 4 = .ok (.iload_n 3, 1) := by decide +kernel
theorem dX1_grainsInVats_5 : decode cX1_grainsInVats 5 = .ok (.aload_n 0, 1) := by decide +kernel
theorem dX1_grainsInVats_6 : decode cX1_grainsInVats 6 = .ok (.getfield 46, 3) := by decide +kernel
theorem dX1_grainsInVats_9 : decode cX1_grainsInVats 9 = .ok (.if_icmp .ge 38, 3) := by decide +kernel
theorem dX1_grainsInVats_12 : decode cX1_grainsInVats 12 = .ok (.aload_n 0, 1) := by decide +kernel
theorem dX1_grainsInVats_13 : decode cX1_grainsInVats 13 = .ok (.iload_n 3, 1) := by decide +kernel
theorem dX1_grainsInVats_14 : decode cX1_grainsInVats 14 = .ok (.invokevirtual 92, 3) := by decide +kernel
theorem dX1_grainsInVats_17 : decode cX1_grainsInVats 17 = .ok (.astore 4, 2) := by decide +kernel
theorem dX1_grainsInVats_19 : decode cX1_grainsInVats 19 = .ok (.aload 4, 2) := by decide +kernel
theorem dX1_grainsInVats_21 : decode cX1_grainsInVats 21 = .ok (.ifnull 20, 3) := by decide +kernel
theorem dX1_grainsInVats_24 : decode cX1_grainsInVats 24 = .ok (.aload 4, 2) := by decide +kernel
theorem dX1_grainsInVats_26 : decode cX1_grainsInVats 26 = .ok (.getfield 96, 3) := by decide +kernel
theorem dX1_grainsInVats_29 : decode cX1_grainsInVats 29 = .ok (.iload_n 1, 1) := by decide +kernel
theorem dX1_grainsInVats_30 : decode cX1_grainsInVats 30 = .ok (.if_icmp .ne 11, 3) := by decide +kernel
theorem dX1_grainsInVats_33 : decode cX1_grainsInVats 33 = .ok (.iload_n 2, 1) := by decide +kernel
theorem dX1_grainsInVats_34 : decode cX1_grainsInVats 34 = .ok (.aload 4, 2) := by decide +kernel
theorem dX1_grainsInVats_36 : decode cX1_grainsInVats 36 = .ok (.getfield 112, 3) := by decide +kernel
theorem dX1_grainsInVats_39 : decode cX1_grainsInVats 39 = .ok (.iadd, 1) := by decide +kernel
theorem dX1_grainsInVats_40 : decode cX1_grainsInVats 40 = .ok (.istore_n 2, 1) := by decide +kernel
theorem dX1_grainsInVats_41 : decode cX1_grainsInVats 41 = .ok (.iinc 3 1, 3) := by decide +kernel
theorem dX1_grainsInVats_44 : decode cX1_grainsInVats 44 = .ok (.goto (-40), 3) := by decide +kernel
theorem dX1_grainsInVats_47 : decode cX1_grainsInVats 47 = .ok (.iload_n 2, 1) := by decide +kernel
theorem dX1_grainsInVats_48 : decode cX1_grainsInVats 48 = .ok (.ireturn, 1) := by decide +kernel
theorem dX1_fixedInHouse_0 : decode cX1_fixedInHouse 0 = .ok (.iconst 0, 1) := by decide +kernel
theorem dX1_fixedInHouse_1 : decode cX1_fixedInHouse 1 = .ok (.istore_n 2, 1) := by decide +kernel
theorem dX1_fixedInHouse_2 : decode cX1_fixedInHouse 2 = .ok (.iconst 0, 1) := by decide +kernel
theorem dX1_fixedInHouse_3 : decode cX1_fixedInHouse 3 = .ok (.istore_n 3, 1) := by decide +kernel
theorem dX1_fixedInHouse_4 : decode cX1_fixedInHouse 4 = .ok (.iload_n 3, 1) := by decide +kernel
theorem dX1_fixedInHouse_5 : decode cX1_fixedInHouse 5 = .ok (.aload_n 0, 1) := by decide +kernel
theorem dX1_fixedInHouse_6 : decode cX1_fixedInHouse 6 = .ok (.getfield 50, 3) := by decide +kernel
theorem dX1_fixedInHouse_9 : decode cX1_fixedInHouse 9 = .ok (.if_icmp .ge 41, 3) := by decide +kernel
theorem dX1_fixedInHouse_12 : decode cX1_fixedInHouse 12 = .ok (.aload_n 0, 1) := by decide +kernel
theorem dX1_fixedInHouse_13 : decode cX1_fixedInHouse 13 = .ok (.iload_n 3, 1) := by decide +kernel
theorem dX1_fixedInHouse_14 : decode cX1_fixedInHouse 14 = .ok (.invokevirtual 118, 3) := by decide +kernel
theorem dX1_fixedInHouse_17 : decode cX1_fixedInHouse 17 = .ok (.astore 4, 2) := by decide +kernel
theorem dX1_fixedInHouse_19 : decode cX1_fixedInHouse 19 = .ok (.aload 4, 2) := by decide +kernel
theorem dX1_fixedInHouse_21 : decode cX1_fixedInHouse 21 = .ok (.ifnull 23, 3) := by decide +kernel
theorem dX1_fixedInHouse_24 : decode cX1_fixedInHouse 24 = .ok (.aload 4, 2) := by decide +kernel
theorem dX1_fixedInHouse_26 : decode cX1_fixedInHouse 26 = .ok (.invokevirtual 128, 3) := by decide +kernel
theorem dX1_fixedInHouse_29 : decode cX1_fixedInHouse 29 = .ok (.ifCond .ne 15, 3) := by decide +kernel
theorem dX1_fixedInHouse_32 : decode cX1_fixedInHouse 32 = .ok (.iload_n 2, 1) := by decide +kernel
theorem dX1_fixedInHouse_33 : decode cX1_fixedInHouse 33 = .ok (.aload 4, 2) := by decide +kernel
theorem dX1_fixedInHouse_35 : decode cX1_fixedInHouse 35 = .ok (.getfield 222, 3) := by decide +kernel
theorem dX1_fixedInHouse_38 : decode cX1_fixedInHouse 38 = .ok (.iload_n 1, 1) := by decide +kernel
theorem dX1_fixedInHouse_39 : decode cX1_fixedInHouse 39 = .ok (.invokestatic 103, 3) := by decide +kernel
theorem dX1_fixedInHouse_42 : decode cX1_fixedInHouse 42 = .ok (.iadd, 1) := by decide +kernel
theorem dX1_fixedInHouse_43 : decode cX1_fixedInHouse 43 = .ok (.istore_n 2, 1) := by decide +kernel
theorem dX1_fixedInHouse_44 : decode cX1_fixedInHouse 44 = .ok (.iinc 3 1, 3) := by decide +kernel
theorem dX1_fixedInHouse_47 : decode cX1_fixedInHouse 47 = .ok (.goto (-43), 3) := by decide +kernel
theorem dX1_fixedInHouse_50 : decode cX1_fixedInHouse 50 = .ok (.iload_n 2, 1) := by decide +kernel
theorem dX1_fixedInHouse_51 : decode cX1_fixedInHouse 51 = .ok (.ireturn, 1) := by decide +kernel
theorem dX1_looseInHouse_0 : decode cX1_looseInHouse 0 = .ok (.iconst 0, 1) := by decide +kernel
theorem dX1_looseInHouse_1 : decode cX1_looseInHouse 1 = .ok (.istore_n 2, 1) := by decide +kernel
theorem dX1_looseInHouse_2 : decode cX1_looseInHouse 2 = .ok (.iconst 0, 1) := by decide +kernel
theorem dX1_looseInHouse_3 : decode cX1_looseInHouse 3 = .ok (.istore_n 3, 1) := by decide +kernel
theorem dX1_looseInHouse_4 : decode cX1_looseInHouse 4 = .ok (.iload_n 3, 1) := by decide +kernel
theorem dX1_looseInHouse_5 : decode cX1_looseInHouse 5 = .ok (.aload_n 0, 1) := by decide +kernel
theorem dX1_looseInHouse_6 : decode cX1_looseInHouse 6 = .ok (.getfield 50, 3) := by decide +kernel
theorem dX1_looseInHouse_9 : decode cX1_looseInHouse 9 = .ok (.if_icmp .ge 41, 3) := by decide +kernel
theorem dX1_looseInHouse_12 : decode cX1_looseInHouse 12 = .ok (.aload_n 0, 1) := by decide +kernel
theorem dX1_looseInHouse_13 : decode cX1_looseInHouse 13 = .ok (.iload_n 3, 1) := by decide +kernel
theorem dX1_looseInHouse_14 : decode cX1_looseInHouse 14 = .ok (.invokevirtual 118, 3) := by decide +kernel
theorem dX1_looseInHouse_17 : decode cX1_looseInHouse 17 = .ok (.astore 4, 2) := by decide +kernel
theorem dX1_looseInHouse_19 : decode cX1_looseInHouse 19 = .ok (.aload 4, 2) := by decide +kernel
theorem dX1_looseInHouse_21 : decode cX1_looseInHouse 21 = .ok (.ifnull 23, 3) := by decide +kernel
theorem dX1_looseInHouse_24 : decode cX1_looseInHouse 24 = .ok (.aload 4, 2) := by decide +kernel
theorem dX1_looseInHouse_26 : decode cX1_looseInHouse 26 = .ok (.invokevirtual 128, 3) := by decide +kernel
theorem dX1_looseInHouse_29 : decode cX1_looseInHouse 29 = .ok (.ifCond .ne 15, 3) := by decide +kernel
theorem dX1_looseInHouse_32 : decode cX1_looseInHouse 32 = .ok (.iload_n 2, 1) := by decide +kernel
theorem dX1_looseInHouse_33 : decode cX1_looseInHouse 33 = .ok (.aload 4, 2) := by decide +kernel
theorem dX1_looseInHouse_35 : decode cX1_looseInHouse 35 = .ok (.getfield 140, 3) := by decide +kernel
theorem dX1_looseInHouse_38 : decode cX1_looseInHouse 38 = .ok (.iload_n 1, 1) := by decide +kernel
theorem dX1_looseInHouse_39 : decode cX1_looseInHouse 39 = .ok (.invokestatic 103, 3) := by decide +kernel
theorem dX1_looseInHouse_42 : decode cX1_looseInHouse 42 = .ok (.iadd, 1) := by decide +kernel
theorem dX1_looseInHouse_43 : decode cX1_looseInHouse 43 = .ok (.istore_n 2, 1) := by decide +kernel
theorem dX1_looseInHouse_44 : decode cX1_looseInHouse 44 = .ok (.iinc 3 1, 3) := by decide +kernel
theorem dX1_looseInHouse_47 : decode cX1_looseInHouse 47 = .ok (.goto (-43), 3) := by decide +kernel
theorem dX1_looseInHouse_50 : decode cX1_looseInHouse 50 = .ok (.iload_n 2, 1) := by decide +kernel
theorem dX1_looseInHouse_51 : decode cX1_looseInHouse 51 = .ok (.ireturn, 1) := by decide +kernel
theorem dX1_grainsSold_0 : decode cX1_grainsSold 0 = .ok (.iconst 0, 1) := by decide +kernel
theorem dX1_grainsSold_1 : decode cX1_grainsSold 1 = .ok (.istore_n 2, 1) := by decide +kernel
theorem dX1_grainsSold_2 : decode cX1_grainsSold 2 = .ok (.iconst 0, 1) := by decide +kernel
theorem dX1_grainsSold_3 : decode cX1_grainsSold 3 = .ok (.istore_n 3, 1) := by decide +kernel
theorem dX1_grainsSold_4 : decode cX1_grainsSold 4 = .ok (.iload_n 3, 1) := by decide +kernel
theorem dX1_grainsSold_5 : decode cX1_grainsSold 5 = .ok (.aload_n 0, 1) := by decide +kernel
theorem dX1_grainsSold_6 : decode cX1_grainsSold 6 = .ok (.getfield 50, 3) := by decide +kernel
theorem dX1_grainsSold_9 : decode cX1_grainsSold 9 = .ok (.if_icmp .ge 38, 3) := by decide +kernel
theorem dX1_grainsSold_12 : decode cX1_grainsSold 12 = .ok (.aload_n 0, 1) := by decide +kernel
theorem dX1_grainsSold_13 : decode cX1_grainsSold 13 = .ok (.iload_n 3, 1) := by decide +kernel
theorem dX1_grainsSold_14 : decode cX1_grainsSold 14 = .ok (.invokevirtual 118, 3) := by decide +kernel
theorem dX1_grainsSold_17 : decode cX1_grainsSold 17 = .ok (.astore 4, 2) := by decide +kernel
theorem dX1_grainsSold_19 : decode cX1_grainsSold 19 = .ok (.aload 4, 2) := by decide +kernel
theorem dX1_grainsSold_21 : decode cX1_grainsSold 21 = .ok (.ifnull 20, 3) := by decide +kernel
theorem dX1_grainsSold_24 : decode cX1_grainsSold 24 = .ok (.aload 4, 2) := by decide +kernel
theorem dX1_grainsSold_26 : decode cX1_grainsSold 26 = .ok (.invokevirtual 128, 3) := by decide +kernel
theorem dX1_grainsSold_29 : decode cX1_grainsSold 29 = .ok (.ifCond .eq 12, 3) := by decide +kernel
theorem dX1_grainsSold_32 : decode cX1_grainsSold 32 = .ok (.iload_n 2, 1) := by decide +kernel
theorem dX1_grainsSold_33 : decode cX1_grainsSold 33 = .ok (.aload 4, 2) := by decide +kernel
theorem dX1_grainsSold_35 : decode cX1_grainsSold 35 = .ok (.iload_n 1, 1) := by decide +kernel
theorem dX1_grainsSold_36 : decode cX1_grainsSold 36 = .ok (.invokevirtual 225, 3) := by decide +kernel
theorem dX1_grainsSold_39 : decode cX1_grainsSold 39 = .ok (.iadd, 1) := by decide +kernel
theorem dX1_grainsSold_40 : decode cX1_grainsSold 40 = .ok (.istore_n 2, 1) := by decide +kernel
theorem dX1_grainsSold_41 : decode cX1_grainsSold 41 = .ok (.iinc 3 1, 3) := by decide +kernel
theorem dX1_grainsSold_44 : decode cX1_grainsSold 44 = .ok (.goto (-40), 3) := by decide +kernel
theorem dX1_grainsSold_47 : decode cX1_grainsSold 47 = .ok (.iload_n 2, 1) := by decide +kernel
theorem dX1_grainsSold_48 : decode cX1_grainsSold 48 = .ok (.ireturn, 1) := by decide +kernel
theorem dX2_init_0 : decode cX2_init 0 = .ok (.aload_n 0, 1) := by decide +kernel
theorem dX2_init_1 : decode cX2_init 1 = .ok (.invokespecial 3, 3) := by decide +kernel
theorem dX2_init_4 : decode cX2_init 4 = .ok (.aload_n 0, 1) := by decide +kernel
theorem dX2_init_5 : decode cX2_init 5 = .ok (.iconst (-1), 1) := by decide +kernel
theorem dX2_init_6 : decode cX2_init 6 = .ok (.putfield 11, 3) := by decide +kernel
theorem dX2_init_9 : decode cX2_init 9 = .ok (.aload_n 0, 1) := by decide +kernel
theorem dX2_init_10 : decode cX2_init 10 = .ok (.iconst 4, 1) := by decide +kernel
theorem dX2_init_11 : decode cX2_init 11 = .ok (.newarray .int, 2) := by decide +kernel
theorem dX2_init_13 : decode cX2_init 13 = .ok (.putfield 15, 3) := by decide +kernel
theorem dX2_init_16 : decode cX2_init 16 = .ok (.aload_n 0, 1) := by decide +kernel
theorem dX2_init_17 : decode cX2_init 17 = .ok (.iconst 4, 1) := by decide +kernel
theorem dX2_init_18 : decode cX2_init 18 = .ok (.newarray .int, 2) := by decide +kernel
theorem dX2_init_20 : decode cX2_init 20 = .ok (.putfield 19, 3) := by decide +kernel
theorem dX2_init_23 : decode cX2_init 23 = .ok (.return_, 1) := by decide +kernel
theorem dX2_copyFrom_0 : decode cX2_copyFrom 0 = .ok (.aload_n 0, 1) := by decide +kernel
theorem dX2_copyFrom_1 : decode cX2_copyFrom 1 = .ok (.aload_n 1, 1) := by decide +kernel
theorem dX2_copyFrom_2 : decode cX2_copyFrom 2 = .ok (.getfield 22, 3) := by decide +kernel
theorem dX2_copyFrom_5 : decode cX2_copyFrom 5 = .ok (.putfield 22, 3) := by decide +kernel
theorem dX2_copyFrom_8 : decode cX2_copyFrom 8 = .ok (.aload_n 0, 1) := by decide +kernel
theorem dX2_copyFrom_9 : decode cX2_copyFrom 9 = .ok (.aload_n 1, 1) := by decide +kernel
theorem dX2_copyFrom_10 : decode cX2_copyFrom 10 = .ok (.getfield 25, 3) := by decide +kernel
theorem dX2_copyFrom_13 : decode cX2_copyFrom 13 = .ok (.putfield 25, 3) := by decide +kernel
theorem dX2_copyFrom_16 : decode cX2_copyFrom 16 = .ok (.aload_n 0, 1) := by decide +kernel
theorem dX2_copyFrom_17 : decode cX2_copyFrom 17 = .ok (.aload_n 1, 1) := by decide +kernel
theorem dX2_copyFrom_18 : decode cX2_copyFrom 18 = .ok (.getfield 28, 3) := by decide +kernel
theorem dX2_copyFrom_21 : decode cX2_copyFrom 21 = .ok (.putfield 28, 3) := by decide +kernel
theorem dX2_copyFrom_24 : decode cX2_copyFrom 24 = .ok (.aload_n 0, 1) := by decide +kernel
theorem dX2_copyFrom_25 : decode cX2_copyFrom 25 = .ok (.aload_n 1, 1) := by decide +kernel
theorem dX2_copyFrom_26 : decode cX2_copyFrom 26 = .ok (.getfield 32, 3) := by decide +kernel
theorem dX2_copyFrom_29 : decode cX2_copyFrom 29 = .ok (.putfield 32, 3) := by decide +kernel
theorem dX2_copyFrom_32 : decode cX2_copyFrom 32 = .ok (.aload_n 0, 1) := by decide +kernel
theorem dX2_copyFrom_33 : decode cX2_copyFrom 33 = .ok (.aload_n 1, 1) := by decide +kernel
theorem dX2_copyFrom_34 : decode cX2_copyFrom 34 = .ok (.getfield 35, 3) := by decide +kernel
theorem dX2_copyFrom_37 : decode cX2_copyFrom 37 = .ok (.putfield 35, 3) := by decide +kernel
theorem dX2_copyFrom_40 : decode cX2_copyFrom 40 = .ok (.aload_n 0, 1) := by decide +kernel
theorem dX2_copyFrom_41 : decode cX2_copyFrom 41 = .ok (.aload_n 1, 1) := by decide +kernel
theorem dX2_copyFrom_42 : decode cX2_copyFrom 42 = .ok (.getfield 11, 3) := by decide +kernel
theorem dX2_copyFrom_45 : decode cX2_copyFrom 45 = .ok (.putfield 11, 3) := by decide +kernel
theorem dX2_copyFrom_48 : decode cX2_copyFrom 48 = .ok (.aload_n 0, 1) := by decide +kernel
theorem dX2_copyFrom_49 : decode cX2_copyFrom 49 = .ok (.aload_n 1, 1) := by decide +kernel
theorem dX2_copyFrom_50 : decode cX2_copyFrom 50 = .ok (.getfield 38, 3) := by decide +kernel
theorem dX2_copyFrom_53 : decode cX2_copyFrom 53 = .ok (.putfield 38, 3) := by decide +kernel
theorem dX2_copyFrom_56 : decode cX2_copyFrom 56 = .ok (.aload_n 1, 1) := by decide +kernel
theorem dX2_copyFrom_57 : decode cX2_copyFrom 57 = .ok (.getfield 15, 3) := by decide +kernel
theorem dX2_copyFrom_60 : decode cX2_copyFrom 60 = .ok (.aload_n 0, 1) := by decide +kernel
theorem dX2_copyFrom_61 : decode cX2_copyFrom 61 = .ok (.getfield 15, 3) := by decide +kernel
theorem dX2_copyFrom_64 : decode cX2_copyFrom 64 = .ok (.invokestatic 41, 3) := by decide +kernel
theorem dX2_copyFrom_67 : decode cX2_copyFrom 67 = .ok (.aload_n 1, 1) := by decide +kernel
theorem dX2_copyFrom_68 : decode cX2_copyFrom 68 = .ok (.getfield 19, 3) := by decide +kernel
theorem dX2_copyFrom_71 : decode cX2_copyFrom 71 = .ok (.aload_n 0, 1) := by decide +kernel
theorem dX2_copyFrom_72 : decode cX2_copyFrom 72 = .ok (.getfield 19, 3) := by decide +kernel
theorem dX2_copyFrom_75 : decode cX2_copyFrom 75 = .ok (.invokestatic 41, 3) := by decide +kernel
theorem dX2_copyFrom_78 : decode cX2_copyFrom 78 = .ok (.return_, 1) := by decide +kernel
theorem dX2_isSold_0 : decode cX2_isSold 0 = .ok (.aload_n 0, 1) := by decide +kernel
theorem dX2_isSold_1 : decode cX2_isSold 1 = .ok (.getfield 11, 3) := by decide +kernel
theorem dX2_isSold_4 : decode cX2_isSold 4 = .ok (.iconst (-1), 1) := by decide +kernel
theorem dX2_isSold_5 : decode cX2_isSold 5 = .ok (.if_icmp .eq 7, 3) := by decide +kernel
theorem dX2_isSold_8 : decode cX2_isSold 8 = .ok (.iconst 1, 1) := by decide +kernel
theorem dX2_isSold_9 : decode cX2_isSold 9 = .ok (.goto 4, 3) := by decide +kernel
theorem dX2_isSold_12 : decode cX2_isSold 12 = .ok (.iconst 0, 1) := by decide +kernel
theorem dX2_isSold_13 : decode cX2_isSold 13 = .ok (.ireturn, 1) := by decide +kernel
theorem dX2_grainsOf_0 : decode cX2_grainsOf 0 = .ok (.iload_n 1, 1) := by decide +kernel
theorem dX2_grainsOf_1 : decode cX2_grainsOf 1 = .ok (.ifCond .lt 37, 3) := by decide +kernel
theorem dX2_grainsOf_4 : decode cX2_grainsOf 4 = .ok (.iload_n 1, 1) := by decide +kernel
theorem dX2_grainsOf_5 : decode cX2_grainsOf 5 = .ok (.aload_n 0, 1) := by decide +kernel
theorem dX2_grainsOf_6 : decode cX2_grainsOf 6 = .ok (.getfield 15, 3) := by decide +kernel
theorem dX2_grainsOf_9 : decode cX2_grainsOf 9 = .ok (.arraylength, 1) := by decide +kernel
theorem dX2_grainsOf_10 : decode cX2_grainsOf 10 = .ok (.if_icmp .ge 28, 3) := by decide +kernel
theorem dX2_grainsOf_13 : decode cX2_grainsOf 13 = .ok (.iload_n 1, 1) := by decide +kernel
theorem dX2_grainsOf_14 : decode cX2_grainsOf 14 = .ok (.aload_n 0, 1) := by decide +kernel
theorem dX2_grainsOf_15 : decode cX2_grainsOf 15 = .ok (.getfield 19, 3) := by decide +kernel
theorem dX2_grainsOf_18 : decode cX2_grainsOf 18 = .ok (.arraylength, 1) := by decide +kernel
theorem dX2_grainsOf_19 : decode cX2_grainsOf 19 = .ok (.if_icmp .ge 19, 3) := by decide +kernel
theorem dX2_grainsOf_22 : decode cX2_grainsOf 22 = .ok (.aload_n 0, 1) := by decide +kernel
theorem dX2_grainsOf_23 : decode cX2_grainsOf 23 = .ok (.getfield 15, 3) := by decide +kernel
theorem dX2_grainsOf_26 : decode cX2_grainsOf 26 = .ok (.iload_n 1, 1) := by decide +kernel
theorem dX2_grainsOf_27 : decode cX2_grainsOf 27 = .ok (.iaload, 1) := by decide +kernel
theorem dX2_grainsOf_28 : decode cX2_grainsOf 28 = .ok (.aload_n 0, 1) := by decide +kernel
theorem dX2_grainsOf_29 : decode cX2_grainsOf 29 = .ok (.getfield 19, 3) := by decide +kernel
theorem dX2_grainsOf_32 : decode cX2_grainsOf 32 = .ok (.iload_n 1, 1) := by decide +kernel
theorem dX2_grainsOf_33 : decode cX2_grainsOf 33 = .ok (.iaload, 1) := by decide +kernel
theorem dX2_grainsOf_34 : decode cX2_grainsOf 34 = .ok (.iadd, 1) := by decide +kernel
theorem dX2_grainsOf_35 : decode cX2_grainsOf 35 = .ok (.goto 4, 3) := by decide +kernel
theorem dX2_grainsOf_38 : decode cX2_grainsOf 38 = .ok (.iconst 0, 1) := by decide +kernel
theorem dX2_grainsOf_39 : decode cX2_grainsOf 39 = .ok (.ireturn, 1) := by decide +kernel
theorem dX2_shadeOf_0 : decode cX2_shadeOf 0 = .ok (.aload_n 0, 1) := by decide +kernel
theorem dX2_shadeOf_1 : decode cX2_shadeOf 1 = .ok (.getfield 25, 3) := by decide +kernel
theorem dX2_shadeOf_4 : decode cX2_shadeOf 4 = .ok (.ifCond .le 23, 3) := by decide +kernel
theorem dX2_shadeOf_7 : decode cX2_shadeOf 7 = .ok (.ldc2_w 45, 3) := by decide +kernel
theorem dX2_shadeOf_10 : decode cX2_shadeOf 10 = .ok (.aload_n 0, 1) := by decide +kernel
theorem dX2_shadeOf_11 : decode cX2_shadeOf 11 = .ok (.iload_n 1, 1) := by decide +kernel
theorem dX2_shadeOf_12 : decode cX2_shadeOf 12 = .ok (.invokevirtual 47, 3) := by decide +kernel
theorem dX2_shadeOf_15 : decode cX2_shadeOf 15 = .ok (.i2l, 1) := by decide +kernel
theorem dX2_shadeOf_16 : decode cX2_shadeOf 16 = .ok (.lmul, 1) := by decide +kernel
theorem dX2_shadeOf_17 : decode cX2_shadeOf 17 = .ok (.aload_n 0, 1) := by decide +kernel
theorem dX2_shadeOf_18 : decode cX2_shadeOf 18 = .ok (.getfield 25, 3) := by decide +kernel
theorem dX2_shadeOf_21 : decode cX2_shadeOf 21 = .ok (.i2l, 1) := by decide +kernel
theorem dX2_shadeOf_22 : decode cX2_shadeOf 22 = .ok (.ldiv, 1) := by decide +kernel
theorem dX2_shadeOf_23 : decode cX2_shadeOf 23 = .ok (.l2i, 1) := by decide +kernel
theorem dX2_shadeOf_24 : decode cX2_shadeOf 24 = .ok (.goto 4, 3) := by decide +kernel
theorem dX2_shadeOf_27 : decode cX2_shadeOf 27 = .ok (.iconst 0, 1) := by decide +kernel
theorem dX2_shadeOf_28 : decode cX2_shadeOf 28 = .ok (.ireturn, 1) := by decide +kernel
theorem dX2_depth_0 : decode cX2_depth 0 = .ok (.aload_n 0, 1) := by decide +kernel
theorem dX2_depth_1 : decode cX2_depth 1 = .ok (.getfield 25, 3) := by decide +kernel
theorem dX2_depth_4 : decode cX2_depth 4 = .ok (.ifCond .le 33, 3) := by decide +kernel
theorem dX2_depth_7 : decode cX2_depth 7 = .ok (.ldc2_w 45, 3) := by decide +kernel
theorem dX2_depth_10 : decode cX2_depth 10 = .ok (.aload_n 0, 1) := by decide +kernel
theorem dX2_depth_11 : decode cX2_depth 11 = .ok (.getfield 15, 3) := by decide +kernel
theorem dX2_depth_14 : decode cX2_depth 14 = .ok (.invokestatic 51, 3) := by decide +kernel
theorem dX2_depth_17 : decode cX2_depth 17 = .ok (.aload_n 0, 1) := by decide +kernel
theorem dX2_depth_18 : decode cX2_depth 18 = .ok (.getfield 19, 3) := by decide +kernel
theorem dX2_depth_21 : decode cX2_depth 21 = .ok (.invokestatic 51, 3) := by decide +kernel
theorem dX2_depth_24 : decode cX2_depth 24 = .ok (.iadd, 1) := by decide +kernel
theorem dX2_depth_25 : decode cX2_depth 25 = .ok (.i2l, 1) := by decide +kernel
theorem dX2_depth_26 : decode cX2_depth 26 = .ok (.lmul, 1) := by decide +kernel
theorem dX2_depth_27 : decode cX2_depth 27 = .ok (.aload_n 0, 1) := by decide +kernel
theorem dX2_depth_28 : decode cX2_depth 28 = .ok (.getfield 25, 3) := by decide +kernel
theorem dX2_depth_31 : decode cX2_depth 31 = .ok (.i2l, 1) := by decide +kernel
theorem dX2_depth_32 : decode cX2_depth 32 = .ok (.ldiv, 1) := by decide +kernel
theorem dX2_depth_33 : decode cX2_depth 33 = .ok (.l2i, 1) := by decide +kernel
theorem dX2_depth_34 : decode cX2_depth 34 = .ok (.goto 4, 3) := by decide +kernel
theorem dX2_depth_37 : decode cX2_depth 37 = .ok (.iconst 0, 1) := by decide +kernel
theorem dX2_depth_38 : decode cX2_depth 38 = .ok (.ireturn, 1) := by decide +kernel
theorem dX2_floatShade_0 : decode cX2_floatShade 0 = .ok (.aload_n 0, 1) := by decide +kernel
theorem dX2_floatShade_1 : decode cX2_floatShade 1 = .ok (.getfield 25, 3) := by decide +kernel
theorem dX2_floatShade_4 : decode cX2_floatShade 4 = .ok (.ifCond .le 18, 3) := by decide +kernel
theorem dX2_floatShade_7 : decode cX2_floatShade 7 = .ok (.aload_n 0, 1) := by decide +kernel
theorem dX2_floatShade_8 : decode cX2_floatShade 8 = .ok (.iload_n 1, 1) := by decide +kernel
theorem dX2_floatShade_9 : decode cX2_floatShade 9 = .ok (.invokevirtual 47, 3) := by decide +kernel
theorem dX2_floatShade_12 : decode cX2_floatShade 12 = .ok (.i2f, 1) := by decide +kernel
theorem dX2_floatShade_13 : decode cX2_floatShade 13 = .ok (.aload_n 0, 1) := by decide +kernel
theorem dX2_floatShade_14 : decode cX2_floatShade 14 = .ok (.getfield 25, 3) := by decide +kernel
theorem dX2_floatShade_17 : decode cX2_floatShade 17 = .ok (.i2f, 1) := by decide +kernel
theorem dX2_floatShade_18 : decode cX2_floatShade 18 = .ok (.fdiv, 1) := by decide +kernel
theorem dX2_floatShade_19 : decode cX2_floatShade 19 = .ok (.goto 4, 3) := by decide +kernel
theorem dX2_floatShade_22 : decode cX2_floatShade 22 = .ok (.fconst 0, 1) := by decide +kernel
theorem dX2_floatShade_23 : decode cX2_floatShade 23 = .ok (.freturn, 1) := by decide +kernel
theorem dX2_grainsTaken_0 : decode cX2_grainsTaken 0 = .ok (.aload_n 0, 1) := by decide +kernel
theorem dX2_grainsTaken_1 : decode cX2_grainsTaken 1 = .ok (.getfield 22, 3) := by decide +kernel
theorem dX2_grainsTaken_4 : decode cX2_grainsTaken 4 = .ok (.iconst 1, 1) := by decide +kernel
theorem dX2_grainsTaken_5 : decode cX2_grainsTaken 5 = .ok (.if_icmp .ne 9, 3) := by decide +kernel
theorem dX2_grainsTaken_8 : decode cX2_grainsTaken 8 = .ok (.ldc2_w 55, 3) := by decide +kernel
theorem dX2_grainsTaken_11 : decode cX2_grainsTaken 11 = .ok (.goto 4, 3) := by decide +kernel
theorem dX2_grainsTaken_14 : decode cX2_grainsTaken 14 = .ok (.lconst 1, 1) := by decide +kernel
theorem dX2_grainsTaken_15 : decode cX2_grainsTaken 15 = .ok (.aload_n 0, 1) := by decide +kernel
theorem dX2_grainsTaken_16 : decode cX2_grainsTaken 16 = .ok (.getfield 25, 3) := by decide +kernel
theorem dX2_grainsTaken_19 : decode cX2_grainsTaken 19 = .ok (.i2l, 1) := by decide +kernel
theorem dX2_grainsTaken_20 : decode cX2_grainsTaken 20 = .ok (.lmul, 1) := by decide +kernel
theorem dX2_grainsTaken_21 : decode cX2_grainsTaken 21 = .ok (.lstore 4, 2) := by decide +kernel
theorem dX2_grainsTaken_23 : decode cX2_grainsTaken 23 = .ok (.lload 4, 2) := by decide +kernel
theorem dX2_grainsTaken_25 : decode cX2_grainsTaken 25 = .ok (.aload_n 3, 1) := by decide +kernel
theorem dX2_grainsTaken_26 : decode cX2_grainsTaken 26 = .ok (.iconst 0, 1) := by decide +kernel
theorem dX2_grainsTaken_27 : decode cX2_grainsTaken 27 = .ok (.invokevirtual 59, 3) := by decide +kernel
theorem dX2_grainsTaken_30 : decode cX2_grainsTaken 30 = .ok (.i2l, 1) := by decide +kernel
theorem dX2_grainsTaken_31 : decode cX2_grainsTaken 31 = .ok (.iload_n 2, 1) := by decide +kernel
theorem dX2_grainsTaken_32 : decode cX2_grainsTaken 32 = .ok (.i2l, 1) := by decide +kernel
theorem dX2_grainsTaken_33 : decode cX2_grainsTaken 33 = .ok (.lmul, 1) := by decide +kernel
theorem dX2_grainsTaken_34 : decode cX2_grainsTaken 34 = .ok (.ladd, 1) := by decide +kernel
theorem dX2_grainsTaken_35 : decode cX2_grainsTaken 35 = .ok (.lstore 6, 2) := by decide +kernel
theorem dX2_grainsTaken_37 : decode cX2_grainsTaken 37 = .ok (.lload 6, 2) := by decide +kernel
theorem dX2_grainsTaken_39 : decode cX2_grainsTaken 39 = .ok (.lconst 0, 1) := by decide +kernel
theorem dX2_grainsTaken_40 : decode cX2_grainsTaken 40 = .ok (.lcmp, 1) := by decide +kernel
theorem dX2_grainsTaken_41 : decode cX2_grainsTaken 41 = .ok (.ifCond .le 15, 3) := by decide +kernel
theorem dX2_grainsTaken_44 : decode cX2_grainsTaken 44 = .ok (.iload_n 1, 1) := by decide +kernel
theorem dX2_grainsTaken_45 : decode cX2_grainsTaken 45 = .ok (.i2l, 1) := by decide +kernel
theorem dX2_grainsTaken_46 : decode cX2_grainsTaken 46 = .ok (.lload 4, 2) := by decide +kernel
theorem dX2_grainsTaken_48 : decode cX2_grainsTaken 48 = .ok (.lmul, 1) := by decide +kernel
theorem dX2_grainsTaken_49 : decode cX2_grainsTaken 49 = .ok (.lload 6, 2) := by decide +kernel
theorem dX2_grainsTaken_51 : decode cX2_grainsTaken 51 = .ok (.ldiv, 1) := by decide +kernel
theorem dX2_grainsTaken_52 : decode cX2_grainsTaken 52 = .ok (.l2i, 1) := by decide +kernel
theorem dX2_grainsTaken_53 : decode cX2_grainsTaken 53 = .ok (.goto 4, 3) := by decide +kernel
theorem dX2_grainsTaken_56 : decode cX2_grainsTaken 56 = .ok (.iconst 0, 1) := by decide +kernel
theorem dX2_grainsTaken_57 : decode cX2_grainsTaken 57 = .ok (.ireturn, 1) := by decide +kernel
theorem dX2_soakIn_0 : decode cX2_soakIn 0 = .ok (.aload_n 0, 1) := by decide +kernel
theorem dX2_soakIn_1 : decode cX2_soakIn 1 = .ok (.aload_n 1, 1) := by decide +kernel
theorem dX2_soakIn_2 : decode cX2_soakIn 2 = .ok (.getfield 62, 3) := by decide +kernel
theorem dX2_soakIn_5 : decode cX2_soakIn 5 = .ok (.aload_n 1, 1) := by decide +kernel
theorem dX2_soakIn_6 : decode cX2_soakIn 6 = .ok (.getfield 67, 3) := by decide +kernel
theorem dX2_soakIn_9 : decode cX2_soakIn 9 = .ok (.aload_n 2, 1) := by decide +kernel
theorem dX2_soakIn_10 : decode cX2_soakIn 10 = .ok (.invokevirtual 70, 3) := by decide +kernel
theorem dX2_soakIn_13 : decode cX2_soakIn 13 = .ok (.istore_n 3, 1) := by decide +kernel
theorem dX2_soakIn_14 : decode cX2_soakIn 14 = .ok (.iload_n 3, 1) := by decide +kernel
theorem dX2_soakIn_15 : decode cX2_soakIn 15 = .ok (.aload_n 2, 1) := by decide +kernel
theorem dX2_soakIn_16 : decode cX2_soakIn 16 = .ok (.iconst 5, 1) := by decide +kernel
theorem dX2_soakIn_17 : decode cX2_soakIn 17 = .ok (.invokevirtual 59, 3) := by decide +kernel
theorem dX2_soakIn_20 : decode cX2_soakIn 20 = .ok (.imul, 1) := by decide +kernel
theorem dX2_soakIn_21 : decode cX2_soakIn 21 = .ok (.bipush 100, 2) := by decide +kernel
theorem dX2_soakIn_23 : decode cX2_soakIn 23 = .ok (.idiv, 1) := by decide +kernel
theorem dX2_soakIn_24 : decode cX2_soakIn 24 = .ok (.istore 4, 2) := by decide +kernel
theorem dX2_soakIn_26 : decode cX2_soakIn 26 = .ok (.aload_n 1, 1) := by decide +kernel
theorem dX2_soakIn_27 : decode cX2_soakIn 27 = .ok (.aload_n 2, 1) := by decide +kernel
theorem dX2_soakIn_28 : decode cX2_soakIn 28 = .ok (.invokevirtual 74, 3) := by decide +kernel
theorem dX2_soakIn_31 : decode cX2_soakIn 31 = .ok (.istore 5, 2) := by decide +kernel
theorem dX2_soakIn_33 : decode cX2_soakIn 33 = .ok (.aload_n 0, 1) := by decide +kernel
theorem dX2_soakIn_34 : decode cX2_soakIn 34 = .ok (.getfield 19, 3) := by decide +kernel
theorem dX2_soakIn_37 : decode cX2_soakIn 37 = .ok (.aload_n 1, 1) := by decide +kernel
theorem dX2_soakIn_38 : decode cX2_soakIn 38 = .ok (.getfield 78, 3) := by decide +kernel
theorem dX2_soakIn_41 : decode cX2_soakIn 41 = .ok (.iload 4, 2) := by decide +kernel
theorem dX2_soakIn_43 : decode cX2_soakIn 43 = .ok (.invokestatic 81, 3) := by decide +kernel
theorem dX2_soakIn_46 : decode cX2_soakIn 46 = .ok (.aload_n 0, 1) := by decide +kernel
theorem dX2_soakIn_47 : decode cX2_soakIn 47 = .ok (.getfield 15, 3) := by decide +kernel
theorem dX2_soakIn_50 : decode cX2_soakIn 50 = .ok (.aload_n 1, 1) := by decide +kernel
theorem dX2_soakIn_51 : decode cX2_soakIn 51 = .ok (.getfield 78, 3) := by decide +kernel
theorem dX2_soakIn_54 : decode cX2_soakIn 54 = .ok (.iload_n 3, 1) := by decide +kernel
theorem dX2_soakIn_55 : decode cX2_soakIn 55 = .ok (.iload 4, 2) := by decide +kernel
theorem dX2_soakIn_57 : decode cX2_soakIn 57 = .ok (.isub, 1) := by decide +kernel
theorem dX2_soakIn_58 : decode cX2_soakIn 58 = .ok (.invokestatic 81, 3) := by decide +kernel
theorem dX2_soakIn_61 : decode cX2_soakIn 61 = .ok (.aload_n 0, 1) := by decide +kernel
theorem dX2_soakIn_62 : decode cX2_soakIn 62 = .ok (.dup, 1) := by decide +kernel
theorem dX2_soakIn_63 : decode cX2_soakIn 63 = .ok (.getfield 38, 3) := by decide +kernel
theorem dX2_soakIn_66 : decode cX2_soakIn 66 = .ok (.iconst 1, 1) := by decide +kernel
theorem dX2_soakIn_67 : decode cX2_soakIn 67 = .ok (.iadd, 1) := by decide +kernel
theorem dX2_soakIn_68 : decode cX2_soakIn 68 = .ok (.putfield 38, 3) := by decide +kernel
theorem dX2_soakIn_71 : decode cX2_soakIn 71 = .ok (.aload_n 1, 1) := by decide +kernel
theorem dX2_soakIn_72 : decode cX2_soakIn 72 = .ok (.dup, 1) := by decide +kernel
theorem dX2_soakIn_73 : decode cX2_soakIn 73 = .ok (.getfield 62, 3) := by decide +kernel
theorem dX2_soakIn_76 : decode cX2_soakIn 76 = .ok (.iload_n 3, 1) := by decide +kernel
theorem dX2_soakIn_77 : decode cX2_soakIn 77 = .ok (.isub, 1) := by decide +kernel
theorem dX2_soakIn_78 : decode cX2_soakIn 78 = .ok (.putfield 62, 3) := by decide +kernel
theorem dX2_soakIn_81 : decode cX2_soakIn 81 = .ok (.aload_n 1, 1) := by decide +kernel
theorem dX2_soakIn_82 : decode cX2_soakIn 82 = .ok (.dup, 1) := by decide +kernel
theorem dX2_soakIn_83 : decode cX2_soakIn 83 = .ok (.getfield 85, 3) := by decide +kernel
theorem dX2_soakIn_86 : decode cX2_soakIn 86 = .ok (.aload_n 0, 1) := by decide +kernel
theorem dX2_soakIn_87 : decode cX2_soakIn 87 = .ok (.getfield 25, 3) := by decide +kernel
theorem dX2_soakIn_90 : decode cX2_soakIn 90 = .ok (.aload_n 2, 1) := by decide +kernel
theorem dX2_soakIn_91 : decode cX2_soakIn 91 = .ok (.iconst 1, 1) := by decide +kernel
theorem dX2_soakIn_92 : decode cX2_soakIn 92 = .ok (.invokevirtual 59, 3) := by decide +kernel
theorem dX2_soakIn_95 : decode cX2_soakIn 95 = .ok (.imul, 1) := by decide +kernel
theorem dX2_soakIn_96 : decode cX2_soakIn 96 = .ok (.sipush 999, 3) := by decide +kernel
theorem dX2_soakIn_99 : decode cX2_soakIn 99 = .ok (.iadd, 1) := by decide +kernel
theorem dX2_soakIn_100 : decode cX2_soakIn 100 = .ok (.sipush 1000, 3) := by decide +kernel
theorem dX2_soakIn_103 : decode cX2_soakIn 103 = .ok (.idiv, 1) := by decide +kernel
theorem dX2_soakIn_104 : decode cX2_soakIn 104 = .ok (.iadd, 1) := by decide +kernel
theorem dX2_soakIn_105 : decode cX2_soakIn 105 = .ok (.putfield 85, 3) := by decide +kernel
theorem dX2_soakIn_108 : decode cX2_soakIn 108 = .ok (.aload_n 0, 1) := by decide +kernel
theorem dX2_soakIn_109 : decode cX2_soakIn 109 = .ok (.getfield 35, 3) := by decide +kernel
theorem dX2_soakIn_112 : decode cX2_soakIn 112 = .ok (.ifCond .ne 25, 3) := by decide +kernel
theorem dX2_soakIn_115 : decode cX2_soakIn 115 = .ok (.iload 5, 2) := by decide +kernel
theorem dX2_soakIn_117 : decode cX2_soakIn 117 = .ok (.ifCond .ne 15, 3) := by decide +kernel
theorem dX2_soakIn_120 : decode cX2_soakIn 120 = .ok (.aload_n 0, 1) := by decide +kernel
theorem dX2_soakIn_121 : decode cX2_soakIn 121 = .ok (.invokevirtual 88, 3) := by decide +kernel
theorem dX2_soakIn_124 : decode cX2_soakIn 124 = .ok (.aload_n 2, 1) := by decide +kernel
theorem dX2_soakIn_125 : decode cX2_soakIn 125 = .ok (.iconst 3, 1) := by decide +kernel
theorem dX2_soakIn_126 : decode cX2_soakIn 126 = .ok (.invokevirtual 59, 3) := by decide +kernel
theorem dX2_soakIn_129 : decode cX2_soakIn 129 = .ok (.if_icmp .le 8, 3) := by decide +kernel
theorem dX2_soakIn_132 : decode cX2_soakIn 132 = .ok (.aload_n 0, 1) := by decide +kernel
theorem dX2_soakIn_133 : decode cX2_soakIn 133 = .ok (.iconst 1, 1) := by decide +kernel
theorem dX2_soakIn_134 : decode cX2_soakIn 134 = .ok (.putfield 32, 3) := by decide +kernel
theorem dX2_soakIn_137 : decode cX2_soakIn 137 = .ok (.aload_n 0, 1) := by decide +kernel
theorem dX2_soakIn_138 : decode cX2_soakIn 138 = .ok (.getfield 32, 3) := by decide +kernel
theorem dX2_soakIn_141 : decode cX2_soakIn 141 = .ok (.ifCond .eq 35, 3) := by decide +kernel
theorem dX2_soakIn_144 : decode cX2_soakIn 144 = .ok (.aload_n 1, 1) := by decide +kernel
theorem dX2_soakIn_145 : decode cX2_soakIn 145 = .ok (.getfield 78, 3) := by decide +kernel
theorem dX2_soakIn_148 : decode cX2_soakIn 148 = .ok (.iconst 3, 1) := by decide +kernel
theorem dX2_soakIn_149 : decode cX2_soakIn 149 = .ok (.if_icmp .ne 27, 3) := by decide +kernel
theorem dX2_soakIn_152 : decode cX2_soakIn 152 = .ok (.aload_n 0, 1) := by decide +kernel
