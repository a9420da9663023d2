theorem dX2_soakIn_153 : decode cX2_soakIn 153 = .ok (.iconst 3, 1) := by decide +kernel
theorem dX2_soakIn_154 : decode cX2_soakIn 154 = .ok (.invokevirtual 92, 3) := by decide +kernel
theorem dX2_soakIn_157 : decode cX2_soakIn 157 = .ok (.aload_n 2, 1) := by decide +kernel
theorem dX2_soakIn_158 : decode cX2_soakIn 158 = .ok (.bipush 6, 2) := by decide +kernel
theorem dX2_soakIn_160 : decode cX2_soakIn 160 = .ok (.invokevirtual 59, 3) := by decide +kernel
theorem dX2_soakIn_163 : decode cX2_soakIn 163 = .ok (.if_icmp .lt 13, 3) := by decide +kernel
theorem dX2_soakIn_166 : decode cX2_soakIn 166 = .ok (.aload_n 0, 1) := by decide +kernel
theorem dX2_soakIn_167 : decode cX2_soakIn 167 = .ok (.iconst 0, 1) := by decide +kernel
theorem dX2_soakIn_168 : decode cX2_soakIn 168 = .ok (.putfield 32, 3) := by decide +kernel
theorem dX2_soakIn_171 : decode cX2_soakIn 171 = .ok (.aload_n 0, 1) := by decide +kernel
theorem dX2_soakIn_172 : decode cX2_soakIn 172 = .ok (.iconst 1, 1) := by decide +kernel
theorem dX2_soakIn_173 : decode cX2_soakIn 173 = .ok (.putfield 35, 3) := by decide +kernel
theorem dX2_soakIn_176 : decode cX2_soakIn 176 = .ok (.iload_n 3, 1) := by decide +kernel
theorem dX2_soakIn_177 : decode cX2_soakIn 177 = .ok (.ireturn, 1) := by decide +kernel
theorem dX3_init_0 : decode cX3_init 0 = .ok (.aload_n 0, 1) := by decide +kernel
theorem dX3_init_1 : decode cX3_init 1 = .ok (.invokespecial 3, 3) := by decide +kernel
theorem dX3_init_4 : decode cX3_init 4 = .ok (.aload_n 0, 1) := by decide +kernel
theorem dX3_init_5 : decode cX3_init 5 = .ok (.iconst 4, 1) := by decide +kernel
theorem dX3_init_6 : decode cX3_init 6 = .ok (.newarray .int, 2) := by decide +kernel
theorem dX3_init_8 : decode cX3_init 8 = .ok (.putfield 9, 3) := by decide +kernel
theorem dX3_init_11 : decode cX3_init 11 = .ok (.return_, 1) := by decide +kernel
theorem dX3_copyFrom_0 : decode cX3_copyFrom 0 = .ok (.aload_n 1, 1) := by decide +kernel
theorem dX3_copyFrom_1 : decode cX3_copyFrom 1 = .ok (.getfield 9, 3) := by decide +kernel
theorem dX3_copyFrom_4 : decode cX3_copyFrom 4 = .ok (.aload_n 0, 1) := by decide +kernel
theorem dX3_copyFrom_5 : decode cX3_copyFrom 5 = .ok (.getfield 9, 3) := by decide +kernel
theorem dX3_copyFrom_8 : decode cX3_copyFrom 8 = .ok (.invokestatic 15, 3) := by decide +kernel
theorem dX3_copyFrom_11 : decode cX3_copyFrom 11 = .ok (.aload_n 0, 1) := by decide +kernel
theorem dX3_copyFrom_12 : decode cX3_copyFrom 12 = .ok (.aload_n 1, 1) := by decide +kernel
theorem dX3_copyFrom_13 : decode cX3_copyFrom 13 = .ok (.getfield 19, 3) := by decide +kernel
theorem dX3_copyFrom_16 : decode cX3_copyFrom 16 = .ok (.putfield 19, 3) := by decide +kernel
theorem dX3_copyFrom_19 : decode cX3_copyFrom 19 = .ok (.return_, 1) := by decide +kernel
theorem dX3_ask_0 : decode cX3_ask 0 = .ok (.aload_n 0, 1) := by decide +kernel
theorem dX3_ask_1 : decode cX3_ask 1 = .ok (.getfield 9, 3) := by decide +kernel
theorem dX3_ask_4 : decode cX3_ask 4 = .ok (.iconst 0, 1) := by decide +kernel
theorem dX3_ask_5 : decode cX3_ask 5 = .ok (.iload_n 1, 1) := by decide +kernel
theorem dX3_ask_6 : decode cX3_ask 6 = .ok (.invokestatic 23, 3) := by decide +kernel
theorem dX3_ask_9 : decode cX3_ask 9 = .ok (.aload_n 0, 1) := by decide +kernel
theorem dX3_ask_10 : decode cX3_ask 10 = .ok (.getfield 9, 3) := by decide +kernel
theorem dX3_ask_13 : decode cX3_ask 13 = .ok (.iconst 1, 1) := by decide +kernel
theorem dX3_ask_14 : decode cX3_ask 14 = .ok (.iload_n 2, 1) := by decide +kernel
theorem dX3_ask_15 : decode cX3_ask 15 = .ok (.invokestatic 23, 3) := by decide +kernel
theorem dX3_ask_18 : decode cX3_ask 18 = .ok (.aload_n 0, 1) := by decide +kernel
theorem dX3_ask_19 : decode cX3_ask 19 = .ok (.getfield 9, 3) := by decide +kernel
theorem dX3_ask_22 : decode cX3_ask 22 = .ok (.iconst 2, 1) := by decide +kernel
theorem dX3_ask_23 : decode cX3_ask 23 = .ok (.iload_n 3, 1) := by decide +kernel
theorem dX3_ask_24 : decode cX3_ask 24 = .ok (.invokestatic 23, 3) := by decide +kernel
theorem dX3_ask_27 : decode cX3_ask 27 = .ok (.aload_n 0, 1) := by decide +kernel
theorem dX3_ask_28 : decode cX3_ask 28 = .ok (.getfield 9, 3) := by decide +kernel
theorem dX3_ask_31 : decode cX3_ask 31 = .ok (.iconst 3, 1) := by decide +kernel
theorem dX3_ask_32 : decode cX3_ask 32 = .ok (.iload 4, 2) := by decide +kernel
theorem dX3_ask_34 : decode cX3_ask 34 = .ok (.invokestatic 23, 3) := by decide +kernel
theorem dX3_ask_37 : decode cX3_ask 37 = .ok (.return_, 1) := by decide +kernel
theorem dX3_shadeFor_0 : decode cX3_shadeFor 0 = .ok (.aload_n 0, 1) := by decide +kernel
theorem dX3_shadeFor_1 : decode cX3_shadeFor 1 = .ok (.getfield 9, 3) := by decide +kernel
theorem dX3_shadeFor_4 : decode cX3_shadeFor 4 = .ok (.iload_n 1, 1) := by decide +kernel
theorem dX3_shadeFor_5 : decode cX3_shadeFor 5 = .ok (.invokestatic 27, 3) := by decide +kernel
theorem dX3_shadeFor_8 : decode cX3_shadeFor 8 = .ok (.ireturn, 1) := by decide +kernel
theorem dX3_isFittedBy_0 : decode cX3_isFittedBy 0 = .ok (.aload_n 1, 1) := by decide +kernel
theorem dX3_isFittedBy_1 : decode cX3_isFittedBy 1 = .ok (.getfield 31, 3) := by decide +kernel
theorem dX3_isFittedBy_4 : decode cX3_isFittedBy 4 = .ok (.ifCond .eq 5, 3) := by decide +kernel
theorem dX3_isFittedBy_7 : decode cX3_isFittedBy 7 = .ok (.iconst 0, 1) := by decide +kernel
theorem dX3_isFittedBy_8 : decode cX3_isFittedBy 8 = .ok (.ireturn, 1) := by decide +kernel
theorem dX3_isFittedBy_9 : decode cX3_isFittedBy 9 = .ok (.aload_n 2, 1) := by decide +kernel
theorem dX3_isFittedBy_10 : decode cX3_isFittedBy 10 = .ok (.iconst 4, 1) := by decide +kernel
theorem dX3_isFittedBy_11 : decode cX3_isFittedBy 11 = .ok (.invokevirtual 38, 3) := by decide +kernel
theorem dX3_isFittedBy_14 : decode cX3_isFittedBy 14 = .ok (.istore_n 3, 1) := by decide +kernel
theorem dX3_isFittedBy_15 : decode cX3_isFittedBy 15 = .ok (.iconst 0, 1) := by decide +kernel
theorem dX3_isFittedBy_16 : decode cX3_isFittedBy 16 = .ok (.istore 4, 2) := by decide +kernel
theorem dX3_isFittedBy_18 : decode cX3_isFittedBy 18 = .ok (.iload 4, 2) := by decide +kernel
theorem dX3_isFittedBy_20 : decode cX3_isFittedBy 20 = .ok (.iconst 4, 1) := by decide +kernel
theorem dX3_isFittedBy_21 : decode cX3_isFittedBy 21 = .ok (.if_icmp .ge 30, 3) := by decide +kernel
theorem dX3_isFittedBy_24 : decode cX3_isFittedBy 24 = .ok (.aload_n 1, 1) := by decide +kernel
theorem dX3_isFittedBy_25 : decode cX3_isFittedBy 25 = .ok (.iload 4, 2) := by decide +kernel
theorem dX3_isFittedBy_27 : decode cX3_isFittedBy 27 = .ok (.invokevirtual 42, 3) := by decide +kernel
theorem dX3_isFittedBy_30 : decode cX3_isFittedBy 30 = .ok (.aload_n 0, 1) := by decide +kernel
theorem dX3_isFittedBy_31 : decode cX3_isFittedBy 31 = .ok (.iload 4, 2) := by decide +kernel
theorem dX3_isFittedBy_33 : decode cX3_isFittedBy 33 = .ok (.invokevirtual 45, 3) := by decide +kernel
theorem dX3_isFittedBy_36 : decode cX3_isFittedBy 36 = .ok (.invokestatic 48, 3) := by decide +kernel
theorem dX3_isFittedBy_39 : decode cX3_isFittedBy 39 = .ok (.iload_n 3, 1) := by decide +kernel
theorem dX3_isFittedBy_40 : decode cX3_isFittedBy 40 = .ok (.if_icmp .le 5, 3) := by decide +kernel
theorem dX3_isFittedBy_43 : decode cX3_isFittedBy 43 = .ok (.iconst 0, 1) := by decide +kernel
theorem dX3_isFittedBy_44 : decode cX3_isFittedBy 44 = .ok (.ireturn, 1) := by decide +kernel
theorem dX3_isFittedBy_45 : decode cX3_isFittedBy 45 = .ok (.iinc 4 1, 3) := by decide +kernel
theorem dX3_isFittedBy_48 : decode cX3_isFittedBy 48 = .ok (.goto (-30), 3) := by decide +kernel
theorem dX3_isFittedBy_51 : decode cX3_isFittedBy 51 = .ok (.iconst 1, 1) := by decide +kernel
theorem dX3_isFittedBy_52 : decode cX3_isFittedBy 52 = .ok (.ireturn, 1) := by decide +kernel
theorem dX3_distanceTo_0 : decode cX3_distanceTo 0 = .ok (.iconst 0, 1) := by decide +kernel
theorem dX3_distanceTo_1 : decode cX3_distanceTo 1 = .ok (.istore_n 2, 1) := by decide +kernel
theorem dX3_distanceTo_2 : decode cX3_distanceTo 2 = .ok (.iconst 0, 1) := by decide +kernel
theorem dX3_distanceTo_3 : decode cX3_distanceTo 3 = .ok (.istore_n 3, 1) := by decide +kernel
theorem dX3_distanceTo_4 : decode cX3_distanceTo 4 = .ok (.iload_n 3, 1) := by decide +kernel
theorem dX3_distanceTo_5 : decode cX3_distanceTo 5 = .ok (.iconst 4, 1) := by decide +kernel
theorem dX3_distanceTo_6 : decode cX3_distanceTo 6 = .ok (.if_icmp .ge 25, 3) := by decide +kernel
theorem dX3_distanceTo_9 : decode cX3_distanceTo 9 = .ok (.iload_n 2, 1) := by decide +kernel
theorem dX3_distanceTo_10 : decode cX3_distanceTo 10 = .ok (.aload_n 1, 1) := by decide +kernel
theorem dX3_distanceTo_11 : decode cX3_distanceTo 11 = .ok (.iload_n 3, 1) := by decide +kernel
theorem dX3_distanceTo_12 : decode cX3_distanceTo 12 = .ok (.invokevirtual 42, 3) := by decide +kernel
theorem dX3_distanceTo_15 : decode cX3_distanceTo 15 = .ok (.aload_n 0, 1) := by decide +kernel
theorem dX3_distanceTo_16 : decode cX3_distanceTo 16 = .ok (.iload_n 3, 1) := by decide +kernel
theorem dX3_distanceTo_17 : decode cX3_distanceTo 17 = .ok (.invokevirtual 45, 3) := by decide +kernel
theorem dX3_distanceTo_20 : decode cX3_distanceTo 20 = .ok (.invokestatic 48, 3) := by decide +kernel
theorem dX3_distanceTo_23 : decode cX3_distanceTo 23 = .ok (.iadd, 1) := by decide +kernel
theorem dX3_distanceTo_24 : decode cX3_distanceTo 24 = .ok (.istore_n 2, 1) := by decide +kernel
theorem dX3_distanceTo_25 : decode cX3_distanceTo 25 = .ok (.iinc 3 1, 3) := by decide +kernel
theorem dX3_distanceTo_28 : decode cX3_distanceTo 28 = .ok (.goto (-24), 3) := by decide +kernel
theorem dX3_distanceTo_31 : decode cX3_distanceTo 31 = .ok (.iload_n 2, 1) := by decide +kernel
theorem dX3_distanceTo_32 : decode cX3_distanceTo 32 = .ok (.ireturn, 1) := by decide +kernel
theorem dX4_init_0 : decode cX4_init 0 = .ok (.aload_n 0, 1) := by decide +kernel
theorem dX4_init_1 : decode cX4_init 1 = .ok (.invokespecial 1, 3) := by decide +kernel
theorem dX4_init_4 : decode cX4_init 4 = .ok (.aload_n 0, 1) := by decide +kernel
theorem dX4_init_5 : decode cX4_init 5 = .ok (.iconst 5, 1) := by decide +kernel
theorem dX4_init_6 : decode cX4_init 6 = .ok (.anewarray 9, 3) := by decide +kernel
theorem dX4_init_9 : decode cX4_init 9 = .ok (.putfield 11, 3) := by decide +kernel
theorem dX4_init_12 : decode cX4_init 12 = .ok (.aload_n 0, 1) := by decide +kernel
theorem dX4_init_13 : decode cX4_init 13 = .ok (.iconst 4, 1) := by decide +kernel
theorem dX4_init_14 : decode cX4_init 14 = .ok (.newarray .int, 2) := by decide +kernel
theorem dX4_init_16 : decode cX4_init 16 = .ok (.putfield 15, 3) := by decide +kernel
theorem dX4_init_19 : decode cX4_init 19 = .ok (.iconst 0, 1) := by decide +kernel
theorem dX4_init_20 : decode cX4_init 20 = .ok (.istore_n 1, 1) := by decide +kernel
theorem dX4_init_21 : decode cX4_init 21 = .ok (.iload_n 1, 1) := by decide +kernel
theorem dX4_init_22 : decode cX4_init 22 = .ok (.aload_n 0, 1) := by decide +kernel
theorem dX4_init_23 : decode cX4_init 23 = .ok (.getfield 11, 3) := by decide +kernel
theorem dX4_init_26 : decode cX4_init 26 = .ok (.arraylength, 1) := by decide +kernel
theorem dX4_init_27 : decode cX4_init 27 = .ok (.if_icmp .ge 22, 3) := by decide +kernel
theorem dX4_init_30 : decode cX4_init 30 = .ok (.aload_n 0, 1) := by decide +kernel
theorem dX4_init_31 : decode cX4_init 31 = .ok (.getfield 11, 3) := by decide +kernel
theorem dX4_init_34 : decode cX4_init 34 = .ok (.iload_n 1, 1) := by decide +kernel
theorem dX4_init_35 : decode cX4_init 35 = .ok (.new 9, 3) := by decide +kernel
theorem dX4_init_38 : decode cX4_init 38 = .ok (.dup, 1) := by decide +kernel
theorem dX4_init_39 : decode cX4_init 39 = .ok (.invokespecial 19, 3) := by decide +kernel
theorem dX4_init_42 : decode cX4_init 42 = .ok (.aastore, 1) := by decide +kernel
theorem dX4_init_43 : decode cX4_init 43 = .ok (.iinc 1 1, 3) := by decide +kernel
theorem dX4_init_46 : decode cX4_init 46 = .ok (.goto (-25), 3) := by decide +kernel
theorem dX4_init_49 : decode cX4_init 49 = .ok (.return_, 1) := by decide +kernel
theorem dX4_vatOfDip_0 : decode cX4_vatOfDip 0 = .ok (.aload_n 0, 1) := by decide +kernel
theorem dX4_vatOfDip_1 : decode cX4_vatOfDip 1 = .ok (.getfield 15, 3) := by decide +kernel
theorem dX4_vatOfDip_4 : decode cX4_vatOfDip 4 = .ok (.iload_n 1, 1) := by decide +kernel
theorem dX4_vatOfDip_5 : decode cX4_vatOfDip 5 = .ok (.invokestatic 20, 3) := by decide +kernel
theorem dX4_vatOfDip_8 : decode cX4_vatOfDip 8 = .ok (.ireturn, 1) := by decide +kernel
theorem dX4_lotBehind_0 : decode cX4_lotBehind 0 = .ok (.iload_n 1, 1) := by decide +kernel
theorem dX4_lotBehind_1 : decode cX4_lotBehind 1 = .ok (.ifCond .lt 21, 3) := by decide +kernel
theorem dX4_lotBehind_4 : decode cX4_lotBehind 4 = .ok (.iload_n 1, 1) := by decide +kernel
theorem dX4_lotBehind_5 : decode cX4_lotBehind 5 = .ok (.aload_n 0, 1) := by decide +kernel
theorem dX4_lotBehind_6 : decode cX4_lotBehind 6 = .ok (.getfield 11, 3) := by decide +kernel
theorem dX4_lotBehind_9 : decode cX4_lotBehind 9 = .ok (.arraylength, 1) := by decide +kernel
theorem dX4_lotBehind_10 : decode cX4_lotBehind 10 = .ok (.if_icmp .ge 12, 3) := by decide +kernel
theorem dX4_lotBehind_13 : decode cX4_lotBehind 13 = .ok (.aload_n 0, 1) := by decide +kernel
theorem dX4_lotBehind_14 : decode cX4_lotBehind 14 = .ok (.getfield 11, 3) := by decide +kernel
theorem dX4_lotBehind_17 : decode cX4_lotBehind 17 = .ok (.iload_n 1, 1) := by decide +kernel
theorem dX4_lotBehind_18 : decode cX4_lotBehind 18 = .ok (.aaload, 1) := by decide +kernel
theorem dX4_lotBehind_19 : decode cX4_lotBehind 19 = .ok (.goto 4, 3) := by decide +kernel
theorem dX4_lotBehind_22 : decode cX4_lotBehind 22 = .ok (.aconst_null, 1) := by decide +kernel
theorem dX4_lotBehind_23 : decode cX4_lotBehind 23 = .ok (.areturn, 1) := by decide +kernel
theorem dX4_findPlan_0 : decode cX4_findPlan 0 = .ok (.aload_n 0, 1) := by decide +kernel
theorem dX4_findPlan_1 : decode cX4_findPlan 1 = .ok (.iconst 0, 1) := by decide +kernel
theorem dX4_findPlan_2 : decode cX4_findPlan 2 = .ok (.invokevirtual 26, 3) := by decide +kernel
theorem dX4_findPlan_5 : decode cX4_findPlan 5 = .ok (.astore 4, 2) := by decide +kernel
theorem dX4_findPlan_7 : decode cX4_findPlan 7 = .ok (.aload 4, 2) := by decide +kernel
theorem dX4_findPlan_9 : decode cX4_findPlan 9 = .ok (.ifnonnull 5, 3) := by decide +kernel
theorem dX4_findPlan_12 : decode cX4_findPlan 12 = .ok (.iconst (-1), 1) := by decide +kernel
theorem dX4_findPlan_13 : decode cX4_findPlan 13 = .ok (.ireturn, 1) := by decide +kernel
theorem dX4_findPlan_14 : decode cX4_findPlan 14 = .ok (.aload 4, 2) := by decide +kernel
theorem dX4_findPlan_16 : decode cX4_findPlan 16 = .ok (.aload_n 2, 1) := by decide +kernel
theorem dX4_findPlan_17 : decode cX4_findPlan 17 = .ok (.invokevirtual 30, 3) := by decide +kernel
theorem dX4_findPlan_20 : decode cX4_findPlan 20 = .ok (.iconst 0, 1) := by decide +kernel
theorem dX4_findPlan_21 : decode cX4_findPlan 21 = .ok (.istore 5, 2) := by decide +kernel
theorem dX4_findPlan_23 : decode cX4_findPlan 23 = .ok (.iload 5, 2) := by decide +kernel
theorem dX4_findPlan_25 : decode cX4_findPlan 25 = .ok (.iconst 4, 1) := by decide +kernel
theorem dX4_findPlan_26 : decode cX4_findPlan 26 = .ok (.if_icmp .gt 24, 3) := by decide +kernel
theorem dX4_findPlan_29 : decode cX4_findPlan 29 = .ok (.aload_n 0, 1) := by decide +kernel
theorem dX4_findPlan_30 : decode cX4_findPlan 30 = .ok (.aload_n 1, 1) := by decide +kernel
theorem dX4_findPlan_31 : decode cX4_findPlan 31 = .ok (.aload_n 3, 1) := by decide +kernel
theorem dX4_findPlan_32 : decode cX4_findPlan 32 = .ok (.iconst 0, 1) := by decide +kernel
theorem dX4_findPlan_33 : decode cX4_findPlan 33 = .ok (.iload 5, 2) := by decide +kernel
theorem dX4_findPlan_35 : decode cX4_findPlan 35 = .ok (.invokestatic 34, 3) := by decide +kernel
theorem dX4_findPlan_38 : decode cX4_findPlan 38 = .ok (.ifCond .eq 6, 3) := by decide +kernel
theorem dX4_findPlan_41 : decode cX4_findPlan 41 = .ok (.iload 5, 2) := by decide +kernel
theorem dX4_findPlan_43 : decode cX4_findPlan 43 = .ok (.ireturn, 1) := by decide +kernel
theorem dX4_findPlan_44 : decode cX4_findPlan 44 = .ok (.iinc 5 1, 3) := by decide +kernel
theorem dX4_findPlan_47 : decode cX4_findPlan 47 = .ok (.goto (-24), 3) := by decide +kernel
theorem dX4_findPlan_50 : decode cX4_findPlan 50 = .ok (.iconst (-1), 1) := by decide +kernel
theorem dX4_findPlan_51 : decode cX4_findPlan 51 = .ok (.ireturn, 1) := by decide +kernel
theorem dX4_isReached_0 : decode cX4_isReached 0 = .ok (.aload_n 0, 1) := by decide +kernel
theorem dX4_isReached_1 : decode cX4_isReached 1 = .ok (.iload_n 3, 1) := by decide +kernel
theorem dX4_isReached_2 : decode cX4_isReached 2 = .ok (.invokevirtual 26, 3) := by decide +kernel
theorem dX4_isReached_5 : decode cX4_isReached 5 = .ok (.astore 5, 2) := by decide +kernel
theorem dX4_isReached_7 : decode cX4_isReached 7 = .ok (.aload 5, 2) := by decide +kernel
theorem dX4_isReached_9 : decode cX4_isReached 9 = .ok (.ifnonnull 5, 3) := by decide +kernel
theorem dX4_isReached_12 : decode cX4_isReached 12 = .ok (.iconst 0, 1) := by decide +kernel
theorem dX4_isReached_13 : decode cX4_isReached 13 = .ok (.ireturn, 1) := by decide +kernel
theorem dX4_isReached_14 : decode cX4_isReached 14 = .ok (.iload_n 3, 1) := by decide +kernel
theorem dX4_isReached_15 : decode cX4_isReached 15 = .ok (.iload 4, 2) := by decide +kernel
theorem dX4_isReached_17 : decode cX4_isReached 17 = .ok (.if_icmp .lt 14, 3) := by decide +kernel
theorem dX4_isReached_20 : decode cX4_isReached 20 = .ok (.aload_n 2, 1) := by decide +kernel
theorem dX4_isReached_21 : decode cX4_isReached 21 = .ok (.aload 5, 2) := by decide +kernel
theorem dX4_isReached_23 : decode cX4_isReached 23 = .ok (.aload_n 1, 1) := by decide +kernel
theorem dX4_isReached_24 : decode cX4_isReached 24 = .ok (.getfield 38, 3) := by decide +kernel
theorem dX4_isReached_27 : decode cX4_isReached 27 = .ok (.invokevirtual 44, 3) := by decide +kernel
theorem dX4_isReached_30 : decode cX4_isReached 30 = .ok (.ireturn, 1) := by decide +kernel
theorem dX4_isReached_31 : decode cX4_isReached 31 = .ok (.aload_n 0, 1) := by decide +kernel
theorem dX4_isReached_32 : decode cX4_isReached 32 = .ok (.iload_n 3, 1) := by decide +kernel
theorem dX4_isReached_33 : decode cX4_isReached 33 = .ok (.iconst 1, 1) := by decide +kernel
theorem dX4_isReached_34 : decode cX4_isReached 34 = .ok (.iadd, 1) := by decide +kernel
theorem dX4_isReached_35 : decode cX4_isReached 35 = .ok (.invokevirtual 26, 3) := by decide +kernel
theorem dX4_isReached_38 : decode cX4_isReached 38 = .ok (.astore 6, 2) := by decide +kernel
theorem dX4_isReached_40 : decode cX4_isReached 40 = .ok (.iconst 0, 1) := by decide +kernel
theorem dX4_isReached_41 : decode cX4_isReached 41 = .ok (.istore 7, 2) := by decide +kernel
theorem dX4_isReached_43 : decode cX4_isReached 43 = .ok (.iload 7, 2) := by decide +kernel
theorem dX4_isReached_45 : decode cX4_isReached 45 = .ok (.aload_n 1, 1) := by decide +kernel
theorem dX4_isReached_46 : decode cX4_isReached 46 = .ok (.getfield 50, 3) := by decide +kernel
theorem dX4_isReached_49 : decode cX4_isReached 49 = .ok (.if_icmp .ge 115, 3) := by decide +kernel
theorem dX4_isReached_52 : decode cX4_isReached 52 = .ok (.aload 6, 2) := by decide +kernel
theorem dX4_isReached_54 : decode cX4_isReached 54 = .ok (.ifnull 110, 3) := by decide +kernel
theorem dX4_isReached_57 : decode cX4_isReached 57 = .ok (.aload_n 1, 1) := by decide +kernel
theorem dX4_isReached_58 : decode cX4_isReached 58 = .ok (.iload 7, 2) := by decide +kernel
theorem dX4_isReached_60 : decode cX4_isReached 60 = .ok (.invokevirtual 54, 3) := by decide +kernel
theorem dX4_isReached_63 : decode cX4_isReached 63 = .ok (.astore 8, 2) := by decide +kernel
theorem dX4_isReached_65 : decode cX4_isReached 65 = .ok (.aload 8, 2) := by decide +kernel
theorem dX4_isReached_67 : decode cX4_isReached 67 = .ok (.ifnull 91, 3) := by decide +kernel
theorem dX4_isReached_70 : decode cX4_isReached 70 = .ok (.aload 8, 2) := by decide +kernel
theorem dX4_isReached_72 : decode cX4_isReached 72 = .ok (.getfield 58, 3) := by decide +kernel
theorem dX4_isReached_75 : decode cX4_isReached 75 = .ok (.ifCond .gt 6, 3) := by decide +kernel
theorem dX4_isReached_78 : decode cX4_isReached 78 = .ok (.goto 80, 3) := by decide +kernel
theorem dX4_isReached_81 : decode cX4_isReached 81 = .ok (.aload 8, 2) := by decide +kernel
theorem dX4_isReached_83 : decode cX4_isReached 83 = .ok (.getfield 58, 3) := by decide +kernel
theorem dX4_isReached_86 : decode cX4_isReached 86 = .ok (.istore 9, 2) := by decide +kernel
theorem dX4_isReached_88 : decode cX4_isReached 88 = .ok (.aload 8, 2) := by decide +kernel
theorem dX4_isReached_90 : decode cX4_isReached 90 = .ok (.getfield 63, 3) := by decide +kernel
theorem dX4_isReached_93 : decode cX4_isReached 93 = .ok (.istore 10, 2) := by decide +kernel
theorem dX4_isReached_95 : decode cX4_isReached 95 = .ok (.aload 6, 2) := by decide +kernel
theorem dX4_isReached_97 : decode cX4_isReached 97 = .ok (.aload 5, 2) := by decide +kernel
theorem dX4_isReached_99 : decode cX4_isReached 99 = .ok (.invokevirtual 30, 3) := by decide +kernel
theorem dX4_isReached_102 : decode cX4_isReached 102 = .ok (.aload 6, 2) := by decide +kernel
theorem dX4_isReached_104 : decode cX4_isReached 104 = .ok (.aload 8, 2) := by decide +kernel
theorem dX4_isReached_106 : decode cX4_isReached 106 = .ok (.aload_n 1, 1) := by decide +kernel
theorem dX4_isReached_107 : decode cX4_isReached 107 = .ok (.getfield 38, 3) := by decide +kernel
theorem dX4_isReached_110 : decode cX4_isReached 110 = .ok (.invokevirtual 66, 3) := by decide +kernel
theorem dX4_isReached_113 : decode cX4_isReached 113 = .ok (.pop, 1) := by decide +kernel
theorem dX4_isReached_114 : decode cX4_isReached 114 = .ok (.aload_n 0, 1) := by decide +kernel
theorem dX4_isReached_115 : decode cX4_isReached 115 = .ok (.getfield 15, 3) := by decide +kernel
theorem dX4_isReached_118 : decode cX4_isReached 118 = .ok (.iload_n 3, 1) := by decide +kernel
theorem dX4_isReached_119 : decode cX4_isReached 119 = .ok (.iload 7, 2) := by decide +kernel
theorem dX4_isReached_121 : decode cX4_isReached 121 = .ok (.invokestatic 70, 3) := by decide +kernel
theorem dX4_isReached_124 : decode cX4_isReached 124 = .ok (.aload_n 0, 1) := by decide +kernel
theorem dX4_isReached_125 : decode cX4_isReached 125 = .ok (.aload_n 1, 1) := by decide +kernel
theorem dX4_isReached_126 : decode cX4_isReached 126 = .ok (.aload_n 2, 1) := by decide +kernel
theorem dX4_isReached_127 : decode cX4_isReached 127 = .ok (.iload_n 3, 1) := by decide +kernel
theorem dX4_isReached_128 : decode cX4_isReached 128 = .ok (.iconst 1, 1) := by decide +kernel
theorem dX4_isReached_129 : decode cX4_isReached 129 = .ok (.iadd, 1) := by decide +kernel
theorem dX4_isReached_130 : decode cX4_isReached 130 = .ok (.iload 4, 2) := by decide +kernel
theorem dX4_isReached_132 : decode cX4_isReached 132 = .ok (.invokestatic 34, 3) := by decide +kernel
theorem dX4_isReached_135 : decode cX4_isReached 135 = .ok (.istore 11, 2) := by decide +kernel
theorem dX4_isReached_137 : decode cX4_isReached 137 = .ok (.aload 8, 2) := by decide +kernel
theorem dX4_isReached_139 : decode cX4_isReached 139 = .ok (.iload 9, 2) := by decide +kernel
theorem dX4_isReached_141 : decode cX4_isReached 141 = .ok (.putfield 58, 3) := by decide +kernel
theorem dX4_isReached_144 : decode cX4_isReached 144 = .ok (.aload 8, 2) := by decide +kernel
theorem dX4_isReached_146 : decode cX4_isReached 146 = .ok (.iload 10, 2) := by decide +kernel
theorem dX4_isReached_148 : decode cX4_isReached 148 = .ok (.putfield 63, 3) := by decide +kernel
theorem dX4_isReached_151 : decode cX4_isReached 151 = .ok (.iload 11, 2) := by decide +kernel
theorem dX4_isReached_153 : decode cX4_isReached 153 = .ok (.ifCond .eq 5, 3) := by decide +kernel
theorem dX4_isReached_156 : decode cX4_isReached 156 = .ok (.iconst 1, 1) := by decide +kernel
theorem dX4_isReached_157 : decode cX4_isReached 157 = .ok (.ireturn, 1) := by decide +kernel
theorem dX4_isReached_158 : decode cX4_isReached 158 = .ok (.iinc 7 1, 3) := by decide +kernel
theorem dX4_isReached_161 : decode cX4_isReached 161 = .ok (.goto (-118), 3) := by decide +kernel
theorem dX4_isReached_164 : decode cX4_isReached 164 = .ok (.iconst 0, 1) := by decide +kernel
theorem dX4_isReached_165 : decode cX4_isReached 165 = .ok (.ireturn, 1) := by decide +kernel
theorem dX5_init_0 : decode cX5_init 0 = .ok (.aload_n 0, 1) := by decide +kernel
theorem dX5_init_1 : decode cX5_init 1 = .ok (.invokespecial 1, 3) := by decide +kernel
theorem dX5_init_4 : decode cX5_init 4 = .ok (.return_, 1) := by decide +kernel
theorem dX5_hasFault_0 : decode cX5_hasFault 0 = .ok (.aload_n 0, 1) := by decide +kernel
theorem dX5_hasFault_1 : decode cX5_hasFault 1 = .ok (.getfield 7, 3) := by decide +kernel
theorem dX5_hasFault_4 : decode cX5_hasFault 4 = .ok (.ifCond .eq 7, 3) := by decide +kernel
theorem dX5_hasFault_7 : decode cX5_hasFault 7 = .ok (.iconst 1, 1) := by decide +kernel
theorem dX5_hasFault_8 : decode cX5_hasFault 8 = .ok (.goto 4, 3) := by decide +kernel
theorem dX5_hasFault_11 : decode cX5_hasFault 11 = .ok (.iconst 0, 1) := by decide +kernel
theorem dX5_hasFault_12 : decode cX5_hasFault 12 = .ok (.ireturn, 1) := by decide +kernel
theorem dX5_doAll_0 : decode cX5_doAll 0 = .ok (.aload_n 0, 1) := by decide +kernel
theorem dX5_doAll_1 : decode cX5_doAll 1 = .ok (.iconst 0, 1) := by decide +kernel
theorem dX5_doAll_2 : decode cX5_doAll 2 = .ok (.putfield 13, 3) := by decide +kernel
theorem dX5_doAll_5 : decode cX5_doAll 5 = .ok (.aload_n 0, 1) := by decide +kernel
theorem dX5_doAll_6 : decode cX5_doAll 6 = .ok (.iconst 0, 1) := by decide +kernel
theorem dX5_doAll_7 : decode cX5_doAll 7 = .ok (.putfield 7, 3) := by decide +kernel
theorem dX5_doAll_10 : decode cX5_doAll 10 = .ok (.aload_n 0, 1) := by decide +kernel
theorem dX5_doAll_11 : decode cX5_doAll 11 = .ok (.iconst 0, 1) := by decide +kernel
theorem dX5_doAll_12 : decode cX5_doAll 12 = .ok (.putfield 16, 3) := by decide +kernel
theorem dX5_doAll_15 : decode cX5_doAll 15 = .ok (.iconst 0, 1) := by decide +kernel
theorem dX5_doAll_16 : decode cX5_doAll 16 = .ok (.istore_n 3, 1) := by decide +kernel
theorem dX5_doAll_17 : decode cX5_doAll 17 = .ok (.iload_n 3, 1) := by decide +kernel
theorem dX5_doAll_18 : decode cX5_doAll 18 = .ok (.bipush 60, 2) := by decide +kernel
theorem dX5_doAll_20 : decode cX5_doAll 20 = .ok (.if_icmp .ge 86, 3) := by decide +kernel
theorem dX5_doAll_23 : decode cX5_doAll 23 = .ok (.aload_n 0, 1) := by decide +kernel
theorem dX5_doAll_24 : decode cX5_doAll 24 = .ok (.getfield 16, 3) := by decide +kernel
theorem dX5_doAll_27 : decode cX5_doAll 27 = .ok (.aload_n 1, 1) := by decide +kernel
theorem dX5_doAll_28 : decode cX5_doAll 28 = .ok (.getfield 21, 3) := by decide +kernel
theorem dX5_doAll_31 : decode cX5_doAll 31 = .ok (.if_icmp .ge 75, 3) := by decide +kernel
theorem dX5_doAll_34 : decode cX5_doAll 34 = .ok (.aload_n 0, 1) := by decide +kernel
theorem dX5_doAll_35 : decode cX5_doAll 35 = .ok (.getfield 16, 3) := by decide +kernel
theorem dX5_doAll_38 : decode cX5_doAll 38 = .ok (.istore 4, 2) := by decide +kernel
theorem dX5_doAll_40 : decode cX5_doAll 40 = .ok (.aload_n 0, 1) := by decide +kernel
theorem dX5_doAll_41 : decode cX5_doAll 41 = .ok (.aload_n 1, 1) := by decide +kernel
theorem dX5_doAll_42 : decode cX5_doAll 42 = .ok (.invokevirtual 24, 3) := by decide +kernel
theorem dX5_doAll_45 : decode cX5_doAll 45 = .ok (.ifCond .ne 12, 3) := by decide +kernel
theorem dX5_doAll_48 : decode cX5_doAll 48 = .ok (.aload_n 0, 1) := by decide +kernel
theorem dX5_doAll_49 : decode cX5_doAll 49 = .ok (.iload 4, 2) := by decide +kernel
theorem dX5_doAll_51 : decode cX5_doAll 51 = .ok (.iconst 1, 1) := by decide +kernel
theorem dX5_doAll_52 : decode cX5_doAll 52 = .ok (.iconst 0, 1) := by decide +kernel
theorem dX5_doAll_53 : decode cX5_doAll 53 = .ok (.invokevirtual 28, 3) := by decide +kernel
theorem dX5_doAll_56 : decode cX5_doAll 56 = .ok (.return_, 1) := by decide +kernel
theorem dX5_doAll_57 : decode cX5_doAll 57 = .ok (.aload_n 2, 1) := by decide +kernel
theorem dX5_doAll_58 : decode cX5_doAll 58 = .ok (.aload_n 0, 1) := by decide +kernel
theorem dX5_doAll_59 : decode cX5_doAll 59 = .ok (.getfield 32, 3) := by decide +kernel
theorem dX5_doAll_62 : decode cX5_doAll 62 = .ok (.aload_n 0, 1) := by decide +kernel
theorem dX5_doAll_63 : decode cX5_doAll 63 = .ok (.getfield 36, 3) := by decide +kernel
theorem dX5_doAll_66 : decode cX5_doAll 66 = .ok (.aload_n 0, 1) := by decide +kernel
theorem dX5_doAll_67 : decode cX5_doAll 67 = .ok (.getfield 39, 3) := by decide +kernel
theorem dX5_doAll_70 : decode cX5_doAll 70 = .ok (.invokevirtual 42, 3) := by decide +kernel
theorem dX5_doAll_73 : decode cX5_doAll 73 = .ok (.istore 5, 2) := by decide +kernel
theorem dX5_doAll_75 : decode cX5_doAll 75 = .ok (.iload 5, 2) := by decide +kernel
theorem dX5_doAll_77 : decode cX5_doAll 77 = .ok (.ifCond .ge 13, 3) := by decide +kernel
theorem dX5_doAll_80 : decode cX5_doAll 80 = .ok (.aload_n 0, 1) := by decide +kernel
theorem dX5_doAll_81 : decode cX5_doAll 81 = .ok (.iload 4, 2) := by decide +kernel
theorem dX5_doAll_83 : decode cX5_doAll 83 = .ok (.iconst 2, 1) := by decide +kernel
theorem dX5_doAll_84 : decode cX5_doAll 84 = .ok (.iload 5, 2) := by decide +kernel
theorem dX5_doAll_86 : decode cX5_doAll 86 = .ok (.invokevirtual 28, 3) := by decide +kernel
theorem dX5_doAll_89 : decode cX5_doAll 89 = .ok (.return_, 1) := by decide +kernel
theorem dX5_doAll_90 : decode cX5_doAll 90 = .ok (.aload_n 0, 1) := by decide +kernel
theorem dX5_doAll_91 : decode cX5_doAll 91 = .ok (.dup, 1) := by decide +kernel
theorem dX5_doAll_92 : decode cX5_doAll 92 = .ok (.getfield 13, 3) := by decide +kernel
theorem dX5_doAll_95 : decode cX5_doAll 95 = .ok (.iconst 1, 1) := by decide +kernel
theorem dX5_doAll_96 : decode cX5_doAll 96 = .ok (.iadd, 1) := by decide +kernel
theorem dX5_doAll_97 : decode cX5_doAll 97 = .ok (.putfield 13, 3) := by decide +kernel
theorem dX5_doAll_100 : decode cX5_doAll 100 = .ok (.iinc 3 1, 3) := by decide +kernel
theorem dX5_doAll_103 : decode cX5_doAll 103 = .ok (.goto (-86), 3) := by decide +kernel
theorem dX5_doAll_106 : decode cX5_doAll 106 = .ok (.return_, 1) := by decide +kernel
theorem dX5_noteFault_0 : decode cX5_noteFault 0 = .ok (.aload_n 0, 1) := by decide +kernel
theorem dX5_noteFault_1 : decode cX5_noteFault 1 = .ok (.iload_n 1, 1) := by decide +kernel
theorem dX5_noteFault_2 : decode cX5_noteFault 2 = .ok (.putfield 48, 3) := by decide +kernel
theorem dX5_noteFault_5 : decode cX5_noteFault 5 = .ok (.aload_n 0, 1) := by decide +kernel
theorem dX5_noteFault_6 : decode cX5_noteFault 6 = .ok (.iload_n 2, 1) := by decide +kernel
theorem dX5_noteFault_7 : decode cX5_noteFault 7 = .ok (.putfield 7, 3) := by decide +kernel
theorem dX5_noteFault_10 : decode cX5_noteFault 10 = .ok (.aload_n 0, 1) := by decide +kernel
theorem dX5_noteFault_11 : decode cX5_noteFault 11 = .ok (.iload_n 3, 1) := by decide +kernel
theorem dX5_noteFault_12 : decode cX5_noteFault 12 = .ok (.putfield 51, 3) := by decide +kernel
theorem dX5_noteFault_15 : decode cX5_noteFault 15 = .ok (.return_, 1) := by decide +kernel
theorem dX5_readWork_0 : decode cX5_readWork 0 = .ok (.aload_n 0, 1) := by decide +kernel
theorem dX5_readWork_1 : decode cX5_readWork 1 = .ok (.aload_n 1, 1) := by decide +kernel
theorem dX5_readWork_2 : decode cX5_readWork 2 = .ok (.aload_n 0, 1) := by decide +kernel
theorem dX5_readWork_3 : decode cX5_readWork 3 = .ok (.getfield 16, 3) := by decide +kernel
theorem dX5_readWork_6 : decode cX5_readWork 6 = .ok (.invokevirtual 54, 3) := by decide +kernel
theorem dX5_readWork_9 : decode cX5_readWork 9 = .ok (.putfield 32, 3) := by decide +kernel
theorem dX5_readWork_12 : decode cX5_readWork 12 = .ok (.aload_n 0, 1) := by decide +kernel
theorem dX5_readWork_13 : decode cX5_readWork 13 = .ok (.getfield 32, 3) := by decide +kernel
theorem dX5_readWork_16 : decode cX5_readWork 16 = .ok (.bipush 100, 2) := by decide +kernel
theorem dX5_readWork_18 : decode cX5_readWork 18 = .ok (.if_icmp .eq 21, 3) := by decide +kernel
theorem dX5_readWork_21 : decode cX5_readWork 21 = .ok (.aload_n 0, 1) := by decide +kernel
theorem dX5_readWork_22 : decode cX5_readWork 22 = .ok (.getfield 32, 3) := by decide +kernel
theorem dX5_readWork_25 : decode cX5_readWork 25 = .ok (.bipush 104, 2) := by decide +kernel
theorem dX5_readWork_27 : decode cX5_readWork 27 = .ok (.if_icmp .eq 12, 3) := by decide +kernel
theorem dX5_readWork_30 : decode cX5_readWork 30 = .ok (.aload_n 0, 1) := by decide +kernel
theorem dX5_readWork_31 : decode cX5_readWork 31 = .ok (.getfield 32, 3) := by decide +kernel
theorem dX5_readWork_34 : decode cX5_readWork 34 = .ok (.bipush 115, 2) := by decide +kernel
theorem dX5_readWork_36 : decode cX5_readWork 36 = .ok (.if_icmp .ne 7, 3) := by decide +kernel
theorem dX5_readWork_39 : decode cX5_readWork 39 = .ok (.iconst 1, 1) := by decide +kernel
theorem dX5_readWork_40 : decode cX5_readWork 40 = .ok (.goto 4, 3) := by decide +kernel
theorem dX5_readWork_43 : decode cX5_readWork 43 = .ok (.iconst 0, 1) := by decide +kernel
theorem dX5_readWork_44 : decode cX5_readWork 44 = .ok (.istore_n 2, 1) := by decide +kernel
theorem dX5_readWork_45 : decode cX5_readWork 45 = .ok (.iload_n 2, 1) := by decide +kernel
theorem dX5_readWork_46 : decode cX5_readWork 46 = .ok (.ifCond .ne 32, 3) := by decide +kernel
theorem dX5_readWork_49 : decode cX5_readWork 49 = .ok (.aload_n 0, 1) := by decide +kernel
theorem dX5_readWork_50 : decode cX5_readWork 50 = .ok (.getfield 32, 3) := by decide +kernel
theorem dX5_readWork_53 : decode cX5_readWork 53 = .ok (.bipush 114, 2) := by decide +kernel
theorem dX5_readWork_55 : decode cX5_readWork 55 = .ok (.if_icmp .eq 23, 3) := by decide +kernel
theorem dX5_readWork_58 : decode cX5_readWork 58 = .ok (.aload_n 0, 1) := by decide +kernel
theorem dX5_readWork_59 : decode cX5_readWork 59 = .ok (.getfield 32, 3) := by decide +kernel
theorem dX5_readWork_62 : decode cX5_readWork 62 = .ok (.bipush 116, 2) := by decide +kernel
theorem dX5_readWork_64 : decode cX5_readWork 64 = .ok (.if_icmp .eq 14, 3) := by decide +kernel
theorem dX5_readWork_67 : decode cX5_readWork 67 = .ok (.aload_n 0, 1) := by decide +kernel
theorem dX5_readWork_68 : decode cX5_readWork 68 = .ok (.getfield 32, 3) := by decide +kernel
theorem dX5_readWork_71 : decode cX5_readWork 71 = .ok (.bipush 101, 2) := by decide +kernel
theorem dX5_readWork_73 : decode cX5_readWork 73 = .ok (.if_icmp .eq 5, 3) := by decide +kernel
theorem dX5_readWork_76 : decode cX5_readWork 76 = .ok (.iconst 0, 1) := by decide +kernel
theorem dX5_readWork_77 : decode cX5_readWork 77 = .ok (.ireturn, 1) := by decide +kernel
theorem dX5_readWork_78 : decode cX5_readWork 78 = .ok (.aload_n 0, 1) := by decide +kernel
theorem dX5_readWork_79 : decode cX5_readWork 79 = .ok (.dup, 1) := by decide +kernel
theorem dX5_readWork_80 : decode cX5_readWork 80 = .ok (.getfield 16, 3) := by decide +kernel
theorem dX5_readWork_83 : decode cX5_readWork 83 = .ok (.iconst 1, 1) := by decide +kernel
theorem dX5_readWork_84 : decode cX5_readWork 84 = .ok (.iadd, 1) := by decide +kernel
theorem dX5_readWork_85 : decode cX5_readWork 85 = .ok (.putfield 16, 3) := by decide +kernel
theorem dX5_readWork_88 : decode cX5_readWork 88 = .ok (.aload_n 0, 1) := by decide +kernel
theorem dX5_readWork_89 : decode cX5_readWork 89 = .ok (.aload_n 0, 1) := by decide +kernel
theorem dX5_readWork_90 : decode cX5_readWork 90 = .ok (.aload_n 1, 1) := by decide +kernel
theorem dX5_readWork_91 : decode cX5_readWork 91 = .ok (.invokevirtual 58, 3) := by decide +kernel
theorem dX5_readWork_94 : decode cX5_readWork 94 = .ok (.putfield 36, 3) := by decide +kernel
theorem dX5_readWork_97 : decode cX5_readWork 97 = .ok (.aload_n 0, 1) := by decide +kernel
theorem dX5_readWork_98 : decode cX5_readWork 98 = .ok (.iconst 0, 1) := by decide +kernel
theorem dX5_readWork_99 : decode cX5_readWork 99 = .ok (.putfield 39, 3) := by decide +kernel
theorem dX5_readWork_102 : decode cX5_readWork 102 = .ok (.aload_n 0, 1) := by decide +kernel
theorem dX5_readWork_103 : decode cX5_readWork 103 = .ok (.getfield 36, 3) := by decide +kernel
theorem dX5_readWork_106 : decode cX5_readWork 106 = .ok (.ifCond .ge 5, 3) := by decide +kernel
theorem dX5_readWork_109 : decode cX5_readWork 109 = .ok (.iconst 0, 1) := by decide +kernel
theorem dX5_readWork_110 : decode cX5_readWork 110 = .ok (.ireturn, 1) := by decide +kernel
theorem dX5_readWork_111 : decode cX5_readWork 111 = .ok (.iload_n 2, 1) := by decide +kernel
theorem dX5_readWork_112 : decode cX5_readWork 112 = .ok (.ifCond .eq 24, 3) := by decide +kernel
theorem dX5_readWork_115 : decode cX5_readWork 115 = .ok (.aload_n 0, 1) := by decide +kernel
theorem dX5_readWork_116 : decode cX5_readWork 116 = .ok (.aload_n 1, 1) := by decide +kernel
theorem dX5_readWork_117 : decode cX5_readWork 117 = .ok (.bipush 44, 2) := by decide +kernel
theorem dX5_readWork_119 : decode cX5_readWork 119 = .ok (.invokevirtual 62, 3) := by decide +kernel
theorem dX5_readWork_122 : decode cX5_readWork 122 = .ok (.ifCond .ne 5, 3) := by decide +kernel
theorem dX5_readWork_125 : decode cX5_readWork 125 = .ok (.iconst 0, 1) := by decide +kernel
theorem dX5_readWork_126 : decode cX5_readWork 126 = .ok (.ireturn, 1) := by decide +kernel
theorem dX5_readWork_127 : decode cX5_readWork 127 = .ok (.aload_n 0, 1) := by decide +kernel
theorem dX5_readWork_128 : decode cX5_readWork 128 = .ok (.aload_n 0, 1) := by decide +kernel
theorem dX5_readWork_129 : decode cX5_readWork 129 = .ok (.aload_n 1, 1) := by decide +kernel
theorem dX5_readWork_130 : decode cX5_readWork 130 = .ok (.invokevirtual 58, 3) := by decide +kernel
theorem dX5_readWork_133 : decode cX5_readWork 133 = .ok (.putfield 39, 3) := by decide +kernel
theorem dX5_readWork_136 : decode cX5_readWork 136 = .ok (.aload_n 0, 1) := by decide +kernel
theorem dX5_readWork_137 : decode cX5_readWork 137 = .ok (.getfield 39, 3) := by decide +kernel
theorem dX5_readWork_140 : decode cX5_readWork 140 = .ok (.ifCond .lt 17, 3) := by decide +kernel
theorem dX5_readWork_143 : decode cX5_readWork 143 = .ok (.aload_n 0, 1) := by decide +kernel
theorem dX5_readWork_144 : decode cX5_readWork 144 = .ok (.aload_n 1, 1) := by decide +kernel
theorem dX5_readWork_145 : decode cX5_readWork 145 = .ok (.bipush 59, 2) := by decide +kernel
theorem dX5_readWork_147 : decode cX5_readWork 147 = .ok (.invokevirtual 62, 3) := by decide +kernel
theorem dX5_readWork_150 : decode cX5_readWork 150 = .ok (.ifCond .eq 7, 3) := by decide +kernel
theorem dX5_readWork_153 : decode cX5_readWork 153 = .ok (.iconst 1, 1) := by decide +kernel
theorem dX5_readWork_154 : decode cX5_readWork 154 = .ok (.goto 4, 3) := by decide +kernel
theorem dX5_readWork_157 : decode cX5_readWork 157 = .ok (.iconst 0, 1) := by decide +kernel
theorem dX5_readWork_158 : decode cX5_readWork 158 = .ok (.ireturn, 1) := by decide +kernel
theorem dX5_readNumber_0 : decode cX5_readNumber 0 = .ok (.aload_n 1, 1) := by decide +kernel
theorem dX5_readNumber_1 : decode cX5_readNumber 1 = .ok (.aload_n 0, 1) := by decide +kernel
theorem dX5_readNumber_2 : decode cX5_readNumber 2 = .ok (.getfield 16, 3) := by decide +kernel
theorem dX5_readNumber_5 : decode cX5_readNumber 5 = .ok (.invokevirtual 54, 3) := by decide +kernel
theorem dX5_readNumber_8 : decode cX5_readNumber 8 = .ok (.invokestatic 66, 3) := by decide +kernel
theorem dX5_readNumber_11 : decode cX5_readNumber 11 = .ok (.istore_n 2, 1) := by decide +kernel
theorem dX5_readNumber_12 : decode cX5_readNumber 12 = .ok (.iload_n 2, 1) := by decide +kernel
theorem dX5_readNumber_13 : decode cX5_readNumber 13 = .ok (.ifCond .ge 5, 3) := by decide +kernel
theorem dX5_readNumber_16 : decode cX5_readNumber 16 = .ok (.iconst (-1), 1) := by decide +kernel
theorem dX5_readNumber_17 : decode cX5_readNumber 17 = .ok (.ireturn, 1) := by decide +kernel
theorem dX5_readNumber_18 : decode cX5_readNumber 18 = .ok (.aload_n 0, 1) := by decide +kernel
theorem dX5_readNumber_19 : decode cX5_readNumber 19 = .ok (.dup, 1) := by decide +kernel
theorem dX5_readNumber_20 : decode cX5_readNumber 20 = .ok (.getfield 16, 3) := by decide +kernel
theorem dX5_readNumber_23 : decode cX5_readNumber 23 = .ok (.iconst 1, 1) := by decide +kernel
theorem dX5_readNumber_24 : decode cX5_readNumber 24 = .ok (.iadd, 1) := by decide +kernel
theorem dX5_readNumber_25 : decode cX5_readNumber 25 = .ok (.putfield 16, 3) := by decide +kernel
theorem dX5_readNumber_28 : decode cX5_readNumber 28 = .ok (.aload_n 1, 1) := by decide +kernel
theorem dX5_readNumber_29 : decode cX5_readNumber 29 = .ok (.aload_n 0, 1) := by decide +kernel
theorem dX5_readNumber_30 : decode cX5_readNumber 30 = .ok (.getfield 16, 3) := by decide +kernel
theorem dX5_readNumber_33 : decode cX5_readNumber 33 = .ok (.invokevirtual 54, 3) := by decide +kernel
theorem dX5_readNumber_36 : decode cX5_readNumber 36 = .ok (.invokestatic 66, 3) := by decide +kernel
theorem dX5_readNumber_39 : decode cX5_readNumber 39 = .ok (.istore_n 3, 1) := by decide +kernel
theorem dX5_readNumber_40 : decode cX5_readNumber 40 = .ok (.iload_n 3, 1) := by decide +kernel
theorem dX5_readNumber_41 : decode cX5_readNumber 41 = .ok (.ifCond .ge 5, 3) := by decide +kernel
theorem dX5_readNumber_44 : decode cX5_readNumber 44 = .ok (.iload_n 2, 1) := by decide +kernel
theorem dX5_readNumber_45 : decode cX5_readNumber 45 = .ok (.ireturn, 1) := by decide +kernel
theorem dX5_readNumber_46 : decode cX5_readNumber 46 = .ok (.aload_n 0, 1) := by decide +kernel
theorem dX5_readNumber_47 : decode cX5_readNumber 47 = .ok (.dup, 1) := by decide +kernel
theorem dX5_readNumber_48 : decode cX5_readNumber 48 = .ok (.getfield 16, 3) := by decide +kernel
theorem dX5_readNumber_51 : decode cX5_readNumber 51 = .ok (.iconst 1, 1) := by decide +kernel
theorem dX5_readNumber_52 : decode cX5_readNumber 52 = .ok (.iadd, 1) := by decide +kernel
theorem dX5_readNumber_53 : decode cX5_readNumber 53 = .ok (.putfield 16, 3) := by decide +kernel
theorem dX5_readNumber_56 : decode cX5_readNumber 56 = .ok (.iload_n 2, 1) := by decide +kernel
theorem dX5_readNumber_57 : decode cX5_readNumber 57 = .ok (.bipush 10, 2) := by decide +kernel
theorem dX5_readNumber_59 : decode cX5_readNumber 59 = .ok (.imul, 1) := by decide +kernel
theorem dX5_readNumber_60 : decode cX5_readNumber 60 = .ok (.iload_n 3, 1) := by decide +kernel
theorem dX5_readNumber_61 : decode cX5_readNumber 61 = .ok (.iadd, 1) := by decide +kernel
theorem dX5_readNumber_62 : decode cX5_readNumber 62 = .ok (.ireturn, 1) := by decide +kernel
theorem dX5_digitOf_0 : decode cX5_digitOf 0 = .ok (.iload_n 0, 1) := by decide +kernel
theorem dX5_digitOf_1 : decode cX5_digitOf 1 = .ok (.bipush 48, 2) := by decide +kernel
theorem dX5_digitOf_3 : decode cX5_digitOf 3 = .ok (.if_icmp .lt 16, 3) := by decide +kernel
theorem dX5_digitOf_6 : decode cX5_digitOf 6 = .ok (.iload_n 0, 1) := by decide +kernel
theorem dX5_digitOf_7 : decode cX5_digitOf 7 = .ok (.bipush 57, 2) := by decide +kernel
theorem dX5_digitOf_9 : decode cX5_digitOf 9 = .ok (.if_icmp .gt 10, 3) := by decide +kernel
theorem dX5_digitOf_12 : decode cX5_digitOf 12 = .ok (.iload_n 0, 1) := by decide +kernel
theorem dX5_digitOf_13 : decode cX5_digitOf 13 = .ok (.bipush 48, 2) := by decide +kernel
theorem dX5_digitOf_15 : decode cX5_digitOf 15 = .ok (.isub, 1) := by decide +kernel
theorem dX5_digitOf_16 : decode cX5_digitOf 16 = .ok (.goto 4, 3) := by decide +kernel
theorem dX5_digitOf_19 : decode cX5_digitOf 19 = .ok (.iconst (-1), 1) := by decide +kernel
theorem dX5_digitOf_20 : decode cX5_digitOf 20 = .ok (.ireturn, 1) := by decide +kernel
theorem dX5_passes_0 : decode cX5_passes 0 = .ok (.aload_n 1, 1) := by decide +kernel
theorem dX5_passes_1 : decode cX5_passes 1 = .ok (.aload_n 0, 1) := by decide +kernel
theorem dX5_passes_2 : decode cX5_passes 2 = .ok (.getfield 16, 3) := by decide +kernel
theorem dX5_passes_5 : decode cX5_passes 5 = .ok (.invokevirtual 54, 3) := by decide +kernel
theorem dX5_passes_8 : decode cX5_passes 8 = .ok (.iload_n 2, 1) := by decide +kernel
theorem dX5_passes_9 : decode cX5_passes 9 = .ok (.if_icmp .eq 5, 3) := by decide +kernel
theorem dX5_passes_12 : decode cX5_passes 12 = .ok (.iconst 0, 1) := by decide +kernel
theorem dX5_passes_13 : decode cX5_passes 13 = .ok (.ireturn, 1) := by decide +kernel
theorem dX5_passes_14 : decode cX5_passes 14 = .ok (.aload_n 0, 1) := by decide +kernel
theorem dX5_passes_15 : decode cX5_passes 15 = .ok (.dup, 1) := by decide +kernel
theorem dX5_passes_16 : decode cX5_passes 16 = .ok (.getfield 16, 3) := by decide +kernel
theorem dX5_passes_19 : decode cX5_passes 19 = .ok (.iconst 1, 1) := by decide +kernel
theorem dX5_passes_20 : decode cX5_passes 20 = .ok (.iadd, 1) := by decide +kernel
theorem dX5_passes_21 : decode cX5_passes 21 = .ok (.putfield 16, 3) := by decide +kernel
theorem dX5_passes_24 : decode cX5_passes 24 = .ok (.iconst 1, 1) := by decide +kernel
theorem dX5_passes_25 : decode cX5_passes 25 = .ok (.ireturn, 1) := by decide +kernel
theorem dX6_init_0 : decode cX6_init 0 = .ok (.aload_n 0, 1) := by decide +kernel
theorem dX6_init_1 : decode cX6_init 1 = .ok (.invokespecial 3, 3) := by decide +kernel
theorem dX6_init_4 : decode cX6_init 4 = .ok (.aload_n 0, 1) := by decide +kernel
theorem dX6_init_5 : decode cX6_init 5 = .ok (.bipush 7, 2) := by decide +kernel
theorem dX6_init_7 : decode cX6_init 7 = .ok (.newarray .int, 2) := by decide +kernel
theorem dX6_init_9 : decode cX6_init 9 = .ok (.putfield 9, 3) := by decide +kernel
theorem dX6_init_12 : decode cX6_init 12 = .ok (.iconst 0, 1) := by decide +kernel
theorem dX6_init_13 : decode cX6_init 13 = .ok (.istore_n 1, 1) := by decide +kernel
theorem dX6_init_14 : decode cX6_init 14 = .ok (.iload_n 1, 1) := by decide +kernel
theorem dX6_init_15 : decode cX6_init 15 = .ok (.aload_n 0, 1) := by decide +kernel
theorem dX6_init_16 : decode cX6_init 16 = .ok (.getfield 9, 3) := by decide +kernel
theorem dX6_init_19 : decode cX6_init 19 = .ok (.arraylength, 1) := by decide +kernel
theorem dX6_init_20 : decode cX6_init 20 = .ok (.if_icmp .ge 28, 3) := by decide +kernel
theorem dX6_init_23 : decode cX6_init 23 = .ok (.iload_n 1, 1) := by decide +kernel
theorem dX6_init_24 : decode cX6_init 24 = .ok (.getstatic 15, 3) := by decide +kernel
theorem dX6_init_27 : decode cX6_init 27 = .ok (.arraylength, 1) := by decide +kernel
theorem dX6_init_28 : decode cX6_init 28 = .ok (.if_icmp .ge 20, 3) := by decide +kernel
theorem dX6_init_31 : decode cX6_init 31 = .ok (.aload_n 0, 1) := by decide +kernel
theorem dX6_init_32 : decode cX6_init 32 = .ok (.getfield 9, 3) := by decide +kernel
theorem dX6_init_35 : decode cX6_init 35 = .ok (.iload_n 1, 1) := by decide +kernel
theorem dX6_init_36 : decode cX6_init 36 = .ok (.getstatic 15, 3) := by decide +kernel
theorem dX6_init_39 : decode cX6_init 39 = .ok (.iload_n 1, 1) := by decide +kernel
theorem dX6_init_40 : decode cX6_init 40 = .ok (.iaload, 1) := by decide +kernel
theorem dX6_init_41 : decode cX6_init 41 = .ok (.iastore, 1) := by decide +kernel
theorem dX6_init_42 : decode cX6_init 42 = .ok (.iinc 1 1, 3) := by decide +kernel
theorem dX6_init_45 : decode cX6_init 45 = .ok (.goto (-31), 3) := by decide +kernel
theorem dX6_init_48 : decode cX6_init 48 = .ok (.return_, 1) := by decide +kernel
theorem dX6_exists_0 : decode cX6_exists 0 = .ok (.iload_n 0, 1) := by decide +kernel
theorem dX6_exists_1 : decode cX6_exists 1 = .ok (.ifCond .lt 15, 3) := by decide +kernel
theorem dX6_exists_4 : decode cX6_exists 4 = .ok (.iload_n 0, 1) := by decide +kernel
theorem dX6_exists_5 : decode cX6_exists 5 = .ok (.getstatic 15, 3) := by decide +kernel
theorem dX6_exists_8 : decode cX6_exists 8 = .ok (.arraylength, 1) := by decide +kernel
theorem dX6_exists_9 : decode cX6_exists 9 = .ok (.if_icmp .ge 7, 3) := by decide +kernel
theorem dX6_exists_12 : decode cX6_exists 12 = .ok (.iconst 1, 1) := by decide +kernel
theorem dX6_exists_13 : decode cX6_exists 13 = .ok (.goto 4, 3) := by decide +kernel
theorem dX6_exists_16 : decode cX6_exists 16 = .ok (.iconst 0, 1) := by decide +kernel
theorem dX6_exists_17 : decode cX6_exists 17 = .ok (.ireturn, 1) := by decide +kernel
theorem dX6_valueOf_0 : decode cX6_valueOf 0 = .ok (.iload_n 1, 1) := by decide +kernel
theorem dX6_valueOf_1 : decode cX6_valueOf 1 = .ok (.ifCond .lt 21, 3) := by decide +kernel
theorem dX6_valueOf_4 : decode cX6_valueOf 4 = .ok (.iload_n 1, 1) := by decide +kernel
theorem dX6_valueOf_5 : decode cX6_valueOf 5 = .ok (.aload_n 0, 1) := by decide +kernel
theorem dX6_valueOf_6 : decode cX6_valueOf 6 = .ok (.getfield 9, 3) := by decide +kernel
theorem dX6_valueOf_9 : decode cX6_valueOf 9 = .ok (.arraylength, 1) := by decide +kernel
theorem dX6_valueOf_10 : decode cX6_valueOf 10 = .ok (.if_icmp .ge 12, 3) := by decide +kernel
theorem dX6_valueOf_13 : decode cX6_valueOf 13 = .ok (.aload_n 0, 1) := by decide +kernel
theorem dX6_valueOf_14 : decode cX6_valueOf 14 = .ok (.getfield 9, 3) := by decide +kernel
theorem dX6_valueOf_17 : decode cX6_valueOf 17 = .ok (.iload_n 1, 1) := by decide +kernel
theorem dX6_valueOf_18 : decode cX6_valueOf 18 = .ok (.iaload, 1) := by decide +kernel
theorem dX6_valueOf_19 : decode cX6_valueOf 19 = .ok (.goto 4, 3) := by decide +kernel
theorem dX6_valueOf_22 : decode cX6_valueOf 22 = .ok (.iconst 0, 1) := by decide +kernel
theorem dX6_valueOf_23 : decode cX6_valueOf 23 = .ok (.ireturn, 1) := by decide +kernel
theorem dX6_copyFrom_0 : decode cX6_copyFrom 0 = .ok (.aload_n 1, 1) := by decide +kernel
theorem dX6_copyFrom_1 : decode cX6_copyFrom 1 = .ok (.getfield 9, 3) := by decide +kernel
theorem dX6_copyFrom_4 : decode cX6_copyFrom 4 = .ok (.aload_n 0, 1) := by decide +kernel
theorem dX6_copyFrom_5 : decode cX6_copyFrom 5 = .ok (.getfield 9, 3) := by decide +kernel
theorem dX6_copyFrom_8 : decode cX6_copyFrom 8 = .ok (.invokestatic 18, 3) := by decide +kernel
theorem dX6_copyFrom_11 : decode cX6_copyFrom 11 = .ok (.return_, 1) := by decide +kernel
theorem dX6_change_0 : decode cX6_change 0 = .ok (.iload_n 1, 1) := by decide +kernel
theorem dX6_change_1 : decode cX6_change 1 = .ok (.ifCond .lt 12, 3) := by decide +kernel
theorem dX6_change_4 : decode cX6_change 4 = .ok (.iload_n 1, 1) := by decide +kernel
theorem dX6_change_5 : decode cX6_change 5 = .ok (.aload_n 0, 1) := by decide +kernel
theorem dX6_change_6 : decode cX6_change 6 = .ok (.getfield 9, 3) := by decide +kernel
theorem dX6_change_9 : decode cX6_change 9 = .ok (.arraylength, 1) := by decide +kernel
theorem dX6_change_10 : decode cX6_change 10 = .ok (.if_icmp .lt 5, 3) := by decide +kernel
theorem dX6_change_13 : decode cX6_change 13 = .ok (.iconst (-1), 1) := by decide +kernel
theorem dX6_change_14 : decode cX6_change 14 = .ok (.ireturn, 1) := by decide +kernel
theorem dX6_change_15 : decode cX6_change 15 = .ok (.iload_n 2, 1) := by decide +kernel
theorem dX6_change_16 : decode cX6_change 16 = .ok (.getstatic 22, 3) := by decide +kernel
theorem dX6_change_19 : decode cX6_change 19 = .ok (.iload_n 1, 1) := by decide +kernel
theorem dX6_change_20 : decode cX6_change 20 = .ok (.invokestatic 25, 3) := by decide +kernel
theorem dX6_change_23 : decode cX6_change 23 = .ok (.if_icmp .lt 14, 3) := by decide +kernel
theorem dX6_change_26 : decode cX6_change 26 = .ok (.iload_n 2, 1) := by decide +kernel
theorem dX6_change_27 : decode cX6_change 27 = .ok (.getstatic 29, 3) := by decide +kernel
theorem dX6_change_30 : decode cX6_change 30 = .ok (.iload_n 1, 1) := by decide +kernel
theorem dX6_change_31 : decode cX6_change 31 = .ok (.invokestatic 25, 3) := by decide +kernel
theorem dX6_change_34 : decode cX6_change 34 = .ok (.if_icmp .le 5, 3) := by decide +kernel
theorem dX6_change_37 : decode cX6_change 37 = .ok (.iconst (-1), 1) := by decide +kernel
theorem dX6_change_38 : decode cX6_change 38 = .ok (.ireturn, 1) := by decide +kernel
theorem dX6_change_39 : decode cX6_change 39 = .ok (.aload_n 0, 1) := by decide +kernel
theorem dX6_change_40 : decode cX6_change 40 = .ok (.getfield 9, 3) := by decide +kernel
theorem dX6_change_43 : decode cX6_change 43 = .ok (.iload_n 1, 1) := by decide +kernel
theorem dX6_change_44 : decode cX6_change 44 = .ok (.iaload, 1) := by decide +kernel
theorem dX6_change_45 : decode cX6_change 45 = .ok (.istore_n 3, 1) := by decide +kernel
theorem dX6_change_46 : decode cX6_change 46 = .ok (.aload_n 0, 1) := by decide +kernel
theorem dX6_change_47 : decode cX6_change 47 = .ok (.getfield 9, 3) := by decide +kernel
theorem dX6_change_50 : decode cX6_change 50 = .ok (.iload_n 1, 1) := by decide +kernel
theorem dX6_change_51 : decode cX6_change 51 = .ok (.iload_n 2, 1) := by decide +kernel
theorem dX6_change_52 : decode cX6_change 52 = .ok (.iastore, 1) := by decide +kernel
theorem dX6_change_53 : decode cX6_change 53 = .ok (.iload_n 3, 1) := by decide +kernel
theorem dX6_change_54 : decode cX6_change 54 = .ok (.ireturn, 1) := by decide +kernel
theorem dX7_init_0 : decode cX7_init 0 = .ok (.aload_n 0, 1) := by decide +kernel
theorem dX7_init_1 : decode cX7_init 1 = .ok (.invokespecial 3, 3) := by decide +kernel
theorem dX7_init_4 : decode cX7_init 4 = .ok (.aload_n 0, 1) := by decide +kernel
theorem dX7_init_5 : decode cX7_init 5 = .ok (.bipush 60, 2) := by decide +kernel
theorem dX7_init_7 : decode cX7_init 7 = .ok (.newarray .char, 2) := by decide +kernel
theorem dX7_init_9 : decode cX7_init 9 = .ok (.putfield 11, 3) := by decide +kernel
theorem dX7_init_12 : decode cX7_init 12 = .ok (.return_, 1) := by decide +kernel
theorem dX7_append_0 : decode cX7_append 0 = .ok (.iload_n 1, 1) := by decide +kernel
theorem dX7_append_1 : decode cX7_append 1 = .ok (.bipush 32, 2) := by decide +kernel
theorem dX7_append_3 : decode cX7_append 3 = .ok (.if_icmp .lt 9, 3) := by decide +kernel
theorem dX7_append_6 : decode cX7_append 6 = .ok (.iload_n 1, 1) := by decide +kernel
theorem dX7_append_7 : decode cX7_append 7 = .ok (.bipush 126, 2) := by decide +kernel
theorem dX7_append_9 : decode cX7_append 9 = .ok (.if_icmp .le 5, 3) := by decide +kernel
theorem dX7_append_12 : decode cX7_append 12 = .ok (.iconst (-1), 1) := by decide +kernel
theorem dX7_append_13 : decode cX7_append 13 = .ok (.ireturn, 1) := by decide +kernel
theorem dX7_append_14 : decode cX7_append 14 = .ok (.aload_n 0, 1) := by decide +kernel
theorem dX7_append_15 : decode cX7_append 15 = .ok (.getfield 15, 3) := by decide +kernel
theorem dX7_append_18 : decode cX7_append 18 = .ok (.ifCond .lt 15, 3) := by decide +kernel
theorem dX7_append_21 : decode cX7_append 21 = .ok (.aload_n 0, 1) := by decide +kernel
theorem dX7_append_22 : decode cX7_append 22 = .ok (.getfield 15, 3) := by decide +kernel
theorem dX7_append_25 : decode cX7_append 25 = .ok (.aload_n 0, 1) := by decide +kernel
theorem dX7_append_26 : decode cX7_append 26 = .ok (.getfield 11, 3) := by decide +kernel
theorem dX7_append_29 : decode cX7_append 29 = .ok (.arraylength, 1) := by decide +kernel
theorem dX7_append_30 : decode cX7_append 30 = .ok (.if_icmp .lt 6, 3) := by decide +kernel
theorem dX7_append_33 : decode cX7_append 33 = .ok (.bipush (-3), 2) := by decide +kernel
theorem dX7_append_35 : decode cX7_append 35 = .ok (.ireturn, 1) := by decide +kernel
theorem dX7_append_36 : decode cX7_append 36 = .ok (.aload_n 0, 1) := by decide +kernel
theorem dX7_append_37 : decode cX7_append 37 = .ok (.getfield 11, 3) := by decide +kernel
theorem dX7_append_40 : decode cX7_append 40 = .ok (.aload_n 0, 1) := by decide +kernel
theorem dX7_append_41 : decode cX7_append 41 = .ok (.getfield 15, 3) := by decide +kernel
theorem dX7_append_44 : decode cX7_append 44 = .ok (.iload_n 1, 1) := by decide +kernel
theorem dX7_append_45 : decode cX7_append 45 = .ok (.i2c, 1) := by decide +kernel
theorem dX7_append_46 : decode cX7_append 46 = .ok (.castore, 1) := by decide +kernel
theorem dX7_append_47 : decode cX7_append 47 = .ok (.aload_n 0, 1) := by decide +kernel
theorem dX7_append_48 : decode cX7_append 48 = .ok (.dup, 1) := by decide +kernel
theorem dX7_append_49 : decode cX7_append 49 = .ok (.getfield 15, 3) := by decide +kernel
theorem dX7_append_52 : decode cX7_append 52 = .ok (.iconst 1, 1) := by decide +kernel
theorem dX7_append_53 : decode cX7_append 53 = .ok (.iadd, 1) := by decide +kernel
theorem dX7_append_54 : decode cX7_append 54 = .ok (.putfield 15, 3) := by decide +kernel
theorem dX7_append_57 : decode cX7_append 57 = .ok (.aload_n 0, 1) := by decide +kernel
theorem dX7_append_58 : decode cX7_append 58 = .ok (.getfield 15, 3) := by decide +kernel
theorem dX7_append_61 : decode cX7_append 61 = .ok (.ireturn, 1) := by decide +kernel
theorem dX7_makeEmpty_0 : decode cX7_makeEmpty 0 = .ok (.aload_n 0, 1) := by decide +kernel
theorem dX7_makeEmpty_1 : decode cX7_makeEmpty 1 = .ok (.getfield 15, 3) := by decide +kernel
theorem dX7_makeEmpty_4 : decode cX7_makeEmpty 4 = .ok (.istore_n 1, 1) := by decide +kernel
theorem dX7_makeEmpty_5 : decode cX7_makeEmpty 5 = .ok (.aload_n 0, 1) := by decide +kernel
theorem dX7_makeEmpty_6 : decode cX7_makeEmpty 6 = .ok (.iconst 0, 1) := by decide +kernel
theorem dX7_makeEmpty_7 : decode cX7_makeEmpty 7 = .ok (.putfield 15, 3) := by decide +kernel
theorem dX7_makeEmpty_10 : decode cX7_makeEmpty 10 = .ok (.iload_n 1, 1) := by decide +kernel
theorem dX7_makeEmpty_11 : decode cX7_makeEmpty 11 = .ok (.ireturn, 1) := by decide +kernel
theorem dX7_signAt_0 : decode cX7_signAt 0 = .ok (.iload_n 1, 1) := by decide +kernel
theorem dX7_signAt_1 : decode cX7_signAt 1 = .ok (.ifCond .lt 24, 3) := by decide +kernel
theorem dX7_signAt_4 : decode cX7_signAt 4 = .ok (.iload_n 1, 1) := by decide +kernel
theorem dX7_signAt_5 : decode cX7_signAt 5 = .ok (.aload_n 0, 1) := by decide +kernel
theorem dX7_signAt_6 : decode cX7_signAt 6 = .ok (.getfield 15, 3) := by decide +kernel
theorem dX7_signAt_9 : decode cX7_signAt 9 = .ok (.if_icmp .ge 16, 3) := by decide +kernel
theorem dX7_signAt_12 : decode cX7_signAt 12 = .ok (.iload_n 1, 1) := by decide +kernel
theorem dX7_signAt_13 : decode cX7_signAt 13 = .ok (.aload_n 0, 1) := by decide +kernel
theorem dX7_signAt_14 : decode cX7_signAt 14 = .ok (.getfield 11, 3) := by decide +kernel
theorem dX7_signAt_17 : decode cX7_signAt 17 = .ok (.arraylength, 1) := by decide +kernel
theorem dX7_signAt_18 : decode cX7_signAt 18 = .ok (.if_icmp .ge 7, 3) := by decide +kernel
theorem dX7_signAt_21 : decode cX7_signAt 21 = .ok (.iconst 1, 1) := by decide +kernel
theorem dX7_signAt_22 : decode cX7_signAt 22 = .ok (.goto 4, 3) := by decide +kernel
theorem dX7_signAt_25 : decode cX7_signAt 25 = .ok (.iconst 0, 1) := by decide +kernel
theorem dX7_signAt_26 : decode cX7_signAt 26 = .ok (.istore_n 2, 1) := by decide +kernel
theorem dX7_signAt_27 : decode cX7_signAt 27 = .ok (.iload_n 2, 1) := by decide +kernel
theorem dX7_signAt_28 : decode cX7_signAt 28 = .ok (.ifCond .eq 12, 3) := by decide +kernel
theorem dX7_signAt_31 : decode cX7_signAt 31 = .ok (.aload_n 0, 1) := by decide +kernel
theorem dX7_signAt_32 : decode cX7_signAt 32 = .ok (.getfield 11, 3) := by decide +kernel
theorem dX7_signAt_35 : decode cX7_signAt 35 = .ok (.iload_n 1, 1) := by decide +kernel
theorem dX7_signAt_36 : decode cX7_signAt 36 = .ok (.caload, 1) := by decide +kernel
theorem dX7_signAt_37 : decode cX7_signAt 37 = .ok (.goto 4, 3) := by decide +kernel
theorem dX7_signAt_40 : decode cX7_signAt 40 = .ok (.iconst 0, 1) := by decide +kernel
theorem dX7_signAt_41 : decode cX7_signAt 41 = .ok (.ireturn, 1) := by decide +kernel
theorem dX8_init_0 : decode cX8_init 0 = .ok (.aload_n 0, 1) := by decide +kernel
theorem dX8_init_1 : decode cX8_init 1 = .ok (.invokespecial 1, 3) := by decide +kernel
theorem dX8_init_4 : decode cX8_init 4 = .ok (.return_, 1) := by decide +kernel
theorem dX8_copyFrom_0 : decode cX8_copyFrom 0 = .ok (.aload_n 0, 1) := by decide +kernel
theorem dX8_copyFrom_1 : decode cX8_copyFrom 1 = .ok (.aload_n 1, 1) := by decide +kernel
theorem dX8_copyFrom_2 : decode cX8_copyFrom 2 = .ok (.getfield 7, 3) := by decide +kernel
theorem dX8_copyFrom_5 : decode cX8_copyFrom 5 = .ok (.putfield 7, 3) := by decide +kernel
theorem dX8_copyFrom_8 : decode cX8_copyFrom 8 = .ok (.aload_n 0, 1) := by decide +kernel
theorem dX8_copyFrom_9 : decode cX8_copyFrom 9 = .ok (.aload_n 1, 1) := by decide +kernel
theorem dX8_copyFrom_10 : decode cX8_copyFrom 10 = .ok (.getfield 13, 3) := by decide +kernel
theorem dX8_copyFrom_13 : decode cX8_copyFrom 13 = .ok (.putfield 13, 3) := by decide +kernel
theorem dX8_copyFrom_16 : decode cX8_copyFrom 16 = .ok (.aload_n 0, 1) := by decide +kernel
theorem dX8_copyFrom_17 : decode cX8_copyFrom 17 = .ok (.aload_n 1, 1) := by decide +kernel
theorem dX8_copyFrom_18 : decode cX8_copyFrom 18 = .ok (.getfield 16, 3) := by decide +kernel
theorem dX8_copyFrom_21 : decode cX8_copyFrom 21 = .ok (.putfield 16, 3) := by decide +kernel
theorem dX8_copyFrom_24 : decode cX8_copyFrom 24 = .ok (.aload_n 0, 1) := by decide +kernel
theorem dX8_copyFrom_25 : decode cX8_copyFrom 25 = .ok (.aload_n 1, 1) := by decide +kernel
theorem dX8_copyFrom_26 : decode cX8_copyFrom 26 = .ok (.getfield 19, 3) := by decide +kernel
theorem dX8_copyFrom_29 : decode cX8_copyFrom 29 = .ok (.putfield 19, 3) := by decide +kernel
theorem dX8_copyFrom_32 : decode cX8_copyFrom 32 = .ok (.return_, 1) := by decide +kernel
theorem dX8_strength_0 : decode cX8_strength 0 = .ok (.aload_n 0, 1) := by decide +kernel
theorem dX8_strength_1 : decode cX8_strength 1 = .ok (.getfield 13, 3) := by decide +kernel
theorem dX8_strength_4 : decode cX8_strength 4 = .ok (.ifCond .le 15, 3) := by decide +kernel
theorem dX8_strength_7 : decode cX8_strength 7 = .ok (.aload_n 0, 1) := by decide +kernel
theorem dX8_strength_8 : decode cX8_strength 8 = .ok (.getfield 16, 3) := by decide +kernel
theorem dX8_strength_11 : decode cX8_strength 11 = .ok (.aload_n 0, 1) := by decide +kernel
theorem dX8_strength_12 : decode cX8_strength 12 = .ok (.getfield 13, 3) := by decide +kernel
theorem dX8_strength_15 : decode cX8_strength 15 = .ok (.idiv, 1) := by decide +kernel
theorem dX8_strength_16 : decode cX8_strength 16 = .ok (.goto 4, 3) := by decide +kernel
theorem dX8_strength_19 : decode cX8_strength 19 = .ok (.iconst 0, 1) := by decide +kernel
theorem dX8_strength_20 : decode cX8_strength 20 = .ok (.ireturn, 1) := by decide +kernel
theorem dX8_spoils_0 : decode cX8_spoils 0 = .ok (.aload_n 0, 1) := by decide +kernel
theorem dX8_spoils_1 : decode cX8_spoils 1 = .ok (.getfield 19, 3) := by decide +kernel
theorem dX8_spoils_4 : decode cX8_spoils 4 = .ok (.aload_n 1, 1) := by decide +kernel
theorem dX8_spoils_5 : decode cX8_spoils 5 = .ok (.iconst 2, 1) := by decide +kernel
theorem dX8_spoils_6 : decode cX8_spoils 6 = .ok (.invokevirtual 24, 3) := by decide +kernel
theorem dX8_spoils_9 : decode cX8_spoils 9 = .ok (.if_icmp .le 7, 3) := by decide +kernel
theorem dX8_spoils_12 : decode cX8_spoils 12 = .ok (.iconst 1, 1) := by decide +kernel
theorem dX8_spoils_13 : decode cX8_spoils 13 = .ok (.goto 4, 3) := by decide +kernel
theorem dX8_spoils_16 : decode cX8_spoils 16 = .ok (.iconst 0, 1) := by decide +kernel
theorem dX8_spoils_17 : decode cX8_spoils 17 = .ok (.ireturn, 1) := by decide +kernel
theorem dX8_isAheadOfLater_0 : decode cX8_isAheadOfLater 0 = .ok (.aload_n 0, 1) := by decide +kernel
theorem dX8_isAheadOfLater_1 : decode cX8_isAheadOfLater 1 = .ok (.invokevirtual 28, 3) := by decide +kernel
theorem dX8_isAheadOfLater_4 : decode cX8_isAheadOfLater 4 = .ok (.aload_n 1, 1) := by decide +kernel
theorem dX8_isAheadOfLater_5 : decode cX8_isAheadOfLater 5 = .ok (.invokevirtual 28, 3) := by decide +kernel
theorem dX8_isAheadOfLater_8 : decode cX8_isAheadOfLater 8 = .ok (.if_icmp .eq 20, 3) := by decide +kernel
theorem dX8_isAheadOfLater_11 : decode cX8_isAheadOfLater 11 = .ok (.aload_n 0, 1) := by decide +kernel
theorem dX8_isAheadOfLater_12 : decode cX8_isAheadOfLater 12 = .ok (.invokevirtual 28, 3) := by decide +kernel
theorem dX8_isAheadOfLater_15 : decode cX8_isAheadOfLater 15 = .ok (.aload_n 1, 1) := by decide +kernel
theorem dX8_isAheadOfLater_16 : decode cX8_isAheadOfLater 16 = .ok (.invokevirtual 28, 3) := by decide +kernel
theorem dX8_isAheadOfLater_19 : decode cX8_isAheadOfLater 19 = .ok (.if_icmp .le 7, 3) := by decide +kernel
theorem dX8_isAheadOfLater_22 : decode cX8_isAheadOfLater 22 = .ok (.iconst 1, 1) := by decide +kernel
theorem dX8_isAheadOfLater_23 : decode cX8_isAheadOfLater 23 = .ok (.goto 4, 3) := by decide +kernel
theorem dX8_isAheadOfLater_26 : decode cX8_isAheadOfLater 26 = .ok (.iconst 0, 1) := by decide +kernel
theorem dX8_isAheadOfLater_27 : decode cX8_isAheadOfLater 27 = .ok (.ireturn, 1) := by decide +kernel
theorem dX8_isAheadOfLater_28 : decode cX8_isAheadOfLater 28 = .ok (.aload_n 0, 1) := by decide +kernel
theorem dX8_isAheadOfLater_29 : decode cX8_isAheadOfLater 29 = .ok (.getfield 19, 3) := by decide +kernel
theorem dX8_isAheadOfLater_32 : decode cX8_isAheadOfLater 32 = .ok (.aload_n 1, 1) := by decide +kernel
theorem dX8_isAheadOfLater_33 : decode cX8_isAheadOfLater 33 = .ok (.getfield 19, 3) := by decide +kernel
theorem dX8_isAheadOfLater_36 : decode cX8_isAheadOfLater 36 = .ok (.if_icmp .gt 7, 3) := by decide +kernel
theorem dX8_isAheadOfLater_39 : decode cX8_isAheadOfLater 39 = .ok (.iconst 1, 1) := by decide +kernel
theorem dX8_isAheadOfLater_40 : decode cX8_isAheadOfLater 40 = .ok (.goto 4, 3) := by decide +kernel
theorem dX8_isAheadOfLater_43 : decode cX8_isAheadOfLater 43 = .ok (.iconst 0, 1) := by decide +kernel
theorem dX8_isAheadOfLater_44 : decode cX8_isAheadOfLater 44 = .ok (.ireturn, 1) := by decide +kernel
theorem dX9_init_0 : decode cX9_init 0 = .ok (.aload_n 0, 1) := by decide +kernel
theorem dX9_init_1 : decode cX9_init 1 = .ok (.invokespecial 1, 3) := by decide +kernel
theorem dX9_init_4 : decode cX9_init 4 = .ok (.aload_n 0, 1) := by decide +kernel
theorem dX9_init_5 : decode cX9_init 5 = .ok (.new 7, 3) := by decide +kernel
theorem dX9_init_8 : decode cX9_init 8 = .ok (.dup, 1) := by decide +kernel
theorem dX9_init_9 : decode cX9_init 9 = .ok (.invokespecial 9, 3) := by decide +kernel
theorem dX9_init_12 : decode cX9_init 12 = .ok (.putfield 10, 3) := by decide +kernel
theorem dX9_init_15 : decode cX9_init 15 = .ok (.aload_n 0, 1) := by decide +kernel
theorem dX9_init_16 : decode cX9_init 16 = .ok (.new 7, 3) := by decide +kernel
theorem dX9_init_19 : decode cX9_init 19 = .ok (.dup, 1) := by decide +kernel
theorem dX9_init_20 : decode cX9_init 20 = .ok (.invokespecial 9, 3) := by decide +kernel
theorem dX9_init_23 : decode cX9_init 23 = .ok (.putfield 16, 3) := by decide +kernel
theorem dX9_init_26 : decode cX9_init 26 = .ok (.aload_n 0, 1) := by decide +kernel
theorem dX9_init_27 : decode cX9_init 27 = .ok (.new 19, 3) := by decide +kernel
theorem dX9_init_30 : decode cX9_init 30 = .ok (.dup, 1) := by decide +kernel
theorem dX9_init_31 : decode cX9_init 31 = .ok (.invokespecial 21, 3) := by decide +kernel
theorem dX9_init_34 : decode cX9_init 34 = .ok (.putfield 22, 3) := by decide +kernel
theorem dX9_init_37 : decode cX9_init 37 = .ok (.aload_n 0, 1) := by decide +kernel
theorem dX9_init_38 : decode cX9_init 38 = .ok (.new 26, 3) := by decide +kernel
theorem dX9_init_41 : decode cX9_init 41 = .ok (.dup, 1) := by decide +kernel
theorem dX9_init_42 : decode cX9_init 42 = .ok (.invokespecial 28, 3) := by decide +kernel
theorem dX9_init_45 : decode cX9_init 45 = .ok (.putfield 29, 3) := by decide +kernel
theorem dX9_init_48 : decode cX9_init 48 = .ok (.aload_n 0, 1) := by decide +kernel
theorem dX9_init_49 : decode cX9_init 49 = .ok (.new 33, 3) := by decide +kernel
theorem dX9_init_52 : decode cX9_init 52 = .ok (.dup, 1) := by decide +kernel
theorem dX9_init_53 : decode cX9_init 53 = .ok (.invokespecial 35, 3) := by decide +kernel
theorem dX9_init_56 : decode cX9_init 56 = .ok (.putfield 36, 3) := by decide +kernel
theorem dX9_init_59 : decode cX9_init 59 = .ok (.aload_n 0, 1) := by decide +kernel
theorem dX9_init_60 : decode cX9_init 60 = .ok (.new 40, 3) := by decide +kernel
theorem dX9_init_63 : decode cX9_init 63 = .ok (.dup, 1) := by decide +kernel
theorem dX9_init_64 : decode cX9_init 64 = .ok (.invokespecial 42, 3) := by decide +kernel
theorem dX9_init_67 : decode cX9_init 67 = .ok (.putfield 43, 3) := by decide +kernel
theorem dX9_init_70 : decode cX9_init 70 = .ok (.return_, 1) := by decide +kernel
theorem dX9_vat_0 : decode cX9_vat 0 = .ok (.aload_n 0, 1) := by decide +kernel
theorem dX9_vat_1 : decode cX9_vat 1 = .ok (.getfield 22, 3) := by decide +kernel
theorem dX9_vat_4 : decode cX9_vat 4 = .ok (.aload_n 0, 1) := by decide +kernel
theorem dX9_vat_5 : decode cX9_vat 5 = .ok (.getfield 10, 3) := by decide +kernel
theorem dX9_vat_8 : decode cX9_vat 8 = .ok (.invokevirtual 47, 3) := by decide +kernel
theorem dX9_vat_11 : decode cX9_vat 11 = .ok (.aload_n 0, 1) := by decide +kernel
theorem dX9_vat_12 : decode cX9_vat 12 = .ok (.getfield 22, 3) := by decide +kernel
theorem dX9_vat_15 : decode cX9_vat 15 = .ok (.aload_n 0, 1) := by decide +kernel
theorem dX9_vat_16 : decode cX9_vat 16 = .ok (.getfield 10, 3) := by decide +kernel
theorem dX9_vat_19 : decode cX9_vat 19 = .ok (.iload_n 1, 1) := by decide +kernel
theorem dX9_vat_20 : decode cX9_vat 20 = .ok (.iload_n 2, 1) := by decide +kernel
theorem dX9_vat_21 : decode cX9_vat 21 = .ok (.invokevirtual 51, 3) := by decide +kernel
theorem dX9_vat_24 : decode cX9_vat 24 = .ok (.invokevirtual 55, 3) := by decide +kernel
theorem dX9_vat_27 : decode cX9_vat 27 = .ok (.ireturn, 1) := by decide +kernel
theorem dX9_weigh_0 : decode cX9_weigh 0 = .ok (.aload_n 0, 1) := by decide +kernel
theorem dX9_weigh_1 : decode cX9_weigh 1 = .ok (.getfield 22, 3) := by decide +kernel
theorem dX9_weigh_4 : decode cX9_weigh 4 = .ok (.aload_n 0, 1) := by decide +kernel
theorem dX9_weigh_5 : decode cX9_weigh 5 = .ok (.getfield 10, 3) := by decide +kernel
theorem dX9_weigh_8 : decode cX9_weigh 8 = .ok (.invokevirtual 47, 3) := by decide +kernel
theorem dX9_weigh_11 : decode cX9_weigh 11 = .ok (.aload_n 0, 1) := by decide +kernel
theorem dX9_weigh_12 : decode cX9_weigh 12 = .ok (.getfield 22, 3) := by decide +kernel
theorem dX9_weigh_15 : decode cX9_weigh 15 = .ok (.aload_n 0, 1) := by decide +kernel
theorem dX9_weigh_16 : decode cX9_weigh 16 = .ok (.getfield 10, 3) := by decide +kernel
theorem dX9_weigh_19 : decode cX9_weigh 19 = .ok (.iload_n 1, 1) := by decide +kernel
theorem dX9_weigh_20 : decode cX9_weigh 20 = .ok (.iload_n 2, 1) := by decide +kernel
theorem dX9_weigh_21 : decode cX9_weigh 21 = .ok (.invokevirtual 59, 3) := by decide +kernel
theorem dX9_weigh_24 : decode cX9_weigh 24 = .ok (.invokevirtual 55, 3) := by decide +kernel
theorem dX9_weigh_27 : decode cX9_weigh 27 = .ok (.ireturn, 1) := by decide +kernel
theorem dX9_drain_0 : decode cX9_drain 0 = .ok (.aload_n 0, 1) := by decide +kernel
theorem dX9_drain_1 : decode cX9_drain 1 = .ok (.getfield 22, 3) := by decide +kernel
theorem dX9_drain_4 : decode cX9_drain 4 = .ok (.aload_n 0, 1) := by decide +kernel
theorem dX9_drain_5 : decode cX9_drain 5 = .ok (.getfield 10, 3) := by decide +kernel
theorem dX9_drain_8 : decode cX9_drain 8 = .ok (.invokevirtual 47, 3) := by decide +kernel
theorem dX9_drain_11 : decode cX9_drain 11 = .ok (.aload_n 0, 1) := by decide +kernel
theorem dX9_drain_12 : decode cX9_drain 12 = .ok (.getfield 22, 3) := by decide +kernel
theorem dX9_drain_15 : decode cX9_drain 15 = .ok (.aload_n 0, 1) := by decide +kernel
theorem dX9_drain_16 : decode cX9_drain 16 = .ok (.getfield 10, 3) := by decide +kernel
theorem dX9_drain_19 : decode cX9_drain 19 = .ok (.iload_n 1, 1) := by decide +kernel
theorem dX9_drain_20 : decode cX9_drain 20 = .ok (.invokevirtual 62, 3) := by decide +kernel
theorem dX9_drain_23 : decode cX9_drain 23 = .ok (.invokevirtual 55, 3) := by decide +kernel
theorem dX9_drain_26 : decode cX9_drain 26 = .ok (.ireturn, 1) := by decide +kernel
theorem dX9_vatOf_0 : decode cX9_vatOf 0 = .ok (.aload_n 0, 1) := by decide +kernel
theorem dX9_vatOf_1 : decode cX9_vatOf 1 = .ok (.getfield 10, 3) := by decide +kernel
theorem dX9_vatOf_4 : decode cX9_vatOf 4 = .ok (.iload_n 1, 1) := by decide +kernel
theorem dX9_vatOf_5 : decode cX9_vatOf 5 = .ok (.invokevirtual 65, 3) := by decide +kernel
theorem dX9_vatOf_8 : decode cX9_vatOf 8 = .ok (.astore_n 3, 1) := by decide +kernel
theorem dX9_vatOf_9 : decode cX9_vatOf 9 = .ok (.aload_n 3, 1) := by decide +kernel
theorem dX9_vatOf_10 : decode cX9_vatOf 10 = .ok (.ifnonnull 5, 3) := by decide +kernel
theorem dX9_vatOf_13 : decode cX9_vatOf 13 = .ok (.iconst (-1), 1) := by decide +kernel
theorem dX9_vatOf_14 : decode cX9_vatOf 14 = .ok (.ireturn, 1) := by decide +kernel
theorem dX9_vatOf_15 : decode cX9_vatOf 15 = .ok (.iload_n 2, 1) := by decide +kernel
theorem dX9_vatOf_16 : decode cX9_vatOf 16 = .ok (.tableswitch 71 0 4 #[36, 41, 46, 51, 56], 36) := by decide +kernel
theorem dX9_vatOf_52 : decode cX9_vatOf 52 = .ok (.aload_n 3, 1) := by decide +kernel
theorem dX9_vatOf_53 : decode cX9_vatOf 53 = .ok (.getfield 69, 3) := by decide +kernel
theorem dX9_vatOf_56 : decode cX9_vatOf 56 = .ok (.ireturn, 1) := by decide +kernel
theorem dX9_vatOf_57 : decode cX9_vatOf 57 = .ok (.aload_n 3, 1) := by decide +kernel
theorem dX9_vatOf_58 : decode cX9_vatOf 58 = .ok (.getfield 75, 3) := by decide +kernel
theorem dX9_vatOf_61 : decode cX9_vatOf 61 = .ok (.ireturn, 1) := by decide +kernel
theorem dX9_vatOf_62 : decode cX9_vatOf 62 = .ok (.aload_n 3, 1) := by decide +kernel
theorem dX9_vatOf_63 : decode cX9_vatOf 63 = .ok (.getfield 78, 3) := by decide +kernel
theorem dX9_vatOf_66 : decode cX9_vatOf 66 = .ok (.ireturn, 1) := by decide +kernel
theorem dX9_vatOf_67 : decode cX9_vatOf 67 = .ok (.aload_n 3, 1) := by decide +kernel
theorem dX9_vatOf_68 : decode cX9_vatOf 68 = .ok (.getfield 81, 3) := by decide +kernel
theorem dX9_vatOf_71 : decode cX9_vatOf 71 = .ok (.ireturn, 1) := by decide +kernel
theorem dX9_vatOf_72 : decode cX9_vatOf 72 = .ok (.aload_n 3, 1) := by decide +kernel
theorem dX9_vatOf_73 : decode cX9_vatOf 73 = .ok (.aload_n 0, 1) := by decide +kernel
theorem dX9_vatOf_74 : decode cX9_vatOf 74 = .ok (.getfield 10, 3) := by decide +kernel
theorem dX9_vatOf_77 : decode cX9_vatOf 77 = .ok (.getfield 84, 3) := by decide +kernel
theorem dX9_vatOf_80 : decode cX9_vatOf 80 = .ok (.invokevirtual 88, 3) := by decide +kernel
theorem dX9_vatOf_83 : decode cX9_vatOf 83 = .ok (.invokestatic 92, 3) := by decide +kernel
theorem dX9_vatOf_86 : decode cX9_vatOf 86 = .ok (.ireturn, 1) := by decide +kernel
theorem dX9_vatOf_87 : decode cX9_vatOf 87 = .ok (.iconst (-1), 1) := by decide +kernel
theorem dX9_vatOf_88 : decode cX9_vatOf 88 = .ok (.ireturn, 1) := by decide +kernel
theorem dX9_vatAt_0 : decode cX9_vatAt 0 = .ok (.iload_n 1, 1) := by decide +kernel
theorem dX9_vatAt_1 : decode cX9_vatAt 1 = .ok (.ifCond .ge 5, 3) := by decide +kernel
theorem dX9_vatAt_4 : decode cX9_vatAt 4 = .ok (.iconst (-1), 1) := by decide +kernel
theorem dX9_vatAt_5 : decode cX9_vatAt 5 = .ok (.ireturn, 1) := by decide +kernel
theorem dX9_vatAt_6 : decode cX9_vatAt 6 = .ok (.iconst 0, 1) := by decide +kernel
theorem dX9_vatAt_7 : decode cX9_vatAt 7 = .ok (.istore_n 2, 1) := by decide +kernel
theorem dX9_vatAt_8 : decode cX9_vatAt 8 = .ok (.iload_n 2, 1) := by decide +kernel
theorem dX9_vatAt_9 : decode cX9_vatAt 9 = .ok (.aload_n 0, 1) := by decide +kernel
theorem dX9_vatAt_10 : decode cX9_vatAt 10 = .ok (.getfield 10, 3) := by decide +kernel
theorem dX9_vatAt_13 : decode cX9_vatAt 13 = .ok (.getfield 96, 3) := by decide +kernel
theorem dX9_vatAt_16 : decode cX9_vatAt 16 = .ok (.if_icmp .ge 23, 3) := by decide +kernel
theorem dX9_vatAt_19 : decode cX9_vatAt 19 = .ok (.aload_n 0, 1) := by decide +kernel
theorem dX9_vatAt_20 : decode cX9_vatAt 20 = .ok (.getfield 10, 3) := by decide +kernel
theorem dX9_vatAt_23 : decode cX9_vatAt 23 = .ok (.iload_n 2, 1) := by decide +kernel
theorem dX9_vatAt_24 : decode cX9_vatAt 24 = .ok (.invokevirtual 99, 3) := by decide +kernel
theorem dX9_vatAt_27 : decode cX9_vatAt 27 = .ok (.iload_n 1, 1) := by decide +kernel
theorem dX9_vatAt_28 : decode cX9_vatAt 28 = .ok (.if_icmp .ne 5, 3) := by decide +kernel
theorem dX9_vatAt_31 : decode cX9_vatAt 31 = .ok (.iload_n 2, 1) := by decide +kernel
theorem dX9_vatAt_32 : decode cX9_vatAt 32 = .ok (.ireturn, 1) := by decide +kernel
theorem dX9_vatAt_33 : decode cX9_vatAt 33 = .ok (.iinc 2 1, 3) := by decide +kernel
theorem dX9_vatAt_36 : decode cX9_vatAt 36 = .ok (.goto (-28), 3) := by decide +kernel
theorem dX9_vatAt_39 : decode cX9_vatAt 39 = .ok (.bipush (-4), 2) := by decide +kernel
theorem dX9_vatAt_41 : decode cX9_vatAt 41 = .ok (.ireturn, 1) := by decide +kernel
theorem dX9_lot_0 : decode cX9_lot 0 = .ok (.aload_n 0, 1) := by decide +kernel
theorem dX9_lot_1 : decode cX9_lot 1 = .ok (.getfield 22, 3) := by decide +kernel
theorem dX9_lot_4 : decode cX9_lot 4 = .ok (.aload_n 0, 1) := by decide +kernel
theorem dX9_lot_5 : decode cX9_lot 5 = .ok (.getfield 10, 3) := by decide +kernel
theorem dX9_lot_8 : decode cX9_lot 8 = .ok (.invokevirtual 47, 3) := by decide +kernel
theorem dX9_lot_11 : decode cX9_lot 11 = .ok (.aload_n 0, 1) := by decide +kernel
theorem dX9_lot_12 : decode cX9_lot 12 = .ok (.getfield 22, 3) := by decide +kernel
theorem dX9_lot_15 : decode cX9_lot 15 = .ok (.aload_n 0, 1) := by decide +kernel
theorem dX9_lot_16 : decode cX9_lot 16 = .ok (.getfield 10, 3) := by decide +kernel
theorem dX9_lot_19 : decode cX9_lot 19 = .ok (.iload_n 1, 1) := by decide +kernel
theorem dX9_lot_20 : decode cX9_lot 20 = .ok (.iload_n 2, 1) := by decide +kernel
theorem dX9_lot_21 : decode cX9_lot 21 = .ok (.invokevirtual 102, 3) := by decide +kernel
theorem dX9_lot_24 : decode cX9_lot 24 = .ok (.invokevirtual 55, 3) := by decide +kernel
theorem dX9_lot_27 : decode cX9_lot 27 = .ok (.ireturn, 1) := by decide +kernel
theorem dX9_dip_0 : decode cX9_dip 0 = .ok (.aload_n 0, 1) := by decide +kernel
theorem dX9_dip_1 : decode cX9_dip 1 = .ok (.getfield 22, 3) := by decide +kernel
theorem dX9_dip_4 : decode cX9_dip 4 = .ok (.aload_n 0, 1) := by decide +kernel
theorem dX9_dip_5 : decode cX9_dip 5 = .ok (.getfield 10, 3) := by decide +kernel
theorem dX9_dip_8 : decode cX9_dip 8 = .ok (.invokevirtual 47, 3) := by decide +kernel
theorem dX9_dip_11 : decode cX9_dip 11 = .ok (.aload_n 0, 1) := by decide +kernel
theorem dX9_dip_12 : decode cX9_dip 12 = .ok (.getfield 22, 3) := by decide +kernel
theorem dX9_dip_15 : decode cX9_dip 15 = .ok (.aload_n 0, 1) := by decide +kernel
theorem dX9_dip_16 : decode cX9_dip 16 = .ok (.getfield 10, 3) := by decide +kernel
theorem dX9_dip_19 : decode cX9_dip 19 = .ok (.iload_n 1, 1) := by decide +kernel
theorem dX9_dip_20 : decode cX9_dip 20 = .ok (.iload_n 2, 1) := by decide +kernel
theorem dX9_dip_21 : decode cX9_dip 21 = .ok (.invokevirtual 105, 3) := by decide +kernel
theorem dX9_dip_24 : decode cX9_dip 24 = .ok (.invokevirtual 55, 3) := by decide +kernel
theorem dX9_dip_27 : decode cX9_dip 27 = .ok (.ireturn, 1) := by decide +kernel
theorem dX9_rinse_0 : decode cX9_rinse 0 = .ok (.aload_n 0, 1) := by decide +kernel
theorem dX9_rinse_1 : decode cX9_rinse 1 = .ok (.getfield 22, 3) := by decide +kernel
theorem dX9_rinse_4 : decode cX9_rinse 4 = .ok (.aload_n 0, 1) := by decide +kernel
theorem dX9_rinse_5 : decode cX9_rinse 5 = .ok (.getfield 10, 3) := by decide +kernel
theorem dX9_rinse_8 : decode cX9_rinse 8 = .ok (.invokevirtual 47, 3) := by decide +kernel
theorem dX9_rinse_11 : decode cX9_rinse 11 = .ok (.aload_n 0, 1) := by decide +kernel
theorem dX9_rinse_12 : decode cX9_rinse 12 = .ok (.getfield 22, 3) := by decide +kernel
theorem dX9_rinse_15 : decode cX9_rinse 15 = .ok (.aload_n 0, 1) := by decide +kernel
theorem dX9_rinse_16 : decode cX9_rinse 16 = .ok (.getfield 10, 3) := by decide +kernel
theorem dX9_rinse_19 : decode cX9_rinse 19 = .ok (.iload_n 1, 1) := by decide +kernel
theorem dX9_rinse_20 : decode cX9_rinse 20 = .ok (.invokevirtual 108, 3) := by decide +kernel
theorem dX9_rinse_23 : decode cX9_rinse 23 = .ok (.invokevirtual 55, 3) := by decide +kernel
theorem dX9_rinse_26 : decode cX9_rinse 26 = .ok (.ireturn, 1) := by decide +kernel
theorem dX9_hang_0 : decode cX9_hang 0 = .ok (.aload_n 0, 1) := by decide +kernel
theorem dX9_hang_1 : decode cX9_hang 1 = .ok (.getfield 22, 3) := by decide +kernel
theorem dX9_hang_4 : decode cX9_hang 4 = .ok (.aload_n 0, 1) := by decide +kernel
theorem dX9_hang_5 : decode cX9_hang 5 = .ok (.getfield 10, 3) := by decide +kernel
theorem dX9_hang_8 : decode cX9_hang 8 = .ok (.invokevirtual 47, 3) := by decide +kernel
theorem dX9_hang_11 : decode cX9_hang 11 = .ok (.aload_n 0, 1) := by decide +kernel
theorem dX9_hang_12 : decode cX9_hang 12 = .ok (.getfield 22, 3) := by decide +kernel
theorem dX9_hang_15 : decode cX9_hang 15 = .ok (.aload_n 0, 1) := by decide +kernel
theorem dX9_hang_16 : decode cX9_hang 16 = .ok (.getfield 10, 3) := by decide +kernel
theorem dX9_hang_19 : decode cX9_hang 19 = .ok (.iload_n 1, 1) := by decide +kernel
theorem dX9_hang_20 : decode cX9_hang 20 = .ok (.iload_n 2, 1) := by decide +kernel
theorem dX9_hang_21 : decode cX9_hang 21 = .ok (.invokevirtual 111, 3) := by decide +kernel
theorem dX9_hang_24 : decode cX9_hang 24 = .ok (.invokevirtual 55, 3) := by decide +kernel
theorem dX9_hang_27 : decode cX9_hang 27 = .ok (.ireturn, 1) := by decide +kernel
theorem dX9_take_0 : decode cX9_take 0 = .ok (.aload_n 0, 1) := by decide +kernel
theorem dX9_take_1 : decode cX9_take 1 = .ok (.getfield 22, 3) := by decide +kernel
theorem dX9_take_4 : decode cX9_take 4 = .ok (.aload_n 0, 1) := by decide +kernel
theorem dX9_take_5 : decode cX9_take 5 = .ok (.getfield 10, 3) := by decide +kernel
theorem dX9_take_8 : decode cX9_take 8 = .ok (.invokevirtual 47, 3) := by decide +kernel
theorem dX9_take_11 : decode cX9_take 11 = .ok (.aload_n 0, 1) := by decide +kernel
theorem dX9_take_12 : decode cX9_take 12 = .ok (.getfield 22, 3) := by decide +kernel
theorem dX9_take_15 : decode cX9_take 15 = .ok (.aload_n 0, 1) := by decide +kernel
theorem dX9_take_16 : decode cX9_take 16 = .ok (.getfield 10, 3) := by decide +kernel
theorem dX9_take_19 : decode cX9_take 19 = .ok (.iload_n 1, 1) := by decide +kernel
theorem dX9_take_20 : decode cX9_take 20 = .ok (.invokevirtual 114, 3) := by decide +kernel
theorem dX9_take_23 : decode cX9_take 23 = .ok (.invokevirtual 55, 3) := by decide +kernel
theorem dX9_take_26 : decode cX9_take 26 = .ok (.ireturn, 1) := by decide +kernel
theorem dX9_lotOf_0 : decode cX9_lotOf 0 = .ok (.aload_n 0, 1) := by decide +kernel
theorem dX9_lotOf_1 : decode cX9_lotOf 1 = .ok (.getfield 10, 3) := by decide +kernel
theorem dX9_lotOf_4 : decode cX9_lotOf 4 = .ok (.iload_n 1, 1) := by decide +kernel
theorem dX9_lotOf_5 : decode cX9_lotOf 5 = .ok (.invokevirtual 117, 3) := by decide +kernel
theorem dX9_lotOf_8 : decode cX9_lotOf 8 = .ok (.astore_n 3, 1) := by decide +kernel
theorem dX9_lotOf_9 : decode cX9_lotOf 9 = .ok (.aload_n 3, 1) := by decide +kernel
theorem dX9_lotOf_10 : decode cX9_lotOf 10 = .ok (.ifnonnull 5, 3) := by decide +kernel
theorem dX9_lotOf_13 : decode cX9_lotOf 13 = .ok (.iconst (-1), 1) := by decide +kernel
theorem dX9_lotOf_14 : decode cX9_lotOf 14 = .ok (.ireturn, 1) := by decide +kernel
theorem dX9_lotOf_15 : decode cX9_lotOf 15 = .ok (.iload_n 2, 1) := by decide +kernel
theorem dX9_lotOf_16 : decode cX9_lotOf 16 = .ok (.tableswitch 133 0 9 #[56, 61, 66, 71, 79, 87, 95, 103, 111, 128], 56) := by decide +kernel
theorem dX9_lotOf_72 : decode cX9_lotOf 72 = .ok (.aload_n 3, 1) := by decide +kernel
theorem dX9_lotOf_73 : decode cX9_lotOf 73 = .ok (.getfield 121, 3) := by decide +kernel
theorem dX9_lotOf_76 : decode cX9_lotOf 76 = .ok (.ireturn, 1) := by decide +kernel
theorem dX9_lotOf_77 : decode cX9_lotOf 77 = .ok (.aload_n 3, 1) := by decide +kernel
theorem dX9_lotOf_78 : decode cX9_lotOf 78 = .ok (.getfield 126, 3) := by decide +kernel
theorem dX9_lotOf_81 : decode cX9_lotOf 81 = .ok (.ireturn, 1) := by decide +kernel
theorem dX9_lotOf_82 : decode cX9_lotOf 82 = .ok (.aload_n 3, 1) := by decide +kernel
theorem dX9_lotOf_83 : decode cX9_lotOf 83 = .ok (.invokevirtual 129, 3) := by decide +kernel
theorem dX9_lotOf_86 : decode cX9_lotOf 86 = .ok (.ireturn, 1) := by decide +kernel
theorem dX9_lotOf_87 : decode cX9_lotOf 87 = .ok (.aload_n 3, 1) := by decide +kernel
theorem dX9_lotOf_88 : decode cX9_lotOf 88 = .ok (.getfield 133, 3) := by decide +kernel
theorem dX9_lotOf_91 : decode cX9_lotOf 91 = .ok (.invokestatic 137, 3) := by decide +kernel
theorem dX9_lotOf_94 : decode cX9_lotOf 94 = .ok (.ireturn, 1) := by decide +kernel
theorem dX9_lotOf_95 : decode cX9_lotOf 95 = .ok (.aload_n 3, 1) := by decide +kernel
theorem dX9_lotOf_96 : decode cX9_lotOf 96 = .ok (.getfield 141, 3) := by decide +kernel
theorem dX9_lotOf_99 : decode cX9_lotOf 99 = .ok (.invokestatic 137, 3) := by decide +kernel
theorem dX9_lotOf_102 : decode cX9_lotOf 102 = .ok (.ireturn, 1) := by decide +kernel
theorem dX9_lotOf_103 : decode cX9_lotOf 103 = .ok (.aload_n 3, 1) := by decide +kernel
theorem dX9_lotOf_104 : decode cX9_lotOf 104 = .ok (.getfield 144, 3) := by decide +kernel
theorem dX9_lotOf_107 : decode cX9_lotOf 107 = .ok (.invokestatic 92, 3) := by decide +kernel
theorem dX9_lotOf_110 : decode cX9_lotOf 110 = .ok (.ireturn, 1) := by decide +kernel
theorem dX9_lotOf_111 : decode cX9_lotOf 111 = .ok (.aload_n 3, 1) := by decide +kernel
theorem dX9_lotOf_112 : decode cX9_lotOf 112 = .ok (.getfield 148, 3) := by decide +kernel
theorem dX9_lotOf_115 : decode cX9_lotOf 115 = .ok (.invokestatic 92, 3) := by decide +kernel
theorem dX9_lotOf_118 : decode cX9_lotOf 118 = .ok (.ireturn, 1) := by decide +kernel
theorem dX9_lotOf_119 : decode cX9_lotOf 119 = .ok (.aload_n 3, 1) := by decide +kernel
theorem dX9_lotOf_120 : decode cX9_lotOf 120 = .ok (.getfield 151, 3) := by decide +kernel
theorem dX9_lotOf_123 : decode cX9_lotOf 123 = .ok (.invokestatic 92, 3) := by decide +kernel
theorem dX9_lotOf_126 : decode cX9_lotOf 126 = .ok (.ireturn, 1) := by decide +kernel
theorem dX9_lotOf_127 : decode cX9_lotOf 127 = .ok (.aload_n 3, 1) := by decide +kernel
theorem dX9_lotOf_128 : decode cX9_lotOf 128 = .ok (.invokevirtual 154, 3) := by decide +kernel
theorem dX9_lotOf_131 : decode cX9_lotOf 131 = .ok (.ifCond .eq 10, 3) := by decide +kernel
theorem dX9_lotOf_134 : decode cX9_lotOf 134 = .ok (.aload_n 3, 1) := by decide +kernel
theorem dX9_lotOf_135 : decode cX9_lotOf 135 = .ok (.getfield 158, 3) := by decide +kernel
theorem dX9_lotOf_138 : decode cX9_lotOf 138 = .ok (.goto 5, 3) := by decide +kernel
theorem dX9_lotOf_141 : decode cX9_lotOf 141 = .ok (.bipush (-4), 2) := by decide +kernel
theorem dX9_lotOf_143 : decode cX9_lotOf 143 = .ok (.ireturn, 1) := by decide +kernel
theorem dX9_lotOf_144 : decode cX9_lotOf 144 = .ok (.aload_n 3, 1) := by decide +kernel
theorem dX9_lotOf_145 : decode cX9_lotOf 145 = .ok (.getfield 161, 3) := by decide +kernel
theorem dX9_lotOf_148 : decode cX9_lotOf 148 = .ok (.ireturn, 1) := by decide +kernel
theorem dX9_lotOf_149 : decode cX9_lotOf 149 = .ok (.iconst (-1), 1) := by decide +kernel
theorem dX9_lotOf_150 : decode cX9_lotOf 150 = .ok (.ireturn, 1) := by decide +kernel
theorem dX9_shade_0 : decode cX9_shade 0 = .ok (.aload_n 0, 1) := by decide +kernel
theorem dX9_shade_1 : decode cX9_shade 1 = .ok (.getfield 10, 3) := by decide +kernel
theorem dX9_shade_4 : decode cX9_shade 4 = .ok (.iload_n 1, 1) := by decide +kernel
theorem dX9_shade_5 : decode cX9_shade 5 = .ok (.invokevirtual 117, 3) := by decide +kernel
theorem dX9_shade_8 : decode cX9_shade 8 = .ok (.astore_n 3, 1) := by decide +kernel
theorem dX9_shade_9 : decode cX9_shade 9 = .ok (.aload_n 3, 1) := by decide +kernel
theorem dX9_shade_10 : decode cX9_shade 10 = .ok (.ifnull 10, 3) := by decide +kernel
theorem dX9_shade_13 : decode cX9_shade 13 = .ok (.iload_n 2, 1) := by decide +kernel
theorem dX9_shade_14 : decode cX9_shade 14 = .ok (.invokestatic 164, 3) := by decide +kernel
theorem dX9_shade_17 : decode cX9_shade 17 = .ok (.ifCond .ne 5, 3) := by decide +kernel
theorem dX9_shade_20 : decode cX9_shade 20 = .ok (.iconst (-1), 1) := by decide +kernel
theorem dX9_shade_21 : decode cX9_shade 21 = .ok (.ireturn, 1) := by decide +kernel
theorem dX9_shade_22 : decode cX9_shade 22 = .ok (.aload_n 3, 1) := by decide +kernel
theorem dX9_shade_23 : decode cX9_shade 23 = .ok (.iload_n 2, 1) := by decide +kernel
theorem dX9_shade_24 : decode cX9_shade 24 = .ok (.invokevirtual 168, 3) := by decide +kernel
theorem dX9_shade_27 : decode cX9_shade 27 = .ok (.ireturn, 1) := by decide +kernel
theorem dX9_shadeBits_0 : decode cX9_shadeBits 0 = .ok (.aload_n 0, 1) := by decide +kernel
theorem dX9_shadeBits_1 : decode cX9_shadeBits 1 = .ok (.getfield 10, 3) := by decide +kernel
theorem dX9_shadeBits_4 : decode cX9_shadeBits 4 = .ok (.iload_n 1, 1) := by decide +kernel
theorem dX9_shadeBits_5 : decode cX9_shadeBits 5 = .ok (.invokevirtual 117, 3) := by decide +kernel
theorem dX9_shadeBits_8 : decode cX9_shadeBits 8 = .ok (.astore_n 3, 1) := by decide +kernel
theorem dX9_shadeBits_9 : decode cX9_shadeBits 9 = .ok (.aload_n 3, 1) := by decide +kernel
theorem dX9_shadeBits_10 : decode cX9_shadeBits 10 = .ok (.ifnull 10, 3) := by decide +kernel
theorem dX9_shadeBits_13 : decode cX9_shadeBits 13 = .ok (.iload_n 2, 1) := by decide +kernel
theorem dX9_shadeBits_14 : decode cX9_shadeBits 14 = .ok (.invokestatic 164, 3) := by decide +kernel
theorem dX9_shadeBits_17 : decode cX9_shadeBits 17 = .ok (.ifCond .ne 5, 3) := by decide +kernel
theorem dX9_shadeBits_20 : decode cX9_shadeBits 20 = .ok (.iconst (-1), 1) := by decide +kernel
theorem dX9_shadeBits_21 : decode cX9_shadeBits 21 = .ok (.ireturn, 1) := by decide +kernel
theorem dX9_shadeBits_22 : decode cX9_shadeBits 22 = .ok (.aload_n 3, 1) := by decide +kernel
theorem dX9_shadeBits_23 : decode cX9_shadeBits 23 = .ok (.iload_n 2, 1) := by decide +kernel
theorem dX9_shadeBits_24 : decode cX9_shadeBits 24 = .ok (.invokevirtual 171, 3) := by decide +kernel
theorem dX9_shadeBits_27 : decode cX9_shadeBits 27 = .ok (.invokestatic 175, 3) := by decide +kernel
theorem dX9_shadeBits_30 : decode cX9_shadeBits 30 = .ok (.ireturn, 1) := by decide +kernel
theorem dX9_meanBits_0 : decode cX9_meanBits 0 = .ok (.iload_n 1, 1) := by decide +kernel
theorem dX9_meanBits_1 : decode cX9_meanBits 1 = .ok (.invokestatic 164, 3) := by decide +kernel
theorem dX9_meanBits_4 : decode cX9_meanBits 4 = .ok (.ifCond .ne 5, 3) := by decide +kernel
theorem dX9_meanBits_7 : decode cX9_meanBits 7 = .ok (.iconst (-1), 1) := by decide +kernel
theorem dX9_meanBits_8 : decode cX9_meanBits 8 = .ok (.ireturn, 1) := by decide +kernel
theorem dX9_meanBits_9 : decode cX9_meanBits 9 = .ok (.dconst 0, 1) := by decide +kernel
theorem dX9_meanBits_10 : decode cX9_meanBits 10 = .ok (.dstore_n 2, 1) := by decide +kernel
theorem dX9_meanBits_11 : decode cX9_meanBits 11 = .ok (.iconst 0, 1) := by decide +kernel
theorem dX9_meanBits_12 : decode cX9_meanBits 12 = .ok (.istore 4, 2) := by decide +kernel
theorem dX9_meanBits_14 : decode cX9_meanBits 14 = .ok (.iconst 0, 1) := by decide +kernel
theorem dX9_meanBits_15 : decode cX9_meanBits 15 = .ok (.istore 5, 2) := by decide +kernel
theorem dX9_meanBits_17 : decode cX9_meanBits 17 = .ok (.iload 5, 2) := by decide +kernel
theorem dX9_meanBits_19 : decode cX9_meanBits 19 = .ok (.aload_n 0, 1) := by decide +kernel
theorem dX9_meanBits_20 : decode cX9_meanBits 20 = .ok (.getfield 10, 3) := by decide +kernel
theorem dX9_meanBits_23 : decode cX9_meanBits 23 = .ok (.getfield 179, 3) := by decide +kernel
theorem dX9_meanBits_26 : decode cX9_meanBits 26 = .ok (.if_icmp .ge 46, 3) := by decide +kernel
theorem dX9_meanBits_29 : decode cX9_meanBits 29 = .ok (.aload_n 0, 1) := by decide +kernel
theorem dX9_meanBits_30 : decode cX9_meanBits 30 = .ok (.getfield 10, 3) := by decide +kernel
theorem dX9_meanBits_33 : decode cX9_meanBits 33 = .ok (.iload 5, 2) := by decide +kernel
theorem dX9_meanBits_35 : decode cX9_meanBits 35 = .ok (.invokevirtual 117, 3) := by decide +kernel
theorem dX9_meanBits_38 : decode cX9_meanBits 38 = .ok (.astore 6, 2) := by decide +kernel
theorem dX9_meanBits_40 : decode cX9_meanBits 40 = .ok (.aload 6, 2) := by decide +kernel
theorem dX9_meanBits_42 : decode cX9_meanBits 42 = .ok (.ifnull 24, 3) := by decide +kernel
theorem dX9_meanBits_45 : decode cX9_meanBits 45 = .ok (.aload 6, 2) := by decide +kernel
theorem dX9_meanBits_47 : decode cX9_meanBits 47 = .ok (.invokevirtual 154, 3) := by decide +kernel
theorem dX9_meanBits_50 : decode cX9_meanBits 50 = .ok (.ifCond .ne 16, 3) := by decide +kernel
theorem dX9_meanBits_53 : decode cX9_meanBits 53 = .ok (.dload_n 2, 1) := by decide +kernel
theorem dX9_meanBits_54 : decode cX9_meanBits 54 = .ok (.aload 6, 2) := by decide +kernel
theorem dX9_meanBits_56 : decode cX9_meanBits 56 = .ok (.iload_n 1, 1) := by decide +kernel
theorem dX9_meanBits_57 : decode cX9_meanBits 57 = .ok (.invokevirtual 171, 3) := by decide +kernel
theorem dX9_meanBits_60 : decode cX9_meanBits 60 = .ok (.f2d, 1) := by decide +kernel
theorem dX9_meanBits_61 : decode cX9_meanBits 61 = .ok (.dadd, 1) := by decide +kernel
theorem dX9_meanBits_62 : decode cX9_meanBits 62 = .ok (.dstore_n 2, 1) := by decide +kernel
theorem dX9_meanBits_63 : decode cX9_meanBits 63 = .ok (.iinc 4 1, 3) := by decide +kernel
theorem dX9_meanBits_66 : decode cX9_meanBits 66 = .ok (.iinc 5 1, 3) := by decide +kernel
theorem dX9_meanBits_69 : decode cX9_meanBits 69 = .ok (.goto (-52), 3) := by decide +kernel
theorem dX9_meanBits_72 : decode cX9_meanBits 72 = .ok (.iload 4, 2) := by decide +kernel
theorem dX9_meanBits_74 : decode cX9_meanBits 74 = .ok (.ifCond .gt 6, 3) := by decide +kernel
theorem dX9_meanBits_77 : decode cX9_meanBits 77 = .ok (.bipush (-4), 2) := by decide +kernel
theorem dX9_meanBits_79 : decode cX9_meanBits 79 = .ok (.ireturn, 1) := by decide +kernel
theorem dX9_meanBits_80 : decode cX9_meanBits 80 = .ok (.dload_n 2, 1) := by decide +kernel
theorem dX9_meanBits_81 : decode cX9_meanBits 81 = .ok (.iload 4, 2) := by decide +kernel
theorem dX9_meanBits_83 : decode cX9_meanBits 83 = .ok (.i2d, 1) := by decide +kernel
theorem dX9_meanBits_84 : decode cX9_meanBits 84 = .ok (.ddiv, 1) := by decide +kernel
theorem dX9_meanBits_85 : decode cX9_meanBits 85 = .ok (.d2f, 1) := by decide +kernel
theorem dX9_meanBits_86 : decode cX9_meanBits 86 = .ok (.invokestatic 175, 3) := by decide +kernel
theorem dX9_meanBits_89 : decode cX9_meanBits 89 = .ok (.ireturn, 1) := by decide +kernel
theorem dX9_order_0 : decode cX9_order 0 = .ok (.aload_n 0, 1) := by decide +kernel
theorem dX9_order_1 : decode cX9_order 1 = .ok (.getfield 22, 3) := by decide +kernel
theorem dX9_order_4 : decode cX9_order 4 = .ok (.aload_n 0, 1) := by decide +kernel
theorem dX9_order_5 : decode cX9_order 5 = .ok (.getfield 10, 3) := by decide +kernel
theorem dX9_order_8 : decode cX9_order 8 = .ok (.invokevirtual 47, 3) := by decide +kernel
theorem dX9_order_11 : decode cX9_order 11 = .ok (.aload_n 0, 1) := by decide +kernel
theorem dX9_order_12 : decode cX9_order 12 = .ok (.getfield 22, 3) := by decide +kernel
theorem dX9_order_15 : decode cX9_order 15 = .ok (.aload_n 0, 1) := by decide +kernel
theorem dX9_order_16 : decode cX9_order 16 = .ok (.getfield 10, 3) := by decide +kernel
theorem dX9_order_19 : decode cX9_order 19 = .ok (.iload_n 1, 1) := by decide +kernel
theorem dX9_order_20 : decode cX9_order 20 = .ok (.iload_n 2, 1) := by decide +kernel
theorem dX9_order_21 : decode cX9_order 21 = .ok (.iload_n 3, 1) := by decide +kernel
theorem dX9_order_22 : decode cX9_order 22 = .ok (.iload 4, 2) := by decide +kernel
theorem dX9_order_24 : decode cX9_order 24 = .ok (.invokevirtual 182, 3) := by decide +kernel
theorem dX9_order_27 : decode cX9_order 27 = .ok (.invokevirtual 55, 3) := by decide +kernel
theorem dX9_order_30 : decode cX9_order 30 = .ok (.ireturn, 1) := by decide +kernel
theorem dX9_sell_0 : decode cX9_sell 0 = .ok (.aload_n 0, 1) := by decide +kernel
theorem dX9_sell_1 : decode cX9_sell 1 = .ok (.getfield 22, 3) := by decide +kernel
theorem dX9_sell_4 : decode cX9_sell 4 = .ok (.aload_n 0, 1) := by decide +kernel
theorem dX9_sell_5 : decode cX9_sell 5 = .ok (.getfield 10, 3) := by decide +kernel
theorem dX9_sell_8 : decode cX9_sell 8 = .ok (.invokevirtual 47, 3) := by decide +kernel
theorem dX9_sell_11 : decode cX9_sell 11 = .ok (.aload_n 0, 1) := by decide +kernel
theorem dX9_sell_12 : decode cX9_sell 12 = .ok (.getfield 22, 3) := by decide +kernel
theorem dX9_sell_15 : decode cX9_sell 15 = .ok (.aload_n 0, 1) := by decide +kernel
theorem dX9_sell_16 : decode cX9_sell 16 = .ok (.getfield 10, 3) := by decide +kernel
theorem dX9_sell_19 : decode cX9_sell 19 = .ok (.iload_n 1, 1) := by decide +kernel
theorem dX9_sell_20 : decode cX9_sell 20 = .ok (.iload_n 2, 1) := by decide +kernel
theorem dX9_sell_21 : decode cX9_sell 21 = .ok (.invokevirtual 186, 3) := by decide +kernel
theorem dX9_sell_24 : decode cX9_sell 24 = .ok (.invokevirtual 55, 3) := by decide +kernel
theorem dX9_sell_27 : decode cX9_sell 27 = .ok (.ireturn, 1) := by decide +kernel
theorem dX9_orderOf_0 : decode cX9_orderOf 0 = .ok (.aload_n 0, 1) := by decide +kernel
theorem dX9_orderOf_1 : decode cX9_orderOf 1 = .ok (.getfield 10, 3) := by decide +kernel
theorem dX9_orderOf_4 : decode cX9_orderOf 4 = .ok (.iload_n 1, 1) := by decide +kernel
theorem dX9_orderOf_5 : decode cX9_orderOf 5 = .ok (.invokevirtual 189, 3) := by decide +kernel
theorem dX9_orderOf_8 : decode cX9_orderOf 8 = .ok (.astore_n 3, 1) := by decide +kernel
theorem dX9_orderOf_9 : decode cX9_orderOf 9 = .ok (.aload_n 3, 1) := by decide +kernel
theorem dX9_orderOf_10 : decode cX9_orderOf 10 = .ok (.ifnonnull 5, 3) := by decide +kernel
theorem dX9_orderOf_13 : decode cX9_orderOf 13 = .ok (.iconst (-1), 1) := by decide +kernel
theorem dX9_orderOf_14 : decode cX9_orderOf 14 = .ok (.ireturn, 1) := by decide +kernel
theorem dX9_orderOf_15 : decode cX9_orderOf 15 = .ok (.iload_n 2, 1) := by decide +kernel
theorem dX9_orderOf_16 : decode cX9_orderOf 16 = .ok (.invokestatic 164, 3) := by decide +kernel
theorem dX9_orderOf_19 : decode cX9_orderOf 19 = .ok (.ifCond .eq 9, 3) := by decide +kernel
theorem dX9_orderOf_22 : decode cX9_orderOf 22 = .ok (.aload_n 3, 1) := by decide +kernel
theorem dX9_orderOf_23 : decode cX9_orderOf 23 = .ok (.iload_n 2, 1) := by decide +kernel
theorem dX9_orderOf_24 : decode cX9_orderOf 24 = .ok (.invokevirtual 193, 3) := by decide +kernel
theorem dX9_orderOf_27 : decode cX9_orderOf 27 = .ok (.ireturn, 1) := by decide +kernel
theorem dX9_orderOf_28 : decode cX9_orderOf 28 = .ok (.iload_n 2, 1) := by decide +kernel
theorem dX9_orderOf_29 : decode cX9_orderOf 29 = .ok (.tableswitch 53 4 6 #[27, 35, 44], 27) := by decide +kernel
theorem dX9_orderOf_56 : decode cX9_orderOf 56 = .ok (.aload_n 3, 1) := by decide +kernel
theorem dX9_orderOf_57 : decode cX9_orderOf 57 = .ok (.getfield 198, 3) := by decide +kernel
theorem dX9_orderOf_60 : decode cX9_orderOf 60 = .ok (.invokestatic 92, 3) := by decide +kernel
theorem dX9_orderOf_63 : decode cX9_orderOf 63 = .ok (.ireturn, 1) := by decide +kernel
theorem dX9_orderOf_64 : decode cX9_orderOf 64 = .ok (.aload_n 0, 1) := by decide +kernel
theorem dX9_orderOf_65 : decode cX9_orderOf 65 = .ok (.getfield 10, 3) := by decide +kernel
theorem dX9_orderOf_68 : decode cX9_orderOf 68 = .ok (.aload_n 3, 1) := by decide +kernel
theorem dX9_orderOf_69 : decode cX9_orderOf 69 = .ok (.invokevirtual 201, 3) := by decide +kernel
theorem dX9_orderOf_72 : decode cX9_orderOf 72 = .ok (.ireturn, 1) := by decide +kernel
theorem dX9_orderOf_73 : decode cX9_orderOf 73 = .ok (.aload_n 0, 1) := by decide +kernel
theorem dX9_orderOf_74 : decode cX9_orderOf 74 = .ok (.getfield 10, 3) := by decide +kernel
theorem dX9_orderOf_77 : decode cX9_orderOf 77 = .ok (.aload_n 3, 1) := by decide +kernel
theorem dX9_orderOf_78 : decode cX9_orderOf 78 = .ok (.invokevirtual 205, 3) := by decide +kernel
theorem dX9_orderOf_81 : decode cX9_orderOf 81 = .ok (.ireturn, 1) := by decide +kernel
theorem dX9_orderOf_82 : decode cX9_orderOf 82 = .ok (.iconst (-1), 1) := by decide +kernel
theorem dX9_orderOf_83 : decode cX9_orderOf 83 = .ok (.ireturn, 1) := by decide +kernel
theorem dX9_match_0 : decode cX9_match 0 = .ok (.aload_n 0, 1) := by decide +kernel
theorem dX9_match_1 : decode cX9_match 1 = .ok (.getfield 10, 3) := by decide +kernel
theorem dX9_match_4 : decode cX9_match 4 = .ok (.iload_n 1, 1) := by decide +kernel
theorem dX9_match_5 : decode cX9_match 5 = .ok (.invokevirtual 117, 3) := by decide +kernel
theorem dX9_match_8 : decode cX9_match 8 = .ok (.astore_n 3, 1) := by decide +kernel
theorem dX9_match_9 : decode cX9_match 9 = .ok (.aload_n 0, 1) := by decide +kernel
theorem dX9_match_10 : decode cX9_match 10 = .ok (.getfield 10, 3) := by decide +kernel
theorem dX9_match_13 : decode cX9_match 13 = .ok (.iload_n 2, 1) := by decide +kernel
theorem dX9_match_14 : decode cX9_match 14 = .ok (.invokevirtual 117, 3) := by decide +kernel
theorem dX9_match_17 : decode cX9_match 17 = .ok (.astore 4, 2) := by decide +kernel
theorem dX9_match_19 : decode cX9_match 19 = .ok (.aload_n 3, 1) := by decide +kernel
theorem dX9_match_20 : decode cX9_match 20 = .ok (.ifnull 8, 3) := by decide +kernel
theorem dX9_match_23 : decode cX9_match 23 = .ok (.aload 4, 2) := by decide +kernel
theorem dX9_match_25 : decode cX9_match 25 = .ok (.ifnonnull 5, 3) := by decide +kernel
theorem dX9_match_28 : decode cX9_match 28 = .ok (.iconst (-1), 1) := by decide +kernel
theorem dX9_match_29 : decode cX9_match 29 = .ok (.ireturn, 1) := by decide +kernel
theorem dX9_match_30 : decode cX9_match 30 = .ok (.aload_n 0, 1) := by decide +kernel
theorem dX9_match_31 : decode cX9_match 31 = .ok (.getfield 10, 3) := by decide +kernel
theorem dX9_match_34 : decode cX9_match 34 = .ok (.getfield 84, 3) := by decide +kernel
theorem dX9_match_37 : decode cX9_match 37 = .ok (.iconst 4, 1) := by decide +kernel
theorem dX9_match_38 : decode cX9_match 38 = .ok (.invokevirtual 210, 3) := by decide +kernel
theorem dX9_match_41 : decode cX9_match 41 = .ok (.istore 5, 2) := by decide +kernel
theorem dX9_match_43 : decode cX9_match 43 = .ok (.iconst 0, 1) := by decide +kernel
theorem dX9_match_44 : decode cX9_match 44 = .ok (.istore 6, 2) := by decide +kernel
theorem dX9_match_46 : decode cX9_match 46 = .ok (.iload 6, 2) := by decide +kernel
theorem dX9_match_48 : decode cX9_match 48 = .ok (.iconst 4, 1) := by decide +kernel
theorem dX9_match_49 : decode cX9_match 49 = .ok (.if_icmp .ge 32, 3) := by decide +kernel
theorem dX9_match_52 : decode cX9_match 52 = .ok (.aload_n 3, 1) := by decide +kernel
theorem dX9_match_53 : decode cX9_match 53 = .ok (.iload 6, 2) := by decide +kernel
theorem dX9_match_55 : decode cX9_match 55 = .ok (.invokevirtual 168, 3) := by decide +kernel
theorem dX9_match_58 : decode cX9_match 58 = .ok (.aload 4, 2) := by decide +kernel
theorem dX9_match_60 : decode cX9_match 60 = .ok (.iload 6, 2) := by decide +kernel
theorem dX9_match_62 : decode cX9_match 62 = .ok (.invokevirtual 168, 3) := by decide +kernel
theorem dX9_match_65 : decode cX9_match 65 = .ok (.invokestatic 213, 3) := by decide +kernel
theorem dX9_match_68 : decode cX9_match 68 = .ok (.iload 5, 2) := by decide +kernel
theorem dX9_match_70 : decode cX9_match 70 = .ok (.if_icmp .le 5, 3) := by decide +kernel
theorem dX9_match_73 : decode cX9_match 73 = .ok (.iconst 0, 1) := by decide +kernel
theorem dX9_match_74 : decode cX9_match 74 = .ok (.ireturn, 1) := by decide +kernel
theorem dX9_match_75 : decode cX9_match 75 = .ok (.iinc 6 1, 3) := by decide +kernel
theorem dX9_match_78 : decode cX9_match 78 = .ok (.goto (-32), 3) := by decide +kernel
theorem dX9_match_81 : decode cX9_match 81 = .ok (.iconst 1, 1) := by decide +kernel
theorem dX9_match_82 : decode cX9_match 82 = .ok (.ireturn, 1) := by decide +kernel
theorem dX9_alike_0 : decode cX9_alike 0 = .ok (.iload_n 1, 1) := by decide +kernel
theorem dX9_alike_1 : decode cX9_alike 1 = .ok (.invokestatic 164, 3) := by decide +kernel
theorem dX9_alike_4 : decode cX9_alike 4 = .ok (.ifCond .ne 5, 3) := by decide +kernel
theorem dX9_alike_7 : decode cX9_alike 7 = .ok (.iconst (-1), 1) := by decide +kernel
theorem dX9_alike_8 : decode cX9_alike 8 = .ok (.ireturn, 1) := by decide +kernel
theorem dX9_alike_9 : decode cX9_alike 9 = .ok (.iconst 0, 1) := by decide +kernel
theorem dX9_alike_10 : decode cX9_alike 10 = .ok (.istore_n 2, 1) := by decide +kernel
theorem dX9_alike_11 : decode cX9_alike 11 = .ok (.iconst 0, 1) := by decide +kernel
theorem dX9_alike_12 : decode cX9_alike 12 = .ok (.istore_n 3, 1) := by decide +kernel
theorem dX9_alike_13 : decode cX9_alike 13 = .ok (.iload_n 3, 1) := by decide +kernel
theorem dX9_alike_14 : decode cX9_alike 14 = .ok (.aload_n 0, 1) := by decide +kernel
theorem dX9_alike_15 : decode cX9_alike 15 = .ok (.getfield 10, 3) := by decide +kernel
theorem dX9_alike_18 : decode cX9_alike 18 = .ok (.getfield 179, 3) := by decide +kernel
theorem dX9_alike_21 : decode cX9_alike 21 = .ok (.if_icmp .ge 61, 3) := by decide +kernel
theorem dX9_alike_24 : decode cX9_alike 24 = .ok (.aload_n 0, 1) := by decide +kernel
theorem dX9_alike_25 : decode cX9_alike 25 = .ok (.getfield 10, 3) := by decide +kernel
theorem dX9_alike_28 : decode cX9_alike 28 = .ok (.iload_n 3, 1) := by decide +kernel
theorem dX9_alike_29 : decode cX9_alike 29 = .ok (.invokevirtual 117, 3) := by decide +kernel
theorem dX9_alike_32 : decode cX9_alike 32 = .ok (.astore 4, 2) := by decide +kernel
theorem dX9_alike_34 : decode cX9_alike 34 = .ok (.aload 4, 2) := by decide +kernel
theorem dX9_alike_36 : decode cX9_alike 36 = .ok (.ifnull 40, 3) := by decide +kernel
theorem dX9_alike_39 : decode cX9_alike 39 = .ok (.aload 4, 2) := by decide +kernel
theorem dX9_alike_41 : decode cX9_alike 41 = .ok (.invokevirtual 154, 3) := by decide +kernel
theorem dX9_alike_44 : decode cX9_alike 44 = .ok (.ifCond .ne 32, 3) := by decide +kernel
theorem dX9_alike_47 : decode cX9_alike 47 = .ok (.aload_n 0, 1) := by decide +kernel
theorem dX9_alike_48 : decode cX9_alike 48 = .ok (.getfield 10, 3) := by decide +kernel
theorem dX9_alike_51 : decode cX9_alike 51 = .ok (.aload 4, 2) := by decide +kernel
theorem dX9_alike_53 : decode cX9_alike 53 = .ok (.iload_n 1, 1) := by decide +kernel
theorem dX9_alike_54 : decode cX9_alike 54 = .ok (.invokevirtual 168, 3) := by decide +kernel
theorem dX9_alike_57 : decode cX9_alike 57 = .ok (.iload_n 1, 1) := by decide +kernel
theorem dX9_alike_58 : decode cX9_alike 58 = .ok (.invokevirtual 216, 3) := by decide +kernel
theorem dX9_alike_61 : decode cX9_alike 61 = .ok (.istore 5, 2) := by decide +kernel
theorem dX9_alike_63 : decode cX9_alike 63 = .ok (.iload 5, 2) := by decide +kernel
theorem dX9_alike_65 : decode cX9_alike 65 = .ok (.iload_n 2, 1) := by decide +kernel
theorem dX9_alike_66 : decode cX9_alike 66 = .ok (.if_icmp .le 8, 3) := by decide +kernel
theorem dX9_alike_69 : decode cX9_alike 69 = .ok (.iload 5, 2) := by decide +kernel
theorem dX9_alike_71 : decode cX9_alike 71 = .ok (.goto 4, 3) := by decide +kernel
theorem dX9_alike_74 : decode cX9_alike 74 = .ok (.iload_n 2, 1) := by decide +kernel
theorem dX9_alike_75 : decode cX9_alike 75 = .ok (.istore_n 2, 1) := by decide +kernel
theorem dX9_alike_76 : decode cX9_alike 76 = .ok (.iinc 3 1, 3) := by decide +kernel
theorem dX9_alike_79 : decode cX9_alike 79 = .ok (.goto (-66), 3) := by decide +kernel
theorem dX9_alike_82 : decode cX9_alike 82 = .ok (.iload_n 2, 1) := by decide +kernel
theorem dX9_alike_83 : decode cX9_alike 83 = .ok (.ireturn, 1) := by decide +kernel
theorem dX9_plan_0 : decode cX9_plan 0 = .ok (.aload_n 0, 1) := by decide +kernel
theorem dX9_plan_1 : decode cX9_plan 1 = .ok (.getfield 10, 3) := by decide +kernel
theorem dX9_plan_4 : decode cX9_plan 4 = .ok (.iload_n 1, 1) := by decide +kernel
theorem dX9_plan_5 : decode cX9_plan 5 = .ok (.invokevirtual 117, 3) := by decide +kernel
theorem dX9_plan_8 : decode cX9_plan 8 = .ok (.astore 4, 2) := by decide +kernel
theorem dX9_plan_10 : decode cX9_plan 10 = .ok (.aload_n 0, 1) := by decide +kernel
theorem dX9_plan_11 : decode cX9_plan 11 = .ok (.getfield 10, 3) := by decide +kernel
theorem dX9_plan_14 : decode cX9_plan 14 = .ok (.iload_n 2, 1) := by decide +kernel
theorem dX9_plan_15 : decode cX9_plan 15 = .ok (.invokevirtual 189, 3) := by decide +kernel
theorem dX9_plan_18 : decode cX9_plan 18 = .ok (.astore 5, 2) := by decide +kernel
theorem dX9_plan_20 : decode cX9_plan 20 = .ok (.aload 4, 2) := by decide +kernel
theorem dX9_plan_22 : decode cX9_plan 22 = .ok (.ifnull 13, 3) := by decide +kernel
theorem dX9_plan_25 : decode cX9_plan 25 = .ok (.aload 5, 2) := by decide +kernel
theorem dX9_plan_27 : decode cX9_plan 27 = .ok (.ifnull 8, 3) := by decide +kernel
theorem dX9_plan_30 : decode cX9_plan 30 = .ok (.iload_n 3, 1) := by decide +kernel
theorem dX9_plan_31 : decode cX9_plan 31 = .ok (.iconst (-1), 1) := by decide +kernel
theorem dX9_plan_32 : decode cX9_plan 32 = .ok (.if_icmp .ge 5, 3) := by decide +kernel
theorem dX9_plan_35 : decode cX9_plan 35 = .ok (.iconst (-1), 1) := by decide +kernel
theorem dX9_plan_36 : decode cX9_plan 36 = .ok (.ireturn, 1) := by decide +kernel
theorem dX9_plan_37 : decode cX9_plan 37 = .ok (.aload 4, 2) := by decide +kernel
theorem dX9_plan_39 : decode cX9_plan 39 = .ok (.invokevirtual 154, 3) := by decide +kernel
theorem dX9_plan_42 : decode cX9_plan 42 = .ok (.ifCond .eq 6, 3) := by decide +kernel
theorem dX9_plan_45 : decode cX9_plan 45 = .ok (.bipush (-2), 2) := by decide +kernel
theorem dX9_plan_47 : decode cX9_plan 47 = .ok (.ireturn, 1) := by decide +kernel
theorem dX9_plan_48 : decode cX9_plan 48 = .ok (.aload_n 0, 1) := by decide +kernel
theorem dX9_plan_49 : decode cX9_plan 49 = .ok (.getfield 16, 3) := by decide +kernel
theorem dX9_plan_52 : decode cX9_plan 52 = .ok (.aload_n 0, 1) := by decide +kernel
theorem dX9_plan_53 : decode cX9_plan 53 = .ok (.getfield 10, 3) := by decide +kernel
theorem dX9_plan_56 : decode cX9_plan 56 = .ok (.invokevirtual 219, 3) := by decide +kernel
theorem dX9_plan_59 : decode cX9_plan 59 = .ok (.aload_n 0, 1) := by decide +kernel
theorem dX9_plan_60 : decode cX9_plan 60 = .ok (.getfield 43, 3) := by decide +kernel
theorem dX9_plan_63 : decode cX9_plan 63 = .ok (.aload_n 0, 1) := by decide +kernel
theorem dX9_plan_64 : decode cX9_plan 64 = .ok (.getfield 16, 3) := by decide +kernel
theorem dX9_plan_67 : decode cX9_plan 67 = .ok (.aload 4, 2) := by decide +kernel
theorem dX9_plan_69 : decode cX9_plan 69 = .ok (.aload 5, 2) := by decide +kernel
theorem dX9_plan_71 : decode cX9_plan 71 = .ok (.invokevirtual 222, 3) := by decide +kernel
theorem dX9_plan_74 : decode cX9_plan 74 = .ok (.istore 6, 2) := by decide +kernel
theorem dX9_plan_76 : decode cX9_plan 76 = .ok (.iload 6, 2) := by decide +kernel
theorem dX9_plan_78 : decode cX9_plan 78 = .ok (.ifCond .lt 9, 3) := by decide +kernel
theorem dX9_plan_81 : decode cX9_plan 81 = .ok (.iload_n 3, 1) := by decide +kernel
theorem dX9_plan_82 : decode cX9_plan 82 = .ok (.iload 6, 2) := by decide +kernel
theorem dX9_plan_84 : decode cX9_plan 84 = .ok (.if_icmp .lt 6, 3) := by decide +kernel
theorem dX9_plan_87 : decode cX9_plan 87 = .ok (.bipush (-4), 2) := by decide +kernel
theorem dX9_plan_89 : decode cX9_plan 89 = .ok (.ireturn, 1) := by decide +kernel
theorem dX9_plan_90 : decode cX9_plan 90 = .ok (.iload_n 3, 1) := by decide +kernel
theorem dX9_plan_91 : decode cX9_plan 91 = .ok (.ifCond .ge 8, 3) := by decide +kernel
theorem dX9_plan_94 : decode cX9_plan 94 = .ok (.iload 6, 2) := by decide +kernel
theorem dX9_plan_96 : decode cX9_plan 96 = .ok (.goto 11, 3) := by decide +kernel
theorem dX9_plan_99 : decode cX9_plan 99 = .ok (.aload_n 0, 1) := by decide +kernel
theorem dX9_plan_100 : decode cX9_plan 100 = .ok (.getfield 43, 3) := by decide +kernel
theorem dX9_plan_103 : decode cX9_plan 103 = .ok (.iload_n 3, 1) := by decide +kernel
theorem dX9_plan_104 : decode cX9_plan 104 = .ok (.invokevirtual 226, 3) := by decide +kernel
theorem dX9_plan_107 : decode cX9_plan 107 = .ok (.ireturn, 1) := by decide +kernel
theorem dX9_takes_0 : decode cX9_takes 0 = .ok (.aload_n 0, 1) := by decide +kernel
theorem dX9_takes_1 : decode cX9_takes 1 = .ok (.getfield 10, 3) := by decide +kernel
theorem dX9_takes_4 : decode cX9_takes 4 = .ok (.iload_n 1, 1) := by decide +kernel
theorem dX9_takes_5 : decode cX9_takes 5 = .ok (.invokevirtual 117, 3) := by decide +kernel
theorem dX9_takes_8 : decode cX9_takes 8 = .ok (.astore 4, 2) := by decide +kernel
theorem dX9_takes_10 : decode cX9_takes 10 = .ok (.aload_n 0, 1) := by decide +kernel
theorem dX9_takes_11 : decode cX9_takes 11 = .ok (.getfield 10, 3) := by decide +kernel
theorem dX9_takes_14 : decode cX9_takes 14 = .ok (.iload_n 2, 1) := by decide +kernel
theorem dX9_takes_15 : decode cX9_takes 15 = .ok (.invokevirtual 65, 3) := by decide +kernel
theorem dX9_takes_18 : decode cX9_takes 18 = .ok (.astore 5, 2) := by decide +kernel
theorem dX9_takes_20 : decode cX9_takes 20 = .ok (.aload 4, 2) := by decide +kernel
theorem dX9_takes_22 : decode cX9_takes 22 = .ok (.ifnull 19, 3) := by decide +kernel
theorem dX9_takes_25 : decode cX9_takes 25 = .ok (.aload 5, 2) := by decide +kernel
theorem dX9_takes_27 : decode cX9_takes 27 = .ok (.ifnull 14, 3) := by decide +kernel
theorem dX9_takes_30 : decode cX9_takes 30 = .ok (.iload_n 3, 1) := by decide +kernel
theorem dX9_takes_31 : decode cX9_takes 31 = .ok (.iconst 1, 1) := by decide +kernel
theorem dX9_takes_32 : decode cX9_takes 32 = .ok (.if_icmp .lt 9, 3) := by decide +kernel
theorem dX9_takes_35 : decode cX9_takes 35 = .ok (.iload_n 3, 1) := by decide +kernel
theorem dX9_takes_36 : decode cX9_takes 36 = .ok (.bipush 30, 2) := by decide +kernel
theorem dX9_takes_38 : decode cX9_takes 38 = .ok (.if_icmp .le 5, 3) := by decide +kernel
theorem dX9_takes_41 : decode cX9_takes 41 = .ok (.iconst (-1), 1) := by decide +kernel
theorem dX9_takes_42 : decode cX9_takes 42 = .ok (.ireturn, 1) := by decide +kernel
theorem dX9_takes_43 : decode cX9_takes 43 = .ok (.aload 4, 2) := by decide +kernel
theorem dX9_takes_45 : decode cX9_takes 45 = .ok (.invokevirtual 154, 3) := by decide +kernel
theorem dX9_takes_48 : decode cX9_takes 48 = .ok (.ifCond .eq 6, 3) := by decide +kernel
theorem dX9_takes_51 : decode cX9_takes 51 = .ok (.bipush (-2), 2) := by decide +kernel
theorem dX9_takes_53 : decode cX9_takes 53 = .ok (.ireturn, 1) := by decide +kernel
theorem dX9_takes_54 : decode cX9_takes 54 = .ok (.aload 5, 2) := by decide +kernel
theorem dX9_takes_56 : decode cX9_takes 56 = .ok (.getfield 78, 3) := by decide +kernel
theorem dX9_takes_59 : decode cX9_takes 59 = .ok (.istore 6, 2) := by decide +kernel
theorem dX9_takes_61 : decode cX9_takes 61 = .ok (.iconst 0, 1) := by decide +kernel
theorem dX9_takes_62 : decode cX9_takes 62 = .ok (.istore 7, 2) := by decide +kernel
theorem dX9_takes_64 : decode cX9_takes 64 = .ok (.iload 7, 2) := by decide +kernel
theorem dX9_takes_66 : decode cX9_takes 66 = .ok (.iload_n 3, 1) := by decide +kernel
theorem dX9_takes_67 : decode cX9_takes 67 = .ok (.if_icmp .ge 33, 3) := by decide +kernel
theorem dX9_takes_70 : decode cX9_takes 70 = .ok (.iload 6, 2) := by decide +kernel
theorem dX9_takes_72 : decode cX9_takes 72 = .ok (.aload 4, 2) := by decide +kernel
theorem dX9_takes_74 : decode cX9_takes 74 = .ok (.iload 6, 2) := by decide +kernel
theorem dX9_takes_76 : decode cX9_takes 76 = .ok (.aload 5, 2) := by decide +kernel
theorem dX9_takes_78 : decode cX9_takes 78 = .ok (.getfield 75, 3) := by decide +kernel
theorem dX9_takes_81 : decode cX9_takes 81 = .ok (.aload_n 0, 1) := by decide +kernel
theorem dX9_takes_82 : decode cX9_takes 82 = .ok (.getfield 10, 3) := by decide +kernel
theorem dX9_takes_85 : decode cX9_takes 85 = .ok (.getfield 84, 3) := by decide +kernel
theorem dX9_takes_88 : decode cX9_takes 88 = .ok (.invokevirtual 229, 3) := by decide +kernel
theorem dX9_takes_91 : decode cX9_takes 91 = .ok (.isub, 1) := by decide +kernel
theorem dX9_takes_92 : decode cX9_takes 92 = .ok (.istore 6, 2) := by decide +kernel
theorem dX9_takes_94 : decode cX9_takes 94 = .ok (.iinc 7 1, 3) := by decide +kernel
theorem dX9_takes_97 : decode cX9_takes 97 = .ok (.goto (-33), 3) := by decide +kernel
theorem dX9_takes_100 : decode cX9_takes 100 = .ok (.aload 5, 2) := by decide +kernel
theorem dX9_takes_102 : decode cX9_takes 102 = .ok (.getfield 78, 3) := by decide +kernel
theorem dX9_takes_105 : decode cX9_takes 105 = .ok (.iload 6, 2) := by decide +kernel
theorem dX9_takes_107 : decode cX9_takes 107 = .ok (.isub, 1) := by decide +kernel
theorem dX9_takes_108 : decode cX9_takes 108 = .ok (.ireturn, 1) := by decide +kernel
theorem dX9_account_0 : decode cX9_account 0 = .ok (.iload_n 1, 1) := by decide +kernel
theorem dX9_account_1 : decode cX9_account 1 = .ok (.invokestatic 164, 3) := by decide +kernel
theorem dX9_account_4 : decode cX9_account 4 = .ok (.ifCond .ne 5, 3) := by decide +kernel
theorem dX9_account_7 : decode cX9_account 7 = .ok (.iconst (-1), 1) := by decide +kernel
theorem dX9_account_8 : decode cX9_account 8 = .ok (.ireturn, 1) := by decide +kernel
theorem dX9_account_9 : decode cX9_account 9 = .ok (.iload_n 2, 1) := by decide +kernel
theorem dX9_account_10 : decode cX9_account 10 = .ok (.tableswitch 98 0 5 #[38, 50, 59, 68, 77, 86], 38) := by decide +kernel
theorem dX9_account_48 : decode cX9_account 48 = .ok (.aload_n 0, 1) := by decide +kernel
theorem dX9_account_49 : decode cX9_account 49 = .ok (.getfield 10, 3) := by decide +kernel
theorem dX9_account_52 : decode cX9_account 52 = .ok (.getfield 233, 3) := by decide +kernel
theorem dX9_account_55 : decode cX9_account 55 = .ok (.iload_n 1, 1) := by decide +kernel
theorem dX9_account_56 : decode cX9_account 56 = .ok (.invokestatic 236, 3) := by decide +kernel
theorem dX9_account_59 : decode cX9_account 59 = .ok (.ireturn, 1) := by decide +kernel
theorem dX9_account_60 : decode cX9_account 60 = .ok (.aload_n 0, 1) := by decide +kernel
theorem dX9_account_61 : decode cX9_account 61 = .ok (.getfield 10, 3) := by decide +kernel
theorem dX9_account_64 : decode cX9_account 64 = .ok (.iload_n 1, 1) := by decide +kernel
theorem dX9_account_65 : decode cX9_account 65 = .ok (.invokevirtual 240, 3) := by decide +kernel
theorem dX9_account_68 : decode cX9_account 68 = .ok (.ireturn, 1) := by decide +kernel
theorem dX9_account_69 : decode cX9_account 69 = .ok (.aload_n 0, 1) := by decide +kernel
theorem dX9_account_70 : decode cX9_account 70 = .ok (.getfield 10, 3) := by decide +kernel
theorem dX9_account_73 : decode cX9_account 73 = .ok (.iload_n 1, 1) := by decide +kernel
theorem dX9_account_74 : decode cX9_account 74 = .ok (.invokevirtual 243, 3) := by decide +kernel
theorem dX9_account_77 : decode cX9_account 77 = .ok (.ireturn, 1) := by decide +kernel
theorem dX9_account_78 : decode cX9_account 78 = .ok (.aload_n 0, 1) := by decide +kernel
theorem dX9_account_79 : decode cX9_account 79 = .ok (.getfield 10, 3) := by decide +kernel
theorem dX9_account_82 : decode cX9_account 82 = .ok (.iload_n 1, 1) := by decide +kernel
theorem dX9_account_83 : decode cX9_account 83 = .ok (.invokevirtual 246, 3) := by decide +kernel
theorem dX9_account_86 : decode cX9_account 86 = .ok (.ireturn, 1) := by decide +kernel
theorem dX9_account_87 : decode cX9_account 87 = .ok (.aload_n 0, 1) := by decide +kernel
theorem dX9_account_88 : decode cX9_account 88 = .ok (.getfield 10, 3) := by decide +kernel
theorem dX9_account_91 : decode cX9_account 91 = .ok (.iload_n 1, 1) := by decide +kernel
theorem dX9_account_92 : decode cX9_account 92 = .ok (.invokevirtual 249, 3) := by decide +kernel
theorem dX9_account_95 : decode cX9_account 95 = .ok (.ireturn, 1) := by decide +kernel
theorem dX9_account_96 : decode cX9_account 96 = .ok (.aload_n 0, 1) := by decide +kernel
theorem dX9_account_97 : decode cX9_account 97 = .ok (.getfield 10, 3) := by decide +kernel
theorem dX9_account_100 : decode cX9_account 100 = .ok (.getfield 252, 3) := by decide +kernel
theorem dX9_account_103 : decode cX9_account 103 = .ok (.iload_n 1, 1) := by decide +kernel
theorem dX9_account_104 : decode cX9_account 104 = .ok (.invokestatic 236, 3) := by decide +kernel
theorem dX9_account_107 : decode cX9_account 107 = .ok (.ireturn, 1) := by decide +kernel
theorem dX9_account_108 : decode cX9_account 108 = .ok (.iconst (-1), 1) := by decide +kernel
theorem dX9_account_109 : decode cX9_account 109 = .ok (.ireturn, 1) := by decide +kernel
theorem dX9_count_0 : decode cX9_count 0 = .ok (.iload_n 1, 1) := by decide +kernel
theorem dX9_count_1 : decode cX9_count 1 = .ok (.bipush 20, 2) := by decide +kernel
theorem dX9_count_3 : decode cX9_count 3 = .ok (.if_icmp .lt 28, 3) := by decide +kernel
theorem dX9_count_6 : decode cX9_count 6 = .ok (.iload_n 1, 1) := by decide +kernel
theorem dX9_count_7 : decode cX9_count 7 = .ok (.bipush 20, 2) := by decide +kernel
theorem dX9_count_9 : decode cX9_count 9 = .ok (.isub, 1) := by decide +kernel
theorem dX9_count_10 : decode cX9_count 10 = .ok (.invokestatic 255, 3) := by decide +kernel
theorem dX9_count_13 : decode cX9_count 13 = .ok (.ifCond .eq 18, 3) := by decide +kernel
theorem dX9_count_16 : decode cX9_count 16 = .ok (.aload_n 0, 1) := by decide +kernel
theorem dX9_count_17 : decode cX9_count 17 = .ok (.getfield 10, 3) := by decide +kernel
theorem dX9_count_20 : decode cX9_count 20 = .ok (.getfield 84, 3) := by decide +kernel
theorem dX9_count_23 : decode cX9_count 23 = .ok (.iload_n 1, 1) := by decide +kernel
theorem dX9_count_24 : decode cX9_count 24 = .ok (.bipush 20, 2) := by decide +kernel
theorem dX9_count_26 : decode cX9_count 26 = .ok (.isub, 1) := by decide +kernel
theorem dX9_count_27 : decode cX9_count 27 = .ok (.invokevirtual 210, 3) := by decide +kernel
theorem dX9_count_30 : decode cX9_count 30 = .ok (.ireturn, 1) := by decide +kernel
theorem dX9_count_31 : decode cX9_count 31 = .ok (.iload_n 1, 1) := by decide +kernel
theorem dX9_count_32 : decode cX9_count 32 = .ok (.tableswitch 129 0 11 #[64, 72, 80, 80, 80, 80, 80, 89, 97, 105, 113, 121], 64) := by decide +kernel
theorem dX9_count_96 : decode cX9_count 96 = .ok (.aload_n 0, 1) := by decide +kernel
theorem dX9_count_97 : decode cX9_count 97 = .ok (.getfield 10, 3) := by decide +kernel
theorem dX9_count_100 : decode cX9_count 100 = .ok (.getfield 96, 3) := by decide +kernel
theorem dX9_count_103 : decode cX9_count 103 = .ok (.ireturn, 1) := by decide +kernel
theorem dX9_count_104 : decode cX9_count 104 = .ok (.aload_n 0, 1) := by decide +kernel
theorem dX9_count_105 : decode cX9_count 105 = .ok (.getfield 10, 3) := by decide +kernel
theorem dX9_count_108 : decode cX9_count 108 = .ok (.getfield 179, 3) := by decide +kernel
theorem dX9_count_111 : decode cX9_count 111 = .ok (.ireturn, 1) := by decide +kernel
theorem dX9_count_112 : decode cX9_count 112 = .ok (.aload_n 0, 1) := by decide +kernel
theorem dX9_count_113 : decode cX9_count 113 = .ok (.getfield 10, 3) := by decide +kernel
theorem dX9_count_116 : decode cX9_count 116 = .ok (.iload_n 1, 1) := by decide +kernel
theorem dX9_count_117 : decode cX9_count 117 = .ok (.invokevirtual 258, 3) := by decide +kernel
theorem dX9_count_120 : decode cX9_count 120 = .ok (.ireturn, 1) := by decide +kernel
theorem dX9_count_121 : decode cX9_count 121 = .ok (.aload_n 0, 1) := by decide +kernel
theorem dX9_count_122 : decode cX9_count 122 = .ok (.getfield 10, 3) := by decide +kernel
theorem dX9_count_125 : decode cX9_count 125 = .ok (.getfield 261, 3) := by decide +kernel
theorem dX9_count_128 : decode cX9_count 128 = .ok (.ireturn, 1) := by decide +kernel
theorem dX9_count_129 : decode cX9_count 129 = .ok (.aload_n 0, 1) := by decide +kernel
theorem dX9_count_130 : decode cX9_count 130 = .ok (.getfield 10, 3) := by decide +kernel
theorem dX9_count_133 : decode cX9_count 133 = .ok (.invokevirtual 264, 3) := by decide +kernel
theorem dX9_count_136 : decode cX9_count 136 = .ok (.ireturn, 1) := by decide +kernel
theorem dX9_count_137 : decode cX9_count 137 = .ok (.aload_n 0, 1) := by decide +kernel
theorem dX9_count_138 : decode cX9_count 138 = .ok (.getfield 10, 3) := by decide +kernel
theorem dX9_count_141 : decode cX9_count 141 = .ok (.getfield 267, 3) := by decide +kernel
theorem dX9_count_144 : decode cX9_count 144 = .ok (.ireturn, 1) := by decide +kernel
theorem dX9_count_145 : decode cX9_count 145 = .ok (.aload_n 0, 1) := by decide +kernel
theorem dX9_count_146 : decode cX9_count 146 = .ok (.getfield 22, 3) := by decide +kernel
theorem dX9_count_149 : decode cX9_count 149 = .ok (.getfield 268, 3) := by decide +kernel
theorem dX9_count_152 : decode cX9_count 152 = .ok (.ireturn, 1) := by decide +kernel
theorem dX9_count_153 : decode cX9_count 153 = .ok (.aload_n 0, 1) := by decide +kernel
theorem dX9_count_154 : decode cX9_count 154 = .ok (.getfield 29, 3) := by decide +kernel
theorem dX9_count_157 : decode cX9_count 157 = .ok (.getfield 271, 3) := by decide +kernel
theorem dX9_count_160 : decode cX9_count 160 = .ok (.ireturn, 1) := by decide +kernel
theorem dX9_count_161 : decode cX9_count 161 = .ok (.iconst (-1), 1) := by decide +kernel
theorem dX9_count_162 : decode cX9_count 162 = .ok (.ireturn, 1) := by decide +kernel
theorem dX9_set_0 : decode cX9_set 0 = .ok (.aload_n 0, 1) := by decide +kernel
theorem dX9_set_1 : decode cX9_set 1 = .ok (.getfield 22, 3) := by decide +kernel
theorem dX9_set_4 : decode cX9_set 4 = .ok (.aload_n 0, 1) := by decide +kernel
theorem dX9_set_5 : decode cX9_set 5 = .ok (.getfield 10, 3) := by decide +kernel
theorem dX9_set_8 : decode cX9_set 8 = .ok (.invokevirtual 47, 3) := by decide +kernel
theorem dX9_set_11 : decode cX9_set 11 = .ok (.aload_n 0, 1) := by decide +kernel
theorem dX9_set_12 : decode cX9_set 12 = .ok (.getfield 22, 3) := by decide +kernel
theorem dX9_set_15 : decode cX9_set 15 = .ok (.aload_n 0, 1) := by decide +kernel
theorem dX9_set_16 : decode cX9_set 16 = .ok (.getfield 10, 3) := by decide +kernel
theorem dX9_set_19 : decode cX9_set 19 = .ok (.getfield 84, 3) := by decide +kernel
theorem dX9_set_22 : decode cX9_set 22 = .ok (.iload_n 1, 1) := by decide +kernel
theorem dX9_set_23 : decode cX9_set 23 = .ok (.iload_n 2, 1) := by decide +kernel
theorem dX9_set_24 : decode cX9_set 24 = .ok (.invokevirtual 274, 3) := by decide +kernel
theorem dX9_set_27 : decode cX9_set 27 = .ok (.invokevirtual 55, 3) := by decide +kernel
theorem dX9_set_30 : decode cX9_set 30 = .ok (.ireturn, 1) := by decide +kernel
theorem dX9_undo_0 : decode cX9_undo 0 = .ok (.aload_n 0, 1) := by decide +kernel
theorem dX9_undo_1 : decode cX9_undo 1 = .ok (.getfield 22, 3) := by decide +kernel
theorem dX9_undo_4 : decode cX9_undo 4 = .ok (.aload_n 0, 1) := by decide +kernel
theorem dX9_undo_5 : decode cX9_undo 5 = .ok (.getfield 10, 3) := by decide +kernel
theorem dX9_undo_8 : decode cX9_undo 8 = .ok (.invokevirtual 277, 3) := by decide +kernel
theorem dX9_undo_11 : decode cX9_undo 11 = .ok (.ireturn, 1) := by decide +kernel
theorem dX9_type_0 : decode cX9_type 0 = .ok (.aload_n 0, 1) := by decide +kernel
theorem dX9_type_1 : decode cX9_type 1 = .ok (.getfield 29, 3) := by decide +kernel
theorem dX9_type_4 : decode cX9_type 4 = .ok (.iload_n 1, 1) := by decide +kernel
theorem dX9_type_5 : decode cX9_type 5 = .ok (.invokevirtual 281, 3) := by decide +kernel
theorem dX9_type_8 : decode cX9_type 8 = .ok (.ireturn, 1) := by decide +kernel
theorem dX9_clearText_0 : decode cX9_clearText 0 = .ok (.aload_n 0, 1) := by decide +kernel
theorem dX9_clearText_1 : decode cX9_clearText 1 = .ok (.getfield 29, 3) := by decide +kernel
theorem dX9_clearText_4 : decode cX9_clearText 4 = .ok (.invokevirtual 284, 3) := by decide +kernel
theorem dX9_clearText_7 : decode cX9_clearText 7 = .ok (.ireturn, 1) := by decide +kernel
theorem dX9_fault_0 : decode cX9_fault 0 = .ok (.iload_n 1, 1) := by decide +kernel
theorem dX9_fault_1 : decode cX9_fault 1 = .ok (.ifCond .lt 8, 3) := by decide +kernel
theorem dX9_fault_4 : decode cX9_fault 4 = .ok (.iload_n 1, 1) := by decide +kernel
theorem dX9_fault_5 : decode cX9_fault 5 = .ok (.iconst 2, 1) := by decide +kernel
theorem dX9_fault_6 : decode cX9_fault 6 = .ok (.if_icmp .le 5, 3) := by decide +kernel
theorem dX9_fault_9 : decode cX9_fault 9 = .ok (.iconst (-1), 1) := by decide +kernel
theorem dX9_fault_10 : decode cX9_fault 10 = .ok (.ireturn, 1) := by decide +kernel
theorem dX9_fault_11 : decode cX9_fault 11 = .ok (.aload_n 0, 1) := by decide +kernel
theorem dX9_fault_12 : decode cX9_fault 12 = .ok (.getfield 16, 3) := by decide +kernel
theorem dX9_fault_15 : decode cX9_fault 15 = .ok (.aload_n 0, 1) := by decide +kernel
theorem dX9_fault_16 : decode cX9_fault 16 = .ok (.getfield 10, 3) := by decide +kernel
theorem dX9_fault_19 : decode cX9_fault 19 = .ok (.invokevirtual 219, 3) := by decide +kernel
theorem dX9_fault_22 : decode cX9_fault 22 = .ok (.aload_n 0, 1) := by decide +kernel
theorem dX9_fault_23 : decode cX9_fault 23 = .ok (.getfield 36, 3) := by decide +kernel
theorem dX9_fault_26 : decode cX9_fault 26 = .ok (.aload_n 0, 1) := by decide +kernel
theorem dX9_fault_27 : decode cX9_fault 27 = .ok (.getfield 29, 3) := by decide +kernel
theorem dX9_fault_30 : decode cX9_fault 30 = .ok (.aload_n 0, 1) := by decide +kernel
theorem dX9_fault_31 : decode cX9_fault 31 = .ok (.getfield 16, 3) := by decide +kernel
theorem dX9_fault_34 : decode cX9_fault 34 = .ok (.invokevirtual 287, 3) := by decide +kernel
theorem dX9_fault_37 : decode cX9_fault 37 = .ok (.aload_n 0, 1) := by decide +kernel
theorem dX9_fault_38 : decode cX9_fault 38 = .ok (.getfield 36, 3) := by decide +kernel
theorem dX9_fault_41 : decode cX9_fault 41 = .ok (.invokevirtual 291, 3) := by decide +kernel
theorem dX9_fault_44 : decode cX9_fault 44 = .ok (.ifCond .ne 6, 3) := by decide +kernel
theorem dX9_fault_47 : decode cX9_fault 47 = .ok (.bipush (-4), 2) := by decide +kernel
theorem dX9_fault_49 : decode cX9_fault 49 = .ok (.ireturn, 1) := by decide +kernel
theorem dX9_fault_50 : decode cX9_fault 50 = .ok (.iload_n 1, 1) := by decide +kernel
theorem dX9_fault_51 : decode cX9_fault 51 = .ok (.lookupswitch 41 #[(0, 25), (1, 33)], 25) := by decide +kernel
theorem dX9_fault_76 : decode cX9_fault 76 = .ok (.aload_n 0, 1) := by decide +kernel
theorem dX9_fault_77 : decode cX9_fault 77 = .ok (.getfield 36, 3) := by decide +kernel
theorem dX9_fault_80 : decode cX9_fault 80 = .ok (.getfield 294, 3) := by decide +kernel
theorem dX9_fault_83 : decode cX9_fault 83 = .ok (.ireturn, 1) := by decide +kernel
theorem dX9_fault_84 : decode cX9_fault 84 = .ok (.aload_n 0, 1) := by decide +kernel
theorem dX9_fault_85 : decode cX9_fault 85 = .ok (.getfield 36, 3) := by decide +kernel
theorem dX9_fault_88 : decode cX9_fault 88 = .ok (.getfield 297, 3) := by decide +kernel
theorem dX9_fault_91 : decode cX9_fault 91 = .ok (.ireturn, 1) := by decide +kernel
theorem dX9_fault_92 : decode cX9_fault 92 = .ok (.aload_n 0, 1) := by decide +kernel
theorem dX9_fault_93 : decode cX9_fault 93 = .ok (.getfield 36, 3) := by decide +kernel
theorem dX9_fault_96 : decode cX9_fault 96 = .ok (.getfield 297, 3) := by decide +kernel
theorem dX9_fault_99 : decode cX9_fault 99 = .ok (.iconst 1, 1) := by decide +kernel
theorem dX9_fault_100 : decode cX9_fault 100 = .ok (.if_icmp .ne 8, 3) := by decide +kernel
theorem dX9_fault_103 : decode cX9_fault 103 = .ok (.bipush (-4), 2) := by decide +kernel
theorem dX9_fault_105 : decode cX9_fault 105 = .ok (.goto 10, 3) := by decide +kernel
theorem dX9_fault_108 : decode cX9_fault 108 = .ok (.aload_n 0, 1) := by decide +kernel
theorem dX9_fault_109 : decode cX9_fault 109 = .ok (.getfield 36, 3) := by decide +kernel
theorem dX9_fault_112 : decode cX9_fault 112 = .ok (.getfield 300, 3) := by decide +kernel
theorem dX9_fault_115 : decode cX9_fault 115 = .ok (.ireturn, 1) := by decide +kernel
theorem dX9_play_0 : decode cX9_play 0 = .ok (.aload_n 0, 1) := by decide +kernel
theorem dX9_play_1 : decode cX9_play 1 = .ok (.getfield 16, 3) := by decide +kernel
theorem dX9_play_4 : decode cX9_play 4 = .ok (.aload_n 0, 1) := by decide +kernel
theorem dX9_play_5 : decode cX9_play 5 = .ok (.getfield 10, 3) := by decide +kernel
theorem dX9_play_8 : decode cX9_play 8 = .ok (.invokevirtual 219, 3) := by decide +kernel
theorem dX9_play_11 : decode cX9_play 11 = .ok (.aload_n 0, 1) := by decide +kernel
theorem dX9_play_12 : decode cX9_play 12 = .ok (.getfield 36, 3) := by decide +kernel
theorem dX9_play_15 : decode cX9_play 15 = .ok (.aload_n 0, 1) := by decide +kernel
theorem dX9_play_16 : decode cX9_play 16 = .ok (.getfield 29, 3) := by decide +kernel
theorem dX9_play_19 : decode cX9_play 19 = .ok (.aload_n 0, 1) := by decide +kernel
theorem dX9_play_20 : decode cX9_play 20 = .ok (.getfield 16, 3) := by decide +kernel
theorem dX9_play_23 : decode cX9_play 23 = .ok (.invokevirtual 287, 3) := by decide +kernel
theorem dX9_play_26 : decode cX9_play 26 = .ok (.aload_n 0, 1) := by decide +kernel
theorem dX9_play_27 : decode cX9_play 27 = .ok (.getfield 36, 3) := by decide +kernel
theorem dX9_play_30 : decode cX9_play 30 = .ok (.invokevirtual 291, 3) := by decide +kernel
theorem dX9_play_33 : decode cX9_play 33 = .ok (.ifCond .eq 6, 3) := by decide +kernel
theorem dX9_play_36 : decode cX9_play 36 = .ok (.bipush (-2), 2) := by decide +kernel
theorem dX9_play_38 : decode cX9_play 38 = .ok (.ireturn, 1) := by decide +kernel
theorem dX9_play_39 : decode cX9_play 39 = .ok (.aload_n 0, 1) := by decide +kernel
theorem dX9_play_40 : decode cX9_play 40 = .ok (.getfield 22, 3) := by decide +kernel
theorem dX9_play_43 : decode cX9_play 43 = .ok (.aload_n 0, 1) := by decide +kernel
theorem dX9_play_44 : decode cX9_play 44 = .ok (.getfield 10, 3) := by decide +kernel
theorem dX9_play_47 : decode cX9_play 47 = .ok (.invokevirtual 47, 3) := by decide +kernel
theorem dX9_play_50 : decode cX9_play 50 = .ok (.aload_n 0, 1) := by decide +kernel
theorem dX9_play_51 : decode cX9_play 51 = .ok (.getfield 10, 3) := by decide +kernel
theorem dX9_play_54 : decode cX9_play 54 = .ok (.aload_n 0, 1) := by decide +kernel
theorem dX9_play_55 : decode cX9_play 55 = .ok (.getfield 16, 3) := by decide +kernel
theorem dX9_play_58 : decode cX9_play 58 = .ok (.invokevirtual 219, 3) := by decide +kernel
theorem dX9_play_61 : decode cX9_play 61 = .ok (.aload_n 0, 1) := by decide +kernel
theorem dX9_play_62 : decode cX9_play 62 = .ok (.getfield 22, 3) := by decide +kernel
theorem dX9_play_65 : decode cX9_play 65 = .ok (.aload_n 0, 1) := by decide +kernel
theorem dX9_play_66 : decode cX9_play 66 = .ok (.getfield 36, 3) := by decide +kernel
theorem dX9_play_69 : decode cX9_play 69 = .ok (.getfield 303, 3) := by decide +kernel
theorem dX9_play_72 : decode cX9_play 72 = .ok (.invokevirtual 55, 3) := by decide +kernel
theorem dX9_play_75 : decode cX9_play 75 = .ok (.ireturn, 1) := by decide +kernel
theorem dX9_isDye_0 : decode cX9_isDye 0 = .ok (.iload_n 0, 1) := by decide +kernel
theorem dX9_isDye_1 : decode cX9_isDye 1 = .ok (.ifCond .lt 12, 3) := by decide +kernel
theorem dX9_isDye_4 : decode cX9_isDye 4 = .ok (.iload_n 0, 1) := by decide +kernel
theorem dX9_isDye_5 : decode cX9_isDye 5 = .ok (.iconst 4, 1) := by decide +kernel
theorem dX9_isDye_6 : decode cX9_isDye 6 = .ok (.if_icmp .ge 7, 3) := by decide +kernel
theorem dX9_isDye_9 : decode cX9_isDye 9 = .ok (.iconst 1, 1) := by decide +kernel
theorem dX9_isDye_10 : decode cX9_isDye 10 = .ok (.goto 4, 3) := by decide +kernel
theorem dX9_isDye_13 : decode cX9_isDye 13 = .ok (.iconst 0, 1) := by decide +kernel
theorem dX9_isDye_14 : decode cX9_isDye 14 = .ok (.ireturn, 1) := by decide +kernel
theorem dX9_oneIf_0 : decode cX9_oneIf 0 = .ok (.iload_n 0, 1) := by decide +kernel
theorem dX9_oneIf_1 : decode cX9_oneIf 1 = .ok (.ifCond .eq 7, 3) := by decide +kernel
theorem dX9_oneIf_4 : decode cX9_oneIf 4 = .ok (.iconst 1, 1) := by decide +kernel
theorem dX9_oneIf_5 : decode cX9_oneIf 5 = .ok (.goto 4, 3) := by decide +kernel
theorem dX9_oneIf_8 : decode cX9_oneIf 8 = .ok (.iconst 0, 1) := by decide +kernel
theorem dX9_oneIf_9 : decode cX9_oneIf 9 = .ok (.ireturn, 1) := by decide +kernel
theorem dX9_distance_0 : decode cX9_distance 0 = .ok (.iload_n 0, 1) := by decide +kernel
theorem dX9_distance_1 : decode cX9_distance 1 = .ok (.iload_n 1, 1) := by decide +kernel
theorem dX9_distance_2 : decode cX9_distance 2 = .ok (.if_icmp .lt 9, 3) := by decide +kernel
theorem dX9_distance_5 : decode cX9_distance 5 = .ok (.iload_n 0, 1) := by decide +kernel
theorem dX9_distance_6 : decode cX9_distance 6 = .ok (.iload_n 1, 1) := by decide +kernel
theorem dX9_distance_7 : decode cX9_distance 7 = .ok (.isub, 1) := by decide +kernel
theorem dX9_distance_8 : decode cX9_distance 8 = .ok (.goto 6, 3) := by decide +kernel
theorem dX9_distance_11 : decode cX9_distance 11 = .ok (.iload_n 1, 1) := by decide +kernel
theorem dX9_distance_12 : decode cX9_distance 12 = .ok (.iload_n 0, 1) := by decide +kernel
theorem dX9_distance_13 : decode cX9_distance 13 = .ok (.isub, 1) := by decide +kernel
theorem dX9_distance_14 : decode cX9_distance 14 = .ok (.ireturn, 1) := by decide +kernel
theorem dX9_cellAt_0 : decode cX9_cellAt 0 = .ok (.iload_n 1, 1) := by decide +kernel
theorem dX9_cellAt_1 : decode cX9_cellAt 1 = .ok (.ifCond .lt 15, 3) := by decide +kernel
theorem dX9_cellAt_4 : decode cX9_cellAt 4 = .ok (.iload_n 1, 1) := by decide +kernel
theorem dX9_cellAt_5 : decode cX9_cellAt 5 = .ok (.aload_n 0, 1) := by decide +kernel
theorem dX9_cellAt_6 : decode cX9_cellAt 6 = .ok (.arraylength, 1) := by decide +kernel
theorem dX9_cellAt_7 : decode cX9_cellAt 7 = .ok (.if_icmp .ge 9, 3) := by decide +kernel
theorem dX9_cellAt_10 : decode cX9_cellAt 10 = .ok (.aload_n 0, 1) := by decide +kernel
theorem dX9_cellAt_11 : decode cX9_cellAt 11 = .ok (.iload_n 1, 1) := by decide +kernel
theorem dX9_cellAt_12 : decode cX9_cellAt 12 = .ok (.iaload, 1) := by decide +kernel
theorem dX9_cellAt_13 : decode cX9_cellAt 13 = .ok (.goto 4, 3) := by decide +kernel
theorem dX9_cellAt_16 : decode cX9_cellAt 16 = .ok (.iconst 0, 1) := by decide +kernel
theorem dX9_cellAt_17 : decode cX9_cellAt 17 = .ok (.ireturn, 1) := by decide +kernel
theorem dX9_putAt_0 : decode cX9_putAt 0 = .ok (.iload_n 1, 1) := by decide +kernel
theorem dX9_putAt_1 : decode cX9_putAt 1 = .ok (.ifCond .lt 13, 3) := by decide +kernel
theorem dX9_putAt_4 : decode cX9_putAt 4 = .ok (.iload_n 1, 1) := by decide +kernel
theorem dX9_putAt_5 : decode cX9_putAt 5 = .ok (.aload_n 0, 1) := by decide +kernel
theorem dX9_putAt_6 : decode cX9_putAt 6 = .ok (.arraylength, 1) := by decide +kernel
theorem dX9_putAt_7 : decode cX9_putAt 7 = .ok (.if_icmp .ge 7, 3) := by decide +kernel
theorem dX9_putAt_10 : decode cX9_putAt 10 = .ok (.aload_n 0, 1) := by decide +kernel
theorem dX9_putAt_11 : decode cX9_putAt 11 = .ok (.iload_n 1, 1) := by decide +kernel
theorem dX9_putAt_12 : decode cX9_putAt 12 = .ok (.iload_n 2, 1) := by decide +kernel
theorem dX9_putAt_13 : decode cX9_putAt 13 = .ok (.iastore, 1) := by decide +kernel
theorem dX9_putAt_14 : decode cX9_putAt 14 = .ok (.return_, 1) := by decide +kernel
theorem dX9_addTo_0 : decode cX9_addTo 0 = .ok (.iload_n 1, 1) := by decide +kernel
theorem dX9_addTo_1 : decode cX9_addTo 1 = .ok (.ifCond .lt 16, 3) := by decide +kernel
theorem dX9_addTo_4 : decode cX9_addTo 4 = .ok (.iload_n 1, 1) := by decide +kernel
theorem dX9_addTo_5 : decode cX9_addTo 5 = .ok (.aload_n 0, 1) := by decide +kernel
theorem dX9_addTo_6 : decode cX9_addTo 6 = .ok (.arraylength, 1) := by decide +kernel
theorem dX9_addTo_7 : decode cX9_addTo 7 = .ok (.if_icmp .ge 10, 3) := by decide +kernel
theorem dX9_addTo_10 : decode cX9_addTo 10 = .ok (.aload_n 0, 1) := by decide +kernel
theorem dX9_addTo_11 : decode cX9_addTo 11 = .ok (.iload_n 1, 1) := by decide +kernel
theorem dX9_addTo_12 : decode cX9_addTo 12 = .ok (.dup2, 1) := by decide +kernel
theorem dX9_addTo_13 : decode cX9_addTo 13 = .ok (.iaload, 1) := by decide +kernel
theorem dX9_addTo_14 : decode cX9_addTo 14 = .ok (.iload_n 2, 1) := by decide +kernel
theorem dX9_addTo_15 : decode cX9_addTo 15 = .ok (.iadd, 1) := by decide +kernel
theorem dX9_addTo_16 : decode cX9_addTo 16 = .ok (.iastore, 1) := by decide +kernel
theorem dX9_addTo_17 : decode cX9_addTo 17 = .ok (.return_, 1) := by decide +kernel
theorem dX9_sumOf_0 : decode cX9_sumOf 0 = .ok (.iconst 0, 1) := by decide +kernel
theorem dX9_sumOf_1 : decode cX9_sumOf 1 = .ok (.istore_n 1, 1) := by decide +kernel
theorem dX9_sumOf_2 : decode cX9_sumOf 2 = .ok (.iconst 0, 1) := by decide +kernel
theorem dX9_sumOf_3 : decode cX9_sumOf 3 = .ok (.istore_n 2, 1) := by decide +kernel
theorem dX9_sumOf_4 : decode cX9_sumOf 4 = .ok (.iload_n 2, 1) := by decide +kernel
theorem dX9_sumOf_5 : decode cX9_sumOf 5 = .ok (.aload_n 0, 1) := by decide +kernel
theorem dX9_sumOf_6 : decode cX9_sumOf 6 = .ok (.arraylength, 1) := by decide +kernel
theorem dX9_sumOf_7 : decode cX9_sumOf 7 = .ok (.if_icmp .ge 15, 3) := by decide +kernel
theorem dX9_sumOf_10 : decode cX9_sumOf 10 = .ok (.iload_n 1, 1) := by decide +kernel
theorem dX9_sumOf_11 : decode cX9_sumOf 11 = .ok (.aload_n 0, 1) := by decide +kernel
theorem dX9_sumOf_12 : decode cX9_sumOf 12 = .ok (.iload_n 2, 1) := by decide +kernel
theorem dX9_sumOf_13 : decode cX9_sumOf 13 = .ok (.iaload, 1) := by decide +kernel
theorem dX9_sumOf_14 : decode cX9_sumOf 14 = .ok (.iadd, 1) := by decide +kernel
theorem dX9_sumOf_15 : decode cX9_sumOf 15 = .ok (.istore_n 1, 1) := by decide +kernel
theorem dX9_sumOf_16 : decode cX9_sumOf 16 = .ok (.iinc 2 1, 3) := by decide +kernel
theorem dX9_sumOf_19 : decode cX9_sumOf 19 = .ok (.goto (-15), 3) := by decide +kernel
theorem dX9_sumOf_22 : decode cX9_sumOf 22 = .ok (.iload_n 1, 1) := by decide +kernel
theorem dX9_sumOf_23 : decode cX9_sumOf 23 = .ok (.ireturn, 1) := by decide +kernel
theorem dX9_copyRow_0 : decode cX9_copyRow 0 = .ok (.iconst 0, 1) := by decide +kernel
theorem dX9_copyRow_1 : decode cX9_copyRow 1 = .ok (.istore_n 2, 1) := by decide +kernel
theorem dX9_copyRow_2 : decode cX9_copyRow 2 = .ok (.iload_n 2, 1) := by decide +kernel
theorem dX9_copyRow_3 : decode cX9_copyRow 3 = .ok (.aload_n 0, 1) := by decide +kernel
theorem dX9_copyRow_4 : decode cX9_copyRow 4 = .ok (.arraylength, 1) := by decide +kernel
theorem dX9_copyRow_5 : decode cX9_copyRow 5 = .ok (.if_icmp .ge 21, 3) := by decide +kernel
theorem dX9_copyRow_8 : decode cX9_copyRow 8 = .ok (.iload_n 2, 1) := by decide +kernel
theorem dX9_copyRow_9 : decode cX9_copyRow 9 = .ok (.aload_n 1, 1) := by decide +kernel
theorem dX9_copyRow_10 : decode cX9_copyRow 10 = .ok (.arraylength, 1) := by decide +kernel
theorem dX9_copyRow_11 : decode cX9_copyRow 11 = .ok (.if_icmp .ge 15, 3) := by decide +kernel
theorem dX9_copyRow_14 : decode cX9_copyRow 14 = .ok (.aload_n 1, 1) := by decide +kernel
theorem dX9_copyRow_15 : decode cX9_copyRow 15 = .ok (.iload_n 2, 1) := by decide +kernel
theorem dX9_copyRow_16 : decode cX9_copyRow 16 = .ok (.aload_n 0, 1) := by decide +kernel
theorem dX9_copyRow_17 : decode cX9_copyRow 17 = .ok (.iload_n 2, 1) := by decide +kernel
theorem dX9_copyRow_18 : decode cX9_copyRow 18 = .ok (.iaload, 1) := by decide +kernel
theorem dX9_copyRow_19 : decode cX9_copyRow 19 = .ok (.iastore, 1) := by decide +kernel
theorem dX9_copyRow_20 : decode cX9_copyRow 20 = .ok (.iinc 2 1, 3) := by decide +kernel
theorem dX9_copyRow_23 : decode cX9_copyRow 23 = .ok (.goto (-21), 3) := by decide +kernel
theorem dX9_copyRow_26 : decode cX9_copyRow 26 = .ok (.return_, 1) := by decide +kernel
theorem dX9_bitsOf_0 : decode cX9_bitsOf 0 = .ok (.fload_n 0, 1) := by decide +kernel
theorem dX9_bitsOf_1 : decode cX9_bitsOf 1 = .ok (.fconst 0, 1) := by decide +kernel
theorem dX9_bitsOf_2 : decode cX9_bitsOf 2 = .ok (.fcmp .l, 1) := by decide +kernel
theorem dX9_bitsOf_3 : decode cX9_bitsOf 3 = .ok (.ifCond .gt 5, 3) := by decide +kernel
theorem dX9_bitsOf_6 : decode cX9_bitsOf 6 = .ok (.iconst 0, 1) := by decide +kernel
theorem dX9_bitsOf_7 : decode cX9_bitsOf 7 = .ok (.ireturn, 1) := by decide +kernel
theorem dX9_bitsOf_8 : decode cX9_bitsOf 8 = .ok (.fload_n 0, 1) := by decide +kernel
theorem dX9_bitsOf_9 : decode cX9_bitsOf 9 = .ok (.fstore_n 1, 1) := by decide +kernel
theorem dX9_bitsOf_10 : decode cX9_bitsOf 10 = .ok (.bipush 127, 2) := by decide +kernel
theorem dX9_bitsOf_12 : decode cX9_bitsOf 12 = .ok (.istore_n 2, 1) := by decide +kernel
theorem dX9_bitsOf_13 : decode cX9_bitsOf 13 = .ok (.iconst 0, 1) := by decide +kernel
theorem dX9_bitsOf_14 : decode cX9_bitsOf 14 = .ok (.istore_n 3, 1) := by decide +kernel
theorem dX9_bitsOf_15 : decode cX9_bitsOf 15 = .ok (.iload_n 3, 1) := by decide +kernel
theorem dX9_bitsOf_16 : decode cX9_bitsOf 16 = .ok (.sipush 128, 3) := by decide +kernel
theorem dX9_bitsOf_19 : decode cX9_bitsOf 19 = .ok (.if_icmp .ge 22, 3) := by decide +kernel
theorem dX9_bitsOf_22 : decode cX9_bitsOf 22 = .ok (.fload_n 1, 1) := by decide +kernel
theorem dX9_bitsOf_23 : decode cX9_bitsOf 23 = .ok (.fconst 2, 1) := by decide +kernel
theorem dX9_bitsOf_24 : decode cX9_bitsOf 24 = .ok (.fcmp .l, 1) := by decide +kernel
theorem dX9_bitsOf_25 : decode cX9_bitsOf 25 = .ok (.ifCond .lt 16, 3) := by decide +kernel
theorem dX9_bitsOf_28 : decode cX9_bitsOf 28 = .ok (.fload_n 1, 1) := by decide +kernel
theorem dX9_bitsOf_29 : decode cX9_bitsOf 29 = .ok (.fconst 2, 1) := by decide +kernel
theorem dX9_bitsOf_30 : decode cX9_bitsOf 30 = .ok (.fdiv, 1) := by decide +kernel
theorem dX9_bitsOf_31 : decode cX9_bitsOf 31 = .ok (.fstore_n 1, 1) := by decide +kernel
theorem dX9_bitsOf_32 : decode cX9_bitsOf 32 = .ok (.iinc 2 1, 3) := by decide +kernel
theorem dX9_bitsOf_35 : decode cX9_bitsOf 35 = .ok (.iinc 3 1, 3) := by decide +kernel
theorem dX9_bitsOf_38 : decode cX9_bitsOf 38 = .ok (.goto (-23), 3) := by decide +kernel
theorem dX9_bitsOf_41 : decode cX9_bitsOf 41 = .ok (.iconst 0, 1) := by decide +kernel
theorem dX9_bitsOf_42 : decode cX9_bitsOf 42 = .ok (.istore_n 3, 1) := by decide +kernel
theorem dX9_bitsOf_43 : decode cX9_bitsOf 43 = .ok (.iload_n 3, 1) := by decide +kernel
theorem dX9_bitsOf_44 : decode cX9_bitsOf 44 = .ok (.sipush 128, 3) := by decide +kernel
theorem dX9_bitsOf_47 : decode cX9_bitsOf 47 = .ok (.if_icmp .ge 22, 3) := by decide +kernel
theorem dX9_bitsOf_50 : decode cX9_bitsOf 50 = .ok (.fload_n 1, 1) := by decide +kernel
theorem dX9_bitsOf_51 : decode cX9_bitsOf 51 = .ok (.fconst 1, 1) := by decide +kernel
theorem dX9_bitsOf_52 : decode cX9_bitsOf 52 = .ok (.fcmp .g, 1) := by decide +kernel
theorem dX9_bitsOf_53 : decode cX9_bitsOf 53 = .ok (.ifCond .ge 16, 3) := by decide +kernel
theorem dX9_bitsOf_56 : decode cX9_bitsOf 56 = .ok (.fload_n 1, 1) := by decide +kernel
theorem dX9_bitsOf_57 : decode cX9_bitsOf 57 = .ok (.fconst 2, 1) := by decide +kernel
theorem dX9_bitsOf_58 : decode cX9_bitsOf 58 = .ok (.fmul, 1) := by decide +kernel
theorem dX9_bitsOf_59 : decode cX9_bitsOf 59 = .ok (.fstore_n 1, 1) := by decide +kernel
theorem dX9_bitsOf_60 : decode cX9_bitsOf 60 = .ok (.iinc 2 (-1), 3) := by decide +kernel
theorem dX9_bitsOf_63 : decode cX9_bitsOf 63 = .ok (.iinc 3 1, 3) := by decide +kernel
theorem dX9_bitsOf_66 : decode cX9_bitsOf 66 = .ok (.goto (-23), 3) := by decide +kernel
theorem dX9_bitsOf_69 : decode cX9_bitsOf 69 = .ok (.fload_n 1, 1) := by decide +kernel
theorem dX9_bitsOf_70 : decode cX9_bitsOf 70 = .ok (.fconst 1, 1) := by decide +kernel
theorem dX9_bitsOf_71 : decode cX9_bitsOf 71 = .ok (.fsub, 1) := by decide +kernel
theorem dX9_bitsOf_72 : decode cX9_bitsOf 72 = .ok (.ldc_w 306, 3) := by decide +kernel
theorem dX9_bitsOf_75 : decode cX9_bitsOf 75 = .ok (.fmul, 1) := by decide +kernel
theorem dX9_bitsOf_76 : decode cX9_bitsOf 76 = .ok (.f2i, 1) := by decide +kernel
theorem dX9_bitsOf_77 : decode cX9_bitsOf 77 = .ok (.istore_n 3, 1) := by decide +kernel
theorem dX9_bitsOf_78 : decode cX9_bitsOf 78 = .ok (.iload_n 2, 1) := by decide +kernel
theorem dX9_bitsOf_79 : decode cX9_bitsOf 79 = .ok (.bipush 23, 2) := by decide +kernel
theorem dX9_bitsOf_81 : decode cX9_bitsOf 81 = .ok (.ishl, 1) := by decide +kernel
theorem dX9_bitsOf_82 : decode cX9_bitsOf 82 = .ok (.iload_n 3, 1) := by decide +kernel
theorem dX9_bitsOf_83 : decode cX9_bitsOf 83 = .ok (.ior, 1) := by decide +kernel
theorem dX9_bitsOf_84 : decode cX9_bitsOf 84 = .ok (.ireturn, 1) := by decide +kernel
