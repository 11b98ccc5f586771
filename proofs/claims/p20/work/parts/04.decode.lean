theorem dX0_init_0 : decode cX0_init 0 = .ok (.aload_n 0, 1) := by decide +kernel
theorem dX0_init_1 : decode cX0_init 1 = .ok (.invokespecial 3, 3) := by decide +kernel
theorem dX0_init_4 : decode cX0_init 4 = .ok (.aload_n 0, 1) := by decide +kernel
theorem dX0_init_5 : decode cX0_init 5 = .ok (.bipush 8, 2) := by decide +kernel
theorem dX0_init_7 : decode cX0_init 7 = .ok (.newarray .int, 2) := by decide +kernel
theorem dX0_init_9 : decode cX0_init 9 = .ok (.putfield 9, 3) := by decide +kernel
theorem dX0_init_12 : decode cX0_init 12 = .ok (.aload_n 0, 1) := by decide +kernel
theorem dX0_init_13 : decode cX0_init 13 = .ok (.bipush 8, 2) := by decide +kernel
theorem dX0_init_15 : decode cX0_init 15 = .ok (.newarray .int, 2) := by decide +kernel
theorem dX0_init_17 : decode cX0_init 17 = .ok (.putfield 15, 3) := by decide +kernel
theorem dX0_init_20 : decode cX0_init 20 = .ok (.aload_n 0, 1) := by decide +kernel
theorem dX0_init_21 : decode cX0_init 21 = .ok (.bipush 8, 2) := by decide +kernel
theorem dX0_init_23 : decode cX0_init 23 = .ok (.newarray .int, 2) := by decide +kernel
theorem dX0_init_25 : decode cX0_init 25 = .ok (.putfield 18, 3) := by decide +kernel
theorem dX0_init_28 : decode cX0_init 28 = .ok (.return_, 1) := by decide +kernel
theorem dX0_firstLength_0 : decode cX0_firstLength 0 = .ok (.aload_n 0, 1) := by decide +kernel
theorem dX0_firstLength_1 : decode cX0_firstLength 1 = .ok (.getfield 21, 3) := by decide +kernel
theorem dX0_firstLength_4 : decode cX0_firstLength 4 = .ok (.ireturn, 1) := by decide +kernel
theorem dX0_secondLength_0 : decode cX0_secondLength 0 = .ok (.aload_n 0, 1) := by decide +kernel
theorem dX0_secondLength_1 : decode cX0_secondLength 1 = .ok (.getfield 25, 3) := by decide +kernel
theorem dX0_secondLength_4 : decode cX0_secondLength 4 = .ok (.ireturn, 1) := by decide +kernel
theorem dX0_joinedBits_0 : decode cX0_joinedBits 0 = .ok (.aload_n 0, 1) := by decide +kernel
theorem dX0_joinedBits_1 : decode cX0_joinedBits 1 = .ok (.getfield 18, 3) := by decide +kernel
theorem dX0_joinedBits_4 : decode cX0_joinedBits 4 = .ok (.iload_n 1, 1) := by decide +kernel
theorem dX0_joinedBits_5 : decode cX0_joinedBits 5 = .ok (.invokestatic 28, 3) := by decide +kernel
theorem dX0_joinedBits_8 : decode cX0_joinedBits 8 = .ok (.ireturn, 1) := by decide +kernel
theorem dX0_joinedOf_0 : decode cX0_joinedOf 0 = .ok (.aload_n 0, 1) := by decide +kernel
theorem dX0_joinedOf_1 : decode cX0_joinedOf 1 = .ok (.iload_n 1, 1) := by decide +kernel
theorem dX0_joinedOf_2 : decode cX0_joinedOf 2 = .ok (.invokevirtual 32, 3) := by decide +kernel
theorem dX0_joinedOf_5 : decode cX0_joinedOf 5 = .ok (.invokestatic 36, 3) := by decide +kernel
theorem dX0_joinedOf_8 : decode cX0_joinedOf 8 = .ok (.ireturn, 1) := by decide +kernel
theorem dX0_hasJoined_0 : decode cX0_hasJoined 0 = .ok (.aload_n 0, 1) := by decide +kernel
theorem dX0_hasJoined_1 : decode cX0_hasJoined 1 = .ok (.iload_n 1, 1) := by decide +kernel
theorem dX0_hasJoined_2 : decode cX0_hasJoined 2 = .ok (.invokevirtual 32, 3) := by decide +kernel
theorem dX0_hasJoined_5 : decode cX0_hasJoined 5 = .ok (.iload_n 2, 1) := by decide +kernel
theorem dX0_hasJoined_6 : decode cX0_hasJoined 6 = .ok (.invokestatic 41, 3) := by decide +kernel
theorem dX0_hasJoined_9 : decode cX0_hasJoined 9 = .ok (.iand, 1) := by decide +kernel
theorem dX0_hasJoined_10 : decode cX0_hasJoined 10 = .ok (.ifCond .eq 7, 3) := by decide +kernel
theorem dX0_hasJoined_13 : decode cX0_hasJoined 13 = .ok (.iconst 1, 1) := by decide +kernel
theorem dX0_hasJoined_14 : decode cX0_hasJoined 14 = .ok (.goto 4, 3) := by decide +kernel
theorem dX0_hasJoined_17 : decode cX0_hasJoined 17 = .ok (.iconst 0, 1) := by decide +kernel
theorem dX0_hasJoined_18 : decode cX0_hasJoined 18 = .ok (.ireturn, 1) := by decide +kernel
theorem dX0_align_0 : decode cX0_align 0 = .ok (.aload_n 0, 1) := by decide +kernel
theorem dX0_align_1 : decode cX0_align 1 = .ok (.aload_n 1, 1) := by decide +kernel
theorem dX0_align_2 : decode cX0_align 2 = .ok (.iconst 0, 1) := by decide +kernel
theorem dX0_align_3 : decode cX0_align 3 = .ok (.invokevirtual 44, 3) := by decide +kernel
theorem dX0_align_6 : decode cX0_align 6 = .ok (.invokevirtual 50, 3) := by decide +kernel
theorem dX0_align_9 : decode cX0_align 9 = .ok (.putfield 21, 3) := by decide +kernel
theorem dX0_align_12 : decode cX0_align 12 = .ok (.aload_n 0, 1) := by decide +kernel
theorem dX0_align_13 : decode cX0_align 13 = .ok (.aload_n 1, 1) := by decide +kernel
theorem dX0_align_14 : decode cX0_align 14 = .ok (.iconst 1, 1) := by decide +kernel
theorem dX0_align_15 : decode cX0_align 15 = .ok (.invokevirtual 44, 3) := by decide +kernel
theorem dX0_align_18 : decode cX0_align 18 = .ok (.invokevirtual 50, 3) := by decide +kernel
theorem dX0_align_21 : decode cX0_align 21 = .ok (.putfield 25, 3) := by decide +kernel
theorem dX0_align_24 : decode cX0_align 24 = .ok (.aload_n 0, 1) := by decide +kernel
theorem dX0_align_25 : decode cX0_align 25 = .ok (.aload_n 1, 1) := by decide +kernel
theorem dX0_align_26 : decode cX0_align 26 = .ok (.aload_n 2, 1) := by decide +kernel
theorem dX0_align_27 : decode cX0_align 27 = .ok (.invokevirtual 56, 3) := by decide +kernel
theorem dX0_align_30 : decode cX0_align 30 = .ok (.iconst 0, 1) := by decide +kernel
theorem dX0_align_31 : decode cX0_align 31 = .ok (.istore_n 3, 1) := by decide +kernel
theorem dX0_align_32 : decode cX0_align 32 = .ok (.iload_n 3, 1) := by decide +kernel
theorem dX0_align_33 : decode cX0_align 33 = .ok (.aload_n 0, 1) := by decide +kernel
theorem dX0_align_34 : decode cX0_align 34 = .ok (.getfield 18, 3) := by decide +kernel
theorem dX0_align_37 : decode cX0_align 37 = .ok (.arraylength, 1) := by decide +kernel
theorem dX0_align_38 : decode cX0_align 38 = .ok (.if_icmp .ge 23, 3) := by decide +kernel
theorem dX0_align_41 : decode cX0_align 41 = .ok (.aload_n 0, 1) := by decide +kernel
theorem dX0_align_42 : decode cX0_align 42 = .ok (.getfield 18, 3) := by decide +kernel
theorem dX0_align_45 : decode cX0_align 45 = .ok (.iload_n 3, 1) := by decide +kernel
theorem dX0_align_46 : decode cX0_align 46 = .ok (.aload_n 0, 1) := by decide +kernel
theorem dX0_align_47 : decode cX0_align 47 = .ok (.getfield 9, 3) := by decide +kernel
theorem dX0_align_50 : decode cX0_align 50 = .ok (.iload_n 3, 1) := by decide +kernel
theorem dX0_align_51 : decode cX0_align 51 = .ok (.invokestatic 28, 3) := by decide +kernel
theorem dX0_align_54 : decode cX0_align 54 = .ok (.iastore, 1) := by decide +kernel
theorem dX0_align_55 : decode cX0_align 55 = .ok (.iinc 3 1, 3) := by decide +kernel
theorem dX0_align_58 : decode cX0_align 58 = .ok (.goto (-26), 3) := by decide +kernel
theorem dX0_align_61 : decode cX0_align 61 = .ok (.iconst 1, 1) := by decide +kernel
theorem dX0_align_62 : decode cX0_align 62 = .ok (.istore_n 3, 1) := by decide +kernel
theorem dX0_align_63 : decode cX0_align 63 = .ok (.iconst 0, 1) := by decide +kernel
theorem dX0_align_64 : decode cX0_align 64 = .ok (.istore 4, 2) := by decide +kernel
theorem dX0_align_66 : decode cX0_align 66 = .ok (.iload_n 3, 1) := by decide +kernel
theorem dX0_align_67 : decode cX0_align 67 = .ok (.ifCond .eq 21, 3) := by decide +kernel
theorem dX0_align_70 : decode cX0_align 70 = .ok (.iload 4, 2) := by decide +kernel
theorem dX0_align_72 : decode cX0_align 72 = .ok (.bipush 64, 2) := by decide +kernel
theorem dX0_align_74 : decode cX0_align 74 = .ok (.if_icmp .gt 14, 3) := by decide +kernel
theorem dX0_align_77 : decode cX0_align 77 = .ok (.aload_n 0, 1) := by decide +kernel
theorem dX0_align_78 : decode cX0_align 78 = .ok (.invokevirtual 60, 3) := by decide +kernel
theorem dX0_align_81 : decode cX0_align 81 = .ok (.istore_n 3, 1) := by decide +kernel
theorem dX0_align_82 : decode cX0_align 82 = .ok (.iinc 4 1, 3) := by decide +kernel
theorem dX0_align_85 : decode cX0_align 85 = .ok (.goto (-19), 3) := by decide +kernel
theorem dX0_align_88 : decode cX0_align 88 = .ok (.return_, 1) := by decide +kernel
theorem dX0_takeLinks_0 : decode cX0_takeLinks 0 = .ok (.aload_n 0, 1) := by decide +kernel
theorem dX0_takeLinks_1 : decode cX0_takeLinks 1 = .ok (.getfield 9, 3) := by decide +kernel
theorem dX0_takeLinks_4 : decode cX0_takeLinks 4 = .ok (.iconst 0, 1) := by decide +kernel
theorem dX0_takeLinks_5 : decode cX0_takeLinks 5 = .ok (.invokestatic 64, 3) := by decide +kernel
theorem dX0_takeLinks_8 : decode cX0_takeLinks 8 = .ok (.aload_n 0, 1) := by decide +kernel
theorem dX0_takeLinks_9 : decode cX0_takeLinks 9 = .ok (.getfield 15, 3) := by decide +kernel
theorem dX0_takeLinks_12 : decode cX0_takeLinks 12 = .ok (.iconst 0, 1) := by decide +kernel
theorem dX0_takeLinks_13 : decode cX0_takeLinks 13 = .ok (.invokestatic 64, 3) := by decide +kernel
theorem dX0_takeLinks_16 : decode cX0_takeLinks 16 = .ok (.iconst 0, 1) := by decide +kernel
theorem dX0_takeLinks_17 : decode cX0_takeLinks 17 = .ok (.istore_n 3, 1) := by decide +kernel
theorem dX0_takeLinks_18 : decode cX0_takeLinks 18 = .ok (.iload_n 3, 1) := by decide +kernel
theorem dX0_takeLinks_19 : decode cX0_takeLinks 19 = .ok (.aload_n 0, 1) := by decide +kernel
theorem dX0_takeLinks_20 : decode cX0_takeLinks 20 = .ok (.getfield 25, 3) := by decide +kernel
theorem dX0_takeLinks_23 : decode cX0_takeLinks 23 = .ok (.if_icmp .ge 21, 3) := by decide +kernel
theorem dX0_takeLinks_26 : decode cX0_takeLinks 26 = .ok (.aload_n 0, 1) := by decide +kernel
theorem dX0_takeLinks_27 : decode cX0_takeLinks 27 = .ok (.aload_n 2, 1) := by decide +kernel
theorem dX0_takeLinks_28 : decode cX0_takeLinks 28 = .ok (.iconst 0, 1) := by decide +kernel
theorem dX0_takeLinks_29 : decode cX0_takeLinks 29 = .ok (.aload_n 1, 1) := by decide +kernel
theorem dX0_takeLinks_30 : decode cX0_takeLinks 30 = .ok (.iload_n 3, 1) := by decide +kernel
theorem dX0_takeLinks_31 : decode cX0_takeLinks 31 = .ok (.invokevirtual 70, 3) := by decide +kernel
theorem dX0_takeLinks_34 : decode cX0_takeLinks 34 = .ok (.iload_n 3, 1) := by decide +kernel
theorem dX0_takeLinks_35 : decode cX0_takeLinks 35 = .ok (.invokevirtual 76, 3) := by decide +kernel
theorem dX0_takeLinks_38 : decode cX0_takeLinks 38 = .ok (.iinc 3 1, 3) := by decide +kernel
theorem dX0_takeLinks_41 : decode cX0_takeLinks 41 = .ok (.goto (-23), 3) := by decide +kernel
theorem dX0_takeLinks_44 : decode cX0_takeLinks 44 = .ok (.iconst 0, 1) := by decide +kernel
theorem dX0_takeLinks_45 : decode cX0_takeLinks 45 = .ok (.istore_n 3, 1) := by decide +kernel
theorem dX0_takeLinks_46 : decode cX0_takeLinks 46 = .ok (.iload_n 3, 1) := by decide +kernel
theorem dX0_takeLinks_47 : decode cX0_takeLinks 47 = .ok (.aload_n 0, 1) := by decide +kernel
theorem dX0_takeLinks_48 : decode cX0_takeLinks 48 = .ok (.getfield 21, 3) := by decide +kernel
theorem dX0_takeLinks_51 : decode cX0_takeLinks 51 = .ok (.if_icmp .ge 21, 3) := by decide +kernel
theorem dX0_takeLinks_54 : decode cX0_takeLinks 54 = .ok (.aload_n 0, 1) := by decide +kernel
theorem dX0_takeLinks_55 : decode cX0_takeLinks 55 = .ok (.iload_n 3, 1) := by decide +kernel
theorem dX0_takeLinks_56 : decode cX0_takeLinks 56 = .ok (.aload_n 2, 1) := by decide +kernel
theorem dX0_takeLinks_57 : decode cX0_takeLinks 57 = .ok (.iconst 1, 1) := by decide +kernel
theorem dX0_takeLinks_58 : decode cX0_takeLinks 58 = .ok (.aload_n 1, 1) := by decide +kernel
theorem dX0_takeLinks_59 : decode cX0_takeLinks 59 = .ok (.iload_n 3, 1) := by decide +kernel
theorem dX0_takeLinks_60 : decode cX0_takeLinks 60 = .ok (.invokevirtual 70, 3) := by decide +kernel
theorem dX0_takeLinks_63 : decode cX0_takeLinks 63 = .ok (.invokevirtual 76, 3) := by decide +kernel
theorem dX0_takeLinks_66 : decode cX0_takeLinks 66 = .ok (.iinc 3 1, 3) := by decide +kernel
theorem dX0_takeLinks_69 : decode cX0_takeLinks 69 = .ok (.goto (-23), 3) := by decide +kernel
theorem dX0_takeLinks_72 : decode cX0_takeLinks 72 = .ok (.return_, 1) := by decide +kernel
theorem dX0_takeLink_0 : decode cX0_takeLink 0 = .ok (.iload_n 1, 1) := by decide +kernel
theorem dX0_takeLink_1 : decode cX0_takeLink 1 = .ok (.ifCond .lt 54, 3) := by decide +kernel
theorem dX0_takeLink_4 : decode cX0_takeLink 4 = .ok (.iload_n 1, 1) := by decide +kernel
theorem dX0_takeLink_5 : decode cX0_takeLink 5 = .ok (.aload_n 0, 1) := by decide +kernel
theorem dX0_takeLink_6 : decode cX0_takeLink 6 = .ok (.getfield 9, 3) := by decide +kernel
theorem dX0_takeLink_9 : decode cX0_takeLink 9 = .ok (.arraylength, 1) := by decide +kernel
theorem dX0_takeLink_10 : decode cX0_takeLink 10 = .ok (.if_icmp .ge 45, 3) := by decide +kernel
theorem dX0_takeLink_13 : decode cX0_takeLink 13 = .ok (.iload_n 1, 1) := by decide +kernel
theorem dX0_takeLink_14 : decode cX0_takeLink 14 = .ok (.aload_n 0, 1) := by decide +kernel
theorem dX0_takeLink_15 : decode cX0_takeLink 15 = .ok (.getfield 15, 3) := by decide +kernel
theorem dX0_takeLink_18 : decode cX0_takeLink 18 = .ok (.arraylength, 1) := by decide +kernel
theorem dX0_takeLink_19 : decode cX0_takeLink 19 = .ok (.if_icmp .ge 36, 3) := by decide +kernel
theorem dX0_takeLink_22 : decode cX0_takeLink 22 = .ok (.aload_n 0, 1) := by decide +kernel
theorem dX0_takeLink_23 : decode cX0_takeLink 23 = .ok (.getfield 9, 3) := by decide +kernel
theorem dX0_takeLink_26 : decode cX0_takeLink 26 = .ok (.iload_n 1, 1) := by decide +kernel
theorem dX0_takeLink_27 : decode cX0_takeLink 27 = .ok (.dup2, 1) := by decide +kernel
theorem dX0_takeLink_28 : decode cX0_takeLink 28 = .ok (.iaload, 1) := by decide +kernel
theorem dX0_takeLink_29 : decode cX0_takeLink 29 = .ok (.aload_n 0, 1) := by decide +kernel
theorem dX0_takeLink_30 : decode cX0_takeLink 30 = .ok (.getfield 15, 3) := by decide +kernel
theorem dX0_takeLink_33 : decode cX0_takeLink 33 = .ok (.iload_n 1, 1) := by decide +kernel
theorem dX0_takeLink_34 : decode cX0_takeLink 34 = .ok (.iaload, 1) := by decide +kernel
theorem dX0_takeLink_35 : decode cX0_takeLink 35 = .ok (.iload_n 2, 1) := by decide +kernel
theorem dX0_takeLink_36 : decode cX0_takeLink 36 = .ok (.invokestatic 41, 3) := by decide +kernel
theorem dX0_takeLink_39 : decode cX0_takeLink 39 = .ok (.iand, 1) := by decide +kernel
theorem dX0_takeLink_40 : decode cX0_takeLink 40 = .ok (.ior, 1) := by decide +kernel
theorem dX0_takeLink_41 : decode cX0_takeLink 41 = .ok (.iastore, 1) := by decide +kernel
theorem dX0_takeLink_42 : decode cX0_takeLink 42 = .ok (.aload_n 0, 1) := by decide +kernel
theorem dX0_takeLink_43 : decode cX0_takeLink 43 = .ok (.getfield 15, 3) := by decide +kernel
theorem dX0_takeLink_46 : decode cX0_takeLink 46 = .ok (.iload_n 1, 1) := by decide +kernel
theorem dX0_takeLink_47 : decode cX0_takeLink 47 = .ok (.dup2, 1) := by decide +kernel
theorem dX0_takeLink_48 : decode cX0_takeLink 48 = .ok (.iaload, 1) := by decide +kernel
theorem dX0_takeLink_49 : decode cX0_takeLink 49 = .ok (.iload_n 2, 1) := by decide +kernel
theorem dX0_takeLink_50 : decode cX0_takeLink 50 = .ok (.invokestatic 41, 3) := by decide +kernel
theorem dX0_takeLink_53 : decode cX0_takeLink 53 = .ok (.ior, 1) := by decide +kernel
theorem dX0_takeLink_54 : decode cX0_takeLink 54 = .ok (.iastore, 1) := by decide +kernel
theorem dX0_takeLink_55 : decode cX0_takeLink 55 = .ok (.return_, 1) := by decide +kernel
theorem dX0_growOnce_0 : decode cX0_growOnce 0 = .ok (.iconst 0, 1) := by decide +kernel
theorem dX0_growOnce_1 : decode cX0_growOnce 1 = .ok (.istore_n 1, 1) := by decide +kernel
theorem dX0_growOnce_2 : decode cX0_growOnce 2 = .ok (.iconst 0, 1) := by decide +kernel
theorem dX0_growOnce_3 : decode cX0_growOnce 3 = .ok (.istore_n 2, 1) := by decide +kernel
theorem dX0_growOnce_4 : decode cX0_growOnce 4 = .ok (.iload_n 2, 1) := by decide +kernel
theorem dX0_growOnce_5 : decode cX0_growOnce 5 = .ok (.aload_n 0, 1) := by decide +kernel
theorem dX0_growOnce_6 : decode cX0_growOnce 6 = .ok (.getfield 21, 3) := by decide +kernel
theorem dX0_growOnce_9 : decode cX0_growOnce 9 = .ok (.if_icmp .ge 42, 3) := by decide +kernel
theorem dX0_growOnce_12 : decode cX0_growOnce 12 = .ok (.iconst 0, 1) := by decide +kernel
theorem dX0_growOnce_13 : decode cX0_growOnce 13 = .ok (.istore_n 3, 1) := by decide +kernel
theorem dX0_growOnce_14 : decode cX0_growOnce 14 = .ok (.iload_n 3, 1) := by decide +kernel
theorem dX0_growOnce_15 : decode cX0_growOnce 15 = .ok (.aload_n 0, 1) := by decide +kernel
theorem dX0_growOnce_16 : decode cX0_growOnce 16 = .ok (.getfield 25, 3) := by decide +kernel
theorem dX0_growOnce_19 : decode cX0_growOnce 19 = .ok (.if_icmp .ge 26, 3) := by decide +kernel
theorem dX0_growOnce_22 : decode cX0_growOnce 22 = .ok (.aload_n 0, 1) := by decide +kernel
theorem dX0_growOnce_23 : decode cX0_growOnce 23 = .ok (.iload_n 2, 1) := by decide +kernel
theorem dX0_growOnce_24 : decode cX0_growOnce 24 = .ok (.iload_n 3, 1) := by decide +kernel
theorem dX0_growOnce_25 : decode cX0_growOnce 25 = .ok (.invokevirtual 80, 3) := by decide +kernel
theorem dX0_growOnce_28 : decode cX0_growOnce 28 = .ok (.ifCond .eq 11, 3) := by decide +kernel
theorem dX0_growOnce_31 : decode cX0_growOnce 31 = .ok (.aload_n 0, 1) := by decide +kernel
theorem dX0_growOnce_32 : decode cX0_growOnce 32 = .ok (.iload_n 2, 1) := by decide +kernel
theorem dX0_growOnce_33 : decode cX0_growOnce 33 = .ok (.iload_n 3, 1) := by decide +kernel
theorem dX0_growOnce_34 : decode cX0_growOnce 34 = .ok (.invokevirtual 84, 3) := by decide +kernel
theorem dX0_growOnce_37 : decode cX0_growOnce 37 = .ok (.iconst 1, 1) := by decide +kernel
theorem dX0_growOnce_38 : decode cX0_growOnce 38 = .ok (.istore_n 1, 1) := by decide +kernel
theorem dX0_growOnce_39 : decode cX0_growOnce 39 = .ok (.iinc 3 1, 3) := by decide +kernel
theorem dX0_growOnce_42 : decode cX0_growOnce 42 = .ok (.goto (-28), 3) := by decide +kernel
theorem dX0_growOnce_45 : decode cX0_growOnce 45 = .ok (.iinc 2 1, 3) := by decide +kernel
theorem dX0_growOnce_48 : decode cX0_growOnce 48 = .ok (.goto (-44), 3) := by decide +kernel
theorem dX0_growOnce_51 : decode cX0_growOnce 51 = .ok (.iload_n 1, 1) := by decide +kernel
theorem dX0_growOnce_52 : decode cX0_growOnce 52 = .ok (.ireturn, 1) := by decide +kernel
theorem dX0_isToJoin_0 : decode cX0_isToJoin 0 = .ok (.aload_n 0, 1) := by decide +kernel
theorem dX0_isToJoin_1 : decode cX0_isToJoin 1 = .ok (.getfield 15, 3) := by decide +kernel
theorem dX0_isToJoin_4 : decode cX0_isToJoin 4 = .ok (.iload_n 1, 1) := by decide +kernel
theorem dX0_isToJoin_5 : decode cX0_isToJoin 5 = .ok (.invokestatic 28, 3) := by decide +kernel
theorem dX0_isToJoin_8 : decode cX0_isToJoin 8 = .ok (.iload_n 2, 1) := by decide +kernel
theorem dX0_isToJoin_9 : decode cX0_isToJoin 9 = .ok (.invokestatic 41, 3) := by decide +kernel
theorem dX0_isToJoin_12 : decode cX0_isToJoin 12 = .ok (.iand, 1) := by decide +kernel
theorem dX0_isToJoin_13 : decode cX0_isToJoin 13 = .ok (.ifCond .eq 7, 3) := by decide +kernel
theorem dX0_isToJoin_16 : decode cX0_isToJoin 16 = .ok (.iconst 1, 1) := by decide +kernel
theorem dX0_isToJoin_17 : decode cX0_isToJoin 17 = .ok (.goto 4, 3) := by decide +kernel
theorem dX0_isToJoin_20 : decode cX0_isToJoin 20 = .ok (.iconst 0, 1) := by decide +kernel
theorem dX0_isToJoin_21 : decode cX0_isToJoin 21 = .ok (.istore_n 3, 1) := by decide +kernel
theorem dX0_isToJoin_22 : decode cX0_isToJoin 22 = .ok (.iload_n 3, 1) := by decide +kernel
theorem dX0_isToJoin_23 : decode cX0_isToJoin 23 = .ok (.ifCond .eq 41, 3) := by decide +kernel
theorem dX0_isToJoin_26 : decode cX0_isToJoin 26 = .ok (.aload_n 0, 1) := by decide +kernel
theorem dX0_isToJoin_27 : decode cX0_isToJoin 27 = .ok (.iload_n 1, 1) := by decide +kernel
theorem dX0_isToJoin_28 : decode cX0_isToJoin 28 = .ok (.iload_n 2, 1) := by decide +kernel
theorem dX0_isToJoin_29 : decode cX0_isToJoin 29 = .ok (.invokevirtual 87, 3) := by decide +kernel
theorem dX0_isToJoin_32 : decode cX0_isToJoin 32 = .ok (.ifCond .ne 32, 3) := by decide +kernel
theorem dX0_isToJoin_35 : decode cX0_isToJoin 35 = .ok (.aload_n 0, 1) := by decide +kernel
theorem dX0_isToJoin_36 : decode cX0_isToJoin 36 = .ok (.iload_n 1, 1) := by decide +kernel
theorem dX0_isToJoin_37 : decode cX0_isToJoin 37 = .ok (.invokevirtual 32, 3) := by decide +kernel
theorem dX0_isToJoin_40 : decode cX0_isToJoin 40 = .ok (.ifCond .eq 11, 3) := by decide +kernel
theorem dX0_isToJoin_43 : decode cX0_isToJoin 43 = .ok (.aload_n 0, 1) := by decide +kernel
theorem dX0_isToJoin_44 : decode cX0_isToJoin 44 = .ok (.iload_n 2, 1) := by decide +kernel
theorem dX0_isToJoin_45 : decode cX0_isToJoin 45 = .ok (.invokevirtual 90, 3) := by decide +kernel
theorem dX0_isToJoin_48 : decode cX0_isToJoin 48 = .ok (.ifCond .eq 16, 3) := by decide +kernel
theorem dX0_isToJoin_51 : decode cX0_isToJoin 51 = .ok (.aload_n 0, 1) := by decide +kernel
theorem dX0_isToJoin_52 : decode cX0_isToJoin 52 = .ok (.iload_n 1, 1) := by decide +kernel
theorem dX0_isToJoin_53 : decode cX0_isToJoin 53 = .ok (.iload_n 2, 1) := by decide +kernel
theorem dX0_isToJoin_54 : decode cX0_isToJoin 54 = .ok (.invokevirtual 94, 3) := by decide +kernel
theorem dX0_isToJoin_57 : decode cX0_isToJoin 57 = .ok (.ifCond .eq 7, 3) := by decide +kernel
theorem dX0_isToJoin_60 : decode cX0_isToJoin 60 = .ok (.iconst 1, 1) := by decide +kernel
theorem dX0_isToJoin_61 : decode cX0_isToJoin 61 = .ok (.goto 4, 3) := by decide +kernel
theorem dX0_isToJoin_64 : decode cX0_isToJoin 64 = .ok (.iconst 0, 1) := by decide +kernel
theorem dX0_isToJoin_65 : decode cX0_isToJoin 65 = .ok (.ireturn, 1) := by decide +kernel
theorem dX0_isFree_0 : decode cX0_isFree 0 = .ok (.iconst 0, 1) := by decide +kernel
theorem dX0_isFree_1 : decode cX0_isFree 1 = .ok (.istore_n 2, 1) := by decide +kernel
theorem dX0_isFree_2 : decode cX0_isFree 2 = .ok (.iconst 0, 1) := by decide +kernel
theorem dX0_isFree_3 : decode cX0_isFree 3 = .ok (.istore_n 3, 1) := by decide +kernel
theorem dX0_isFree_4 : decode cX0_isFree 4 = .ok (.iload_n 3, 1) := by decide +kernel
theorem dX0_isFree_5 : decode cX0_isFree 5 = .ok (.aload_n 0, 1) := by decide +kernel
theorem dX0_isFree_6 : decode cX0_isFree 6 = .ok (.getfield 21, 3) := by decide +kernel
theorem dX0_isFree_9 : decode cX0_isFree 9 = .ok (.if_icmp .ge 17, 3) := by decide +kernel
theorem dX0_isFree_12 : decode cX0_isFree 12 = .ok (.iload_n 2, 1) := by decide +kernel
theorem dX0_isFree_13 : decode cX0_isFree 13 = .ok (.aload_n 0, 1) := by decide +kernel
theorem dX0_isFree_14 : decode cX0_isFree 14 = .ok (.iload_n 3, 1) := by decide +kernel
theorem dX0_isFree_15 : decode cX0_isFree 15 = .ok (.invokevirtual 32, 3) := by decide +kernel
theorem dX0_isFree_18 : decode cX0_isFree 18 = .ok (.ior, 1) := by decide +kernel
theorem dX0_isFree_19 : decode cX0_isFree 19 = .ok (.istore_n 2, 1) := by decide +kernel
theorem dX0_isFree_20 : decode cX0_isFree 20 = .ok (.iinc 3 1, 3) := by decide +kernel
theorem dX0_isFree_23 : decode cX0_isFree 23 = .ok (.goto (-19), 3) := by decide +kernel
theorem dX0_isFree_26 : decode cX0_isFree 26 = .ok (.iload_n 2, 1) := by decide +kernel
theorem dX0_isFree_27 : decode cX0_isFree 27 = .ok (.iload_n 1, 1) := by decide +kernel
theorem dX0_isFree_28 : decode cX0_isFree 28 = .ok (.invokestatic 41, 3) := by decide +kernel
theorem dX0_isFree_31 : decode cX0_isFree 31 = .ok (.iand, 1) := by decide +kernel
theorem dX0_isFree_32 : decode cX0_isFree 32 = .ok (.ifCond .ne 7, 3) := by decide +kernel
theorem dX0_isFree_35 : decode cX0_isFree 35 = .ok (.iconst 1, 1) := by decide +kernel
theorem dX0_isFree_36 : decode cX0_isFree 36 = .ok (.goto 4, 3) := by decide +kernel
theorem dX0_isFree_39 : decode cX0_isFree 39 = .ok (.iconst 0, 1) := by decide +kernel
theorem dX0_isFree_40 : decode cX0_isFree 40 = .ok (.ireturn, 1) := by decide +kernel
theorem dX0_isBesideJoined_0 : decode cX0_isBesideJoined 0 = .ok (.iload_n 2, 1) := by decide +kernel
theorem dX0_isBesideJoined_1 : decode cX0_isBesideJoined 1 = .ok (.iconst 1, 1) := by decide +kernel
theorem dX0_isBesideJoined_2 : decode cX0_isBesideJoined 2 = .ok (.isub, 1) := by decide +kernel
theorem dX0_isBesideJoined_3 : decode cX0_isBesideJoined 3 = .ok (.invokestatic 41, 3) := by decide +kernel
theorem dX0_isBesideJoined_6 : decode cX0_isBesideJoined 6 = .ok (.iload_n 2, 1) := by decide +kernel
theorem dX0_isBesideJoined_7 : decode cX0_isBesideJoined 7 = .ok (.invokestatic 41, 3) := by decide +kernel
theorem dX0_isBesideJoined_10 : decode cX0_isBesideJoined 10 = .ok (.ior, 1) := by decide +kernel
theorem dX0_isBesideJoined_11 : decode cX0_isBesideJoined 11 = .ok (.iload_n 2, 1) := by decide +kernel
theorem dX0_isBesideJoined_12 : decode cX0_isBesideJoined 12 = .ok (.iconst 1, 1) := by decide +kernel
theorem dX0_isBesideJoined_13 : decode cX0_isBesideJoined 13 = .ok (.iadd, 1) := by decide +kernel
theorem dX0_isBesideJoined_14 : decode cX0_isBesideJoined 14 = .ok (.invokestatic 41, 3) := by decide +kernel
theorem dX0_isBesideJoined_17 : decode cX0_isBesideJoined 17 = .ok (.ior, 1) := by decide +kernel
theorem dX0_isBesideJoined_18 : decode cX0_isBesideJoined 18 = .ok (.istore_n 3, 1) := by decide +kernel
theorem dX0_isBesideJoined_19 : decode cX0_isBesideJoined 19 = .ok (.aload_n 0, 1) := by decide +kernel
theorem dX0_isBesideJoined_20 : decode cX0_isBesideJoined 20 = .ok (.iload_n 1, 1) := by decide +kernel
theorem dX0_isBesideJoined_21 : decode cX0_isBesideJoined 21 = .ok (.iconst 1, 1) := by decide +kernel
theorem dX0_isBesideJoined_22 : decode cX0_isBesideJoined 22 = .ok (.isub, 1) := by decide +kernel
theorem dX0_isBesideJoined_23 : decode cX0_isBesideJoined 23 = .ok (.invokevirtual 32, 3) := by decide +kernel
theorem dX0_isBesideJoined_26 : decode cX0_isBesideJoined 26 = .ok (.aload_n 0, 1) := by decide +kernel
theorem dX0_isBesideJoined_27 : decode cX0_isBesideJoined 27 = .ok (.iload_n 1, 1) := by decide +kernel
theorem dX0_isBesideJoined_28 : decode cX0_isBesideJoined 28 = .ok (.invokevirtual 32, 3) := by decide +kernel
theorem dX0_isBesideJoined_31 : decode cX0_isBesideJoined 31 = .ok (.ior, 1) := by decide +kernel
theorem dX0_isBesideJoined_32 : decode cX0_isBesideJoined 32 = .ok (.aload_n 0, 1) := by decide +kernel
theorem dX0_isBesideJoined_33 : decode cX0_isBesideJoined 33 = .ok (.iload_n 1, 1) := by decide +kernel
theorem dX0_isBesideJoined_34 : decode cX0_isBesideJoined 34 = .ok (.iconst 1, 1) := by decide +kernel
theorem dX0_isBesideJoined_35 : decode cX0_isBesideJoined 35 = .ok (.iadd, 1) := by decide +kernel
theorem dX0_isBesideJoined_36 : decode cX0_isBesideJoined 36 = .ok (.invokevirtual 32, 3) := by decide +kernel
theorem dX0_isBesideJoined_39 : decode cX0_isBesideJoined 39 = .ok (.ior, 1) := by decide +kernel
theorem dX0_isBesideJoined_40 : decode cX0_isBesideJoined 40 = .ok (.istore 4, 2) := by decide +kernel
theorem dX0_isBesideJoined_42 : decode cX0_isBesideJoined 42 = .ok (.iload 4, 2) := by decide +kernel
theorem dX0_isBesideJoined_44 : decode cX0_isBesideJoined 44 = .ok (.iload_n 3, 1) := by decide +kernel
theorem dX0_isBesideJoined_45 : decode cX0_isBesideJoined 45 = .ok (.iand, 1) := by decide +kernel
theorem dX0_isBesideJoined_46 : decode cX0_isBesideJoined 46 = .ok (.ifCond .eq 7, 3) := by decide +kernel
theorem dX0_isBesideJoined_49 : decode cX0_isBesideJoined 49 = .ok (.iconst 1, 1) := by decide +kernel
theorem dX0_isBesideJoined_50 : decode cX0_isBesideJoined 50 = .ok (.goto 4, 3) := by decide +kernel
theorem dX0_isBesideJoined_53 : decode cX0_isBesideJoined 53 = .ok (.iconst 0, 1) := by decide +kernel
theorem dX0_isBesideJoined_54 : decode cX0_isBesideJoined 54 = .ok (.ireturn, 1) := by decide +kernel
theorem dX0_join_0 : decode cX0_join 0 = .ok (.iload_n 1, 1) := by decide +kernel
theorem dX0_join_1 : decode cX0_join 1 = .ok (.ifCond .lt 25, 3) := by decide +kernel
theorem dX0_join_4 : decode cX0_join 4 = .ok (.iload_n 1, 1) := by decide +kernel
theorem dX0_join_5 : decode cX0_join 5 = .ok (.aload_n 0, 1) := by decide +kernel
theorem dX0_join_6 : decode cX0_join 6 = .ok (.getfield 18, 3) := by decide +kernel
theorem dX0_join_9 : decode cX0_join 9 = .ok (.arraylength, 1) := by decide +kernel
theorem dX0_join_10 : decode cX0_join 10 = .ok (.if_icmp .ge 16, 3) := by decide +kernel
theorem dX0_join_13 : decode cX0_join 13 = .ok (.aload_n 0, 1) := by decide +kernel
theorem dX0_join_14 : decode cX0_join 14 = .ok (.getfield 18, 3) := by decide +kernel
theorem dX0_join_17 : decode cX0_join 17 = .ok (.iload_n 1, 1) := by decide +kernel
theorem dX0_join_18 : decode cX0_join 18 = .ok (.dup2, 1) := by decide +kernel
theorem dX0_join_19 : decode cX0_join 19 = .ok (.iaload, 1) := by decide +kernel
theorem dX0_join_20 : decode cX0_join 20 = .ok (.iload_n 2, 1) := by decide +kernel
theorem dX0_join_21 : decode cX0_join 21 = .ok (.invokestatic 41, 3) := by decide +kernel
theorem dX0_join_24 : decode cX0_join 24 = .ok (.ior, 1) := by decide +kernel
theorem dX0_join_25 : decode cX0_join 25 = .ok (.iastore, 1) := by decide +kernel
theorem dX0_join_26 : decode cX0_join 26 = .ok (.return_, 1) := by decide +kernel
theorem dX0_bitOf_0 : decode cX0_bitOf 0 = .ok (.iload_n 0, 1) := by decide +kernel
theorem dX0_bitOf_1 : decode cX0_bitOf 1 = .ok (.ifCond .lt 15, 3) := by decide +kernel
theorem dX0_bitOf_4 : decode cX0_bitOf 4 = .ok (.iload_n 0, 1) := by decide +kernel
theorem dX0_bitOf_5 : decode cX0_bitOf 5 = .ok (.bipush 8, 2) := by decide +kernel
theorem dX0_bitOf_7 : decode cX0_bitOf 7 = .ok (.if_icmp .ge 9, 3) := by decide +kernel
theorem dX0_bitOf_10 : decode cX0_bitOf 10 = .ok (.iconst 1, 1) := by decide +kernel
theorem dX0_bitOf_11 : decode cX0_bitOf 11 = .ok (.iload_n 0, 1) := by decide +kernel
theorem dX0_bitOf_12 : decode cX0_bitOf 12 = .ok (.ishl, 1) := by decide +kernel
theorem dX0_bitOf_13 : decode cX0_bitOf 13 = .ok (.goto 4, 3) := by decide +kernel
theorem dX0_bitOf_16 : decode cX0_bitOf 16 = .ok (.iconst 0, 1) := by decide +kernel
theorem dX0_bitOf_17 : decode cX0_bitOf 17 = .ok (.ireturn, 1) := by decide +kernel
theorem dX0_bitsAt_0 : decode cX0_bitsAt 0 = .ok (.aload_n 0, 1) := by decide +kernel
theorem dX0_bitsAt_1 : decode cX0_bitsAt 1 = .ok (.ifnull 19, 3) := by decide +kernel
theorem dX0_bitsAt_4 : decode cX0_bitsAt 4 = .ok (.iload_n 1, 1) := by decide +kernel
theorem dX0_bitsAt_5 : decode cX0_bitsAt 5 = .ok (.ifCond .lt 15, 3) := by decide +kernel
theorem dX0_bitsAt_8 : decode cX0_bitsAt 8 = .ok (.iload_n 1, 1) := by decide +kernel
theorem dX0_bitsAt_9 : decode cX0_bitsAt 9 = .ok (.aload_n 0, 1) := by decide +kernel
theorem dX0_bitsAt_10 : decode cX0_bitsAt 10 = .ok (.arraylength, 1) := by decide +kernel
theorem dX0_bitsAt_11 : decode cX0_bitsAt 11 = .ok (.if_icmp .ge 9, 3) := by decide +kernel
theorem dX0_bitsAt_14 : decode cX0_bitsAt 14 = .ok (.aload_n 0, 1) := by decide +kernel
theorem dX0_bitsAt_15 : decode cX0_bitsAt 15 = .ok (.iload_n 1, 1) := by decide +kernel
theorem dX0_bitsAt_16 : decode cX0_bitsAt 16 = .ok (.iaload, 1) := by decide +kernel
theorem dX0_bitsAt_17 : decode cX0_bitsAt 17 = .ok (.goto 4, 3) := by decide +kernel
theorem dX0_bitsAt_20 : decode cX0_bitsAt 20 = .ok (.iconst 0, 1) := by decide +kernel
theorem dX0_bitsAt_21 : decode cX0_bitsAt 21 = .ok (.ireturn, 1) := by decide +kernel
theorem dX1_init_0 : decode cX1_init 0 = .ok (.aload_n 0, 1) := by decide +kernel
theorem dX1_init_1 : decode cX1_init 1 = .ok (.invokespecial 3, 3) := by decide +kernel
theorem dX1_init_4 : decode cX1_init 4 = .ok (.aload_n 0, 1) := by decide +kernel
theorem dX1_init_5 : decode cX1_init 5 = .ok (.bipush 20, 2) := by decide +kernel
theorem dX1_init_7 : decode cX1_init 7 = .ok (.anewarray 9, 3) := by decide +kernel
theorem dX1_init_10 : decode cX1_init 10 = .ok (.putfield 11, 3) := by decide +kernel
theorem dX1_init_13 : decode cX1_init 13 = .ok (.return_, 1) := by decide +kernel
theorem dX1_made_0 : decode cX1_made 0 = .ok (.aload_n 0, 1) := by decide +kernel
theorem dX1_made_1 : decode cX1_made 1 = .ok (.getfield 17, 3) := by decide +kernel
theorem dX1_made_4 : decode cX1_made 4 = .ok (.ireturn, 1) := by decide +kernel
theorem dX1_size_0 : decode cX1_size 0 = .ok (.aload_n 0, 1) := by decide +kernel
theorem dX1_size_1 : decode cX1_size 1 = .ok (.getfield 21, 3) := by decide +kernel
theorem dX1_size_4 : decode cX1_size 4 = .ok (.ireturn, 1) := by decide +kernel
theorem dX1_isFull_0 : decode cX1_isFull 0 = .ok (.aload_n 0, 1) := by decide +kernel
theorem dX1_isFull_1 : decode cX1_isFull 1 = .ok (.getfield 17, 3) := by decide +kernel
theorem dX1_isFull_4 : decode cX1_isFull 4 = .ok (.bipush 20, 2) := by decide +kernel
theorem dX1_isFull_6 : decode cX1_isFull 6 = .ok (.if_icmp .lt 7, 3) := by decide +kernel
theorem dX1_isFull_9 : decode cX1_isFull 9 = .ok (.iconst 1, 1) := by decide +kernel
theorem dX1_isFull_10 : decode cX1_isFull 10 = .ok (.goto 4, 3) := by decide +kernel
theorem dX1_isFull_13 : decode cX1_isFull 13 = .ok (.iconst 0, 1) := by decide +kernel
theorem dX1_isFull_14 : decode cX1_isFull 14 = .ok (.ireturn, 1) := by decide +kernel
theorem dX1_add_0 : decode cX1_add 0 = .ok (.aload_n 1, 1) := by decide +kernel
theorem dX1_add_1 : decode cX1_add 1 = .ok (.ifnull 22, 3) := by decide +kernel
theorem dX1_add_4 : decode cX1_add 4 = .ok (.aload_n 0, 1) := by decide +kernel
theorem dX1_add_5 : decode cX1_add 5 = .ok (.getfield 17, 3) := by decide +kernel
theorem dX1_add_8 : decode cX1_add 8 = .ok (.ifCond .lt 15, 3) := by decide +kernel
theorem dX1_add_11 : decode cX1_add 11 = .ok (.aload_n 0, 1) := by decide +kernel
theorem dX1_add_12 : decode cX1_add 12 = .ok (.getfield 17, 3) := by decide +kernel
theorem dX1_add_15 : decode cX1_add 15 = .ok (.aload_n 0, 1) := by decide +kernel
theorem dX1_add_16 : decode cX1_add 16 = .ok (.getfield 11, 3) := by decide +kernel
theorem dX1_add_19 : decode cX1_add 19 = .ok (.arraylength, 1) := by decide +kernel
theorem dX1_add_20 : decode cX1_add 20 = .ok (.if_icmp .lt 5, 3) := by decide +kernel
theorem dX1_add_23 : decode cX1_add 23 = .ok (.iconst (-1), 1) := by decide +kernel
theorem dX1_add_24 : decode cX1_add 24 = .ok (.ireturn, 1) := by decide +kernel
theorem dX1_add_25 : decode cX1_add 25 = .ok (.aload_n 0, 1) := by decide +kernel
theorem dX1_add_26 : decode cX1_add 26 = .ok (.getfield 17, 3) := by decide +kernel
theorem dX1_add_29 : decode cX1_add 29 = .ok (.istore_n 2, 1) := by decide +kernel
theorem dX1_add_30 : decode cX1_add 30 = .ok (.aload_n 0, 1) := by decide +kernel
theorem dX1_add_31 : decode cX1_add 31 = .ok (.getfield 11, 3) := by decide +kernel
theorem dX1_add_34 : decode cX1_add 34 = .ok (.iload_n 2, 1) := by decide +kernel
theorem dX1_add_35 : decode cX1_add 35 = .ok (.aload_n 1, 1) := by decide +kernel
theorem dX1_add_36 : decode cX1_add 36 = .ok (.aastore, 1) := by decide +kernel
theorem dX1_add_37 : decode cX1_add 37 = .ok (.aload_n 1, 1) := by decide +kernel
theorem dX1_add_38 : decode cX1_add 38 = .ok (.iconst 1, 1) := by decide +kernel
theorem dX1_add_39 : decode cX1_add 39 = .ok (.invokevirtual 24, 3) := by decide +kernel
theorem dX1_add_42 : decode cX1_add 42 = .ok (.aload_n 0, 1) := by decide +kernel
theorem dX1_add_43 : decode cX1_add 43 = .ok (.dup, 1) := by decide +kernel
theorem dX1_add_44 : decode cX1_add 44 = .ok (.getfield 17, 3) := by decide +kernel
theorem dX1_add_47 : decode cX1_add 47 = .ok (.iconst 1, 1) := by decide +kernel
theorem dX1_add_48 : decode cX1_add 48 = .ok (.iadd, 1) := by decide +kernel
theorem dX1_add_49 : decode cX1_add 49 = .ok (.putfield 17, 3) := by decide +kernel
theorem dX1_add_52 : decode cX1_add 52 = .ok (.aload_n 0, 1) := by decide +kernel
theorem dX1_add_53 : decode cX1_add 53 = .ok (.dup, 1) := by decide +kernel
theorem dX1_add_54 : decode cX1_add 54 = .ok (.getfield 21, 3) := by decide +kernel
theorem dX1_add_57 : decode cX1_add 57 = .ok (.iconst 1, 1) := by decide +kernel
theorem dX1_add_58 : decode cX1_add 58 = .ok (.iadd, 1) := by decide +kernel
theorem dX1_add_59 : decode cX1_add 59 = .ok (.putfield 21, 3) := by decide +kernel
theorem dX1_add_62 : decode cX1_add 62 = .ok (.iload_n 2, 1) := by decide +kernel
theorem dX1_add_63 : decode cX1_add 63 = .ok (.ireturn, 1) := by decide +kernel
theorem dX1_remove_0 : decode cX1_remove 0 = .ok (.aload_n 1, 1) := by decide +kernel
theorem dX1_remove_1 : decode cX1_remove 1 = .ok (.ifnull 25, 3) := by decide +kernel
theorem dX1_remove_4 : decode cX1_remove 4 = .ok (.aload_n 1, 1) := by decide +kernel
theorem dX1_remove_5 : decode cX1_remove 5 = .ok (.invokevirtual 28, 3) := by decide +kernel
theorem dX1_remove_8 : decode cX1_remove 8 = .ok (.ifCond .eq 18, 3) := by decide +kernel
theorem dX1_remove_11 : decode cX1_remove 11 = .ok (.aload_n 1, 1) := by decide +kernel
theorem dX1_remove_12 : decode cX1_remove 12 = .ok (.iconst 0, 1) := by decide +kernel
theorem dX1_remove_13 : decode cX1_remove 13 = .ok (.invokevirtual 24, 3) := by decide +kernel
theorem dX1_remove_16 : decode cX1_remove 16 = .ok (.aload_n 0, 1) := by decide +kernel
theorem dX1_remove_17 : decode cX1_remove 17 = .ok (.dup, 1) := by decide +kernel
theorem dX1_remove_18 : decode cX1_remove 18 = .ok (.getfield 21, 3) := by decide +kernel
theorem dX1_remove_21 : decode cX1_remove 21 = .ok (.iconst 1, 1) := by decide +kernel
theorem dX1_remove_22 : decode cX1_remove 22 = .ok (.isub, 1) := by decide +kernel
theorem dX1_remove_23 : decode cX1_remove 23 = .ok (.putfield 21, 3) := by decide +kernel
theorem dX1_remove_26 : decode cX1_remove 26 = .ok (.return_, 1) := by decide +kernel
theorem dX1_find_0 : decode cX1_find 0 = .ok (.iload_n 1, 1) := by decide +kernel
theorem dX1_find_1 : decode cX1_find 1 = .ok (.ifCond .lt 20, 3) := by decide +kernel
theorem dX1_find_4 : decode cX1_find 4 = .ok (.iload_n 1, 1) := by decide +kernel
theorem dX1_find_5 : decode cX1_find 5 = .ok (.aload_n 0, 1) := by decide +kernel
theorem dX1_find_6 : decode cX1_find 6 = .ok (.getfield 17, 3) := by decide +kernel
theorem dX1_find_9 : decode cX1_find 9 = .ok (.if_icmp .ge 12, 3) := by decide +kernel
theorem dX1_find_12 : decode cX1_find 12 = .ok (.iload_n 1, 1) := by decide +kernel
theorem dX1_find_13 : decode cX1_find 13 = .ok (.aload_n 0, 1) := by decide +kernel
theorem dX1_find_14 : decode cX1_find 14 = .ok (.getfield 11, 3) := by decide +kernel
theorem dX1_find_17 : decode cX1_find 17 = .ok (.arraylength, 1) := by decide +kernel
theorem dX1_find_18 : decode cX1_find 18 = .ok (.if_icmp .lt 5, 3) := by decide +kernel
theorem dX1_find_21 : decode cX1_find 21 = .ok (.aconst_null, 1) := by decide +kernel
theorem dX1_find_22 : decode cX1_find 22 = .ok (.areturn, 1) := by decide +kernel
theorem dX1_find_23 : decode cX1_find 23 = .ok (.aload_n 0, 1) := by decide +kernel
theorem dX1_find_24 : decode cX1_find 24 = .ok (.getfield 11, 3) := by decide +kernel
theorem dX1_find_27 : decode cX1_find 27 = .ok (.iload_n 1, 1) := by decide +kernel
theorem dX1_find_28 : decode cX1_find 28 = .ok (.aaload, 1) := by decide +kernel
theorem dX1_find_29 : decode cX1_find 29 = .ok (.astore_n 2, 1) := by decide +kernel
theorem dX1_find_30 : decode cX1_find 30 = .ok (.aload_n 2, 1) := by decide +kernel
theorem dX1_find_31 : decode cX1_find 31 = .ok (.ifnull 14, 3) := by decide +kernel
theorem dX1_find_34 : decode cX1_find 34 = .ok (.aload_n 2, 1) := by decide +kernel
theorem dX1_find_35 : decode cX1_find 35 = .ok (.invokevirtual 28, 3) := by decide +kernel
theorem dX1_find_38 : decode cX1_find 38 = .ok (.ifCond .eq 7, 3) := by decide +kernel
theorem dX1_find_41 : decode cX1_find 41 = .ok (.aload_n 2, 1) := by decide +kernel
theorem dX1_find_42 : decode cX1_find 42 = .ok (.goto 4, 3) := by decide +kernel
theorem dX1_find_45 : decode cX1_find 45 = .ok (.aconst_null, 1) := by decide +kernel
theorem dX1_find_46 : decode cX1_find 46 = .ok (.areturn, 1) := by decide +kernel
theorem dX2_init_0 : decode cX2_init 0 = .ok (.aload_n 0, 1) := by decide +kernel
theorem dX2_init_1 : decode cX2_init 1 = .ok (.invokespecial 3, 3) := by decide +kernel
theorem dX2_init_4 : decode cX2_init 4 = .ok (.aload_n 0, 1) := by decide +kernel
theorem dX2_init_5 : decode cX2_init 5 = .ok (.sipush 240, 3) := by decide +kernel
theorem dX2_init_8 : decode cX2_init 8 = .ok (.newarray .int, 2) := by decide +kernel
theorem dX2_init_10 : decode cX2_init 10 = .ok (.putfield 9, 3) := by decide +kernel
theorem dX2_init_13 : decode cX2_init 13 = .ok (.aload_n 0, 1) := by decide +kernel
theorem dX2_init_14 : decode cX2_init 14 = .ok (.sipush 240, 3) := by decide +kernel
theorem dX2_init_17 : decode cX2_init 17 = .ok (.newarray .long, 2) := by decide +kernel
theorem dX2_init_19 : decode cX2_init 19 = .ok (.putfield 15, 3) := by decide +kernel
theorem dX2_init_22 : decode cX2_init 22 = .ok (.aload_n 0, 1) := by decide +kernel
theorem dX2_init_23 : decode cX2_init 23 = .ok (.bipush 15, 2) := by decide +kernel
theorem dX2_init_25 : decode cX2_init 25 = .ok (.newarray .int, 2) := by decide +kernel
theorem dX2_init_27 : decode cX2_init 27 = .ok (.putfield 19, 3) := by decide +kernel
theorem dX2_init_30 : decode cX2_init 30 = .ok (.aload_n 0, 1) := by decide +kernel
theorem dX2_init_31 : decode cX2_init 31 = .ok (.bipush 15, 2) := by decide +kernel
theorem dX2_init_33 : decode cX2_init 33 = .ok (.newarray .long, 2) := by decide +kernel
theorem dX2_init_35 : decode cX2_init 35 = .ok (.putfield 22, 3) := by decide +kernel
theorem dX2_init_38 : decode cX2_init 38 = .ok (.aload_n 0, 1) := by decide +kernel
theorem dX2_init_39 : decode cX2_init 39 = .ok (.iload_n 1, 1) := by decide +kernel
theorem dX2_init_40 : decode cX2_init 40 = .ok (.putfield 25, 3) := by decide +kernel
theorem dX2_init_43 : decode cX2_init 43 = .ok (.return_, 1) := by decide +kernel
theorem dX2_shareOf_0 : decode cX2_shareOf 0 = .ok (.iload_n 1, 1) := by decide +kernel
theorem dX2_shareOf_1 : decode cX2_shareOf 1 = .ok (.iload_n 2, 1) := by decide +kernel
theorem dX2_shareOf_2 : decode cX2_shareOf 2 = .ok (.invokestatic 29, 3) := by decide +kernel
theorem dX2_shareOf_5 : decode cX2_shareOf 5 = .ok (.istore_n 3, 1) := by decide +kernel
theorem dX2_shareOf_6 : decode cX2_shareOf 6 = .ok (.iload_n 3, 1) := by decide +kernel
theorem dX2_shareOf_7 : decode cX2_shareOf 7 = .ok (.ifCond .lt 21, 3) := by decide +kernel
theorem dX2_shareOf_10 : decode cX2_shareOf 10 = .ok (.iload_n 3, 1) := by decide +kernel
theorem dX2_shareOf_11 : decode cX2_shareOf 11 = .ok (.aload_n 0, 1) := by decide +kernel
theorem dX2_shareOf_12 : decode cX2_shareOf 12 = .ok (.getfield 9, 3) := by decide +kernel
theorem dX2_shareOf_15 : decode cX2_shareOf 15 = .ok (.arraylength, 1) := by decide +kernel
theorem dX2_shareOf_16 : decode cX2_shareOf 16 = .ok (.if_icmp .ge 12, 3) := by decide +kernel
theorem dX2_shareOf_19 : decode cX2_shareOf 19 = .ok (.aload_n 0, 1) := by decide +kernel
theorem dX2_shareOf_20 : decode cX2_shareOf 20 = .ok (.getfield 9, 3) := by decide +kernel
theorem dX2_shareOf_23 : decode cX2_shareOf 23 = .ok (.iload_n 3, 1) := by decide +kernel
theorem dX2_shareOf_24 : decode cX2_shareOf 24 = .ok (.iaload, 1) := by decide +kernel
theorem dX2_shareOf_25 : decode cX2_shareOf 25 = .ok (.goto 4, 3) := by decide +kernel
theorem dX2_shareOf_28 : decode cX2_shareOf 28 = .ok (.iconst 0, 1) := by decide +kernel
theorem dX2_shareOf_29 : decode cX2_shareOf 29 = .ok (.ireturn, 1) := by decide +kernel
theorem dX2_start_0 : decode cX2_start 0 = .ok (.aload_n 0, 1) := by decide +kernel
theorem dX2_start_1 : decode cX2_start 1 = .ok (.aload_n 1, 1) := by decide +kernel
theorem dX2_start_2 : decode cX2_start 2 = .ok (.invokevirtual 33, 3) := by decide +kernel
theorem dX2_start_5 : decode cX2_start 5 = .ok (.aload_n 0, 1) := by decide +kernel
theorem dX2_start_6 : decode cX2_start 6 = .ok (.invokevirtual 37, 3) := by decide +kernel
theorem dX2_start_9 : decode cX2_start 9 = .ok (.pop, 1) := by decide +kernel
theorem dX2_start_10 : decode cX2_start 10 = .ok (.aload_n 0, 1) := by decide +kernel
theorem dX2_start_11 : decode cX2_start 11 = .ok (.invokevirtual 41, 3) := by decide +kernel
theorem dX2_start_14 : decode cX2_start 14 = .ok (.ireturn, 1) := by decide +kernel
theorem dX2_learn_0 : decode cX2_learn 0 = .ok (.aload_n 0, 1) := by decide +kernel
theorem dX2_learn_1 : decode cX2_learn 1 = .ok (.aload_n 1, 1) := by decide +kernel
theorem dX2_learn_2 : decode cX2_learn 2 = .ok (.invokevirtual 44, 3) := by decide +kernel
theorem dX2_learn_5 : decode cX2_learn 5 = .ok (.aload_n 0, 1) := by decide +kernel
theorem dX2_learn_6 : decode cX2_learn 6 = .ok (.invokevirtual 37, 3) := by decide +kernel
theorem dX2_learn_9 : decode cX2_learn 9 = .ok (.ireturn, 1) := by decide +kernel
theorem dX2_cellOf_0 : decode cX2_cellOf 0 = .ok (.iload_n 0, 1) := by decide +kernel
theorem dX2_cellOf_1 : decode cX2_cellOf 1 = .ok (.ifCond .lt 23, 3) := by decide +kernel
theorem dX2_cellOf_4 : decode cX2_cellOf 4 = .ok (.iload_n 0, 1) := by decide +kernel
theorem dX2_cellOf_5 : decode cX2_cellOf 5 = .ok (.bipush 15, 2) := by decide +kernel
theorem dX2_cellOf_7 : decode cX2_cellOf 7 = .ok (.if_icmp .gt 17, 3) := by decide +kernel
theorem dX2_cellOf_10 : decode cX2_cellOf 10 = .ok (.iload_n 1, 1) := by decide +kernel
theorem dX2_cellOf_11 : decode cX2_cellOf 11 = .ok (.ifCond .lt 13, 3) := by decide +kernel
theorem dX2_cellOf_14 : decode cX2_cellOf 14 = .ok (.iload_n 1, 1) := by decide +kernel
theorem dX2_cellOf_15 : decode cX2_cellOf 15 = .ok (.bipush 15, 2) := by decide +kernel
theorem dX2_cellOf_17 : decode cX2_cellOf 17 = .ok (.if_icmp .ge 7, 3) := by decide +kernel
theorem dX2_cellOf_20 : decode cX2_cellOf 20 = .ok (.iconst 1, 1) := by decide +kernel
theorem dX2_cellOf_21 : decode cX2_cellOf 21 = .ok (.goto 4, 3) := by decide +kernel
theorem dX2_cellOf_24 : decode cX2_cellOf 24 = .ok (.iconst 0, 1) := by decide +kernel
theorem dX2_cellOf_25 : decode cX2_cellOf 25 = .ok (.istore_n 2, 1) := by decide +kernel
theorem dX2_cellOf_26 : decode cX2_cellOf 26 = .ok (.iload_n 2, 1) := by decide +kernel
theorem dX2_cellOf_27 : decode cX2_cellOf 27 = .ok (.ifCond .eq 12, 3) := by decide +kernel
theorem dX2_cellOf_30 : decode cX2_cellOf 30 = .ok (.iload_n 0, 1) := by decide +kernel
theorem dX2_cellOf_31 : decode cX2_cellOf 31 = .ok (.bipush 15, 2) := by decide +kernel
theorem dX2_cellOf_33 : decode cX2_cellOf 33 = .ok (.imul, 1) := by decide +kernel
theorem dX2_cellOf_34 : decode cX2_cellOf 34 = .ok (.iload_n 1, 1) := by decide +kernel
theorem dX2_cellOf_35 : decode cX2_cellOf 35 = .ok (.iadd, 1) := by decide +kernel
theorem dX2_cellOf_36 : decode cX2_cellOf 36 = .ok (.goto 4, 3) := by decide +kernel
theorem dX2_cellOf_39 : decode cX2_cellOf 39 = .ok (.iconst (-1), 1) := by decide +kernel
theorem dX2_cellOf_40 : decode cX2_cellOf 40 = .ok (.ireturn, 1) := by decide +kernel
theorem dX2_countMeetings_0 : decode cX2_countMeetings 0 = .ok (.aload_n 0, 1) := by decide +kernel
theorem dX2_countMeetings_1 : decode cX2_countMeetings 1 = .ok (.getfield 15, 3) := by decide +kernel
theorem dX2_countMeetings_4 : decode cX2_countMeetings 4 = .ok (.lconst 0, 1) := by decide +kernel
theorem dX2_countMeetings_5 : decode cX2_countMeetings 5 = .ok (.invokestatic 47, 3) := by decide +kernel
theorem dX2_countMeetings_8 : decode cX2_countMeetings 8 = .ok (.iconst 0, 1) := by decide +kernel
theorem dX2_countMeetings_9 : decode cX2_countMeetings 9 = .ok (.istore_n 2, 1) := by decide +kernel
theorem dX2_countMeetings_10 : decode cX2_countMeetings 10 = .ok (.iload_n 2, 1) := by decide +kernel
theorem dX2_countMeetings_11 : decode cX2_countMeetings 11 = .ok (.aload_n 1, 1) := by decide +kernel
theorem dX2_countMeetings_12 : decode cX2_countMeetings 12 = .ok (.invokevirtual 53, 3) := by decide +kernel
theorem dX2_countMeetings_15 : decode cX2_countMeetings 15 = .ok (.if_icmp .ge 41, 3) := by decide +kernel
theorem dX2_countMeetings_18 : decode cX2_countMeetings 18 = .ok (.aload_n 1, 1) := by decide +kernel
theorem dX2_countMeetings_19 : decode cX2_countMeetings 19 = .ok (.iload_n 2, 1) := by decide +kernel
theorem dX2_countMeetings_20 : decode cX2_countMeetings 20 = .ok (.invokevirtual 58, 3) := by decide +kernel
theorem dX2_countMeetings_23 : decode cX2_countMeetings 23 = .ok (.astore_n 3, 1) := by decide +kernel
theorem dX2_countMeetings_24 : decode cX2_countMeetings 24 = .ok (.aload_n 3, 1) := by decide +kernel
theorem dX2_countMeetings_25 : decode cX2_countMeetings 25 = .ok (.ifnull 25, 3) := by decide +kernel
theorem dX2_countMeetings_28 : decode cX2_countMeetings 28 = .ok (.aload_n 0, 1) := by decide +kernel
theorem dX2_countMeetings_29 : decode cX2_countMeetings 29 = .ok (.aload_n 3, 1) := by decide +kernel
theorem dX2_countMeetings_30 : decode cX2_countMeetings 30 = .ok (.aload_n 0, 1) := by decide +kernel
theorem dX2_countMeetings_31 : decode cX2_countMeetings 31 = .ok (.getfield 25, 3) := by decide +kernel
theorem dX2_countMeetings_34 : decode cX2_countMeetings 34 = .ok (.invokevirtual 62, 3) := by decide +kernel
theorem dX2_countMeetings_37 : decode cX2_countMeetings 37 = .ok (.aload_n 3, 1) := by decide +kernel
theorem dX2_countMeetings_38 : decode cX2_countMeetings 38 = .ok (.iconst 1, 1) := by decide +kernel
theorem dX2_countMeetings_39 : decode cX2_countMeetings 39 = .ok (.aload_n 0, 1) := by decide +kernel
theorem dX2_countMeetings_40 : decode cX2_countMeetings 40 = .ok (.getfield 25, 3) := by decide +kernel
theorem dX2_countMeetings_43 : decode cX2_countMeetings 43 = .ok (.isub, 1) := by decide +kernel
theorem dX2_countMeetings_44 : decode cX2_countMeetings 44 = .ok (.invokevirtual 62, 3) := by decide +kernel
theorem dX2_countMeetings_47 : decode cX2_countMeetings 47 = .ok (.invokevirtual 68, 3) := by decide +kernel
theorem dX2_countMeetings_50 : decode cX2_countMeetings 50 = .ok (.iinc 2 1, 3) := by decide +kernel
theorem dX2_countMeetings_53 : decode cX2_countMeetings 53 = .ok (.goto (-43), 3) := by decide +kernel
theorem dX2_countMeetings_56 : decode cX2_countMeetings 56 = .ok (.return_, 1) := by decide +kernel
theorem dX2_meetAll_0 : decode cX2_meetAll 0 = .ok (.iconst 0, 1) := by decide +kernel
theorem dX2_meetAll_1 : decode cX2_meetAll 1 = .ok (.istore_n 3, 1) := by decide +kernel
theorem dX2_meetAll_2 : decode cX2_meetAll 2 = .ok (.iload_n 3, 1) := by decide +kernel
theorem dX2_meetAll_3 : decode cX2_meetAll 3 = .ok (.aload_n 2, 1) := by decide +kernel
theorem dX2_meetAll_4 : decode cX2_meetAll 4 = .ok (.invokevirtual 72, 3) := by decide +kernel
theorem dX2_meetAll_7 : decode cX2_meetAll 7 = .ok (.if_icmp .ge 54, 3) := by decide +kernel
theorem dX2_meetAll_10 : decode cX2_meetAll 10 = .ok (.aload_n 2, 1) := by decide +kernel
theorem dX2_meetAll_11 : decode cX2_meetAll 11 = .ok (.iload_n 3, 1) := by decide +kernel
theorem dX2_meetAll_12 : decode cX2_meetAll 12 = .ok (.invokevirtual 77, 3) := by decide +kernel
theorem dX2_meetAll_15 : decode cX2_meetAll 15 = .ok (.istore 4, 2) := by decide +kernel
theorem dX2_meetAll_17 : decode cX2_meetAll 17 = .ok (.aload_n 0, 1) := by decide +kernel
theorem dX2_meetAll_18 : decode cX2_meetAll 18 = .ok (.bipush 15, 2) := by decide +kernel
theorem dX2_meetAll_20 : decode cX2_meetAll 20 = .ok (.iload 4, 2) := by decide +kernel
theorem dX2_meetAll_22 : decode cX2_meetAll 22 = .ok (.invokevirtual 81, 3) := by decide +kernel
theorem dX2_meetAll_25 : decode cX2_meetAll 25 = .ok (.iconst 0, 1) := by decide +kernel
theorem dX2_meetAll_26 : decode cX2_meetAll 26 = .ok (.istore 5, 2) := by decide +kernel
theorem dX2_meetAll_28 : decode cX2_meetAll 28 = .ok (.iload 5, 2) := by decide +kernel
theorem dX2_meetAll_30 : decode cX2_meetAll 30 = .ok (.aload_n 1, 1) := by decide +kernel
theorem dX2_meetAll_31 : decode cX2_meetAll 31 = .ok (.invokevirtual 72, 3) := by decide +kernel
theorem dX2_meetAll_34 : decode cX2_meetAll 34 = .ok (.if_icmp .ge 21, 3) := by decide +kernel
theorem dX2_meetAll_37 : decode cX2_meetAll 37 = .ok (.aload_n 0, 1) := by decide +kernel
theorem dX2_meetAll_38 : decode cX2_meetAll 38 = .ok (.aload_n 1, 1) := by decide +kernel
theorem dX2_meetAll_39 : decode cX2_meetAll 39 = .ok (.iload 5, 2) := by decide +kernel
theorem dX2_meetAll_41 : decode cX2_meetAll 41 = .ok (.invokevirtual 77, 3) := by decide +kernel
theorem dX2_meetAll_44 : decode cX2_meetAll 44 = .ok (.iload 4, 2) := by decide +kernel
theorem dX2_meetAll_46 : decode cX2_meetAll 46 = .ok (.invokevirtual 81, 3) := by decide +kernel
theorem dX2_meetAll_49 : decode cX2_meetAll 49 = .ok (.iinc 5 1, 3) := by decide +kernel
theorem dX2_meetAll_52 : decode cX2_meetAll 52 = .ok (.goto (-24), 3) := by decide +kernel
theorem dX2_meetAll_55 : decode cX2_meetAll 55 = .ok (.iinc 3 1, 3) := by decide +kernel
theorem dX2_meetAll_58 : decode cX2_meetAll 58 = .ok (.goto (-56), 3) := by decide +kernel
theorem dX2_meetAll_61 : decode cX2_meetAll 61 = .ok (.return_, 1) := by decide +kernel
theorem dX2_meet_0 : decode cX2_meet 0 = .ok (.iload_n 1, 1) := by decide +kernel
theorem dX2_meet_1 : decode cX2_meet 1 = .ok (.iload_n 2, 1) := by decide +kernel
theorem dX2_meet_2 : decode cX2_meet 2 = .ok (.invokestatic 29, 3) := by decide +kernel
theorem dX2_meet_5 : decode cX2_meet 5 = .ok (.istore_n 3, 1) := by decide +kernel
theorem dX2_meet_6 : decode cX2_meet 6 = .ok (.iload_n 3, 1) := by decide +kernel
theorem dX2_meet_7 : decode cX2_meet 7 = .ok (.ifCond .lt 19, 3) := by decide +kernel
theorem dX2_meet_10 : decode cX2_meet 10 = .ok (.iload_n 3, 1) := by decide +kernel
theorem dX2_meet_11 : decode cX2_meet 11 = .ok (.aload_n 0, 1) := by decide +kernel
theorem dX2_meet_12 : decode cX2_meet 12 = .ok (.getfield 15, 3) := by decide +kernel
theorem dX2_meet_15 : decode cX2_meet 15 = .ok (.arraylength, 1) := by decide +kernel
theorem dX2_meet_16 : decode cX2_meet 16 = .ok (.if_icmp .ge 10, 3) := by decide +kernel
theorem dX2_meet_19 : decode cX2_meet 19 = .ok (.aload_n 0, 1) := by decide +kernel
theorem dX2_meet_20 : decode cX2_meet 20 = .ok (.getfield 15, 3) := by decide +kernel
theorem dX2_meet_23 : decode cX2_meet 23 = .ok (.iload_n 3, 1) := by decide +kernel
theorem dX2_meet_24 : decode cX2_meet 24 = .ok (.lconst 1, 1) := by decide +kernel
theorem dX2_meet_25 : decode cX2_meet 25 = .ok (.lastore, 1) := by decide +kernel
theorem dX2_meet_26 : decode cX2_meet 26 = .ok (.return_, 1) := by decide +kernel
theorem dX2_countAnswers_0 : decode cX2_countAnswers 0 = .ok (.aload_n 0, 1) := by decide +kernel
theorem dX2_countAnswers_1 : decode cX2_countAnswers 1 = .ok (.getfield 15, 3) := by decide +kernel
theorem dX2_countAnswers_4 : decode cX2_countAnswers 4 = .ok (.lconst 0, 1) := by decide +kernel
theorem dX2_countAnswers_5 : decode cX2_countAnswers 5 = .ok (.invokestatic 47, 3) := by decide +kernel
theorem dX2_countAnswers_8 : decode cX2_countAnswers 8 = .ok (.iconst 0, 1) := by decide +kernel
theorem dX2_countAnswers_9 : decode cX2_countAnswers 9 = .ok (.istore_n 2, 1) := by decide +kernel
theorem dX2_countAnswers_10 : decode cX2_countAnswers 10 = .ok (.iload_n 2, 1) := by decide +kernel
theorem dX2_countAnswers_11 : decode cX2_countAnswers 11 = .ok (.aload_n 1, 1) := by decide +kernel
theorem dX2_countAnswers_12 : decode cX2_countAnswers 12 = .ok (.invokevirtual 53, 3) := by decide +kernel
theorem dX2_countAnswers_15 : decode cX2_countAnswers 15 = .ok (.if_icmp .ge 41, 3) := by decide +kernel
theorem dX2_countAnswers_18 : decode cX2_countAnswers 18 = .ok (.aload_n 1, 1) := by decide +kernel
theorem dX2_countAnswers_19 : decode cX2_countAnswers 19 = .ok (.iload_n 2, 1) := by decide +kernel
theorem dX2_countAnswers_20 : decode cX2_countAnswers 20 = .ok (.invokevirtual 58, 3) := by decide +kernel
theorem dX2_countAnswers_23 : decode cX2_countAnswers 23 = .ok (.astore_n 3, 1) := by decide +kernel
theorem dX2_countAnswers_24 : decode cX2_countAnswers 24 = .ok (.aload_n 3, 1) := by decide +kernel
theorem dX2_countAnswers_25 : decode cX2_countAnswers 25 = .ok (.ifnull 25, 3) := by decide +kernel
theorem dX2_countAnswers_28 : decode cX2_countAnswers 28 = .ok (.aload_n 0, 1) := by decide +kernel
theorem dX2_countAnswers_29 : decode cX2_countAnswers 29 = .ok (.aload_n 3, 1) := by decide +kernel
theorem dX2_countAnswers_30 : decode cX2_countAnswers 30 = .ok (.aload_n 0, 1) := by decide +kernel
theorem dX2_countAnswers_31 : decode cX2_countAnswers 31 = .ok (.getfield 25, 3) := by decide +kernel
theorem dX2_countAnswers_34 : decode cX2_countAnswers 34 = .ok (.invokevirtual 62, 3) := by decide +kernel
theorem dX2_countAnswers_37 : decode cX2_countAnswers 37 = .ok (.aload_n 3, 1) := by decide +kernel
theorem dX2_countAnswers_38 : decode cX2_countAnswers 38 = .ok (.iconst 1, 1) := by decide +kernel
theorem dX2_countAnswers_39 : decode cX2_countAnswers 39 = .ok (.aload_n 0, 1) := by decide +kernel
theorem dX2_countAnswers_40 : decode cX2_countAnswers 40 = .ok (.getfield 25, 3) := by decide +kernel
theorem dX2_countAnswers_43 : decode cX2_countAnswers 43 = .ok (.isub, 1) := by decide +kernel
theorem dX2_countAnswers_44 : decode cX2_countAnswers 44 = .ok (.invokevirtual 62, 3) := by decide +kernel
theorem dX2_countAnswers_47 : decode cX2_countAnswers 47 = .ok (.invokevirtual 85, 3) := by decide +kernel
theorem dX2_countAnswers_50 : decode cX2_countAnswers 50 = .ok (.iinc 2 1, 3) := by decide +kernel
theorem dX2_countAnswers_53 : decode cX2_countAnswers 53 = .ok (.goto (-43), 3) := by decide +kernel
theorem dX2_countAnswers_56 : decode cX2_countAnswers 56 = .ok (.return_, 1) := by decide +kernel
theorem dX2_answerAll_0 : decode cX2_answerAll 0 = .ok (.iconst 0, 1) := by decide +kernel
theorem dX2_answerAll_1 : decode cX2_answerAll 1 = .ok (.istore_n 3, 1) := by decide +kernel
theorem dX2_answerAll_2 : decode cX2_answerAll 2 = .ok (.iload_n 3, 1) := by decide +kernel
theorem dX2_answerAll_3 : decode cX2_answerAll 3 = .ok (.aload_n 2, 1) := by decide +kernel
theorem dX2_answerAll_4 : decode cX2_answerAll 4 = .ok (.invokevirtual 72, 3) := by decide +kernel
theorem dX2_answerAll_7 : decode cX2_answerAll 7 = .ok (.if_icmp .ge 67, 3) := by decide +kernel
theorem dX2_answerAll_10 : decode cX2_answerAll 10 = .ok (.aload_n 2, 1) := by decide +kernel
theorem dX2_answerAll_11 : decode cX2_answerAll 11 = .ok (.iload_n 3, 1) := by decide +kernel
theorem dX2_answerAll_12 : decode cX2_answerAll 12 = .ok (.invokevirtual 77, 3) := by decide +kernel
theorem dX2_answerAll_15 : decode cX2_answerAll 15 = .ok (.istore 4, 2) := by decide +kernel
theorem dX2_answerAll_17 : decode cX2_answerAll 17 = .ok (.aload_n 0, 1) := by decide +kernel
theorem dX2_answerAll_18 : decode cX2_answerAll 18 = .ok (.aload_n 1, 1) := by decide +kernel
theorem dX2_answerAll_19 : decode cX2_answerAll 19 = .ok (.iload 4, 2) := by decide +kernel
theorem dX2_answerAll_21 : decode cX2_answerAll 21 = .ok (.invokevirtual 88, 3) := by decide +kernel
theorem dX2_answerAll_24 : decode cX2_answerAll 24 = .ok (.lstore 5, 2) := by decide +kernel
theorem dX2_answerAll_26 : decode cX2_answerAll 26 = .ok (.aload_n 0, 1) := by decide +kernel
theorem dX2_answerAll_27 : decode cX2_answerAll 27 = .ok (.bipush 15, 2) := by decide +kernel
theorem dX2_answerAll_29 : decode cX2_answerAll 29 = .ok (.iload 4, 2) := by decide +kernel
theorem dX2_answerAll_31 : decode cX2_answerAll 31 = .ok (.lload 5, 2) := by decide +kernel
theorem dX2_answerAll_33 : decode cX2_answerAll 33 = .ok (.invokevirtual 92, 3) := by decide +kernel
theorem dX2_answerAll_36 : decode cX2_answerAll 36 = .ok (.iconst 0, 1) := by decide +kernel
theorem dX2_answerAll_37 : decode cX2_answerAll 37 = .ok (.istore 7, 2) := by decide +kernel
theorem dX2_answerAll_39 : decode cX2_answerAll 39 = .ok (.iload 7, 2) := by decide +kernel
theorem dX2_answerAll_41 : decode cX2_answerAll 41 = .ok (.aload_n 1, 1) := by decide +kernel
theorem dX2_answerAll_42 : decode cX2_answerAll 42 = .ok (.invokevirtual 72, 3) := by decide +kernel
theorem dX2_answerAll_45 : decode cX2_answerAll 45 = .ok (.if_icmp .ge 23, 3) := by decide +kernel
theorem dX2_answerAll_48 : decode cX2_answerAll 48 = .ok (.aload_n 0, 1) := by decide +kernel
theorem dX2_answerAll_49 : decode cX2_answerAll 49 = .ok (.aload_n 1, 1) := by decide +kernel
theorem dX2_answerAll_50 : decode cX2_answerAll 50 = .ok (.iload 7, 2) := by decide +kernel
theorem dX2_answerAll_52 : decode cX2_answerAll 52 = .ok (.invokevirtual 77, 3) := by decide +kernel
theorem dX2_answerAll_55 : decode cX2_answerAll 55 = .ok (.iload 4, 2) := by decide +kernel
theorem dX2_answerAll_57 : decode cX2_answerAll 57 = .ok (.lload 5, 2) := by decide +kernel
theorem dX2_answerAll_59 : decode cX2_answerAll 59 = .ok (.invokevirtual 92, 3) := by decide +kernel
theorem dX2_answerAll_62 : decode cX2_answerAll 62 = .ok (.iinc 7 1, 3) := by decide +kernel
theorem dX2_answerAll_65 : decode cX2_answerAll 65 = .ok (.goto (-26), 3) := by decide +kernel
theorem dX2_answerAll_68 : decode cX2_answerAll 68 = .ok (.iinc 3 1, 3) := by decide +kernel
theorem dX2_answerAll_71 : decode cX2_answerAll 71 = .ok (.goto (-69), 3) := by decide +kernel
theorem dX2_answerAll_74 : decode cX2_answerAll 74 = .ok (.return_, 1) := by decide +kernel
theorem dX2_sumOfShares_0 : decode cX2_sumOfShares 0 = .ok (.aload_n 0, 1) := by decide +kernel
theorem dX2_sumOfShares_1 : decode cX2_sumOfShares 1 = .ok (.bipush 15, 2) := by decide +kernel
theorem dX2_sumOfShares_3 : decode cX2_sumOfShares 3 = .ok (.iload_n 2, 1) := by decide +kernel
theorem dX2_sumOfShares_4 : decode cX2_sumOfShares 4 = .ok (.invokevirtual 96, 3) := by decide +kernel
theorem dX2_sumOfShares_7 : decode cX2_sumOfShares 7 = .ok (.i2l, 1) := by decide +kernel
theorem dX2_sumOfShares_8 : decode cX2_sumOfShares 8 = .ok (.lstore_n 3, 1) := by decide +kernel
theorem dX2_sumOfShares_9 : decode cX2_sumOfShares 9 = .ok (.iconst 0, 1) := by decide +kernel
theorem dX2_sumOfShares_10 : decode cX2_sumOfShares 10 = .ok (.istore 5, 2) := by decide +kernel
theorem dX2_sumOfShares_12 : decode cX2_sumOfShares 12 = .ok (.iload 5, 2) := by decide +kernel
theorem dX2_sumOfShares_14 : decode cX2_sumOfShares 14 = .ok (.aload_n 1, 1) := by decide +kernel
theorem dX2_sumOfShares_15 : decode cX2_sumOfShares 15 = .ok (.invokevirtual 72, 3) := by decide +kernel
theorem dX2_sumOfShares_18 : decode cX2_sumOfShares 18 = .ok (.if_icmp .ge 24, 3) := by decide +kernel
theorem dX2_sumOfShares_21 : decode cX2_sumOfShares 21 = .ok (.lload_n 3, 1) := by decide +kernel
theorem dX2_sumOfShares_22 : decode cX2_sumOfShares 22 = .ok (.aload_n 0, 1) := by decide +kernel
theorem dX2_sumOfShares_23 : decode cX2_sumOfShares 23 = .ok (.aload_n 1, 1) := by decide +kernel
theorem dX2_sumOfShares_24 : decode cX2_sumOfShares 24 = .ok (.iload 5, 2) := by decide +kernel
theorem dX2_sumOfShares_26 : decode cX2_sumOfShares 26 = .ok (.invokevirtual 77, 3) := by decide +kernel
theorem dX2_sumOfShares_29 : decode cX2_sumOfShares 29 = .ok (.iload_n 2, 1) := by decide +kernel
theorem dX2_sumOfShares_30 : decode cX2_sumOfShares 30 = .ok (.invokevirtual 96, 3) := by decide +kernel
theorem dX2_sumOfShares_33 : decode cX2_sumOfShares 33 = .ok (.i2l, 1) := by decide +kernel
theorem dX2_sumOfShares_34 : decode cX2_sumOfShares 34 = .ok (.ladd, 1) := by decide +kernel
theorem dX2_sumOfShares_35 : decode cX2_sumOfShares 35 = .ok (.lstore_n 3, 1) := by decide +kernel
theorem dX2_sumOfShares_36 : decode cX2_sumOfShares 36 = .ok (.iinc 5 1, 3) := by decide +kernel
theorem dX2_sumOfShares_39 : decode cX2_sumOfShares 39 = .ok (.goto (-27), 3) := by decide +kernel
theorem dX2_sumOfShares_42 : decode cX2_sumOfShares 42 = .ok (.lload_n 3, 1) := by decide +kernel
theorem dX2_sumOfShares_43 : decode cX2_sumOfShares 43 = .ok (.lreturn, 1) := by decide +kernel
theorem dX2_addAnswer_0 : decode cX2_addAnswer 0 = .ok (.iload_n 1, 1) := by decide +kernel
theorem dX2_addAnswer_1 : decode cX2_addAnswer 1 = .ok (.iload_n 2, 1) := by decide +kernel
theorem dX2_addAnswer_2 : decode cX2_addAnswer 2 = .ok (.invokestatic 29, 3) := by decide +kernel
theorem dX2_addAnswer_5 : decode cX2_addAnswer 5 = .ok (.istore 5, 2) := by decide +kernel
theorem dX2_addAnswer_7 : decode cX2_addAnswer 7 = .ok (.lload_n 3, 1) := by decide +kernel
theorem dX2_addAnswer_8 : decode cX2_addAnswer 8 = .ok (.lconst 0, 1) := by decide +kernel
theorem dX2_addAnswer_9 : decode cX2_addAnswer 9 = .ok (.lcmp, 1) := by decide +kernel
theorem dX2_addAnswer_10 : decode cX2_addAnswer 10 = .ok (.ifCond .le 41, 3) := by decide +kernel
theorem dX2_addAnswer_13 : decode cX2_addAnswer 13 = .ok (.iload 5, 2) := by decide +kernel
theorem dX2_addAnswer_15 : decode cX2_addAnswer 15 = .ok (.ifCond .lt 36, 3) := by decide +kernel
theorem dX2_addAnswer_18 : decode cX2_addAnswer 18 = .ok (.iload 5, 2) := by decide +kernel
theorem dX2_addAnswer_20 : decode cX2_addAnswer 20 = .ok (.aload_n 0, 1) := by decide +kernel
theorem dX2_addAnswer_21 : decode cX2_addAnswer 21 = .ok (.getfield 15, 3) := by decide +kernel
theorem dX2_addAnswer_24 : decode cX2_addAnswer 24 = .ok (.arraylength, 1) := by decide +kernel
theorem dX2_addAnswer_25 : decode cX2_addAnswer 25 = .ok (.if_icmp .ge 26, 3) := by decide +kernel
theorem dX2_addAnswer_28 : decode cX2_addAnswer 28 = .ok (.aload_n 0, 1) := by decide +kernel
theorem dX2_addAnswer_29 : decode cX2_addAnswer 29 = .ok (.getfield 15, 3) := by decide +kernel
theorem dX2_addAnswer_32 : decode cX2_addAnswer 32 = .ok (.iload 5, 2) := by decide +kernel
theorem dX2_addAnswer_34 : decode cX2_addAnswer 34 = .ok (.dup2, 1) := by decide +kernel
theorem dX2_addAnswer_35 : decode cX2_addAnswer 35 = .ok (.laload, 1) := by decide +kernel
theorem dX2_addAnswer_36 : decode cX2_addAnswer 36 = .ok (.aload_n 0, 1) := by decide +kernel
theorem dX2_addAnswer_37 : decode cX2_addAnswer 37 = .ok (.iload_n 1, 1) := by decide +kernel
theorem dX2_addAnswer_38 : decode cX2_addAnswer 38 = .ok (.iload_n 2, 1) := by decide +kernel
theorem dX2_addAnswer_39 : decode cX2_addAnswer 39 = .ok (.invokevirtual 96, 3) := by decide +kernel
theorem dX2_addAnswer_42 : decode cX2_addAnswer 42 = .ok (.i2l, 1) := by decide +kernel
theorem dX2_addAnswer_43 : decode cX2_addAnswer 43 = .ok (.ldc2_w 99, 3) := by decide +kernel
theorem dX2_addAnswer_46 : decode cX2_addAnswer 46 = .ok (.lmul, 1) := by decide +kernel
theorem dX2_addAnswer_47 : decode cX2_addAnswer 47 = .ok (.lload_n 3, 1) := by decide +kernel
theorem dX2_addAnswer_48 : decode cX2_addAnswer 48 = .ok (.ldiv, 1) := by decide +kernel
theorem dX2_addAnswer_49 : decode cX2_addAnswer 49 = .ok (.ladd, 1) := by decide +kernel
theorem dX2_addAnswer_50 : decode cX2_addAnswer 50 = .ok (.lastore, 1) := by decide +kernel
theorem dX2_addAnswer_51 : decode cX2_addAnswer 51 = .ok (.return_, 1) := by decide +kernel
theorem dX2_apportionAll_0 : decode cX2_apportionAll 0 = .ok (.iconst 0, 1) := by decide +kernel
theorem dX2_apportionAll_1 : decode cX2_apportionAll 1 = .ok (.istore_n 1, 1) := by decide +kernel
theorem dX2_apportionAll_2 : decode cX2_apportionAll 2 = .ok (.iconst 0, 1) := by decide +kernel
theorem dX2_apportionAll_3 : decode cX2_apportionAll 3 = .ok (.istore_n 2, 1) := by decide +kernel
theorem dX2_apportionAll_4 : decode cX2_apportionAll 4 = .ok (.iload_n 2, 1) := by decide +kernel
theorem dX2_apportionAll_5 : decode cX2_apportionAll 5 = .ok (.bipush 15, 2) := by decide +kernel
theorem dX2_apportionAll_7 : decode cX2_apportionAll 7 = .ok (.if_icmp .gt 22, 3) := by decide +kernel
theorem dX2_apportionAll_10 : decode cX2_apportionAll 10 = .ok (.aload_n 0, 1) := by decide +kernel
theorem dX2_apportionAll_11 : decode cX2_apportionAll 11 = .ok (.iload_n 2, 1) := by decide +kernel
theorem dX2_apportionAll_12 : decode cX2_apportionAll 12 = .ok (.invokevirtual 101, 3) := by decide +kernel
theorem dX2_apportionAll_15 : decode cX2_apportionAll 15 = .ok (.iload_n 1, 1) := by decide +kernel
theorem dX2_apportionAll_16 : decode cX2_apportionAll 16 = .ok (.aload_n 0, 1) := by decide +kernel
theorem dX2_apportionAll_17 : decode cX2_apportionAll 17 = .ok (.iload_n 2, 1) := by decide +kernel
theorem dX2_apportionAll_18 : decode cX2_apportionAll 18 = .ok (.invokevirtual 105, 3) := by decide +kernel
theorem dX2_apportionAll_21 : decode cX2_apportionAll 21 = .ok (.iadd, 1) := by decide +kernel
theorem dX2_apportionAll_22 : decode cX2_apportionAll 22 = .ok (.istore_n 1, 1) := by decide +kernel
theorem dX2_apportionAll_23 : decode cX2_apportionAll 23 = .ok (.iinc 2 1, 3) := by decide +kernel
theorem dX2_apportionAll_26 : decode cX2_apportionAll 26 = .ok (.goto (-22), 3) := by decide +kernel
theorem dX2_apportionAll_29 : decode cX2_apportionAll 29 = .ok (.iload_n 1, 1) := by decide +kernel
theorem dX2_apportionAll_30 : decode cX2_apportionAll 30 = .ok (.ireturn, 1) := by decide +kernel
theorem dX2_apportion_0 : decode cX2_apportion 0 = .ok (.aload_n 0, 1) := by decide +kernel
theorem dX2_apportion_1 : decode cX2_apportion 1 = .ok (.getfield 19, 3) := by decide +kernel
theorem dX2_apportion_4 : decode cX2_apportion 4 = .ok (.iconst 0, 1) := by decide +kernel
theorem dX2_apportion_5 : decode cX2_apportion 5 = .ok (.invokestatic 108, 3) := by decide +kernel
theorem dX2_apportion_8 : decode cX2_apportion 8 = .ok (.lconst 0, 1) := by decide +kernel
theorem dX2_apportion_9 : decode cX2_apportion 9 = .ok (.lstore_n 2, 1) := by decide +kernel
theorem dX2_apportion_10 : decode cX2_apportion 10 = .ok (.iconst 0, 1) := by decide +kernel
theorem dX2_apportion_11 : decode cX2_apportion 11 = .ok (.istore 4, 2) := by decide +kernel
theorem dX2_apportion_13 : decode cX2_apportion 13 = .ok (.iload 4, 2) := by decide +kernel
theorem dX2_apportion_15 : decode cX2_apportion 15 = .ok (.bipush 15, 2) := by decide +kernel
theorem dX2_apportion_17 : decode cX2_apportion 17 = .ok (.if_icmp .ge 19, 3) := by decide +kernel
theorem dX2_apportion_20 : decode cX2_apportion 20 = .ok (.lload_n 2, 1) := by decide +kernel
theorem dX2_apportion_21 : decode cX2_apportion 21 = .ok (.aload_n 0, 1) := by decide +kernel
theorem dX2_apportion_22 : decode cX2_apportion 22 = .ok (.iload_n 1, 1) := by decide +kernel
theorem dX2_apportion_23 : decode cX2_apportion 23 = .ok (.iload 4, 2) := by decide +kernel
theorem dX2_apportion_25 : decode cX2_apportion 25 = .ok (.invokevirtual 111, 3) := by decide +kernel
theorem dX2_apportion_28 : decode cX2_apportion 28 = .ok (.ladd, 1) := by decide +kernel
theorem dX2_apportion_29 : decode cX2_apportion 29 = .ok (.lstore_n 2, 1) := by decide +kernel
theorem dX2_apportion_30 : decode cX2_apportion 30 = .ok (.iinc 4 1, 3) := by decide +kernel
theorem dX2_apportion_33 : decode cX2_apportion 33 = .ok (.goto (-20), 3) := by decide +kernel
theorem dX2_apportion_36 : decode cX2_apportion 36 = .ok (.lload_n 2, 1) := by decide +kernel
theorem dX2_apportion_37 : decode cX2_apportion 37 = .ok (.lconst 0, 1) := by decide +kernel
theorem dX2_apportion_38 : decode cX2_apportion 38 = .ok (.lcmp, 1) := by decide +kernel
theorem dX2_apportion_39 : decode cX2_apportion 39 = .ok (.ifCond .le 13, 3) := by decide +kernel
theorem dX2_apportion_42 : decode cX2_apportion 42 = .ok (.aload_n 0, 1) := by decide +kernel
theorem dX2_apportion_43 : decode cX2_apportion 43 = .ok (.aload_n 0, 1) := by decide +kernel
theorem dX2_apportion_44 : decode cX2_apportion 44 = .ok (.iload_n 1, 1) := by decide +kernel
theorem dX2_apportion_45 : decode cX2_apportion 45 = .ok (.lload_n 2, 1) := by decide +kernel
theorem dX2_apportion_46 : decode cX2_apportion 46 = .ok (.invokevirtual 115, 3) := by decide +kernel
theorem dX2_apportion_49 : decode cX2_apportion 49 = .ok (.invokevirtual 119, 3) := by decide +kernel
theorem dX2_apportion_52 : decode cX2_apportion 52 = .ok (.return_, 1) := by decide +kernel
theorem dX2_countOf_0 : decode cX2_countOf 0 = .ok (.iload_n 1, 1) := by decide +kernel
theorem dX2_countOf_1 : decode cX2_countOf 1 = .ok (.iload_n 2, 1) := by decide +kernel
theorem dX2_countOf_2 : decode cX2_countOf 2 = .ok (.invokestatic 29, 3) := by decide +kernel
theorem dX2_countOf_5 : decode cX2_countOf 5 = .ok (.istore_n 3, 1) := by decide +kernel
theorem dX2_countOf_6 : decode cX2_countOf 6 = .ok (.iload_n 3, 1) := by decide +kernel
theorem dX2_countOf_7 : decode cX2_countOf 7 = .ok (.ifCond .lt 21, 3) := by decide +kernel
theorem dX2_countOf_10 : decode cX2_countOf 10 = .ok (.iload_n 3, 1) := by decide +kernel
theorem dX2_countOf_11 : decode cX2_countOf 11 = .ok (.aload_n 0, 1) := by decide +kernel
theorem dX2_countOf_12 : decode cX2_countOf 12 = .ok (.getfield 15, 3) := by decide +kernel
theorem dX2_countOf_15 : decode cX2_countOf 15 = .ok (.arraylength, 1) := by decide +kernel
theorem dX2_countOf_16 : decode cX2_countOf 16 = .ok (.if_icmp .ge 12, 3) := by decide +kernel
theorem dX2_countOf_19 : decode cX2_countOf 19 = .ok (.aload_n 0, 1) := by decide +kernel
theorem dX2_countOf_20 : decode cX2_countOf 20 = .ok (.getfield 15, 3) := by decide +kernel
theorem dX2_countOf_23 : decode cX2_countOf 23 = .ok (.iload_n 3, 1) := by decide +kernel
theorem dX2_countOf_24 : decode cX2_countOf 24 = .ok (.laload, 1) := by decide +kernel
theorem dX2_countOf_25 : decode cX2_countOf 25 = .ok (.goto 4, 3) := by decide +kernel
theorem dX2_countOf_28 : decode cX2_countOf 28 = .ok (.lconst 0, 1) := by decide +kernel
theorem dX2_countOf_29 : decode cX2_countOf 29 = .ok (.lreturn, 1) := by decide +kernel
theorem dX2_giveWholes_0 : decode cX2_giveWholes 0 = .ok (.ldc 122, 2) := by decide +kernel
theorem dX2_giveWholes_2 : decode cX2_giveWholes 2 = .ok (.istore 4, 2) := by decide +kernel
theorem dX2_giveWholes_4 : decode cX2_giveWholes 4 = .ok (.iconst 0, 1) := by decide +kernel
theorem dX2_giveWholes_5 : decode cX2_giveWholes 5 = .ok (.istore 5, 2) := by decide +kernel
theorem dX2_giveWholes_7 : decode cX2_giveWholes 7 = .ok (.iload 5, 2) := by decide +kernel
theorem dX2_giveWholes_9 : decode cX2_giveWholes 9 = .ok (.aload_n 0, 1) := by decide +kernel
theorem dX2_giveWholes_10 : decode cX2_giveWholes 10 = .ok (.getfield 19, 3) := by decide +kernel
theorem dX2_giveWholes_13 : decode cX2_giveWholes 13 = .ok (.arraylength, 1) := by decide +kernel
theorem dX2_giveWholes_14 : decode cX2_giveWholes 14 = .ok (.if_icmp .ge 87, 3) := by decide +kernel
theorem dX2_giveWholes_17 : decode cX2_giveWholes 17 = .ok (.iload 5, 2) := by decide +kernel
theorem dX2_giveWholes_19 : decode cX2_giveWholes 19 = .ok (.aload_n 0, 1) := by decide +kernel
theorem dX2_giveWholes_20 : decode cX2_giveWholes 20 = .ok (.getfield 22, 3) := by decide +kernel
theorem dX2_giveWholes_23 : decode cX2_giveWholes 23 = .ok (.arraylength, 1) := by decide +kernel
theorem dX2_giveWholes_24 : decode cX2_giveWholes 24 = .ok (.if_icmp .ge 77, 3) := by decide +kernel
theorem dX2_giveWholes_27 : decode cX2_giveWholes 27 = .ok (.aload_n 0, 1) := by decide +kernel
theorem dX2_giveWholes_28 : decode cX2_giveWholes 28 = .ok (.iload_n 1, 1) := by decide +kernel
theorem dX2_giveWholes_29 : decode cX2_giveWholes 29 = .ok (.iload 5, 2) := by decide +kernel
theorem dX2_giveWholes_31 : decode cX2_giveWholes 31 = .ok (.invokevirtual 111, 3) := by decide +kernel
theorem dX2_giveWholes_34 : decode cX2_giveWholes 34 = .ok (.ldc2_w 99, 3) := by decide +kernel
theorem dX2_giveWholes_37 : decode cX2_giveWholes 37 = .ok (.lmul, 1) := by decide +kernel
theorem dX2_giveWholes_38 : decode cX2_giveWholes 38 = .ok (.lstore 6, 2) := by decide +kernel
theorem dX2_giveWholes_40 : decode cX2_giveWholes 40 = .ok (.aload_n 0, 1) := by decide +kernel
theorem dX2_giveWholes_41 : decode cX2_giveWholes 41 = .ok (.getfield 19, 3) := by decide +kernel
theorem dX2_giveWholes_44 : decode cX2_giveWholes 44 = .ok (.iload 5, 2) := by decide +kernel
theorem dX2_giveWholes_46 : decode cX2_giveWholes 46 = .ok (.lload_n 2, 1) := by decide +kernel
theorem dX2_giveWholes_47 : decode cX2_giveWholes 47 = .ok (.lconst 0, 1) := by decide +kernel
theorem dX2_giveWholes_48 : decode cX2_giveWholes 48 = .ok (.lcmp, 1) := by decide +kernel
theorem dX2_giveWholes_49 : decode cX2_giveWholes 49 = .ok (.ifCond .le 11, 3) := by decide +kernel
theorem dX2_giveWholes_52 : decode cX2_giveWholes 52 = .ok (.lload 6, 2) := by decide +kernel
theorem dX2_giveWholes_54 : decode cX2_giveWholes 54 = .ok (.lload_n 2, 1) := by decide +kernel
theorem dX2_giveWholes_55 : decode cX2_giveWholes 55 = .ok (.ldiv, 1) := by decide +kernel
theorem dX2_giveWholes_56 : decode cX2_giveWholes 56 = .ok (.l2i, 1) := by decide +kernel
theorem dX2_giveWholes_57 : decode cX2_giveWholes 57 = .ok (.goto 4, 3) := by decide +kernel
theorem dX2_giveWholes_60 : decode cX2_giveWholes 60 = .ok (.iconst 0, 1) := by decide +kernel
theorem dX2_giveWholes_61 : decode cX2_giveWholes 61 = .ok (.iastore, 1) := by decide +kernel
theorem dX2_giveWholes_62 : decode cX2_giveWholes 62 = .ok (.aload_n 0, 1) := by decide +kernel
theorem dX2_giveWholes_63 : decode cX2_giveWholes 63 = .ok (.getfield 22, 3) := by decide +kernel
theorem dX2_giveWholes_66 : decode cX2_giveWholes 66 = .ok (.iload 5, 2) := by decide +kernel
theorem dX2_giveWholes_68 : decode cX2_giveWholes 68 = .ok (.lload_n 2, 1) := by decide +kernel
theorem dX2_giveWholes_69 : decode cX2_giveWholes 69 = .ok (.lconst 0, 1) := by decide +kernel
theorem dX2_giveWholes_70 : decode cX2_giveWholes 70 = .ok (.lcmp, 1) := by decide +kernel
theorem dX2_giveWholes_71 : decode cX2_giveWholes 71 = .ok (.ifCond .le 10, 3) := by decide +kernel
theorem dX2_giveWholes_74 : decode cX2_giveWholes 74 = .ok (.lload 6, 2) := by decide +kernel
theorem dX2_giveWholes_76 : decode cX2_giveWholes 76 = .ok (.lload_n 2, 1) := by decide +kernel
theorem dX2_giveWholes_77 : decode cX2_giveWholes 77 = .ok (.lrem, 1) := by decide +kernel
theorem dX2_giveWholes_78 : decode cX2_giveWholes 78 = .ok (.goto 4, 3) := by decide +kernel
theorem dX2_giveWholes_81 : decode cX2_giveWholes 81 = .ok (.lconst 0, 1) := by decide +kernel
theorem dX2_giveWholes_82 : decode cX2_giveWholes 82 = .ok (.lastore, 1) := by decide +kernel
theorem dX2_giveWholes_83 : decode cX2_giveWholes 83 = .ok (.iload 4, 2) := by decide +kernel
theorem dX2_giveWholes_85 : decode cX2_giveWholes 85 = .ok (.aload_n 0, 1) := by decide +kernel
theorem dX2_giveWholes_86 : decode cX2_giveWholes 86 = .ok (.getfield 19, 3) := by decide +kernel
theorem dX2_giveWholes_89 : decode cX2_giveWholes 89 = .ok (.iload 5, 2) := by decide +kernel
theorem dX2_giveWholes_91 : decode cX2_giveWholes 91 = .ok (.iaload, 1) := by decide +kernel
theorem dX2_giveWholes_92 : decode cX2_giveWholes 92 = .ok (.isub, 1) := by decide +kernel
theorem dX2_giveWholes_93 : decode cX2_giveWholes 93 = .ok (.istore 4, 2) := by decide +kernel
theorem dX2_giveWholes_95 : decode cX2_giveWholes 95 = .ok (.iinc 5 1, 3) := by decide +kernel
theorem dX2_giveWholes_98 : decode cX2_giveWholes 98 = .ok (.goto (-91), 3) := by decide +kernel
theorem dX2_giveWholes_101 : decode cX2_giveWholes 101 = .ok (.iload 4, 2) := by decide +kernel
theorem dX2_giveWholes_103 : decode cX2_giveWholes 103 = .ok (.ireturn, 1) := by decide +kernel
theorem dX2_giveRests_0 : decode cX2_giveRests 0 = .ok (.iconst 0, 1) := by decide +kernel
theorem dX2_giveRests_1 : decode cX2_giveRests 1 = .ok (.istore_n 2, 1) := by decide +kernel
theorem dX2_giveRests_2 : decode cX2_giveRests 2 = .ok (.iload_n 2, 1) := by decide +kernel
theorem dX2_giveRests_3 : decode cX2_giveRests 3 = .ok (.iload_n 1, 1) := by decide +kernel
theorem dX2_giveRests_4 : decode cX2_giveRests 4 = .ok (.if_icmp .ge 61, 3) := by decide +kernel
theorem dX2_giveRests_7 : decode cX2_giveRests 7 = .ok (.iload_n 2, 1) := by decide +kernel
theorem dX2_giveRests_8 : decode cX2_giveRests 8 = .ok (.bipush 15, 2) := by decide +kernel
theorem dX2_giveRests_10 : decode cX2_giveRests 10 = .ok (.if_icmp .ge 55, 3) := by decide +kernel
theorem dX2_giveRests_13 : decode cX2_giveRests 13 = .ok (.aload_n 0, 1) := by decide +kernel
theorem dX2_giveRests_14 : decode cX2_giveRests 14 = .ok (.invokevirtual 123, 3) := by decide +kernel
theorem dX2_giveRests_17 : decode cX2_giveRests 17 = .ok (.istore_n 3, 1) := by decide +kernel
theorem dX2_giveRests_18 : decode cX2_giveRests 18 = .ok (.iload_n 3, 1) := by decide +kernel
theorem dX2_giveRests_19 : decode cX2_giveRests 19 = .ok (.ifCond .lt 40, 3) := by decide +kernel
theorem dX2_giveRests_22 : decode cX2_giveRests 22 = .ok (.iload_n 3, 1) := by decide +kernel
theorem dX2_giveRests_23 : decode cX2_giveRests 23 = .ok (.aload_n 0, 1) := by decide +kernel
theorem dX2_giveRests_24 : decode cX2_giveRests 24 = .ok (.getfield 19, 3) := by decide +kernel
theorem dX2_giveRests_27 : decode cX2_giveRests 27 = .ok (.arraylength, 1) := by decide +kernel
theorem dX2_giveRests_28 : decode cX2_giveRests 28 = .ok (.if_icmp .ge 31, 3) := by decide +kernel
theorem dX2_giveRests_31 : decode cX2_giveRests 31 = .ok (.iload_n 3, 1) := by decide +kernel
theorem dX2_giveRests_32 : decode cX2_giveRests 32 = .ok (.aload_n 0, 1) := by decide +kernel
theorem dX2_giveRests_33 : decode cX2_giveRests 33 = .ok (.getfield 22, 3) := by decide +kernel
theorem dX2_giveRests_36 : decode cX2_giveRests 36 = .ok (.arraylength, 1) := by decide +kernel
theorem dX2_giveRests_37 : decode cX2_giveRests 37 = .ok (.if_icmp .ge 22, 3) := by decide +kernel
theorem dX2_giveRests_40 : decode cX2_giveRests 40 = .ok (.aload_n 0, 1) := by decide +kernel
theorem dX2_giveRests_41 : decode cX2_giveRests 41 = .ok (.getfield 19, 3) := by decide +kernel
theorem dX2_giveRests_44 : decode cX2_giveRests 44 = .ok (.iload_n 3, 1) := by decide +kernel
theorem dX2_giveRests_45 : decode cX2_giveRests 45 = .ok (.dup2, 1) := by decide +kernel
theorem dX2_giveRests_46 : decode cX2_giveRests 46 = .ok (.iaload, 1) := by decide +kernel
theorem dX2_giveRests_47 : decode cX2_giveRests 47 = .ok (.iconst 1, 1) := by decide +kernel
theorem dX2_giveRests_48 : decode cX2_giveRests 48 = .ok (.iadd, 1) := by decide +kernel
theorem dX2_giveRests_49 : decode cX2_giveRests 49 = .ok (.iastore, 1) := by decide +kernel
theorem dX2_giveRests_50 : decode cX2_giveRests 50 = .ok (.aload_n 0, 1) := by decide +kernel
theorem dX2_giveRests_51 : decode cX2_giveRests 51 = .ok (.getfield 22, 3) := by decide +kernel
theorem dX2_giveRests_54 : decode cX2_giveRests 54 = .ok (.iload_n 3, 1) := by decide +kernel
theorem dX2_giveRests_55 : decode cX2_giveRests 55 = .ok (.ldc2_w 126, 3) := by decide +kernel
theorem dX2_giveRests_58 : decode cX2_giveRests 58 = .ok (.lastore, 1) := by decide +kernel
theorem dX2_giveRests_59 : decode cX2_giveRests 59 = .ok (.iinc 2 1, 3) := by decide +kernel
theorem dX2_giveRests_62 : decode cX2_giveRests 62 = .ok (.goto (-60), 3) := by decide +kernel
theorem dX2_giveRests_65 : decode cX2_giveRests 65 = .ok (.return_, 1) := by decide +kernel
theorem dX2_placeOfGreatestRest_0 : decode cX2_placeOfGreatestRest 0 = .ok (.iconst 0, 1) := by decide +kernel
theorem dX2_placeOfGreatestRest_1 : decode cX2_placeOfGreatestRest 1 = .ok (.istore_n 1, 1) := by decide +kernel
theorem dX2_placeOfGreatestRest_2 : decode cX2_placeOfGreatestRest 2 = .ok (.ldc2_w 126, 3) := by decide +kernel
theorem dX2_placeOfGreatestRest_5 : decode cX2_placeOfGreatestRest 5 = .ok (.lstore_n 2, 1) := by decide +kernel
theorem dX2_placeOfGreatestRest_6 : decode cX2_placeOfGreatestRest 6 = .ok (.iconst 0, 1) := by decide +kernel
theorem dX2_placeOfGreatestRest_7 : decode cX2_placeOfGreatestRest 7 = .ok (.istore 4, 2) := by decide +kernel
theorem dX2_placeOfGreatestRest_9 : decode cX2_placeOfGreatestRest 9 = .ok (.iload 4, 2) := by decide +kernel
theorem dX2_placeOfGreatestRest_11 : decode cX2_placeOfGreatestRest 11 = .ok (.aload_n 0, 1) := by decide +kernel
theorem dX2_placeOfGreatestRest_12 : decode cX2_placeOfGreatestRest 12 = .ok (.getfield 22, 3) := by decide +kernel
theorem dX2_placeOfGreatestRest_15 : decode cX2_placeOfGreatestRest 15 = .ok (.arraylength, 1) := by decide +kernel
theorem dX2_placeOfGreatestRest_16 : decode cX2_placeOfGreatestRest 16 = .ok (.if_icmp .ge 32, 3) := by decide +kernel
theorem dX2_placeOfGreatestRest_19 : decode cX2_placeOfGreatestRest 19 = .ok (.aload_n 0, 1) := by decide +kernel
theorem dX2_placeOfGreatestRest_20 : decode cX2_placeOfGreatestRest 20 = .ok (.getfield 22, 3) := by decide +kernel
theorem dX2_placeOfGreatestRest_23 : decode cX2_placeOfGreatestRest 23 = .ok (.iload 4, 2) := by decide +kernel
theorem dX2_placeOfGreatestRest_25 : decode cX2_placeOfGreatestRest 25 = .ok (.laload, 1) := by decide +kernel
theorem dX2_placeOfGreatestRest_26 : decode cX2_placeOfGreatestRest 26 = .ok (.lload_n 2, 1) := by decide +kernel
theorem dX2_placeOfGreatestRest_27 : decode cX2_placeOfGreatestRest 27 = .ok (.lcmp, 1) := by decide +kernel
theorem dX2_placeOfGreatestRest_28 : decode cX2_placeOfGreatestRest 28 = .ok (.ifCond .le 14, 3) := by decide +kernel
theorem dX2_placeOfGreatestRest_31 : decode cX2_placeOfGreatestRest 31 = .ok (.aload_n 0, 1) := by decide +kernel
theorem dX2_placeOfGreatestRest_32 : decode cX2_placeOfGreatestRest 32 = .ok (.getfield 22, 3) := by decide +kernel
theorem dX2_placeOfGreatestRest_35 : decode cX2_placeOfGreatestRest 35 = .ok (.iload 4, 2) := by decide +kernel
theorem dX2_placeOfGreatestRest_37 : decode cX2_placeOfGreatestRest 37 = .ok (.laload, 1) := by decide +kernel
theorem dX2_placeOfGreatestRest_38 : decode cX2_placeOfGreatestRest 38 = .ok (.lstore_n 2, 1) := by decide +kernel
theorem dX2_placeOfGreatestRest_39 : decode cX2_placeOfGreatestRest 39 = .ok (.iload 4, 2) := by decide +kernel
theorem dX2_placeOfGreatestRest_41 : decode cX2_placeOfGreatestRest 41 = .ok (.istore_n 1, 1) := by decide +kernel
theorem dX2_placeOfGreatestRest_42 : decode cX2_placeOfGreatestRest 42 = .ok (.iinc 4 1, 3) := by decide +kernel
theorem dX2_placeOfGreatestRest_45 : decode cX2_placeOfGreatestRest 45 = .ok (.goto (-36), 3) := by decide +kernel
theorem dX2_placeOfGreatestRest_48 : decode cX2_placeOfGreatestRest 48 = .ok (.iload_n 1, 1) := by decide +kernel
theorem dX2_placeOfGreatestRest_49 : decode cX2_placeOfGreatestRest 49 = .ok (.ireturn, 1) := by decide +kernel
theorem dX2_replaceShares_0 : decode cX2_replaceShares 0 = .ok (.iconst 0, 1) := by decide +kernel
theorem dX2_replaceShares_1 : decode cX2_replaceShares 1 = .ok (.istore_n 2, 1) := by decide +kernel
theorem dX2_replaceShares_2 : decode cX2_replaceShares 2 = .ok (.iconst 0, 1) := by decide +kernel
theorem dX2_replaceShares_3 : decode cX2_replaceShares 3 = .ok (.istore_n 3, 1) := by decide +kernel
theorem dX2_replaceShares_4 : decode cX2_replaceShares 4 = .ok (.iload_n 3, 1) := by decide +kernel
theorem dX2_replaceShares_5 : decode cX2_replaceShares 5 = .ok (.aload_n 0, 1) := by decide +kernel
theorem dX2_replaceShares_6 : decode cX2_replaceShares 6 = .ok (.getfield 19, 3) := by decide +kernel
theorem dX2_replaceShares_9 : decode cX2_replaceShares 9 = .ok (.arraylength, 1) := by decide +kernel
theorem dX2_replaceShares_10 : decode cX2_replaceShares 10 = .ok (.if_icmp .ge 63, 3) := by decide +kernel
theorem dX2_replaceShares_13 : decode cX2_replaceShares 13 = .ok (.iload_n 1, 1) := by decide +kernel
theorem dX2_replaceShares_14 : decode cX2_replaceShares 14 = .ok (.iload_n 3, 1) := by decide +kernel
theorem dX2_replaceShares_15 : decode cX2_replaceShares 15 = .ok (.invokestatic 29, 3) := by decide +kernel
theorem dX2_replaceShares_18 : decode cX2_replaceShares 18 = .ok (.istore 4, 2) := by decide +kernel
theorem dX2_replaceShares_20 : decode cX2_replaceShares 20 = .ok (.iload 4, 2) := by decide +kernel
theorem dX2_replaceShares_22 : decode cX2_replaceShares 22 = .ok (.ifCond .lt 45, 3) := by decide +kernel
theorem dX2_replaceShares_25 : decode cX2_replaceShares 25 = .ok (.iload 4, 2) := by decide +kernel
theorem dX2_replaceShares_27 : decode cX2_replaceShares 27 = .ok (.aload_n 0, 1) := by decide +kernel
theorem dX2_replaceShares_28 : decode cX2_replaceShares 28 = .ok (.getfield 9, 3) := by decide +kernel
theorem dX2_replaceShares_31 : decode cX2_replaceShares 31 = .ok (.arraylength, 1) := by decide +kernel
theorem dX2_replaceShares_32 : decode cX2_replaceShares 32 = .ok (.if_icmp .ge 35, 3) := by decide +kernel
theorem dX2_replaceShares_35 : decode cX2_replaceShares 35 = .ok (.aload_n 0, 1) := by decide +kernel
theorem dX2_replaceShares_36 : decode cX2_replaceShares 36 = .ok (.getfield 9, 3) := by decide +kernel
theorem dX2_replaceShares_39 : decode cX2_replaceShares 39 = .ok (.iload 4, 2) := by decide +kernel
theorem dX2_replaceShares_41 : decode cX2_replaceShares 41 = .ok (.iaload, 1) := by decide +kernel
theorem dX2_replaceShares_42 : decode cX2_replaceShares 42 = .ok (.aload_n 0, 1) := by decide +kernel
theorem dX2_replaceShares_43 : decode cX2_replaceShares 43 = .ok (.getfield 19, 3) := by decide +kernel
theorem dX2_replaceShares_46 : decode cX2_replaceShares 46 = .ok (.iload_n 3, 1) := by decide +kernel
theorem dX2_replaceShares_47 : decode cX2_replaceShares 47 = .ok (.iaload, 1) := by decide +kernel
theorem dX2_replaceShares_48 : decode cX2_replaceShares 48 = .ok (.if_icmp .eq 19, 3) := by decide +kernel
theorem dX2_replaceShares_51 : decode cX2_replaceShares 51 = .ok (.aload_n 0, 1) := by decide +kernel
theorem dX2_replaceShares_52 : decode cX2_replaceShares 52 = .ok (.getfield 9, 3) := by decide +kernel
theorem dX2_replaceShares_55 : decode cX2_replaceShares 55 = .ok (.iload 4, 2) := by decide +kernel
theorem dX2_replaceShares_57 : decode cX2_replaceShares 57 = .ok (.aload_n 0, 1) := by decide +kernel
theorem dX2_replaceShares_58 : decode cX2_replaceShares 58 = .ok (.getfield 19, 3) := by decide +kernel
theorem dX2_replaceShares_61 : decode cX2_replaceShares 61 = .ok (.iload_n 3, 1) := by decide +kernel
theorem dX2_replaceShares_62 : decode cX2_replaceShares 62 = .ok (.iaload, 1) := by decide +kernel
theorem dX2_replaceShares_63 : decode cX2_replaceShares 63 = .ok (.iastore, 1) := by decide +kernel
theorem dX2_replaceShares_64 : decode cX2_replaceShares 64 = .ok (.iinc 2 1, 3) := by decide +kernel
theorem dX2_replaceShares_67 : decode cX2_replaceShares 67 = .ok (.iinc 3 1, 3) := by decide +kernel
theorem dX2_replaceShares_70 : decode cX2_replaceShares 70 = .ok (.goto (-66), 3) := by decide +kernel
theorem dX2_replaceShares_73 : decode cX2_replaceShares 73 = .ok (.iload_n 2, 1) := by decide +kernel
theorem dX2_replaceShares_74 : decode cX2_replaceShares 74 = .ok (.ireturn, 1) := by decide +kernel
theorem dX2_sharesAboveZero_0 : decode cX2_sharesAboveZero 0 = .ok (.iconst 0, 1) := by decide +kernel
theorem dX2_sharesAboveZero_1 : decode cX2_sharesAboveZero 1 = .ok (.istore_n 1, 1) := by decide +kernel
theorem dX2_sharesAboveZero_2 : decode cX2_sharesAboveZero 2 = .ok (.iconst 0, 1) := by decide +kernel
theorem dX2_sharesAboveZero_3 : decode cX2_sharesAboveZero 3 = .ok (.istore_n 2, 1) := by decide +kernel
theorem dX2_sharesAboveZero_4 : decode cX2_sharesAboveZero 4 = .ok (.iload_n 2, 1) := by decide +kernel
theorem dX2_sharesAboveZero_5 : decode cX2_sharesAboveZero 5 = .ok (.aload_n 0, 1) := by decide +kernel
theorem dX2_sharesAboveZero_6 : decode cX2_sharesAboveZero 6 = .ok (.getfield 9, 3) := by decide +kernel
theorem dX2_sharesAboveZero_9 : decode cX2_sharesAboveZero 9 = .ok (.arraylength, 1) := by decide +kernel
theorem dX2_sharesAboveZero_10 : decode cX2_sharesAboveZero 10 = .ok (.if_icmp .ge 21, 3) := by decide +kernel
theorem dX2_sharesAboveZero_13 : decode cX2_sharesAboveZero 13 = .ok (.aload_n 0, 1) := by decide +kernel
theorem dX2_sharesAboveZero_14 : decode cX2_sharesAboveZero 14 = .ok (.getfield 9, 3) := by decide +kernel
theorem dX2_sharesAboveZero_17 : decode cX2_sharesAboveZero 17 = .ok (.iload_n 2, 1) := by decide +kernel
theorem dX2_sharesAboveZero_18 : decode cX2_sharesAboveZero 18 = .ok (.iaload, 1) := by decide +kernel
theorem dX2_sharesAboveZero_19 : decode cX2_sharesAboveZero 19 = .ok (.ifCond .le 6, 3) := by decide +kernel
theorem dX2_sharesAboveZero_22 : decode cX2_sharesAboveZero 22 = .ok (.iinc 1 1, 3) := by decide +kernel
theorem dX2_sharesAboveZero_25 : decode cX2_sharesAboveZero 25 = .ok (.iinc 2 1, 3) := by decide +kernel
theorem dX2_sharesAboveZero_28 : decode cX2_sharesAboveZero 28 = .ok (.goto (-24), 3) := by decide +kernel
theorem dX2_sharesAboveZero_31 : decode cX2_sharesAboveZero 31 = .ok (.iload_n 1, 1) := by decide +kernel
theorem dX2_sharesAboveZero_32 : decode cX2_sharesAboveZero 32 = .ok (.ireturn, 1) := by decide +kernel
theorem dX3_init_0 : decode cX3_init 0 = .ok (.aload_n 0, 1) := by decide +kernel
theorem dX3_init_1 : decode cX3_init 1 = .ok (.invokespecial 3, 3) := by decide +kernel
theorem dX3_init_4 : decode cX3_init 4 = .ok (.aload_n 0, 1) := by decide +kernel
theorem dX3_init_5 : decode cX3_init 5 = .ok (.bipush 36, 2) := by decide +kernel
theorem dX3_init_7 : decode cX3_init 7 = .ok (.newarray .long, 2) := by decide +kernel
theorem dX3_init_9 : decode cX3_init 9 = .ok (.putfield 9, 3) := by decide +kernel
theorem dX3_init_12 : decode cX3_init 12 = .ok (.return_, 1) := by decide +kernel
theorem dX3_consider_0 : decode cX3_consider 0 = .ok (.aload_n 1, 1) := by decide +kernel
theorem dX3_consider_1 : decode cX3_consider 1 = .ok (.iconst 0, 1) := by decide +kernel
theorem dX3_consider_2 : decode cX3_consider 2 = .ok (.invokevirtual 15, 3) := by decide +kernel
theorem dX3_consider_5 : decode cX3_consider 5 = .ok (.astore_n 3, 1) := by decide +kernel
theorem dX3_consider_6 : decode cX3_consider 6 = .ok (.aload_n 1, 1) := by decide +kernel
theorem dX3_consider_7 : decode cX3_consider 7 = .ok (.iconst 1, 1) := by decide +kernel
theorem dX3_consider_8 : decode cX3_consider 8 = .ok (.invokevirtual 15, 3) := by decide +kernel
theorem dX3_consider_11 : decode cX3_consider 11 = .ok (.astore 4, 2) := by decide +kernel
theorem dX3_consider_13 : decode cX3_consider 13 = .ok (.aload_n 0, 1) := by decide +kernel
theorem dX3_consider_14 : decode cX3_consider 14 = .ok (.aload 4, 2) := by decide +kernel
theorem dX3_consider_16 : decode cX3_consider 16 = .ok (.invokevirtual 21, 3) := by decide +kernel
theorem dX3_consider_19 : decode cX3_consider 19 = .ok (.iconst 4, 1) := by decide +kernel
theorem dX3_consider_20 : decode cX3_consider 20 = .ok (.invokestatic 27, 3) := by decide +kernel
theorem dX3_consider_23 : decode cX3_consider 23 = .ok (.putfield 33, 3) := by decide +kernel
theorem dX3_consider_26 : decode cX3_consider 26 = .ok (.aload_n 0, 1) := by decide +kernel
theorem dX3_consider_27 : decode cX3_consider 27 = .ok (.aload_n 3, 1) := by decide +kernel
theorem dX3_consider_28 : decode cX3_consider 28 = .ok (.invokevirtual 21, 3) := by decide +kernel
theorem dX3_consider_31 : decode cX3_consider 31 = .ok (.iconst 1, 1) := by decide +kernel
theorem dX3_consider_32 : decode cX3_consider 32 = .ok (.iadd, 1) := by decide +kernel
theorem dX3_consider_33 : decode cX3_consider 33 = .ok (.putfield 37, 3) := by decide +kernel
theorem dX3_consider_36 : decode cX3_consider 36 = .ok (.iconst 0, 1) := by decide +kernel
theorem dX3_consider_37 : decode cX3_consider 37 = .ok (.istore 5, 2) := by decide +kernel
theorem dX3_consider_39 : decode cX3_consider 39 = .ok (.iload 5, 2) := by decide +kernel
theorem dX3_consider_41 : decode cX3_consider 41 = .ok (.aload_n 0, 1) := by decide +kernel
theorem dX3_consider_42 : decode cX3_consider 42 = .ok (.getfield 33, 3) := by decide +kernel
theorem dX3_consider_45 : decode cX3_consider 45 = .ok (.if_icmp .ge 87, 3) := by decide +kernel
theorem dX3_consider_48 : decode cX3_consider 48 = .ok (.aload 4, 2) := by decide +kernel
theorem dX3_consider_50 : decode cX3_consider 50 = .ok (.iload 5, 2) := by decide +kernel
theorem dX3_consider_52 : decode cX3_consider 52 = .ok (.invokevirtual 40, 3) := by decide +kernel
theorem dX3_consider_55 : decode cX3_consider 55 = .ok (.istore 6, 2) := by decide +kernel
theorem dX3_consider_57 : decode cX3_consider 57 = .ok (.aload_n 0, 1) := by decide +kernel
theorem dX3_consider_58 : decode cX3_consider 58 = .ok (.iload 5, 2) := by decide +kernel
theorem dX3_consider_60 : decode cX3_consider 60 = .ok (.iconst 0, 1) := by decide +kernel
theorem dX3_consider_61 : decode cX3_consider 61 = .ok (.aload_n 2, 1) := by decide +kernel
theorem dX3_consider_62 : decode cX3_consider 62 = .ok (.bipush 15, 2) := by decide +kernel
theorem dX3_consider_64 : decode cX3_consider 64 = .ok (.iload 6, 2) := by decide +kernel
theorem dX3_consider_66 : decode cX3_consider 66 = .ok (.invokevirtual 44, 3) := by decide +kernel
theorem dX3_consider_69 : decode cX3_consider 69 = .ok (.sipush 1000, 3) := by decide +kernel
theorem dX3_consider_72 : decode cX3_consider 72 = .ok (.idiv, 1) := by decide +kernel
theorem dX3_consider_73 : decode cX3_consider 73 = .ok (.i2l, 1) := by decide +kernel
theorem dX3_consider_74 : decode cX3_consider 74 = .ok (.invokevirtual 49, 3) := by decide +kernel
theorem dX3_consider_77 : decode cX3_consider 77 = .ok (.iconst 0, 1) := by decide +kernel
theorem dX3_consider_78 : decode cX3_consider 78 = .ok (.istore 7, 2) := by decide +kernel
theorem dX3_consider_80 : decode cX3_consider 80 = .ok (.iload 7, 2) := by decide +kernel
theorem dX3_consider_82 : decode cX3_consider 82 = .ok (.aload_n 3, 1) := by decide +kernel
theorem dX3_consider_83 : decode cX3_consider 83 = .ok (.invokevirtual 21, 3) := by decide +kernel
theorem dX3_consider_86 : decode cX3_consider 86 = .ok (.if_icmp .ge 40, 3) := by decide +kernel
theorem dX3_consider_89 : decode cX3_consider 89 = .ok (.aload_n 2, 1) := by decide +kernel
theorem dX3_consider_90 : decode cX3_consider 90 = .ok (.aload_n 3, 1) := by decide +kernel
theorem dX3_consider_91 : decode cX3_consider 91 = .ok (.iload 7, 2) := by decide +kernel
theorem dX3_consider_93 : decode cX3_consider 93 = .ok (.invokevirtual 40, 3) := by decide +kernel
theorem dX3_consider_96 : decode cX3_consider 96 = .ok (.iload 6, 2) := by decide +kernel
theorem dX3_consider_98 : decode cX3_consider 98 = .ok (.invokevirtual 44, 3) := by decide +kernel
theorem dX3_consider_101 : decode cX3_consider 101 = .ok (.istore 8, 2) := by decide +kernel
theorem dX3_consider_103 : decode cX3_consider 103 = .ok (.aload_n 0, 1) := by decide +kernel
theorem dX3_consider_104 : decode cX3_consider 104 = .ok (.iload 5, 2) := by decide +kernel
theorem dX3_consider_106 : decode cX3_consider 106 = .ok (.iload 7, 2) := by decide +kernel
theorem dX3_consider_108 : decode cX3_consider 108 = .ok (.iconst 1, 1) := by decide +kernel
theorem dX3_consider_109 : decode cX3_consider 109 = .ok (.iadd, 1) := by decide +kernel
theorem dX3_consider_110 : decode cX3_consider 110 = .ok (.iload 8, 2) := by decide +kernel
theorem dX3_consider_112 : decode cX3_consider 112 = .ok (.sipush 1000, 3) := by decide +kernel
theorem dX3_consider_115 : decode cX3_consider 115 = .ok (.idiv, 1) := by decide +kernel
theorem dX3_consider_116 : decode cX3_consider 116 = .ok (.i2l, 1) := by decide +kernel
theorem dX3_consider_117 : decode cX3_consider 117 = .ok (.invokevirtual 49, 3) := by decide +kernel
theorem dX3_consider_120 : decode cX3_consider 120 = .ok (.iinc 7 1, 3) := by decide +kernel
theorem dX3_consider_123 : decode cX3_consider 123 = .ok (.goto (-43), 3) := by decide +kernel
theorem dX3_consider_126 : decode cX3_consider 126 = .ok (.iinc 5 1, 3) := by decide +kernel
theorem dX3_consider_129 : decode cX3_consider 129 = .ok (.goto (-90), 3) := by decide +kernel
theorem dX3_consider_132 : decode cX3_consider 132 = .ok (.return_, 1) := by decide +kernel
theorem dX3_productOfSums_0 : decode cX3_productOfSums 0 = .ok (.lconst 1, 1) := by decide +kernel
theorem dX3_productOfSums_1 : decode cX3_productOfSums 1 = .ok (.lstore_n 1, 1) := by decide +kernel
theorem dX3_productOfSums_2 : decode cX3_productOfSums 2 = .ok (.iconst 0, 1) := by decide +kernel
theorem dX3_productOfSums_3 : decode cX3_productOfSums 3 = .ok (.istore_n 3, 1) := by decide +kernel
theorem dX3_productOfSums_4 : decode cX3_productOfSums 4 = .ok (.iload_n 3, 1) := by decide +kernel
theorem dX3_productOfSums_5 : decode cX3_productOfSums 5 = .ok (.aload_n 0, 1) := by decide +kernel
theorem dX3_productOfSums_6 : decode cX3_productOfSums 6 = .ok (.getfield 33, 3) := by decide +kernel
theorem dX3_productOfSums_9 : decode cX3_productOfSums 9 = .ok (.if_icmp .ge 50, 3) := by decide +kernel
theorem dX3_productOfSums_12 : decode cX3_productOfSums 12 = .ok (.lconst 0, 1) := by decide +kernel
theorem dX3_productOfSums_13 : decode cX3_productOfSums 13 = .ok (.lstore 4, 2) := by decide +kernel
theorem dX3_productOfSums_15 : decode cX3_productOfSums 15 = .ok (.iconst 0, 1) := by decide +kernel
theorem dX3_productOfSums_16 : decode cX3_productOfSums 16 = .ok (.istore 6, 2) := by decide +kernel
theorem dX3_productOfSums_18 : decode cX3_productOfSums 18 = .ok (.iload 6, 2) := by decide +kernel
theorem dX3_productOfSums_20 : decode cX3_productOfSums 20 = .ok (.aload_n 0, 1) := by decide +kernel
theorem dX3_productOfSums_21 : decode cX3_productOfSums 21 = .ok (.getfield 37, 3) := by decide +kernel
theorem dX3_productOfSums_24 : decode cX3_productOfSums 24 = .ok (.if_icmp .ge 24, 3) := by decide +kernel
theorem dX3_productOfSums_27 : decode cX3_productOfSums 27 = .ok (.lload 4, 2) := by decide +kernel
theorem dX3_productOfSums_29 : decode cX3_productOfSums 29 = .ok (.aload_n 0, 1) := by decide +kernel
theorem dX3_productOfSums_30 : decode cX3_productOfSums 30 = .ok (.getfield 9, 3) := by decide +kernel
theorem dX3_productOfSums_33 : decode cX3_productOfSums 33 = .ok (.iload_n 3, 1) := by decide +kernel
theorem dX3_productOfSums_34 : decode cX3_productOfSums 34 = .ok (.iload 6, 2) := by decide +kernel
theorem dX3_productOfSums_36 : decode cX3_productOfSums 36 = .ok (.invokestatic 53, 3) := by decide +kernel
theorem dX3_productOfSums_39 : decode cX3_productOfSums 39 = .ok (.ladd, 1) := by decide +kernel
theorem dX3_productOfSums_40 : decode cX3_productOfSums 40 = .ok (.lstore 4, 2) := by decide +kernel
theorem dX3_productOfSums_42 : decode cX3_productOfSums 42 = .ok (.iinc 6 1, 3) := by decide +kernel
theorem dX3_productOfSums_45 : decode cX3_productOfSums 45 = .ok (.goto (-27), 3) := by decide +kernel
theorem dX3_productOfSums_48 : decode cX3_productOfSums 48 = .ok (.lload_n 1, 1) := by decide +kernel
theorem dX3_productOfSums_49 : decode cX3_productOfSums 49 = .ok (.lload 4, 2) := by decide +kernel
theorem dX3_productOfSums_51 : decode cX3_productOfSums 51 = .ok (.lmul, 1) := by decide +kernel
theorem dX3_productOfSums_52 : decode cX3_productOfSums 52 = .ok (.lstore_n 1, 1) := by decide +kernel
theorem dX3_productOfSums_53 : decode cX3_productOfSums 53 = .ok (.iinc 3 1, 3) := by decide +kernel
theorem dX3_productOfSums_56 : decode cX3_productOfSums 56 = .ok (.goto (-52), 3) := by decide +kernel
theorem dX3_productOfSums_59 : decode cX3_productOfSums 59 = .ok (.lload_n 1, 1) := by decide +kernel
theorem dX3_productOfSums_60 : decode cX3_productOfSums 60 = .ok (.lreturn, 1) := by decide +kernel
theorem dX3_sumOfProducts_0 : decode cX3_sumOfProducts 0 = .ok (.aload_n 0, 1) := by decide +kernel
theorem dX3_sumOfProducts_1 : decode cX3_sumOfProducts 1 = .ok (.getfield 9, 3) := by decide +kernel
theorem dX3_sumOfProducts_4 : decode cX3_sumOfProducts 4 = .ok (.aload_n 0, 1) := by decide +kernel
theorem dX3_sumOfProducts_5 : decode cX3_sumOfProducts 5 = .ok (.getfield 33, 3) := by decide +kernel
theorem dX3_sumOfProducts_8 : decode cX3_sumOfProducts 8 = .ok (.aload_n 0, 1) := by decide +kernel
theorem dX3_sumOfProducts_9 : decode cX3_sumOfProducts 9 = .ok (.getfield 37, 3) := by decide +kernel
theorem dX3_sumOfProducts_12 : decode cX3_sumOfProducts 12 = .ok (.iconst 0, 1) := by decide +kernel
theorem dX3_sumOfProducts_13 : decode cX3_sumOfProducts 13 = .ok (.lconst 1, 1) := by decide +kernel
theorem dX3_sumOfProducts_14 : decode cX3_sumOfProducts 14 = .ok (.invokestatic 57, 3) := by decide +kernel
theorem dX3_sumOfProducts_17 : decode cX3_sumOfProducts 17 = .ok (.lreturn, 1) := by decide +kernel
theorem dX3_sumOfWays_0 : decode cX3_sumOfWays 0 = .ok (.iload_n 3, 1) := by decide +kernel
theorem dX3_sumOfWays_1 : decode cX3_sumOfWays 1 = .ok (.iload_n 1, 1) := by decide +kernel
theorem dX3_sumOfWays_2 : decode cX3_sumOfWays 2 = .ok (.if_icmp .ge 8, 3) := by decide +kernel
theorem dX3_sumOfWays_5 : decode cX3_sumOfWays 5 = .ok (.iload_n 3, 1) := by decide +kernel
theorem dX3_sumOfWays_6 : decode cX3_sumOfWays 6 = .ok (.iconst 4, 1) := by decide +kernel
theorem dX3_sumOfWays_7 : decode cX3_sumOfWays 7 = .ok (.if_icmp .lt 6, 3) := by decide +kernel
theorem dX3_sumOfWays_10 : decode cX3_sumOfWays 10 = .ok (.lload 4, 2) := by decide +kernel
theorem dX3_sumOfWays_12 : decode cX3_sumOfWays 12 = .ok (.lreturn, 1) := by decide +kernel
theorem dX3_sumOfWays_13 : decode cX3_sumOfWays 13 = .ok (.lconst 0, 1) := by decide +kernel
theorem dX3_sumOfWays_14 : decode cX3_sumOfWays 14 = .ok (.lstore 6, 2) := by decide +kernel
theorem dX3_sumOfWays_16 : decode cX3_sumOfWays 16 = .ok (.iconst 0, 1) := by decide +kernel
theorem dX3_sumOfWays_17 : decode cX3_sumOfWays 17 = .ok (.istore 8, 2) := by decide +kernel
theorem dX3_sumOfWays_19 : decode cX3_sumOfWays 19 = .ok (.iload 8, 2) := by decide +kernel
theorem dX3_sumOfWays_21 : decode cX3_sumOfWays 21 = .ok (.iload_n 2, 1) := by decide +kernel
theorem dX3_sumOfWays_22 : decode cX3_sumOfWays 22 = .ok (.if_icmp .ge 37, 3) := by decide +kernel
theorem dX3_sumOfWays_25 : decode cX3_sumOfWays 25 = .ok (.lload 4, 2) := by decide +kernel
theorem dX3_sumOfWays_27 : decode cX3_sumOfWays 27 = .ok (.aload_n 0, 1) := by decide +kernel
theorem dX3_sumOfWays_28 : decode cX3_sumOfWays 28 = .ok (.iload_n 3, 1) := by decide +kernel
theorem dX3_sumOfWays_29 : decode cX3_sumOfWays 29 = .ok (.iload 8, 2) := by decide +kernel
theorem dX3_sumOfWays_31 : decode cX3_sumOfWays 31 = .ok (.invokestatic 53, 3) := by decide +kernel
theorem dX3_sumOfWays_34 : decode cX3_sumOfWays 34 = .ok (.lmul, 1) := by decide +kernel
theorem dX3_sumOfWays_35 : decode cX3_sumOfWays 35 = .ok (.lstore 9, 2) := by decide +kernel
theorem dX3_sumOfWays_37 : decode cX3_sumOfWays 37 = .ok (.lload 6, 2) := by decide +kernel
theorem dX3_sumOfWays_39 : decode cX3_sumOfWays 39 = .ok (.aload_n 0, 1) := by decide +kernel
theorem dX3_sumOfWays_40 : decode cX3_sumOfWays 40 = .ok (.iload_n 1, 1) := by decide +kernel
theorem dX3_sumOfWays_41 : decode cX3_sumOfWays 41 = .ok (.iload_n 2, 1) := by decide +kernel
theorem dX3_sumOfWays_42 : decode cX3_sumOfWays 42 = .ok (.iload_n 3, 1) := by decide +kernel
theorem dX3_sumOfWays_43 : decode cX3_sumOfWays 43 = .ok (.iconst 1, 1) := by decide +kernel
theorem dX3_sumOfWays_44 : decode cX3_sumOfWays 44 = .ok (.iadd, 1) := by decide +kernel
theorem dX3_sumOfWays_45 : decode cX3_sumOfWays 45 = .ok (.lload 9, 2) := by decide +kernel
theorem dX3_sumOfWays_47 : decode cX3_sumOfWays 47 = .ok (.invokestatic 57, 3) := by decide +kernel
theorem dX3_sumOfWays_50 : decode cX3_sumOfWays 50 = .ok (.ladd, 1) := by decide +kernel
theorem dX3_sumOfWays_51 : decode cX3_sumOfWays 51 = .ok (.lstore 6, 2) := by decide +kernel
theorem dX3_sumOfWays_53 : decode cX3_sumOfWays 53 = .ok (.iinc 8 1, 3) := by decide +kernel
theorem dX3_sumOfWays_56 : decode cX3_sumOfWays 56 = .ok (.goto (-37), 3) := by decide +kernel
theorem dX3_sumOfWays_59 : decode cX3_sumOfWays 59 = .ok (.lload 6, 2) := by decide +kernel
theorem dX3_sumOfWays_61 : decode cX3_sumOfWays 61 = .ok (.lreturn, 1) := by decide +kernel
theorem dX3_setPart_0 : decode cX3_setPart 0 = .ok (.iload_n 1, 1) := by decide +kernel
theorem dX3_setPart_1 : decode cX3_setPart 1 = .ok (.iload_n 2, 1) := by decide +kernel
theorem dX3_setPart_2 : decode cX3_setPart 2 = .ok (.invokestatic 61, 3) := by decide +kernel
theorem dX3_setPart_5 : decode cX3_setPart 5 = .ok (.istore 5, 2) := by decide +kernel
theorem dX3_setPart_7 : decode cX3_setPart 7 = .ok (.iload 5, 2) := by decide +kernel
theorem dX3_setPart_9 : decode cX3_setPart 9 = .ok (.ifCond .lt 21, 3) := by decide +kernel
theorem dX3_setPart_12 : decode cX3_setPart 12 = .ok (.iload 5, 2) := by decide +kernel
theorem dX3_setPart_14 : decode cX3_setPart 14 = .ok (.aload_n 0, 1) := by decide +kernel
theorem dX3_setPart_15 : decode cX3_setPart 15 = .ok (.getfield 9, 3) := by decide +kernel
theorem dX3_setPart_18 : decode cX3_setPart 18 = .ok (.arraylength, 1) := by decide +kernel
theorem dX3_setPart_19 : decode cX3_setPart 19 = .ok (.if_icmp .ge 11, 3) := by decide +kernel
theorem dX3_setPart_22 : decode cX3_setPart 22 = .ok (.aload_n 0, 1) := by decide +kernel
theorem dX3_setPart_23 : decode cX3_setPart 23 = .ok (.getfield 9, 3) := by decide +kernel
theorem dX3_setPart_26 : decode cX3_setPart 26 = .ok (.iload 5, 2) := by decide +kernel
theorem dX3_setPart_28 : decode cX3_setPart 28 = .ok (.lload_n 3, 1) := by decide +kernel
theorem dX3_setPart_29 : decode cX3_setPart 29 = .ok (.lastore, 1) := by decide +kernel
theorem dX3_setPart_30 : decode cX3_setPart 30 = .ok (.return_, 1) := by decide +kernel
theorem dX3_partOf_0 : decode cX3_partOf 0 = .ok (.iload_n 1, 1) := by decide +kernel
theorem dX3_partOf_1 : decode cX3_partOf 1 = .ok (.iload_n 2, 1) := by decide +kernel
theorem dX3_partOf_2 : decode cX3_partOf 2 = .ok (.invokestatic 61, 3) := by decide +kernel
theorem dX3_partOf_5 : decode cX3_partOf 5 = .ok (.istore_n 3, 1) := by decide +kernel
theorem dX3_partOf_6 : decode cX3_partOf 6 = .ok (.aload_n 0, 1) := by decide +kernel
theorem dX3_partOf_7 : decode cX3_partOf 7 = .ok (.ifnull 19, 3) := by decide +kernel
theorem dX3_partOf_10 : decode cX3_partOf 10 = .ok (.iload_n 3, 1) := by decide +kernel
theorem dX3_partOf_11 : decode cX3_partOf 11 = .ok (.ifCond .lt 15, 3) := by decide +kernel
theorem dX3_partOf_14 : decode cX3_partOf 14 = .ok (.iload_n 3, 1) := by decide +kernel
theorem dX3_partOf_15 : decode cX3_partOf 15 = .ok (.aload_n 0, 1) := by decide +kernel
theorem dX3_partOf_16 : decode cX3_partOf 16 = .ok (.arraylength, 1) := by decide +kernel
theorem dX3_partOf_17 : decode cX3_partOf 17 = .ok (.if_icmp .ge 9, 3) := by decide +kernel
theorem dX3_partOf_20 : decode cX3_partOf 20 = .ok (.aload_n 0, 1) := by decide +kernel
theorem dX3_partOf_21 : decode cX3_partOf 21 = .ok (.iload_n 3, 1) := by decide +kernel
theorem dX3_partOf_22 : decode cX3_partOf 22 = .ok (.laload, 1) := by decide +kernel
theorem dX3_partOf_23 : decode cX3_partOf 23 = .ok (.goto 4, 3) := by decide +kernel
theorem dX3_partOf_26 : decode cX3_partOf 26 = .ok (.lconst 0, 1) := by decide +kernel
theorem dX3_partOf_27 : decode cX3_partOf 27 = .ok (.lreturn, 1) := by decide +kernel
theorem dX3_cellOf_0 : decode cX3_cellOf 0 = .ok (.iload_n 0, 1) := by decide +kernel
theorem dX3_cellOf_1 : decode cX3_cellOf 1 = .ok (.bipush 9, 2) := by decide +kernel
theorem dX3_cellOf_3 : decode cX3_cellOf 3 = .ok (.imul, 1) := by decide +kernel
theorem dX3_cellOf_4 : decode cX3_cellOf 4 = .ok (.iload_n 1, 1) := by decide +kernel
theorem dX3_cellOf_5 : decode cX3_cellOf 5 = .ok (.iadd, 1) := by decide +kernel
theorem dX3_cellOf_6 : decode cX3_cellOf 6 = .ok (.ireturn, 1) := by decide +kernel
theorem dX4_init_0 : decode cX4_init 0 = .ok (.aload_n 0, 1) := by decide +kernel
theorem dX4_init_1 : decode cX4_init 1 = .ok (.invokespecial 3, 3) := by decide +kernel
theorem dX4_init_4 : decode cX4_init 4 = .ok (.aload_n 0, 1) := by decide +kernel
theorem dX4_init_5 : decode cX4_init 5 = .ok (.new 9, 3) := by decide +kernel
theorem dX4_init_8 : decode cX4_init 8 = .ok (.dup, 1) := by decide +kernel
theorem dX4_init_9 : decode cX4_init 9 = .ok (.iconst 0, 1) := by decide +kernel
theorem dX4_init_10 : decode cX4_init 10 = .ok (.invokespecial 11, 3) := by decide +kernel
theorem dX4_init_13 : decode cX4_init 13 = .ok (.putfield 14, 3) := by decide +kernel
theorem dX4_init_16 : decode cX4_init 16 = .ok (.aload_n 0, 1) := by decide +kernel
theorem dX4_init_17 : decode cX4_init 17 = .ok (.new 9, 3) := by decide +kernel
theorem dX4_init_20 : decode cX4_init 20 = .ok (.dup, 1) := by decide +kernel
theorem dX4_init_21 : decode cX4_init 21 = .ok (.iconst 1, 1) := by decide +kernel
theorem dX4_init_22 : decode cX4_init 22 = .ok (.invokespecial 11, 3) := by decide +kernel
theorem dX4_init_25 : decode cX4_init 25 = .ok (.putfield 20, 3) := by decide +kernel
theorem dX4_init_28 : decode cX4_init 28 = .ok (.aload_n 0, 1) := by decide +kernel
theorem dX4_init_29 : decode cX4_init 29 = .ok (.new 23, 3) := by decide +kernel
theorem dX4_init_32 : decode cX4_init 32 = .ok (.dup, 1) := by decide +kernel
theorem dX4_init_33 : decode cX4_init 33 = .ok (.invokespecial 25, 3) := by decide +kernel
theorem dX4_init_36 : decode cX4_init 36 = .ok (.putfield 26, 3) := by decide +kernel
theorem dX4_init_39 : decode cX4_init 39 = .ok (.return_, 1) := by decide +kernel
theorem dX4_lexicon_0 : decode cX4_lexicon 0 = .ok (.iload_n 1, 1) := by decide +kernel
theorem dX4_lexicon_1 : decode cX4_lexicon 1 = .ok (.ifCond .ne 10, 3) := by decide +kernel
theorem dX4_lexicon_4 : decode cX4_lexicon 4 = .ok (.aload_n 0, 1) := by decide +kernel
theorem dX4_lexicon_5 : decode cX4_lexicon 5 = .ok (.getfield 14, 3) := by decide +kernel
theorem dX4_lexicon_8 : decode cX4_lexicon 8 = .ok (.goto 7, 3) := by decide +kernel
theorem dX4_lexicon_11 : decode cX4_lexicon 11 = .ok (.aload_n 0, 1) := by decide +kernel
theorem dX4_lexicon_12 : decode cX4_lexicon 12 = .ok (.getfield 20, 3) := by decide +kernel
theorem dX4_lexicon_15 : decode cX4_lexicon 15 = .ok (.areturn, 1) := by decide +kernel
theorem dX4_setWeight_0 : decode cX4_setWeight 0 = .ok (.aload_n 0, 1) := by decide +kernel
theorem dX4_setWeight_1 : decode cX4_setWeight 1 = .ok (.getfield 26, 3) := by decide +kernel
theorem dX4_setWeight_4 : decode cX4_setWeight 4 = .ok (.iload_n 1, 1) := by decide +kernel
theorem dX4_setWeight_5 : decode cX4_setWeight 5 = .ok (.iload_n 2, 1) := by decide +kernel
theorem dX4_setWeight_6 : decode cX4_setWeight 6 = .ok (.invokevirtual 30, 3) := by decide +kernel
theorem dX4_setWeight_9 : decode cX4_setWeight 9 = .ok (.ireturn, 1) := by decide +kernel
theorem dX4_answerFor_0 : decode cX4_answerFor 0 = .ok (.aload_n 0, 1) := by decide +kernel
theorem dX4_answerFor_1 : decode cX4_answerFor 1 = .ok (.iload_n 1, 1) := by decide +kernel
theorem dX4_answerFor_2 : decode cX4_answerFor 2 = .ok (.invokevirtual 34, 3) := by decide +kernel
theorem dX4_answerFor_5 : decode cX4_answerFor 5 = .ok (.astore 4, 2) := by decide +kernel
theorem dX4_answerFor_7 : decode cX4_answerFor 7 = .ok (.aload_n 2, 1) := by decide +kernel
theorem dX4_answerFor_8 : decode cX4_answerFor 8 = .ok (.iload_n 1, 1) := by decide +kernel
theorem dX4_answerFor_9 : decode cX4_answerFor 9 = .ok (.invokevirtual 38, 3) := by decide +kernel
theorem dX4_answerFor_12 : decode cX4_answerFor 12 = .ok (.astore 5, 2) := by decide +kernel
theorem dX4_answerFor_14 : decode cX4_answerFor 14 = .ok (.aload_n 2, 1) := by decide +kernel
theorem dX4_answerFor_15 : decode cX4_answerFor 15 = .ok (.iconst 1, 1) := by decide +kernel
theorem dX4_answerFor_16 : decode cX4_answerFor 16 = .ok (.iload_n 1, 1) := by decide +kernel
theorem dX4_answerFor_17 : decode cX4_answerFor 17 = .ok (.isub, 1) := by decide +kernel
theorem dX4_answerFor_18 : decode cX4_answerFor 18 = .ok (.invokevirtual 38, 3) := by decide +kernel
theorem dX4_answerFor_21 : decode cX4_answerFor 21 = .ok (.iload_n 3, 1) := by decide +kernel
theorem dX4_answerFor_22 : decode cX4_answerFor 22 = .ok (.invokevirtual 44, 3) := by decide +kernel
theorem dX4_answerFor_25 : decode cX4_answerFor 25 = .ok (.istore 6, 2) := by decide +kernel
theorem dX4_answerFor_27 : decode cX4_answerFor 27 = .ok (.iconst (-1), 1) := by decide +kernel
theorem dX4_answerFor_28 : decode cX4_answerFor 28 = .ok (.istore 7, 2) := by decide +kernel
theorem dX4_answerFor_30 : decode cX4_answerFor 30 = .ok (.iconst 0, 1) := by decide +kernel
theorem dX4_answerFor_31 : decode cX4_answerFor 31 = .ok (.istore 8, 2) := by decide +kernel
theorem dX4_answerFor_33 : decode cX4_answerFor 33 = .ok (.iconst 0, 1) := by decide +kernel
theorem dX4_answerFor_34 : decode cX4_answerFor 34 = .ok (.istore 9, 2) := by decide +kernel
theorem dX4_answerFor_36 : decode cX4_answerFor 36 = .ok (.iload 9, 2) := by decide +kernel
theorem dX4_answerFor_38 : decode cX4_answerFor 38 = .ok (.aload 5, 2) := by decide +kernel
theorem dX4_answerFor_40 : decode cX4_answerFor 40 = .ok (.invokevirtual 50, 3) := by decide +kernel
theorem dX4_answerFor_43 : decode cX4_answerFor 43 = .ok (.if_icmp .ge 55, 3) := by decide +kernel
theorem dX4_answerFor_46 : decode cX4_answerFor 46 = .ok (.aload 4, 2) := by decide +kernel
theorem dX4_answerFor_48 : decode cX4_answerFor 48 = .ok (.aload 5, 2) := by decide +kernel
theorem dX4_answerFor_50 : decode cX4_answerFor 50 = .ok (.iload 9, 2) := by decide +kernel
theorem dX4_answerFor_52 : decode cX4_answerFor 52 = .ok (.invokevirtual 44, 3) := by decide +kernel
theorem dX4_answerFor_55 : decode cX4_answerFor 55 = .ok (.iload 6, 2) := by decide +kernel
theorem dX4_answerFor_57 : decode cX4_answerFor 57 = .ok (.invokevirtual 54, 3) := by decide +kernel
theorem dX4_answerFor_60 : decode cX4_answerFor 60 = .ok (.istore 10, 2) := by decide +kernel
theorem dX4_answerFor_62 : decode cX4_answerFor 62 = .ok (.iload 10, 2) := by decide +kernel
theorem dX4_answerFor_64 : decode cX4_answerFor 64 = .ok (.aload_n 0, 1) := by decide +kernel
theorem dX4_answerFor_65 : decode cX4_answerFor 65 = .ok (.getfield 26, 3) := by decide +kernel
theorem dX4_answerFor_68 : decode cX4_answerFor 68 = .ok (.iload 9, 2) := by decide +kernel
theorem dX4_answerFor_70 : decode cX4_answerFor 70 = .ok (.iload_n 3, 1) := by decide +kernel
theorem dX4_answerFor_71 : decode cX4_answerFor 71 = .ok (.invokevirtual 57, 3) := by decide +kernel
theorem dX4_answerFor_74 : decode cX4_answerFor 74 = .ok (.imul, 1) := by decide +kernel
theorem dX4_answerFor_75 : decode cX4_answerFor 75 = .ok (.istore 11, 2) := by decide +kernel
theorem dX4_answerFor_77 : decode cX4_answerFor 77 = .ok (.iload 11, 2) := by decide +kernel
theorem dX4_answerFor_79 : decode cX4_answerFor 79 = .ok (.iload 8, 2) := by decide +kernel
theorem dX4_answerFor_81 : decode cX4_answerFor 81 = .ok (.if_icmp .le 11, 3) := by decide +kernel
theorem dX4_answerFor_84 : decode cX4_answerFor 84 = .ok (.iload 11, 2) := by decide +kernel
theorem dX4_answerFor_86 : decode cX4_answerFor 86 = .ok (.istore 8, 2) := by decide +kernel
theorem dX4_answerFor_88 : decode cX4_answerFor 88 = .ok (.iload 9, 2) := by decide +kernel
theorem dX4_answerFor_90 : decode cX4_answerFor 90 = .ok (.istore 7, 2) := by decide +kernel
theorem dX4_answerFor_92 : decode cX4_answerFor 92 = .ok (.iinc 9 1, 3) := by decide +kernel
theorem dX4_answerFor_95 : decode cX4_answerFor 95 = .ok (.goto (-59), 3) := by decide +kernel
theorem dX4_answerFor_98 : decode cX4_answerFor 98 = .ok (.aload 4, 2) := by decide +kernel
theorem dX4_answerFor_100 : decode cX4_answerFor 100 = .ok (.bipush 15, 2) := by decide +kernel
theorem dX4_answerFor_102 : decode cX4_answerFor 102 = .ok (.iload 6, 2) := by decide +kernel
theorem dX4_answerFor_104 : decode cX4_answerFor 104 = .ok (.invokevirtual 54, 3) := by decide +kernel
theorem dX4_answerFor_107 : decode cX4_answerFor 107 = .ok (.aload_n 0, 1) := by decide +kernel
theorem dX4_answerFor_108 : decode cX4_answerFor 108 = .ok (.getfield 26, 3) := by decide +kernel
theorem dX4_answerFor_111 : decode cX4_answerFor 111 = .ok (.invokevirtual 60, 3) := by decide +kernel
theorem dX4_answerFor_114 : decode cX4_answerFor 114 = .ok (.imul, 1) := by decide +kernel
theorem dX4_answerFor_115 : decode cX4_answerFor 115 = .ok (.istore 9, 2) := by decide +kernel
theorem dX4_answerFor_117 : decode cX4_answerFor 117 = .ok (.iload 9, 2) := by decide +kernel
theorem dX4_answerFor_119 : decode cX4_answerFor 119 = .ok (.iload 8, 2) := by decide +kernel
theorem dX4_answerFor_121 : decode cX4_answerFor 121 = .ok (.if_icmp .le 7, 3) := by decide +kernel
theorem dX4_answerFor_124 : decode cX4_answerFor 124 = .ok (.iconst (-1), 1) := by decide +kernel
theorem dX4_answerFor_125 : decode cX4_answerFor 125 = .ok (.goto 5, 3) := by decide +kernel
theorem dX4_answerFor_128 : decode cX4_answerFor 128 = .ok (.iload 7, 2) := by decide +kernel
theorem dX4_answerFor_130 : decode cX4_answerFor 130 = .ok (.ireturn, 1) := by decide +kernel
theorem dX5_init_0 : decode cX5_init 0 = .ok (.aload_n 0, 1) := by decide +kernel
theorem dX5_init_1 : decode cX5_init 1 = .ok (.invokespecial 3, 3) := by decide +kernel
theorem dX5_init_4 : decode cX5_init 4 = .ok (.aload_n 0, 1) := by decide +kernel
theorem dX5_init_5 : decode cX5_init 5 = .ok (.iconst 4, 1) := by decide +kernel
theorem dX5_init_6 : decode cX5_init 6 = .ok (.newarray .int, 2) := by decide +kernel
theorem dX5_init_8 : decode cX5_init 8 = .ok (.putfield 9, 3) := by decide +kernel
theorem dX5_init_11 : decode cX5_init 11 = .ok (.return_, 1) := by decide +kernel
theorem dX5_count_0 : decode cX5_count 0 = .ok (.aload_n 0, 1) := by decide +kernel
theorem dX5_count_1 : decode cX5_count 1 = .ok (.getfield 15, 3) := by decide +kernel
theorem dX5_count_4 : decode cX5_count 4 = .ok (.ireturn, 1) := by decide +kernel
theorem dX5_endOfFound_0 : decode cX5_endOfFound 0 = .ok (.iload_n 1, 1) := by decide +kernel
theorem dX5_endOfFound_1 : decode cX5_endOfFound 1 = .ok (.ifCond .lt 21, 3) := by decide +kernel
theorem dX5_endOfFound_4 : decode cX5_endOfFound 4 = .ok (.iload_n 1, 1) := by decide +kernel
theorem dX5_endOfFound_5 : decode cX5_endOfFound 5 = .ok (.aload_n 0, 1) := by decide +kernel
theorem dX5_endOfFound_6 : decode cX5_endOfFound 6 = .ok (.getfield 9, 3) := by decide +kernel
theorem dX5_endOfFound_9 : decode cX5_endOfFound 9 = .ok (.arraylength, 1) := by decide +kernel
theorem dX5_endOfFound_10 : decode cX5_endOfFound 10 = .ok (.if_icmp .ge 12, 3) := by decide +kernel
theorem dX5_endOfFound_13 : decode cX5_endOfFound 13 = .ok (.aload_n 0, 1) := by decide +kernel
theorem dX5_endOfFound_14 : decode cX5_endOfFound 14 = .ok (.getfield 9, 3) := by decide +kernel
theorem dX5_endOfFound_17 : decode cX5_endOfFound 17 = .ok (.iload_n 1, 1) := by decide +kernel
theorem dX5_endOfFound_18 : decode cX5_endOfFound 18 = .ok (.iaload, 1) := by decide +kernel
theorem dX5_endOfFound_19 : decode cX5_endOfFound 19 = .ok (.goto 4, 3) := by decide +kernel
theorem dX5_endOfFound_22 : decode cX5_endOfFound 22 = .ok (.iconst (-1), 1) := by decide +kernel
theorem dX5_endOfFound_23 : decode cX5_endOfFound 23 = .ok (.ireturn, 1) := by decide +kernel
theorem dX5_seek_0 : decode cX5_seek 0 = .ok (.aload_n 0, 1) := by decide +kernel
theorem dX5_seek_1 : decode cX5_seek 1 = .ok (.iconst 0, 1) := by decide +kernel
theorem dX5_seek_2 : decode cX5_seek 2 = .ok (.putfield 15, 3) := by decide +kernel
theorem dX5_seek_5 : decode cX5_seek 5 = .ok (.iconst 0, 1) := by decide +kernel
theorem dX5_seek_6 : decode cX5_seek 6 = .ok (.istore_n 3, 1) := by decide +kernel
theorem dX5_seek_7 : decode cX5_seek 7 = .ok (.iload_n 3, 1) := by decide +kernel
theorem dX5_seek_8 : decode cX5_seek 8 = .ok (.aload_n 1, 1) := by decide +kernel
theorem dX5_seek_9 : decode cX5_seek 9 = .ok (.invokevirtual 19, 3) := by decide +kernel
theorem dX5_seek_12 : decode cX5_seek 12 = .ok (.if_icmp .ge 46, 3) := by decide +kernel
theorem dX5_seek_15 : decode cX5_seek 15 = .ok (.iload_n 3, 1) := by decide +kernel
theorem dX5_seek_16 : decode cX5_seek 16 = .ok (.iconst 4, 1) := by decide +kernel
theorem dX5_seek_17 : decode cX5_seek 17 = .ok (.iadd, 1) := by decide +kernel
theorem dX5_seek_18 : decode cX5_seek 18 = .ok (.aload_n 1, 1) := by decide +kernel
theorem dX5_seek_19 : decode cX5_seek 19 = .ok (.invokevirtual 19, 3) := by decide +kernel
theorem dX5_seek_22 : decode cX5_seek 22 = .ok (.invokestatic 25, 3) := by decide +kernel
theorem dX5_seek_25 : decode cX5_seek 25 = .ok (.istore 4, 2) := by decide +kernel
theorem dX5_seek_27 : decode cX5_seek 27 = .ok (.iload_n 3, 1) := by decide +kernel
theorem dX5_seek_28 : decode cX5_seek 28 = .ok (.istore 5, 2) := by decide +kernel
theorem dX5_seek_30 : decode cX5_seek 30 = .ok (.iload 5, 2) := by decide +kernel
theorem dX5_seek_32 : decode cX5_seek 32 = .ok (.iload 4, 2) := by decide +kernel
theorem dX5_seek_34 : decode cX5_seek 34 = .ok (.if_icmp .ge 18, 3) := by decide +kernel
theorem dX5_seek_37 : decode cX5_seek 37 = .ok (.aload_n 0, 1) := by decide +kernel
theorem dX5_seek_38 : decode cX5_seek 38 = .ok (.aload_n 1, 1) := by decide +kernel
theorem dX5_seek_39 : decode cX5_seek 39 = .ok (.iload_n 3, 1) := by decide +kernel
theorem dX5_seek_40 : decode cX5_seek 40 = .ok (.iload 5, 2) := by decide +kernel
theorem dX5_seek_42 : decode cX5_seek 42 = .ok (.iload_n 2, 1) := by decide +kernel
theorem dX5_seek_43 : decode cX5_seek 43 = .ok (.invokevirtual 31, 3) := by decide +kernel
theorem dX5_seek_46 : decode cX5_seek 46 = .ok (.iinc 5 1, 3) := by decide +kernel
theorem dX5_seek_49 : decode cX5_seek 49 = .ok (.goto (-19), 3) := by decide +kernel
theorem dX5_seek_52 : decode cX5_seek 52 = .ok (.iinc 3 1, 3) := by decide +kernel
theorem dX5_seek_55 : decode cX5_seek 55 = .ok (.goto (-48), 3) := by decide +kernel
theorem dX5_seek_58 : decode cX5_seek 58 = .ok (.return_, 1) := by decide +kernel
theorem dX5_seekAcross_0 : decode cX5_seekAcross 0 = .ok (.iconst 0, 1) := by decide +kernel
theorem dX5_seekAcross_1 : decode cX5_seekAcross 1 = .ok (.istore 5, 2) := by decide +kernel
theorem dX5_seekAcross_3 : decode cX5_seekAcross 3 = .ok (.iconst 0, 1) := by decide +kernel
theorem dX5_seekAcross_4 : decode cX5_seekAcross 4 = .ok (.istore 6, 2) := by decide +kernel
theorem dX5_seekAcross_6 : decode cX5_seekAcross 6 = .ok (.iconst 0, 1) := by decide +kernel
theorem dX5_seekAcross_7 : decode cX5_seekAcross 7 = .ok (.istore 7, 2) := by decide +kernel
theorem dX5_seekAcross_9 : decode cX5_seekAcross 9 = .ok (.iload 7, 2) := by decide +kernel
theorem dX5_seekAcross_11 : decode cX5_seekAcross 11 = .ok (.aload_n 1, 1) := by decide +kernel
theorem dX5_seekAcross_12 : decode cX5_seekAcross 12 = .ok (.invokevirtual 19, 3) := by decide +kernel
theorem dX5_seekAcross_15 : decode cX5_seekAcross 15 = .ok (.if_icmp .ge 46, 3) := by decide +kernel
theorem dX5_seekAcross_18 : decode cX5_seekAcross 18 = .ok (.iload 7, 2) := by decide +kernel
theorem dX5_seekAcross_20 : decode cX5_seekAcross 20 = .ok (.iload_n 2, 1) := by decide +kernel
theorem dX5_seekAcross_21 : decode cX5_seekAcross 21 = .ok (.if_icmp .lt 23, 3) := by decide +kernel
theorem dX5_seekAcross_24 : decode cX5_seekAcross 24 = .ok (.iload 7, 2) := by decide +kernel
theorem dX5_seekAcross_26 : decode cX5_seekAcross 26 = .ok (.iload_n 3, 1) := by decide +kernel
theorem dX5_seekAcross_27 : decode cX5_seekAcross 27 = .ok (.if_icmp .gt 17, 3) := by decide +kernel
theorem dX5_seekAcross_30 : decode cX5_seekAcross 30 = .ok (.iload 5, 2) := by decide +kernel
theorem dX5_seekAcross_32 : decode cX5_seekAcross 32 = .ok (.aload_n 1, 1) := by decide +kernel
theorem dX5_seekAcross_33 : decode cX5_seekAcross 33 = .ok (.iload 7, 2) := by decide +kernel
theorem dX5_seekAcross_35 : decode cX5_seekAcross 35 = .ok (.invokevirtual 35, 3) := by decide +kernel
theorem dX5_seekAcross_38 : decode cX5_seekAcross 38 = .ok (.ior, 1) := by decide +kernel
theorem dX5_seekAcross_39 : decode cX5_seekAcross 39 = .ok (.istore 5, 2) := by decide +kernel
theorem dX5_seekAcross_41 : decode cX5_seekAcross 41 = .ok (.goto 14, 3) := by decide +kernel
theorem dX5_seekAcross_44 : decode cX5_seekAcross 44 = .ok (.iload 6, 2) := by decide +kernel
theorem dX5_seekAcross_46 : decode cX5_seekAcross 46 = .ok (.aload_n 1, 1) := by decide +kernel
theorem dX5_seekAcross_47 : decode cX5_seekAcross 47 = .ok (.iload 7, 2) := by decide +kernel
theorem dX5_seekAcross_49 : decode cX5_seekAcross 49 = .ok (.invokevirtual 35, 3) := by decide +kernel
theorem dX5_seekAcross_52 : decode cX5_seekAcross 52 = .ok (.ior, 1) := by decide +kernel
theorem dX5_seekAcross_53 : decode cX5_seekAcross 53 = .ok (.istore 6, 2) := by decide +kernel
theorem dX5_seekAcross_55 : decode cX5_seekAcross 55 = .ok (.iinc 7 1, 3) := by decide +kernel
theorem dX5_seekAcross_58 : decode cX5_seekAcross 58 = .ok (.goto (-49), 3) := by decide +kernel
theorem dX5_seekAcross_61 : decode cX5_seekAcross 61 = .ok (.iconst 0, 1) := by decide +kernel
theorem dX5_seekAcross_62 : decode cX5_seekAcross 62 = .ok (.istore 7, 2) := by decide +kernel
theorem dX5_seekAcross_64 : decode cX5_seekAcross 64 = .ok (.iload 7, 2) := by decide +kernel
theorem dX5_seekAcross_66 : decode cX5_seekAcross 66 = .ok (.aload_n 1, 1) := by decide +kernel
theorem dX5_seekAcross_67 : decode cX5_seekAcross 67 = .ok (.invokevirtual 39, 3) := by decide +kernel
theorem dX5_seekAcross_70 : decode cX5_seekAcross 70 = .ok (.if_icmp .ge 68, 3) := by decide +kernel
theorem dX5_seekAcross_73 : decode cX5_seekAcross 73 = .ok (.iload 7, 2) := by decide +kernel
theorem dX5_seekAcross_75 : decode cX5_seekAcross 75 = .ok (.iconst 4, 1) := by decide +kernel
theorem dX5_seekAcross_76 : decode cX5_seekAcross 76 = .ok (.iadd, 1) := by decide +kernel
theorem dX5_seekAcross_77 : decode cX5_seekAcross 77 = .ok (.aload_n 1, 1) := by decide +kernel
theorem dX5_seekAcross_78 : decode cX5_seekAcross 78 = .ok (.invokevirtual 39, 3) := by decide +kernel
theorem dX5_seekAcross_81 : decode cX5_seekAcross 81 = .ok (.invokestatic 25, 3) := by decide +kernel
theorem dX5_seekAcross_84 : decode cX5_seekAcross 84 = .ok (.istore 8, 2) := by decide +kernel
theorem dX5_seekAcross_86 : decode cX5_seekAcross 86 = .ok (.iload 7, 2) := by decide +kernel
theorem dX5_seekAcross_88 : decode cX5_seekAcross 88 = .ok (.istore 9, 2) := by decide +kernel
theorem dX5_seekAcross_90 : decode cX5_seekAcross 90 = .ok (.iload 9, 2) := by decide +kernel
theorem dX5_seekAcross_92 : decode cX5_seekAcross 92 = .ok (.iload 8, 2) := by decide +kernel
theorem dX5_seekAcross_94 : decode cX5_seekAcross 94 = .ok (.if_icmp .ge 38, 3) := by decide +kernel
theorem dX5_seekAcross_97 : decode cX5_seekAcross 97 = .ok (.iload 5, 2) := by decide +kernel
theorem dX5_seekAcross_99 : decode cX5_seekAcross 99 = .ok (.iload 6, 2) := by decide +kernel
theorem dX5_seekAcross_101 : decode cX5_seekAcross 101 = .ok (.iload 7, 2) := by decide +kernel
theorem dX5_seekAcross_103 : decode cX5_seekAcross 103 = .ok (.iload 9, 2) := by decide +kernel
theorem dX5_seekAcross_105 : decode cX5_seekAcross 105 = .ok (.invokestatic 42, 3) := by decide +kernel
theorem dX5_seekAcross_108 : decode cX5_seekAcross 108 = .ok (.invokestatic 45, 3) := by decide +kernel
theorem dX5_seekAcross_111 : decode cX5_seekAcross 111 = .ok (.ifCond .eq 15, 3) := by decide +kernel
theorem dX5_seekAcross_114 : decode cX5_seekAcross 114 = .ok (.aload_n 0, 1) := by decide +kernel
theorem dX5_seekAcross_115 : decode cX5_seekAcross 115 = .ok (.iload_n 2, 1) := by decide +kernel
theorem dX5_seekAcross_116 : decode cX5_seekAcross 116 = .ok (.iload_n 3, 1) := by decide +kernel
theorem dX5_seekAcross_117 : decode cX5_seekAcross 117 = .ok (.iload 7, 2) := by decide +kernel
theorem dX5_seekAcross_119 : decode cX5_seekAcross 119 = .ok (.iload 9, 2) := by decide +kernel
theorem dX5_seekAcross_121 : decode cX5_seekAcross 121 = .ok (.iload 4, 2) := by decide +kernel
theorem dX5_seekAcross_123 : decode cX5_seekAcross 123 = .ok (.invokevirtual 49, 3) := by decide +kernel
theorem dX5_seekAcross_126 : decode cX5_seekAcross 126 = .ok (.iinc 9 1, 3) := by decide +kernel
theorem dX5_seekAcross_129 : decode cX5_seekAcross 129 = .ok (.goto (-39), 3) := by decide +kernel
theorem dX5_seekAcross_132 : decode cX5_seekAcross 132 = .ok (.iinc 7 1, 3) := by decide +kernel
theorem dX5_seekAcross_135 : decode cX5_seekAcross 135 = .ok (.goto (-71), 3) := by decide +kernel
theorem dX5_seekAcross_138 : decode cX5_seekAcross 138 = .ok (.return_, 1) := by decide +kernel
theorem dX5_isPhrase_0 : decode cX5_isPhrase 0 = .ok (.iload_n 0, 1) := by decide +kernel
theorem dX5_isPhrase_1 : decode cX5_isPhrase 1 = .ok (.ifCond .eq 21, 3) := by decide +kernel
theorem dX5_isPhrase_4 : decode cX5_isPhrase 4 = .ok (.iload_n 0, 1) := by decide +kernel
theorem dX5_isPhrase_5 : decode cX5_isPhrase 5 = .ok (.iload_n 2, 1) := by decide +kernel
theorem dX5_isPhrase_6 : decode cX5_isPhrase 6 = .ok (.iconst (-1), 1) := by decide +kernel
theorem dX5_isPhrase_7 : decode cX5_isPhrase 7 = .ok (.ixor, 1) := by decide +kernel
theorem dX5_isPhrase_8 : decode cX5_isPhrase 8 = .ok (.iand, 1) := by decide +kernel
theorem dX5_isPhrase_9 : decode cX5_isPhrase 9 = .ok (.ifCond .ne 13, 3) := by decide +kernel
theorem dX5_isPhrase_12 : decode cX5_isPhrase 12 = .ok (.iload_n 1, 1) := by decide +kernel
theorem dX5_isPhrase_13 : decode cX5_isPhrase 13 = .ok (.iload_n 2, 1) := by decide +kernel
theorem dX5_isPhrase_14 : decode cX5_isPhrase 14 = .ok (.iand, 1) := by decide +kernel
theorem dX5_isPhrase_15 : decode cX5_isPhrase 15 = .ok (.ifCond .ne 7, 3) := by decide +kernel
theorem dX5_isPhrase_18 : decode cX5_isPhrase 18 = .ok (.iconst 1, 1) := by decide +kernel
theorem dX5_isPhrase_19 : decode cX5_isPhrase 19 = .ok (.goto 4, 3) := by decide +kernel
theorem dX5_isPhrase_22 : decode cX5_isPhrase 22 = .ok (.iconst 0, 1) := by decide +kernel
theorem dX5_isPhrase_23 : decode cX5_isPhrase 23 = .ok (.ireturn, 1) := by decide +kernel
theorem dX5_spanBits_0 : decode cX5_spanBits 0 = .ok (.iconst 0, 1) := by decide +kernel
theorem dX5_spanBits_1 : decode cX5_spanBits 1 = .ok (.istore_n 2, 1) := by decide +kernel
theorem dX5_spanBits_2 : decode cX5_spanBits 2 = .ok (.iload_n 0, 1) := by decide +kernel
theorem dX5_spanBits_3 : decode cX5_spanBits 3 = .ok (.istore_n 3, 1) := by decide +kernel
theorem dX5_spanBits_4 : decode cX5_spanBits 4 = .ok (.iload_n 3, 1) := by decide +kernel
theorem dX5_spanBits_5 : decode cX5_spanBits 5 = .ok (.iload_n 1, 1) := by decide +kernel
theorem dX5_spanBits_6 : decode cX5_spanBits 6 = .ok (.if_icmp .gt 16, 3) := by decide +kernel
theorem dX5_spanBits_9 : decode cX5_spanBits 9 = .ok (.iload_n 2, 1) := by decide +kernel
theorem dX5_spanBits_10 : decode cX5_spanBits 10 = .ok (.iload_n 3, 1) := by decide +kernel
theorem dX5_spanBits_11 : decode cX5_spanBits 11 = .ok (.invokestatic 53, 3) := by decide +kernel
theorem dX5_spanBits_14 : decode cX5_spanBits 14 = .ok (.ior, 1) := by decide +kernel
theorem dX5_spanBits_15 : decode cX5_spanBits 15 = .ok (.istore_n 2, 1) := by decide +kernel
theorem dX5_spanBits_16 : decode cX5_spanBits 16 = .ok (.iinc 3 1, 3) := by decide +kernel
theorem dX5_spanBits_19 : decode cX5_spanBits 19 = .ok (.goto (-15), 3) := by decide +kernel
theorem dX5_spanBits_22 : decode cX5_spanBits 22 = .ok (.iload_n 2, 1) := by decide +kernel
theorem dX5_spanBits_23 : decode cX5_spanBits 23 = .ok (.ireturn, 1) := by decide +kernel
theorem dX5_meet_0 : decode cX5_meet 0 = .ok (.aload_n 0, 1) := by decide +kernel
theorem dX5_meet_1 : decode cX5_meet 1 = .ok (.getfield 15, 3) := by decide +kernel
theorem dX5_meet_4 : decode cX5_meet 4 = .ok (.iload 5, 2) := by decide +kernel
theorem dX5_meet_6 : decode cX5_meet 6 = .ok (.if_icmp .ne 41, 3) := by decide +kernel
theorem dX5_meet_9 : decode cX5_meet 9 = .ok (.aload_n 0, 1) := by decide +kernel
theorem dX5_meet_10 : decode cX5_meet 10 = .ok (.getfield 9, 3) := by decide +kernel
theorem dX5_meet_13 : decode cX5_meet 13 = .ok (.arraylength, 1) := by decide +kernel
theorem dX5_meet_14 : decode cX5_meet 14 = .ok (.iconst 4, 1) := by decide +kernel
theorem dX5_meet_15 : decode cX5_meet 15 = .ok (.if_icmp .ne 32, 3) := by decide +kernel
theorem dX5_meet_18 : decode cX5_meet 18 = .ok (.aload_n 0, 1) := by decide +kernel
theorem dX5_meet_19 : decode cX5_meet 19 = .ok (.getfield 9, 3) := by decide +kernel
theorem dX5_meet_22 : decode cX5_meet 22 = .ok (.iconst 0, 1) := by decide +kernel
theorem dX5_meet_23 : decode cX5_meet 23 = .ok (.iload_n 1, 1) := by decide +kernel
theorem dX5_meet_24 : decode cX5_meet 24 = .ok (.iastore, 1) := by decide +kernel
theorem dX5_meet_25 : decode cX5_meet 25 = .ok (.aload_n 0, 1) := by decide +kernel
theorem dX5_meet_26 : decode cX5_meet 26 = .ok (.getfield 9, 3) := by decide +kernel
theorem dX5_meet_29 : decode cX5_meet 29 = .ok (.iconst 1, 1) := by decide +kernel
theorem dX5_meet_30 : decode cX5_meet 30 = .ok (.iload_n 2, 1) := by decide +kernel
theorem dX5_meet_31 : decode cX5_meet 31 = .ok (.iastore, 1) := by decide +kernel
theorem dX5_meet_32 : decode cX5_meet 32 = .ok (.aload_n 0, 1) := by decide +kernel
theorem dX5_meet_33 : decode cX5_meet 33 = .ok (.getfield 9, 3) := by decide +kernel
theorem dX5_meet_36 : decode cX5_meet 36 = .ok (.iconst 2, 1) := by decide +kernel
theorem dX5_meet_37 : decode cX5_meet 37 = .ok (.iload_n 3, 1) := by decide +kernel
theorem dX5_meet_38 : decode cX5_meet 38 = .ok (.iastore, 1) := by decide +kernel
theorem dX5_meet_39 : decode cX5_meet 39 = .ok (.aload_n 0, 1) := by decide +kernel
theorem dX5_meet_40 : decode cX5_meet 40 = .ok (.getfield 9, 3) := by decide +kernel
theorem dX5_meet_43 : decode cX5_meet 43 = .ok (.iconst 3, 1) := by decide +kernel
theorem dX5_meet_44 : decode cX5_meet 44 = .ok (.iload 4, 2) := by decide +kernel
theorem dX5_meet_46 : decode cX5_meet 46 = .ok (.iastore, 1) := by decide +kernel
theorem dX5_meet_47 : decode cX5_meet 47 = .ok (.aload_n 0, 1) := by decide +kernel
theorem dX5_meet_48 : decode cX5_meet 48 = .ok (.dup, 1) := by decide +kernel
theorem dX5_meet_49 : decode cX5_meet 49 = .ok (.getfield 15, 3) := by decide +kernel
theorem dX5_meet_52 : decode cX5_meet 52 = .ok (.iconst 1, 1) := by decide +kernel
theorem dX5_meet_53 : decode cX5_meet 53 = .ok (.iadd, 1) := by decide +kernel
theorem dX5_meet_54 : decode cX5_meet 54 = .ok (.putfield 15, 3) := by decide +kernel
theorem dX5_meet_57 : decode cX5_meet 57 = .ok (.return_, 1) := by decide +kernel
theorem dX6_init_0 : decode cX6_init 0 = .ok (.aload_n 0, 1) := by decide +kernel
theorem dX6_init_1 : decode cX6_init 1 = .ok (.invokespecial 3, 3) := by decide +kernel
theorem dX6_init_4 : decode cX6_init 4 = .ok (.aload_n 0, 1) := by decide +kernel
theorem dX6_init_5 : decode cX6_init 5 = .ok (.bipush 8, 2) := by decide +kernel
theorem dX6_init_7 : decode cX6_init 7 = .ok (.newarray .int, 2) := by decide +kernel
theorem dX6_init_9 : decode cX6_init 9 = .ok (.putfield 9, 3) := by decide +kernel
theorem dX6_init_12 : decode cX6_init 12 = .ok (.return_, 1) := by decide +kernel
theorem dX6_length_0 : decode cX6_length 0 = .ok (.aload_n 0, 1) := by decide +kernel
theorem dX6_length_1 : decode cX6_length 1 = .ok (.getfield 15, 3) := by decide +kernel
theorem dX6_length_4 : decode cX6_length 4 = .ok (.ireturn, 1) := by decide +kernel
theorem dX6_isFull_0 : decode cX6_isFull 0 = .ok (.aload_n 0, 1) := by decide +kernel
theorem dX6_isFull_1 : decode cX6_isFull 1 = .ok (.getfield 15, 3) := by decide +kernel
theorem dX6_isFull_4 : decode cX6_isFull 4 = .ok (.bipush 8, 2) := by decide +kernel
theorem dX6_isFull_6 : decode cX6_isFull 6 = .ok (.if_icmp .lt 7, 3) := by decide +kernel
theorem dX6_isFull_9 : decode cX6_isFull 9 = .ok (.iconst 1, 1) := by decide +kernel
theorem dX6_isFull_10 : decode cX6_isFull 10 = .ok (.goto 4, 3) := by decide +kernel
theorem dX6_isFull_13 : decode cX6_isFull 13 = .ok (.iconst 0, 1) := by decide +kernel
theorem dX6_isFull_14 : decode cX6_isFull 14 = .ok (.ireturn, 1) := by decide +kernel
theorem dX6_has_0 : decode cX6_has 0 = .ok (.iload_n 1, 1) := by decide +kernel
theorem dX6_has_1 : decode cX6_has 1 = .ok (.ifCond .lt 15, 3) := by decide +kernel
theorem dX6_has_4 : decode cX6_has 4 = .ok (.iload_n 1, 1) := by decide +kernel
theorem dX6_has_5 : decode cX6_has 5 = .ok (.aload_n 0, 1) := by decide +kernel
theorem dX6_has_6 : decode cX6_has 6 = .ok (.getfield 15, 3) := by decide +kernel
theorem dX6_has_9 : decode cX6_has 9 = .ok (.if_icmp .ge 7, 3) := by decide +kernel
theorem dX6_has_12 : decode cX6_has 12 = .ok (.iconst 1, 1) := by decide +kernel
theorem dX6_has_13 : decode cX6_has 13 = .ok (.goto 4, 3) := by decide +kernel
theorem dX6_has_16 : decode cX6_has 16 = .ok (.iconst 0, 1) := by decide +kernel
theorem dX6_has_17 : decode cX6_has 17 = .ok (.ireturn, 1) := by decide +kernel
theorem dX6_at_0 : decode cX6_at 0 = .ok (.aload_n 0, 1) := by decide +kernel
theorem dX6_at_1 : decode cX6_at 1 = .ok (.iload_n 1, 1) := by decide +kernel
theorem dX6_at_2 : decode cX6_at 2 = .ok (.invokevirtual 19, 3) := by decide +kernel
theorem dX6_at_5 : decode cX6_at 5 = .ok (.ifCond .eq 21, 3) := by decide +kernel
theorem dX6_at_8 : decode cX6_at 8 = .ok (.iload_n 1, 1) := by decide +kernel
theorem dX6_at_9 : decode cX6_at 9 = .ok (.aload_n 0, 1) := by decide +kernel
theorem dX6_at_10 : decode cX6_at 10 = .ok (.getfield 9, 3) := by decide +kernel
theorem dX6_at_13 : decode cX6_at 13 = .ok (.arraylength, 1) := by decide +kernel
theorem dX6_at_14 : decode cX6_at 14 = .ok (.if_icmp .ge 12, 3) := by decide +kernel
theorem dX6_at_17 : decode cX6_at 17 = .ok (.aload_n 0, 1) := by decide +kernel
theorem dX6_at_18 : decode cX6_at 18 = .ok (.getfield 9, 3) := by decide +kernel
theorem dX6_at_21 : decode cX6_at 21 = .ok (.iload_n 1, 1) := by decide +kernel
theorem dX6_at_22 : decode cX6_at 22 = .ok (.iaload, 1) := by decide +kernel
theorem dX6_at_23 : decode cX6_at 23 = .ok (.goto 4, 3) := by decide +kernel
theorem dX6_at_26 : decode cX6_at 26 = .ok (.iconst (-1), 1) := by decide +kernel
theorem dX6_at_27 : decode cX6_at 27 = .ok (.ireturn, 1) := by decide +kernel
theorem dX6_append_0 : decode cX6_append 0 = .ok (.aload_n 0, 1) := by decide +kernel
theorem dX6_append_1 : decode cX6_append 1 = .ok (.getfield 15, 3) := by decide +kernel
theorem dX6_append_4 : decode cX6_append 4 = .ok (.ifCond .lt 35, 3) := by decide +kernel
theorem dX6_append_7 : decode cX6_append 7 = .ok (.aload_n 0, 1) := by decide +kernel
theorem dX6_append_8 : decode cX6_append 8 = .ok (.getfield 15, 3) := by decide +kernel
theorem dX6_append_11 : decode cX6_append 11 = .ok (.aload_n 0, 1) := by decide +kernel
theorem dX6_append_12 : decode cX6_append 12 = .ok (.getfield 9, 3) := by decide +kernel
theorem dX6_append_15 : decode cX6_append 15 = .ok (.arraylength, 1) := by decide +kernel
theorem dX6_append_16 : decode cX6_append 16 = .ok (.if_icmp .ge 23, 3) := by decide +kernel
theorem dX6_append_19 : decode cX6_append 19 = .ok (.aload_n 0, 1) := by decide +kernel
theorem dX6_append_20 : decode cX6_append 20 = .ok (.getfield 9, 3) := by decide +kernel
theorem dX6_append_23 : decode cX6_append 23 = .ok (.aload_n 0, 1) := by decide +kernel
theorem dX6_append_24 : decode cX6_append 24 = .ok (.getfield 15, 3) := by decide +kernel
theorem dX6_append_27 : decode cX6_append 27 = .ok (.iload_n 1, 1) := by decide +kernel
theorem dX6_append_28 : decode cX6_append 28 = .ok (.iastore, 1) := by decide +kernel
theorem dX6_append_29 : decode cX6_append 29 = .ok (.aload_n 0, 1) := by decide +kernel
theorem dX6_append_30 : decode cX6_append 30 = .ok (.dup, 1) := by decide +kernel
theorem dX6_append_31 : decode cX6_append 31 = .ok (.getfield 15, 3) := by decide +kernel
theorem dX6_append_34 : decode cX6_append 34 = .ok (.iconst 1, 1) := by decide +kernel
theorem dX6_append_35 : decode cX6_append 35 = .ok (.iadd, 1) := by decide +kernel
theorem dX6_append_36 : decode cX6_append 36 = .ok (.putfield 15, 3) := by decide +kernel
theorem dX6_append_39 : decode cX6_append 39 = .ok (.return_, 1) := by decide +kernel
theorem dX6_clear_0 : decode cX6_clear 0 = .ok (.aload_n 0, 1) := by decide +kernel
theorem dX6_clear_1 : decode cX6_clear 1 = .ok (.iconst 0, 1) := by decide +kernel
theorem dX6_clear_2 : decode cX6_clear 2 = .ok (.putfield 15, 3) := by decide +kernel
theorem dX6_clear_5 : decode cX6_clear 5 = .ok (.return_, 1) := by decide +kernel
theorem dX7_init_0 : decode cX7_init 0 = .ok (.aload_n 0, 1) := by decide +kernel
theorem dX7_init_1 : decode cX7_init 1 = .ok (.invokespecial 1, 3) := by decide +kernel
theorem dX7_init_4 : decode cX7_init 4 = .ok (.aload_n 0, 1) := by decide +kernel
theorem dX7_init_5 : decode cX7_init 5 = .ok (.new 7, 3) := by decide +kernel
theorem dX7_init_8 : decode cX7_init 8 = .ok (.dup, 1) := by decide +kernel
theorem dX7_init_9 : decode cX7_init 9 = .ok (.invokespecial 9, 3) := by decide +kernel
theorem dX7_init_12 : decode cX7_init 12 = .ok (.putfield 10, 3) := by decide +kernel
theorem dX7_init_15 : decode cX7_init 15 = .ok (.aload_n 0, 1) := by decide +kernel
theorem dX7_init_16 : decode cX7_init 16 = .ok (.new 7, 3) := by decide +kernel
theorem dX7_init_19 : decode cX7_init 19 = .ok (.dup, 1) := by decide +kernel
theorem dX7_init_20 : decode cX7_init 20 = .ok (.invokespecial 9, 3) := by decide +kernel
theorem dX7_init_23 : decode cX7_init 23 = .ok (.putfield 16, 3) := by decide +kernel
theorem dX7_init_26 : decode cX7_init 26 = .ok (.return_, 1) := by decide +kernel
theorem dX7_ofSide_0 : decode cX7_ofSide 0 = .ok (.iload_n 1, 1) := by decide +kernel
theorem dX7_ofSide_1 : decode cX7_ofSide 1 = .ok (.ifCond .ne 10, 3) := by decide +kernel
theorem dX7_ofSide_4 : decode cX7_ofSide 4 = .ok (.aload_n 0, 1) := by decide +kernel
theorem dX7_ofSide_5 : decode cX7_ofSide 5 = .ok (.getfield 10, 3) := by decide +kernel
theorem dX7_ofSide_8 : decode cX7_ofSide 8 = .ok (.goto 7, 3) := by decide +kernel
theorem dX7_ofSide_11 : decode cX7_ofSide 11 = .ok (.aload_n 0, 1) := by decide +kernel
theorem dX7_ofSide_12 : decode cX7_ofSide 12 = .ok (.getfield 16, 3) := by decide +kernel
theorem dX7_ofSide_15 : decode cX7_ofSide 15 = .ok (.areturn, 1) := by decide +kernel
theorem dX7_isThere_0 : decode cX7_isThere 0 = .ok (.aload_n 0, 1) := by decide +kernel
theorem dX7_isThere_1 : decode cX7_isThere 1 = .ok (.getfield 19, 3) := by decide +kernel
theorem dX7_isThere_4 : decode cX7_isThere 4 = .ok (.ireturn, 1) := by decide +kernel
theorem dX7_setThere_0 : decode cX7_setThere 0 = .ok (.aload_n 0, 1) := by decide +kernel
theorem dX7_setThere_1 : decode cX7_setThere 1 = .ok (.iload_n 1, 1) := by decide +kernel
theorem dX7_setThere_2 : decode cX7_setThere 2 = .ok (.putfield 19, 3) := by decide +kernel
theorem dX7_setThere_5 : decode cX7_setThere 5 = .ok (.return_, 1) := by decide +kernel
theorem dX8_init_0 : decode cX8_init 0 = .ok (.aload_n 0, 1) := by decide +kernel
theorem dX8_init_1 : decode cX8_init 1 = .ok (.invokespecial 3, 3) := by decide +kernel
theorem dX8_init_4 : decode cX8_init 4 = .ok (.aload_n 0, 1) := by decide +kernel
theorem dX8_init_5 : decode cX8_init 5 = .ok (.getstatic 9, 3) := by decide +kernel
theorem dX8_init_8 : decode cX8_init 8 = .ok (.invokevirtual 13, 3) := by decide +kernel
theorem dX8_init_11 : decode cX8_init 11 = .ok (.checkcast 14, 3) := by decide +kernel
theorem dX8_init_14 : decode cX8_init 14 = .ok (.putfield 18, 3) := by decide +kernel
theorem dX8_init_17 : decode cX8_init 17 = .ok (.return_, 1) := by decide +kernel
theorem dX8_at_0 : decode cX8_at 0 = .ok (.iload_n 1, 1) := by decide +kernel
theorem dX8_at_1 : decode cX8_at 1 = .ok (.ifCond .lt 21, 3) := by decide +kernel
theorem dX8_at_4 : decode cX8_at 4 = .ok (.iload_n 1, 1) := by decide +kernel
theorem dX8_at_5 : decode cX8_at 5 = .ok (.aload_n 0, 1) := by decide +kernel
theorem dX8_at_6 : decode cX8_at 6 = .ok (.getfield 18, 3) := by decide +kernel
theorem dX8_at_9 : decode cX8_at 9 = .ok (.arraylength, 1) := by decide +kernel
theorem dX8_at_10 : decode cX8_at 10 = .ok (.if_icmp .ge 12, 3) := by decide +kernel
theorem dX8_at_13 : decode cX8_at 13 = .ok (.aload_n 0, 1) := by decide +kernel
theorem dX8_at_14 : decode cX8_at 14 = .ok (.getfield 18, 3) := by decide +kernel
theorem dX8_at_17 : decode cX8_at 17 = .ok (.iload_n 1, 1) := by decide +kernel
theorem dX8_at_18 : decode cX8_at 18 = .ok (.iaload, 1) := by decide +kernel
theorem dX8_at_19 : decode cX8_at 19 = .ok (.goto 4, 3) := by decide +kernel
theorem dX8_at_22 : decode cX8_at 22 = .ok (.iconst 0, 1) := by decide +kernel
theorem dX8_at_23 : decode cX8_at 23 = .ok (.ireturn, 1) := by decide +kernel
theorem dX8_replace_0 : decode cX8_replace 0 = .ok (.aload_n 0, 1) := by decide +kernel
theorem dX8_replace_1 : decode cX8_replace 1 = .ok (.iload_n 1, 1) := by decide +kernel
theorem dX8_replace_2 : decode cX8_replace 2 = .ok (.invokevirtual 23, 3) := by decide +kernel
theorem dX8_replace_5 : decode cX8_replace 5 = .ok (.istore_n 3, 1) := by decide +kernel
theorem dX8_replace_6 : decode cX8_replace 6 = .ok (.iload_n 1, 1) := by decide +kernel
theorem dX8_replace_7 : decode cX8_replace 7 = .ok (.ifCond .lt 19, 3) := by decide +kernel
theorem dX8_replace_10 : decode cX8_replace 10 = .ok (.iload_n 1, 1) := by decide +kernel
theorem dX8_replace_11 : decode cX8_replace 11 = .ok (.aload_n 0, 1) := by decide +kernel
theorem dX8_replace_12 : decode cX8_replace 12 = .ok (.getfield 18, 3) := by decide +kernel
theorem dX8_replace_15 : decode cX8_replace 15 = .ok (.arraylength, 1) := by decide +kernel
theorem dX8_replace_16 : decode cX8_replace 16 = .ok (.if_icmp .ge 10, 3) := by decide +kernel
theorem dX8_replace_19 : decode cX8_replace 19 = .ok (.aload_n 0, 1) := by decide +kernel
theorem dX8_replace_20 : decode cX8_replace 20 = .ok (.getfield 18, 3) := by decide +kernel
theorem dX8_replace_23 : decode cX8_replace 23 = .ok (.iload_n 1, 1) := by decide +kernel
theorem dX8_replace_24 : decode cX8_replace 24 = .ok (.iload_n 2, 1) := by decide +kernel
theorem dX8_replace_25 : decode cX8_replace 25 = .ok (.iastore, 1) := by decide +kernel
theorem dX8_replace_26 : decode cX8_replace 26 = .ok (.iload_n 3, 1) := by decide +kernel
theorem dX8_replace_27 : decode cX8_replace 27 = .ok (.ireturn, 1) := by decide +kernel
theorem dX8_between_0 : decode cX8_between 0 = .ok (.aload_n 0, 1) := by decide +kernel
theorem dX8_between_1 : decode cX8_between 1 = .ok (.iload_n 1, 1) := by decide +kernel
theorem dX8_between_2 : decode cX8_between 2 = .ok (.iload_n 2, 1) := by decide +kernel
theorem dX8_between_3 : decode cX8_between 3 = .ok (.isub, 1) := by decide +kernel
theorem dX8_between_4 : decode cX8_between 4 = .ok (.invokestatic 27, 3) := by decide +kernel
theorem dX8_between_7 : decode cX8_between 7 = .ok (.iconst 3, 1) := by decide +kernel
theorem dX8_between_8 : decode cX8_between 8 = .ok (.invokestatic 32, 3) := by decide +kernel
theorem dX8_between_11 : decode cX8_between 11 = .ok (.invokevirtual 23, 3) := by decide +kernel
theorem dX8_between_14 : decode cX8_between 14 = .ok (.ireturn, 1) := by decide +kernel
theorem dX8_ofEmpty_0 : decode cX8_ofEmpty 0 = .ok (.aload_n 0, 1) := by decide +kernel
theorem dX8_ofEmpty_1 : decode cX8_ofEmpty 1 = .ok (.iconst 4, 1) := by decide +kernel
theorem dX8_ofEmpty_2 : decode cX8_ofEmpty 2 = .ok (.invokevirtual 23, 3) := by decide +kernel
theorem dX8_ofEmpty_5 : decode cX8_ofEmpty 5 = .ok (.ireturn, 1) := by decide +kernel
theorem dX9_init_0 : decode cX9_init 0 = .ok (.aload_n 0, 1) := by decide +kernel
theorem dX9_init_1 : decode cX9_init 1 = .ok (.invokespecial 3, 3) := by decide +kernel
theorem dX9_init_4 : decode cX9_init 4 = .ok (.aload_n 0, 1) := by decide +kernel
theorem dX9_init_5 : decode cX9_init 5 = .ok (.new 9, 3) := by decide +kernel
theorem dX9_init_8 : decode cX9_init 8 = .ok (.dup, 1) := by decide +kernel
theorem dX9_init_9 : decode cX9_init 9 = .ok (.invokespecial 11, 3) := by decide +kernel
theorem dX9_init_12 : decode cX9_init 12 = .ok (.putfield 12, 3) := by decide +kernel
theorem dX9_init_15 : decode cX9_init 15 = .ok (.aload_n 0, 1) := by decide +kernel
theorem dX9_init_16 : decode cX9_init 16 = .ok (.new 16, 3) := by decide +kernel
theorem dX9_init_19 : decode cX9_init 19 = .ok (.dup, 1) := by decide +kernel
theorem dX9_init_20 : decode cX9_init 20 = .ok (.invokespecial 18, 3) := by decide +kernel
theorem dX9_init_23 : decode cX9_init 23 = .ok (.putfield 19, 3) := by decide +kernel
theorem dX9_init_26 : decode cX9_init 26 = .ok (.aload_n 0, 1) := by decide +kernel
theorem dX9_init_27 : decode cX9_init 27 = .ok (.new 23, 3) := by decide +kernel
theorem dX9_init_30 : decode cX9_init 30 = .ok (.dup, 1) := by decide +kernel
theorem dX9_init_31 : decode cX9_init 31 = .ok (.invokespecial 25, 3) := by decide +kernel
theorem dX9_init_34 : decode cX9_init 34 = .ok (.putfield 26, 3) := by decide +kernel
theorem dX9_init_37 : decode cX9_init 37 = .ok (.aload_n 0, 1) := by decide +kernel
theorem dX9_init_38 : decode cX9_init 38 = .ok (.new 30, 3) := by decide +kernel
theorem dX9_init_41 : decode cX9_init 41 = .ok (.dup, 1) := by decide +kernel
theorem dX9_init_42 : decode cX9_init 42 = .ok (.invokespecial 32, 3) := by decide +kernel
theorem dX9_init_45 : decode cX9_init 45 = .ok (.putfield 33, 3) := by decide +kernel
theorem dX9_init_48 : decode cX9_init 48 = .ok (.aload_n 0, 1) := by decide +kernel
theorem dX9_init_49 : decode cX9_init 49 = .ok (.new 37, 3) := by decide +kernel
theorem dX9_init_52 : decode cX9_init 52 = .ok (.dup, 1) := by decide +kernel
theorem dX9_init_53 : decode cX9_init 53 = .ok (.invokespecial 39, 3) := by decide +kernel
theorem dX9_init_56 : decode cX9_init 56 = .ok (.putfield 40, 3) := by decide +kernel
theorem dX9_init_59 : decode cX9_init 59 = .ok (.aload_n 0, 1) := by decide +kernel
theorem dX9_init_60 : decode cX9_init 60 = .ok (.new 44, 3) := by decide +kernel
theorem dX9_init_63 : decode cX9_init 63 = .ok (.dup, 1) := by decide +kernel
theorem dX9_init_64 : decode cX9_init 64 = .ok (.invokespecial 46, 3) := by decide +kernel
theorem dX9_init_67 : decode cX9_init 67 = .ok (.putfield 47, 3) := by decide +kernel
theorem dX9_init_70 : decode cX9_init 70 = .ok (.return_, 1) := by decide +kernel
theorem dX9_put_0 : decode cX9_put 0 = .ok (.iload_n 1, 1) := by decide +kernel
theorem dX9_put_1 : decode cX9_put 1 = .ok (.invokestatic 51, 3) := by decide +kernel
theorem dX9_put_4 : decode cX9_put 4 = .ok (.ifCond .eq 10, 3) := by decide +kernel
theorem dX9_put_7 : decode cX9_put 7 = .ok (.iload_n 2, 1) := by decide +kernel
theorem dX9_put_8 : decode cX9_put 8 = .ok (.invokestatic 55, 3) := by decide +kernel
theorem dX9_put_11 : decode cX9_put 11 = .ok (.ifCond .ne 13, 3) := by decide +kernel
theorem dX9_put_14 : decode cX9_put 14 = .ok (.new 58, 3) := by decide +kernel
theorem dX9_put_17 : decode cX9_put 17 = .ok (.dup, 1) := by decide +kernel
theorem dX9_put_18 : decode cX9_put 18 = .ok (.ldc 60, 2) := by decide +kernel
theorem dX9_put_20 : decode cX9_put 20 = .ok (.invokespecial 62, 3) := by decide +kernel
theorem dX9_put_23 : decode cX9_put 23 = .ok (.athrow, 1) := by decide +kernel
theorem dX9_put_24 : decode cX9_put 24 = .ok (.aload_n 0, 1) := by decide +kernel
theorem dX9_put_25 : decode cX9_put 25 = .ok (.getfield 47, 3) := by decide +kernel
theorem dX9_put_28 : decode cX9_put 28 = .ok (.iload_n 1, 1) := by decide +kernel
theorem dX9_put_29 : decode cX9_put 29 = .ok (.invokevirtual 65, 3) := by decide +kernel
theorem dX9_put_32 : decode cX9_put 32 = .ok (.astore_n 3, 1) := by decide +kernel
theorem dX9_put_33 : decode cX9_put 33 = .ok (.aload_n 3, 1) := by decide +kernel
theorem dX9_put_34 : decode cX9_put 34 = .ok (.invokevirtual 69, 3) := by decide +kernel
theorem dX9_put_37 : decode cX9_put 37 = .ok (.ifCond .eq 13, 3) := by decide +kernel
theorem dX9_put_40 : decode cX9_put 40 = .ok (.new 75, 3) := by decide +kernel
theorem dX9_put_43 : decode cX9_put 43 = .ok (.dup, 1) := by decide +kernel
theorem dX9_put_44 : decode cX9_put 44 = .ok (.ldc 77, 2) := by decide +kernel
theorem dX9_put_46 : decode cX9_put 46 = .ok (.invokespecial 79, 3) := by decide +kernel
theorem dX9_put_49 : decode cX9_put 49 = .ok (.athrow, 1) := by decide +kernel
theorem dX9_put_50 : decode cX9_put 50 = .ok (.aload_n 3, 1) := by decide +kernel
theorem dX9_put_51 : decode cX9_put 51 = .ok (.iload_n 2, 1) := by decide +kernel
theorem dX9_put_52 : decode cX9_put 52 = .ok (.invokevirtual 80, 3) := by decide +kernel
theorem dX9_put_55 : decode cX9_put 55 = .ok (.aload_n 3, 1) := by decide +kernel
theorem dX9_put_56 : decode cX9_put 56 = .ok (.invokevirtual 84, 3) := by decide +kernel
theorem dX9_put_59 : decode cX9_put 59 = .ok (.ireturn, 1) := by decide +kernel
theorem dX9_wipe_0 : decode cX9_wipe 0 = .ok (.aload_n 0, 1) := by decide +kernel
theorem dX9_wipe_1 : decode cX9_wipe 1 = .ok (.getfield 47, 3) := by decide +kernel
theorem dX9_wipe_4 : decode cX9_wipe 4 = .ok (.iconst 0, 1) := by decide +kernel
theorem dX9_wipe_5 : decode cX9_wipe 5 = .ok (.invokevirtual 65, 3) := by decide +kernel
theorem dX9_wipe_8 : decode cX9_wipe 8 = .ok (.invokevirtual 84, 3) := by decide +kernel
theorem dX9_wipe_11 : decode cX9_wipe 11 = .ok (.aload_n 0, 1) := by decide +kernel
theorem dX9_wipe_12 : decode cX9_wipe 12 = .ok (.getfield 47, 3) := by decide +kernel
theorem dX9_wipe_15 : decode cX9_wipe 15 = .ok (.iconst 1, 1) := by decide +kernel
theorem dX9_wipe_16 : decode cX9_wipe 16 = .ok (.invokevirtual 65, 3) := by decide +kernel
theorem dX9_wipe_19 : decode cX9_wipe 19 = .ok (.invokevirtual 84, 3) := by decide +kernel
theorem dX9_wipe_22 : decode cX9_wipe 22 = .ok (.iadd, 1) := by decide +kernel
theorem dX9_wipe_23 : decode cX9_wipe 23 = .ok (.istore_n 1, 1) := by decide +kernel
theorem dX9_wipe_24 : decode cX9_wipe 24 = .ok (.aload_n 0, 1) := by decide +kernel
theorem dX9_wipe_25 : decode cX9_wipe 25 = .ok (.getfield 47, 3) := by decide +kernel
theorem dX9_wipe_28 : decode cX9_wipe 28 = .ok (.iconst 0, 1) := by decide +kernel
theorem dX9_wipe_29 : decode cX9_wipe 29 = .ok (.invokevirtual 65, 3) := by decide +kernel
theorem dX9_wipe_32 : decode cX9_wipe 32 = .ok (.invokevirtual 88, 3) := by decide +kernel
theorem dX9_wipe_35 : decode cX9_wipe 35 = .ok (.aload_n 0, 1) := by decide +kernel
theorem dX9_wipe_36 : decode cX9_wipe 36 = .ok (.getfield 47, 3) := by decide +kernel
theorem dX9_wipe_39 : decode cX9_wipe 39 = .ok (.iconst 1, 1) := by decide +kernel
theorem dX9_wipe_40 : decode cX9_wipe 40 = .ok (.invokevirtual 65, 3) := by decide +kernel
theorem dX9_wipe_43 : decode cX9_wipe 43 = .ok (.invokevirtual 88, 3) := by decide +kernel
theorem dX9_wipe_46 : decode cX9_wipe 46 = .ok (.iload_n 1, 1) := by decide +kernel
theorem dX9_wipe_47 : decode cX9_wipe 47 = .ok (.ireturn, 1) := by decide +kernel
theorem dX9_pair_0 : decode cX9_pair 0 = .ok (.aload_n 0, 1) := by decide +kernel
theorem dX9_pair_1 : decode cX9_pair 1 = .ok (.getfield 47, 3) := by decide +kernel
theorem dX9_pair_4 : decode cX9_pair 4 = .ok (.iconst 0, 1) := by decide +kernel
theorem dX9_pair_5 : decode cX9_pair 5 = .ok (.invokevirtual 65, 3) := by decide +kernel
theorem dX9_pair_8 : decode cX9_pair 8 = .ok (.invokevirtual 84, 3) := by decide +kernel
theorem dX9_pair_11 : decode cX9_pair 11 = .ok (.ifCond .eq 17, 3) := by decide +kernel
theorem dX9_pair_14 : decode cX9_pair 14 = .ok (.aload_n 0, 1) := by decide +kernel
theorem dX9_pair_15 : decode cX9_pair 15 = .ok (.getfield 47, 3) := by decide +kernel
theorem dX9_pair_18 : decode cX9_pair 18 = .ok (.iconst 1, 1) := by decide +kernel
theorem dX9_pair_19 : decode cX9_pair 19 = .ok (.invokevirtual 65, 3) := by decide +kernel
theorem dX9_pair_22 : decode cX9_pair 22 = .ok (.invokevirtual 84, 3) := by decide +kernel
theorem dX9_pair_25 : decode cX9_pair 25 = .ok (.ifCond .ne 13, 3) := by decide +kernel
theorem dX9_pair_28 : decode cX9_pair 28 = .ok (.new 75, 3) := by decide +kernel
theorem dX9_pair_31 : decode cX9_pair 31 = .ok (.dup, 1) := by decide +kernel
theorem dX9_pair_32 : decode cX9_pair 32 = .ok (.ldc 91, 2) := by decide +kernel
theorem dX9_pair_34 : decode cX9_pair 34 = .ok (.invokespecial 79, 3) := by decide +kernel
theorem dX9_pair_37 : decode cX9_pair 37 = .ok (.athrow, 1) := by decide +kernel
theorem dX9_pair_38 : decode cX9_pair 38 = .ok (.aload_n 0, 1) := by decide +kernel
theorem dX9_pair_39 : decode cX9_pair 39 = .ok (.getfield 12, 3) := by decide +kernel
theorem dX9_pair_42 : decode cX9_pair 42 = .ok (.invokevirtual 93, 3) := by decide +kernel
theorem dX9_pair_45 : decode cX9_pair 45 = .ok (.ifCond .eq 13, 3) := by decide +kernel
theorem dX9_pair_48 : decode cX9_pair 48 = .ok (.new 75, 3) := by decide +kernel
theorem dX9_pair_51 : decode cX9_pair 51 = .ok (.dup, 1) := by decide +kernel
theorem dX9_pair_52 : decode cX9_pair 52 = .ok (.ldc 94, 2) := by decide +kernel
theorem dX9_pair_54 : decode cX9_pair 54 = .ok (.invokespecial 79, 3) := by decide +kernel
theorem dX9_pair_57 : decode cX9_pair 57 = .ok (.athrow, 1) := by decide +kernel
theorem dX9_pair_58 : decode cX9_pair 58 = .ok (.aload_n 0, 1) := by decide +kernel
theorem dX9_pair_59 : decode cX9_pair 59 = .ok (.getfield 12, 3) := by decide +kernel
theorem dX9_pair_62 : decode cX9_pair 62 = .ok (.aload_n 0, 1) := by decide +kernel
theorem dX9_pair_63 : decode cX9_pair 63 = .ok (.getfield 47, 3) := by decide +kernel
theorem dX9_pair_66 : decode cX9_pair 66 = .ok (.invokevirtual 96, 3) := by decide +kernel
theorem dX9_pair_69 : decode cX9_pair 69 = .ok (.istore_n 1, 1) := by decide +kernel
theorem dX9_pair_70 : decode cX9_pair 70 = .ok (.aload_n 0, 1) := by decide +kernel
theorem dX9_pair_71 : decode cX9_pair 71 = .ok (.new 44, 3) := by decide +kernel
theorem dX9_pair_74 : decode cX9_pair 74 = .ok (.dup, 1) := by decide +kernel
theorem dX9_pair_75 : decode cX9_pair 75 = .ok (.invokespecial 46, 3) := by decide +kernel
theorem dX9_pair_78 : decode cX9_pair 78 = .ok (.putfield 47, 3) := by decide +kernel
theorem dX9_pair_81 : decode cX9_pair 81 = .ok (.iload_n 1, 1) := by decide +kernel
theorem dX9_pair_82 : decode cX9_pair 82 = .ok (.ireturn, 1) := by decide +kernel
theorem dX9_takeBack_0 : decode cX9_takeBack 0 = .ok (.aload_n 0, 1) := by decide +kernel
theorem dX9_takeBack_1 : decode cX9_takeBack 1 = .ok (.iload_n 1, 1) := by decide +kernel
theorem dX9_takeBack_2 : decode cX9_takeBack 2 = .ok (.invokevirtual 100, 3) := by decide +kernel
theorem dX9_takeBack_5 : decode cX9_takeBack 5 = .ok (.astore_n 2, 1) := by decide +kernel
theorem dX9_takeBack_6 : decode cX9_takeBack 6 = .ok (.aload_n 0, 1) := by decide +kernel
theorem dX9_takeBack_7 : decode cX9_takeBack 7 = .ok (.getfield 12, 3) := by decide +kernel
theorem dX9_takeBack_10 : decode cX9_takeBack 10 = .ok (.aload_n 2, 1) := by decide +kernel
theorem dX9_takeBack_11 : decode cX9_takeBack 11 = .ok (.invokevirtual 104, 3) := by decide +kernel
theorem dX9_takeBack_14 : decode cX9_takeBack 14 = .ok (.aload_n 0, 1) := by decide +kernel
theorem dX9_takeBack_15 : decode cX9_takeBack 15 = .ok (.getfield 12, 3) := by decide +kernel
theorem dX9_takeBack_18 : decode cX9_takeBack 18 = .ok (.invokevirtual 108, 3) := by decide +kernel
theorem dX9_takeBack_21 : decode cX9_takeBack 21 = .ok (.ireturn, 1) := by decide +kernel
theorem dX9_begin_0 : decode cX9_begin 0 = .ok (.aload_n 0, 1) := by decide +kernel
theorem dX9_begin_1 : decode cX9_begin 1 = .ok (.getfield 19, 3) := by decide +kernel
theorem dX9_begin_4 : decode cX9_begin 4 = .ok (.iconst 0, 1) := by decide +kernel
theorem dX9_begin_5 : decode cX9_begin 5 = .ok (.invokevirtual 111, 3) := by decide +kernel
theorem dX9_begin_8 : decode cX9_begin 8 = .ok (.aload_n 0, 1) := by decide +kernel
theorem dX9_begin_9 : decode cX9_begin 9 = .ok (.getfield 12, 3) := by decide +kernel
theorem dX9_begin_12 : decode cX9_begin 12 = .ok (.invokevirtual 115, 3) := by decide +kernel
theorem dX9_begin_15 : decode cX9_begin 15 = .ok (.aload_n 0, 1) := by decide +kernel
theorem dX9_begin_16 : decode cX9_begin 16 = .ok (.getfield 19, 3) := by decide +kernel
theorem dX9_begin_19 : decode cX9_begin 19 = .ok (.iconst 1, 1) := by decide +kernel
theorem dX9_begin_20 : decode cX9_begin 20 = .ok (.invokevirtual 111, 3) := by decide +kernel
theorem dX9_begin_23 : decode cX9_begin 23 = .ok (.aload_n 0, 1) := by decide +kernel
theorem dX9_begin_24 : decode cX9_begin 24 = .ok (.getfield 12, 3) := by decide +kernel
theorem dX9_begin_27 : decode cX9_begin 27 = .ok (.invokevirtual 115, 3) := by decide +kernel
theorem dX9_begin_30 : decode cX9_begin 30 = .ok (.iadd, 1) := by decide +kernel
theorem dX9_begin_31 : decode cX9_begin 31 = .ok (.ireturn, 1) := by decide +kernel
theorem dX9_round_0 : decode cX9_round 0 = .ok (.aload_n 0, 1) := by decide +kernel
theorem dX9_round_1 : decode cX9_round 1 = .ok (.getfield 19, 3) := by decide +kernel
theorem dX9_round_4 : decode cX9_round 4 = .ok (.iconst 0, 1) := by decide +kernel
theorem dX9_round_5 : decode cX9_round 5 = .ok (.invokevirtual 111, 3) := by decide +kernel
theorem dX9_round_8 : decode cX9_round 8 = .ok (.aload_n 0, 1) := by decide +kernel
theorem dX9_round_9 : decode cX9_round 9 = .ok (.getfield 12, 3) := by decide +kernel
theorem dX9_round_12 : decode cX9_round 12 = .ok (.invokevirtual 121, 3) := by decide +kernel
theorem dX9_round_15 : decode cX9_round 15 = .ok (.aload_n 0, 1) := by decide +kernel
theorem dX9_round_16 : decode cX9_round 16 = .ok (.getfield 19, 3) := by decide +kernel
theorem dX9_round_19 : decode cX9_round 19 = .ok (.iconst 1, 1) := by decide +kernel
theorem dX9_round_20 : decode cX9_round 20 = .ok (.invokevirtual 111, 3) := by decide +kernel
theorem dX9_round_23 : decode cX9_round 23 = .ok (.aload_n 0, 1) := by decide +kernel
theorem dX9_round_24 : decode cX9_round 24 = .ok (.getfield 12, 3) := by decide +kernel
theorem dX9_round_27 : decode cX9_round 27 = .ok (.invokevirtual 121, 3) := by decide +kernel
theorem dX9_round_30 : decode cX9_round 30 = .ok (.iadd, 1) := by decide +kernel
theorem dX9_round_31 : decode cX9_round 31 = .ok (.ireturn, 1) := by decide +kernel
theorem dX9_weight_0 : decode cX9_weight 0 = .ok (.iload_n 1, 1) := by decide +kernel
theorem dX9_weight_1 : decode cX9_weight 1 = .ok (.ifCond .lt 8, 3) := by decide +kernel
theorem dX9_weight_4 : decode cX9_weight 4 = .ok (.iload_n 1, 1) := by decide +kernel
theorem dX9_weight_5 : decode cX9_weight 5 = .ok (.iconst 4, 1) := by decide +kernel
theorem dX9_weight_6 : decode cX9_weight 6 = .ok (.if_icmp .le 13, 3) := by decide +kernel
theorem dX9_weight_9 : decode cX9_weight 9 = .ok (.new 58, 3) := by decide +kernel
theorem dX9_weight_12 : decode cX9_weight 12 = .ok (.dup, 1) := by decide +kernel
theorem dX9_weight_13 : decode cX9_weight 13 = .ok (.ldc 124, 2) := by decide +kernel
theorem dX9_weight_15 : decode cX9_weight 15 = .ok (.invokespecial 62, 3) := by decide +kernel
theorem dX9_weight_18 : decode cX9_weight 18 = .ok (.athrow, 1) := by decide +kernel
theorem dX9_weight_19 : decode cX9_weight 19 = .ok (.iload_n 2, 1) := by decide +kernel
theorem dX9_weight_20 : decode cX9_weight 20 = .ok (.ifCond .lt 9, 3) := by decide +kernel
theorem dX9_weight_23 : decode cX9_weight 23 = .ok (.iload_n 2, 1) := by decide +kernel
theorem dX9_weight_24 : decode cX9_weight 24 = .ok (.bipush 9, 2) := by decide +kernel
theorem dX9_weight_26 : decode cX9_weight 26 = .ok (.if_icmp .le 13, 3) := by decide +kernel
theorem dX9_weight_29 : decode cX9_weight 29 = .ok (.new 126, 3) := by decide +kernel
theorem dX9_weight_32 : decode cX9_weight 32 = .ok (.dup, 1) := by decide +kernel
theorem dX9_weight_33 : decode cX9_weight 33 = .ok (.ldc 128, 2) := by decide +kernel
theorem dX9_weight_35 : decode cX9_weight 35 = .ok (.invokespecial 130, 3) := by decide +kernel
theorem dX9_weight_38 : decode cX9_weight 38 = .ok (.athrow, 1) := by decide +kernel
theorem dX9_weight_39 : decode cX9_weight 39 = .ok (.aload_n 0, 1) := by decide +kernel
theorem dX9_weight_40 : decode cX9_weight 40 = .ok (.getfield 19, 3) := by decide +kernel
theorem dX9_weight_43 : decode cX9_weight 43 = .ok (.iload_n 1, 1) := by decide +kernel
theorem dX9_weight_44 : decode cX9_weight 44 = .ok (.iload_n 2, 1) := by decide +kernel
theorem dX9_weight_45 : decode cX9_weight 45 = .ok (.invokevirtual 131, 3) := by decide +kernel
theorem dX9_weight_48 : decode cX9_weight 48 = .ok (.ireturn, 1) := by decide +kernel
theorem dX9_pairs_0 : decode cX9_pairs 0 = .ok (.aload_n 0, 1) := by decide +kernel
theorem dX9_pairs_1 : decode cX9_pairs 1 = .ok (.getfield 12, 3) := by decide +kernel
theorem dX9_pairs_4 : decode cX9_pairs 4 = .ok (.invokevirtual 108, 3) := by decide +kernel
theorem dX9_pairs_7 : decode cX9_pairs 7 = .ok (.ireturn, 1) := by decide +kernel
theorem dX9_word_0 : decode cX9_word 0 = .ok (.aload_n 0, 1) := by decide +kernel
theorem dX9_word_1 : decode cX9_word 1 = .ok (.iload_n 1, 1) := by decide +kernel
theorem dX9_word_2 : decode cX9_word 2 = .ok (.invokevirtual 100, 3) := by decide +kernel
theorem dX9_word_5 : decode cX9_word 5 = .ok (.astore 4, 2) := by decide +kernel
theorem dX9_word_7 : decode cX9_word 7 = .ok (.iload_n 2, 1) := by decide +kernel
theorem dX9_word_8 : decode cX9_word 8 = .ok (.invokestatic 51, 3) := by decide +kernel
theorem dX9_word_11 : decode cX9_word 11 = .ok (.ifCond .eq 7, 3) := by decide +kernel
theorem dX9_word_14 : decode cX9_word 14 = .ok (.iload_n 3, 1) := by decide +kernel
theorem dX9_word_15 : decode cX9_word 15 = .ok (.ifCond .ge 13, 3) := by decide +kernel
theorem dX9_word_18 : decode cX9_word 18 = .ok (.new 58, 3) := by decide +kernel
theorem dX9_word_21 : decode cX9_word 21 = .ok (.dup, 1) := by decide +kernel
theorem dX9_word_22 : decode cX9_word 22 = .ok (.ldc 135, 2) := by decide +kernel
theorem dX9_word_24 : decode cX9_word 24 = .ok (.invokespecial 62, 3) := by decide +kernel
theorem dX9_word_27 : decode cX9_word 27 = .ok (.athrow, 1) := by decide +kernel
theorem dX9_word_28 : decode cX9_word 28 = .ok (.aload 4, 2) := by decide +kernel
theorem dX9_word_30 : decode cX9_word 30 = .ok (.iload_n 2, 1) := by decide +kernel
theorem dX9_word_31 : decode cX9_word 31 = .ok (.invokevirtual 65, 3) := by decide +kernel
theorem dX9_word_34 : decode cX9_word 34 = .ok (.iload_n 3, 1) := by decide +kernel
theorem dX9_word_35 : decode cX9_word 35 = .ok (.invokevirtual 137, 3) := by decide +kernel
theorem dX9_word_38 : decode cX9_word 38 = .ok (.ireturn, 1) := by decide +kernel
theorem dX9_share_0 : decode cX9_share 0 = .ok (.iload_n 1, 1) := by decide +kernel
theorem dX9_share_1 : decode cX9_share 1 = .ok (.invokestatic 51, 3) := by decide +kernel
theorem dX9_share_4 : decode cX9_share 4 = .ok (.ifCond .eq 23, 3) := by decide +kernel
theorem dX9_share_7 : decode cX9_share 7 = .ok (.iload_n 2, 1) := by decide +kernel
theorem dX9_share_8 : decode cX9_share 8 = .ok (.invokestatic 55, 3) := by decide +kernel
theorem dX9_share_11 : decode cX9_share 11 = .ok (.ifCond .ne 9, 3) := by decide +kernel
theorem dX9_share_14 : decode cX9_share 14 = .ok (.iload_n 2, 1) := by decide +kernel
theorem dX9_share_15 : decode cX9_share 15 = .ok (.bipush 15, 2) := by decide +kernel
theorem dX9_share_17 : decode cX9_share 17 = .ok (.if_icmp .ne 10, 3) := by decide +kernel
theorem dX9_share_20 : decode cX9_share 20 = .ok (.iload_n 3, 1) := by decide +kernel
theorem dX9_share_21 : decode cX9_share 21 = .ok (.invokestatic 55, 3) := by decide +kernel
theorem dX9_share_24 : decode cX9_share 24 = .ok (.ifCond .ne 13, 3) := by decide +kernel
theorem dX9_share_27 : decode cX9_share 27 = .ok (.new 58, 3) := by decide +kernel
theorem dX9_share_30 : decode cX9_share 30 = .ok (.dup, 1) := by decide +kernel
theorem dX9_share_31 : decode cX9_share 31 = .ok (.ldc 141, 2) := by decide +kernel
theorem dX9_share_33 : decode cX9_share 33 = .ok (.invokespecial 62, 3) := by decide +kernel
theorem dX9_share_36 : decode cX9_share 36 = .ok (.athrow, 1) := by decide +kernel
theorem dX9_share_37 : decode cX9_share 37 = .ok (.aload_n 0, 1) := by decide +kernel
theorem dX9_share_38 : decode cX9_share 38 = .ok (.getfield 19, 3) := by decide +kernel
theorem dX9_share_41 : decode cX9_share 41 = .ok (.iload_n 1, 1) := by decide +kernel
theorem dX9_share_42 : decode cX9_share 42 = .ok (.invokevirtual 111, 3) := by decide +kernel
theorem dX9_share_45 : decode cX9_share 45 = .ok (.iload_n 2, 1) := by decide +kernel
theorem dX9_share_46 : decode cX9_share 46 = .ok (.iload_n 3, 1) := by decide +kernel
theorem dX9_share_47 : decode cX9_share 47 = .ok (.invokevirtual 143, 3) := by decide +kernel
theorem dX9_share_50 : decode cX9_share 50 = .ok (.ireturn, 1) := by decide +kernel
theorem dX9_link_0 : decode cX9_link 0 = .ok (.aload_n 0, 1) := by decide +kernel
theorem dX9_link_1 : decode cX9_link 1 = .ok (.iload_n 2, 1) := by decide +kernel
theorem dX9_link_2 : decode cX9_link 2 = .ok (.invokevirtual 100, 3) := by decide +kernel
theorem dX9_link_5 : decode cX9_link 5 = .ok (.astore 4, 2) := by decide +kernel
theorem dX9_link_7 : decode cX9_link 7 = .ok (.iload_n 1, 1) := by decide +kernel
theorem dX9_link_8 : decode cX9_link 8 = .ok (.invokestatic 51, 3) := by decide +kernel
theorem dX9_link_11 : decode cX9_link 11 = .ok (.ifCond .eq 18, 3) := by decide +kernel
theorem dX9_link_14 : decode cX9_link 14 = .ok (.aload 4, 2) := by decide +kernel
theorem dX9_link_16 : decode cX9_link 16 = .ok (.iconst 1, 1) := by decide +kernel
theorem dX9_link_17 : decode cX9_link 17 = .ok (.iload_n 1, 1) := by decide +kernel
theorem dX9_link_18 : decode cX9_link 18 = .ok (.isub, 1) := by decide +kernel
theorem dX9_link_19 : decode cX9_link 19 = .ok (.invokevirtual 65, 3) := by decide +kernel
theorem dX9_link_22 : decode cX9_link 22 = .ok (.iload_n 3, 1) := by decide +kernel
theorem dX9_link_23 : decode cX9_link 23 = .ok (.invokevirtual 146, 3) := by decide +kernel
theorem dX9_link_26 : decode cX9_link 26 = .ok (.ifCond .ne 13, 3) := by decide +kernel
theorem dX9_link_29 : decode cX9_link 29 = .ok (.new 58, 3) := by decide +kernel
theorem dX9_link_32 : decode cX9_link 32 = .ok (.dup, 1) := by decide +kernel
theorem dX9_link_33 : decode cX9_link 33 = .ok (.ldc 149, 2) := by decide +kernel
theorem dX9_link_35 : decode cX9_link 35 = .ok (.invokespecial 62, 3) := by decide +kernel
theorem dX9_link_38 : decode cX9_link 38 = .ok (.athrow, 1) := by decide +kernel
theorem dX9_link_39 : decode cX9_link 39 = .ok (.aload_n 0, 1) := by decide +kernel
theorem dX9_link_40 : decode cX9_link 40 = .ok (.getfield 19, 3) := by decide +kernel
theorem dX9_link_43 : decode cX9_link 43 = .ok (.iload_n 1, 1) := by decide +kernel
theorem dX9_link_44 : decode cX9_link 44 = .ok (.aload 4, 2) := by decide +kernel
theorem dX9_link_46 : decode cX9_link 46 = .ok (.iload_n 3, 1) := by decide +kernel
theorem dX9_link_47 : decode cX9_link 47 = .ok (.invokevirtual 151, 3) := by decide +kernel
theorem dX9_link_50 : decode cX9_link 50 = .ok (.ireturn, 1) := by decide +kernel
theorem dX9_isJoined_0 : decode cX9_isJoined 0 = .ok (.aload_n 0, 1) := by decide +kernel
theorem dX9_isJoined_1 : decode cX9_isJoined 1 = .ok (.iload_n 1, 1) := by decide +kernel
theorem dX9_isJoined_2 : decode cX9_isJoined 2 = .ok (.invokevirtual 100, 3) := by decide +kernel
theorem dX9_isJoined_5 : decode cX9_isJoined 5 = .ok (.astore 4, 2) := by decide +kernel
theorem dX9_isJoined_7 : decode cX9_isJoined 7 = .ok (.aload 4, 2) := by decide +kernel
theorem dX9_isJoined_9 : decode cX9_isJoined 9 = .ok (.iconst 0, 1) := by decide +kernel
theorem dX9_isJoined_10 : decode cX9_isJoined 10 = .ok (.invokevirtual 65, 3) := by decide +kernel
theorem dX9_isJoined_13 : decode cX9_isJoined 13 = .ok (.iload_n 2, 1) := by decide +kernel
theorem dX9_isJoined_14 : decode cX9_isJoined 14 = .ok (.invokevirtual 146, 3) := by decide +kernel
theorem dX9_isJoined_17 : decode cX9_isJoined 17 = .ok (.ifCond .eq 16, 3) := by decide +kernel
theorem dX9_isJoined_20 : decode cX9_isJoined 20 = .ok (.aload 4, 2) := by decide +kernel
theorem dX9_isJoined_22 : decode cX9_isJoined 22 = .ok (.iconst 1, 1) := by decide +kernel
theorem dX9_isJoined_23 : decode cX9_isJoined 23 = .ok (.invokevirtual 65, 3) := by decide +kernel
theorem dX9_isJoined_26 : decode cX9_isJoined 26 = .ok (.iload_n 3, 1) := by decide +kernel
theorem dX9_isJoined_27 : decode cX9_isJoined 27 = .ok (.invokevirtual 146, 3) := by decide +kernel
theorem dX9_isJoined_30 : decode cX9_isJoined 30 = .ok (.ifCond .ne 13, 3) := by decide +kernel
theorem dX9_isJoined_33 : decode cX9_isJoined 33 = .ok (.new 58, 3) := by decide +kernel
theorem dX9_isJoined_36 : decode cX9_isJoined 36 = .ok (.dup, 1) := by decide +kernel
theorem dX9_isJoined_37 : decode cX9_isJoined 37 = .ok (.ldc 155, 2) := by decide +kernel
theorem dX9_isJoined_39 : decode cX9_isJoined 39 = .ok (.invokespecial 62, 3) := by decide +kernel
theorem dX9_isJoined_42 : decode cX9_isJoined 42 = .ok (.athrow, 1) := by decide +kernel
theorem dX9_isJoined_43 : decode cX9_isJoined 43 = .ok (.aload_n 0, 1) := by decide +kernel
theorem dX9_isJoined_44 : decode cX9_isJoined 44 = .ok (.getfield 26, 3) := by decide +kernel
theorem dX9_isJoined_47 : decode cX9_isJoined 47 = .ok (.aload 4, 2) := by decide +kernel
theorem dX9_isJoined_49 : decode cX9_isJoined 49 = .ok (.aload_n 0, 1) := by decide +kernel
theorem dX9_isJoined_50 : decode cX9_isJoined 50 = .ok (.getfield 19, 3) := by decide +kernel
theorem dX9_isJoined_53 : decode cX9_isJoined 53 = .ok (.invokevirtual 157, 3) := by decide +kernel
theorem dX9_isJoined_56 : decode cX9_isJoined 56 = .ok (.aload_n 0, 1) := by decide +kernel
theorem dX9_isJoined_57 : decode cX9_isJoined 57 = .ok (.getfield 26, 3) := by decide +kernel
theorem dX9_isJoined_60 : decode cX9_isJoined 60 = .ok (.iload_n 2, 1) := by decide +kernel
theorem dX9_isJoined_61 : decode cX9_isJoined 61 = .ok (.iload_n 3, 1) := by decide +kernel
theorem dX9_isJoined_62 : decode cX9_isJoined 62 = .ok (.invokevirtual 161, 3) := by decide +kernel
theorem dX9_isJoined_65 : decode cX9_isJoined 65 = .ok (.ireturn, 1) := by decide +kernel
theorem dX9_phrases_0 : decode cX9_phrases 0 = .ok (.aload_n 0, 1) := by decide +kernel
theorem dX9_phrases_1 : decode cX9_phrases 1 = .ok (.iload_n 1, 1) := by decide +kernel
theorem dX9_phrases_2 : decode cX9_phrases 2 = .ok (.invokevirtual 100, 3) := by decide +kernel
theorem dX9_phrases_5 : decode cX9_phrases 5 = .ok (.astore_n 2, 1) := by decide +kernel
theorem dX9_phrases_6 : decode cX9_phrases 6 = .ok (.aload_n 0, 1) := by decide +kernel
theorem dX9_phrases_7 : decode cX9_phrases 7 = .ok (.getfield 26, 3) := by decide +kernel
theorem dX9_phrases_10 : decode cX9_phrases 10 = .ok (.aload_n 2, 1) := by decide +kernel
theorem dX9_phrases_11 : decode cX9_phrases 11 = .ok (.aload_n 0, 1) := by decide +kernel
theorem dX9_phrases_12 : decode cX9_phrases 12 = .ok (.getfield 19, 3) := by decide +kernel
theorem dX9_phrases_15 : decode cX9_phrases 15 = .ok (.invokevirtual 157, 3) := by decide +kernel
theorem dX9_phrases_18 : decode cX9_phrases 18 = .ok (.aload_n 0, 1) := by decide +kernel
theorem dX9_phrases_19 : decode cX9_phrases 19 = .ok (.getfield 33, 3) := by decide +kernel
theorem dX9_phrases_22 : decode cX9_phrases 22 = .ok (.aload_n 0, 1) := by decide +kernel
theorem dX9_phrases_23 : decode cX9_phrases 23 = .ok (.getfield 26, 3) := by decide +kernel
theorem dX9_phrases_26 : decode cX9_phrases 26 = .ok (.iconst (-1), 1) := by decide +kernel
theorem dX9_phrases_27 : decode cX9_phrases 27 = .ok (.invokevirtual 165, 3) := by decide +kernel
theorem dX9_phrases_30 : decode cX9_phrases 30 = .ok (.aload_n 0, 1) := by decide +kernel
theorem dX9_phrases_31 : decode cX9_phrases 31 = .ok (.getfield 33, 3) := by decide +kernel
theorem dX9_phrases_34 : decode cX9_phrases 34 = .ok (.invokevirtual 169, 3) := by decide +kernel
theorem dX9_phrases_37 : decode cX9_phrases 37 = .ok (.ireturn, 1) := by decide +kernel
theorem dX9_phrase_0 : decode cX9_phrase 0 = .ok (.aload_n 0, 1) := by decide +kernel
theorem dX9_phrase_1 : decode cX9_phrase 1 = .ok (.iload_n 1, 1) := by decide +kernel
theorem dX9_phrase_2 : decode cX9_phrase 2 = .ok (.invokevirtual 100, 3) := by decide +kernel
theorem dX9_phrase_5 : decode cX9_phrase 5 = .ok (.astore 4, 2) := by decide +kernel
theorem dX9_phrase_7 : decode cX9_phrase 7 = .ok (.aload_n 0, 1) := by decide +kernel
theorem dX9_phrase_8 : decode cX9_phrase 8 = .ok (.getfield 26, 3) := by decide +kernel
theorem dX9_phrase_11 : decode cX9_phrase 11 = .ok (.aload 4, 2) := by decide +kernel
theorem dX9_phrase_13 : decode cX9_phrase 13 = .ok (.aload_n 0, 1) := by decide +kernel
theorem dX9_phrase_14 : decode cX9_phrase 14 = .ok (.getfield 19, 3) := by decide +kernel
theorem dX9_phrase_17 : decode cX9_phrase 17 = .ok (.invokevirtual 157, 3) := by decide +kernel
theorem dX9_phrase_20 : decode cX9_phrase 20 = .ok (.aload_n 0, 1) := by decide +kernel
theorem dX9_phrase_21 : decode cX9_phrase 21 = .ok (.getfield 33, 3) := by decide +kernel
theorem dX9_phrase_24 : decode cX9_phrase 24 = .ok (.aload_n 0, 1) := by decide +kernel
theorem dX9_phrase_25 : decode cX9_phrase 25 = .ok (.getfield 26, 3) := by decide +kernel
theorem dX9_phrase_28 : decode cX9_phrase 28 = .ok (.iload_n 2, 1) := by decide +kernel
theorem dX9_phrase_29 : decode cX9_phrase 29 = .ok (.invokevirtual 165, 3) := by decide +kernel
theorem dX9_phrase_32 : decode cX9_phrase 32 = .ok (.iload_n 2, 1) := by decide +kernel
theorem dX9_phrase_33 : decode cX9_phrase 33 = .ok (.ifCond .lt 14, 3) := by decide +kernel
theorem dX9_phrase_36 : decode cX9_phrase 36 = .ok (.iload_n 2, 1) := by decide +kernel
theorem dX9_phrase_37 : decode cX9_phrase 37 = .ok (.aload_n 0, 1) := by decide +kernel
theorem dX9_phrase_38 : decode cX9_phrase 38 = .ok (.getfield 33, 3) := by decide +kernel
theorem dX9_phrase_41 : decode cX9_phrase 41 = .ok (.invokevirtual 169, 3) := by decide +kernel
theorem dX9_phrase_44 : decode cX9_phrase 44 = .ok (.if_icmp .lt 13, 3) := by decide +kernel
theorem dX9_phrase_47 : decode cX9_phrase 47 = .ok (.new 58, 3) := by decide +kernel
theorem dX9_phrase_50 : decode cX9_phrase 50 = .ok (.dup, 1) := by decide +kernel
theorem dX9_phrase_51 : decode cX9_phrase 51 = .ok (.ldc 172, 2) := by decide +kernel
theorem dX9_phrase_53 : decode cX9_phrase 53 = .ok (.invokespecial 62, 3) := by decide +kernel
theorem dX9_phrase_56 : decode cX9_phrase 56 = .ok (.athrow, 1) := by decide +kernel
theorem dX9_phrase_57 : decode cX9_phrase 57 = .ok (.iload_n 3, 1) := by decide +kernel
theorem dX9_phrase_58 : decode cX9_phrase 58 = .ok (.ifCond .lt 8, 3) := by decide +kernel
theorem dX9_phrase_61 : decode cX9_phrase 61 = .ok (.iload_n 3, 1) := by decide +kernel
theorem dX9_phrase_62 : decode cX9_phrase 62 = .ok (.iconst 4, 1) := by decide +kernel
theorem dX9_phrase_63 : decode cX9_phrase 63 = .ok (.if_icmp .lt 13, 3) := by decide +kernel
theorem dX9_phrase_66 : decode cX9_phrase 66 = .ok (.new 126, 3) := by decide +kernel
theorem dX9_phrase_69 : decode cX9_phrase 69 = .ok (.dup, 1) := by decide +kernel
theorem dX9_phrase_70 : decode cX9_phrase 70 = .ok (.ldc 174, 2) := by decide +kernel
theorem dX9_phrase_72 : decode cX9_phrase 72 = .ok (.invokespecial 130, 3) := by decide +kernel
theorem dX9_phrase_75 : decode cX9_phrase 75 = .ok (.athrow, 1) := by decide +kernel
theorem dX9_phrase_76 : decode cX9_phrase 76 = .ok (.aload_n 0, 1) := by decide +kernel
theorem dX9_phrase_77 : decode cX9_phrase 77 = .ok (.getfield 33, 3) := by decide +kernel
theorem dX9_phrase_80 : decode cX9_phrase 80 = .ok (.iload_n 3, 1) := by decide +kernel
theorem dX9_phrase_81 : decode cX9_phrase 81 = .ok (.invokevirtual 176, 3) := by decide +kernel
theorem dX9_phrase_84 : decode cX9_phrase 84 = .ok (.ireturn, 1) := by decide +kernel
theorem dX9_fertility_0 : decode cX9_fertility 0 = .ok (.iload_n 1, 1) := by decide +kernel
theorem dX9_fertility_1 : decode cX9_fertility 1 = .ok (.invokestatic 55, 3) := by decide +kernel
theorem dX9_fertility_4 : decode cX9_fertility 4 = .ok (.ifCond .ne 13, 3) := by decide +kernel
theorem dX9_fertility_7 : decode cX9_fertility 7 = .ok (.new 58, 3) := by decide +kernel
theorem dX9_fertility_10 : decode cX9_fertility 10 = .ok (.dup, 1) := by decide +kernel
theorem dX9_fertility_11 : decode cX9_fertility 11 = .ok (.ldc 179, 2) := by decide +kernel
theorem dX9_fertility_13 : decode cX9_fertility 13 = .ok (.invokespecial 62, 3) := by decide +kernel
theorem dX9_fertility_16 : decode cX9_fertility 16 = .ok (.athrow, 1) := by decide +kernel
theorem dX9_fertility_17 : decode cX9_fertility 17 = .ok (.iload_n 2, 1) := by decide +kernel
theorem dX9_fertility_18 : decode cX9_fertility 18 = .ok (.ifCond .lt 9, 3) := by decide +kernel
theorem dX9_fertility_21 : decode cX9_fertility 21 = .ok (.iload_n 2, 1) := by decide +kernel
theorem dX9_fertility_22 : decode cX9_fertility 22 = .ok (.bipush 8, 2) := by decide +kernel
theorem dX9_fertility_24 : decode cX9_fertility 24 = .ok (.if_icmp .le 13, 3) := by decide +kernel
theorem dX9_fertility_27 : decode cX9_fertility 27 = .ok (.new 126, 3) := by decide +kernel
theorem dX9_fertility_30 : decode cX9_fertility 30 = .ok (.dup, 1) := by decide +kernel
theorem dX9_fertility_31 : decode cX9_fertility 31 = .ok (.ldc 181, 2) := by decide +kernel
theorem dX9_fertility_33 : decode cX9_fertility 33 = .ok (.invokespecial 130, 3) := by decide +kernel
theorem dX9_fertility_36 : decode cX9_fertility 36 = .ok (.athrow, 1) := by decide +kernel
theorem dX9_fertility_37 : decode cX9_fertility 37 = .ok (.iconst 0, 1) := by decide +kernel
theorem dX9_fertility_38 : decode cX9_fertility 38 = .ok (.istore_n 3, 1) := by decide +kernel
theorem dX9_fertility_39 : decode cX9_fertility 39 = .ok (.iconst 0, 1) := by decide +kernel
theorem dX9_fertility_40 : decode cX9_fertility 40 = .ok (.istore 4, 2) := by decide +kernel
theorem dX9_fertility_42 : decode cX9_fertility 42 = .ok (.iload 4, 2) := by decide +kernel
theorem dX9_fertility_44 : decode cX9_fertility 44 = .ok (.aload_n 0, 1) := by decide +kernel
theorem dX9_fertility_45 : decode cX9_fertility 45 = .ok (.getfield 12, 3) := by decide +kernel
theorem dX9_fertility_48 : decode cX9_fertility 48 = .ok (.invokevirtual 183, 3) := by decide +kernel
theorem dX9_fertility_51 : decode cX9_fertility 51 = .ok (.if_icmp .ge 53, 3) := by decide +kernel
theorem dX9_fertility_54 : decode cX9_fertility 54 = .ok (.aload_n 0, 1) := by decide +kernel
theorem dX9_fertility_55 : decode cX9_fertility 55 = .ok (.getfield 12, 3) := by decide +kernel
theorem dX9_fertility_58 : decode cX9_fertility 58 = .ok (.iload 4, 2) := by decide +kernel
theorem dX9_fertility_60 : decode cX9_fertility 60 = .ok (.invokevirtual 186, 3) := by decide +kernel
theorem dX9_fertility_63 : decode cX9_fertility 63 = .ok (.astore 5, 2) := by decide +kernel
theorem dX9_fertility_65 : decode cX9_fertility 65 = .ok (.aload 5, 2) := by decide +kernel
theorem dX9_fertility_67 : decode cX9_fertility 67 = .ok (.ifnull 31, 3) := by decide +kernel
theorem dX9_fertility_70 : decode cX9_fertility 70 = .ok (.aload_n 0, 1) := by decide +kernel
theorem dX9_fertility_71 : decode cX9_fertility 71 = .ok (.getfield 26, 3) := by decide +kernel
theorem dX9_fertility_74 : decode cX9_fertility 74 = .ok (.aload 5, 2) := by decide +kernel
theorem dX9_fertility_76 : decode cX9_fertility 76 = .ok (.aload_n 0, 1) := by decide +kernel
theorem dX9_fertility_77 : decode cX9_fertility 77 = .ok (.getfield 19, 3) := by decide +kernel
theorem dX9_fertility_80 : decode cX9_fertility 80 = .ok (.invokevirtual 157, 3) := by decide +kernel
theorem dX9_fertility_83 : decode cX9_fertility 83 = .ok (.iload_n 3, 1) := by decide +kernel
theorem dX9_fertility_84 : decode cX9_fertility 84 = .ok (.aload_n 0, 1) := by decide +kernel
theorem dX9_fertility_85 : decode cX9_fertility 85 = .ok (.aload 5, 2) := by decide +kernel
theorem dX9_fertility_87 : decode cX9_fertility 87 = .ok (.iconst 0, 1) := by decide +kernel
theorem dX9_fertility_88 : decode cX9_fertility 88 = .ok (.invokevirtual 65, 3) := by decide +kernel
theorem dX9_fertility_91 : decode cX9_fertility 91 = .ok (.iload_n 1, 1) := by decide +kernel
theorem dX9_fertility_92 : decode cX9_fertility 92 = .ok (.iload_n 2, 1) := by decide +kernel
theorem dX9_fertility_93 : decode cX9_fertility 93 = .ok (.invokevirtual 189, 3) := by decide +kernel
theorem dX9_fertility_96 : decode cX9_fertility 96 = .ok (.iadd, 1) := by decide +kernel
theorem dX9_fertility_97 : decode cX9_fertility 97 = .ok (.istore_n 3, 1) := by decide +kernel
theorem dX9_fertility_98 : decode cX9_fertility 98 = .ok (.iinc 4 1, 3) := by decide +kernel
theorem dX9_fertility_101 : decode cX9_fertility 101 = .ok (.goto (-59), 3) := by decide +kernel
theorem dX9_fertility_104 : decode cX9_fertility 104 = .ok (.iload_n 3, 1) := by decide +kernel
theorem dX9_fertility_105 : decode cX9_fertility 105 = .ok (.ireturn, 1) := by decide +kernel
theorem dX9_total_0 : decode cX9_total 0 = .ok (.aload_n 0, 1) := by decide +kernel
theorem dX9_total_1 : decode cX9_total 1 = .ok (.getfield 40, 3) := by decide +kernel
theorem dX9_total_4 : decode cX9_total 4 = .ok (.aload_n 0, 1) := by decide +kernel
theorem dX9_total_5 : decode cX9_total 5 = .ok (.iload_n 1, 1) := by decide +kernel
theorem dX9_total_6 : decode cX9_total 6 = .ok (.invokevirtual 193, 3) := by decide +kernel
theorem dX9_total_9 : decode cX9_total 9 = .ok (.aload_n 0, 1) := by decide +kernel
theorem dX9_total_10 : decode cX9_total 10 = .ok (.getfield 19, 3) := by decide +kernel
theorem dX9_total_13 : decode cX9_total 13 = .ok (.iconst 0, 1) := by decide +kernel
theorem dX9_total_14 : decode cX9_total 14 = .ok (.invokevirtual 111, 3) := by decide +kernel
theorem dX9_total_17 : decode cX9_total 17 = .ok (.invokevirtual 196, 3) := by decide +kernel
theorem dX9_total_20 : decode cX9_total 20 = .ok (.aload_n 0, 1) := by decide +kernel
theorem dX9_total_21 : decode cX9_total 21 = .ok (.getfield 40, 3) := by decide +kernel
theorem dX9_total_24 : decode cX9_total 24 = .ok (.invokevirtual 200, 3) := by decide +kernel
theorem dX9_total_27 : decode cX9_total 27 = .ok (.lreturn, 1) := by decide +kernel
theorem dX9_totalAnew_0 : decode cX9_totalAnew 0 = .ok (.aload_n 0, 1) := by decide +kernel
theorem dX9_totalAnew_1 : decode cX9_totalAnew 1 = .ok (.getfield 40, 3) := by decide +kernel
theorem dX9_totalAnew_4 : decode cX9_totalAnew 4 = .ok (.aload_n 0, 1) := by decide +kernel
theorem dX9_totalAnew_5 : decode cX9_totalAnew 5 = .ok (.iload_n 1, 1) := by decide +kernel
theorem dX9_totalAnew_6 : decode cX9_totalAnew 6 = .ok (.invokevirtual 193, 3) := by decide +kernel
theorem dX9_totalAnew_9 : decode cX9_totalAnew 9 = .ok (.aload_n 0, 1) := by decide +kernel
theorem dX9_totalAnew_10 : decode cX9_totalAnew 10 = .ok (.getfield 19, 3) := by decide +kernel
theorem dX9_totalAnew_13 : decode cX9_totalAnew 13 = .ok (.iconst 0, 1) := by decide +kernel
theorem dX9_totalAnew_14 : decode cX9_totalAnew 14 = .ok (.invokevirtual 111, 3) := by decide +kernel
theorem dX9_totalAnew_17 : decode cX9_totalAnew 17 = .ok (.invokevirtual 196, 3) := by decide +kernel
theorem dX9_totalAnew_20 : decode cX9_totalAnew 20 = .ok (.aload_n 0, 1) := by decide +kernel
theorem dX9_totalAnew_21 : decode cX9_totalAnew 21 = .ok (.getfield 40, 3) := by decide +kernel
theorem dX9_totalAnew_24 : decode cX9_totalAnew 24 = .ok (.invokevirtual 204, 3) := by decide +kernel
theorem dX9_totalAnew_27 : decode cX9_totalAnew 27 = .ok (.lreturn, 1) := by decide +kernel
theorem dX9_isSide_0 : decode cX9_isSide 0 = .ok (.iload_n 0, 1) := by decide +kernel
theorem dX9_isSide_1 : decode cX9_isSide 1 = .ok (.ifCond .lt 12, 3) := by decide +kernel
theorem dX9_isSide_4 : decode cX9_isSide 4 = .ok (.iload_n 0, 1) := by decide +kernel
theorem dX9_isSide_5 : decode cX9_isSide 5 = .ok (.iconst 2, 1) := by decide +kernel
theorem dX9_isSide_6 : decode cX9_isSide 6 = .ok (.if_icmp .ge 7, 3) := by decide +kernel
theorem dX9_isSide_9 : decode cX9_isSide 9 = .ok (.iconst 1, 1) := by decide +kernel
theorem dX9_isSide_10 : decode cX9_isSide 10 = .ok (.goto 4, 3) := by decide +kernel
theorem dX9_isSide_13 : decode cX9_isSide 13 = .ok (.iconst 0, 1) := by decide +kernel
theorem dX9_isSide_14 : decode cX9_isSide 14 = .ok (.ireturn, 1) := by decide +kernel
theorem dX9_isWord_0 : decode cX9_isWord 0 = .ok (.iload_n 0, 1) := by decide +kernel
theorem dX9_isWord_1 : decode cX9_isWord 1 = .ok (.ifCond .lt 13, 3) := by decide +kernel
theorem dX9_isWord_4 : decode cX9_isWord 4 = .ok (.iload_n 0, 1) := by decide +kernel
theorem dX9_isWord_5 : decode cX9_isWord 5 = .ok (.bipush 15, 2) := by decide +kernel
theorem dX9_isWord_7 : decode cX9_isWord 7 = .ok (.if_icmp .ge 7, 3) := by decide +kernel
theorem dX9_isWord_10 : decode cX9_isWord 10 = .ok (.iconst 1, 1) := by decide +kernel
theorem dX9_isWord_11 : decode cX9_isWord 11 = .ok (.goto 4, 3) := by decide +kernel
theorem dX9_isWord_14 : decode cX9_isWord 14 = .ok (.iconst 0, 1) := by decide +kernel
theorem dX9_isWord_15 : decode cX9_isWord 15 = .ok (.ireturn, 1) := by decide +kernel
theorem dX9_pairThatIsThere_0 : decode cX9_pairThatIsThere 0 = .ok (.aload_n 0, 1) := by decide +kernel
theorem dX9_pairThatIsThere_1 : decode cX9_pairThatIsThere 1 = .ok (.getfield 12, 3) := by decide +kernel
theorem dX9_pairThatIsThere_4 : decode cX9_pairThatIsThere 4 = .ok (.iload_n 1, 1) := by decide +kernel
theorem dX9_pairThatIsThere_5 : decode cX9_pairThatIsThere 5 = .ok (.invokevirtual 186, 3) := by decide +kernel
theorem dX9_pairThatIsThere_8 : decode cX9_pairThatIsThere 8 = .ok (.astore_n 2, 1) := by decide +kernel
theorem dX9_pairThatIsThere_9 : decode cX9_pairThatIsThere 9 = .ok (.aload_n 2, 1) := by decide +kernel
theorem dX9_pairThatIsThere_10 : decode cX9_pairThatIsThere 10 = .ok (.ifnonnull 13, 3) := by decide +kernel
theorem dX9_pairThatIsThere_13 : decode cX9_pairThatIsThere 13 = .ok (.new 58, 3) := by decide +kernel
theorem dX9_pairThatIsThere_16 : decode cX9_pairThatIsThere 16 = .ok (.dup, 1) := by decide +kernel
theorem dX9_pairThatIsThere_17 : decode cX9_pairThatIsThere 17 = .ok (.ldc 207, 2) := by decide +kernel
theorem dX9_pairThatIsThere_19 : decode cX9_pairThatIsThere 19 = .ok (.invokespecial 62, 3) := by decide +kernel
theorem dX9_pairThatIsThere_22 : decode cX9_pairThatIsThere 22 = .ok (.athrow, 1) := by decide +kernel
theorem dX9_pairThatIsThere_23 : decode cX9_pairThatIsThere 23 = .ok (.aload_n 2, 1) := by decide +kernel
theorem dX9_pairThatIsThere_24 : decode cX9_pairThatIsThere 24 = .ok (.areturn, 1) := by decide +kernel
theorem dX9_shortPair_0 : decode cX9_shortPair 0 = .ok (.aload_n 0, 1) := by decide +kernel
theorem dX9_shortPair_1 : decode cX9_shortPair 1 = .ok (.iload_n 1, 1) := by decide +kernel
theorem dX9_shortPair_2 : decode cX9_shortPair 2 = .ok (.invokevirtual 100, 3) := by decide +kernel
theorem dX9_shortPair_5 : decode cX9_shortPair 5 = .ok (.astore_n 2, 1) := by decide +kernel
theorem dX9_shortPair_6 : decode cX9_shortPair 6 = .ok (.aload_n 2, 1) := by decide +kernel
theorem dX9_shortPair_7 : decode cX9_shortPair 7 = .ok (.iconst 1, 1) := by decide +kernel
theorem dX9_shortPair_8 : decode cX9_shortPair 8 = .ok (.invokevirtual 65, 3) := by decide +kernel
theorem dX9_shortPair_11 : decode cX9_shortPair 11 = .ok (.invokevirtual 84, 3) := by decide +kernel
theorem dX9_shortPair_14 : decode cX9_shortPair 14 = .ok (.iconst 4, 1) := by decide +kernel
theorem dX9_shortPair_15 : decode cX9_shortPair 15 = .ok (.if_icmp .le 13, 3) := by decide +kernel
theorem dX9_shortPair_18 : decode cX9_shortPair 18 = .ok (.new 75, 3) := by decide +kernel
theorem dX9_shortPair_21 : decode cX9_shortPair 21 = .ok (.dup, 1) := by decide +kernel
theorem dX9_shortPair_22 : decode cX9_shortPair 22 = .ok (.ldc 209, 2) := by decide +kernel
theorem dX9_shortPair_24 : decode cX9_shortPair 24 = .ok (.invokespecial 79, 3) := by decide +kernel
theorem dX9_shortPair_27 : decode cX9_shortPair 27 = .ok (.athrow, 1) := by decide +kernel
theorem dX9_shortPair_28 : decode cX9_shortPair 28 = .ok (.aload_n 2, 1) := by decide +kernel
theorem dX9_shortPair_29 : decode cX9_shortPair 29 = .ok (.areturn, 1) := by decide +kernel
theorem dX9_placesWith_0 : decode cX9_placesWith 0 = .ok (.iconst 0, 1) := by decide +kernel
theorem dX9_placesWith_1 : decode cX9_placesWith 1 = .ok (.istore 4, 2) := by decide +kernel
theorem dX9_placesWith_3 : decode cX9_placesWith 3 = .ok (.iconst 0, 1) := by decide +kernel
theorem dX9_placesWith_4 : decode cX9_placesWith 4 = .ok (.istore 5, 2) := by decide +kernel
theorem dX9_placesWith_6 : decode cX9_placesWith 6 = .ok (.iload 5, 2) := by decide +kernel
theorem dX9_placesWith_8 : decode cX9_placesWith 8 = .ok (.aload_n 1, 1) := by decide +kernel
theorem dX9_placesWith_9 : decode cX9_placesWith 9 = .ok (.invokevirtual 84, 3) := by decide +kernel
theorem dX9_placesWith_12 : decode cX9_placesWith 12 = .ok (.if_icmp .ge 35, 3) := by decide +kernel
theorem dX9_placesWith_15 : decode cX9_placesWith 15 = .ok (.aload_n 1, 1) := by decide +kernel
theorem dX9_placesWith_16 : decode cX9_placesWith 16 = .ok (.iload 5, 2) := by decide +kernel
theorem dX9_placesWith_18 : decode cX9_placesWith 18 = .ok (.invokevirtual 137, 3) := by decide +kernel
theorem dX9_placesWith_21 : decode cX9_placesWith 21 = .ok (.iload_n 2, 1) := by decide +kernel
theorem dX9_placesWith_22 : decode cX9_placesWith 22 = .ok (.if_icmp .ne 19, 3) := by decide +kernel
theorem dX9_placesWith_25 : decode cX9_placesWith 25 = .ok (.aload_n 0, 1) := by decide +kernel
theorem dX9_placesWith_26 : decode cX9_placesWith 26 = .ok (.getfield 26, 3) := by decide +kernel
theorem dX9_placesWith_29 : decode cX9_placesWith 29 = .ok (.iload 5, 2) := by decide +kernel
theorem dX9_placesWith_31 : decode cX9_placesWith 31 = .ok (.invokevirtual 211, 3) := by decide +kernel
theorem dX9_placesWith_34 : decode cX9_placesWith 34 = .ok (.iload_n 3, 1) := by decide +kernel
theorem dX9_placesWith_35 : decode cX9_placesWith 35 = .ok (.if_icmp .ne 6, 3) := by decide +kernel
theorem dX9_placesWith_38 : decode cX9_placesWith 38 = .ok (.iinc 4 1, 3) := by decide +kernel
theorem dX9_placesWith_41 : decode cX9_placesWith 41 = .ok (.iinc 5 1, 3) := by decide +kernel
theorem dX9_placesWith_44 : decode cX9_placesWith 44 = .ok (.goto (-38), 3) := by decide +kernel
theorem dX9_placesWith_47 : decode cX9_placesWith 47 = .ok (.iload 4, 2) := by decide +kernel
theorem dX9_placesWith_49 : decode cX9_placesWith 49 = .ok (.ireturn, 1) := by decide +kernel
theorem dJ6_bitCount_0f7a4_0 : decode cJ6_bitCount_0f7a4 0 = .ok (.iload_n 0, 1) := by decide +kernel
theorem dJ6_bitCount_0f7a4_1 : decode cJ6_bitCount_0f7a4 1 = .ok (.iload_n 0, 1) := by decide +kernel
theorem dJ6_bitCount_0f7a4_2 : decode cJ6_bitCount_0f7a4 2 = .ok (.iconst 1, 1) := by decide +kernel
theorem dJ6_bitCount_0f7a4_3 : decode cJ6_bitCount_0f7a4 3 = .ok (.iushr, 1) := by decide +kernel
theorem dJ6_bitCount_0f7a4_4 : decode cJ6_bitCount_0f7a4 4 = .ok (.ldc_w 265, 3) := by decide +kernel
theorem dJ6_bitCount_0f7a4_7 : decode cJ6_bitCount_0f7a4 7 = .ok (.iand, 1) := by decide +kernel
theorem dJ6_bitCount_0f7a4_8 : decode cJ6_bitCount_0f7a4 8 = .ok (.isub, 1) := by decide +kernel
theorem dJ6_bitCount_0f7a4_9 : decode cJ6_bitCount_0f7a4 9 = .ok (.istore_n 0, 1) := by decide +kernel
theorem dJ6_bitCount_0f7a4_10 : decode cJ6_bitCount_0f7a4 10 = .ok (.iload_n 0, 1) := by decide +kernel
theorem dJ6_bitCount_0f7a4_11 : decode cJ6_bitCount_0f7a4 11 = .ok (.ldc_w 266, 3) := by decide +kernel
theorem dJ6_bitCount_0f7a4_14 : decode cJ6_bitCount_0f7a4 14 = .ok (.iand, 1) := by decide +kernel
theorem dJ6_bitCount_0f7a4_15 : decode cJ6_bitCount_0f7a4 15 = .ok (.iload_n 0, 1) := by decide +kernel
theorem dJ6_bitCount_0f7a4_16 : decode cJ6_bitCount_0f7a4 16 = .ok (.iconst 2, 1) := by decide +kernel
theorem dJ6_bitCount_0f7a4_17 : decode cJ6_bitCount_0f7a4 17 = .ok (.iushr, 1) := by decide +kernel
theorem dJ6_bitCount_0f7a4_18 : decode cJ6_bitCount_0f7a4 18 = .ok (.ldc_w 266, 3) := by decide +kernel
theorem dJ6_bitCount_0f7a4_21 : decode cJ6_bitCount_0f7a4 21 = .ok (.iand, 1) := by decide +kernel
theorem dJ6_bitCount_0f7a4_22 : decode cJ6_bitCount_0f7a4 22 = .ok (.iadd, 1) := by decide +kernel
theorem dJ6_bitCount_0f7a4_23 : decode cJ6_bitCount_0f7a4 23 = .ok (.istore_n 0, 1) := by decide +kernel
theorem dJ6_bitCount_0f7a4_24 : decode cJ6_bitCount_0f7a4 24 = .ok (.iload_n 0, 1) := by decide +kernel
theorem dJ6_bitCount_0f7a4_25 : decode cJ6_bitCount_0f7a4 25 = .ok (.iload_n 0, 1) := by decide +kernel
theorem dJ6_bitCount_0f7a4_26 : decode cJ6_bitCount_0f7a4 26 = .ok (.iconst 4, 1) := by decide +kernel
theorem dJ6_bitCount_0f7a4_27 : decode cJ6_bitCount_0f7a4 27 = .ok (.iushr, 1) := by decide +kernel
theorem dJ6_bitCount_0f7a4_28 : decode cJ6_bitCount_0f7a4 28 = .ok (.iadd, 1) := by decide +kernel
theorem dJ6_bitCount_0f7a4_29 : decode cJ6_bitCount_0f7a4 29 = .ok (.ldc_w 267, 3) := by decide +kernel
theorem dJ6_bitCount_0f7a4_32 : decode cJ6_bitCount_0f7a4 32 = .ok (.iand, 1) := by decide +kernel
theorem dJ6_bitCount_0f7a4_33 : decode cJ6_bitCount_0f7a4 33 = .ok (.istore_n 0, 1) := by decide +kernel
theorem dJ6_bitCount_0f7a4_34 : decode cJ6_bitCount_0f7a4 34 = .ok (.iload_n 0, 1) := by decide +kernel
theorem dJ6_bitCount_0f7a4_35 : decode cJ6_bitCount_0f7a4 35 = .ok (.iload_n 0, 1) := by decide +kernel
theorem dJ6_bitCount_0f7a4_36 : decode cJ6_bitCount_0f7a4 36 = .ok (.bipush 8, 2) := by decide +kernel
theorem dJ6_bitCount_0f7a4_38 : decode cJ6_bitCount_0f7a4 38 = .ok (.iushr, 1) := by decide +kernel
theorem dJ6_bitCount_0f7a4_39 : decode cJ6_bitCount_0f7a4 39 = .ok (.iadd, 1) := by decide +kernel
theorem dJ6_bitCount_0f7a4_40 : decode cJ6_bitCount_0f7a4 40 = .ok (.istore_n 0, 1) := by decide +kernel
theorem dJ6_bitCount_0f7a4_41 : decode cJ6_bitCount_0f7a4 41 = .ok (.iload_n 0, 1) := by decide +kernel
theorem dJ6_bitCount_0f7a4_42 : decode cJ6_bitCount_0f7a4 42 = .ok (.iload_n 0, 1) := by decide +kernel
theorem dJ6_bitCount_0f7a4_43 : decode cJ6_bitCount_0f7a4 43 = .ok (.bipush 16, 2) := by decide +kernel
theorem dJ6_bitCount_0f7a4_45 : decode cJ6_bitCount_0f7a4 45 = .ok (.iushr, 1) := by decide +kernel
theorem dJ6_bitCount_0f7a4_46 : decode cJ6_bitCount_0f7a4 46 = .ok (.iadd, 1) := by decide +kernel
theorem dJ6_bitCount_0f7a4_47 : decode cJ6_bitCount_0f7a4 47 = .ok (.istore_n 0, 1) := by decide +kernel
theorem dJ6_bitCount_0f7a4_48 : decode cJ6_bitCount_0f7a4 48 = .ok (.iload_n 0, 1) := by decide +kernel
theorem dJ6_bitCount_0f7a4_49 : decode cJ6_bitCount_0f7a4 49 = .ok (.bipush 63, 2) := by decide +kernel
theorem dJ6_bitCount_0f7a4_51 : decode cJ6_bitCount_0f7a4 51 = .ok (.iand, 1) := by decide +kernel
theorem dJ6_bitCount_0f7a4_52 : decode cJ6_bitCount_0f7a4 52 = .ok (.ireturn, 1) := by decide +kernel
theorem dJ9_abs_0f7a4_0 : decode cJ9_abs_0f7a4 0 = .ok (.iload_n 0, 1) := by decide +kernel
theorem dJ9_abs_0f7a4_1 : decode cJ9_abs_0f7a4 1 = .ok (.ifCond .ge 8, 3) := by decide +kernel
theorem dJ9_abs_0f7a4_4 : decode cJ9_abs_0f7a4 4 = .ok (.iload_n 0, 1) := by decide +kernel
theorem dJ9_abs_0f7a4_5 : decode cJ9_abs_0f7a4 5 = .ok (.ineg, 1) := by decide +kernel
theorem dJ9_abs_0f7a4_6 : decode cJ9_abs_0f7a4 6 = .ok (.goto 4, 3) := by decide +kernel
theorem dJ9_abs_0f7a4_9 : decode cJ9_abs_0f7a4 9 = .ok (.iload_n 0, 1) := by decide +kernel
theorem dJ9_abs_0f7a4_10 : decode cJ9_abs_0f7a4 10 = .ok (.ireturn, 1) := by decide +kernel
theorem dJ9_min_7cf53_0 : decode cJ9_min_7cf53 0 = .ok (.iload_n 0, 1) := by decide +kernel
theorem dJ9_min_7cf53_1 : decode cJ9_min_7cf53 1 = .ok (.iload_n 1, 1) := by decide +kernel
theorem dJ9_min_7cf53_2 : decode cJ9_min_7cf53 2 = .ok (.if_icmp .gt 7, 3) := by decide +kernel
theorem dJ9_min_7cf53_5 : decode cJ9_min_7cf53 5 = .ok (.iload_n 0, 1) := by decide +kernel
theorem dJ9_min_7cf53_6 : decode cJ9_min_7cf53 6 = .ok (.goto 4, 3) := by decide +kernel
theorem dJ9_min_7cf53_9 : decode cJ9_min_7cf53 9 = .ok (.iload_n 1, 1) := by decide +kernel
theorem dJ9_min_7cf53_10 : decode cJ9_min_7cf53 10 = .ok (.ireturn, 1) := by decide +kernel
theorem dJ7_fill_d0a16_0 : decode cJ7_fill_d0a16 0 = .ok (.iconst 0, 1) := by decide +kernel
theorem dJ7_fill_d0a16_1 : decode cJ7_fill_d0a16 1 = .ok (.istore_n 3, 1) := by decide +kernel
theorem dJ7_fill_d0a16_2 : decode cJ7_fill_d0a16 2 = .ok (.aload_n 0, 1) := by decide +kernel
theorem dJ7_fill_d0a16_3 : decode cJ7_fill_d0a16 3 = .ok (.arraylength, 1) := by decide +kernel
theorem dJ7_fill_d0a16_4 : decode cJ7_fill_d0a16 4 = .ok (.istore 4, 2) := by decide +kernel
theorem dJ7_fill_d0a16_6 : decode cJ7_fill_d0a16 6 = .ok (.iload_n 3, 1) := by decide +kernel
theorem dJ7_fill_d0a16_7 : decode cJ7_fill_d0a16 7 = .ok (.iload 4, 2) := by decide +kernel
theorem dJ7_fill_d0a16_9 : decode cJ7_fill_d0a16 9 = .ok (.if_icmp .ge 13, 3) := by decide +kernel
theorem dJ7_fill_d0a16_12 : decode cJ7_fill_d0a16 12 = .ok (.aload_n 0, 1) := by decide +kernel
theorem dJ7_fill_d0a16_13 : decode cJ7_fill_d0a16 13 = .ok (.iload_n 3, 1) := by decide +kernel
theorem dJ7_fill_d0a16_14 : decode cJ7_fill_d0a16 14 = .ok (.lload_n 1, 1) := by decide +kernel
theorem dJ7_fill_d0a16_15 : decode cJ7_fill_d0a16 15 = .ok (.lastore, 1) := by decide +kernel
theorem dJ7_fill_d0a16_16 : decode cJ7_fill_d0a16 16 = .ok (.iinc 3 1, 3) := by decide +kernel
theorem dJ7_fill_d0a16_19 : decode cJ7_fill_d0a16 19 = .ok (.goto (-13), 3) := by decide +kernel
theorem dJ7_fill_d0a16_22 : decode cJ7_fill_d0a16 22 = .ok (.return_, 1) := by decide +kernel
theorem dJ7_fill_53178_0 : decode cJ7_fill_53178 0 = .ok (.iconst 0, 1) := by decide +kernel
theorem dJ7_fill_53178_1 : decode cJ7_fill_53178 1 = .ok (.istore_n 2, 1) := by decide +kernel
theorem dJ7_fill_53178_2 : decode cJ7_fill_53178 2 = .ok (.aload_n 0, 1) := by decide +kernel
theorem dJ7_fill_53178_3 : decode cJ7_fill_53178 3 = .ok (.arraylength, 1) := by decide +kernel
theorem dJ7_fill_53178_4 : decode cJ7_fill_53178 4 = .ok (.istore_n 3, 1) := by decide +kernel
theorem dJ7_fill_53178_5 : decode cJ7_fill_53178 5 = .ok (.iload_n 2, 1) := by decide +kernel
theorem dJ7_fill_53178_6 : decode cJ7_fill_53178 6 = .ok (.iload_n 3, 1) := by decide +kernel
theorem dJ7_fill_53178_7 : decode cJ7_fill_53178 7 = .ok (.if_icmp .ge 13, 3) := by decide +kernel
theorem dJ7_fill_53178_10 : decode cJ7_fill_53178 10 = .ok (.aload_n 0, 1) := by decide +kernel
theorem dJ7_fill_53178_11 : decode cJ7_fill_53178 11 = .ok (.iload_n 2, 1) := by decide +kernel
theorem dJ7_fill_53178_12 : decode cJ7_fill_53178 12 = .ok (.iload_n 1, 1) := by decide +kernel
theorem dJ7_fill_53178_13 : decode cJ7_fill_53178 13 = .ok (.iastore, 1) := by decide +kernel
theorem dJ7_fill_53178_14 : decode cJ7_fill_53178 14 = .ok (.iinc 2 1, 3) := by decide +kernel
theorem dJ7_fill_53178_17 : decode cJ7_fill_53178 17 = .ok (.goto (-12), 3) := by decide +kernel
theorem dJ7_fill_53178_20 : decode cJ7_fill_53178 20 = .ok (.return_, 1) := by decide +kernel
theorem dL_at_0 : decode cL_at 0 = .ok (.iload_n 1, 1) := by decide +kernel
theorem dL_at_1 : decode cL_at 1 = .ok (.aload_n 0, 1) := by decide +kernel
theorem dL_at_2 : decode cL_at 2 = .ok (.arraylength, 1) := by decide +kernel
theorem dL_at_3 : decode cL_at 3 = .ok (.if_icmp .ge 9, 3) := by decide +kernel
theorem dL_at_6 : decode cL_at 6 = .ok (.aload_n 0, 1) := by decide +kernel
theorem dL_at_7 : decode cL_at 7 = .ok (.iload_n 1, 1) := by decide +kernel
theorem dL_at_8 : decode cL_at 8 = .ok (.iaload, 1) := by decide +kernel
theorem dL_at_9 : decode cL_at 9 = .ok (.goto 12, 3) := by decide +kernel
theorem dL_at_12 : decode cL_at 12 = .ok (.ldc 7, 2) := by decide +kernel
theorem dL_at_14 : decode cL_at 14 = .ok (.iload_n 1, 1) := by decide +kernel
theorem dL_at_15 : decode cL_at 15 = .ok (.iconst 1, 1) := by decide +kernel
theorem dL_at_16 : decode cL_at 16 = .ok (.iadd, 1) := by decide +kernel
theorem dL_at_17 : decode cL_at 17 = .ok (.imul, 1) := by decide +kernel
theorem dL_at_18 : decode cL_at 18 = .ok (.ldc 8, 2) := by decide +kernel
theorem dL_at_20 : decode cL_at 20 = .ok (.iadd, 1) := by decide +kernel
theorem dL_at_21 : decode cL_at 21 = .ok (.ireturn, 1) := by decide +kernel
theorem dL_low_0 : decode cL_low 0 = .ok (.iload_n 0, 1) := by decide +kernel
theorem dL_low_1 : decode cL_low 1 = .ok (.ldc 9, 2) := by decide +kernel
theorem dL_low_3 : decode cL_low 3 = .ok (.iand, 1) := by decide +kernel
theorem dL_low_4 : decode cL_low 4 = .ok (.iload_n 1, 1) := by decide +kernel
theorem dL_low_5 : decode cL_low 5 = .ok (.irem, 1) := by decide +kernel
theorem dL_low_6 : decode cL_low 6 = .ok (.ireturn, 1) := by decide +kernel
theorem dL_put_0 : decode cL_put 0 = .ok (.aload_n 0, 1) := by decide +kernel
theorem dL_put_1 : decode cL_put 1 = .ok (.iload_n 1, 1) := by decide +kernel
theorem dL_put_2 : decode cL_put 2 = .ok (.iload_n 2, 1) := by decide +kernel
theorem dL_put_3 : decode cL_put 3 = .ok (.invokevirtual 10, 3) := by decide +kernel
theorem dL_put_6 : decode cL_put 6 = .ok (.ireturn, 1) := by decide +kernel
theorem dL_put_7 : decode cL_put 7 = .ok (.astore_n 3, 1) := by decide +kernel
theorem dL_put_8 : decode cL_put 8 = .ok (.ldc 18, 2) := by decide +kernel
theorem dL_put_10 : decode cL_put 10 = .ok (.ireturn, 1) := by decide +kernel
theorem dL_put_11 : decode cL_put 11 = .ok (.astore_n 3, 1) := by decide +kernel
theorem dL_put_12 : decode cL_put 12 = .ok (.ldc 21, 2) := by decide +kernel
theorem dL_put_14 : decode cL_put 14 = .ok (.ireturn, 1) := by decide +kernel
theorem dL_pair_0 : decode cL_pair 0 = .ok (.aload_n 0, 1) := by decide +kernel
theorem dL_pair_1 : decode cL_pair 1 = .ok (.invokevirtual 22, 3) := by decide +kernel
theorem dL_pair_4 : decode cL_pair 4 = .ok (.ireturn, 1) := by decide +kernel
theorem dL_pair_5 : decode cL_pair 5 = .ok (.astore_n 1, 1) := by decide +kernel
theorem dL_pair_6 : decode cL_pair 6 = .ok (.ldc 21, 2) := by decide +kernel
theorem dL_pair_8 : decode cL_pair 8 = .ok (.ireturn, 1) := by decide +kernel
theorem dL_takeBack_0 : decode cL_takeBack 0 = .ok (.aload_n 0, 1) := by decide +kernel
theorem dL_takeBack_1 : decode cL_takeBack 1 = .ok (.iload_n 1, 1) := by decide +kernel
theorem dL_takeBack_2 : decode cL_takeBack 2 = .ok (.invokevirtual 26, 3) := by decide +kernel
theorem dL_takeBack_5 : decode cL_takeBack 5 = .ok (.ireturn, 1) := by decide +kernel
theorem dL_takeBack_6 : decode cL_takeBack 6 = .ok (.astore_n 2, 1) := by decide +kernel
theorem dL_takeBack_7 : decode cL_takeBack 7 = .ok (.ldc 18, 2) := by decide +kernel
theorem dL_takeBack_9 : decode cL_takeBack 9 = .ok (.ireturn, 1) := by decide +kernel
theorem dL_weight_0 : decode cL_weight 0 = .ok (.aload_n 0, 1) := by decide +kernel
theorem dL_weight_1 : decode cL_weight 1 = .ok (.iload_n 1, 1) := by decide +kernel
theorem dL_weight_2 : decode cL_weight 2 = .ok (.iload_n 2, 1) := by decide +kernel
theorem dL_weight_3 : decode cL_weight 3 = .ok (.invokevirtual 30, 3) := by decide +kernel
theorem dL_weight_6 : decode cL_weight 6 = .ok (.ireturn, 1) := by decide +kernel
theorem dL_weight_7 : decode cL_weight 7 = .ok (.astore_n 3, 1) := by decide +kernel
theorem dL_weight_8 : decode cL_weight 8 = .ok (.ldc 18, 2) := by decide +kernel
theorem dL_weight_10 : decode cL_weight 10 = .ok (.ireturn, 1) := by decide +kernel
theorem dL_weight_11 : decode cL_weight 11 = .ok (.astore_n 3, 1) := by decide +kernel
theorem dL_weight_12 : decode cL_weight 12 = .ok (.ldc 35, 2) := by decide +kernel
theorem dL_weight_14 : decode cL_weight 14 = .ok (.ireturn, 1) := by decide +kernel
theorem dL_word_0 : decode cL_word 0 = .ok (.aload_n 0, 1) := by decide +kernel
theorem dL_word_1 : decode cL_word 1 = .ok (.iload_n 1, 1) := by decide +kernel
theorem dL_word_2 : decode cL_word 2 = .ok (.iload_n 2, 1) := by decide +kernel
theorem dL_word_3 : decode cL_word 3 = .ok (.iload_n 3, 1) := by decide +kernel
theorem dL_word_4 : decode cL_word 4 = .ok (.invokevirtual 36, 3) := by decide +kernel
theorem dL_word_7 : decode cL_word 7 = .ok (.ireturn, 1) := by decide +kernel
theorem dL_word_8 : decode cL_word 8 = .ok (.astore 4, 2) := by decide +kernel
theorem dL_word_10 : decode cL_word 10 = .ok (.ldc 18, 2) := by decide +kernel
theorem dL_word_12 : decode cL_word 12 = .ok (.ireturn, 1) := by decide +kernel
theorem dL_share_0 : decode cL_share 0 = .ok (.aload_n 0, 1) := by decide +kernel
theorem dL_share_1 : decode cL_share 1 = .ok (.iload_n 1, 1) := by decide +kernel
theorem dL_share_2 : decode cL_share 2 = .ok (.iload_n 2, 1) := by decide +kernel
theorem dL_share_3 : decode cL_share 3 = .ok (.iload_n 3, 1) := by decide +kernel
theorem dL_share_4 : decode cL_share 4 = .ok (.invokevirtual 40, 3) := by decide +kernel
theorem dL_share_7 : decode cL_share 7 = .ok (.ireturn, 1) := by decide +kernel
theorem dL_share_8 : decode cL_share 8 = .ok (.astore 4, 2) := by decide +kernel
theorem dL_share_10 : decode cL_share 10 = .ok (.ldc 18, 2) := by decide +kernel
theorem dL_share_12 : decode cL_share 12 = .ok (.ireturn, 1) := by decide +kernel
theorem dL_link_0 : decode cL_link 0 = .ok (.aload_n 0, 1) := by decide +kernel
theorem dL_link_1 : decode cL_link 1 = .ok (.iload_n 1, 1) := by decide +kernel
theorem dL_link_2 : decode cL_link 2 = .ok (.iload_n 2, 1) := by decide +kernel
theorem dL_link_3 : decode cL_link 3 = .ok (.iload_n 3, 1) := by decide +kernel
theorem dL_link_4 : decode cL_link 4 = .ok (.invokevirtual 43, 3) := by decide +kernel
theorem dL_link_7 : decode cL_link 7 = .ok (.ireturn, 1) := by decide +kernel
theorem dL_link_8 : decode cL_link 8 = .ok (.astore 4, 2) := by decide +kernel
theorem dL_link_10 : decode cL_link 10 = .ok (.ldc 18, 2) := by decide +kernel
theorem dL_link_12 : decode cL_link 12 = .ok (.ireturn, 1) := by decide +kernel
theorem dL_isJoined_0 : decode cL_isJoined 0 = .ok (.aload_n 0, 1) := by decide +kernel
theorem dL_isJoined_1 : decode cL_isJoined 1 = .ok (.iload_n 1, 1) := by decide +kernel
theorem dL_isJoined_2 : decode cL_isJoined 2 = .ok (.iload_n 2, 1) := by decide +kernel
theorem dL_isJoined_3 : decode cL_isJoined 3 = .ok (.iload_n 3, 1) := by decide +kernel
theorem dL_isJoined_4 : decode cL_isJoined 4 = .ok (.invokevirtual 46, 3) := by decide +kernel
theorem dL_isJoined_7 : decode cL_isJoined 7 = .ok (.ifCond .eq 7, 3) := by decide +kernel
theorem dL_isJoined_10 : decode cL_isJoined 10 = .ok (.iconst 1, 1) := by decide +kernel
theorem dL_isJoined_11 : decode cL_isJoined 11 = .ok (.goto 4, 3) := by decide +kernel
theorem dL_isJoined_14 : decode cL_isJoined 14 = .ok (.iconst 0, 1) := by decide +kernel
theorem dL_isJoined_15 : decode cL_isJoined 15 = .ok (.ireturn, 1) := by decide +kernel
theorem dL_isJoined_16 : decode cL_isJoined 16 = .ok (.astore 4, 2) := by decide +kernel
theorem dL_isJoined_18 : decode cL_isJoined 18 = .ok (.ldc 18, 2) := by decide +kernel
theorem dL_isJoined_20 : decode cL_isJoined 20 = .ok (.ireturn, 1) := by decide +kernel
theorem dL_phrases_0 : decode cL_phrases 0 = .ok (.aload_n 0, 1) := by decide +kernel
theorem dL_phrases_1 : decode cL_phrases 1 = .ok (.iload_n 1, 1) := by decide +kernel
theorem dL_phrases_2 : decode cL_phrases 2 = .ok (.invokevirtual 50, 3) := by decide +kernel
theorem dL_phrases_5 : decode cL_phrases 5 = .ok (.ireturn, 1) := by decide +kernel
theorem dL_phrases_6 : decode cL_phrases 6 = .ok (.astore_n 2, 1) := by decide +kernel
theorem dL_phrases_7 : decode cL_phrases 7 = .ok (.ldc 18, 2) := by decide +kernel
theorem dL_phrases_9 : decode cL_phrases 9 = .ok (.ireturn, 1) := by decide +kernel
theorem dL_phrase_0 : decode cL_phrase 0 = .ok (.aload_n 0, 1) := by decide +kernel
theorem dL_phrase_1 : decode cL_phrase 1 = .ok (.iload_n 1, 1) := by decide +kernel
theorem dL_phrase_2 : decode cL_phrase 2 = .ok (.iload_n 2, 1) := by decide +kernel
theorem dL_phrase_3 : decode cL_phrase 3 = .ok (.iload_n 3, 1) := by decide +kernel
theorem dL_phrase_4 : decode cL_phrase 4 = .ok (.invokevirtual 53, 3) := by decide +kernel
theorem dL_phrase_7 : decode cL_phrase 7 = .ok (.ireturn, 1) := by decide +kernel
theorem dL_phrase_8 : decode cL_phrase 8 = .ok (.astore 4, 2) := by decide +kernel
theorem dL_phrase_10 : decode cL_phrase 10 = .ok (.ldc 18, 2) := by decide +kernel
theorem dL_phrase_12 : decode cL_phrase 12 = .ok (.ireturn, 1) := by decide +kernel
theorem dL_phrase_13 : decode cL_phrase 13 = .ok (.astore 4, 2) := by decide +kernel
theorem dL_phrase_15 : decode cL_phrase 15 = .ok (.ldc 35, 2) := by decide +kernel
theorem dL_phrase_17 : decode cL_phrase 17 = .ok (.ireturn, 1) := by decide +kernel
theorem dL_fertility_0 : decode cL_fertility 0 = .ok (.aload_n 0, 1) := by decide +kernel
theorem dL_fertility_1 : decode cL_fertility 1 = .ok (.iload_n 1, 1) := by decide +kernel
theorem dL_fertility_2 : decode cL_fertility 2 = .ok (.iload_n 2, 1) := by decide +kernel
theorem dL_fertility_3 : decode cL_fertility 3 = .ok (.invokevirtual 56, 3) := by decide +kernel
theorem dL_fertility_6 : decode cL_fertility 6 = .ok (.ireturn, 1) := by decide +kernel
theorem dL_fertility_7 : decode cL_fertility 7 = .ok (.astore_n 3, 1) := by decide +kernel
theorem dL_fertility_8 : decode cL_fertility 8 = .ok (.ldc 18, 2) := by decide +kernel
theorem dL_fertility_10 : decode cL_fertility 10 = .ok (.ireturn, 1) := by decide +kernel
theorem dL_fertility_11 : decode cL_fertility 11 = .ok (.astore_n 3, 1) := by decide +kernel
theorem dL_fertility_12 : decode cL_fertility 12 = .ok (.ldc 35, 2) := by decide +kernel
theorem dL_fertility_14 : decode cL_fertility 14 = .ok (.ireturn, 1) := by decide +kernel
theorem dL_total_0 : decode cL_total 0 = .ok (.aload_n 0, 1) := by decide +kernel
theorem dL_total_1 : decode cL_total 1 = .ok (.iload_n 1, 1) := by decide +kernel
theorem dL_total_2 : decode cL_total 2 = .ok (.invokevirtual 59, 3) := by decide +kernel
theorem dL_total_5 : decode cL_total 5 = .ok (.lreturn, 1) := by decide +kernel
theorem dL_total_6 : decode cL_total 6 = .ok (.astore_n 2, 1) := by decide +kernel
theorem dL_total_7 : decode cL_total 7 = .ok (.ldc2_w 63, 3) := by decide +kernel
theorem dL_total_10 : decode cL_total 10 = .ok (.lreturn, 1) := by decide +kernel
theorem dL_total_11 : decode cL_total 11 = .ok (.astore_n 2, 1) := by decide +kernel
theorem dL_total_12 : decode cL_total 12 = .ok (.ldc2_w 65, 3) := by decide +kernel
theorem dL_total_15 : decode cL_total 15 = .ok (.lreturn, 1) := by decide +kernel
theorem dL_totalAnew_0 : decode cL_totalAnew 0 = .ok (.aload_n 0, 1) := by decide +kernel
theorem dL_totalAnew_1 : decode cL_totalAnew 1 = .ok (.iload_n 1, 1) := by decide +kernel
theorem dL_totalAnew_2 : decode cL_totalAnew 2 = .ok (.invokevirtual 67, 3) := by decide +kernel
theorem dL_totalAnew_5 : decode cL_totalAnew 5 = .ok (.lreturn, 1) := by decide +kernel
theorem dL_totalAnew_6 : decode cL_totalAnew 6 = .ok (.astore_n 2, 1) := by decide +kernel
theorem dL_totalAnew_7 : decode cL_totalAnew 7 = .ok (.ldc2_w 63, 3) := by decide +kernel
theorem dL_totalAnew_10 : decode cL_totalAnew 10 = .ok (.lreturn, 1) := by decide +kernel
theorem dL_totalAnew_11 : decode cL_totalAnew 11 = .ok (.astore_n 2, 1) := by decide +kernel
theorem dL_totalAnew_12 : decode cL_totalAnew 12 = .ok (.ldc2_w 65, 3) := by decide +kernel
theorem dL_totalAnew_15 : decode cL_totalAnew 15 = .ok (.lreturn, 1) := by decide +kernel
theorem dL_areShares_0 : decode cL_areShares 0 = .ok (.iconst 1, 1) := by decide +kernel
theorem dL_areShares_1 : decode cL_areShares 1 = .ok (.istore_n 1, 1) := by decide +kernel
theorem dL_areShares_2 : decode cL_areShares 2 = .ok (.iconst 0, 1) := by decide +kernel
theorem dL_areShares_3 : decode cL_areShares 3 = .ok (.istore_n 2, 1) := by decide +kernel
theorem dL_areShares_4 : decode cL_areShares 4 = .ok (.iload_n 2, 1) := by decide +kernel
theorem dL_areShares_5 : decode cL_areShares 5 = .ok (.bipush 32, 2) := by decide +kernel
theorem dL_areShares_7 : decode cL_areShares 7 = .ok (.if_icmp .ge 94, 3) := by decide +kernel
theorem dL_areShares_10 : decode cL_areShares 10 = .ok (.iload_n 1, 1) := by decide +kernel
theorem dL_areShares_11 : decode cL_areShares 11 = .ok (.ifCond .eq 90, 3) := by decide +kernel
theorem dL_areShares_14 : decode cL_areShares 14 = .ok (.iconst 0, 1) := by decide +kernel
theorem dL_areShares_15 : decode cL_areShares 15 = .ok (.istore_n 3, 1) := by decide +kernel
theorem dL_areShares_16 : decode cL_areShares 16 = .ok (.iconst 0, 1) := by decide +kernel
theorem dL_areShares_17 : decode cL_areShares 17 = .ok (.istore 4, 2) := by decide +kernel
theorem dL_areShares_19 : decode cL_areShares 19 = .ok (.iload 4, 2) := by decide +kernel
theorem dL_areShares_21 : decode cL_areShares 21 = .ok (.bipush 15, 2) := by decide +kernel
theorem dL_areShares_23 : decode cL_areShares 23 = .ok (.if_icmp .ge 52, 3) := by decide +kernel
theorem dL_areShares_26 : decode cL_areShares 26 = .ok (.aload_n 0, 1) := by decide +kernel
theorem dL_areShares_27 : decode cL_areShares 27 = .ok (.iload_n 2, 1) := by decide +kernel
theorem dL_areShares_28 : decode cL_areShares 28 = .ok (.bipush 16, 2) := by decide +kernel
theorem dL_areShares_30 : decode cL_areShares 30 = .ok (.idiv, 1) := by decide +kernel
theorem dL_areShares_31 : decode cL_areShares 31 = .ok (.iload_n 2, 1) := by decide +kernel
theorem dL_areShares_32 : decode cL_areShares 32 = .ok (.bipush 16, 2) := by decide +kernel
theorem dL_areShares_34 : decode cL_areShares 34 = .ok (.irem, 1) := by decide +kernel
theorem dL_areShares_35 : decode cL_areShares 35 = .ok (.iload 4, 2) := by decide +kernel
theorem dL_areShares_37 : decode cL_areShares 37 = .ok (.invokestatic 70, 3) := by decide +kernel
theorem dL_areShares_40 : decode cL_areShares 40 = .ok (.istore 5, 2) := by decide +kernel
theorem dL_areShares_42 : decode cL_areShares 42 = .ok (.iload_n 1, 1) := by decide +kernel
theorem dL_areShares_43 : decode cL_areShares 43 = .ok (.ifCond .eq 19, 3) := by decide +kernel
theorem dL_areShares_46 : decode cL_areShares 46 = .ok (.iload 5, 2) := by decide +kernel
theorem dL_areShares_48 : decode cL_areShares 48 = .ok (.ifCond .lt 14, 3) := by decide +kernel
theorem dL_areShares_51 : decode cL_areShares 51 = .ok (.iload 5, 2) := by decide +kernel
theorem dL_areShares_53 : decode cL_areShares 53 = .ok (.ldc 75, 2) := by decide +kernel
theorem dL_areShares_55 : decode cL_areShares 55 = .ok (.if_icmp .gt 7, 3) := by decide +kernel
theorem dL_areShares_58 : decode cL_areShares 58 = .ok (.iconst 1, 1) := by decide +kernel
theorem dL_areShares_59 : decode cL_areShares 59 = .ok (.goto 4, 3) := by decide +kernel
theorem dL_areShares_62 : decode cL_areShares 62 = .ok (.iconst 0, 1) := by decide +kernel
theorem dL_areShares_63 : decode cL_areShares 63 = .ok (.istore_n 1, 1) := by decide +kernel
theorem dL_areShares_64 : decode cL_areShares 64 = .ok (.iload_n 3, 1) := by decide +kernel
theorem dL_areShares_65 : decode cL_areShares 65 = .ok (.iload 5, 2) := by decide +kernel
theorem dL_areShares_67 : decode cL_areShares 67 = .ok (.iadd, 1) := by decide +kernel
theorem dL_areShares_68 : decode cL_areShares 68 = .ok (.istore_n 3, 1) := by decide +kernel
theorem dL_areShares_69 : decode cL_areShares 69 = .ok (.iinc 4 1, 3) := by decide +kernel
theorem dL_areShares_72 : decode cL_areShares 72 = .ok (.goto (-53), 3) := by decide +kernel
theorem dL_areShares_75 : decode cL_areShares 75 = .ok (.iload_n 1, 1) := by decide +kernel
theorem dL_areShares_76 : decode cL_areShares 76 = .ok (.ifCond .eq 17, 3) := by decide +kernel
theorem dL_areShares_79 : decode cL_areShares 79 = .ok (.iload_n 3, 1) := by decide +kernel
theorem dL_areShares_80 : decode cL_areShares 80 = .ok (.ifCond .eq 9, 3) := by decide +kernel
theorem dL_areShares_83 : decode cL_areShares 83 = .ok (.iload_n 3, 1) := by decide +kernel
theorem dL_areShares_84 : decode cL_areShares 84 = .ok (.ldc 75, 2) := by decide +kernel
theorem dL_areShares_86 : decode cL_areShares 86 = .ok (.if_icmp .ne 7, 3) := by decide +kernel
theorem dL_areShares_89 : decode cL_areShares 89 = .ok (.iconst 1, 1) := by decide +kernel
theorem dL_areShares_90 : decode cL_areShares 90 = .ok (.goto 4, 3) := by decide +kernel
theorem dL_areShares_93 : decode cL_areShares 93 = .ok (.iconst 0, 1) := by decide +kernel
theorem dL_areShares_94 : decode cL_areShares 94 = .ok (.istore_n 1, 1) := by decide +kernel
theorem dL_areShares_95 : decode cL_areShares 95 = .ok (.iinc 2 1, 3) := by decide +kernel
theorem dL_areShares_98 : decode cL_areShares 98 = .ok (.goto (-94), 3) := by decide +kernel
theorem dL_areShares_101 : decode cL_areShares 101 = .ok (.iload_n 1, 1) := by decide +kernel
theorem dL_areShares_102 : decode cL_areShares 102 = .ok (.ireturn, 1) := by decide +kernel
theorem dL_areLinks_0 : decode cL_areLinks 0 = .ok (.aload_n 1, 1) := by decide +kernel
theorem dL_areLinks_1 : decode cL_areLinks 1 = .ok (.iconst 2, 1) := by decide +kernel
theorem dL_areLinks_2 : decode cL_areLinks 2 = .ok (.iload_n 2, 1) := by decide +kernel
theorem dL_areLinks_3 : decode cL_areLinks 3 = .ok (.imul, 1) := by decide +kernel
theorem dL_areLinks_4 : decode cL_areLinks 4 = .ok (.iaload, 1) := by decide +kernel
theorem dL_areLinks_5 : decode cL_areLinks 5 = .ok (.istore_n 3, 1) := by decide +kernel
theorem dL_areLinks_6 : decode cL_areLinks 6 = .ok (.aload_n 1, 1) := by decide +kernel
theorem dL_areLinks_7 : decode cL_areLinks 7 = .ok (.iconst 2, 1) := by decide +kernel
theorem dL_areLinks_8 : decode cL_areLinks 8 = .ok (.iload_n 2, 1) := by decide +kernel
theorem dL_areLinks_9 : decode cL_areLinks 9 = .ok (.imul, 1) := by decide +kernel
theorem dL_areLinks_10 : decode cL_areLinks 10 = .ok (.iconst 1, 1) := by decide +kernel
theorem dL_areLinks_11 : decode cL_areLinks 11 = .ok (.iadd, 1) := by decide +kernel
theorem dL_areLinks_12 : decode cL_areLinks 12 = .ok (.iaload, 1) := by decide +kernel
theorem dL_areLinks_13 : decode cL_areLinks 13 = .ok (.istore 4, 2) := by decide +kernel
theorem dL_areLinks_15 : decode cL_areLinks 15 = .ok (.aload_n 0, 1) := by decide +kernel
theorem dL_areLinks_16 : decode cL_areLinks 16 = .ok (.iconst 0, 1) := by decide +kernel
theorem dL_areLinks_17 : decode cL_areLinks 17 = .ok (.iload_n 2, 1) := by decide +kernel
theorem dL_areLinks_18 : decode cL_areLinks 18 = .ok (.iload 4, 2) := by decide +kernel
theorem dL_areLinks_20 : decode cL_areLinks 20 = .ok (.invokestatic 76, 3) := by decide +kernel
theorem dL_areLinks_23 : decode cL_areLinks 23 = .ok (.ldc 18, 2) := by decide +kernel
theorem dL_areLinks_25 : decode cL_areLinks 25 = .ok (.if_icmp .ne 31, 3) := by decide +kernel
theorem dL_areLinks_28 : decode cL_areLinks 28 = .ok (.aload_n 0, 1) := by decide +kernel
theorem dL_areLinks_29 : decode cL_areLinks 29 = .ok (.iconst 1, 1) := by decide +kernel
theorem dL_areLinks_30 : decode cL_areLinks 30 = .ok (.iload_n 2, 1) := by decide +kernel
theorem dL_areLinks_31 : decode cL_areLinks 31 = .ok (.iload_n 3, 1) := by decide +kernel
theorem dL_areLinks_32 : decode cL_areLinks 32 = .ok (.invokestatic 76, 3) := by decide +kernel
theorem dL_areLinks_35 : decode cL_areLinks 35 = .ok (.ldc 18, 2) := by decide +kernel
theorem dL_areLinks_37 : decode cL_areLinks 37 = .ok (.if_icmp .ne 19, 3) := by decide +kernel
theorem dL_areLinks_40 : decode cL_areLinks 40 = .ok (.aload_n 0, 1) := by decide +kernel
theorem dL_areLinks_41 : decode cL_areLinks 41 = .ok (.iload_n 2, 1) := by decide +kernel
theorem dL_areLinks_42 : decode cL_areLinks 42 = .ok (.iload_n 3, 1) := by decide +kernel
theorem dL_areLinks_43 : decode cL_areLinks 43 = .ok (.iconst 0, 1) := by decide +kernel
theorem dL_areLinks_44 : decode cL_areLinks 44 = .ok (.invokestatic 78, 3) := by decide +kernel
theorem dL_areLinks_47 : decode cL_areLinks 47 = .ok (.ldc 18, 2) := by decide +kernel
theorem dL_areLinks_49 : decode cL_areLinks 49 = .ok (.if_icmp .ne 7, 3) := by decide +kernel
theorem dL_areLinks_52 : decode cL_areLinks 52 = .ok (.iconst 1, 1) := by decide +kernel
theorem dL_areLinks_53 : decode cL_areLinks 53 = .ok (.goto 4, 3) := by decide +kernel
theorem dL_areLinks_56 : decode cL_areLinks 56 = .ok (.iconst 0, 1) := by decide +kernel
theorem dL_areLinks_57 : decode cL_areLinks 57 = .ok (.istore 5, 2) := by decide +kernel
theorem dL_areLinks_59 : decode cL_areLinks 59 = .ok (.bipush 64, 2) := by decide +kernel
theorem dL_areLinks_61 : decode cL_areLinks 61 = .ok (.newarray .int, 2) := by decide +kernel
theorem dL_areLinks_63 : decode cL_areLinks 63 = .ok (.astore 6, 2) := by decide +kernel
theorem dL_areLinks_65 : decode cL_areLinks 65 = .ok (.iconst 0, 1) := by decide +kernel
theorem dL_areLinks_66 : decode cL_areLinks 66 = .ok (.istore 7, 2) := by decide +kernel
theorem dL_areLinks_68 : decode cL_areLinks 68 = .ok (.iload 7, 2) := by decide +kernel
theorem dL_areLinks_70 : decode cL_areLinks 70 = .ok (.iload_n 3, 1) := by decide +kernel
theorem dL_areLinks_71 : decode cL_areLinks 71 = .ok (.iload 4, 2) := by decide +kernel
theorem dL_areLinks_73 : decode cL_areLinks 73 = .ok (.imul, 1) := by decide +kernel
theorem dL_areLinks_74 : decode cL_areLinks 74 = .ok (.if_icmp .ge 173, 3) := by decide +kernel
theorem dL_areLinks_77 : decode cL_areLinks 77 = .ok (.iload 7, 2) := by decide +kernel
theorem dL_areLinks_79 : decode cL_areLinks 79 = .ok (.iload 4, 2) := by decide +kernel
theorem dL_areLinks_81 : decode cL_areLinks 81 = .ok (.idiv, 1) := by decide +kernel
theorem dL_areLinks_82 : decode cL_areLinks 82 = .ok (.istore 8, 2) := by decide +kernel
theorem dL_areLinks_84 : decode cL_areLinks 84 = .ok (.iload 7, 2) := by decide +kernel
theorem dL_areLinks_86 : decode cL_areLinks 86 = .ok (.iload 4, 2) := by decide +kernel
theorem dL_areLinks_88 : decode cL_areLinks 88 = .ok (.irem, 1) := by decide +kernel
theorem dL_areLinks_89 : decode cL_areLinks 89 = .ok (.istore 9, 2) := by decide +kernel
theorem dL_areLinks_91 : decode cL_areLinks 91 = .ok (.aload_n 0, 1) := by decide +kernel
theorem dL_areLinks_92 : decode cL_areLinks 92 = .ok (.iconst 0, 1) := by decide +kernel
theorem dL_areLinks_93 : decode cL_areLinks 93 = .ok (.iload_n 2, 1) := by decide +kernel
theorem dL_areLinks_94 : decode cL_areLinks 94 = .ok (.iload 9, 2) := by decide +kernel
theorem dL_areLinks_96 : decode cL_areLinks 96 = .ok (.invokestatic 76, 3) := by decide +kernel
theorem dL_areLinks_99 : decode cL_areLinks 99 = .ok (.istore 10, 2) := by decide +kernel
theorem dL_areLinks_101 : decode cL_areLinks 101 = .ok (.aload_n 0, 1) := by decide +kernel
theorem dL_areLinks_102 : decode cL_areLinks 102 = .ok (.iconst 1, 1) := by decide +kernel
theorem dL_areLinks_103 : decode cL_areLinks 103 = .ok (.iload_n 2, 1) := by decide +kernel
theorem dL_areLinks_104 : decode cL_areLinks 104 = .ok (.iload 8, 2) := by decide +kernel
theorem dL_areLinks_106 : decode cL_areLinks 106 = .ok (.invokestatic 76, 3) := by decide +kernel
theorem dL_areLinks_109 : decode cL_areLinks 109 = .ok (.istore 11, 2) := by decide +kernel
theorem dL_areLinks_111 : decode cL_areLinks 111 = .ok (.aload_n 0, 1) := by decide +kernel
theorem dL_areLinks_112 : decode cL_areLinks 112 = .ok (.iload_n 2, 1) := by decide +kernel
theorem dL_areLinks_113 : decode cL_areLinks 113 = .ok (.iload 8, 2) := by decide +kernel
theorem dL_areLinks_115 : decode cL_areLinks 115 = .ok (.iload 9, 2) := by decide +kernel
theorem dL_areLinks_117 : decode cL_areLinks 117 = .ok (.invokestatic 78, 3) := by decide +kernel
theorem dL_areLinks_120 : decode cL_areLinks 120 = .ok (.istore 12, 2) := by decide +kernel
theorem dL_areLinks_122 : decode cL_areLinks 122 = .ok (.iload 5, 2) := by decide +kernel
theorem dL_areLinks_124 : decode cL_areLinks 124 = .ok (.ifCond .eq 74, 3) := by decide +kernel
theorem dL_areLinks_127 : decode cL_areLinks 127 = .ok (.iload 10, 2) := by decide +kernel
theorem dL_areLinks_129 : decode cL_areLinks 129 = .ok (.iconst (-1), 1) := by decide +kernel
theorem dL_areLinks_130 : decode cL_areLinks 130 = .ok (.if_icmp .lt 68, 3) := by decide +kernel
theorem dL_areLinks_133 : decode cL_areLinks 133 = .ok (.iload 10, 2) := by decide +kernel
theorem dL_areLinks_135 : decode cL_areLinks 135 = .ok (.iload_n 3, 1) := by decide +kernel
theorem dL_areLinks_136 : decode cL_areLinks 136 = .ok (.if_icmp .ge 62, 3) := by decide +kernel
theorem dL_areLinks_139 : decode cL_areLinks 139 = .ok (.iload 11, 2) := by decide +kernel
theorem dL_areLinks_141 : decode cL_areLinks 141 = .ok (.iconst (-1), 1) := by decide +kernel
theorem dL_areLinks_142 : decode cL_areLinks 142 = .ok (.if_icmp .lt 56, 3) := by decide +kernel
theorem dL_areLinks_145 : decode cL_areLinks 145 = .ok (.iload 11, 2) := by decide +kernel
theorem dL_areLinks_147 : decode cL_areLinks 147 = .ok (.iload 4, 2) := by decide +kernel
theorem dL_areLinks_149 : decode cL_areLinks 149 = .ok (.if_icmp .ge 49, 3) := by decide +kernel
theorem dL_areLinks_152 : decode cL_areLinks 152 = .ok (.iload 12, 2) := by decide +kernel
theorem dL_areLinks_154 : decode cL_areLinks 154 = .ok (.ifCond .ne 20, 3) := by decide +kernel
theorem dL_areLinks_157 : decode cL_areLinks 157 = .ok (.iload 10, 2) := by decide +kernel
theorem dL_areLinks_159 : decode cL_areLinks 159 = .ok (.iload 8, 2) := by decide +kernel
theorem dL_areLinks_161 : decode cL_areLinks 161 = .ok (.if_icmp .ne 33, 3) := by decide +kernel
theorem dL_areLinks_164 : decode cL_areLinks 164 = .ok (.iload 11, 2) := by decide +kernel
theorem dL_areLinks_166 : decode cL_areLinks 166 = .ok (.iload 9, 2) := by decide +kernel
theorem dL_areLinks_168 : decode cL_areLinks 168 = .ok (.if_icmp .eq 30, 3) := by decide +kernel
theorem dL_areLinks_171 : decode cL_areLinks 171 = .ok (.goto 23, 3) := by decide +kernel
theorem dL_areLinks_174 : decode cL_areLinks 174 = .ok (.iload 12, 2) := by decide +kernel
theorem dL_areLinks_176 : decode cL_areLinks 176 = .ok (.iconst 1, 1) := by decide +kernel
theorem dL_areLinks_177 : decode cL_areLinks 177 = .ok (.if_icmp .ne 21, 3) := by decide +kernel
theorem dL_areLinks_180 : decode cL_areLinks 180 = .ok (.iload 10, 2) := by decide +kernel
theorem dL_areLinks_182 : decode cL_areLinks 182 = .ok (.iload 8, 2) := by decide +kernel
theorem dL_areLinks_184 : decode cL_areLinks 184 = .ok (.if_icmp .eq 10, 3) := by decide +kernel
theorem dL_areLinks_187 : decode cL_areLinks 187 = .ok (.iload 11, 2) := by decide +kernel
theorem dL_areLinks_189 : decode cL_areLinks 189 = .ok (.iload 9, 2) := by decide +kernel
theorem dL_areLinks_191 : decode cL_areLinks 191 = .ok (.if_icmp .ne 7, 3) := by decide +kernel
theorem dL_areLinks_194 : decode cL_areLinks 194 = .ok (.iconst 1, 1) := by decide +kernel
theorem dL_areLinks_195 : decode cL_areLinks 195 = .ok (.goto 4, 3) := by decide +kernel
theorem dL_areLinks_198 : decode cL_areLinks 198 = .ok (.iconst 0, 1) := by decide +kernel
theorem dL_areLinks_199 : decode cL_areLinks 199 = .ok (.istore 5, 2) := by decide +kernel
theorem dL_areLinks_201 : decode cL_areLinks 201 = .ok (.aload 6, 2) := by decide +kernel
theorem dL_areLinks_203 : decode cL_areLinks 203 = .ok (.bipush 8, 2) := by decide +kernel
theorem dL_areLinks_205 : decode cL_areLinks 205 = .ok (.iload 8, 2) := by decide +kernel
theorem dL_areLinks_207 : decode cL_areLinks 207 = .ok (.imul, 1) := by decide +kernel
theorem dL_areLinks_208 : decode cL_areLinks 208 = .ok (.iload 9, 2) := by decide +kernel
theorem dL_areLinks_210 : decode cL_areLinks 210 = .ok (.iadd, 1) := by decide +kernel
theorem dL_areLinks_211 : decode cL_areLinks 211 = .ok (.iload 12, 2) := by decide +kernel
theorem dL_areLinks_213 : decode cL_areLinks 213 = .ok (.iconst 1, 1) := by decide +kernel
theorem dL_areLinks_214 : decode cL_areLinks 214 = .ok (.if_icmp .ne 25, 3) := by decide +kernel
theorem dL_areLinks_217 : decode cL_areLinks 217 = .ok (.iload 10, 2) := by decide +kernel
theorem dL_areLinks_219 : decode cL_areLinks 219 = .ok (.iload 8, 2) := by decide +kernel
theorem dL_areLinks_221 : decode cL_areLinks 221 = .ok (.if_icmp .ne 14, 3) := by decide +kernel
theorem dL_areLinks_224 : decode cL_areLinks 224 = .ok (.iload 11, 2) := by decide +kernel
theorem dL_areLinks_226 : decode cL_areLinks 226 = .ok (.iload 9, 2) := by decide +kernel
theorem dL_areLinks_228 : decode cL_areLinks 228 = .ok (.if_icmp .ne 7, 3) := by decide +kernel
theorem dL_areLinks_231 : decode cL_areLinks 231 = .ok (.iconst 2, 1) := by decide +kernel
theorem dL_areLinks_232 : decode cL_areLinks 232 = .ok (.goto 8, 3) := by decide +kernel
theorem dL_areLinks_235 : decode cL_areLinks 235 = .ok (.iconst 1, 1) := by decide +kernel
theorem dL_areLinks_236 : decode cL_areLinks 236 = .ok (.goto 4, 3) := by decide +kernel
theorem dL_areLinks_239 : decode cL_areLinks 239 = .ok (.iconst 0, 1) := by decide +kernel
theorem dL_areLinks_240 : decode cL_areLinks 240 = .ok (.iastore, 1) := by decide +kernel
theorem dL_areLinks_241 : decode cL_areLinks 241 = .ok (.iinc 7 1, 3) := by decide +kernel
theorem dL_areLinks_244 : decode cL_areLinks 244 = .ok (.goto (-176), 3) := by decide +kernel
theorem dL_areLinks_247 : decode cL_areLinks 247 = .ok (.iconst 0, 1) := by decide +kernel
theorem dL_areLinks_248 : decode cL_areLinks 248 = .ok (.istore 7, 2) := by decide +kernel
theorem dL_areLinks_250 : decode cL_areLinks 250 = .ok (.iload 7, 2) := by decide +kernel
theorem dL_areLinks_252 : decode cL_areLinks 252 = .ok (.bipush 64, 2) := by decide +kernel
theorem dL_areLinks_254 : decode cL_areLinks 254 = .ok (.if_icmp .ge 121, 3) := by decide +kernel
theorem dL_areLinks_257 : decode cL_areLinks 257 = .ok (.iload 5, 2) := by decide +kernel
theorem dL_areLinks_259 : decode cL_areLinks 259 = .ok (.ifCond .eq 116, 3) := by decide +kernel
theorem dL_areLinks_262 : decode cL_areLinks 262 = .ok (.aload 6, 2) := by decide +kernel
theorem dL_areLinks_264 : decode cL_areLinks 264 = .ok (.iload 7, 2) := by decide +kernel
theorem dL_areLinks_266 : decode cL_areLinks 266 = .ok (.iaload, 1) := by decide +kernel
theorem dL_areLinks_267 : decode cL_areLinks 267 = .ok (.iconst 1, 1) := by decide +kernel
theorem dL_areLinks_268 : decode cL_areLinks 268 = .ok (.if_icmp .eq 7, 3) := by decide +kernel
theorem dL_areLinks_271 : decode cL_areLinks 271 = .ok (.iconst 1, 1) := by decide +kernel
theorem dL_areLinks_272 : decode cL_areLinks 272 = .ok (.goto 4, 3) := by decide +kernel
theorem dL_areLinks_275 : decode cL_areLinks 275 = .ok (.iconst 0, 1) := by decide +kernel
theorem dL_areLinks_276 : decode cL_areLinks 276 = .ok (.istore 8, 2) := by decide +kernel
theorem dL_areLinks_278 : decode cL_areLinks 278 = .ok (.iconst 0, 1) := by decide +kernel
theorem dL_areLinks_279 : decode cL_areLinks 279 = .ok (.istore 9, 2) := by decide +kernel
theorem dL_areLinks_281 : decode cL_areLinks 281 = .ok (.iload 9, 2) := by decide +kernel
theorem dL_areLinks_283 : decode cL_areLinks 283 = .ok (.bipush 64, 2) := by decide +kernel
theorem dL_areLinks_285 : decode cL_areLinks 285 = .ok (.if_icmp .ge 80, 3) := by decide +kernel
theorem dL_areLinks_288 : decode cL_areLinks 288 = .ok (.iload 9, 2) := by decide +kernel
theorem dL_areLinks_290 : decode cL_areLinks 290 = .ok (.bipush 8, 2) := by decide +kernel
theorem dL_areLinks_292 : decode cL_areLinks 292 = .ok (.idiv, 1) := by decide +kernel
theorem dL_areLinks_293 : decode cL_areLinks 293 = .ok (.iload 7, 2) := by decide +kernel
theorem dL_areLinks_295 : decode cL_areLinks 295 = .ok (.bipush 8, 2) := by decide +kernel
theorem dL_areLinks_297 : decode cL_areLinks 297 = .ok (.idiv, 1) := by decide +kernel
theorem dL_areLinks_298 : decode cL_areLinks 298 = .ok (.isub, 1) := by decide +kernel
theorem dL_areLinks_299 : decode cL_areLinks 299 = .ok (.istore 10, 2) := by decide +kernel
theorem dL_areLinks_301 : decode cL_areLinks 301 = .ok (.iload 9, 2) := by decide +kernel
theorem dL_areLinks_303 : decode cL_areLinks 303 = .ok (.bipush 8, 2) := by decide +kernel
theorem dL_areLinks_305 : decode cL_areLinks 305 = .ok (.irem, 1) := by decide +kernel
theorem dL_areLinks_306 : decode cL_areLinks 306 = .ok (.iload 7, 2) := by decide +kernel
theorem dL_areLinks_308 : decode cL_areLinks 308 = .ok (.bipush 8, 2) := by decide +kernel
theorem dL_areLinks_310 : decode cL_areLinks 310 = .ok (.irem, 1) := by decide +kernel
theorem dL_areLinks_311 : decode cL_areLinks 311 = .ok (.isub, 1) := by decide +kernel
theorem dL_areLinks_312 : decode cL_areLinks 312 = .ok (.istore 11, 2) := by decide +kernel
theorem dL_areLinks_314 : decode cL_areLinks 314 = .ok (.iload 8, 2) := by decide +kernel
theorem dL_areLinks_316 : decode cL_areLinks 316 = .ok (.ifCond .ne 36, 3) := by decide +kernel
theorem dL_areLinks_319 : decode cL_areLinks 319 = .ok (.iload 9, 2) := by decide +kernel
theorem dL_areLinks_321 : decode cL_areLinks 321 = .ok (.iload 7, 2) := by decide +kernel
theorem dL_areLinks_323 : decode cL_areLinks 323 = .ok (.if_icmp .eq 33, 3) := by decide +kernel
theorem dL_areLinks_326 : decode cL_areLinks 326 = .ok (.aload 6, 2) := by decide +kernel
theorem dL_areLinks_328 : decode cL_areLinks 328 = .ok (.iload 9, 2) := by decide +kernel
theorem dL_areLinks_330 : decode cL_areLinks 330 = .ok (.iaload, 1) := by decide +kernel
theorem dL_areLinks_331 : decode cL_areLinks 331 = .ok (.ifCond .le 25, 3) := by decide +kernel
theorem dL_areLinks_334 : decode cL_areLinks 334 = .ok (.iload 10, 2) := by decide +kernel
theorem dL_areLinks_336 : decode cL_areLinks 336 = .ok (.iload 10, 2) := by decide +kernel
theorem dL_areLinks_338 : decode cL_areLinks 338 = .ok (.imul, 1) := by decide +kernel
theorem dL_areLinks_339 : decode cL_areLinks 339 = .ok (.iconst 2, 1) := by decide +kernel
theorem dL_areLinks_340 : decode cL_areLinks 340 = .ok (.if_icmp .ge 16, 3) := by decide +kernel
theorem dL_areLinks_343 : decode cL_areLinks 343 = .ok (.iload 11, 2) := by decide +kernel
theorem dL_areLinks_345 : decode cL_areLinks 345 = .ok (.iload 11, 2) := by decide +kernel
theorem dL_areLinks_347 : decode cL_areLinks 347 = .ok (.imul, 1) := by decide +kernel
theorem dL_areLinks_348 : decode cL_areLinks 348 = .ok (.iconst 2, 1) := by decide +kernel
theorem dL_areLinks_349 : decode cL_areLinks 349 = .ok (.if_icmp .ge 7, 3) := by decide +kernel
theorem dL_areLinks_352 : decode cL_areLinks 352 = .ok (.iconst 1, 1) := by decide +kernel
theorem dL_areLinks_353 : decode cL_areLinks 353 = .ok (.goto 4, 3) := by decide +kernel
theorem dL_areLinks_356 : decode cL_areLinks 356 = .ok (.iconst 0, 1) := by decide +kernel
theorem dL_areLinks_357 : decode cL_areLinks 357 = .ok (.istore 8, 2) := by decide +kernel
theorem dL_areLinks_359 : decode cL_areLinks 359 = .ok (.iinc 9 1, 3) := by decide +kernel
theorem dL_areLinks_362 : decode cL_areLinks 362 = .ok (.goto (-81), 3) := by decide +kernel
theorem dL_areLinks_365 : decode cL_areLinks 365 = .ok (.iload 8, 2) := by decide +kernel
theorem dL_areLinks_367 : decode cL_areLinks 367 = .ok (.istore 5, 2) := by decide +kernel
theorem dL_areLinks_369 : decode cL_areLinks 369 = .ok (.iinc 7 1, 3) := by decide +kernel
theorem dL_areLinks_372 : decode cL_areLinks 372 = .ok (.goto (-122), 3) := by decide +kernel
theorem dL_areLinks_375 : decode cL_areLinks 375 = .ok (.iload 5, 2) := by decide +kernel
theorem dL_areLinks_377 : decode cL_areLinks 377 = .ok (.ireturn, 1) := by decide +kernel
theorem dL_arePhrases_0 : decode cL_arePhrases 0 = .ok (.aload_n 0, 1) := by decide +kernel
theorem dL_arePhrases_1 : decode cL_arePhrases 1 = .ok (.iload_n 2, 1) := by decide +kernel
theorem dL_arePhrases_2 : decode cL_arePhrases 2 = .ok (.invokestatic 80, 3) := by decide +kernel
theorem dL_arePhrases_5 : decode cL_arePhrases 5 = .ok (.istore_n 3, 1) := by decide +kernel
theorem dL_arePhrases_6 : decode cL_arePhrases 6 = .ok (.iload_n 3, 1) := by decide +kernel
theorem dL_arePhrases_7 : decode cL_arePhrases 7 = .ok (.ifCond .lt 19, 3) := by decide +kernel
theorem dL_arePhrases_10 : decode cL_arePhrases 10 = .ok (.aload_n 0, 1) := by decide +kernel
theorem dL_arePhrases_11 : decode cL_arePhrases 11 = .ok (.iload_n 2, 1) := by decide +kernel
theorem dL_arePhrases_12 : decode cL_arePhrases 12 = .ok (.iload_n 3, 1) := by decide +kernel
theorem dL_arePhrases_13 : decode cL_arePhrases 13 = .ok (.iconst 0, 1) := by decide +kernel
theorem dL_arePhrases_14 : decode cL_arePhrases 14 = .ok (.invokestatic 83, 3) := by decide +kernel
theorem dL_arePhrases_17 : decode cL_arePhrases 17 = .ok (.ldc 18, 2) := by decide +kernel
theorem dL_arePhrases_19 : decode cL_arePhrases 19 = .ok (.if_icmp .ne 7, 3) := by decide +kernel
theorem dL_arePhrases_22 : decode cL_arePhrases 22 = .ok (.iconst 1, 1) := by decide +kernel
theorem dL_arePhrases_23 : decode cL_arePhrases 23 = .ok (.goto 4, 3) := by decide +kernel
theorem dL_arePhrases_26 : decode cL_arePhrases 26 = .ok (.iconst 0, 1) := by decide +kernel
theorem dL_arePhrases_27 : decode cL_arePhrases 27 = .ok (.istore 4, 2) := by decide +kernel
theorem dL_arePhrases_29 : decode cL_arePhrases 29 = .ok (.iconst (-1), 1) := by decide +kernel
theorem dL_arePhrases_30 : decode cL_arePhrases 30 = .ok (.istore 5, 2) := by decide +kernel
theorem dL_arePhrases_32 : decode cL_arePhrases 32 = .ok (.iconst 0, 1) := by decide +kernel
theorem dL_arePhrases_33 : decode cL_arePhrases 33 = .ok (.istore 6, 2) := by decide +kernel
theorem dL_arePhrases_35 : decode cL_arePhrases 35 = .ok (.iload 6, 2) := by decide +kernel
theorem dL_arePhrases_37 : decode cL_arePhrases 37 = .ok (.iload_n 3, 1) := by decide +kernel
theorem dL_arePhrases_38 : decode cL_arePhrases 38 = .ok (.if_icmp .ge 353, 3) := by decide +kernel
theorem dL_arePhrases_41 : decode cL_arePhrases 41 = .ok (.iload 6, 2) := by decide +kernel
theorem dL_arePhrases_43 : decode cL_arePhrases 43 = .ok (.iconst 3, 1) := by decide +kernel
theorem dL_arePhrases_44 : decode cL_arePhrases 44 = .ok (.if_icmp .ge 347, 3) := by decide +kernel
theorem dL_arePhrases_47 : decode cL_arePhrases 47 = .ok (.iload 4, 2) := by decide +kernel
theorem dL_arePhrases_49 : decode cL_arePhrases 49 = .ok (.ifCond .eq 342, 3) := by decide +kernel
theorem dL_arePhrases_52 : decode cL_arePhrases 52 = .ok (.aload_n 0, 1) := by decide +kernel
theorem dL_arePhrases_53 : decode cL_arePhrases 53 = .ok (.iload_n 2, 1) := by decide +kernel
theorem dL_arePhrases_54 : decode cL_arePhrases 54 = .ok (.iload 6, 2) := by decide +kernel
theorem dL_arePhrases_56 : decode cL_arePhrases 56 = .ok (.iconst 0, 1) := by decide +kernel
theorem dL_arePhrases_57 : decode cL_arePhrases 57 = .ok (.invokestatic 83, 3) := by decide +kernel
theorem dL_arePhrases_60 : decode cL_arePhrases 60 = .ok (.istore 7, 2) := by decide +kernel
theorem dL_arePhrases_62 : decode cL_arePhrases 62 = .ok (.aload_n 0, 1) := by decide +kernel
theorem dL_arePhrases_63 : decode cL_arePhrases 63 = .ok (.iload_n 2, 1) := by decide +kernel
theorem dL_arePhrases_64 : decode cL_arePhrases 64 = .ok (.iload 6, 2) := by decide +kernel
theorem dL_arePhrases_66 : decode cL_arePhrases 66 = .ok (.iconst 1, 1) := by decide +kernel
theorem dL_arePhrases_67 : decode cL_arePhrases 67 = .ok (.invokestatic 83, 3) := by decide +kernel
theorem dL_arePhrases_70 : decode cL_arePhrases 70 = .ok (.istore 8, 2) := by decide +kernel
theorem dL_arePhrases_72 : decode cL_arePhrases 72 = .ok (.aload_n 0, 1) := by decide +kernel
theorem dL_arePhrases_73 : decode cL_arePhrases 73 = .ok (.iload_n 2, 1) := by decide +kernel
theorem dL_arePhrases_74 : decode cL_arePhrases 74 = .ok (.iload 6, 2) := by decide +kernel
theorem dL_arePhrases_76 : decode cL_arePhrases 76 = .ok (.iconst 2, 1) := by decide +kernel
theorem dL_arePhrases_77 : decode cL_arePhrases 77 = .ok (.invokestatic 83, 3) := by decide +kernel
theorem dL_arePhrases_80 : decode cL_arePhrases 80 = .ok (.istore 9, 2) := by decide +kernel
theorem dL_arePhrases_82 : decode cL_arePhrases 82 = .ok (.aload_n 0, 1) := by decide +kernel
theorem dL_arePhrases_83 : decode cL_arePhrases 83 = .ok (.iload_n 2, 1) := by decide +kernel
theorem dL_arePhrases_84 : decode cL_arePhrases 84 = .ok (.iload 6, 2) := by decide +kernel
theorem dL_arePhrases_86 : decode cL_arePhrases 86 = .ok (.iconst 3, 1) := by decide +kernel
theorem dL_arePhrases_87 : decode cL_arePhrases 87 = .ok (.invokestatic 83, 3) := by decide +kernel
theorem dL_arePhrases_90 : decode cL_arePhrases 90 = .ok (.istore 10, 2) := by decide +kernel
theorem dL_arePhrases_92 : decode cL_arePhrases 92 = .ok (.iload 7, 2) := by decide +kernel
theorem dL_arePhrases_94 : decode cL_arePhrases 94 = .ok (.bipush 8, 2) := by decide +kernel
theorem dL_arePhrases_96 : decode cL_arePhrases 96 = .ok (.imul, 1) := by decide +kernel
theorem dL_arePhrases_97 : decode cL_arePhrases 97 = .ok (.iload 8, 2) := by decide +kernel
theorem dL_arePhrases_99 : decode cL_arePhrases 99 = .ok (.iadd, 1) := by decide +kernel
theorem dL_arePhrases_100 : decode cL_arePhrases 100 = .ok (.bipush 8, 2) := by decide +kernel
theorem dL_arePhrases_102 : decode cL_arePhrases 102 = .ok (.imul, 1) := by decide +kernel
theorem dL_arePhrases_103 : decode cL_arePhrases 103 = .ok (.iload 9, 2) := by decide +kernel
theorem dL_arePhrases_105 : decode cL_arePhrases 105 = .ok (.iadd, 1) := by decide +kernel
theorem dL_arePhrases_106 : decode cL_arePhrases 106 = .ok (.bipush 8, 2) := by decide +kernel
theorem dL_arePhrases_108 : decode cL_arePhrases 108 = .ok (.imul, 1) := by decide +kernel
theorem dL_arePhrases_109 : decode cL_arePhrases 109 = .ok (.iload 10, 2) := by decide +kernel
theorem dL_arePhrases_111 : decode cL_arePhrases 111 = .ok (.iadd, 1) := by decide +kernel
theorem dL_arePhrases_112 : decode cL_arePhrases 112 = .ok (.istore 11, 2) := by decide +kernel
theorem dL_arePhrases_114 : decode cL_arePhrases 114 = .ok (.iconst 0, 1) := by decide +kernel
theorem dL_arePhrases_115 : decode cL_arePhrases 115 = .ok (.istore 12, 2) := by decide +kernel
theorem dL_arePhrases_117 : decode cL_arePhrases 117 = .ok (.iload 7, 2) := by decide +kernel
theorem dL_arePhrases_119 : decode cL_arePhrases 119 = .ok (.ifCond .lt 73, 3) := by decide +kernel
theorem dL_arePhrases_122 : decode cL_arePhrases 122 = .ok (.iload 8, 2) := by decide +kernel
theorem dL_arePhrases_124 : decode cL_arePhrases 124 = .ok (.iload 7, 2) := by decide +kernel
theorem dL_arePhrases_126 : decode cL_arePhrases 126 = .ok (.if_icmp .lt 66, 3) := by decide +kernel
theorem dL_arePhrases_129 : decode cL_arePhrases 129 = .ok (.iload 8, 2) := by decide +kernel
theorem dL_arePhrases_131 : decode cL_arePhrases 131 = .ok (.iload 7, 2) := by decide +kernel
theorem dL_arePhrases_133 : decode cL_arePhrases 133 = .ok (.iconst 4, 1) := by decide +kernel
theorem dL_arePhrases_134 : decode cL_arePhrases 134 = .ok (.iadd, 1) := by decide +kernel
theorem dL_arePhrases_135 : decode cL_arePhrases 135 = .ok (.if_icmp .ge 57, 3) := by decide +kernel
theorem dL_arePhrases_138 : decode cL_arePhrases 138 = .ok (.iload 8, 2) := by decide +kernel
theorem dL_arePhrases_140 : decode cL_arePhrases 140 = .ok (.aload_n 1, 1) := by decide +kernel
theorem dL_arePhrases_141 : decode cL_arePhrases 141 = .ok (.iconst 2, 1) := by decide +kernel
theorem dL_arePhrases_142 : decode cL_arePhrases 142 = .ok (.iload_n 2, 1) := by decide +kernel
theorem dL_arePhrases_143 : decode cL_arePhrases 143 = .ok (.imul, 1) := by decide +kernel
theorem dL_arePhrases_144 : decode cL_arePhrases 144 = .ok (.iaload, 1) := by decide +kernel
theorem dL_arePhrases_145 : decode cL_arePhrases 145 = .ok (.if_icmp .ge 47, 3) := by decide +kernel
theorem dL_arePhrases_148 : decode cL_arePhrases 148 = .ok (.iload 9, 2) := by decide +kernel
theorem dL_arePhrases_150 : decode cL_arePhrases 150 = .ok (.ifCond .lt 42, 3) := by decide +kernel
theorem dL_arePhrases_153 : decode cL_arePhrases 153 = .ok (.iload 10, 2) := by decide +kernel
theorem dL_arePhrases_155 : decode cL_arePhrases 155 = .ok (.iload 9, 2) := by decide +kernel
theorem dL_arePhrases_157 : decode cL_arePhrases 157 = .ok (.if_icmp .lt 35, 3) := by decide +kernel
theorem dL_arePhrases_160 : decode cL_arePhrases 160 = .ok (.iload 10, 2) := by decide +kernel
theorem dL_arePhrases_162 : decode cL_arePhrases 162 = .ok (.iload 9, 2) := by decide +kernel
theorem dL_arePhrases_164 : decode cL_arePhrases 164 = .ok (.iconst 4, 1) := by decide +kernel
theorem dL_arePhrases_165 : decode cL_arePhrases 165 = .ok (.iadd, 1) := by decide +kernel
theorem dL_arePhrases_166 : decode cL_arePhrases 166 = .ok (.if_icmp .ge 26, 3) := by decide +kernel
theorem dL_arePhrases_169 : decode cL_arePhrases 169 = .ok (.iload 10, 2) := by decide +kernel
theorem dL_arePhrases_171 : decode cL_arePhrases 171 = .ok (.aload_n 1, 1) := by decide +kernel
theorem dL_arePhrases_172 : decode cL_arePhrases 172 = .ok (.iconst 2, 1) := by decide +kernel
theorem dL_arePhrases_173 : decode cL_arePhrases 173 = .ok (.iload_n 2, 1) := by decide +kernel
theorem dL_arePhrases_174 : decode cL_arePhrases 174 = .ok (.imul, 1) := by decide +kernel
theorem dL_arePhrases_175 : decode cL_arePhrases 175 = .ok (.iconst 1, 1) := by decide +kernel
theorem dL_arePhrases_176 : decode cL_arePhrases 176 = .ok (.iadd, 1) := by decide +kernel
theorem dL_arePhrases_177 : decode cL_arePhrases 177 = .ok (.iaload, 1) := by decide +kernel
theorem dL_arePhrases_178 : decode cL_arePhrases 178 = .ok (.if_icmp .ge 14, 3) := by decide +kernel
theorem dL_arePhrases_181 : decode cL_arePhrases 181 = .ok (.iload 11, 2) := by decide +kernel
theorem dL_arePhrases_183 : decode cL_arePhrases 183 = .ok (.iload 5, 2) := by decide +kernel
theorem dL_arePhrases_185 : decode cL_arePhrases 185 = .ok (.if_icmp .le 7, 3) := by decide +kernel
theorem dL_arePhrases_188 : decode cL_arePhrases 188 = .ok (.iconst 1, 1) := by decide +kernel
theorem dL_arePhrases_189 : decode cL_arePhrases 189 = .ok (.goto 4, 3) := by decide +kernel
theorem dL_arePhrases_192 : decode cL_arePhrases 192 = .ok (.iconst 0, 1) := by decide +kernel
theorem dL_arePhrases_193 : decode cL_arePhrases 193 = .ok (.istore 4, 2) := by decide +kernel
theorem dL_arePhrases_195 : decode cL_arePhrases 195 = .ok (.iconst 0, 1) := by decide +kernel
theorem dL_arePhrases_196 : decode cL_arePhrases 196 = .ok (.istore 13, 2) := by decide +kernel
theorem dL_arePhrases_198 : decode cL_arePhrases 198 = .ok (.iload 13, 2) := by decide +kernel
theorem dL_arePhrases_200 : decode cL_arePhrases 200 = .ok (.bipush 64, 2) := by decide +kernel
theorem dL_arePhrases_202 : decode cL_arePhrases 202 = .ok (.if_icmp .ge 162, 3) := by decide +kernel
theorem dL_arePhrases_205 : decode cL_arePhrases 205 = .ok (.iload 4, 2) := by decide +kernel
theorem dL_arePhrases_207 : decode cL_arePhrases 207 = .ok (.ifCond .eq 157, 3) := by decide +kernel
theorem dL_arePhrases_210 : decode cL_arePhrases 210 = .ok (.iload 13, 2) := by decide +kernel
theorem dL_arePhrases_212 : decode cL_arePhrases 212 = .ok (.bipush 8, 2) := by decide +kernel
theorem dL_arePhrases_214 : decode cL_arePhrases 214 = .ok (.idiv, 1) := by decide +kernel
theorem dL_arePhrases_215 : decode cL_arePhrases 215 = .ok (.aload_n 1, 1) := by decide +kernel
theorem dL_arePhrases_216 : decode cL_arePhrases 216 = .ok (.iconst 2, 1) := by decide +kernel
theorem dL_arePhrases_217 : decode cL_arePhrases 217 = .ok (.iload_n 2, 1) := by decide +kernel
theorem dL_arePhrases_218 : decode cL_arePhrases 218 = .ok (.imul, 1) := by decide +kernel
theorem dL_arePhrases_219 : decode cL_arePhrases 219 = .ok (.iaload, 1) := by decide +kernel
theorem dL_arePhrases_220 : decode cL_arePhrases 220 = .ok (.if_icmp .ge 36, 3) := by decide +kernel
theorem dL_arePhrases_223 : decode cL_arePhrases 223 = .ok (.iload 13, 2) := by decide +kernel
theorem dL_arePhrases_225 : decode cL_arePhrases 225 = .ok (.bipush 8, 2) := by decide +kernel
theorem dL_arePhrases_227 : decode cL_arePhrases 227 = .ok (.irem, 1) := by decide +kernel
theorem dL_arePhrases_228 : decode cL_arePhrases 228 = .ok (.aload_n 1, 1) := by decide +kernel
theorem dL_arePhrases_229 : decode cL_arePhrases 229 = .ok (.iconst 2, 1) := by decide +kernel
theorem dL_arePhrases_230 : decode cL_arePhrases 230 = .ok (.iload_n 2, 1) := by decide +kernel
theorem dL_arePhrases_231 : decode cL_arePhrases 231 = .ok (.imul, 1) := by decide +kernel
theorem dL_arePhrases_232 : decode cL_arePhrases 232 = .ok (.iconst 1, 1) := by decide +kernel
theorem dL_arePhrases_233 : decode cL_arePhrases 233 = .ok (.iadd, 1) := by decide +kernel
theorem dL_arePhrases_234 : decode cL_arePhrases 234 = .ok (.iaload, 1) := by decide +kernel
theorem dL_arePhrases_235 : decode cL_arePhrases 235 = .ok (.if_icmp .ge 21, 3) := by decide +kernel
theorem dL_arePhrases_238 : decode cL_arePhrases 238 = .ok (.aload_n 0, 1) := by decide +kernel
theorem dL_arePhrases_239 : decode cL_arePhrases 239 = .ok (.iload_n 2, 1) := by decide +kernel
theorem dL_arePhrases_240 : decode cL_arePhrases 240 = .ok (.iload 13, 2) := by decide +kernel
theorem dL_arePhrases_242 : decode cL_arePhrases 242 = .ok (.bipush 8, 2) := by decide +kernel
theorem dL_arePhrases_244 : decode cL_arePhrases 244 = .ok (.idiv, 1) := by decide +kernel
theorem dL_arePhrases_245 : decode cL_arePhrases 245 = .ok (.iload 13, 2) := by decide +kernel
theorem dL_arePhrases_247 : decode cL_arePhrases 247 = .ok (.bipush 8, 2) := by decide +kernel
theorem dL_arePhrases_249 : decode cL_arePhrases 249 = .ok (.irem, 1) := by decide +kernel
theorem dL_arePhrases_250 : decode cL_arePhrases 250 = .ok (.invokestatic 78, 3) := by decide +kernel
theorem dL_arePhrases_253 : decode cL_arePhrases 253 = .ok (.goto 4, 3) := by decide +kernel
theorem dL_arePhrases_256 : decode cL_arePhrases 256 = .ok (.iconst 0, 1) := by decide +kernel
theorem dL_arePhrases_257 : decode cL_arePhrases 257 = .ok (.istore 14, 2) := by decide +kernel
theorem dL_arePhrases_259 : decode cL_arePhrases 259 = .ok (.iload 13, 2) := by decide +kernel
theorem dL_arePhrases_261 : decode cL_arePhrases 261 = .ok (.bipush 8, 2) := by decide +kernel
theorem dL_arePhrases_263 : decode cL_arePhrases 263 = .ok (.idiv, 1) := by decide +kernel
theorem dL_arePhrases_264 : decode cL_arePhrases 264 = .ok (.iload 7, 2) := by decide +kernel
theorem dL_arePhrases_266 : decode cL_arePhrases 266 = .ok (.if_icmp .lt 17, 3) := by decide +kernel
theorem dL_arePhrases_269 : decode cL_arePhrases 269 = .ok (.iload 13, 2) := by decide +kernel
theorem dL_arePhrases_271 : decode cL_arePhrases 271 = .ok (.bipush 8, 2) := by decide +kernel
theorem dL_arePhrases_273 : decode cL_arePhrases 273 = .ok (.idiv, 1) := by decide +kernel
theorem dL_arePhrases_274 : decode cL_arePhrases 274 = .ok (.iload 8, 2) := by decide +kernel
theorem dL_arePhrases_276 : decode cL_arePhrases 276 = .ok (.if_icmp .gt 7, 3) := by decide +kernel
theorem dL_arePhrases_279 : decode cL_arePhrases 279 = .ok (.iconst 1, 1) := by decide +kernel
theorem dL_arePhrases_280 : decode cL_arePhrases 280 = .ok (.goto 4, 3) := by decide +kernel
theorem dL_arePhrases_283 : decode cL_arePhrases 283 = .ok (.iconst 0, 1) := by decide +kernel
theorem dL_arePhrases_284 : decode cL_arePhrases 284 = .ok (.istore 15, 2) := by decide +kernel
theorem dL_arePhrases_286 : decode cL_arePhrases 286 = .ok (.iload 13, 2) := by decide +kernel
theorem dL_arePhrases_288 : decode cL_arePhrases 288 = .ok (.bipush 8, 2) := by decide +kernel
theorem dL_arePhrases_290 : decode cL_arePhrases 290 = .ok (.irem, 1) := by decide +kernel
theorem dL_arePhrases_291 : decode cL_arePhrases 291 = .ok (.iload 9, 2) := by decide +kernel
theorem dL_arePhrases_293 : decode cL_arePhrases 293 = .ok (.if_icmp .lt 17, 3) := by decide +kernel
theorem dL_arePhrases_296 : decode cL_arePhrases 296 = .ok (.iload 13, 2) := by decide +kernel
theorem dL_arePhrases_298 : decode cL_arePhrases 298 = .ok (.bipush 8, 2) := by decide +kernel
theorem dL_arePhrases_300 : decode cL_arePhrases 300 = .ok (.irem, 1) := by decide +kernel
theorem dL_arePhrases_301 : decode cL_arePhrases 301 = .ok (.iload 10, 2) := by decide +kernel
theorem dL_arePhrases_303 : decode cL_arePhrases 303 = .ok (.if_icmp .gt 7, 3) := by decide +kernel
theorem dL_arePhrases_306 : decode cL_arePhrases 306 = .ok (.iconst 1, 1) := by decide +kernel
theorem dL_arePhrases_307 : decode cL_arePhrases 307 = .ok (.goto 4, 3) := by decide +kernel
theorem dL_arePhrases_310 : decode cL_arePhrases 310 = .ok (.iconst 0, 1) := by decide +kernel
theorem dL_arePhrases_311 : decode cL_arePhrases 311 = .ok (.istore 16, 2) := by decide +kernel
theorem dL_arePhrases_313 : decode cL_arePhrases 313 = .ok (.iload 12, 2) := by decide +kernel
theorem dL_arePhrases_315 : decode cL_arePhrases 315 = .ok (.iload 14, 2) := by decide +kernel
theorem dL_arePhrases_317 : decode cL_arePhrases 317 = .ok (.iconst 1, 1) := by decide +kernel
theorem dL_arePhrases_318 : decode cL_arePhrases 318 = .ok (.if_icmp .ne 17, 3) := by decide +kernel
theorem dL_arePhrases_321 : decode cL_arePhrases 321 = .ok (.iload 15, 2) := by decide +kernel
theorem dL_arePhrases_323 : decode cL_arePhrases 323 = .ok (.ifCond .eq 12, 3) := by decide +kernel
theorem dL_arePhrases_326 : decode cL_arePhrases 326 = .ok (.iload 16, 2) := by decide +kernel
theorem dL_arePhrases_328 : decode cL_arePhrases 328 = .ok (.ifCond .eq 7, 3) := by decide +kernel
theorem dL_arePhrases_331 : decode cL_arePhrases 331 = .ok (.iconst 1, 1) := by decide +kernel
theorem dL_arePhrases_332 : decode cL_arePhrases 332 = .ok (.goto 4, 3) := by decide +kernel
theorem dL_arePhrases_335 : decode cL_arePhrases 335 = .ok (.iconst 0, 1) := by decide +kernel
theorem dL_arePhrases_336 : decode cL_arePhrases 336 = .ok (.iadd, 1) := by decide +kernel
theorem dL_arePhrases_337 : decode cL_arePhrases 337 = .ok (.istore 12, 2) := by decide +kernel
theorem dL_arePhrases_339 : decode cL_arePhrases 339 = .ok (.iload 14, 2) := by decide +kernel
theorem dL_arePhrases_341 : decode cL_arePhrases 341 = .ok (.ifCond .eq 10, 3) := by decide +kernel
theorem dL_arePhrases_344 : decode cL_arePhrases 344 = .ok (.iload 15, 2) := by decide +kernel
theorem dL_arePhrases_346 : decode cL_arePhrases 346 = .ok (.iload 16, 2) := by decide +kernel
theorem dL_arePhrases_348 : decode cL_arePhrases 348 = .ok (.if_icmp .ne 7, 3) := by decide +kernel
theorem dL_arePhrases_351 : decode cL_arePhrases 351 = .ok (.iconst 1, 1) := by decide +kernel
theorem dL_arePhrases_352 : decode cL_arePhrases 352 = .ok (.goto 4, 3) := by decide +kernel
theorem dL_arePhrases_355 : decode cL_arePhrases 355 = .ok (.iconst 0, 1) := by decide +kernel
theorem dL_arePhrases_356 : decode cL_arePhrases 356 = .ok (.istore 4, 2) := by decide +kernel
theorem dL_arePhrases_358 : decode cL_arePhrases 358 = .ok (.iinc 13 1, 3) := by decide +kernel
theorem dL_arePhrases_361 : decode cL_arePhrases 361 = .ok (.goto (-163), 3) := by decide +kernel
theorem dL_arePhrases_364 : decode cL_arePhrases 364 = .ok (.iload 4, 2) := by decide +kernel
theorem dL_arePhrases_366 : decode cL_arePhrases 366 = .ok (.ifCond .eq 12, 3) := by decide +kernel
theorem dL_arePhrases_369 : decode cL_arePhrases 369 = .ok (.iload 12, 2) := by decide +kernel
theorem dL_arePhrases_371 : decode cL_arePhrases 371 = .ok (.ifCond .le 7, 3) := by decide +kernel
theorem dL_arePhrases_374 : decode cL_arePhrases 374 = .ok (.iconst 1, 1) := by decide +kernel
theorem dL_arePhrases_375 : decode cL_arePhrases 375 = .ok (.goto 4, 3) := by decide +kernel
theorem dL_arePhrases_378 : decode cL_arePhrases 378 = .ok (.iconst 0, 1) := by decide +kernel
theorem dL_arePhrases_379 : decode cL_arePhrases 379 = .ok (.istore 4, 2) := by decide +kernel
theorem dL_arePhrases_381 : decode cL_arePhrases 381 = .ok (.iload 11, 2) := by decide +kernel
theorem dL_arePhrases_383 : decode cL_arePhrases 383 = .ok (.istore 5, 2) := by decide +kernel
theorem dL_arePhrases_385 : decode cL_arePhrases 385 = .ok (.iinc 6 1, 3) := by decide +kernel
theorem dL_arePhrases_388 : decode cL_arePhrases 388 = .ok (.goto (-353), 3) := by decide +kernel
theorem dL_arePhrases_391 : decode cL_arePhrases 391 = .ok (.iload 4, 2) := by decide +kernel
theorem dL_arePhrases_393 : decode cL_arePhrases 393 = .ok (.ireturn, 1) := by decide +kernel
theorem dL_areFertile_0 : decode cL_areFertile 0 = .ok (.iconst 0, 1) := by decide +kernel
theorem dL_areFertile_1 : decode cL_areFertile 1 = .ok (.istore 4, 2) := by decide +kernel
theorem dL_areFertile_3 : decode cL_areFertile 3 = .ok (.iconst 0, 1) := by decide +kernel
theorem dL_areFertile_4 : decode cL_areFertile 4 = .ok (.istore 5, 2) := by decide +kernel
theorem dL_areFertile_6 : decode cL_areFertile 6 = .ok (.iload 5, 2) := by decide +kernel
theorem dL_areFertile_8 : decode cL_areFertile 8 = .ok (.aload_n 1, 1) := by decide +kernel
theorem dL_areFertile_9 : decode cL_areFertile 9 = .ok (.iconst 2, 1) := by decide +kernel
theorem dL_areFertile_10 : decode cL_areFertile 10 = .ok (.iaload, 1) := by decide +kernel
theorem dL_areFertile_11 : decode cL_areFertile 11 = .ok (.if_icmp .ge 55, 3) := by decide +kernel
theorem dL_areFertile_14 : decode cL_areFertile 14 = .ok (.iconst 0, 1) := by decide +kernel
theorem dL_areFertile_15 : decode cL_areFertile 15 = .ok (.istore 6, 2) := by decide +kernel
theorem dL_areFertile_17 : decode cL_areFertile 17 = .ok (.iload 6, 2) := by decide +kernel
theorem dL_areFertile_19 : decode cL_areFertile 19 = .ok (.bipush 8, 2) := by decide +kernel
theorem dL_areFertile_21 : decode cL_areFertile 21 = .ok (.if_icmp .ge 39, 3) := by decide +kernel
theorem dL_areFertile_24 : decode cL_areFertile 24 = .ok (.aload_n 2, 1) := by decide +kernel
theorem dL_areFertile_25 : decode cL_areFertile 25 = .ok (.iload 5, 2) := by decide +kernel
theorem dL_areFertile_27 : decode cL_areFertile 27 = .ok (.iaload, 1) := by decide +kernel
theorem dL_areFertile_28 : decode cL_areFertile 28 = .ok (.ifCond .ne 32, 3) := by decide +kernel
theorem dL_areFertile_31 : decode cL_areFertile 31 = .ok (.iload 4, 2) := by decide +kernel
theorem dL_areFertile_33 : decode cL_areFertile 33 = .ok (.aload_n 0, 1) := by decide +kernel
theorem dL_areFertile_34 : decode cL_areFertile 34 = .ok (.iload 5, 2) := by decide +kernel
theorem dL_areFertile_36 : decode cL_areFertile 36 = .ok (.iconst 0, 1) := by decide +kernel
theorem dL_areFertile_37 : decode cL_areFertile 37 = .ok (.iload 6, 2) := by decide +kernel
theorem dL_areFertile_39 : decode cL_areFertile 39 = .ok (.invokestatic 85, 3) := by decide +kernel
theorem dL_areFertile_42 : decode cL_areFertile 42 = .ok (.iload_n 3, 1) := by decide +kernel
theorem dL_areFertile_43 : decode cL_areFertile 43 = .ok (.if_icmp .ne 7, 3) := by decide +kernel
theorem dL_areFertile_46 : decode cL_areFertile 46 = .ok (.iconst 1, 1) := by decide +kernel
theorem dL_areFertile_47 : decode cL_areFertile 47 = .ok (.goto 4, 3) := by decide +kernel
theorem dL_areFertile_50 : decode cL_areFertile 50 = .ok (.iconst 0, 1) := by decide +kernel
theorem dL_areFertile_51 : decode cL_areFertile 51 = .ok (.iadd, 1) := by decide +kernel
theorem dL_areFertile_52 : decode cL_areFertile 52 = .ok (.istore 4, 2) := by decide +kernel
theorem dL_areFertile_54 : decode cL_areFertile 54 = .ok (.iinc 6 1, 3) := by decide +kernel
theorem dL_areFertile_57 : decode cL_areFertile 57 = .ok (.goto (-40), 3) := by decide +kernel
theorem dL_areFertile_60 : decode cL_areFertile 60 = .ok (.iinc 5 1, 3) := by decide +kernel
theorem dL_areFertile_63 : decode cL_areFertile 63 = .ok (.goto (-57), 3) := by decide +kernel
theorem dL_areFertile_66 : decode cL_areFertile 66 = .ok (.iconst 0, 1) := by decide +kernel
theorem dL_areFertile_67 : decode cL_areFertile 67 = .ok (.istore 5, 2) := by decide +kernel
theorem dL_areFertile_69 : decode cL_areFertile 69 = .ok (.iload 5, 2) := by decide +kernel
theorem dL_areFertile_71 : decode cL_areFertile 71 = .ok (.bipush 9, 2) := by decide +kernel
theorem dL_areFertile_73 : decode cL_areFertile 73 = .ok (.if_icmp .ge 35, 3) := by decide +kernel
theorem dL_areFertile_76 : decode cL_areFertile 76 = .ok (.aload_n 0, 1) := by decide +kernel
theorem dL_areFertile_77 : decode cL_areFertile 77 = .ok (.iload_n 3, 1) := by decide +kernel
theorem dL_areFertile_78 : decode cL_areFertile 78 = .ok (.iload 5, 2) := by decide +kernel
theorem dL_areFertile_80 : decode cL_areFertile 80 = .ok (.invokestatic 87, 3) := by decide +kernel
theorem dL_areFertile_83 : decode cL_areFertile 83 = .ok (.istore 6, 2) := by decide +kernel
theorem dL_areFertile_85 : decode cL_areFertile 85 = .ok (.iload 4, 2) := by decide +kernel
theorem dL_areFertile_87 : decode cL_areFertile 87 = .ok (.iload 6, 2) := by decide +kernel
theorem dL_areFertile_89 : decode cL_areFertile 89 = .ok (.ifCond .ge 8, 3) := by decide +kernel
theorem dL_areFertile_92 : decode cL_areFertile 92 = .ok (.bipush 99, 2) := by decide +kernel
theorem dL_areFertile_94 : decode cL_areFertile 94 = .ok (.goto 5, 3) := by decide +kernel
theorem dL_areFertile_97 : decode cL_areFertile 97 = .ok (.iload 6, 2) := by decide +kernel
theorem dL_areFertile_99 : decode cL_areFertile 99 = .ok (.isub, 1) := by decide +kernel
theorem dL_areFertile_100 : decode cL_areFertile 100 = .ok (.istore 4, 2) := by decide +kernel
theorem dL_areFertile_102 : decode cL_areFertile 102 = .ok (.iinc 5 1, 3) := by decide +kernel
theorem dL_areFertile_105 : decode cL_areFertile 105 = .ok (.goto (-36), 3) := by decide +kernel
theorem dL_areFertile_108 : decode cL_areFertile 108 = .ok (.iload 4, 2) := by decide +kernel
theorem dL_areFertile_110 : decode cL_areFertile 110 = .ok (.ifCond .ne 7, 3) := by decide +kernel
theorem dL_areFertile_113 : decode cL_areFertile 113 = .ok (.iconst 1, 1) := by decide +kernel
theorem dL_areFertile_114 : decode cL_areFertile 114 = .ok (.goto 4, 3) := by decide +kernel
theorem dL_areFertile_117 : decode cL_areFertile 117 = .ok (.iconst 0, 1) := by decide +kernel
theorem dL_areFertile_118 : decode cL_areFertile 118 = .ok (.ireturn, 1) := by decide +kernel
theorem dL_puts_0 : decode cL_puts 0 = .ok (.iconst 1, 1) := by decide +kernel
theorem dL_puts_1 : decode cL_puts 1 = .ok (.istore 4, 2) := by decide +kernel
theorem dL_puts_3 : decode cL_puts 3 = .ok (.iconst 1, 1) := by decide +kernel
theorem dL_puts_4 : decode cL_puts 4 = .ok (.iload_n 2, 1) := by decide +kernel
theorem dL_puts_5 : decode cL_puts 5 = .ok (.iconst 5, 1) := by decide +kernel
theorem dL_puts_6 : decode cL_puts 6 = .ok (.invokestatic 90, 3) := by decide +kernel
theorem dL_puts_9 : decode cL_puts 9 = .ok (.iadd, 1) := by decide +kernel
theorem dL_puts_10 : decode cL_puts 10 = .ok (.istore 5, 2) := by decide +kernel
theorem dL_puts_12 : decode cL_puts 12 = .ok (.iconst 0, 1) := by decide +kernel
theorem dL_puts_13 : decode cL_puts 13 = .ok (.istore 6, 2) := by decide +kernel
theorem dL_puts_15 : decode cL_puts 15 = .ok (.iload 6, 2) := by decide +kernel
theorem dL_puts_17 : decode cL_puts 17 = .ok (.iload 5, 2) := by decide +kernel
theorem dL_puts_19 : decode cL_puts 19 = .ok (.if_icmp .ge 128, 3) := by decide +kernel
theorem dL_puts_22 : decode cL_puts 22 = .ok (.iload 4, 2) := by decide +kernel
theorem dL_puts_24 : decode cL_puts 24 = .ok (.ifCond .eq 123, 3) := by decide +kernel
theorem dL_puts_27 : decode cL_puts 27 = .ok (.iload_n 2, 1) := by decide +kernel
theorem dL_puts_28 : decode cL_puts 28 = .ok (.iconst 4, 1) := by decide +kernel
theorem dL_puts_29 : decode cL_puts 29 = .ok (.iload 6, 2) := by decide +kernel
theorem dL_puts_31 : decode cL_puts 31 = .ok (.iadd, 1) := by decide +kernel
theorem dL_puts_32 : decode cL_puts 32 = .ok (.ishr, 1) := by decide +kernel
theorem dL_puts_33 : decode cL_puts 33 = .ok (.iconst 2, 1) := by decide +kernel
theorem dL_puts_34 : decode cL_puts 34 = .ok (.invokestatic 90, 3) := by decide +kernel
theorem dL_puts_37 : decode cL_puts 37 = .ok (.istore 7, 2) := by decide +kernel
theorem dL_puts_39 : decode cL_puts 39 = .ok (.iload_n 3, 1) := by decide +kernel
theorem dL_puts_40 : decode cL_puts 40 = .ok (.iconst 3, 1) := by decide +kernel
theorem dL_puts_41 : decode cL_puts 41 = .ok (.iload 6, 2) := by decide +kernel
theorem dL_puts_43 : decode cL_puts 43 = .ok (.imul, 1) := by decide +kernel
theorem dL_puts_44 : decode cL_puts 44 = .ok (.ishr, 1) := by decide +kernel
theorem dL_puts_45 : decode cL_puts 45 = .ok (.iconst 3, 1) := by decide +kernel
theorem dL_puts_46 : decode cL_puts 46 = .ok (.invokestatic 90, 3) := by decide +kernel
theorem dL_puts_49 : decode cL_puts 49 = .ok (.ifCond .ne 19, 3) := by decide +kernel
theorem dL_puts_52 : decode cL_puts 52 = .ok (.iload_n 3, 1) := by decide +kernel
theorem dL_puts_53 : decode cL_puts 53 = .ok (.iconst 3, 1) := by decide +kernel
theorem dL_puts_54 : decode cL_puts 54 = .ok (.iload 6, 2) := by decide +kernel
theorem dL_puts_56 : decode cL_puts 56 = .ok (.imul, 1) := by decide +kernel
theorem dL_puts_57 : decode cL_puts 57 = .ok (.iconst 1, 1) := by decide +kernel
theorem dL_puts_58 : decode cL_puts 58 = .ok (.iadd, 1) := by decide +kernel
theorem dL_puts_59 : decode cL_puts 59 = .ok (.ishr, 1) := by decide +kernel
theorem dL_puts_60 : decode cL_puts 60 = .ok (.bipush 15, 2) := by decide +kernel
theorem dL_puts_62 : decode cL_puts 62 = .ok (.invokestatic 90, 3) := by decide +kernel
theorem dL_puts_65 : decode cL_puts 65 = .ok (.goto 15, 3) := by decide +kernel
theorem dL_puts_68 : decode cL_puts 68 = .ok (.iload_n 3, 1) := by decide +kernel
theorem dL_puts_69 : decode cL_puts 69 = .ok (.iconst 3, 1) := by decide +kernel
theorem dL_puts_70 : decode cL_puts 70 = .ok (.iload 6, 2) := by decide +kernel
theorem dL_puts_72 : decode cL_puts 72 = .ok (.imul, 1) := by decide +kernel
theorem dL_puts_73 : decode cL_puts 73 = .ok (.iconst 1, 1) := by decide +kernel
theorem dL_puts_74 : decode cL_puts 74 = .ok (.iadd, 1) := by decide +kernel
theorem dL_puts_75 : decode cL_puts 75 = .ok (.ishr, 1) := by decide +kernel
theorem dL_puts_76 : decode cL_puts 76 = .ok (.iconst 4, 1) := by decide +kernel
theorem dL_puts_77 : decode cL_puts 77 = .ok (.invokestatic 90, 3) := by decide +kernel
theorem dL_puts_80 : decode cL_puts 80 = .ok (.istore 8, 2) := by decide +kernel
theorem dL_puts_82 : decode cL_puts 82 = .ok (.aload_n 0, 1) := by decide +kernel
theorem dL_puts_83 : decode cL_puts 83 = .ok (.iload 7, 2) := by decide +kernel
theorem dL_puts_85 : decode cL_puts 85 = .ok (.iload 8, 2) := by decide +kernel
theorem dL_puts_87 : decode cL_puts 87 = .ok (.invokestatic 93, 3) := by decide +kernel
theorem dL_puts_90 : decode cL_puts 90 = .ok (.aload_n 1, 1) := by decide +kernel
theorem dL_puts_91 : decode cL_puts 91 = .ok (.iload 7, 2) := by decide +kernel
theorem dL_puts_93 : decode cL_puts 93 = .ok (.iaload, 1) := by decide +kernel
theorem dL_puts_94 : decode cL_puts 94 = .ok (.bipush 8, 2) := by decide +kernel
theorem dL_puts_96 : decode cL_puts 96 = .ok (.if_icmp .ne 8, 3) := by decide +kernel
theorem dL_puts_99 : decode cL_puts 99 = .ok (.ldc 21, 2) := by decide +kernel
theorem dL_puts_101 : decode cL_puts 101 = .ok (.goto 9, 3) := by decide +kernel
theorem dL_puts_104 : decode cL_puts 104 = .ok (.aload_n 1, 1) := by decide +kernel
theorem dL_puts_105 : decode cL_puts 105 = .ok (.iload 7, 2) := by decide +kernel
theorem dL_puts_107 : decode cL_puts 107 = .ok (.iaload, 1) := by decide +kernel
theorem dL_puts_108 : decode cL_puts 108 = .ok (.iconst 1, 1) := by decide +kernel
theorem dL_puts_109 : decode cL_puts 109 = .ok (.iadd, 1) := by decide +kernel
theorem dL_puts_110 : decode cL_puts 110 = .ok (.if_icmp .ne 7, 3) := by decide +kernel
theorem dL_puts_113 : decode cL_puts 113 = .ok (.iconst 1, 1) := by decide +kernel
theorem dL_puts_114 : decode cL_puts 114 = .ok (.goto 4, 3) := by decide +kernel
theorem dL_puts_117 : decode cL_puts 117 = .ok (.iconst 0, 1) := by decide +kernel
theorem dL_puts_118 : decode cL_puts 118 = .ok (.istore 4, 2) := by decide +kernel
theorem dL_puts_120 : decode cL_puts 120 = .ok (.aload_n 1, 1) := by decide +kernel
theorem dL_puts_121 : decode cL_puts 121 = .ok (.iload 7, 2) := by decide +kernel
theorem dL_puts_123 : decode cL_puts 123 = .ok (.dup2, 1) := by decide +kernel
theorem dL_puts_124 : decode cL_puts 124 = .ok (.iaload, 1) := by decide +kernel
theorem dL_puts_125 : decode cL_puts 125 = .ok (.aload_n 1, 1) := by decide +kernel
theorem dL_puts_126 : decode cL_puts 126 = .ok (.iload 7, 2) := by decide +kernel
theorem dL_puts_128 : decode cL_puts 128 = .ok (.iaload, 1) := by decide +kernel
theorem dL_puts_129 : decode cL_puts 129 = .ok (.bipush 8, 2) := by decide +kernel
theorem dL_puts_131 : decode cL_puts 131 = .ok (.if_icmp .ge 7, 3) := by decide +kernel
theorem dL_puts_134 : decode cL_puts 134 = .ok (.iconst 1, 1) := by decide +kernel
theorem dL_puts_135 : decode cL_puts 135 = .ok (.goto 4, 3) := by decide +kernel
theorem dL_puts_138 : decode cL_puts 138 = .ok (.iconst 0, 1) := by decide +kernel
theorem dL_puts_139 : decode cL_puts 139 = .ok (.iadd, 1) := by decide +kernel
theorem dL_puts_140 : decode cL_puts 140 = .ok (.iastore, 1) := by decide +kernel
theorem dL_puts_141 : decode cL_puts 141 = .ok (.iinc 6 1, 3) := by decide +kernel
theorem dL_puts_144 : decode cL_puts 144 = .ok (.goto (-129), 3) := by decide +kernel
theorem dL_puts_147 : decode cL_puts 147 = .ok (.iload 4, 2) := by decide +kernel
theorem dL_puts_149 : decode cL_puts 149 = .ok (.ireturn, 1) := by decide +kernel
theorem dL_pairs_0 : decode cL_pairs 0 = .ok (.aload_n 0, 1) := by decide +kernel
theorem dL_pairs_1 : decode cL_pairs 1 = .ok (.invokevirtual 95, 3) := by decide +kernel
theorem dL_pairs_4 : decode cL_pairs 4 = .ok (.istore 5, 2) := by decide +kernel
theorem dL_pairs_6 : decode cL_pairs 6 = .ok (.aload_n 0, 1) := by decide +kernel
theorem dL_pairs_7 : decode cL_pairs 7 = .ok (.invokestatic 98, 3) := by decide +kernel
theorem dL_pairs_10 : decode cL_pairs 10 = .ok (.istore 6, 2) := by decide +kernel
theorem dL_pairs_12 : decode cL_pairs 12 = .ok (.aload_n 1, 1) := by decide +kernel
theorem dL_pairs_13 : decode cL_pairs 13 = .ok (.iconst 0, 1) := by decide +kernel
theorem dL_pairs_14 : decode cL_pairs 14 = .ok (.iaload, 1) := by decide +kernel
theorem dL_pairs_15 : decode cL_pairs 15 = .ok (.ifCond .eq 17, 3) := by decide +kernel
theorem dL_pairs_18 : decode cL_pairs 18 = .ok (.aload_n 1, 1) := by decide +kernel
theorem dL_pairs_19 : decode cL_pairs 19 = .ok (.iconst 1, 1) := by decide +kernel
theorem dL_pairs_20 : decode cL_pairs 20 = .ok (.iaload, 1) := by decide +kernel
theorem dL_pairs_21 : decode cL_pairs 21 = .ok (.ifCond .eq 11, 3) := by decide +kernel
theorem dL_pairs_24 : decode cL_pairs 24 = .ok (.aload_n 1, 1) := by decide +kernel
theorem dL_pairs_25 : decode cL_pairs 25 = .ok (.iconst 2, 1) := by decide +kernel
theorem dL_pairs_26 : decode cL_pairs 26 = .ok (.iaload, 1) := by decide +kernel
theorem dL_pairs_27 : decode cL_pairs 27 = .ok (.bipush 20, 2) := by decide +kernel
theorem dL_pairs_29 : decode cL_pairs 29 = .ok (.if_icmp .ne 37, 3) := by decide +kernel
theorem dL_pairs_32 : decode cL_pairs 32 = .ok (.iload 6, 2) := by decide +kernel
theorem dL_pairs_34 : decode cL_pairs 34 = .ok (.ldc 21, 2) := by decide +kernel
theorem dL_pairs_36 : decode cL_pairs 36 = .ok (.if_icmp .ne 28, 3) := by decide +kernel
theorem dL_pairs_39 : decode cL_pairs 39 = .ok (.aload_n 0, 1) := by decide +kernel
theorem dL_pairs_40 : decode cL_pairs 40 = .ok (.invokevirtual 101, 3) := by decide +kernel
theorem dL_pairs_43 : decode cL_pairs 43 = .ok (.aload_n 1, 1) := by decide +kernel
theorem dL_pairs_44 : decode cL_pairs 44 = .ok (.iconst 0, 1) := by decide +kernel
theorem dL_pairs_45 : decode cL_pairs 45 = .ok (.iaload, 1) := by decide +kernel
theorem dL_pairs_46 : decode cL_pairs 46 = .ok (.aload_n 1, 1) := by decide +kernel
theorem dL_pairs_47 : decode cL_pairs 47 = .ok (.iconst 1, 1) := by decide +kernel
theorem dL_pairs_48 : decode cL_pairs 48 = .ok (.iaload, 1) := by decide +kernel
theorem dL_pairs_49 : decode cL_pairs 49 = .ok (.iadd, 1) := by decide +kernel
theorem dL_pairs_50 : decode cL_pairs 50 = .ok (.if_icmp .ne 14, 3) := by decide +kernel
theorem dL_pairs_53 : decode cL_pairs 53 = .ok (.aload_n 1, 1) := by decide +kernel
theorem dL_pairs_54 : decode cL_pairs 54 = .ok (.invokestatic 104, 3) := by decide +kernel
theorem dL_pairs_57 : decode cL_pairs 57 = .ok (.ifCond .eq 7, 3) := by decide +kernel
theorem dL_pairs_60 : decode cL_pairs 60 = .ok (.iconst 1, 1) := by decide +kernel
theorem dL_pairs_61 : decode cL_pairs 61 = .ok (.goto 4, 3) := by decide +kernel
theorem dL_pairs_64 : decode cL_pairs 64 = .ok (.iconst 0, 1) := by decide +kernel
theorem dL_pairs_65 : decode cL_pairs 65 = .ok (.ireturn, 1) := by decide +kernel
theorem dL_pairs_66 : decode cL_pairs 66 = .ok (.iload 6, 2) := by decide +kernel
theorem dL_pairs_68 : decode cL_pairs 68 = .ok (.aload_n 1, 1) := by decide +kernel
theorem dL_pairs_69 : decode cL_pairs 69 = .ok (.iconst 2, 1) := by decide +kernel
theorem dL_pairs_70 : decode cL_pairs 70 = .ok (.iaload, 1) := by decide +kernel
theorem dL_pairs_71 : decode cL_pairs 71 = .ok (.if_icmp .ne 47, 3) := by decide +kernel
theorem dL_pairs_74 : decode cL_pairs 74 = .ok (.aload_n 0, 1) := by decide +kernel
theorem dL_pairs_75 : decode cL_pairs 75 = .ok (.invokevirtual 95, 3) := by decide +kernel
theorem dL_pairs_78 : decode cL_pairs 78 = .ok (.iload 5, 2) := by decide +kernel
theorem dL_pairs_80 : decode cL_pairs 80 = .ok (.iconst 1, 1) := by decide +kernel
theorem dL_pairs_81 : decode cL_pairs 81 = .ok (.iadd, 1) := by decide +kernel
theorem dL_pairs_82 : decode cL_pairs 82 = .ok (.if_icmp .ne 36, 3) := by decide +kernel
theorem dL_pairs_85 : decode cL_pairs 85 = .ok (.aload_n 0, 1) := by decide +kernel
theorem dL_pairs_86 : decode cL_pairs 86 = .ok (.iload 6, 2) := by decide +kernel
theorem dL_pairs_88 : decode cL_pairs 88 = .ok (.iconst 0, 1) := by decide +kernel
theorem dL_pairs_89 : decode cL_pairs 89 = .ok (.aload_n 1, 1) := by decide +kernel
theorem dL_pairs_90 : decode cL_pairs 90 = .ok (.iconst 0, 1) := by decide +kernel
theorem dL_pairs_91 : decode cL_pairs 91 = .ok (.iaload, 1) := by decide +kernel
theorem dL_pairs_92 : decode cL_pairs 92 = .ok (.invokestatic 85, 3) := by decide +kernel
theorem dL_pairs_95 : decode cL_pairs 95 = .ok (.iconst (-1), 1) := by decide +kernel
theorem dL_pairs_96 : decode cL_pairs 96 = .ok (.if_icmp .ne 22, 3) := by decide +kernel
theorem dL_pairs_99 : decode cL_pairs 99 = .ok (.aload_n 0, 1) := by decide +kernel
theorem dL_pairs_100 : decode cL_pairs 100 = .ok (.iload 6, 2) := by decide +kernel
theorem dL_pairs_102 : decode cL_pairs 102 = .ok (.iconst 1, 1) := by decide +kernel
theorem dL_pairs_103 : decode cL_pairs 103 = .ok (.aload_n 1, 1) := by decide +kernel
theorem dL_pairs_104 : decode cL_pairs 104 = .ok (.iconst 1, 1) := by decide +kernel
theorem dL_pairs_105 : decode cL_pairs 105 = .ok (.iaload, 1) := by decide +kernel
theorem dL_pairs_106 : decode cL_pairs 106 = .ok (.iconst 1, 1) := by decide +kernel
theorem dL_pairs_107 : decode cL_pairs 107 = .ok (.isub, 1) := by decide +kernel
theorem dL_pairs_108 : decode cL_pairs 108 = .ok (.invokestatic 85, 3) := by decide +kernel
theorem dL_pairs_111 : decode cL_pairs 111 = .ok (.ifCond .lt 7, 3) := by decide +kernel
theorem dL_pairs_114 : decode cL_pairs 114 = .ok (.iconst 1, 1) := by decide +kernel
theorem dL_pairs_115 : decode cL_pairs 115 = .ok (.goto 4, 3) := by decide +kernel
theorem dL_pairs_118 : decode cL_pairs 118 = .ok (.iconst 0, 1) := by decide +kernel
theorem dL_pairs_119 : decode cL_pairs 119 = .ok (.istore 7, 2) := by decide +kernel
theorem dL_pairs_121 : decode cL_pairs 121 = .ok (.aload_n 3, 1) := by decide +kernel
theorem dL_pairs_122 : decode cL_pairs 122 = .ok (.iconst 2, 1) := by decide +kernel
theorem dL_pairs_123 : decode cL_pairs 123 = .ok (.iload 6, 2) := by decide +kernel
theorem dL_pairs_125 : decode cL_pairs 125 = .ok (.imul, 1) := by decide +kernel
theorem dL_pairs_126 : decode cL_pairs 126 = .ok (.aload_n 1, 1) := by decide +kernel
theorem dL_pairs_127 : decode cL_pairs 127 = .ok (.iconst 0, 1) := by decide +kernel
theorem dL_pairs_128 : decode cL_pairs 128 = .ok (.iaload, 1) := by decide +kernel
theorem dL_pairs_129 : decode cL_pairs 129 = .ok (.iastore, 1) := by decide +kernel
theorem dL_pairs_130 : decode cL_pairs 130 = .ok (.aload_n 3, 1) := by decide +kernel
theorem dL_pairs_131 : decode cL_pairs 131 = .ok (.iconst 2, 1) := by decide +kernel
theorem dL_pairs_132 : decode cL_pairs 132 = .ok (.iload 6, 2) := by decide +kernel
theorem dL_pairs_134 : decode cL_pairs 134 = .ok (.imul, 1) := by decide +kernel
theorem dL_pairs_135 : decode cL_pairs 135 = .ok (.iconst 1, 1) := by decide +kernel
theorem dL_pairs_136 : decode cL_pairs 136 = .ok (.iadd, 1) := by decide +kernel
theorem dL_pairs_137 : decode cL_pairs 137 = .ok (.aload_n 1, 1) := by decide +kernel
theorem dL_pairs_138 : decode cL_pairs 138 = .ok (.iconst 1, 1) := by decide +kernel
theorem dL_pairs_139 : decode cL_pairs 139 = .ok (.iaload, 1) := by decide +kernel
theorem dL_pairs_140 : decode cL_pairs 140 = .ok (.iastore, 1) := by decide +kernel
theorem dL_pairs_141 : decode cL_pairs 141 = .ok (.aload_n 1, 1) := by decide +kernel
theorem dL_pairs_142 : decode cL_pairs 142 = .ok (.iconst 2, 1) := by decide +kernel
theorem dL_pairs_143 : decode cL_pairs 143 = .ok (.dup2, 1) := by decide +kernel
theorem dL_pairs_144 : decode cL_pairs 144 = .ok (.iaload, 1) := by decide +kernel
theorem dL_pairs_145 : decode cL_pairs 145 = .ok (.iconst 1, 1) := by decide +kernel
theorem dL_pairs_146 : decode cL_pairs 146 = .ok (.iadd, 1) := by decide +kernel
theorem dL_pairs_147 : decode cL_pairs 147 = .ok (.iastore, 1) := by decide +kernel
theorem dL_pairs_148 : decode cL_pairs 148 = .ok (.iload 7, 2) := by decide +kernel
theorem dL_pairs_150 : decode cL_pairs 150 = .ok (.ifCond .eq 21, 3) := by decide +kernel
theorem dL_pairs_153 : decode cL_pairs 153 = .ok (.aload_n 1, 1) := by decide +kernel
theorem dL_pairs_154 : decode cL_pairs 154 = .ok (.invokestatic 104, 3) := by decide +kernel
theorem dL_pairs_157 : decode cL_pairs 157 = .ok (.ifCond .eq 14, 3) := by decide +kernel
theorem dL_pairs_160 : decode cL_pairs 160 = .ok (.aload_n 0, 1) := by decide +kernel
theorem dL_pairs_161 : decode cL_pairs 161 = .ok (.invokevirtual 101, 3) := by decide +kernel
theorem dL_pairs_164 : decode cL_pairs 164 = .ok (.ifCond .ne 7, 3) := by decide +kernel
theorem dL_pairs_167 : decode cL_pairs 167 = .ok (.iconst 1, 1) := by decide +kernel
theorem dL_pairs_168 : decode cL_pairs 168 = .ok (.goto 4, 3) := by decide +kernel
theorem dL_pairs_171 : decode cL_pairs 171 = .ok (.iconst 0, 1) := by decide +kernel
theorem dL_pairs_172 : decode cL_pairs 172 = .ok (.ireturn, 1) := by decide +kernel
theorem dL_empties_0 : decode cL_empties 0 = .ok (.aload_n 0, 1) := by decide +kernel
theorem dL_empties_1 : decode cL_empties 1 = .ok (.iconst 0, 1) := by decide +kernel
theorem dL_empties_2 : decode cL_empties 2 = .ok (.iconst 0, 1) := by decide +kernel
theorem dL_empties_3 : decode cL_empties 3 = .ok (.iastore, 1) := by decide +kernel
theorem dL_empties_4 : decode cL_empties 4 = .ok (.aload_n 0, 1) := by decide +kernel
theorem dL_empties_5 : decode cL_empties 5 = .ok (.iconst 1, 1) := by decide +kernel
theorem dL_empties_6 : decode cL_empties 6 = .ok (.iconst 0, 1) := by decide +kernel
theorem dL_empties_7 : decode cL_empties 7 = .ok (.iastore, 1) := by decide +kernel
theorem dL_empties_8 : decode cL_empties 8 = .ok (.iconst 1, 1) := by decide +kernel
theorem dL_empties_9 : decode cL_empties 9 = .ok (.ireturn, 1) := by decide +kernel
theorem dL_acts_0 : decode cL_acts 0 = .ok (.iload 5, 2) := by decide +kernel
theorem dL_acts_2 : decode cL_acts 2 = .ok (.bipush 14, 2) := by decide +kernel
theorem dL_acts_4 : decode cL_acts 4 = .ok (.invokestatic 90, 3) := by decide +kernel
theorem dL_acts_7 : decode cL_acts 7 = .ok (.istore 7, 2) := by decide +kernel
theorem dL_acts_9 : decode cL_acts 9 = .ok (.iload 7, 2) := by decide +kernel
theorem dL_acts_11 : decode cL_acts 11 = .ok (.iconst 4, 1) := by decide +kernel
theorem dL_acts_12 : decode cL_acts 12 = .ok (.if_icmp .ge 47, 3) := by decide +kernel
theorem dL_acts_15 : decode cL_acts 15 = .ok (.aload_n 0, 1) := by decide +kernel
theorem dL_acts_16 : decode cL_acts 16 = .ok (.aload_n 1, 1) := by decide +kernel
theorem dL_acts_17 : decode cL_acts 17 = .ok (.iload 5, 2) := by decide +kernel
theorem dL_acts_19 : decode cL_acts 19 = .ok (.iconst 4, 1) := by decide +kernel
theorem dL_acts_20 : decode cL_acts 20 = .ok (.ishr, 1) := by decide +kernel
theorem dL_acts_21 : decode cL_acts 21 = .ok (.iload 6, 2) := by decide +kernel
theorem dL_acts_23 : decode cL_acts 23 = .ok (.invokestatic 108, 3) := by decide +kernel
theorem dL_acts_26 : decode cL_acts 26 = .ok (.ifCond .eq 31, 3) := by decide +kernel
theorem dL_acts_29 : decode cL_acts 29 = .ok (.iload 6, 2) := by decide +kernel
theorem dL_acts_31 : decode cL_acts 31 = .ok (.bipush 16, 2) := by decide +kernel
theorem dL_acts_33 : decode cL_acts 33 = .ok (.ishr, 1) := by decide +kernel
theorem dL_acts_34 : decode cL_acts 34 = .ok (.iconst 3, 1) := by decide +kernel
theorem dL_acts_35 : decode cL_acts 35 = .ok (.invokestatic 90, 3) := by decide +kernel
theorem dL_acts_38 : decode cL_acts 38 = .ok (.ifCond .gt 15, 3) := by decide +kernel
theorem dL_acts_41 : decode cL_acts 41 = .ok (.aload_n 0, 1) := by decide +kernel
theorem dL_acts_42 : decode cL_acts 42 = .ok (.aload_n 1, 1) := by decide +kernel
theorem dL_acts_43 : decode cL_acts 43 = .ok (.aload_n 2, 1) := by decide +kernel
theorem dL_acts_44 : decode cL_acts 44 = .ok (.aload_n 3, 1) := by decide +kernel
theorem dL_acts_45 : decode cL_acts 45 = .ok (.iload 6, 2) := by decide +kernel
theorem dL_acts_47 : decode cL_acts 47 = .ok (.invokestatic 112, 3) := by decide +kernel
theorem dL_acts_50 : decode cL_acts 50 = .ok (.ifCond .eq 7, 3) := by decide +kernel
theorem dL_acts_53 : decode cL_acts 53 = .ok (.iconst 1, 1) := by decide +kernel
theorem dL_acts_54 : decode cL_acts 54 = .ok (.goto 4, 3) := by decide +kernel
theorem dL_acts_57 : decode cL_acts 57 = .ok (.iconst 0, 1) := by decide +kernel
theorem dL_acts_58 : decode cL_acts 58 = .ok (.ireturn, 1) := by decide +kernel
theorem dL_acts_59 : decode cL_acts 59 = .ok (.iload 7, 2) := by decide +kernel
theorem dL_acts_61 : decode cL_acts 61 = .ok (.iconst 4, 1) := by decide +kernel
theorem dL_acts_62 : decode cL_acts 62 = .ok (.if_icmp .ne 66, 3) := by decide +kernel
theorem dL_acts_65 : decode cL_acts 65 = .ok (.aload_n 0, 1) := by decide +kernel
theorem dL_acts_66 : decode cL_acts 66 = .ok (.invokevirtual 115, 3) := by decide +kernel
theorem dL_acts_69 : decode cL_acts 69 = .ok (.istore 8, 2) := by decide +kernel
theorem dL_acts_71 : decode cL_acts 71 = .ok (.iload 8, 2) := by decide +kernel
theorem dL_acts_73 : decode cL_acts 73 = .ok (.ifCond .lt 53, 3) := by decide +kernel
theorem dL_acts_76 : decode cL_acts 76 = .ok (.iload 8, 2) := by decide +kernel
theorem dL_acts_78 : decode cL_acts 78 = .ok (.sipush 480, 3) := by decide +kernel
theorem dL_acts_81 : decode cL_acts 81 = .ok (.if_icmp .gt 45, 3) := by decide +kernel
theorem dL_acts_84 : decode cL_acts 84 = .ok (.iload 8, 2) := by decide +kernel
theorem dL_acts_86 : decode cL_acts 86 = .ok (.ifCond .le 7, 3) := by decide +kernel
theorem dL_acts_89 : decode cL_acts 89 = .ok (.iconst 1, 1) := by decide +kernel
theorem dL_acts_90 : decode cL_acts 90 = .ok (.goto 4, 3) := by decide +kernel
theorem dL_acts_93 : decode cL_acts 93 = .ok (.iconst 0, 1) := by decide +kernel
theorem dL_acts_94 : decode cL_acts 94 = .ok (.aload_n 0, 1) := by decide +kernel
theorem dL_acts_95 : decode cL_acts 95 = .ok (.invokevirtual 95, 3) := by decide +kernel
theorem dL_acts_98 : decode cL_acts 98 = .ok (.ifCond .le 7, 3) := by decide +kernel
theorem dL_acts_101 : decode cL_acts 101 = .ok (.iconst 1, 1) := by decide +kernel
theorem dL_acts_102 : decode cL_acts 102 = .ok (.goto 4, 3) := by decide +kernel
theorem dL_acts_105 : decode cL_acts 105 = .ok (.iconst 0, 1) := by decide +kernel
theorem dL_acts_106 : decode cL_acts 106 = .ok (.if_icmp .ne 20, 3) := by decide +kernel
theorem dL_acts_109 : decode cL_acts 109 = .ok (.aload_n 1, 1) := by decide +kernel
theorem dL_acts_110 : decode cL_acts 110 = .ok (.iconst 2, 1) := by decide +kernel
theorem dL_acts_111 : decode cL_acts 111 = .ok (.iaload, 1) := by decide +kernel
theorem dL_acts_112 : decode cL_acts 112 = .ok (.ifCond .eq 10, 3) := by decide +kernel
theorem dL_acts_115 : decode cL_acts 115 = .ok (.aload_n 0, 1) := by decide +kernel
theorem dL_acts_116 : decode cL_acts 116 = .ok (.invokestatic 118, 3) := by decide +kernel
theorem dL_acts_119 : decode cL_acts 119 = .ok (.ifCond .eq 7, 3) := by decide +kernel
theorem dL_acts_122 : decode cL_acts 122 = .ok (.iconst 1, 1) := by decide +kernel
theorem dL_acts_123 : decode cL_acts 123 = .ok (.goto 4, 3) := by decide +kernel
theorem dL_acts_126 : decode cL_acts 126 = .ok (.iconst 0, 1) := by decide +kernel
theorem dL_acts_127 : decode cL_acts 127 = .ok (.ireturn, 1) := by decide +kernel
theorem dL_acts_128 : decode cL_acts 128 = .ok (.iload 7, 2) := by decide +kernel
theorem dL_acts_130 : decode cL_acts 130 = .ok (.bipush 7, 2) := by decide +kernel
theorem dL_acts_132 : decode cL_acts 132 = .ok (.if_icmp .ge 41, 3) := by decide +kernel
theorem dL_acts_135 : decode cL_acts 135 = .ok (.aload_n 0, 1) := by decide +kernel
theorem dL_acts_136 : decode cL_acts 136 = .ok (.invokevirtual 122, 3) := by decide +kernel
theorem dL_acts_139 : decode cL_acts 139 = .ok (.istore 8, 2) := by decide +kernel
theorem dL_acts_141 : decode cL_acts 141 = .ok (.iload 8, 2) := by decide +kernel
theorem dL_acts_143 : decode cL_acts 143 = .ok (.ifCond .lt 28, 3) := by decide +kernel
theorem dL_acts_146 : decode cL_acts 146 = .ok (.iload 8, 2) := by decide +kernel
theorem dL_acts_148 : decode cL_acts 148 = .ok (.sipush 480, 3) := by decide +kernel
theorem dL_acts_151 : decode cL_acts 151 = .ok (.if_icmp .gt 20, 3) := by decide +kernel
theorem dL_acts_154 : decode cL_acts 154 = .ok (.iload 7, 2) := by decide +kernel
theorem dL_acts_156 : decode cL_acts 156 = .ok (.iconst 5, 1) := by decide +kernel
theorem dL_acts_157 : decode cL_acts 157 = .ok (.if_icmp .eq 10, 3) := by decide +kernel
theorem dL_acts_160 : decode cL_acts 160 = .ok (.aload_n 0, 1) := by decide +kernel
theorem dL_acts_161 : decode cL_acts 161 = .ok (.invokestatic 118, 3) := by decide +kernel
theorem dL_acts_164 : decode cL_acts 164 = .ok (.ifCond .eq 7, 3) := by decide +kernel
theorem dL_acts_167 : decode cL_acts 167 = .ok (.iconst 1, 1) := by decide +kernel
theorem dL_acts_168 : decode cL_acts 168 = .ok (.goto 4, 3) := by decide +kernel
theorem dL_acts_171 : decode cL_acts 171 = .ok (.iconst 0, 1) := by decide +kernel
theorem dL_acts_172 : decode cL_acts 172 = .ok (.ireturn, 1) := by decide +kernel
theorem dL_acts_173 : decode cL_acts 173 = .ok (.iload 7, 2) := by decide +kernel
theorem dL_acts_175 : decode cL_acts 175 = .ok (.bipush 7, 2) := by decide +kernel
theorem dL_acts_177 : decode cL_acts 177 = .ok (.if_icmp .ne 54, 3) := by decide +kernel
theorem dL_acts_180 : decode cL_acts 180 = .ok (.iload 6, 2) := by decide +kernel
theorem dL_acts_182 : decode cL_acts 182 = .ok (.iconst 5, 1) := by decide +kernel
theorem dL_acts_183 : decode cL_acts 183 = .ok (.invokestatic 90, 3) := by decide +kernel
theorem dL_acts_186 : decode cL_acts 186 = .ok (.istore 8, 2) := by decide +kernel
theorem dL_acts_188 : decode cL_acts 188 = .ok (.aload 4, 2) := by decide +kernel
theorem dL_acts_190 : decode cL_acts 190 = .ok (.iload 8, 2) := by decide +kernel
theorem dL_acts_192 : decode cL_acts 192 = .ok (.iaload, 1) := by decide +kernel
theorem dL_acts_193 : decode cL_acts 193 = .ok (.istore 9, 2) := by decide +kernel
theorem dL_acts_195 : decode cL_acts 195 = .ok (.aload 4, 2) := by decide +kernel
theorem dL_acts_197 : decode cL_acts 197 = .ok (.iload 8, 2) := by decide +kernel
theorem dL_acts_199 : decode cL_acts 199 = .ok (.iload 6, 2) := by decide +kernel
theorem dL_acts_201 : decode cL_acts 201 = .ok (.iconst 3, 1) := by decide +kernel
theorem dL_acts_202 : decode cL_acts 202 = .ok (.ishr, 1) := by decide +kernel
theorem dL_acts_203 : decode cL_acts 203 = .ok (.bipush 10, 2) := by decide +kernel
theorem dL_acts_205 : decode cL_acts 205 = .ok (.invokestatic 90, 3) := by decide +kernel
theorem dL_acts_208 : decode cL_acts 208 = .ok (.iastore, 1) := by decide +kernel
theorem dL_acts_209 : decode cL_acts 209 = .ok (.aload_n 0, 1) := by decide +kernel
theorem dL_acts_210 : decode cL_acts 210 = .ok (.iload 8, 2) := by decide +kernel
theorem dL_acts_212 : decode cL_acts 212 = .ok (.aload 4, 2) := by decide +kernel
theorem dL_acts_214 : decode cL_acts 214 = .ok (.iload 8, 2) := by decide +kernel
theorem dL_acts_216 : decode cL_acts 216 = .ok (.iaload, 1) := by decide +kernel
theorem dL_acts_217 : decode cL_acts 217 = .ok (.invokestatic 125, 3) := by decide +kernel
theorem dL_acts_220 : decode cL_acts 220 = .ok (.iload 9, 2) := by decide +kernel
theorem dL_acts_222 : decode cL_acts 222 = .ok (.if_icmp .ne 7, 3) := by decide +kernel
theorem dL_acts_225 : decode cL_acts 225 = .ok (.iconst 1, 1) := by decide +kernel
theorem dL_acts_226 : decode cL_acts 226 = .ok (.goto 4, 3) := by decide +kernel
theorem dL_acts_229 : decode cL_acts 229 = .ok (.iconst 0, 1) := by decide +kernel
theorem dL_acts_230 : decode cL_acts 230 = .ok (.ireturn, 1) := by decide +kernel
theorem dL_acts_231 : decode cL_acts 231 = .ok (.aload_n 1, 1) := by decide +kernel
theorem dL_acts_232 : decode cL_acts 232 = .ok (.iconst 2, 1) := by decide +kernel
theorem dL_acts_233 : decode cL_acts 233 = .ok (.iaload, 1) := by decide +kernel
theorem dL_acts_234 : decode cL_acts 234 = .ok (.ifCond .ne 13, 3) := by decide +kernel
theorem dL_acts_237 : decode cL_acts 237 = .ok (.aload_n 0, 1) := by decide +kernel
theorem dL_acts_238 : decode cL_acts 238 = .ok (.aload_n 1, 1) := by decide +kernel
theorem dL_acts_239 : decode cL_acts 239 = .ok (.aload_n 2, 1) := by decide +kernel
theorem dL_acts_240 : decode cL_acts 240 = .ok (.aload_n 3, 1) := by decide +kernel
theorem dL_acts_241 : decode cL_acts 241 = .ok (.iload 6, 2) := by decide +kernel
theorem dL_acts_243 : decode cL_acts 243 = .ok (.invokestatic 112, 3) := by decide +kernel
theorem dL_acts_246 : decode cL_acts 246 = .ok (.ireturn, 1) := by decide +kernel
theorem dL_acts_247 : decode cL_acts 247 = .ok (.iload 6, 2) := by decide +kernel
theorem dL_acts_249 : decode cL_acts 249 = .ok (.aload_n 1, 1) := by decide +kernel
theorem dL_acts_250 : decode cL_acts 250 = .ok (.iconst 2, 1) := by decide +kernel
theorem dL_acts_251 : decode cL_acts 251 = .ok (.iaload, 1) := by decide +kernel
theorem dL_acts_252 : decode cL_acts 252 = .ok (.invokestatic 90, 3) := by decide +kernel
theorem dL_acts_255 : decode cL_acts 255 = .ok (.istore 8, 2) := by decide +kernel
theorem dL_acts_257 : decode cL_acts 257 = .ok (.aload_n 2, 1) := by decide +kernel
theorem dL_acts_258 : decode cL_acts 258 = .ok (.iload 8, 2) := by decide +kernel
theorem dL_acts_260 : decode cL_acts 260 = .ok (.iaload, 1) := by decide +kernel
theorem dL_acts_261 : decode cL_acts 261 = .ok (.iconst 1, 1) := by decide +kernel
theorem dL_acts_262 : decode cL_acts 262 = .ok (.if_icmp .ne 57, 3) := by decide +kernel
theorem dL_acts_265 : decode cL_acts 265 = .ok (.aload_n 0, 1) := by decide +kernel
theorem dL_acts_266 : decode cL_acts 266 = .ok (.iload 8, 2) := by decide +kernel
theorem dL_acts_268 : decode cL_acts 268 = .ok (.invokestatic 127, 3) := by decide +kernel
theorem dL_acts_271 : decode cL_acts 271 = .ok (.ldc 18, 2) := by decide +kernel
theorem dL_acts_273 : decode cL_acts 273 = .ok (.if_icmp .ne 44, 3) := by decide +kernel
theorem dL_acts_276 : decode cL_acts 276 = .ok (.aload_n 0, 1) := by decide +kernel
theorem dL_acts_277 : decode cL_acts 277 = .ok (.iload 8, 2) := by decide +kernel
theorem dL_acts_279 : decode cL_acts 279 = .ok (.invokestatic 80, 3) := by decide +kernel
theorem dL_acts_282 : decode cL_acts 282 = .ok (.ldc 18, 2) := by decide +kernel
theorem dL_acts_284 : decode cL_acts 284 = .ok (.if_icmp .ne 33, 3) := by decide +kernel
theorem dL_acts_287 : decode cL_acts 287 = .ok (.aload_n 0, 1) := by decide +kernel
theorem dL_acts_288 : decode cL_acts 288 = .ok (.iload 8, 2) := by decide +kernel
theorem dL_acts_290 : decode cL_acts 290 = .ok (.iconst 0, 1) := by decide +kernel
theorem dL_acts_291 : decode cL_acts 291 = .ok (.iconst 0, 1) := by decide +kernel
theorem dL_acts_292 : decode cL_acts 292 = .ok (.invokestatic 85, 3) := by decide +kernel
theorem dL_acts_295 : decode cL_acts 295 = .ok (.ldc 18, 2) := by decide +kernel
theorem dL_acts_297 : decode cL_acts 297 = .ok (.if_icmp .ne 20, 3) := by decide +kernel
theorem dL_acts_300 : decode cL_acts 300 = .ok (.aload_n 0, 1) := by decide +kernel
theorem dL_acts_301 : decode cL_acts 301 = .ok (.iload 8, 2) := by decide +kernel
theorem dL_acts_303 : decode cL_acts 303 = .ok (.invokestatic 129, 3) := by decide +kernel
theorem dL_acts_306 : decode cL_acts 306 = .ok (.ldc2_w 63, 3) := by decide +kernel
theorem dL_acts_309 : decode cL_acts 309 = .ok (.lcmp, 1) := by decide +kernel
theorem dL_acts_310 : decode cL_acts 310 = .ok (.ifCond .ne 7, 3) := by decide +kernel
theorem dL_acts_313 : decode cL_acts 313 = .ok (.iconst 1, 1) := by decide +kernel
theorem dL_acts_314 : decode cL_acts 314 = .ok (.goto 4, 3) := by decide +kernel
theorem dL_acts_317 : decode cL_acts 317 = .ok (.iconst 0, 1) := by decide +kernel
theorem dL_acts_318 : decode cL_acts 318 = .ok (.ireturn, 1) := by decide +kernel
theorem dL_acts_319 : decode cL_acts 319 = .ok (.iload 7, 2) := by decide +kernel
theorem dL_acts_321 : decode cL_acts 321 = .ok (.bipush 8, 2) := by decide +kernel
theorem dL_acts_323 : decode cL_acts 323 = .ok (.if_icmp .ne 55, 3) := by decide +kernel
theorem dL_acts_326 : decode cL_acts 326 = .ok (.iload 6, 2) := by decide +kernel
theorem dL_acts_328 : decode cL_acts 328 = .ok (.iconst 5, 1) := by decide +kernel
theorem dL_acts_329 : decode cL_acts 329 = .ok (.ishr, 1) := by decide +kernel
theorem dL_acts_330 : decode cL_acts 330 = .ok (.iconst 3, 1) := by decide +kernel
theorem dL_acts_331 : decode cL_acts 331 = .ok (.invokestatic 90, 3) := by decide +kernel
theorem dL_acts_334 : decode cL_acts 334 = .ok (.ifCond .ne 44, 3) := by decide +kernel
theorem dL_acts_337 : decode cL_acts 337 = .ok (.aload_n 0, 1) := by decide +kernel
theorem dL_acts_338 : decode cL_acts 338 = .ok (.invokevirtual 95, 3) := by decide +kernel
theorem dL_acts_341 : decode cL_acts 341 = .ok (.istore 9, 2) := by decide +kernel
theorem dL_acts_343 : decode cL_acts 343 = .ok (.aload_n 2, 1) := by decide +kernel
theorem dL_acts_344 : decode cL_acts 344 = .ok (.iload 8, 2) := by decide +kernel
theorem dL_acts_346 : decode cL_acts 346 = .ok (.iconst 1, 1) := by decide +kernel
theorem dL_acts_347 : decode cL_acts 347 = .ok (.iastore, 1) := by decide +kernel
theorem dL_acts_348 : decode cL_acts 348 = .ok (.aload_n 0, 1) := by decide +kernel
theorem dL_acts_349 : decode cL_acts 349 = .ok (.iload 8, 2) := by decide +kernel
theorem dL_acts_351 : decode cL_acts 351 = .ok (.invokestatic 127, 3) := by decide +kernel
theorem dL_acts_354 : decode cL_acts 354 = .ok (.iload 9, 2) := by decide +kernel
theorem dL_acts_356 : decode cL_acts 356 = .ok (.iconst 1, 1) := by decide +kernel
theorem dL_acts_357 : decode cL_acts 357 = .ok (.isub, 1) := by decide +kernel
theorem dL_acts_358 : decode cL_acts 358 = .ok (.if_icmp .ne 18, 3) := by decide +kernel
theorem dL_acts_361 : decode cL_acts 361 = .ok (.aload_n 0, 1) := by decide +kernel
theorem dL_acts_362 : decode cL_acts 362 = .ok (.invokevirtual 95, 3) := by decide +kernel
theorem dL_acts_365 : decode cL_acts 365 = .ok (.iload 9, 2) := by decide +kernel
theorem dL_acts_367 : decode cL_acts 367 = .ok (.iconst 1, 1) := by decide +kernel
theorem dL_acts_368 : decode cL_acts 368 = .ok (.isub, 1) := by decide +kernel
theorem dL_acts_369 : decode cL_acts 369 = .ok (.if_icmp .ne 7, 3) := by decide +kernel
theorem dL_acts_372 : decode cL_acts 372 = .ok (.iconst 1, 1) := by decide +kernel
theorem dL_acts_373 : decode cL_acts 373 = .ok (.goto 4, 3) := by decide +kernel
theorem dL_acts_376 : decode cL_acts 376 = .ok (.iconst 0, 1) := by decide +kernel
theorem dL_acts_377 : decode cL_acts 377 = .ok (.ireturn, 1) := by decide +kernel
theorem dL_acts_378 : decode cL_acts 378 = .ok (.iload 7, 2) := by decide +kernel
theorem dL_acts_380 : decode cL_acts 380 = .ok (.bipush 11, 2) := by decide +kernel
theorem dL_acts_382 : decode cL_acts 382 = .ok (.if_icmp .ge 11, 3) := by decide +kernel
theorem dL_acts_385 : decode cL_acts 385 = .ok (.aload_n 0, 1) := by decide +kernel
theorem dL_acts_386 : decode cL_acts 386 = .ok (.aload_n 3, 1) := by decide +kernel
theorem dL_acts_387 : decode cL_acts 387 = .ok (.iload 8, 2) := by decide +kernel
theorem dL_acts_389 : decode cL_acts 389 = .ok (.invokestatic 132, 3) := by decide +kernel
theorem dL_acts_392 : decode cL_acts 392 = .ok (.ireturn, 1) := by decide +kernel
theorem dL_acts_393 : decode cL_acts 393 = .ok (.iload 7, 2) := by decide +kernel
theorem dL_acts_395 : decode cL_acts 395 = .ok (.bipush 11, 2) := by decide +kernel
theorem dL_acts_397 : decode cL_acts 397 = .ok (.if_icmp .ne 66, 3) := by decide +kernel
theorem dL_acts_400 : decode cL_acts 400 = .ok (.aload_n 0, 1) := by decide +kernel
theorem dL_acts_401 : decode cL_acts 401 = .ok (.iload 8, 2) := by decide +kernel
theorem dL_acts_403 : decode cL_acts 403 = .ok (.invokestatic 129, 3) := by decide +kernel
theorem dL_acts_406 : decode cL_acts 406 = .ok (.lstore 9, 2) := by decide +kernel
theorem dL_acts_408 : decode cL_acts 408 = .ok (.lload 9, 2) := by decide +kernel
theorem dL_acts_410 : decode cL_acts 410 = .ok (.aload_n 3, 1) := by decide +kernel
theorem dL_acts_411 : decode cL_acts 411 = .ok (.iconst 2, 1) := by decide +kernel
theorem dL_acts_412 : decode cL_acts 412 = .ok (.iload 8, 2) := by decide +kernel
theorem dL_acts_414 : decode cL_acts 414 = .ok (.imul, 1) := by decide +kernel
theorem dL_acts_415 : decode cL_acts 415 = .ok (.iconst 1, 1) := by decide +kernel
theorem dL_acts_416 : decode cL_acts 416 = .ok (.iadd, 1) := by decide +kernel
theorem dL_acts_417 : decode cL_acts 417 = .ok (.iaload, 1) := by decide +kernel
theorem dL_acts_418 : decode cL_acts 418 = .ok (.iconst 4, 1) := by decide +kernel
theorem dL_acts_419 : decode cL_acts 419 = .ok (.if_icmp .le 9, 3) := by decide +kernel
theorem dL_acts_422 : decode cL_acts 422 = .ok (.ldc2_w 65, 3) := by decide +kernel
theorem dL_acts_425 : decode cL_acts 425 = .ok (.goto 9, 3) := by decide +kernel
theorem dL_acts_428 : decode cL_acts 428 = .ok (.aload_n 0, 1) := by decide +kernel
theorem dL_acts_429 : decode cL_acts 429 = .ok (.iload 8, 2) := by decide +kernel
theorem dL_acts_431 : decode cL_acts 431 = .ok (.invokestatic 136, 3) := by decide +kernel
theorem dL_acts_434 : decode cL_acts 434 = .ok (.lcmp, 1) := by decide +kernel
theorem dL_acts_435 : decode cL_acts 435 = .ok (.ifCond .ne 26, 3) := by decide +kernel
theorem dL_acts_438 : decode cL_acts 438 = .ok (.aload_n 3, 1) := by decide +kernel
theorem dL_acts_439 : decode cL_acts 439 = .ok (.iconst 2, 1) := by decide +kernel
theorem dL_acts_440 : decode cL_acts 440 = .ok (.iload 8, 2) := by decide +kernel
theorem dL_acts_442 : decode cL_acts 442 = .ok (.imul, 1) := by decide +kernel
theorem dL_acts_443 : decode cL_acts 443 = .ok (.iconst 1, 1) := by decide +kernel
theorem dL_acts_444 : decode cL_acts 444 = .ok (.iadd, 1) := by decide +kernel
theorem dL_acts_445 : decode cL_acts 445 = .ok (.iaload, 1) := by decide +kernel
theorem dL_acts_446 : decode cL_acts 446 = .ok (.iconst 4, 1) := by decide +kernel
theorem dL_acts_447 : decode cL_acts 447 = .ok (.if_icmp .gt 10, 3) := by decide +kernel
theorem dL_acts_450 : decode cL_acts 450 = .ok (.lload 9, 2) := by decide +kernel
theorem dL_acts_452 : decode cL_acts 452 = .ok (.lconst 0, 1) := by decide +kernel
theorem dL_acts_453 : decode cL_acts 453 = .ok (.lcmp, 1) := by decide +kernel
theorem dL_acts_454 : decode cL_acts 454 = .ok (.ifCond .lt 7, 3) := by decide +kernel
theorem dL_acts_457 : decode cL_acts 457 = .ok (.iconst 1, 1) := by decide +kernel
theorem dL_acts_458 : decode cL_acts 458 = .ok (.goto 4, 3) := by decide +kernel
theorem dL_acts_461 : decode cL_acts 461 = .ok (.iconst 0, 1) := by decide +kernel
theorem dL_acts_462 : decode cL_acts 462 = .ok (.ireturn, 1) := by decide +kernel
theorem dL_acts_463 : decode cL_acts 463 = .ok (.aload_n 1, 1) := by decide +kernel
theorem dL_acts_464 : decode cL_acts 464 = .ok (.iconst 3, 1) := by decide +kernel
theorem dL_acts_465 : decode cL_acts 465 = .ok (.dup2, 1) := by decide +kernel
theorem dL_acts_466 : decode cL_acts 466 = .ok (.iaload, 1) := by decide +kernel
theorem dL_acts_467 : decode cL_acts 467 = .ok (.iconst 1, 1) := by decide +kernel
theorem dL_acts_468 : decode cL_acts 468 = .ok (.iadd, 1) := by decide +kernel
theorem dL_acts_469 : decode cL_acts 469 = .ok (.iastore, 1) := by decide +kernel
theorem dL_acts_470 : decode cL_acts 470 = .ok (.aload_n 1, 1) := by decide +kernel
theorem dL_acts_471 : decode cL_acts 471 = .ok (.iconst 3, 1) := by decide +kernel
theorem dL_acts_472 : decode cL_acts 472 = .ok (.iaload, 1) := by decide +kernel
theorem dL_acts_473 : decode cL_acts 473 = .ok (.iconst 4, 1) := by decide +kernel
theorem dL_acts_474 : decode cL_acts 474 = .ok (.if_icmp .gt 40, 3) := by decide +kernel
theorem dL_acts_477 : decode cL_acts 477 = .ok (.iload 7, 2) := by decide +kernel
theorem dL_acts_479 : decode cL_acts 479 = .ok (.bipush 12, 2) := by decide +kernel
theorem dL_acts_481 : decode cL_acts 481 = .ok (.if_icmp .ne 16, 3) := by decide +kernel
theorem dL_acts_484 : decode cL_acts 484 = .ok (.aload_n 0, 1) := by decide +kernel
theorem dL_acts_485 : decode cL_acts 485 = .ok (.aload_n 3, 1) := by decide +kernel
theorem dL_acts_486 : decode cL_acts 486 = .ok (.iload 8, 2) := by decide +kernel
theorem dL_acts_488 : decode cL_acts 488 = .ok (.invokestatic 138, 3) := by decide +kernel
theorem dL_acts_491 : decode cL_acts 491 = .ok (.ifCond .eq 27, 3) := by decide +kernel
theorem dL_acts_494 : decode cL_acts 494 = .ok (.goto 20, 3) := by decide +kernel
theorem dL_acts_497 : decode cL_acts 497 = .ok (.aload_n 0, 1) := by decide +kernel
theorem dL_acts_498 : decode cL_acts 498 = .ok (.aload_n 1, 1) := by decide +kernel
theorem dL_acts_499 : decode cL_acts 499 = .ok (.aload_n 2, 1) := by decide +kernel
theorem dL_acts_500 : decode cL_acts 500 = .ok (.iload 6, 2) := by decide +kernel
theorem dL_acts_502 : decode cL_acts 502 = .ok (.iconst 5, 1) := by decide +kernel
theorem dL_acts_503 : decode cL_acts 503 = .ok (.ishr, 1) := by decide +kernel
theorem dL_acts_504 : decode cL_acts 504 = .ok (.iconst 5, 1) := by decide +kernel
theorem dL_acts_505 : decode cL_acts 505 = .ok (.invokestatic 90, 3) := by decide +kernel
theorem dL_acts_508 : decode cL_acts 508 = .ok (.invokestatic 141, 3) := by decide +kernel
theorem dL_acts_511 : decode cL_acts 511 = .ok (.ifCond .eq 7, 3) := by decide +kernel
theorem dL_acts_514 : decode cL_acts 514 = .ok (.iconst 1, 1) := by decide +kernel
theorem dL_acts_515 : decode cL_acts 515 = .ok (.goto 4, 3) := by decide +kernel
theorem dL_acts_518 : decode cL_acts 518 = .ok (.iconst 0, 1) := by decide +kernel
theorem dL_acts_519 : decode cL_acts 519 = .ok (.ireturn, 1) := by decide +kernel
theorem dL_law_0 : decode cL_law 0 = .ok (.new 11, 3) := by decide +kernel
theorem dL_law_3 : decode cL_law 3 = .ok (.dup, 1) := by decide +kernel
theorem dL_law_4 : decode cL_law 4 = .ok (.invokespecial 145, 3) := by decide +kernel
theorem dL_law_7 : decode cL_law 7 = .ok (.astore_n 1, 1) := by decide +kernel
theorem dL_law_8 : decode cL_law 8 = .ok (.iconst 4, 1) := by decide +kernel
theorem dL_law_9 : decode cL_law 9 = .ok (.newarray .int, 2) := by decide +kernel
theorem dL_law_11 : decode cL_law 11 = .ok (.astore_n 2, 1) := by decide +kernel
theorem dL_law_12 : decode cL_law 12 = .ok (.bipush 20, 2) := by decide +kernel
theorem dL_law_14 : decode cL_law 14 = .ok (.newarray .int, 2) := by decide +kernel
theorem dL_law_16 : decode cL_law 16 = .ok (.astore_n 3, 1) := by decide +kernel
theorem dL_law_17 : decode cL_law 17 = .ok (.bipush 40, 2) := by decide +kernel
theorem dL_law_19 : decode cL_law 19 = .ok (.newarray .int, 2) := by decide +kernel
theorem dL_law_21 : decode cL_law 21 = .ok (.astore 4, 2) := by decide +kernel
theorem dL_law_23 : decode cL_law 23 = .ok (.iconst 5, 1) := by decide +kernel
theorem dL_law_24 : decode cL_law 24 = .ok (.newarray .int, 2) := by decide +kernel
theorem dL_law_26 : decode cL_law 26 = .ok (.astore 5, 2) := by decide +kernel
theorem dL_law_28 : decode cL_law 28 = .ok (.iconst 0, 1) := by decide +kernel
theorem dL_law_29 : decode cL_law 29 = .ok (.istore 6, 2) := by decide +kernel
theorem dL_law_31 : decode cL_law 31 = .ok (.iload 6, 2) := by decide +kernel
theorem dL_law_33 : decode cL_law 33 = .ok (.iconst 4, 1) := by decide +kernel
theorem dL_law_34 : decode cL_law 34 = .ok (.if_icmp .ge 18, 3) := by decide +kernel
theorem dL_law_37 : decode cL_law 37 = .ok (.aload 5, 2) := by decide +kernel
theorem dL_law_39 : decode cL_law 39 = .ok (.iload 6, 2) := by decide +kernel
theorem dL_law_41 : decode cL_law 41 = .ok (.iconst 4, 1) := by decide +kernel
theorem dL_law_42 : decode cL_law 42 = .ok (.iload 6, 2) := by decide +kernel
theorem dL_law_44 : decode cL_law 44 = .ok (.isub, 1) := by decide +kernel
theorem dL_law_45 : decode cL_law 45 = .ok (.iastore, 1) := by decide +kernel
theorem dL_law_46 : decode cL_law 46 = .ok (.iinc 6 1, 3) := by decide +kernel
theorem dL_law_49 : decode cL_law 49 = .ok (.goto (-18), 3) := by decide +kernel
theorem dL_law_52 : decode cL_law 52 = .ok (.aload 5, 2) := by decide +kernel
theorem dL_law_54 : decode cL_law 54 = .ok (.iconst 4, 1) := by decide +kernel
theorem dL_law_55 : decode cL_law 55 = .ok (.iconst 1, 1) := by decide +kernel
theorem dL_law_56 : decode cL_law 56 = .ok (.iastore, 1) := by decide +kernel
theorem dL_law_57 : decode cL_law 57 = .ok (.aload_n 1, 1) := by decide +kernel
theorem dL_law_58 : decode cL_law 58 = .ok (.invokevirtual 95, 3) := by decide +kernel
theorem dL_law_61 : decode cL_law 61 = .ok (.ifCond .ne 7, 3) := by decide +kernel
theorem dL_law_64 : decode cL_law 64 = .ok (.iconst 1, 1) := by decide +kernel
theorem dL_law_65 : decode cL_law 65 = .ok (.goto 4, 3) := by decide +kernel
theorem dL_law_68 : decode cL_law 68 = .ok (.iconst 0, 1) := by decide +kernel
theorem dL_law_69 : decode cL_law 69 = .ok (.istore 6, 2) := by decide +kernel
theorem dL_law_71 : decode cL_law 71 = .ok (.iconst 0, 1) := by decide +kernel
theorem dL_law_72 : decode cL_law 72 = .ok (.istore 7, 2) := by decide +kernel
theorem dL_law_74 : decode cL_law 74 = .ok (.iload 7, 2) := by decide +kernel
theorem dL_law_76 : decode cL_law 76 = .ok (.bipush 50, 2) := by decide +kernel
theorem dL_law_78 : decode cL_law 78 = .ok (.if_icmp .ge 44, 3) := by decide +kernel
theorem dL_law_81 : decode cL_law 81 = .ok (.iload 6, 2) := by decide +kernel
theorem dL_law_83 : decode cL_law 83 = .ok (.ifCond .eq 39, 3) := by decide +kernel
theorem dL_law_86 : decode cL_law 86 = .ok (.aload_n 1, 1) := by decide +kernel
theorem dL_law_87 : decode cL_law 87 = .ok (.aload_n 2, 1) := by decide +kernel
theorem dL_law_88 : decode cL_law 88 = .ok (.aload_n 3, 1) := by decide +kernel
theorem dL_law_89 : decode cL_law 89 = .ok (.aload 4, 2) := by decide +kernel
theorem dL_law_91 : decode cL_law 91 = .ok (.aload 5, 2) := by decide +kernel
theorem dL_law_93 : decode cL_law 93 = .ok (.aload_n 0, 1) := by decide +kernel
theorem dL_law_94 : decode cL_law 94 = .ok (.iconst 2, 1) := by decide +kernel
theorem dL_law_95 : decode cL_law 95 = .ok (.iload 7, 2) := by decide +kernel
theorem dL_law_97 : decode cL_law 97 = .ok (.imul, 1) := by decide +kernel
theorem dL_law_98 : decode cL_law 98 = .ok (.invokestatic 146, 3) := by decide +kernel
theorem dL_law_101 : decode cL_law 101 = .ok (.aload_n 0, 1) := by decide +kernel
theorem dL_law_102 : decode cL_law 102 = .ok (.iconst 2, 1) := by decide +kernel
theorem dL_law_103 : decode cL_law 103 = .ok (.iload 7, 2) := by decide +kernel
theorem dL_law_105 : decode cL_law 105 = .ok (.imul, 1) := by decide +kernel
theorem dL_law_106 : decode cL_law 106 = .ok (.iconst 1, 1) := by decide +kernel
theorem dL_law_107 : decode cL_law 107 = .ok (.iadd, 1) := by decide +kernel
theorem dL_law_108 : decode cL_law 108 = .ok (.invokestatic 146, 3) := by decide +kernel
theorem dL_law_111 : decode cL_law 111 = .ok (.invokestatic 150, 3) := by decide +kernel
theorem dL_law_114 : decode cL_law 114 = .ok (.istore 6, 2) := by decide +kernel
theorem dL_law_116 : decode cL_law 116 = .ok (.iinc 7 1, 3) := by decide +kernel
theorem dL_law_119 : decode cL_law 119 = .ok (.goto (-45), 3) := by decide +kernel
theorem dL_law_122 : decode cL_law 122 = .ok (.iload 6, 2) := by decide +kernel
theorem dL_law_124 : decode cL_law 124 = .ok (.ifCond .eq 45, 3) := by decide +kernel
theorem dL_law_127 : decode cL_law 127 = .ok (.aload_n 1, 1) := by decide +kernel
theorem dL_law_128 : decode cL_law 128 = .ok (.invokestatic 118, 3) := by decide +kernel
theorem dL_law_131 : decode cL_law 131 = .ok (.ifCond .eq 38, 3) := by decide +kernel
theorem dL_law_134 : decode cL_law 134 = .ok (.aload_n 2, 1) := by decide +kernel
theorem dL_law_135 : decode cL_law 135 = .ok (.iconst 2, 1) := by decide +kernel
theorem dL_law_136 : decode cL_law 136 = .ok (.iaload, 1) := by decide +kernel
theorem dL_law_137 : decode cL_law 137 = .ok (.ifCond .eq 28, 3) := by decide +kernel
theorem dL_law_140 : decode cL_law 140 = .ok (.aload_n 3, 1) := by decide +kernel
theorem dL_law_141 : decode cL_law 141 = .ok (.aload_n 2, 1) := by decide +kernel
theorem dL_law_142 : decode cL_law 142 = .ok (.iconst 2, 1) := by decide +kernel
theorem dL_law_143 : decode cL_law 143 = .ok (.iaload, 1) := by decide +kernel
theorem dL_law_144 : decode cL_law 144 = .ok (.iconst 1, 1) := by decide +kernel
theorem dL_law_145 : decode cL_law 145 = .ok (.isub, 1) := by decide +kernel
theorem dL_law_146 : decode cL_law 146 = .ok (.iaload, 1) := by decide +kernel
theorem dL_law_147 : decode cL_law 147 = .ok (.iconst 1, 1) := by decide +kernel
theorem dL_law_148 : decode cL_law 148 = .ok (.if_icmp .eq 17, 3) := by decide +kernel
theorem dL_law_151 : decode cL_law 151 = .ok (.aload_n 1, 1) := by decide +kernel
theorem dL_law_152 : decode cL_law 152 = .ok (.aload 4, 2) := by decide +kernel
theorem dL_law_154 : decode cL_law 154 = .ok (.aload_n 2, 1) := by decide +kernel
theorem dL_law_155 : decode cL_law 155 = .ok (.iconst 2, 1) := by decide +kernel
theorem dL_law_156 : decode cL_law 156 = .ok (.iaload, 1) := by decide +kernel
theorem dL_law_157 : decode cL_law 157 = .ok (.iconst 1, 1) := by decide +kernel
theorem dL_law_158 : decode cL_law 158 = .ok (.isub, 1) := by decide +kernel
theorem dL_law_159 : decode cL_law 159 = .ok (.invokestatic 132, 3) := by decide +kernel
theorem dL_law_162 : decode cL_law 162 = .ok (.ifCond .eq 7, 3) := by decide +kernel
theorem dL_law_165 : decode cL_law 165 = .ok (.iconst 1, 1) := by decide +kernel
theorem dL_law_166 : decode cL_law 166 = .ok (.goto 4, 3) := by decide +kernel
theorem dL_law_169 : decode cL_law 169 = .ok (.iconst 0, 1) := by decide +kernel
theorem dL_law_170 : decode cL_law 170 = .ok (.ireturn, 1) := by decide +kernel
