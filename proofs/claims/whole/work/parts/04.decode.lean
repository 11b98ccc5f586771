theorem dX0_init_0 : decode cX0_init 0 = .ok (.aload_n 0, 1) := by decide +kernel
theorem dX0_init_1 : decode cX0_init 1 = .ok (.invokespecial 3, 3) := by decide +kernel
theorem dX0_init_4 : decode cX0_init 4 = .ok (.aload_n 0, 1) := by decide +kernel
theorem dX0_init_5 : decode cX0_init 5 = .ok (.bipush 8, 2) := by decide +kernel
theorem dX0_init_7 : decode cX0_init 7 = .ok (.newarray .int, 2) := by decide +kernel
theorem dX0_init_9 : decode cX0_init 9 = .ok (.putfield 9, 3) := by decide +kernel
theorem dX0_init_12 : decode cX0_init 12 = .ok (.aload_n 0, 1) := by decide +kernel
theorem dX0_init_13 : decode cX0_init 13 = .ok (.bipush 8, 2) := by decide +kernel
theorem dX0_init_15 : decode cX0_init 15 = .ok (.newarray .int, 2) := by decide +kernel
theorem dX0_init_17 : decode cX0_init 17 = .ok (.putfield 15, 3) := by decide +kernel
theorem dX0_init_20 : decode cX0_init 20 = .ok (.aload_n 0, 1) := by decide +kernel
theorem dX0_init_21 : decode cX0_init 21 = .ok (.bipush 8, 2) := by decide +kernel
theorem dX0_init_23 : decode cX0_init 23 = .ok (.newarray .int, 2) := by decide +kernel
theorem dX0_init_25 : decode cX0_init 25 = .ok (.putfield 18, 3) := by decide +kernel
theorem dX0_init_28 : decode cX0_init 28 = .ok (.return_, 1) := by decide +kernel
theorem dX0_firstLength_0 : decode cX0_firstLength 0 = .ok (.aload_n 0, 1) := by decide +kernel
theorem dX0_firstLength_1 : decode cX0_firstLength 1 = .ok (.getfield 21, 3) := by decide +kernel
theorem dX0_firstLength_4 : decode cX0_firstLength 4 = .ok (.ireturn, 1) := by decide +kernel
theorem dX0_secondLength_0 : decode cX0_secondLength 0 = .ok (.aload_n 0, 1) := by decide +kernel
theorem dX0_secondLength_1 : decode cX0_secondLength 1 = .ok (.getfield 25, 3) := by decide +kernel
theorem dX0_secondLength_4 : decode cX0_secondLength 4 = .ok (.ireturn, 1) := by decide +kernel
theorem dX0_joinedBits_0 : decode cX0_joinedBits 0 = .ok (.aload_n 0, 1) := by decide +kernel
theorem dX0_joinedBits_1 : decode cX0_joinedBits 1 = .ok (.getfield 18, 3) := by decide +kernel
theorem dX0_joinedBits_4 : decode cX0_joinedBits 4 = .ok (.iload_n 1, 1) := by decide +kernel
theorem dX0_joinedBits_5 : decode cX0_joinedBits 5 = .ok (.invokestatic 28, 3) := by decide +kernel
theorem dX0_joinedBits_8 : decode cX0_joinedBits 8 = .ok (.ireturn, 1) := by decide +kernel
theorem dX0_joinedOf_0 : decode cX0_joinedOf 0 = .ok (.aload_n 0, 1) := by decide +kernel
theorem dX0_joinedOf_1 : decode cX0_joinedOf 1 = .ok (.iload_n 1, 1) := by decide +kernel
theorem dX0_joinedOf_2 : decode cX0_joinedOf 2 = .ok (.invokevirtual 32, 3) := by decide +kernel
theorem dX0_joinedOf_5 : decode cX0_joinedOf 5 = .ok (.invokestatic 36, 3) := by decide +kernel
theorem dX0_joinedOf_8 : decode cX0_joinedOf 8 = .ok (.ireturn, 1) := by decide +kernel
theorem dX0_hasJoined_0 : decode cX0_hasJoined 0 = .ok (.aload_n 0, 1) := by decide +kernel
theorem dX0_hasJoined_1 : decode cX0_hasJoined 1 = .ok (.iload_n 1, 1) := by decide +kernel
theorem dX0_hasJoined_2 : decode cX0_hasJoined 2 = .ok (.invokevirtual 32, 3) := by decide +kernel
theorem dX0_hasJoined_5 : decode cX0_hasJoined 5 = .ok (.iload_n 2, 1) := by decide +kernel
theorem dX0_hasJoined_6 : decode cX0_hasJoined 6 = .ok (.invokestatic 41, 3) := by decide +kernel
theorem dX0_hasJoined_9 : decode cX0_hasJoined 9 = .ok (.iand, 1) := by decide +kernel
theorem dX0_hasJoined_10 : decode cX0_hasJoined 10 = .ok (.ifCond .eq 7, 3) := by decide +kernel
theorem dX0_hasJoined_13 : decode cX0_hasJoined 13 = .ok (.iconst 1, 1) := by decide +kernel
theorem dX0_hasJoined_14 : decode cX0_hasJoined 14 = .ok (.goto 4, 3) := by decide +kernel
theorem dX0_hasJoined_17 : decode cX0_hasJoined 17 = .ok (.iconst 0, 1) := by decide +kernel
theorem dX0_hasJoined_18 : decode cX0_hasJoined 18 = .ok (.ireturn, 1) := by decide +kernel
theorem dX0_align_0 : decode cX0_align 0 = .ok (.aload_n 0, 1) := by decide +kernel
theorem dX0_align_1 : decode cX0_align 1 = .ok (.aload_n 1, 1) := by decide +kernel
theorem dX0_align_2 : decode cX0_align 2 = .ok (.iconst 0, 1) := by decide +kernel
theorem dX0_align_3 : decode cX0_align 3 = .ok (.invokevirtual 44, 3) := by decide +kernel
theorem dX0_align_6 : decode cX0_align 6 = .ok (.invokevirtual 50, 3) := by decide +kernel
theorem dX0_align_9 : decode cX0_align 9 = .ok (.putfield 21, 3) := by decide +kernel
theorem dX0_align_12 : decode cX0_align 12 = .ok (.aload_n 0, 1) := by decide +kernel
theorem dX0_align_13 : decode cX0_align 13 = .ok (.aload_n 1, 1) := by decide +kernel
theorem dX0_align_14 : decode cX0_align 14 = .ok (.iconst 1, 1) := by decide +kernel
theorem dX0_align_15 : decode cX0_align 15 = .ok (.invokevirtual 44, 3) := by decide +kernel
theorem dX0_align_18 : decode cX0_align 18 = .ok (.invokevirtual 50, 3) := by decide +kernel
theorem dX0_align_21 : decode cX0_align 21 = .ok (.putfield 25, 3) := by decide +kernel
theorem dX0_align_24 : decode cX0_align 24 = .ok (.aload_n 0, 1) := by decide +kernel
theorem dX0_align_25 : decode cX0_align 25 = .ok (.aload_n 1, 1) := by decide +kernel
theorem dX0_align_26 : decode cX0_align 26 = .ok (.aload_n 2, 1) := by decide +kernel
theorem dX0_align_27 : decode cX0_align 27 = .ok (.invokevirtual 56, 3) := by decide +kernel
theorem dX0_align_30 : decode cX0_align 30 = .ok (.iconst 0, 1) := by decide +kernel
theorem dX0_align_31 : decode cX0_align 31 = .ok (.istore_n 3, 1) := by decide +kernel
theorem dX0_align_32 : decode cX0_align 32 = .ok (.iload_n 3, 1) := by decide +kernel
theorem dX0_align_33 : decode cX0_align 33 = .ok (.aload_n 0, 1) := by decide +kernel
theorem dX0_align_34 : decode cX0_align 34 = .ok (.getfield 18, 3) := by decide +kernel
theorem dX0_align_37 : decode cX0_align 37 = .ok (.arraylength, 1) := by decide +kernel
theorem dX0_align_38 : decode cX0_align 38 = .ok (.if_icmp .ge 23, 3) := by decide +kernel
theorem dX0_align_41 : decode cX0_align 41 = .ok (.aload_n 0, 1) := by decide +kernel
theorem dX0_align_42 : decode cX0_align 42 = .ok (.getfield 18, 3) := by decide +kernel
theorem dX0_align_45 : decode cX0_align 45 = .ok (.iload_n 3, 1) := by decide +kernel
theorem dX0_align_46 : decode cX0_align 46 = .ok (.aload_n 0, 1) := by decide +kernel
theorem dX0_align_47 : decode cX0_align 47 = .ok (.getfield 9, 3) := by decide +kernel
theorem dX0_align_50 : decode cX0_align 50 = .ok (.iload_n 3, 1) := by decide +kernel
theorem dX0_align_51 : decode cX0_align 51 = .ok (.invokestatic 28, 3) := by decide +kernel
theorem dX0_align_54 : decode cX0_align 54 = .ok (.iastore, 1) := by decide +kernel
theorem dX0_align_55 : decode cX0_align 55 = .ok (.iinc 3 1, 3) := by decide +kernel
theorem dX0_align_58 : decode cX0_align 58 = .ok (.goto (-26), 3) := by decide +kernel
theorem dX0_align_61 : decode cX0_align 61 = .ok (.iconst 1, 1) := by decide +kernel
theorem dX0_align_62 : decode cX0_align 62 = .ok (.istore_n 3, 1) := by decide +kernel
theorem dX0_align_63 : decode cX0_align 63 = .ok (.iconst 0, 1) := by decide +kernel
theorem dX0_align_64 : decode cX0_align 64 = .ok (.istore 4, 2) := by decide +kernel
theorem dX0_align_66 : decode cX0_align 66 = .ok (.iload_n 3, 1) := by decide +kernel
theorem dX0_align_67 : decode cX0_align 67 = .ok (.ifCond .eq 21, 3) := by decide +kernel
theorem dX0_align_70 : decode cX0_align 70 = .ok (.iload 4, 2) := by decide +kernel
theorem dX0_align_72 : decode cX0_align 72 = .ok (.bipush 64, 2) := by decide +kernel
theorem dX0_align_74 : decode cX0_align 74 = .ok (.if_icmp .gt 14, 3) := by decide +kernel
theorem dX0_align_77 : decode cX0_align 77 = .ok (.aload_n 0, 1) := by decide +kernel
theorem dX0_align_78 : decode cX0_align 78 = .ok (.invokevirtual 60, 3) := by decide +kernel
theorem dX0_align_81 : decode cX0_align 81 = .ok (.istore_n 3, 1) := by decide +kernel
theorem dX0_align_82 : decode cX0_align 82 = .ok (.iinc 4 1, 3) := by decide +kernel
theorem dX0_align_85 : decode cX0_align 85 = .ok (.goto (-19), 3) := by decide +kernel
theorem dX0_align_88 : decode cX0_align 88 = .ok (.return_, 1) := by decide +kernel
theorem dX0_takeLinks_0 : decode cX0_takeLinks 0 = .ok (.aload_n 0, 1) := by decide +kernel
theorem dX0_takeLinks_1 : decode cX0_takeLinks 1 = .ok (.getfield 9, 3) := by decide +kernel
theorem dX0_takeLinks_4 : decode cX0_takeLinks 4 = .ok (.iconst 0, 1) := by decide +kernel
theorem dX0_takeLinks_5 : decode cX0_takeLinks 5 = .ok (.invokestatic 64, 3) := by decide +kernel
theorem dX0_takeLinks_8 : decode cX0_takeLinks 8 = .ok (.aload_n 0, 1) := by decide +kernel
theorem dX0_takeLinks_9 : decode cX0_takeLinks 9 = .ok (.getfield 15, 3) := by decide +kernel
theorem dX0_takeLinks_12 : decode cX0_takeLinks 12 = .ok (.iconst 0, 1) := by decide +kernel
theorem dX0_takeLinks_13 : decode cX0_takeLinks 13 = .ok (.invokestatic 64, 3) := by decide +kernel
theorem dX0_takeLinks_16 : decode cX0_takeLinks 16 = .ok (.iconst 0, 1) := by decide +kernel
theorem dX0_takeLinks_17 : decode cX0_takeLinks 17 = .ok (.istore_n 3, 1) := by decide +kernel
theorem dX0_takeLinks_18 : decode cX0_takeLinks 18 = .ok (.iload_n 3, 1) := by decide +kernel
theorem dX0_takeLinks_19 : decode cX0_takeLinks 19 = .ok (.aload_n 0, 1) := by decide +kernel
theorem dX0_takeLinks_20 : decode cX0_takeLinks 20 = .ok (.getfield 25, 3) := by decide +kernel
theorem dX0_takeLinks_23 : decode cX0_takeLinks 23 = .ok (.if_icmp .ge 21, 3) := by decide +kernel
theorem dX0_takeLinks_26 : decode cX0_takeLinks 26 = .ok (.aload_n 0, 1) := by decide +kernel
theorem dX0_takeLinks_27 : decode cX0_takeLinks 27 = .ok (.aload_n 2, 1) := by decide +kernel
theorem dX0_takeLinks_28 : decode cX0_takeLinks 28 = .ok (.iconst 0, 1) := by decide +kernel
theorem dX0_takeLinks_29 : decode cX0_takeLinks 29 = .ok (.aload_n 1, 1) := by decide +kernel
theorem dX0_takeLinks_30 : decode cX0_takeLinks 30 = .ok (.iload_n 3, 1) := by decide +kernel
theorem dX0_takeLinks_31 : decode cX0_takeLinks 31 = .ok (.invokevirtual 70, 3) := by decide +kernel
theorem dX0_takeLinks_34 : decode cX0_takeLinks 34 = .ok (.iload_n 3, 1) := by decide +kernel
theorem dX0_takeLinks_35 : decode cX0_takeLinks 35 = .ok (.invokevirtual 76, 3) := by decide +kernel
theorem dX0_takeLinks_38 : decode cX0_takeLinks 38 = .ok (.iinc 3 1, 3) := by decide +kernel
theorem dX0_takeLinks_41 : decode cX0_takeLinks 41 = .ok (.goto (-23), 3) := by decide +kernel
theorem dX0_takeLinks_44 : decode cX0_takeLinks 44 = .ok (.iconst 0, 1) := by decide +kernel
theorem dX0_takeLinks_45 : decode cX0_takeLinks 45 = .ok (.istore_n 3, 1) := by decide +kernel
theorem dX0_takeLinks_46 : decode cX0_takeLinks 46 = .ok (.iload_n 3, 1) := by decide +kernel
theorem dX0_takeLinks_47 : decode cX0_takeLinks 47 = .ok (.aload_n 0, 1) := by decide +kernel
theorem dX0_takeLinks_48 : decode cX0_takeLinks 48 = .ok (.getfield 21, 3) := by decide +kernel
theorem dX0_takeLinks_51 : decode cX0_takeLinks 51 = .ok (.if_icmp .ge 21, 3) := by decide +kernel
theorem dX0_takeLinks_54 : decode cX0_takeLinks 54 = .ok (.aload_n 0, 1) := by decide +kernel
theorem dX0_takeLinks_55 : decode cX0_takeLinks 55 = .ok (.iload_n 3, 1) := by decide +kernel
theorem dX0_takeLinks_56 : decode cX0_takeLinks 56 = .ok (.aload_n 2, 1) := by decide +kernel
theorem dX0_takeLinks_57 : decode cX0_takeLinks 57 = .ok (.iconst 1, 1) := by decide +kernel
theorem dX0_takeLinks_58 : decode cX0_takeLinks 58 = .ok (.aload_n 1, 1) := by decide +kernel
theorem dX0_takeLinks_59 : decode cX0_takeLinks 59 = .ok (.iload_n 3, 1) := by decide +kernel
theorem dX0_takeLinks_60 : decode cX0_takeLinks 60 = .ok (.invokevirtual 70, 3) := by decide +kernel
theorem dX0_takeLinks_63 : decode cX0_takeLinks 63 = .ok (.invokevirtual 76, 3) := by decide +kernel
theorem dX0_takeLinks_66 : decode cX0_takeLinks 66 = .ok (.iinc 3 1, 3) := by decide +kernel
theorem dX0_takeLinks_69 : decode cX0_takeLinks 69 = .ok (.goto (-23), 3) := by decide +kernel
theorem dX0_takeLinks_72 : decode cX0_takeLinks 72 = .ok (.return_, 1) := by decide +kernel
theorem dX0_takeLink_0 : decode cX0_takeLink 0 = .ok (.iload_n 1, 1) := by decide +kernel
theorem dX0_takeLink_1 : decode cX0_takeLink 1 = .ok (.ifCond .lt 54, 3) := by decide +kernel
theorem dX0_takeLink_4 : decode cX0_takeLink 4 = .ok (.iload_n 1, 1) := by decide +kernel
theorem dX0_takeLink_5 : decode cX0_takeLink 5 = .ok (.aload_n 0, 1) := by decide +kernel
theorem dX0_takeLink_6 : decode cX0_takeLink 6 = .ok (.getfield 9, 3) := by decide +kernel
theorem dX0_takeLink_9 : decode cX0_takeLink 9 = .ok (.arraylength, 1) := by decide +kernel
theorem dX0_takeLink_10 : decode cX0_takeLink 10 = .ok (.if_icmp .ge 45, 3) := by decide +kernel
theorem dX0_takeLink_13 : decode cX0_takeLink 13 = .ok (.iload_n 1, 1) := by decide +kernel
theorem dX0_takeLink_14 : decode cX0_takeLink 14 = .ok (.aload_n 0, 1) := by decide +kernel
theorem dX0_takeLink_15 : decode cX0_takeLink 15 = .ok (.getfield 15, 3) := by decide +kernel
theorem dX0_takeLink_18 : decode cX0_takeLink 18 = .ok (.arraylength, 1) := by decide +kernel
theorem dX0_takeLink_19 : decode cX0_takeLink 19 = .ok (.if_icmp .ge 36, 3) := by decide +kernel
theorem dX0_takeLink_22 : decode cX0_takeLink 22 = .ok (.aload_n 0, 1) := by decide +kernel
theorem dX0_takeLink_23 : decode cX0_takeLink 23 = .ok (.getfield 9, 3) := by decide +kernel
theorem dX0_takeLink_26 : decode cX0_takeLink 26 = .ok (.iload_n 1, 1) := by decide +kernel
theorem dX0_takeLink_27 : decode cX0_takeLink 27 = .ok (.dup2, 1) := by decide +kernel
theorem dX0_takeLink_28 : decode cX0_takeLink 28 = .ok (.iaload, 1) := by decide +kernel
theorem dX0_takeLink_29 : decode cX0_takeLink 29 = .ok (.aload_n 0, 1) := by decide +kernel
theorem dX0_takeLink_30 : decode cX0_takeLink 30 = .ok (.getfield 15, 3) := by decide +kernel
theorem dX0_takeLink_33 : decode cX0_takeLink 33 = .ok (.iload_n 1, 1) := by decide +kernel
theorem dX0_takeLink_34 : decode cX0_takeLink 34 = .ok (.iaload, 1) := by decide +kernel
theorem dX0_takeLink_35 : decode cX0_takeLink 35 = .ok (.iload_n 2, 1) := by decide +kernel
theorem dX0_takeLink_36 : decode cX0_takeLink 36 = .ok (.invokestatic 41, 3) := by decide +kernel
theorem dX0_takeLink_39 : decode cX0_takeLink 39 = .ok (.iand, 1) := by decide +kernel
theorem dX0_takeLink_40 : decode cX0_takeLink 40 = .ok (.ior, 1) := by decide +kernel
theorem dX0_takeLink_41 : decode cX0_takeLink 41 = .ok (.iastore, 1) := by decide +kernel
theorem dX0_takeLink_42 : decode cX0_takeLink 42 = .ok (.aload_n 0, 1) := by decide +kernel
theorem dX0_takeLink_43 : decode cX0_takeLink 43 = .ok (.getfield 15, 3) := by decide +kernel
theorem dX0_takeLink_46 : decode cX0_takeLink 46 = .ok (.iload_n 1, 1) := by decide +kernel
theorem dX0_takeLink_47 : decode cX0_takeLink 47 = .ok (.dup2, 1) := by decide +kernel
theorem dX0_takeLink_48 : decode cX0_takeLink 48 = .ok (.iaload, 1) := by decide +kernel
theorem dX0_takeLink_49 : decode cX0_takeLink 49 = .ok (.iload_n 2, 1) := by decide +kernel
theorem dX0_takeLink_50 : decode cX0_takeLink 50 = .ok (.invokestatic 41, 3) := by decide +kernel
theorem dX0_takeLink_53 : decode cX0_takeLink 53 = .ok (.ior, 1) := by decide +kernel
theorem dX0_takeLink_54 : decode cX0_takeLink 54 = .ok (.iastore, 1) := by decide +kernel
theorem dX0_takeLink_55 : decode cX0_takeLink 55 = .ok (.return_, 1) := by decide +kernel
theorem dX0_growOnce_0 : decode cX0_growOnce 0 = .ok (.iconst 0, 1) := by decide +kernel
theorem dX0_growOnce_1 : decode cX0_growOnce 1 = .ok (.istore_n 1, 1) := by decide +kernel
theorem dX0_growOnce_2 : decode cX0_growOnce 2 = .ok (.iconst 0, 1) := by decide +kernel
theorem dX0_growOnce_3 : decode cX0_growOnce 3 = .ok (.istore_n 2, 1) := by decide +kernel
theorem dX0_growOnce_4 : decode cX0_growOnce 4 = .ok (.iload_n 2, 1) := by decide +kernel
theorem dX0_growOnce_5 : decode cX0_growOnce 5 = .ok (.aload_n 0, 1) := by decide +kernel
theorem dX0_growOnce_6 : decode cX0_growOnce 6 = .ok (.getfield 21, 3) := by decide +kernel
theorem dX0_growOnce_9 : decode cX0_growOnce 9 = .ok (.if_icmp .ge 42, 3) := by decide +kernel
theorem dX0_growOnce_12 : decode cX0_growOnce 12 = .ok (.iconst 0, 1) := by decide +kernel
theorem dX0_growOnce_13 : decode cX0_growOnce 13 = .ok (.istore_n 3, 1) := by decide +kernel
theorem dX0_growOnce_14 : decode cX0_growOnce 14 = .ok (.iload_n 3, 1) := by decide +kernel
theorem dX0_growOnce_15 : decode cX0_growOnce 15 = .ok (.aload_n 0, 1) := by decide +kernel
theorem dX0_growOnce_16 : decode cX0_growOnce 16 = .ok (.getfield 25, 3) := by decide +kernel
theorem dX0_growOnce_19 : decode cX0_growOnce 19 = .ok (.if_icmp .ge 26, 3) := by decide +kernel
theorem dX0_growOnce_22 : decode cX0_growOnce 22 = .ok (.aload_n 0, 1) := by decide +kernel
theorem dX0_growOnce_23 : decode cX0_growOnce 23 = .ok (.iload_n 2, 1) := by decide +kernel
theorem dX0_growOnce_24 : decode cX0_growOnce 24 = .ok (.iload_n 3, 1) := by decide +kernel
theorem dX0_growOnce_25 : decode cX0_growOnce 25 = .ok (.invokevirtual 80, 3) := by decide +kernel
theorem dX0_growOnce_28 : decode cX0_growOnce 28 = .ok (.ifCond .eq 11, 3) := by decide +kernel
theorem dX0_growOnce_31 : decode cX0_growOnce 31 = .ok (.aload_n 0, 1) := by decide +kernel
theorem dX0_growOnce_32 : decode cX0_growOnce 32 = .ok (.iload_n 2, 1) := by decide +kernel
theorem dX0_growOnce_33 : decode cX0_growOnce 33 = .ok (.iload_n 3, 1) := by decide +kernel
theorem dX0_growOnce_34 : decode cX0_growOnce 34 = .ok (.invokevirtual 84, 3) := by decide +kernel
theorem dX0_growOnce_37 : decode cX0_growOnce 37 = .ok (.iconst 1, 1) := by decide +kernel
theorem dX0_growOnce_38 : decode cX0_growOnce 38 = .ok (.istore_n 1, 1) := by decide +kernel
theorem dX0_growOnce_39 : decode cX0_growOnce 39 = .ok (.iinc 3 1, 3) := by decide +kernel
theorem dX0_growOnce_42 : decode cX0_growOnce 42 = .ok (.goto (-28), 3) := by decide +kernel
theorem dX0_growOnce_45 : decode cX0_growOnce 45 = .ok (.iinc 2 1, 3) := by decide +kernel
theorem dX0_growOnce_48 : decode cX0_growOnce 48 = .ok (.goto (-44), 3) := by decide +kernel
theorem dX0_growOnce_51 : decode cX0_growOnce 51 = .ok (.iload_n 1, 1) := by decide +kernel
theorem dX0_growOnce_52 : decode cX0_growOnce 52 = .ok (.ireturn, 1) := by decide +kernel
theorem dX0_isToJoin_0 : decode cX0_isToJoin 0 = .ok (.aload_n 0, 1) := by decide +kernel
theorem dX0_isToJoin_1 : decode cX0_isToJoin 1 = .ok (.getfield 15, 3) := by decide +kernel
theorem dX0_isToJoin_4 : decode cX0_isToJoin 4 = .ok (.iload_n 1, 1) := by decide +kernel
theorem dX0_isToJoin_5 : decode cX0_isToJoin 5 = .ok (.invokestatic 28, 3) := by decide +kernel
theorem dX0_isToJoin_8 : decode cX0_isToJoin 8 = .ok (.iload_n 2, 1) := by decide +kernel
theorem dX0_isToJoin_9 : decode cX0_isToJoin 9 = .ok (.invokestatic 41, 3) := by decide +kernel
theorem dX0_isToJoin_12 : decode cX0_isToJoin 12 = .ok (.iand, 1) := by decide +kernel
theorem dX0_isToJoin_13 : decode cX0_isToJoin 13 = .ok (.ifCond .eq 7, 3) := by decide +kernel
theorem dX0_isToJoin_16 : decode cX0_isToJoin 16 = .ok (.iconst 1, 1) := by decide +kernel
theorem dX0_isToJoin_17 : decode cX0_isToJoin 17 = .ok (.goto 4, 3) := by decide +kernel
theorem dX0_isToJoin_20 : decode cX0_isToJoin 20 = .ok (.iconst 0, 1) := by decide +kernel
theorem dX0_isToJoin_21 : decode cX0_isToJoin 21 = .ok (.istore_n 3, 1) := by decide +kernel
theorem dX0_isToJoin_22 : decode cX0_isToJoin 22 = .ok (.iload_n 3, 1) := by decide +kernel
theorem dX0_isToJoin_23 : decode cX0_isToJoin 23 = .ok (.ifCond .eq 41, 3) := by decide +kernel
theorem dX0_isToJoin_26 : decode cX0_isToJoin 26 = .ok (.aload_n 0, 1) := by decide +kernel
theorem dX0_isToJoin_27 : decode cX0_isToJoin 27 = .ok (.iload_n 1, 1) := by decide +kernel
theorem dX0_isToJoin_28 : decode cX0_isToJoin 28 = .ok (.iload_n 2, 1) := by decide +kernel
theorem dX0_isToJoin_29 : decode cX0_isToJoin 29 = .ok (.invokevirtual 87, 3) := by decide +kernel
theorem dX0_isToJoin_32 : decode cX0_isToJoin 32 = .ok (.ifCond .ne 32, 3) := by decide +kernel
theorem dX0_isToJoin_35 : decode cX0_isToJoin 35 = .ok (.aload_n 0, 1) := by decide +kernel
theorem dX0_isToJoin_36 : decode cX0_isToJoin 36 = .ok (.iload_n 1, 1) := by decide +kernel
theorem dX0_isToJoin_37 : decode cX0_isToJoin 37 = .ok (.invokevirtual 32, 3) := by decide +kernel
theorem dX0_isToJoin_40 : decode cX0_isToJoin 40 = .ok (.ifCond .eq 11, 3) := by decide +kernel
theorem dX0_isToJoin_43 : decode cX0_isToJoin 43 = .ok (.aload_n 0, 1) := by decide +kernel
theorem dX0_isToJoin_44 : decode cX0_isToJoin 44 = .ok (.iload_n 2, 1) := by decide +kernel
theorem dX0_isToJoin_45 : decode cX0_isToJoin 45 = .ok (.invokevirtual 90, 3) := by decide +kernel
theorem dX0_isToJoin_48 : decode cX0_isToJoin 48 = .ok (.ifCond .eq 16, 3) := by decide +kernel
theorem dX0_isToJoin_51 : decode cX0_isToJoin 51 = .ok (.aload_n 0, 1) := by decide +kernel
theorem dX0_isToJoin_52 : decode cX0_isToJoin 52 = .ok (.iload_n 1, 1) := by decide +kernel
theorem dX0_isToJoin_53 : decode cX0_isToJoin 53 = .ok (.iload_n 2, 1) := by decide +kernel
theorem dX0_isToJoin_54 : decode cX0_isToJoin 54 = .ok (.invokevirtual 94, 3) := by decide +kernel
theorem dX0_isToJoin_57 : decode cX0_isToJoin 57 = .ok (.ifCond .eq 7, 3) := by decide +kernel
theorem dX0_isToJoin_60 : decode cX0_isToJoin 60 = .ok (.iconst 1, 1) := by decide +kernel
theorem dX0_isToJoin_61 : decode cX0_isToJoin 61 = .ok (.goto 4, 3) := by decide +kernel
theorem dX0_isToJoin_64 : decode cX0_isToJoin 64 = .ok (.iconst 0, 1) := by decide +kernel
theorem dX0_isToJoin_65 : decode cX0_isToJoin 65 = .ok (.ireturn, 1) := by decide +kernel
theorem dX0_isFree_0 : decode cX0_isFree 0 = .ok (.iconst 0, 1) := by decide +kernel
theorem dX0_isFree_1 : decode cX0_isFree 1 = .ok (.istore_n 2, 1) := by decide +kernel
theorem dX0_isFree_2 : decode cX0_isFree 2 = .ok (.iconst 0, 1) := by decide +kernel
theorem dX0_isFree_3 : decode cX0_isFree 3 = .ok (.istore_n 3, 1) := by decide +kernel
theorem dX0_isFree_4 : decode cX0_isFree 4 = .ok (.iload_n 3, 1) := by decide +kernel
theorem dX0_isFree_5 : decode cX0_isFree 5 = .ok (.aload_n 0, 1) := by decide +kernel
theorem dX0_isFree_6 : decode cX0_isFree 6 = .ok (.getfield 21, 3) := by decide +kernel
theorem dX0_isFree_9 : decode cX0_isFree 9 = .ok (.if_icmp .ge 17, 3) := by decide +kernel
theorem dX0_isFree_12 : decode cX0_isFree 12 = .ok (.iload_n 2, 1) := by decide +kernel
theorem dX0_isFree_13 : decode cX0_isFree 13 = .ok (.aload_n 0, 1) := by decide +kernel
theorem dX0_isFree_14 : decode cX0_isFree 14 = .ok (.iload_n 3, 1) := by decide +kernel
theorem dX0_isFree_15 : decode cX0_isFree 15 = .ok (.invokevirtual 32, 3) := by decide +kernel
theorem dX0_isFree_18 : decode cX0_isFree 18 = .ok (.ior, 1) := by decide +kernel
theorem dX0_isFree_19 : decode cX0_isFree 19 = .ok (.istore_n 2, 1) := by decide +kernel
theorem dX0_isFree_20 : decode cX0_isFree 20 = .ok (.iinc 3 1, 3) := by decide +kernel
theorem dX0_isFree_23 : decode cX0_isFree 23 = .ok (.goto (-19), 3) := by decide +kernel
theorem dX0_isFree_26 : decode cX0_isFree 26 = .ok (.iload_n 2, 1) := by decide +kernel
theorem dX0_isFree_27 : decode cX0_isFree 27 = .ok (.iload_n 1, 1) := by decide +kernel
theorem dX0_isFree_28 : decode cX0_isFree 28 = .ok (.invokestatic 41, 3) := by decide +kernel
theorem dX0_isFree_31 : decode cX0_isFree 31 = .ok (.iand, 1) := by decide +kernel
theorem dX0_isFree_32 : decode cX0_isFree 32 = .ok (.ifCond .ne 7, 3) := by decide +kernel
theorem dX0_isFree_35 : decode cX0_isFree 35 = .ok (.iconst 1, 1) := by decide +kernel
theorem dX0_isFree_36 : decode cX0_isFree 36 = .ok (.goto 4, 3) := by decide +kernel
theorem dX0_isFree_39 : decode cX0_isFree 39 = .ok (.iconst 0, 1) := by decide +kernel
theorem dX0_isFree_40 : decode cX0_isFree 40 = .ok (.ireturn, 1) := by decide +kernel
theorem dX0_isBesideJoined_0 : decode cX0_isBesideJoined 0 = .ok (.iload_n 2, 1) := by decide +kernel
theorem dX0_isBesideJoined_1 : decode cX0_isBesideJoined 1 = .ok (.iconst 1, 1) := by decide +kernel
theorem dX0_isBesideJoined_2 : decode cX0_isBesideJoined 2 = .ok (.isub, 1) := by decide +kernel
theorem dX0_isBesideJoined_3 : decode cX0_isBesideJoined 3 = .ok (.invokestatic 41, 3) := by decide +kernel
theorem dX0_isBesideJoined_6 : decode cX0_isBesideJoined 6 = .ok (.iload_n 2, 1) := by decide +kernel
theorem dX0_isBesideJoined_7 : decode cX0_isBesideJoined 7 = .ok (.invokestatic 41, 3) := by decide +kernel
theorem dX0_isBesideJoined_10 : decode cX0_isBesideJoined 10 = .ok (.ior, 1) := by decide +kernel
theorem dX0_isBesideJoined_11 : decode cX0_isBesideJoined 11 = .ok (.iload_n 2, 1) := by decide +kernel
theorem dX0_isBesideJoined_12 : decode cX0_isBesideJoined 12 = .ok (.iconst 1, 1) := by decide +kernel
theorem dX0_isBesideJoined_13 : decode cX0_isBesideJoined 13 = .ok (.iadd, 1) := by decide +kernel
theorem dX0_isBesideJoined_14 : decode cX0_isBesideJoined 14 = .ok (.invokestatic 41, 3) := by decide +kernel
theorem dX0_isBesideJoined_17 : decode cX0_isBesideJoined 17 = .ok (.ior, 1) := by decide +kernel
theorem dX0_isBesideJoined_18 : decode cX0_isBesideJoined 18 = .ok (.istore_n 3, 1) := by decide +kernel
theorem dX0_isBesideJoined_19 : decode cX0_isBesideJoined 19 = .ok (.aload_n 0, 1) := by decide +kernel
theorem dX0_isBesideJoined_20 : decode cX0_isBesideJoined 20 = .ok (.iload_n 1, 1) := by decide +kernel
theorem dX0_isBesideJoined_21 : decode cX0_isBesideJoined 21 = .ok (.iconst 1, 1) := by decide +kernel
theorem dX0_isBesideJoined_22 : decode cX0_isBesideJoined 22 = .ok (.isub, 1) := by decide +kernel
theorem dX0_isBesideJoined_23 : decode cX0_isBesideJoined 23 = .ok (.invokevirtual 32, 3) := by decide +kernel
theorem dX0_isBesideJoined_26 : decode cX0_isBesideJoined 26 = .ok (.aload_n 0, 1) := by decide +kernel
theorem dX0_isBesideJoined_27 : decode cX0_isBesideJoined 27 = .ok (.iload_n 1, 1) := by decide +kernel
theorem dX0_isBesideJoined_28 : decode cX0_isBesideJoined 28 = .ok (.invokevirtual 32, 3) := by decide +kernel
theorem dX0_isBesideJoined_31 : decode cX0_isBesideJoined 31 = .ok (.ior, 1) := by decide +kernel
theorem dX0_isBesideJoined_32 : decode cX0_isBesideJoined 32 = .ok (.aload_n 0, 1) := by decide +kernel
theorem dX0_isBesideJoined_33 : decode cX0_isBesideJoined 33 = .ok (.iload_n 1, 1) := by decide +kernel
theorem dX0_isBesideJoined_34 : decode cX0_isBesideJoined 34 = .ok (.iconst 1, 1) := by decide +kernel
theorem dX0_isBesideJoined_35 : decode cX0_isBesideJoined 35 = .ok (.iadd, 1) := by decide +kernel
theorem dX0_isBesideJoined_36 : decode cX0_isBesideJoined 36 = .ok (.invokevirtual 32, 3) := by decide +kernel
theorem dX0_isBesideJoined_39 : decode cX0_isBesideJoined 39 = .ok (.ior, 1) := by decide +kernel
theorem dX0_isBesideJoined_40 : decode cX0_isBesideJoined 40 = .ok (.istore 4, 2) := by decide +kernel
theorem dX0_isBesideJoined_42 : decode cX0_isBesideJoined 42 = .ok (.iload 4, 2) := by decide +kernel
theorem dX0_isBesideJoined_44 : decode cX0_isBesideJoined 44 = .ok (.iload_n 3, 1) := by decide +kernel
theorem dX0_isBesideJoined_45 : decode cX0_isBesideJoined 45 = .ok (.iand, 1) := by decide +kernel
theorem dX0_isBesideJoined_46 : decode cX0_isBesideJoined 46 = .ok (.ifCond .eq 7, 3) := by decide +kernel
theorem dX0_isBesideJoined_49 : decode cX0_isBesideJoined 49 = .ok (.iconst 1, 1) := by decide +kernel
theorem dX0_isBesideJoined_50 : decode cX0_isBesideJoined 50 = .ok (.goto 4, 3) := by decide +kernel
theorem dX0_isBesideJoined_53 : decode cX0_isBesideJoined 53 = .ok (.iconst 0, 1) := by decide +kernel
theorem dX0_isBesideJoined_54 : decode cX0_isBesideJoined 54 = .ok (.ireturn, 1) := by decide +kernel
theorem dX0_join_0 : decode cX0_join 0 = .ok (.iload_n 1, 1) := by decide +kernel
theorem dX0_join_1 : decode cX0_join 1 = .ok (.ifCond .lt 25, 3) := by decide +kernel
theorem dX0_join_4 : decode cX0_join 4 = .ok (.iload_n 1, 1) := by decide +kernel
theorem dX0_join_5 : decode cX0_join 5 = .ok (.aload_n 0, 1) := by decide +kernel
theorem dX0_join_6 : decode cX0_join 6 = .ok (.getfield 18, 3) := by decide +kernel
theorem dX0_join_9 : decode cX0_join 9 = .ok (.arraylength, 1) := by decide +kernel
theorem dX0_join_10 : decode cX0_join 10 = .ok (.if_icmp .ge 16, 3) := by decide +kernel
theorem dX0_join_13 : decode cX0_join 13 = .ok (.aload_n 0, 1) := by decide +kernel
theorem dX0_join_14 : decode cX0_join 14 = .ok (.getfield 18, 3) := by decide +kernel
theorem dX0_join_17 : decode cX0_join 17 = .ok (.iload_n 1, 1) := by decide +kernel
theorem dX0_join_18 : decode cX0_join 18 = .ok (.dup2, 1) := by decide +kernel
theorem dX0_join_19 : decode cX0_join 19 = .ok (.iaload, 1) := by decide +kernel
theorem dX0_join_20 : decode cX0_join 20 = .ok (.iload_n 2, 1) := by decide +kernel
theorem dX0_join_21 : decode cX0_join 21 = .ok (.invokestatic 41, 3) := by decide +kernel
theorem dX0_join_24 : decode cX0_join 24 = .ok (.ior, 1) := by decide +kernel
theorem dX0_join_25 : decode cX0_join 25 = .ok (.iastore, 1) := by decide +kernel
theorem dX0_join_26 : decode cX0_join 26 = .ok (.return_, 1) := by decide +kernel
theorem dX0_bitOf_0 : decode cX0_bitOf 0 = .ok (.iload_n 0, 1) := by decide +kernel
theorem dX0_bitOf_1 : decode cX0_bitOf 1 = .ok (.ifCond .lt 15, 3) := by decide +kernel
theorem dX0_bitOf_4 : decode cX0_bitOf 4 = .ok (.iload_n 0, 1) := by decide +kernel
theorem dX0_bitOf_5 : decode cX0_bitOf 5 = .ok (.bipush 8, 2) := by decide +kernel
theorem dX0_bitOf_7 : decode cX0_bitOf 7 = .ok (.if_icmp .ge 9, 3) := by decide +kernel
theorem dX0_bitOf_10 : decode cX0_bitOf 10 = .ok (.iconst 1, 1) := by decide +kernel
theorem dX0_bitOf_11 : decode cX0_bitOf 11 = .ok (.iload_n 0, 1) := by decide +kernel
theorem dX0_bitOf_12 : decode cX0_bitOf 12 = .ok (.ishl, 1) := by decide +kernel
theorem dX0_bitOf_13 : decode cX0_bitOf 13 = .ok (.goto 4, 3) := by decide +kernel
theorem dX0_bitOf_16 : decode cX0_bitOf 16 = .ok (.iconst 0, 1) := by decide +kernel
theorem dX0_bitOf_17 : decode cX0_bitOf 17 = .ok (.ireturn, 1) := by decide +kernel
theorem dX0_bitsAt_0 : decode cX0_bitsAt 0 = .ok (.aload_n 0, 1) := by decide +kernel
theorem dX0_bitsAt_1 : decode cX0_bitsAt 1 = .ok (.ifnull 19, 3) := by decide +kernel
theorem dX0_bitsAt_4 : decode cX0_bitsAt 4 = .ok (.iload_n 1, 1) := by decide +kernel
theorem dX0_bitsAt_5 : decode cX0_bitsAt 5 = .ok (.ifCond .lt 15, 3) := by decide +kernel
theorem dX0_bitsAt_8 : decode cX0_bitsAt 8 = .ok (.iload_n 1, 1) := by decide +kernel
theorem dX0_bitsAt_9 : decode cX0_bitsAt 9 = .ok (.aload_n 0, 1) := by decide +kernel
theorem dX0_bitsAt_10 : decode cX0_bitsAt 10 = .ok (.arraylength, 1) := by decide +kernel
theorem dX0_bitsAt_11 : decode cX0_bitsAt 11 = .ok (.if_icmp .ge 9, 3) := by decide +kernel
theorem dX0_bitsAt_14 : decode cX0_bitsAt 14 = .ok (.aload_n 0, 1) := by decide +kernel
theorem dX0_bitsAt_15 : decode cX0_bitsAt 15 = .ok (.iload_n 1, 1) := by decide +kernel
theorem dX0_bitsAt_16 : decode cX0_bitsAt 16 = .ok (.iaload, 1) := by decide +kernel
theorem dX0_bitsAt_17 : decode cX0_bitsAt 17 = .ok (.goto 4, 3) := by decide +kernel
theorem dX0_bitsAt_20 : decode cX0_bitsAt 20 = .ok (.iconst 0, 1) := by decide +kernel
theorem dX0_bitsAt_21 : decode cX0_bitsAt 21 = .ok (.ireturn, 1) := by decide +kernel
theorem dX1_init_0 : decode cX1_init 0 = .ok (.aload_n 0, 1) := by decide +kernel
theorem dX1_init_1 : decode cX1_init 1 = .ok (.invokespecial 3, 3) := by decide +kernel
theorem dX1_init_4 : decode cX1_init 4 = .ok (.aload_n 0, 1) := by decide +kernel
theorem dX1_init_5 : decode cX1_init 5 = .ok (.bipush 20, 2) := by decide +kernel
theorem dX1_init_7 : decode cX1_init 7 = .ok (.anewarray 9, 3) := by decide +kernel
theorem dX1_init_10 : decode cX1_init 10 = .ok (.putfield 11, 3) := by decide +kernel
theorem dX1_init_13 : decode cX1_init 13 = .ok (.return_, 1) := by decide +kernel
theorem dX1_made_0 : decode cX1_made 0 = .ok (.aload_n 0, 1) := by decide +kernel
theorem dX1_made_1 : decode cX1_made 1 = .ok (.getfield 17, 3) := by decide +kernel
theorem dX1_made_4 : decode cX1_made 4 = .ok (.ireturn, 1) := by decide +kernel
theorem dX1_size_0 : decode cX1_size 0 = .ok (.aload_n 0, 1) := by decide +kernel
theorem dX1_size_1 : decode cX1_size 1 = .ok (.getfield 21, 3) := by decide +kernel
theorem dX1_size_4 : decode cX1_size 4 = .ok (.ireturn, 1) := by decide +kernel
theorem dX1_isFull_0 : decode cX1_isFull 0 = .ok (.aload_n 0, 1) := by decide +kernel
theorem dX1_isFull_1 : decode cX1_isFull 1 = .ok (.getfield 17, 3) := by decide +kernel
theorem dX1_isFull_4 : decode cX1_isFull 4 = .ok (.bipush 20, 2) := by decide +kernel
theorem dX1_isFull_6 : decode cX1_isFull 6 = .ok (.if_icmp .lt 7, 3) := by decide +kernel
theorem dX1_isFull_9 : decode cX1_isFull 9 = .ok (.iconst 1, 1) := by decide +kernel
theorem dX1_isFull_10 : decode cX1_isFull 10 = .ok (.goto 4, 3) := by decide +kernel
theorem dX1_isFull_13 : decode cX1_isFull 13 = .ok (.iconst 0, 1) := by decide +kernel
theorem dX1_isFull_14 : decode cX1_isFull 14 = .ok (.ireturn, 1) := by decide +kernel
theorem dX1_add_0 : decode cX1_add 0 = .ok (.aload_n 1, 1) := by decide +kernel
theorem dX1_add_1 : decode cX1_add 1 = .ok (.ifnull 22, 3) := by decide +kernel
theorem dX1_add_4 : decode cX1_add 4 = .ok (.aload_n 0, 1) := by decide +kernel
theorem dX1_add_5 : decode cX1_add 5 = .ok (.getfield 17, 3) := by decide +kernel
theorem dX1_add_8 : decode cX1_add 8 = .ok (.ifCond .lt 15, 3) := by decide +kernel
theorem dX1_add_11 : decode cX1_add 11 = .ok (.aload_n 0, 1) := by decide +kernel
theorem dX1_add_12 : decode cX1_add 12 = .ok (.getfield 17, 3) := by decide +kernel
theorem dX1_add_15 : decode cX1_add 15 = .ok (.aload_n 0, 1) := by decide +kernel
theorem dX1_add_16 : decode cX1_add 16 = .ok (.getfield 11, 3) := by decide +kernel
theorem dX1_add_19 : decode cX1_add 19 = .ok (.arraylength, 1) := by decide +kernel
theorem dX1_add_20 : decode cX1_add 20 = .ok (.if_icmp .lt 5, 3) := by decide +kernel
theorem dX1_add_23 : decode cX1_add 23 = .ok (.iconst (-1), 1) := by decide +kernel
theorem dX1_add_24 : decode cX1_add 24 = .ok (.ireturn, 1) := by decide +kernel
theorem dX1_add_25 : decode cX1_add 25 = .ok (.aload_n 0, 1) := by decide +kernel
theorem dX1_add_26 : decode cX1_add 26 = .ok (.getfield 17, 3) := by decide +kernel
theorem dX1_add_29 : decode cX1_add 29 = .ok (.istore_n 2, 1) := by decide +kernel
theorem dX1_add_30 : decode cX1_add 30 = .ok (.aload_n 0, 1) := by decide +kernel
theorem dX1_add_31 : decode cX1_add 31 = .ok (.getfield 11, 3) := by decide +kernel
theorem dX1_add_34 : decode cX1_add 34 = .ok (.iload_n 2, 1) := by decide +kernel
theorem dX1_add_35 : decode cX1_add 35 = .ok (.aload_n 1, 1) := by decide +kernel
theorem dX1_add_36 : decode cX1_add 36 = .ok (.aastore, 1) := by decide +kernel
theorem dX1_add_37 : decode cX1_add 37 = .ok (.aload_n 1, 1) := by decide +kernel
theorem dX1_add_38 : decode cX1_add 38 = .ok (.iconst 1, 1) := by decide +kernel
theorem dX1_add_39 : decode cX1_add 39 = .ok (.invokevirtual 24, 3) := by decide +kernel
theorem dX1_add_42 : decode cX1_add 42 = .ok (.aload_n 0, 1) := by decide +kernel
theorem dX1_add_43 : decode cX1_add 43 = .ok (.dup, 1) := by decide +kernel
theorem dX1_add_44 : decode cX1_add 44 = .ok (.getfield 17, 3) := by decide +kernel
theorem dX1_add_47 : decode cX1_add 47 = .ok (.iconst 1, 1) := by decide +kernel
theorem dX1_add_48 : decode cX1_add 48 = .ok (.iadd, 1) := by decide +kernel
theorem dX1_add_49 : decode cX1_add 49 = .ok (.putfield 17, 3) := by decide +kernel
theorem dX1_add_52 : decode cX1_add 52 = .ok (.aload_n 0, 1) := by decide +kernel
theorem dX1_add_53 : decode cX1_add 53 = .ok (.dup, 1) := by decide +kernel
theorem dX1_add_54 : decode cX1_add 54 = .ok (.getfield 21, 3) := by decide +kernel
theorem dX1_add_57 : decode cX1_add 57 = .ok (.iconst 1, 1) := by decide +kernel
theorem dX1_add_58 : decode cX1_add 58 = .ok (.iadd, 1) := by decide +kernel
theorem dX1_add_59 : decode cX1_add 59 = .ok (.putfield 21, 3) := by decide +kernel
theorem dX1_add_62 : decode cX1_add 62 = .ok (.iload_n 2, 1) := by decide +kernel
theorem dX1_add_63 : decode cX1_add 63 = .ok (.ireturn, 1) := by decide +kernel
theorem dX1_remove_0 : decode cX1_remove 0 = .ok (.aload_n 1, 1) := by decide +kernel
theorem dX1_remove_1 : decode cX1_remove 1 = .ok (.ifnull 25, 3) := by decide +kernel
theorem dX1_remove_4 : decode cX1_remove 4 = .ok (.aload_n 1, 1) := by decide +kernel
theorem dX1_remove_5 : decode cX1_remove 5 = .ok (.invokevirtual 28, 3) := by decide +kernel
theorem dX1_remove_8 : decode cX1_remove 8 = .ok (.ifCond .eq 18, 3) := by decide +kernel
theorem dX1_remove_11 : decode cX1_remove 11 = .ok (.aload_n 1, 1) := by decide +kernel
theorem dX1_remove_12 : decode cX1_remove 12 = .ok (.iconst 0, 1) := by decide +kernel
theorem dX1_remove_13 : decode cX1_remove 13 = .ok (.invokevirtual 24, 3) := by decide +kernel
theorem dX1_remove_16 : decode cX1_remove 16 = .ok (.aload_n 0, 1) := by decide +kernel
theorem dX1_remove_17 : decode cX1_remove 17 = .ok (.dup, 1) := by decide +kernel
theorem dX1_remove_18 : decode cX1_remove 18 = .ok (.getfield 21, 3) := by decide +kernel
theorem dX1_remove_21 : decode cX1_remove 21 = .ok (.iconst 1, 1) := by decide +kernel
theorem dX1_remove_22 : decode cX1_remove 22 = .ok (.isub, 1) := by decide +kernel
theorem dX1_remove_23 : decode cX1_remove 23 = .ok (.putfield 21, 3) := by decide +kernel
theorem dX1_remove_26 : decode cX1_remove 26 = .ok (.return_, 1) := by decide +kernel
theorem dX1_find_0 : decode cX1_find 0 = .ok (.iload_n 1, 1) := by decide +kernel
theorem dX1_find_1 : decode cX1_find 1 = .ok (.ifCond .lt 20, 3) := by decide +kernel
theorem dX1_find_4 : decode cX1_find 4 = .ok (.iload_n 1, 1) := by decide +kernel
theorem dX1_find_5 : decode cX1_find 5 = .ok (.aload_n 0, 1) := by decide +kernel
theorem dX1_find_6 : decode cX1_find 6 = .ok (.getfield 17, 3) := by decide +kernel
theorem dX1_find_9 : decode cX1_find 9 = .ok (.if_icmp .ge 12, 3) := by decide +kernel
theorem dX1_find_12 : decode cX1_find 12 = .ok (.iload_n 1, 1) := by decide +kernel
theorem dX1_find_13 : decode cX1_find 13 = .ok (.aload_n 0, 1) := by decide +kernel
theorem dX1_find_14 : decode cX1_find 14 = .ok (.getfield 11, 3) := by decide +kernel
theorem dX1_find_17 : decode cX1_find 17 = .ok (.arraylength, 1) := by decide +kernel
theorem dX1_find_18 : decode cX1_find 18 = .ok (.if_icmp .lt 5, 3) := by decide +kernel
theorem dX1_find_21 : decode cX1_find 21 = .ok (.aconst_null, 1) := by decide +kernel
theorem dX1_find_22 : decode cX1_find 22 = .ok (.areturn, 1) := by decide +kernel
theorem dX1_find_23 : decode cX1_find 23 = .ok (.aload_n 0, 1) := by decide +kernel
theorem dX1_find_24 : decode cX1_find 24 = .ok (.getfield 11, 3) := by decide +kernel
theorem dX1_find_27 : decode cX1_find 27 = .ok (.iload_n 1, 1) := by decide +kernel
theorem dX1_find_28 : decode cX1_find 28 = .ok (.aaload, 1) := by decide +kernel
theorem dX1_find_29 : decode cX1_find 29 = .ok (.astore_n 2, 1) := by decide +kernel
theorem dX1_find_30 : decode cX1_find 30 = .ok (.aload_n 2, 1) := by decide +kernel
theorem dX1_find_31 : decode cX1_find 31 = .ok (.ifnull 14, 3) := by decide +kernel
theorem dX1_find_34 : decode cX1_find 34 = .ok (.aload_n 2, 1) := by decide +kernel
theorem dX1_find_35 : decode cX1_find 35 = .ok (.invokevirtual 28, 3) := by decide +kernel
theorem dX1_find_38 : decode cX1_find 38 = .ok (.ifCond .eq 7, 3) := by decide +kernel
theorem dX1_find_41 : decode cX1_find 41 = .ok (.aload_n 2, 1) := by decide +kernel
theorem dX1_find_42 : decode cX1_find 42 = .ok (.goto 4, 3) := by decide +kernel
theorem dX1_find_45 : decode cX1_find 45 = .ok (.aconst_null, 1) := by decide +kernel
theorem dX1_find_46 : decode cX1_find 46 = .ok (.areturn, 1) := by decide +kernel
theorem dX2_init_0 : decode cX2_init 0 = .ok (.aload_n 0, 1) := by decide +kernel
theorem dX2_init_1 : decode cX2_init 1 = .ok (.invokespecial 3, 3) := by decide +kernel
theorem dX2_init_4 : decode cX2_init 4 = .ok (.aload_n 0, 1) := by decide +kernel
theorem dX2_init_5 : decode cX2_init 5 = .ok (.sipush 240, 3) := by decide +kernel
theorem dX2_init_8 : decode cX2_init 8 = .ok (.newarray .int, 2) := by decide +kernel
theorem dX2_init_10 : decode cX2_init 10 = .ok (.putfield 9, 3) := by decide +kernel
theorem dX2_init_13 : decode cX2_init 13 = .ok (.aload_n 0, 1) := by decide +kernel
theorem dX2_init_14 : decode cX2_init 14 = .ok (.sipush 240, 3) := by decide +kernel
theorem dX2_init_17 : decode cX2_init 17 = .ok (.newarray .long, 2) := by decide +kernel
theorem dX2_init_19 : decode cX2_init 19 = .ok (.putfield 15, 3) := by decide +kernel
theorem dX2_init_22 : decode cX2_init 22 = .ok (.aload_n 0, 1) := by decide +kernel
theorem dX2_init_23 : decode cX2_init 23 = .ok (.bipush 15, 2) := by decide +kernel
theorem dX2_init_25 : decode cX2_init 25 = .ok (.newarray .int, 2) := by decide +kernel
theorem dX2_init_27 : decode cX2_init 27 = .ok (.putfield 19, 3) := by decide +kernel
theorem dX2_init_30 : decode cX2_init 30 = .ok (.aload_n 0, 1) := by decide +kernel
theorem dX2_init_31 : decode cX2_init 31 = .ok (.bipush 15, 2) := by decide +kernel
theorem dX2_init_33 : decode cX2_init 33 = .ok (.newarray .long, 2) := by decide +kernel
theorem dX2_init_35 : decode cX2_init 35 = .ok (.putfield 22, 3) := by decide +kernel
theorem dX2_init_38 : decode cX2_init 38 = .ok (.aload_n 0, 1) := by decide +kernel
theorem dX2_init_39 : decode cX2_init 39 = .ok (.iload_n 1, 1) := by decide +kernel
theorem dX2_init_40 : decode cX2_init 40 = .ok (.putfield 25, 3) := by decide +kernel
theorem dX2_init_43 : decode cX2_init 43 = .ok (.return_, 1) := by decide +kernel
theorem dX2_shareOf_0 : decode cX2_shareOf 0 = .ok (.iload_n 1, 1) := by decide +kernel
theorem dX2_shareOf_1 : decode cX2_shareOf 1 = .ok (.iload_n 2, 1) := by decide +kernel
theorem dX2_shareOf_2 : decode cX2_shareOf 2 = .ok (.invokestatic 29, 3) := by decide +kernel
theorem dX2_shareOf_5 : decode cX2_shareOf 5 = .ok (.istore_n 3, 1) := by decide +kernel
theorem dX2_shareOf_6 : decode cX2_shareOf 6 = .ok (.iload_n 3, 1) := by decide +kernel
theorem dX2_shareOf_7 : decode cX2_shareOf 7 = .ok (.ifCond .lt 21, 3) := by decide +kernel
theorem dX2_shareOf_10 : decode cX2_shareOf 10 = .ok (.iload_n 3, 1) := by decide +kernel
theorem dX2_shareOf_11 : decode cX2_shareOf 11 = .ok (.aload_n 0, 1) := by decide +kernel
theorem dX2_shareOf_12 : decode cX2_shareOf 12 = .ok (.getfield 9, 3) := by decide +kernel
theorem dX2_shareOf_15 : decode cX2_shareOf 15 = .ok (.arraylength, 1) := by decide +kernel
theorem dX2_shareOf_16 : decode cX2_shareOf 16 = .ok (.if_icmp .ge 12, 3) := by decide +kernel
theorem dX2_shareOf_19 : decode cX2_shareOf 19 = .ok (.aload_n 0, 1) := by decide +kernel
theorem dX2_shareOf_20 : decode cX2_shareOf 20 = .ok (.getfield 9, 3) := by decide +kernel
theorem dX2_shareOf_23 : decode cX2_shareOf 23 = .ok (.iload_n 3, 1) := by decide +kernel
theorem dX2_shareOf_24 : decode cX2_shareOf 24 = .ok (.iaload, 1) := by decide +kernel
theorem dX2_shareOf_25 : decode cX2_shareOf 25 = .ok (.goto 4, 3) := by decide +kernel
theorem dX2_shareOf_28 : decode cX2_shareOf 28 = .ok (.iconst 0, 1) := by decide +kernel
theorem dX2_shareOf_29 : decode cX2_shareOf 29 = .ok (.ireturn, 1) := by decide +kernel
theorem dX2_start_0 : decode cX2_start 0 = .ok (.aload_n 0, 1) := by decide +kernel
theorem dX2_start_1 : decode cX2_start 1 = .ok (.aload_n 1, 1) := by decide +kernel
theorem dX2_start_2 : decode cX2_start 2 = .ok (.invokevirtual 33, 3) := by decide +kernel
theorem dX2_start_5 : decode cX2_start 5 = .ok (.aload_n 0, 1) := by decide +kernel
theorem dX2_start_6 : decode cX2_start 6 = .ok (.invokevirtual 37, 3) := by decide +kernel
theorem dX2_start_9 : decode cX2_start 9 = .ok (.pop, 1) := by decide +kernel
theorem dX2_start_10 : decode cX2_start 10 = .ok (.aload_n 0, 1) := by decide +kernel
theorem dX2_start_11 : decode cX2_start 11 = .ok (.invokevirtual 41, 3) := by decide +kernel
theorem dX2_start_14 : decode cX2_start 14 = .ok (.ireturn, 1) := by decide +kernel
theorem dX2_learn_0 : decode cX2_learn 0 = .ok (.aload_n 0, 1) := by decide +kernel
theorem dX2_learn_1 : decode cX2_learn 1 = .ok (.aload_n 1, 1) := by decide +kernel
theorem dX2_learn_2 : decode cX2_learn 2 = .ok (.invokevirtual 44, 3) := by decide +kernel
theorem dX2_learn_5 : decode cX2_learn 5 = .ok (.aload_n 0, 1) := by decide +kernel
theorem dX2_learn_6 : decode cX2_learn 6 = .ok (.invokevirtual 37, 3) := by decide +kernel
theorem dX2_learn_9 : decode cX2_learn 9 = .ok (.ireturn, 1) := by decide +kernel
theorem dX2_cellOf_0 : decode cX2_cellOf 0 = .ok (.iload_n 0, 1) := by decide +kernel
theorem dX2_cellOf_1 : decode cX2_cellOf 1 = .ok (.ifCond .lt 23, 3) := by decide +kernel
theorem dX2_cellOf_4 : decode cX2_cellOf 4 = .ok (.iload_n 0, 1) := by decide +kernel
theorem dX2_cellOf_5 : decode cX2_cellOf 5 = .ok (.bipush 15, 2) := by decide +kernel
theorem dX2_cellOf_7 : decode cX2_cellOf 7 = .ok (.if_icmp .gt 17, 3) := by decide +kernel
theorem dX2_cellOf_10 : decode cX2_cellOf 10 = .ok (.iload_n 1, 1) := by decide +kernel
theorem dX2_cellOf_11 : decode cX2_cellOf 11 = .ok (.ifCond .lt 13, 3) := by decide +kernel
theorem dX2_cellOf_14 : decode cX2_cellOf 14 = .ok (.iload_n 1, 1) := by decide +kernel
theorem dX2_cellOf_15 : decode cX2_cellOf 15 = .ok (.bipush 15, 2) := by decide +kernel
theorem dX2_cellOf_17 : decode cX2_cellOf 17 = .ok (.if_icmp .ge 7, 3) := by decide +kernel
theorem dX2_cellOf_20 : decode cX2_cellOf 20 = .ok (.iconst 1, 1) := by decide +kernel
theorem dX2_cellOf_21 : decode cX2_cellOf 21 = .ok (.goto 4, 3) := by decide +kernel
theorem dX2_cellOf_24 : decode cX2_cellOf 24 = .ok (.iconst 0, 1) := by decide +kernel
theorem dX2_cellOf_25 : decode cX2_cellOf 25 = .ok (.istore_n 2, 1) := by decide +kernel
theorem dX2_cellOf_26 : decode cX2_cellOf 26 = .ok (.iload_n 2, 1) := by decide +kernel
theorem dX2_cellOf_27 : decode cX2_cellOf 27 = .ok (.ifCond .eq 12, 3) := by decide +kernel
theorem dX2_cellOf_30 : decode cX2_cellOf 30 = .ok (.iload_n 0, 1) := by decide +kernel
theorem dX2_cellOf_31 : decode cX2_cellOf 31 = .ok (.bipush 15, 2) := by decide +kernel
theorem dX2_cellOf_33 : decode cX2_cellOf 33 = .ok (.imul, 1) := by decide +kernel
theorem dX2_cellOf_34 : decode cX2_cellOf 34 = .ok (.iload_n 1, 1) := by decide +kernel
theorem dX2_cellOf_35 : decode cX2_cellOf 35 = .ok (.iadd, 1) := by decide +kernel
theorem dX2_cellOf_36 : decode cX2_cellOf 36 = .ok (.goto 4, 3) := by decide +kernel
theorem dX2_cellOf_39 : decode cX2_cellOf 39 = .ok (.iconst (-1), 1) := by decide +kernel
theorem dX2_cellOf_40 : decode cX2_cellOf 40 = .ok (.ireturn, 1) := by decide +kernel
theorem dX2_countMeetings_0 : decode cX2_countMeetings 0 = .ok (.aload_n 0, 1) := by decide +kernel
theorem dX2_countMeetings_1 : decode cX2_countMeetings 1 = .ok (.getfield 15, 3) := by decide +kernel
theorem dX2_countMeetings_4 : decode cX2_countMeetings 4 = .ok (.lconst 0, 1) := by decide +kernel
theorem dX2_countMeetings_5 : decode cX2_countMeetings 5 = .ok (.invokestatic 47, 3) := by decide +kernel
theorem dX2_countMeetings_8 : decode cX2_countMeetings 8 = .ok (.iconst 0, 1) := by decide +kernel
theorem dX2_countMeetings_9 : decode cX2_countMeetings 9 = .ok (.istore_n 2, 1) := by decide +kernel
theorem dX2_countMeetings_10 : decode cX2_countMeetings 10 = .ok (.iload_n 2, 1) := by decide +kernel
theorem dX2_countMeetings_11 : decode cX2_countMeetings 11 = .ok (.aload_n 1, 1) := by decide +kernel
theorem dX2_countMeetings_12 : decode cX2_countMeetings 12 = .ok (.invokevirtual 53, 3) := by decide +kernel
theorem dX2_countMeetings_15 : decode cX2_countMeetings 15 = .ok (.if_icmp .ge 41, 3) := by decide +kernel
theorem dX2_countMeetings_18 : decode cX2_countMeetings 18 = .ok (.aload_n 1, 1) := by decide +kernel
theorem dX2_countMeetings_19 : decode cX2_countMeetings 19 = .ok (.iload_n 2, 1) := by decide +kernel
theorem dX2_countMeetings_20 : decode cX2_countMeetings 20 = .ok (.invokevirtual 58, 3) := by decide +kernel
theorem dX2_countMeetings_23 : decode cX2_countMeetings 23 = .ok (.astore_n 3, 1) := by decide +kernel
theorem dX2_countMeetings_24 : decode cX2_countMeetings 24 = .ok (.aload_n 3, 1) := by decide +kernel
theorem dX2_countMeetings_25 : decode cX2_countMeetings 25 = .ok (.ifnull 25, 3) := by decide +kernel
theorem dX2_countMeetings_28 : decode cX2_countMeetings 28 = .ok (.aload_n 0, 1) := by decide +kernel
theorem dX2_countMeetings_29 : decode cX2_countMeetings 29 = .ok (.aload_n 3, 1) := by decide +kernel
theorem dX2_countMeetings_30 : decode cX2_countMeetings 30 = .ok (.aload_n 0, 1) := by decide +kernel
theorem dX2_countMeetings_31 : decode cX2_countMeetings 31 = .ok (.getfield 25, 3) := by decide +kernel
theorem dX2_countMeetings_34 : decode cX2_countMeetings 34 = .ok (.invokevirtual 62, 3) := by decide +kernel
theorem dX2_countMeetings_37 : decode cX2_countMeetings 37 = .ok (.aload_n 3, 1) := by decide +kernel
theorem dX2_countMeetings_38 : decode cX2_countMeetings 38 = .ok (.iconst 1, 1) := by decide +kernel
theorem dX2_countMeetings_39 : decode cX2_countMeetings 39 = .ok (.aload_n 0, 1) := by decide +kernel
theorem dX2_countMeetings_40 : decode cX2_countMeetings 40 = .ok (.getfield 25, 3) := by decide +kernel
theorem dX2_countMeetings_43 : decode cX2_countMeetings 43 = .ok (.isub, 1) := by decide +kernel
theorem dX2_countMeetings_44 : decode cX2_countMeetings 44 = .ok (.invokevirtual 62, 3) := by decide +kernel
theorem dX2_countMeetings_47 : decode cX2_countMeetings 47 = .ok (.invokevirtual 68, 3) := by decide +kernel
theorem dX2_countMeetings_50 : decode cX2_countMeetings 50 = .ok (.iinc 2 1, 3) := by decide +kernel
theorem dX2_countMeetings_53 : decode cX2_countMeetings 53 = .ok (.goto (-43), 3) := by decide +kernel
theorem dX2_countMeetings_56 : decode cX2_countMeetings 56 = .ok (.return_, 1) := by decide +kernel
theorem dX2_meetAll_0 : decode cX2_meetAll 0 = .ok (.iconst 0, 1) := by decide +kernel
theorem dX2_meetAll_1 : decode cX2_meetAll 1 = .ok (.istore_n 3, 1) := by decide +kernel
theorem dX2_meetAll_2 : decode cX2_meetAll 2 = .ok (.iload_n 3, 1) := by decide +kernel
theorem dX2_meetAll_3 : decode cX2_meetAll 3 = .ok (.aload_n 2, 1) := by decide +kernel
theorem dX2_meetAll_4 : decode cX2_meetAll 4 = .ok (.invokevirtual 72, 3) := by decide +kernel
theorem dX2_meetAll_7 : decode cX2_meetAll 7 = .ok (.if_icmp .ge 54, 3) := by decide +kernel
theorem dX2_meetAll_10 : decode cX2_meetAll 10 = .ok (.aload_n 2, 1) := by decide +kernel
theorem dX2_meetAll_11 : decode cX2_meetAll 11 = .ok (.iload_n 3, 1) := by decide +kernel
theorem dX2_meetAll_12 : decode cX2_meetAll 12 = .ok (.invokevirtual 77, 3) := by decide +kernel
theorem dX2_meetAll_15 : decode cX2_meetAll 15 = .ok (.istore 4, 2) := by decide +kernel
theorem dX2_meetAll_17 : decode cX2_meetAll 17 = .ok (.aload_n 0, 1) := by decide +kernel
theorem dX2_meetAll_18 : decode cX2_meetAll 18 = .ok (.bipush 15, 2) := by decide +kernel
theorem dX2_meetAll_20 : decode cX2_meetAll 20 = .ok (.iload 4, 2) := by decide +kernel
theorem dX2_meetAll_22 : decode cX2_meetAll 22 = .ok (.invokevirtual 81, 3) := by decide +kernel
theorem dX2_meetAll_25 : decode cX2_meetAll 25 = .ok (.iconst 0, 1) := by decide +kernel
theorem dX2_meetAll_26 : decode cX2_meetAll 26 = .ok (.istore 5, 2) := by decide +kernel
theorem dX2_meetAll_28 : decode cX2_meetAll 28 = .ok (.iload 5, 2) := by decide +kernel
theorem dX2_meetAll_30 : decode cX2_meetAll 30 = .ok (.aload_n 1, 1) := by decide +kernel
theorem dX2_meetAll_31 : decode cX2_meetAll 31 = .ok (.invokevirtual 72, 3) := by decide +kernel
theorem dX2_meetAll_34 : decode cX2_meetAll 34 = .ok (.if_icmp .ge 21, 3) := by decide +kernel
theorem dX2_meetAll_37 : decode cX2_meetAll 37 = .ok (.aload_n 0, 1) := by decide +kernel
theorem dX2_meetAll_38 : decode cX2_meetAll 38 = .ok (.aload_n 1, 1) := by decide +kernel
theorem dX2_meetAll_39 : decode cX2_meetAll 39 = .ok (.iload 5, 2) := by decide +kernel
theorem dX2_meetAll_41 : decode cX2_meetAll 41 = .ok (.invokevirtual 77, 3) := by decide +kernel
theorem dX2_meetAll_44 : decode cX2_meetAll 44 = .ok (.iload 4, 2) := by decide +kernel
theorem dX2_meetAll_46 : decode cX2_meetAll 46 = .ok (.invokevirtual 81, 3) := by decide +kernel
theorem dX2_meetAll_49 : decode cX2_meetAll 49 = .ok (.iinc 5 1, 3) := by decide +kernel
theorem dX2_meetAll_52 : decode cX2_meetAll 52 = .ok (.goto (-24), 3) := by decide +kernel
theorem dX2_meetAll_55 : decode cX2_meetAll 55 = .ok (.iinc 3 1, 3) := by decide +kernel
theorem dX2_meetAll_58 : decode cX2_meetAll 58 = .ok (.goto (-56), 3) := by decide +kernel
theorem dX2_meetAll_61 : decode cX2_meetAll 61 = .ok (.return_, 1) := by decide +kernel
theorem dX2_meet_0 : decode cX2_meet 0 = .ok (.iload_n 1, 1) := by decide +kernel
theorem dX2_meet_1 : decode cX2_meet 1 = .ok (.iload_n 2, 1) := by decide +kernel
theorem dX2_meet_2 : decode cX2_meet 2 = .ok (.invokestatic 29, 3) := by decide +kernel
theorem dX2_meet_5 : decode cX2_meet 5 = .ok (.istore_n 3, 1) := by decide +kernel
theorem dX2_meet_6 : decode cX2_meet 6 = .ok (.iload_n 3, 1) := by decide +kernel
theorem dX2_meet_7 : decode cX2_meet 7 = .ok (.ifCond .lt 19, 3) := by decide +kernel
theorem dX2_meet_10 : decode cX2_meet 10 = .ok (.iload_n 3, 1) := by decide +kernel
theorem dX2_meet_11 : decode cX2_meet 11 = .ok (.aload_n 0, 1) := by decide +kernel
theorem dX2_meet_12 : decode cX2_meet 12 = .ok (.getfield 15, 3) := by decide +kernel
theorem dX2_meet_15 : decode cX2_meet 15 = .ok (.arraylength, 1) := by decide +kernel
theorem dX2_meet_16 : decode cX2_meet 16 = .ok (.if_icmp .ge 10, 3) := by decide +kernel
theorem dX2_meet_19 : decode cX2_meet 19 = .ok (.aload_n 0, 1) := by decide +kernel
theorem dX2_meet_20 : decode cX2_meet 20 = .ok (.getfield 15, 3) := by decide +kernel
theorem dX2_meet_23 : decode cX2_meet 23 = .ok (.iload_n 3, 1) := by decide +kernel
theorem dX2_meet_24 : decode cX2_meet 24 = .ok (.lconst 1, 1) := by decide +kernel
theorem dX2_meet_25 : decode cX2_meet 25 = .ok (.lastore, 1) := by decide +kernel
theorem dX2_meet_26 : decode cX2_meet 26 = .ok (.return_, 1) := by decide +kernel
theorem dX2_countAnswers_0 : decode cX2_countAnswers 0 = .ok (.aload_n 0, 1) := by decide +kernel
theorem dX2_countAnswers_1 : decode cX2_countAnswers 1 = .ok (.getfield 15, 3) := by decide +kernel
theorem dX2_countAnswers_4 : decode cX2_countAnswers 4 = .ok (.lconst 0, 1) := by decide +kernel
theorem dX2_countAnswers_5 : decode cX2_countAnswers 5 = .ok (.invokestatic 47, 3) := by decide +kernel
theorem dX2_countAnswers_8 : decode cX2_countAnswers 8 = .ok (.iconst 0, 1) := by decide +kernel
theorem dX2_countAnswers_9 : decode cX2_countAnswers 9 = .ok (.istore_n 2, 1) := by decide +kernel
theorem dX2_countAnswers_10 : decode cX2_countAnswers 10 = .ok (.iload_n 2, 1) := by decide +kernel
theorem dX2_countAnswers_11 : decode cX2_countAnswers 11 = .ok (.aload_n 1, 1) := by decide +kernel
theorem dX2_countAnswers_12 : decode cX2_countAnswers 12 = .ok (.invokevirtual 53, 3) := by decide +kernel
theorem dX2_countAnswers_15 : decode cX2_countAnswers 15 = .ok (.if_icmp .ge 41, 3) := by decide +kernel
theorem dX2_countAnswers_18 : decode cX2_countAnswers 18 = .ok (.aload_n 1, 1) := by decide +kernel
theorem dX2_countAnswers_19 : decode cX2_countAnswers 19 = .ok (.iload_n 2, 1) := by decide +kernel
theorem dX2_countAnswers_20 : decode cX2_countAnswers 20 = .ok (.invokevirtual 58, 3) := by decide +kernel
theorem dX2_countAnswers_23 : decode cX2_countAnswers 23 = .ok (.astore_n 3, 1) := by decide +kernel
theorem dX2_countAnswers_24 : decode cX2_countAnswers 24 = .ok (.aload_n 3, 1) := by decide +kernel
theorem dX2_countAnswers_25 : decode cX2_countAnswers 25 = .ok (.ifnull 25, 3) := by decide +kernel
theorem dX2_countAnswers_28 : decode cX2_countAnswers 28 = .ok (.aload_n 0, 1) := by decide +kernel
theorem dX2_countAnswers_29 : decode cX2_countAnswers 29 = .ok (.aload_n 3, 1) := by decide +kernel
theorem dX2_countAnswers_30 : decode cX2_countAnswers 30 = .ok (.aload_n 0, 1) := by decide +kernel
theorem dX2_countAnswers_31 : decode cX2_countAnswers 31 = .ok (.getfield 25, 3) := by decide +kernel
theorem dX2_countAnswers_34 : decode cX2_countAnswers 34 = .ok (.invokevirtual 62, 3) := by decide +kernel
theorem dX2_countAnswers_37 : decode cX2_countAnswers 37 = .ok (.aload_n 3, 1) := by decide +kernel
theorem dX2_countAnswers_38 : decode cX2_countAnswers 38 = .ok (.iconst 1, 1) := by decide +kernel
theorem dX2_countAnswers_39 : decode cX2_countAnswers 39 = .ok (.aload_n 0, 1) := by decide +kernel
theorem dX2_countAnswers_40 : decode cX2_countAnswers 40 = .ok (.getfield 25, 3) := by decide +kernel
theorem dX2_countAnswers_43 : decode cX2_countAnswers 43 = .ok (.isub, 1) := by decide +kernel
theorem dX2_countAnswers_44 : decode cX2_countAnswers 44 = .ok (.invokevirtual 62, 3) := by decide +kernel
theorem dX2_countAnswers_47 : decode cX2_countAnswers 47 = .ok (.invokevirtual 85, 3) := by decide +kernel
theorem dX2_countAnswers_50 : decode cX2_countAnswers 50 = .ok (.iinc 2 1, 3) := by decide +kernel
theorem dX2_countAnswers_53 : decode cX2_countAnswers 53 = .ok (.goto (-43), 3) := by decide +kernel
theorem dX2_countAnswers_56 : decode cX2_countAnswers 56 = .ok (.return_, 1) := by decide +kernel
theorem dX2_answerAll_0 : decode cX2_answerAll 0 = .ok (.iconst 0, 1) := by decide +kernel
theorem dX2_answerAll_1 : decode cX2_answerAll 1 = .ok (.istore_n 3, 1) := by decide +kernel
theorem dX2_answerAll_2 : decode cX2_answerAll 2 = .ok (.iload_n 3, 1) := by decide +kernel
theorem dX2_answerAll_3 : decode cX2_answerAll 3 = .ok (.aload_n 2, 1) := by decide +kernel
theorem dX2_answerAll_4 : decode cX2_answerAll 4 = .ok (.invokevirtual 72, 3) := by decide +kernel
theorem dX2_answerAll_7 : decode cX2_answerAll 7 = .ok (.if_icmp .ge 67, 3) := by decide +kernel
theorem dX2_answerAll_10 : decode cX2_answerAll 10 = .ok (.aload_n 2, 1) := by decide +kernel
theorem dX2_answerAll_11 : decode cX2_answerAll 11 = .ok (.iload_n 3, 1) := by decide +kernel
theorem dX2_answerAll_12 : decode cX2_answerAll 12 = .ok (.invokevirtual 77, 3) := by decide +kernel
theorem dX2_answerAll_15 : decode cX2_answerAll 15 = .ok (.istore 4, 2) := by decide +kernel
theorem dX2_answerAll_17 : decode cX2_answerAll 17 = .ok (.aload_n 0, 1) := by decide +kernel
theorem dX2_answerAll_18 : decode cX2_answerAll 18 = .ok (.aload_n 1, 1) := by decide +kernel
theorem dX2_answerAll_19 : decode cX2_answerAll 19 = .ok (.iload 4, 2) := by decide +kernel
theorem dX2_answerAll_21 : decode cX2_answerAll 21 = .ok (.invokevirtual 88, 3) := by decide +kernel
theorem dX2_answerAll_24 : decode cX2_answerAll 24 = .ok (.lstore 5, 2) := by decide +kernel
theorem dX2_answerAll_26 : decode cX2_answerAll 26 = .ok (.aload_n 0, 1) := by decide +kernel
theorem dX2_answerAll_27 : decode cX2_answerAll 27 = .ok (.bipush 15, 2) := by decide +kernel
theorem dX2_answerAll_29 : decode cX2_answerAll 29 = .ok (.iload 4, 2) := by decide +kernel
theorem dX2_answerAll_31 : decode cX2_answerAll 31 = .ok (.lload 5, 2) := by decide +kernel
theorem dX2_answerAll_33 : decode cX2_answerAll 33 = .ok (.invokevirtual 92, 3) := by decide +kernel
theorem dX2_answerAll_36 : decode cX2_answerAll 36 = .ok (.iconst 0, 1) := by decide +kernel
theorem dX2_answerAll_37 : decode cX2_answerAll 37 = .ok (.istore 7, 2) := by decide +kernel
theorem dX2_answerAll_39 : decode cX2_answerAll 39 = .ok (.iload 7, 2) := by decide +kernel
theorem dX2_answerAll_41 : decode cX2_answerAll 41 = .ok (.aload_n 1, 1) := by decide +kernel
theorem dX2_answerAll_42 : decode cX2_answerAll 42 = .ok (.invokevirtual 72, 3) := by decide +kernel
theorem dX2_answerAll_45 : decode cX2_answerAll 45 = .ok (.if_icmp .ge 23, 3) := by decide +kernel
theorem dX2_answerAll_48 : decode cX2_answerAll 48 = .ok (.aload_n 0, 1) := by decide +kernel
theorem dX2_answerAll_49 : decode cX2_answerAll 49 = .ok (.aload_n 1, 1) := by decide +kernel
theorem dX2_answerAll_50 : decode cX2_answerAll 50 = .ok (.iload 7, 2) := by decide +kernel
theorem dX2_answerAll_52 : decode cX2_answerAll 52 = .ok (.invokevirtual 77, 3) := by decide +kernel
theorem dX2_answerAll_55 : decode cX2_answerAll 55 = .ok (.iload 4, 2) := by decide +kernel
theorem dX2_answerAll_57 : decode cX2_answerAll 57 = .ok (.lload 5, 2) := by decide +kernel
theorem dX2_answerAll_59 : decode cX2_answerAll 59 = .ok (.invokevirtual 92, 3) := by decide +kernel
theorem dX2_answerAll_62 : decode cX2_answerAll 62 = .ok (.iinc 7 1, 3) := by decide +kernel
theorem dX2_answerAll_65 : decode cX2_answerAll 65 = .ok (.goto (-26), 3) := by decide +kernel
theorem dX2_answerAll_68 : decode cX2_answerAll 68 = .ok (.iinc 3 1, 3) := by decide +kernel
theorem dX2_answerAll_71 : decode cX2_answerAll 71 = .ok (.goto (-69), 3) := by decide +kernel
theorem dX2_answerAll_74 : decode cX2_answerAll 74 = .ok (.return_, 1) := by decide +kernel
theorem dX2_sumOfShares_0 : decode cX2_sumOfShares 0 = .ok (.aload_n 0, 1) := by decide +kernel
theorem dX2_sumOfShares_1 : decode cX2_sumOfShares 1 = .ok (.bipush 15, 2) := by decide +kernel
theorem dX2_sumOfShares_3 : decode cX2_sumOfShares 3 = .ok (.iload_n 2, 1) := by decide +kernel
theorem dX2_sumOfShares_4 : decode cX2_sumOfShares 4 = .ok (.invokevirtual 96, 3) := by decide +kernel
theorem dX2_sumOfShares_7 : decode cX2_sumOfShares 7 = .ok (.i2l, 1) := by decide +kernel
theorem dX2_sumOfShares_8 : decode cX2_sumOfShares 8 = .ok (.lstore_n 3, 1) := by decide +kernel
theorem dX2_sumOfShares_9 : decode cX2_sumOfShares 9 = .ok (.iconst 0, 1) := by decide +kernel
theorem dX2_sumOfShares_10 : decode cX2_sumOfShares 10 = .ok (.istore 5, 2) := by decide +kernel
theorem dX2_sumOfShares_12 : decode cX2_sumOfShares 12 = .ok (.iload 5, 2) := by decide +kernel
theorem dX2_sumOfShares_14 : decode cX2_sumOfShares 14 = .ok (.aload_n 1, 1) := by decide +kernel
theorem dX2_sumOfShares_15 : decode cX2_sumOfShares 15 = .ok (.invokevirtual 72, 3) := by decide +kernel
theorem dX2_sumOfShares_18 : decode cX2_sumOfShares 18 = .ok (.if_icmp .ge 24, 3) := by decide +kernel
theorem dX2_sumOfShares_21 : decode cX2_sumOfShares 21 = .ok (.lload_n 3, 1) := by decide +kernel
theorem dX2_sumOfShares_22 : decode cX2_sumOfShares 22 = .ok (.aload_n 0, 1) := by decide +kernel
theorem dX2_sumOfShares_23 : decode cX2_sumOfShares 23 = .ok (.aload_n 1, 1) := by decide +kernel
theorem dX2_sumOfShares_24 : decode cX2_sumOfShares 24 = .ok (.iload 5, 2) := by decide +kernel
theorem dX2_sumOfShares_26 : decode cX2_sumOfShares 26 = .ok (.invokevirtual 77, 3) := by decide +kernel
theorem dX2_sumOfShares_29 : decode cX2_sumOfShares 29 = .ok (.iload_n 2, 1) := by decide +kernel
theorem dX2_sumOfShares_30 : decode cX2_sumOfShares 30 = .ok (.invokevirtual 96, 3) := by decide +kernel
theorem dX2_sumOfShares_33 : decode cX2_sumOfShares 33 = .ok (.i2l, 1) := by decide +kernel
theorem dX2_sumOfShares_34 : decode cX2_sumOfShares 34 = .ok (.ladd, 1) := by decide +kernel
theorem dX2_sumOfShares_35 : decode cX2_sumOfShares 35 = .ok (.lstore_n 3, 1) := by decide +kernel
theorem dX2_sumOfShares_36 : decode cX2_sumOfShares 36 = .ok (.iinc 5 1, 3) := by decide +kernel
theorem dX2_sumOfShares_39 : decode cX2_sumOfShares 39 = .ok (.goto (-27), 3) := by decide +kernel
theorem dX2_sumOfShares_42 : decode cX2_sumOfShares 42 = .ok (.lload_n 3, 1) := by decide +kernel
theorem dX2_sumOfShares_43 : decode cX2_sumOfShares 43 = .ok (.lreturn, 1) := by decide +kernel
theorem dX2_addAnswer_0 : decode cX2_addAnswer 0 = .ok (.iload_n 1, 1) := by decide +kernel
theorem dX2_addAnswer_1 : decode cX2_addAnswer 1 = .ok (.iload_n 2, 1) := by decide +kernel
theorem dX2_addAnswer_2 : decode cX2_addAnswer 2 = .ok (.invokestatic 29, 3) := by decide +kernel
theorem dX2_addAnswer_5 : decode cX2_addAnswer 5 = .ok (.istore 5, 2) := by decide +kernel
theorem dX2_addAnswer_7 : decode cX2_addAnswer 7 = .ok (.lload_n 3, 1) := by decide +kernel
theorem dX2_addAnswer_8 : decode cX2_addAnswer 8 = .ok (.lconst 0, 1) := by decide +kernel
theorem dX2_addAnswer_9 : decode cX2_addAnswer 9 = .ok (.lcmp, 1) := by decide +kernel
theorem dX2_addAnswer_10 : decode cX2_addAnswer 10 = .ok (.ifCond .le 41, 3) := by decide +kernel
theorem dX2_addAnswer_13 : decode cX2_addAnswer 13 = .ok (.iload 5, 2) := by decide +kernel
theorem dX2_addAnswer_15 : decode cX2_addAnswer 15 = .ok (.ifCond .lt 36, 3) := by decide +kernel
theorem dX2_addAnswer_18 : decode cX2_addAnswer 18 = .ok (.iload 5, 2) := by decide +kernel
theorem dX2_addAnswer_20 : decode cX2_addAnswer 20 = .ok (.aload_n 0, 1) := by decide +kernel
theorem dX2_addAnswer_21 : decode cX2_addAnswer 21 = .ok (.getfield 15, 3) := by decide +kernel
theorem dX2_addAnswer_24 : decode cX2_addAnswer 24 = .ok (.arraylength, 1) := by decide +kernel
theorem dX2_addAnswer_25 : decode cX2_addAnswer 25 = .ok (.if_icmp .ge 26, 3) := by decide +kernel
theorem dX2_addAnswer_28 : decode cX2_addAnswer 28 = .ok (.aload_n 0, 1) := by decide +kernel
theorem dX2_addAnswer_29 : decode cX2_addAnswer 29 = .ok (.getfield 15, 3) := by decide +kernel
theorem dX2_addAnswer_32 : decode cX2_addAnswer 32 = .ok (.iload 5, 2) := by decide +kernel
theorem dX2_addAnswer_34 : decode cX2_addAnswer 34 = .ok (.dup2, 1) := by decide +kernel
theorem dX2_addAnswer_35 : decode cX2_addAnswer 35 = .ok (.laload, 1) := by decide +kernel
theorem dX2_addAnswer_36 : decode cX2_addAnswer 36 = .ok (.aload_n 0, 1) := by decide +kernel
theorem dX2_addAnswer_37 : decode cX2_addAnswer 37 = .ok (.iload_n 1, 1) := by decide +kernel
theorem dX2_addAnswer_38 : decode cX2_addAnswer 38 = .ok (.iload_n 2, 1) := by decide +kernel
theorem dX2_addAnswer_39 : decode cX2_addAnswer 39 = .ok (.invokevirtual 96, 3) := by decide +kernel
theorem dX2_addAnswer_42 : decode cX2_addAnswer 42 = .ok (.i2l, 1) := by decide +kernel
theorem dX2_addAnswer_43 : decode cX2_addAnswer 43 = .ok (.ldc2_w 99, 3) := by decide +kernel
theorem dX2_addAnswer_46 : decode cX2_addAnswer 46 = .ok (.lmul, 1) := by decide +kernel
theorem dX2_addAnswer_47 : decode cX2_addAnswer 47 = .ok (.lload_n 3, 1) := by decide +kernel
theorem dX2_addAnswer_48 : decode cX2_addAnswer 48 = .ok (.ldiv, 1) := by decide +kernel
theorem dX2_addAnswer_49 : decode cX2_addAnswer 49 = .ok (.ladd, 1) := by decide +kernel
theorem dX2_addAnswer_50 : decode cX2_addAnswer 50 = .ok (.lastore, 1) := by decide +kernel
theorem dX2_addAnswer_51 : decode cX2_addAnswer 51 = .ok (.return_, 1) := by decide +kernel
theorem dX2_apportionAll_0 : decode cX2_apportionAll 0 = .ok (.iconst 0, 1) := by decide +kernel
theorem dX2_apportionAll_1 : decode cX2_apportionAll 1 = .ok (.istore_n 1, 1) := by decide +kernel
theorem dX2_apportionAll_2 : decode cX2_apportionAll 2 = .ok (.iconst 0, 1) := by decide +kernel
theorem dX2_apportionAll_3 : decode cX2_apportionAll 3 = .ok (.istore_n 2, 1) := by decide +kernel
theorem dX2_apportionAll_4 : decode cX2_apportionAll 4 = .ok (.iload_n 2, 1) := by decide +kernel
theorem dX2_apportionAll_5 : decode cX2_apportionAll 5 = .ok (.bipush 15, 2) := by decide +kernel
theorem dX2_apportionAll_7 : decode cX2_apportionAll 7 = .ok (.if_icmp .gt 22, 3) := by decide +kernel
theorem dX2_apportionAll_10 : decode cX2_apportionAll 10 = .ok (.aload_n 0, 1) := by decide +kernel
theorem dX2_apportionAll_11 : decode cX2_apportionAll 11 = .ok (.iload_n 2, 1) := by decide +kernel
theorem dX2_apportionAll_12 : decode cX2_apportionAll 12 = .ok (.invokevirtual 101, 3) := by decide +kernel
theorem dX2_apportionAll_15 : decode cX2_apportionAll 15 = .ok (.iload_n 1, 1) := by decide +kernel
theorem dX2_apportionAll_16 : decode cX2_apportionAll 16 = .ok (.aload_n 0, 1) := by decide +kernel
theorem dX2_apportionAll_17 : decode cX2_apportionAll 17 = .ok (.iload_n 2, 1) := by decide +kernel
theorem dX2_apportionAll_18 : decode cX2_apportionAll 18 = .ok (.invokevirtual 105, 3) := by decide +kernel
theorem dX2_apportionAll_21 : decode cX2_apportionAll 21 = .ok (.iadd, 1) := by decide +kernel
theorem dX2_apportionAll_22 : decode cX2_apportionAll 22 = .ok (.istore_n 1, 1) := by decide +kernel
theorem dX2_apportionAll_23 : decode cX2_apportionAll 23 = .ok (.iinc 2 1, 3) := by decide +kernel
theorem dX2_apportionAll_26 : decode cX2_apportionAll 26 = .ok (.goto (-22), 3) := by decide +kernel
theorem dX2_apportionAll_29 : decode cX2_apportionAll 29 = .ok (.iload_n 1, 1) := by decide +kernel
theorem dX2_apportionAll_30 : decode cX2_apportionAll 30 = .ok (.ireturn, 1) := by decide +kernel
theorem dX2_apportion_0 : decode cX2_apportion 0 = .ok (.aload_n 0, 1) := by decide +kernel
theorem dX2_apportion_1 : decode cX2_apportion 1 = .ok (.getfield 19, 3) := by decide +kernel
theorem dX2_apportion_4 : decode cX2_apportion 4 = .ok (.iconst 0, 1) := by decide +kernel
theorem dX2_apportion_5 : decode cX2_apportion 5 = .ok (.invokestatic 108, 3) := by decide +kernel
theorem dX2_apportion_8 : decode cX2_apportion 8 = .ok (.lconst 0, 1) := by decide +kernel
theorem dX2_apportion_9 : decode cX2_apportion 9 = .ok (.lstore_n 2, 1) := by decide +kernel
theorem dX2_apportion_10 : decode cX2_apportion 10 = .ok (.iconst 0, 1) := by decide +kernel
theorem dX2_apportion_11 : decode cX2_apportion 11 = .ok (.istore 4, 2) := by decide +kernel
theorem dX2_apportion_13 : decode cX2_apportion 13 = .ok (.iload 4, 2) := by decide +kernel
theorem dX2_apportion_15 : decode cX2_apportion 15 = .ok (.bipush 15, 2) := by decide +kernel
theorem dX2_apportion_17 : decode cX2_apportion 17 = .ok (.if_icmp .ge 19, 3) := by decide +kernel
theorem dX2_apportion_20 : decode cX2_apportion 20 = .ok (.lload_n 2, 1) := by decide +kernel
theorem dX2_apportion_21 : decode cX2_apportion 21 = .ok (.aload_n 0, 1) := by decide +kernel
theorem dX2_apportion_22 : decode cX2_apportion 22 = .ok (.iload_n 1, 1) := by decide +kernel
theorem dX2_apportion_23 : decode cX2_apportion 23 = .ok (.iload 4, 2) := by decide +kernel
theorem dX2_apportion_25 : decode cX2_apportion 25 = .ok (.invokevirtual 111, 3) := by decide +kernel
theorem dX2_apportion_28 : decode cX2_apportion 28 = .ok (.ladd, 1) := by decide +kernel
theorem dX2_apportion_29 : decode cX2_apportion 29 = .ok (.lstore_n 2, 1) := by decide +kernel
theorem dX2_apportion_30 : decode cX2_apportion 30 = .ok (.iinc 4 1, 3) := by decide +kernel
theorem dX2_apportion_33 : decode cX2_apportion 33 = .ok (.goto (-20), 3) := by decide +kernel
theorem dX2_apportion_36 : decode cX2_apportion 36 = .ok (.lload_n 2, 1) := by decide +kernel
theorem dX2_apportion_37 : decode cX2_apportion 37 = .ok (.lconst 0, 1) := by decide +kernel
theorem dX2_apportion_38 : decode cX2_apportion 38 = .ok (.lcmp, 1) := by decide +kernel
theorem dX2_apportion_39 : decode cX2_apportion 39 = .ok (.ifCond .le 13, 3) := by decide +kernel
theorem dX2_apportion_42 : decode cX2_apportion 42 = .ok (.aload_n 0, 1) := by decide +kernel
theorem dX2_apportion_43 : decode cX2_apportion 43 = .ok (.aload_n 0, 1) := by decide +kernel
theorem dX2_apportion_44 : decode cX2_apportion 44 = .ok (.iload_n 1, 1) := by decide +kernel
theorem dX2_apportion_45 : decode cX2_apportion 45 = .ok (.lload_n 2, 1) := by decide +kernel
theorem dX2_apportion_46 : decode cX2_apportion 46 = .ok (.invokevirtual 115, 3) := by decide +kernel
theorem dX2_apportion_49 : decode cX2_apportion 49 = .ok (.invokevirtual 119, 3) := by decide +kernel
theorem dX2_apportion_52 : decode cX2_apportion 52 = .ok (.return_, 1) := by decide +kernel
theorem dX2_countOf_0 : decode cX2_countOf 0 = .ok (.iload_n 1, 1) := by decide +kernel
theorem dX2_countOf_1 : decode cX2_countOf 1 = .ok (.iload_n 2, 1) := by decide +kernel
theorem dX2_countOf_2 : decode cX2_countOf 2 = .ok (.invokestatic 29, 3) := by decide +kernel
theorem dX2_countOf_5 : decode cX2_countOf 5 = .ok (.istore_n 3, 1) := by decide +kernel
theorem dX2_countOf_6 : decode cX2_countOf 6 = .ok (.iload_n 3, 1) := by decide +kernel
theorem dX2_countOf_7 : decode cX2_countOf 7 = .ok (.ifCond .lt 21, 3) := by decide +kernel
theorem dX2_countOf_10 : decode cX2_countOf 10 = .ok (.iload_n 3, 1) := by decide +kernel
theorem dX2_countOf_11 : decode cX2_countOf 11 = .ok (.aload_n 0, 1) := by decide +kernel
theorem dX2_countOf_12 : decode cX2_countOf 12 = .ok (.getfield 15, 3) := by decide +kernel
theorem dX2_countOf_15 : decode cX2_countOf 15 = .ok (.arraylength, 1) := by decide +kernel
theorem dX2_countOf_16 : decode cX2_countOf 16 = .ok (.if_icmp .ge 12, 3) := by decide +kernel
theorem dX2_countOf_19 : decode cX2_countOf 19 = .ok (.aload_n 0, 1) := by decide +kernel
theorem dX2_countOf_20 : decode cX2_countOf 20 = .ok (.getfield 15, 3) := by decide +kernel
theorem dX2_countOf_23 : decode cX2_countOf 23 = .ok (.iload_n 3, 1) := by decide +kernel
theorem dX2_countOf_24 : decode cX2_countOf 24 = .ok (.laload, 1) := by decide +kernel
theorem dX2_countOf_25 : decode cX2_countOf 25 = .ok (.goto 4, 3) := by decide +kernel
theorem dX2_countOf_28 : decode cX2_countOf 28 = .ok (.lconst 0, 1) := by decide +kernel
theorem dX2_countOf_29 : decode cX2_countOf 29 = .ok (.lreturn, 1) := by decide +kernel
theorem dX2_giveWholes_0 : decode cX2_giveWholes 0 = .ok (.ldc 122, 2) := by decide +kernel
theorem dX2_giveWholes_2 : decode cX2_giveWholes 2 = .ok (.istore 4, 2) := by decide +kernel
theorem dX2_giveWholes_4 : decode cX2_giveWholes 4 = .ok (.iconst 0, 1) := by decide +kernel
theorem dX2_giveWholes_5 : decode cX2_giveWholes 5 = .ok (.istore 5, 2) := by decide +kernel
theorem dX2_giveWholes_7 : decode cX2_giveWholes 7 = .ok (.iload 5, 2) := by decide +kernel
theorem dX2_giveWholes_9 : decode cX2_giveWholes 9 = .ok (.aload_n 0, 1) := by decide +kernel
theorem dX2_giveWholes_10 : decode cX2_giveWholes 10 = .ok (.getfield 19, 3) := by decide +kernel
theorem dX2_giveWholes_13 : decode cX2_giveWholes 13 = .ok (.arraylength, 1) := by decide +kernel
theorem dX2_giveWholes_14 : decode cX2_giveWholes 14 = .ok (.if_icmp .ge 87, 3) := by decide +kernel
theorem dX2_giveWholes_17 : decode cX2_giveWholes 17 = .ok (.iload 5, 2) := by decide +kernel
theorem dX2_giveWholes_19 : decode cX2_giveWholes 19 = .ok (.aload_n 0, 1) := by decide +kernel
theorem dX2_giveWholes_20 : decode cX2_giveWholes 20 = .ok (.getfield 22, 3) := by decide +kernel
theorem dX2_giveWholes_23 : decode cX2_giveWholes 23 = .ok (.arraylength, 1) := by decide +kernel
theorem dX2_giveWholes_24 : decode cX2_giveWholes 24 = .ok (.if_icmp .ge 77, 3) := by decide +kernel
theorem dX2_giveWholes_27 : decode cX2_giveWholes 27 = .ok (.aload_n 0, 1) := by decide +kernel
theorem dX2_giveWholes_28 : decode cX2_giveWholes 28 = .ok (.iload_n 1, 1) := by decide +kernel
theorem dX2_giveWholes_29 : decode cX2_giveWholes 29 = .ok (.iload 5, 2) := by decide +kernel
theorem dX2_giveWholes_31 : decode cX2_giveWholes 31 = .ok (.invokevirtual 111, 3) := by decide +kernel
theorem dX2_giveWholes_34 : decode cX2_giveWholes 34 = .ok (.ldc2_w 99, 3) := by decide +kernel
theorem dX2_giveWholes_37 : decode cX2_giveWholes 37 = .ok (.lmul, 1) := by decide +kernel
theorem dX2_giveWholes_38 : decode cX2_giveWholes 38 = .ok (.lstore 6, 2) := by decide +kernel
theorem dX2_giveWholes_40 : decode cX2_giveWholes 40 = .ok (.aload_n 0, 1) := by decide +kernel
theorem dX2_giveWholes_41 : decode cX2_giveWholes 41 = .ok (.getfield 19, 3) := by decide +kernel
theorem dX2_giveWholes_44 : decode cX2_giveWholes 44 = .ok (.iload 5, 2) := by decide +kernel
theorem dX2_giveWholes_46 : decode cX2_giveWholes 46 = .ok (.lload_n 2, 1) := by decide +kernel
theorem dX2_giveWholes_47 : decode cX2_giveWholes 47 = .ok (.lconst 0, 1) := by decide +kernel
theorem dX2_giveWholes_48 : decode cX2_giveWholes 48 = .ok (.lcmp, 1) := by decide +kernel
theorem dX2_giveWholes_49 : decode cX2_giveWholes 49 = .ok (.ifCond .le 11, 3) := by decide +kernel
theorem dX2_giveWholes_52 : decode cX2_giveWholes 52 = .ok (.lload 6, 2) := by decide +kernel
theorem dX2_giveWholes_54 : decode cX2_giveWholes 54 = .ok (.lload_n 2, 1) := by decide +kernel
theorem dX2_giveWholes_55 : decode cX2_giveWholes 55 = .ok (.ldiv, 1) := by decide +kernel
theorem dX2_giveWholes_56 : decode cX2_giveWholes 56 = .ok (.l2i, 1) := by decide +kernel
theorem dX2_giveWholes_57 : decode cX2_giveWholes 57 = .ok (.goto 4, 3) := by decide +kernel
theorem dX2_giveWholes_60 : decode cX2_giveWholes 60 = .ok (.iconst 0, 1) := by decide +kernel
theorem dX2_giveWholes_61 : decode cX2_giveWholes 61 = .ok (.iastore, 1) := by decide +kernel
theorem dX2_giveWholes_62 : decode cX2_giveWholes 62 = .ok (.aload_n 0, 1) := by decide +kernel
theorem dX2_giveWholes_63 : decode cX2_giveWholes 63 = .ok (.getfield 22, 3) := by decide +kernel
theorem dX2_giveWholes_66 : decode cX2_giveWholes 66 = .ok (.iload 5, 2) := by decide +kernel
theorem dX2_giveWholes_68 : decode cX2_giveWholes 68 = .ok (.lload_n 2, 1) := by decide +kernel
theorem dX2_giveWholes_69 : decode cX2_giveWholes 69 = .ok (.lconst 0, 1) := by decide +kernel
theorem dX2_giveWholes_70 : decode cX2_giveWholes 70 = .ok (.lcmp, 1) := by decide +kernel
theorem dX2_giveWholes_71 : decode cX2_giveWholes 71 = .ok (.ifCond .le 10, 3) := by decide +kernel
theorem dX2_giveWholes_74 : decode cX2_giveWholes 74 = .ok (.lload 6, 2) := by decide +kernel
theorem dX2_giveWholes_76 : decode cX2_giveWholes 76 = .ok (.lload_n 2, 1) := by decide +kernel
theorem dX2_giveWholes_77 : decode cX2_giveWholes 77 = .ok (.lrem, 1) := by decide +kernel
theorem dX2_giveWholes_78 : decode cX2_giveWholes 78 = .ok (.goto 4, 3) := by decide +kernel
theorem dX2_giveWholes_81 : decode cX2_giveWholes 81 = .ok (.lconst 0, 1) := by decide +kernel
theorem dX2_giveWholes_82 : decode cX2_giveWholes 82 = .ok (.lastore, 1) := by decide +kernel
theorem dX2_giveWholes_83 : decode cX2_giveWholes 83 = .ok (.iload 4, 2) := by decide +kernel
theorem dX2_giveWholes_85 : decode cX2_giveWholes 85 = .ok (.aload_n 0, 1) := by decide +kernel
theorem dX2_giveWholes_86 : decode cX2_giveWholes 86 = .ok (.getfield 19, 3) := by decide +kernel
theorem dX2_giveWholes_89 : decode cX2_giveWholes 89 = .ok (.iload 5, 2) := by decide +kernel
theorem dX2_giveWholes_91 : decode cX2_giveWholes 91 = .ok (.iaload, 1) := by decide +kernel
theorem dX2_giveWholes_92 : decode cX2_giveWholes 92 = .ok (.isub, 1) := by decide +kernel
theorem dX2_giveWholes_93 : decode cX2_giveWholes 93 = .ok (.istore 4, 2) := by decide +kernel
theorem dX2_giveWholes_95 : decode cX2_giveWholes 95 = .ok (.iinc 5 1, 3) := by decide +kernel
theorem dX2_giveWholes_98 : decode cX2_giveWholes 98 = .ok (.goto (-91), 3) := by decide +kernel
theorem dX2_giveWholes_101 : decode cX2_giveWholes 101 = .ok (.iload 4, 2) := by decide +kernel
theorem dX2_giveWholes_103 : decode cX2_giveWholes 103 = .ok (.ireturn, 1) := by decide +kernel
theorem dX2_giveRests_0 : decode cX2_giveRests 0 = .ok (.iconst 0, 1) := by decide +kernel
theorem dX2_giveRests_1 : decode cX2_giveRests 1 = .ok (.istore_n 2, 1) := by decide +kernel
theorem dX2_giveRests_2 : decode cX2_giveRests 2 = .ok (.iload_n 2, 1) := by decide +kernel
theorem dX2_giveRests_3 : decode cX2_giveRests 3 = .ok (.iload_n 1, 1) := by decide +kernel
theorem dX2_giveRests_4 : decode cX2_giveRests 4 = .ok (.if_icmp .ge 61, 3) := by decide +kernel
theorem dX2_giveRests_7 : decode cX2_giveRests 7 = .ok (.iload_n 2, 1) := by decide +kernel
theorem dX2_giveRests_8 : decode cX2_giveRests 8 = .ok (.bipush 15, 2) := by decide +kernel
theorem dX2_giveRests_10 : decode cX2_giveRests 10 = .ok (.if_icmp .ge 55, 3) := by decide +kernel
theorem dX2_giveRests_13 : decode cX2_giveRests 13 = .ok (.aload_n 0, 1) := by decide +kernel
theorem dX2_giveRests_14 : decode cX2_giveRests 14 = .ok (.invokevirtual 123, 3) := by decide +kernel
theorem dX2_giveRests_17 : decode cX2_giveRests 17 = .ok (.istore_n 3, 1) := by decide +kernel
theorem dX2_giveRests_18 : decode cX2_giveRests 18 = .ok (.iload_n 3, 1) := by decide +kernel
theorem dX2_giveRests_19 : decode cX2_giveRests 19 = .ok (.ifCond .lt 40, 3) := by decide +kernel
theorem dX2_giveRests_22 : decode cX2_giveRests 22 = .ok (.iload_n 3, 1) := by decide +kernel
theorem dX2_giveRests_23 : decode cX2_giveRests 23 = .ok (.aload_n 0, 1) := by decide +kernel
theorem dX2_giveRests_24 : decode cX2_giveRests 24 = .ok (.getfield 19, 3) := by decide +kernel
theorem dX2_giveRests_27 : decode cX2_giveRests 27 = .ok (.arraylength, 1) := by decide +kernel
theorem dX2_giveRests_28 : decode cX2_giveRests 28 = .ok (.if_icmp .ge 31, 3) := by decide +kernel
theorem dX2_giveRests_31 : decode cX2_giveRests 31 = .ok (.iload_n 3, 1) := by decide +kernel
theorem dX2_giveRests_32 : decode cX2_giveRests 32 = .ok (.aload_n 0, 1) := by decide +kernel
theorem dX2_giveRests_33 : decode cX2_giveRests 33 = .ok (.getfield 22, 3) := by decide +kernel
theorem dX2_giveRests_36 : decode cX2_giveRests 36 = .ok (.arraylength, 1) := by decide +kernel
theorem dX2_giveRests_37 : decode cX2_giveRests 37 = .ok (.if_icmp .ge 22, 3) := by decide +kernel
theorem dX2_giveRests_40 : decode cX2_giveRests 40 = .ok (.aload_n 0, 1) := by decide +kernel
theorem dX2_giveRests_41 : decode cX2_giveRests 41 = .ok (.getfield 19, 3) := by decide +kernel
theorem dX2_giveRests_44 : decode cX2_giveRests 44 = .ok (.iload_n 3, 1) := by decide +kernel
theorem dX2_giveRests_45 : decode cX2_giveRests 45 = .ok (.dup2, 1) := by decide +kernel
theorem dX2_giveRests_46 : decode cX2_giveRests 46 = .ok (.iaload, 1) := by decide +kernel
theorem dX2_giveRests_47 : decode cX2_giveRests 47 = .ok (.iconst 1, 1) := by decide +kernel
theorem dX2_giveRests_48 : decode cX2_giveRests 48 = .ok (.iadd, 1) := by decide +kernel
theorem dX2_giveRests_49 : decode cX2_giveRests 49 = .ok (.iastore, 1) := by decide +kernel
theorem dX2_giveRests_50 : decode cX2_giveRests 50 = .ok (.aload_n 0, 1) := by decide +kernel
theorem dX2_giveRests_51 : decode cX2_giveRests 51 = .ok (.getfield 22, 3) := by decide +kernel
theorem dX2_giveRests_54 : decode cX2_giveRests 54 = .ok (.iload_n 3, 1) := by decide +kernel
theorem dX2_giveRests_55 : decode cX2_giveRests 55 = .ok (.ldc2_w 126, 3) := by decide +kernel
theorem dX2_giveRests_58 : decode cX2_giveRests 58 = .ok (.lastore, 1) := by decide +kernel
theorem dX2_giveRests_59 : decode cX2_giveRests 59 = .ok (.iinc 2 1, 3) := by decide +kernel
theorem dX2_giveRests_62 : decode cX2_giveRests 62 = .ok (.goto (-60), 3) := by decide +kernel
theorem dX2_giveRests_65 : decode cX2_giveRests 65 = .ok (.return_, 1) := by decide +kernel
theorem dX2_placeOfGreatestRest_0 : decode cX2_placeOfGreatestRest 0 = .ok (.iconst 0, 1) := by decide +kernel
theorem dX2_placeOfGreatestRest_1 : decode cX2_placeOfGreatestRest 1 = .ok (.istore_n 1, 1) := by decide +kernel
theorem dX2_placeOfGreatestRest_2 : decode cX2_placeOfGreatestRest 2 = .ok (.ldc2_w 126, 3) := by decide +kernel
theorem dX2_placeOfGreatestRest_5 : decode cX2_placeOfGreatestRest 5 = .ok (.lstore_n 2, 1) := by decide +kernel
theorem dX2_placeOfGreatestRest_6 : decode cX2_placeOfGreatestRest 6 = .ok (.iconst 0, 1) := by decide +kernel
theorem dX2_placeOfGreatestRest_7 : decode cX2_placeOfGreatestRest 7 = .ok (.istore 4, 2) := by decide +kernel
theorem dX2_placeOfGreatestRest_9 : decode cX2_placeOfGreatestRest 9 = .ok (.iload 4, 2) := by decide +kernel
theorem dX2_placeOfGreatestRest_11 : decode cX2_placeOfGreatestRest 11 = .ok (.aload_n 0, 1) := by decide +kernel
theorem dX2_placeOfGreatestRest_12 : decode cX2_placeOfGreatestRest 12 = .ok (.getfield 22, 3) := by decide +kernel
theorem dX2_placeOfGreatestRest_15 : decode cX2_placeOfGreatestRest 15 = .ok (.arraylength, 1) := by decide +kernel
theorem dX2_placeOfGreatestRest_16 : decode cX2_placeOfGreatestRest 16 = .ok (.if_icmp .ge 32, 3) := by decide +kernel
theorem dX2_placeOfGreatestRest_19 : decode cX2_placeOfGreatestRest 19 = .ok (.aload_n 0, 1) := by decide +kernel
theorem dX2_placeOfGreatestRest_20 : decode cX2_placeOfGreatestRest 20 = .ok (.getfield 22, 3) := by decide +kernel
theorem dX2_placeOfGreatestRest_23 : decode cX2_placeOfGreatestRest 23 = .ok (.iload 4, 2) := by decide +kernel
theorem dX2_placeOfGreatestRest_25 : decode cX2_placeOfGreatestRest 25 = .ok (.laload, 1) := by decide +kernel
theorem dX2_placeOfGreatestRest_26 : decode cX2_placeOfGreatestRest 26 = .ok (.lload_n 2, 1) := by decide +kernel
theorem dX2_placeOfGreatestRest_27 : decode cX2_placeOfGreatestRest 27 = .ok (.lcmp, 1) := by decide +kernel
theorem dX2_placeOfGreatestRest_28 : decode cX2_placeOfGreatestRest 28 = .ok (.ifCond .le 14, 3) := by decide +kernel
theorem dX2_placeOfGreatestRest_31 : decode cX2_placeOfGreatestRest 31 = .ok (.aload_n 0, 1) := by decide +kernel
theorem dX2_placeOfGreatestRest_32 : decode cX2_placeOfGreatestRest 32 = .ok (.getfield 22, 3) := by decide +kernel
theorem dX2_placeOfGreatestRest_35 : decode cX2_placeOfGreatestRest 35 = .ok (.iload 4, 2) := by decide +kernel
theorem dX2_placeOfGreatestRest_37 : decode cX2_placeOfGreatestRest 37 = .ok (.laload, 1) := by decide +kernel
theorem dX2_placeOfGreatestRest_38 : decode cX2_placeOfGreatestRest 38 = .ok (.lstore_n 2, 1) := by decide +kernel
theorem dX2_placeOfGreatestRest_39 : decode cX2_placeOfGreatestRest 39 = .ok (.iload 4, 2) := by decide +kernel
theorem dX2_placeOfGreatestRest_41 : decode cX2_placeOfGreatestRest 41 = .ok (.istore_n 1, 1) := by decide +kernel
theorem dX2_placeOfGreatestRest_42 : decode cX2_placeOfGreatestRest 42 = .ok (.iinc 4 1, 3) := by decide +kernel
theorem dX2_placeOfGreatestRest_45 : decode cX2_placeOfGreatestRest 45 = .ok (.goto (-36), 3) := by decide +kernel
theorem dX2_placeOfGreatestRest_48 : decode cX2_placeOfGreatestRest 48 = .ok (.iload_n 1, 1) := by decide +kernel
theorem dX2_placeOfGreatestRest_49 : decode cX2_placeOfGreatestRest 49 = .ok (.ireturn, 1) := by decide +kernel
theorem dX2_replaceShares_0 : decode cX2_replaceShares 0 = .ok (.iconst 0, 1) := by decide +kernel
theorem dX2_replaceShares_1 : decode cX2_replaceShares 1 = .ok (.istore_n 2, 1) := by decide +kernel
theorem dX2_replaceShares_2 : decode cX2_replaceShares 2 = .ok (.iconst 0, 1) := by decide +kernel
theorem dX2_replaceShares_3 : decode cX2_replaceShares 3 = .ok (.istore_n 3, 1) := by decide +kernel
theorem dX2_replaceShares_4 : decode cX2_replaceShares 4 = .ok (.iload_n 3, 1) := by decide +kernel
theorem dX2_replaceShares_5 : decode cX2_replaceShares 5 = .ok (.aload_n 0, 1) := by decide +kernel
theorem dX2_replaceShares_6 : decode cX2_replaceShares 6 = .ok (.getfield 19, 3) := by decide +kernel
theorem dX2_replaceShares_9 : decode cX2_replaceShares 9 = .ok (.arraylength, 1) := by decide +kernel
theorem dX2_replaceShares_10 : decode cX2_replaceShares 10 = .ok (.if_icmp .ge 63, 3) := by decide +kernel
theorem dX2_replaceShares_13 : decode cX2_replaceShares 13 = .ok (.iload_n 1, 1) := by decide +kernel
theorem dX2_replaceShares_14 : decode cX2_replaceShares 14 = .ok (.iload_n 3, 1) := by decide +kernel
theorem dX2_replaceShares_15 : decode cX2_replaceShares 15 = .ok (.invokestatic 29, 3) := by decide +kernel
theorem dX2_replaceShares_18 : decode cX2_replaceShares 18 = .ok (.istore 4, 2) := by decide +kernel
theorem dX2_replaceShares_20 : decode cX2_replaceShares 20 = .ok (.iload 4, 2) := by decide +kernel
theorem dX2_replaceShares_22 : decode cX2_replaceShares 22 = .ok (.ifCond .lt 45, 3) := by decide +kernel
theorem dX2_replaceShares_25 : decode cX2_replaceShares 25 = .ok (.iload 4, 2) := by decide +kernel
theorem dX2_replaceShares_27 : decode cX2_replaceShares 27 = .ok (.aload_n 0, 1) := by decide +kernel
theorem dX2_replaceShares_28 : decode cX2_replaceShares 28 = .ok (.getfield 9, 3) := by decide +kernel
theorem dX2_replaceShares_31 : decode cX2_replaceShares 31 = .ok (.arraylength, 1) := by decide +kernel
theorem dX2_replaceShares_32 : decode cX2_replaceShares 32 = .ok (.if_icmp .ge 35, 3) := by decide +kernel
theorem dX2_replaceShares_35 : decode cX2_replaceShares 35 = .ok (.aload_n 0, 1) := by decide +kernel
theorem dX2_replaceShares_36 : decode cX2_replaceShares 36 = .ok (.getfield 9, 3) := by decide +kernel
theorem dX2_replaceShares_39 : decode cX2_replaceShares 39 = .ok (.iload 4, 2) := by decide +kernel
theorem dX2_replaceShares_41 : decode cX2_replaceShares 41 = .ok (.iaload, 1) := by decide +kernel
theorem dX2_replaceShares_42 : decode cX2_replaceShares 42 = .ok (.aload_n 0, 1) := by decide +kernel
theorem dX2_replaceShares_43 : decode cX2_replaceShares 43 = .ok (.getfield 19, 3) := by decide +kernel
theorem dX2_replaceShares_46 : decode cX2_replaceShares 46 = .ok (.iload_n 3, 1) := by decide +kernel
theorem dX2_replaceShares_47 : decode cX2_replaceShares 47 = .ok (.iaload, 1) := by decide +kernel
theorem dX2_replaceShares_48 : decode cX2_replaceShares 48 = .ok (.if_icmp .eq 19, 3) := by decide +kernel
theorem dX2_replaceShares_51 : decode cX2_replaceShares 51 = .ok (.aload_n 0, 1) := by decide +kernel
theorem dX2_replaceShares_52 : decode cX2_replaceShares 52 = .ok (.getfield 9, 3) := by decide +kernel
theorem dX2_replaceShares_55 : decode cX2_replaceShares 55 = .ok (.iload 4, 2) := by decide +kernel
theorem dX2_replaceShares_57 : decode cX2_replaceShares 57 = .ok (.aload_n 0, 1) := by decide +kernel
theorem dX2_replaceShares_58 : decode cX2_replaceShares 58 = .ok (.getfield 19, 3) := by decide +kernel
theorem dX2_replaceShares_61 : decode cX2_replaceShares 61 = .ok (.iload_n 3, 1) := by decide +kernel
theorem dX2_replaceShares_62 : decode cX2_replaceShares 62 = .ok (.iaload, 1) := by decide +kernel
theorem dX2_replaceShares_63 : decode cX2_replaceShares 63 = .ok (.iastore, 1) := by decide +kernel
theorem dX2_replaceShares_64 : decode cX2_replaceShares 64 = .ok (.iinc 2 1, 3) := by decide +kernel
theorem dX2_replaceShares_67 : decode cX2_replaceShares 67 = .ok (.iinc 3 1, 3) := by decide +kernel
theorem dX2_replaceShares_70 : decode cX2_replaceShares 70 = .ok (.goto (-66), 3) := by decide +kernel
theorem dX2_replaceShares_73 : decode cX2_replaceShares 73 = .ok (.iload_n 2, 1) := by decide +kernel
theorem dX2_replaceShares_74 : decode cX2_replaceShares 74 = .ok (.ireturn, 1) := by decide +kernel
theorem dX2_sharesAboveZero_0 : decode cX2_sharesAboveZero 0 = .ok (.iconst 0, 1) := by decide +kernel
theorem dX2_sharesAboveZero_1 : decode cX2_sharesAboveZero 1 = .ok (.istore_n 1, 1) := by decide +kernel
theorem dX2_sharesAboveZero_2 : decode cX2_sharesAboveZero 2 = .ok (.iconst 0, 1) := by decide +kernel
theorem dX2_sharesAboveZero_3 : decode cX2_sharesAboveZero 3 = .ok (.istore_n 2, 1) := by decide +kernel
theorem dX2_sharesAboveZero_4 : decode cX2_sharesAboveZero 4 = .ok (.iload_n 2, 1) := by decide +kernel
theorem dX2_sharesAboveZero_5 : decode cX2_sharesAboveZero 5 = .ok (.aload_n 0, 1) := by decide +kernel
theorem dX2_sharesAboveZero_6 : decode cX2_sharesAboveZero 6 = .ok (.getfield 9, 3) := by decide +kernel
theorem dX2_sharesAboveZero_9 : decode cX2_sharesAboveZero 9 = .ok (.arraylength, 1) := by decide +kernel
theorem dX2_sharesAboveZero_10 : decode cX2_sharesAboveZero 10 = .ok (.if_icmp .ge 21, 3) := by decide +kernel
theorem dX2_sharesAboveZero_13 : decode cX2_sharesAboveZero 13 = .ok (.aload_n 0, 1) := by decide +kernel
theorem dX2_sharesAboveZero_14 : decode cX2_sharesAboveZero 14 = .ok (.getfield 9, 3) := by decide +kernel
theorem dX2_sharesAboveZero_17 : decode cX2_sharesAboveZero 17 = .ok (.iload_n 2, 1) := by decide +kernel
theorem dX2_sharesAboveZero_18 : decode cX2_sharesAboveZero 18 = .ok (.iaload, 1) := by decide +kernel
theorem dX2_sharesAboveZero_19 : decode cX2_sharesAboveZero 19 = .ok (.ifCond .le 6, 3) := by decide +kernel
theorem dX2_sharesAboveZero_22 : decode cX2_sharesAboveZero 22 = .ok (.iinc 1 1, 3) := by decide +kernel
theorem dX2_sharesAboveZero_25 : decode cX2_sharesAboveZero 25 = .ok (.iinc 2 1, 3) := by decide +kernel
theorem dX2_sharesAboveZero_28 : decode cX2_sharesAboveZero 28 = .ok (.goto (-24), 3) := by decide +kernel
theorem dX2_sharesAboveZero_31 : decode cX2_sharesAboveZero 31 = .ok (.iload_n 1, 1) := by decide +kernel
theorem dX2_sharesAboveZero_32 : decode cX2_sharesAboveZero 32 = .ok (.ireturn, 1) := by decide +kernel
theorem dX3_init_0 : decode cX3_init 0 = .ok (.aload_n 0, 1) := by decide +kernel
theorem dX3_init_1 : decode cX3_init 1 = .ok (.invokespecial 3, 3) := by decide +kernel
theorem dX3_init_4 : decode cX3_init 4 = .ok (.aload_n 0, 1) := by decide +kernel
theorem dX3_init_5 : decode cX3_init 5 = .ok (.bipush 36, 2) := by decide +kernel
theorem dX3_init_7 : decode cX3_init 7 = .ok (.newarray .long, 2) := by decide +kernel
theorem dX3_init_9 : decode cX3_init 9 = .ok (.putfield 9, 3) := by decide +kernel
theorem dX3_init_12 : decode cX3_init 12 = .ok (.return_, 1) := by decide +kernel
theorem dX3_consider_0 : decode cX3_consider 0 = .ok (.aload_n 1, 1) := by decide +kernel
theorem dX3_consider_1 : decode cX3_consider 1 = .ok (.iconst 0, 1) := by decide +kernel
theorem dX3_consider_2 : decode cX3_consider 2 = .ok (.invokevirtual 15, 3) := by decide +kernel
theorem dX3_consider_5 : decode cX3_consider 5 = .ok (.astore_n 3, 1) := by decide +kernel
theorem dX3_consider_6 : decode cX3_consider 6 = .ok (.aload_n 1, 1) := by decide +kernel
theorem dX3_consider_7 : decode cX3_consider 7 = .ok (.iconst 1, 1) := by decide +kernel
theorem dX3_consider_8 : decode cX3_consider 8 = .ok (.invokevirtual 15, 3) := by decide +kernel
theorem dX3_consider_11 : decode cX3_consider 11 = .ok (.astore 4, 2) := by decide +kernel
theorem dX3_consider_13 : decode cX3_consider 13 = .ok (.aload_n 0, 1) := by decide +kernel
theorem dX3_consider_14 : decode cX3_consider 14 = .ok (.aload 4, 2) := by decide +kernel
theorem dX3_consider_16 : decode cX3_consider 16 = .ok (.invokevirtual 21, 3) := by decide +kernel
theorem dX3_consider_19 : decode cX3_consider 19 = .ok (.iconst 4, 1) := by decide +kernel
theorem dX3_consider_20 : decode cX3_consider 20 = .ok (.invokestatic 27, 3) := by decide +kernel
theorem dX3_consider_23 : decode cX3_consider 23 = .ok (.putfield 33, 3) := by decide +kernel
theorem dX3_consider_26 : decode cX3_consider 26 = .ok (.aload_n 0, 1) := by decide +kernel
theorem dX3_consider_27 : decode cX3_consider 27 = .ok (.aload_n 3, 1) := by decide +kernel
theorem dX3_consider_28 : decode cX3_consider 28 = .ok (.invokevirtual 21, 3) := by decide +kernel
theorem dX3_consider_31 : decode cX3_consider 31 = .ok (.iconst 1, 1) := by decide +kernel
theorem dX3_consider_32 : decode cX3_consider 32 = .ok (.iadd, 1) := by decide +kernel
theorem dX3_consider_33 : decode cX3_consider 33 = .ok (.putfield 37, 3) := by decide +kernel
theorem dX3_consider_36 : decode cX3_consider 36 = .ok (.iconst 0, 1) := by decide +kernel
theorem dX3_consider_37 : decode cX3_consider 37 = .ok (.istore 5, 2) := by decide +kernel
theorem dX3_consider_39 : decode cX3_consider 39 = .ok (.iload 5, 2) := by decide +kernel
theorem dX3_consider_41 : decode cX3_consider 41 = .ok (.aload_n 0, 1) := by decide +kernel
theorem dX3_consider_42 : decode cX3_consider 42 = .ok (.getfield 33, 3) := by decide +kernel
theorem dX3_consider_45 : decode cX3_consider 45 = .ok (.if_icmp .ge 87, 3) := by decide +kernel
theorem dX3_consider_48 : decode cX3_consider 48 = .ok (.aload 4, 2) := by decide +kernel
theorem dX3_consider_50 : decode cX3_consider 50 = .ok (.iload 5, 2) := by decide +kernel
theorem dX3_consider_52 : decode cX3_consider 52 = .ok (.invokevirtual 40, 3) := by decide +kernel
theorem dX3_consider_55 : decode cX3_consider 55 = .ok (.istore 6, 2) := by decide +kernel
theorem dX3_consider_57 : decode cX3_consider 57 = .ok (.aload_n 0, 1) := by decide +kernel
theorem dX3_consider_58 : decode cX3_consider 58 = .ok (.iload 5, 2) := by decide +kernel
theorem dX3_consider_60 : decode cX3_consider 60 = .ok (.iconst 0, 1) := by decide +kernel
theorem dX3_consider_61 : decode cX3_consider 61 = .ok (.aload_n 2, 1) := by decide +kernel
theorem dX3_consider_62 : decode cX3_consider 62 = .ok (.bipush 15, 2) := by decide +kernel
theorem dX3_consider_64 : decode cX3_consider 64 = .ok (.iload 6, 2) := by decide +kernel
theorem dX3_consider_66 : decode cX3_consider 66 = .ok (.invokevirtual 44, 3) := by decide +kernel
theorem dX3_consider_69 : decode cX3_consider 69 = .ok (.sipush 1000, 3) := by decide +kernel
theorem dX3_consider_72 : decode cX3_consider 72 = .ok (.idiv, 1) := by decide +kernel
theorem dX3_consider_73 : decode cX3_consider 73 = .ok (.i2l, 1) := by decide +kernel
theorem dX3_consider_74 : decode cX3_consider 74 = .ok (.invokevirtual 49, 3) := by decide +kernel
theorem dX3_consider_77 : decode cX3_consider 77 = .ok (.iconst 0, 1) := by decide +kernel
theorem dX3_consider_78 : decode cX3_consider 78 = .ok (.istore 7, 2) := by decide +kernel
theorem dX3_consider_80 : decode cX3_consider 80 = .ok (.iload 7, 2) := by decide +kernel
theorem dX3_consider_82 : decode cX3_consider 82 = .ok (.aload_n 3, 1) := by decide +kernel
theorem dX3_consider_83 : decode cX3_consider 83 = .ok (.invokevirtual 21, 3) := by decide +kernel
theorem dX3_consider_86 : decode cX3_consider 86 = .ok (.if_icmp .ge 40, 3) := by decide +kernel
theorem dX3_consider_89 : decode cX3_consider 89 = .ok (.aload_n 2, 1) := by decide +kernel
theorem dX3_consider_90 : decode cX3_consider 90 = .ok (.aload_n 3, 1) := by decide +kernel
theorem dX3_consider_91 : decode cX3_consider 91 = .ok (.iload 7, 2) := by decide +kernel
theorem dX3_consider_93 : decode cX3_consider 93 = .ok (.invokevirtual 40, 3) := by decide +kernel
theorem dX3_consider_96 : decode cX3_consider 96 = .ok (.iload 6, 2) := by decide +kernel
theorem dX3_consider_98 : decode cX3_consider 98 = .ok (.invokevirtual 44, 3) := by decide +kernel
theorem dX3_consider_101 : decode cX3_consider 101 = .ok (.istore 8, 2) := by decide +kernel
theorem dX3_consider_103 : decode cX3_consider 103 = .ok (.aload_n 0, 1) := by decide +kernel
theorem dX3_consider_104 : decode cX3_consider 104 = .ok (.iload 5, 2) := by decide +kernel
theorem dX3_consider_106 : decode cX3_consider 106 = .ok (.iload 7, 2) := by decide +kernel
theorem dX3_consider_108 : decode cX3_consider 108 = .ok (.iconst 1, 1) := by decide +kernel
theorem dX3_consider_109 : decode cX3_consider 109 = .ok (.iadd, 1) := by decide +kernel
theorem dX3_consider_110 : decode cX3_consider 110 = .ok (.iload 8, 2) := by decide +kernel
theorem dX3_consider_112 : decode cX3_consider 112 = .ok (.sipush 1000, 3) := by decide +kernel
theorem dX3_consider_115 : decode cX3_consider 115 = .ok (.idiv, 1) := by decide +kernel
theorem dX3_consider_116 : decode cX3_consider 116 = .ok (.i2l, 1) := by decide +kernel
theorem dX3_consider_117 : decode cX3_consider 117 = .ok (.invokevirtual 49, 3) := by decide +kernel
theorem dX3_consider_120 : decode cX3_consider 120 = .ok (.iinc 7 1, 3) := by decide +kernel
theorem dX3_consider_123 : decode cX3_consider 123 = .ok (.goto (-43), 3) := by decide +kernel
theorem dX3_consider_126 : decode cX3_consider 126 = .ok (.iinc 5 1, 3) := by decide +kernel
theorem dX3_consider_129 : decode cX3_consider 129 = .ok (.goto (-90), 3) := by decide +kernel
theorem dX3_consider_132 : decode cX3_consider 132 = .ok (.return_, 1) := by decide +kernel
theorem dX3_productOfSums_0 : decode cX3_productOfSums 0 = .ok (.lconst 1, 1) := by decide +kernel
theorem dX3_productOfSums_1 : decode cX3_productOfSums 1 = .ok (.lstore_n 1, 1) := by decide +kernel
theorem dX3_productOfSums_2 : decode cX3_productOfSums 2 = .ok (.iconst 0, 1) := by decide +kernel
theorem dX3_productOfSums_3 : decode cX3_productOfSums 3 = .ok (.istore_n 3, 1) := by decide +kernel
theorem dX3_productOfSums_4 : decode cX3_productOfSums 4 = .ok (.iload_n 3, 1) := by decide +kernel
theorem dX3_productOfSums_5 : decode cX3_productOfSums 5 = .ok (.aload_n 0, 1) := by decide +kernel
theorem dX3_productOfSums_6 : decode cX3_productOfSums 6 = .ok (.getfield 33, 3) := by decide +kernel
theorem dX3_productOfSums_9 : decode cX3_productOfSums 9 = .ok (.if_icmp .ge 50, 3) := by decide +kernel
theorem dX3_productOfSums_12 : decode cX3_productOfSums 12 = .ok (.lconst 0, 1) := by decide +kernel
theorem dX3_productOfSums_13 : decode cX3_productOfSums 13 = .ok (.lstore 4, 2) := by decide +kernel
theorem dX3_productOfSums_15 : decode cX3_productOfSums 15 = .ok (.iconst 0, 1) := by decide +kernel
theorem dX3_productOfSums_16 : decode cX3_productOfSums 16 = .ok (.istore 6, 2) := by decide +kernel
theorem dX3_productOfSums_18 : decode cX3_productOfSums 18 = .ok (.iload 6, 2) := by decide +kernel
theorem dX3_productOfSums_20 : decode cX3_productOfSums 20 = .ok (.aload_n 0, 1) := by decide +kernel
theorem dX3_productOfSums_21 : decode cX3_productOfSums 21 = .ok (.getfield 37, 3) := by decide +kernel
theorem dX3_productOfSums_24 : decode cX3_productOfSums 24 = .ok (.if_icmp .ge 24, 3) := by decide +kernel
theorem dX3_productOfSums_27 : decode cX3_productOfSums 27 = .ok (.lload 4, 2) := by decide +kernel
theorem dX3_productOfSums_29 : decode cX3_productOfSums 29 = .ok (.aload_n 0, 1) := by decide +kernel
theorem dX3_productOfSums_30 : decode cX3_productOfSums 30 = .ok (.getfield 9, 3) := by decide +kernel
theorem dX3_productOfSums_33 : decode cX3_productOfSums 33 = .ok (.iload_n 3, 1) := by decide +kernel
theorem dX3_productOfSums_34 : decode cX3_productOfSums 34 = .ok (.iload 6, 2) := by decide +kernel
theorem dX3_productOfSums_36 : decode cX3_productOfSums 36 = .ok (.invokestatic 53, 3) := by decide +kernel
theorem dX3_productOfSums_39 : decode cX3_productOfSums 39 = .ok (.ladd, 1) := by decide +kernel
theorem dX3_productOfSums_40 : decode cX3_productOfSums 40 = .ok (.lstore 4, 2) := by decide +kernel
theorem dX3_productOfSums_42 : decode cX3_productOfSums 42 = .ok (.iinc 6 1, 3) := by decide +kernel
theorem dX3_productOfSums_45 : decode cX3_productOfSums 45 = .ok (.goto (-27), 3) := by decide +kernel
theorem dX3_productOfSums_48 : decode cX3_productOfSums 48 = .ok (.lload_n 1, 1) := by decide +kernel
theorem dX3_productOfSums_49 : decode cX3_productOfSums 49 = .ok (.lload 4, 2) := by decide +kernel
theorem dX3_productOfSums_51 : decode cX3_productOfSums 51 = .ok (.lmul, 1) := by decide +kernel
theorem dX3_productOfSums_52 : decode cX3_productOfSums 52 = .ok (.lstore_n 1, 1) := by decide +kernel
theorem dX3_productOfSums_53 : decode cX3_productOfSums 53 = .ok (.iinc 3 1, 3) := by decide +kernel
theorem dX3_productOfSums_56 : decode cX3_productOfSums 56 = .ok (.goto (-52), 3) := by decide +kernel
theorem dX3_productOfSums_59 : decode cX3_productOfSums 59 = .ok (.lload_n 1, 1) := by decide +kernel
theorem dX3_productOfSums_60 : decode cX3_productOfSums 60 = .ok (.lreturn, 1) := by decide +kernel
theorem dX3_sumOfProducts_0 : decode cX3_sumOfProducts 0 = .ok (.aload_n 0, 1) := by decide +kernel
theorem dX3_sumOfProducts_1 : decode cX3_sumOfProducts 1 = .ok (.getfield 9, 3) := by decide +kernel
theorem dX3_sumOfProducts_4 : decode cX3_sumOfProducts 4 = .ok (.aload_n 0, 1) := by decide +kernel
theorem dX3_sumOfProducts_5 : decode cX3_sumOfProducts 5 = .ok (.getfield 33, 3) := by decide +kernel
theorem dX3_sumOfProducts_8 : decode cX3_sumOfProducts 8 = .ok (.aload_n 0, 1) := by decide +kernel
theorem dX3_sumOfProducts_9 : decode cX3_sumOfProducts 9 = .ok (.getfield 37, 3) := by decide +kernel
theorem dX3_sumOfProducts_12 : decode cX3_sumOfProducts 12 = .ok (.iconst 0, 1) := by decide +kernel
theorem dX3_sumOfProducts_13 : decode cX3_sumOfProducts 13 = .ok (.lconst 1, 1) := by decide +kernel
theorem dX3_sumOfProducts_14 : decode cX3_sumOfProducts 14 = .ok (.invokestatic 57, 3) := by decide +kernel
theorem dX3_sumOfProducts_17 : decode cX3_sumOfProducts 17 = .ok (.lreturn, 1) := by decide +kernel
theorem dX3_sumOfWays_0 : decode cX3_sumOfWays 0 = .ok (.iload_n 3, 1) := by decide +kernel
theorem dX3_sumOfWays_1 : decode cX3_sumOfWays 1 = .ok (.iload_n 1, 1) := by decide +kernel
theorem dX3_sumOfWays_2 : decode cX3_sumOfWays 2 = .ok (.if_icmp .ge 8, 3) := by decide +kernel
theorem dX3_sumOfWays_5 : decode cX3_sumOfWays 5 = .ok (.iload_n 3, 1) := by decide +kernel
theorem dX3_sumOfWays_6 : decode cX3_sumOfWays 6 = .ok (.iconst 4, 1) := by decide +kernel
theorem dX3_sumOfWays_7 : decode cX3_sumOfWays 7 = .ok (.if_icmp .lt 6, 3) := by decide +kernel
theorem dX3_sumOfWays_10 : decode cX3_sumOfWays 10 = .ok (.lload 4, 2) := by decide +kernel
theorem dX3_sumOfWays_12 : decode cX3_sumOfWays 12 = .ok (.lreturn, 1) := by decide +kernel
theorem dX3_sumOfWays_13 : decode cX3_sumOfWays 13 = .ok (.lconst 0, 1) := by decide +kernel
theorem dX3_sumOfWays_14 : decode cX3_sumOfWays 14 = .ok (.lstore 6, 2) := by decide +kernel
theorem dX3_sumOfWays_16 : decode cX3_sumOfWays 16 = .ok (.iconst 0, 1) := by decide +kernel
theorem dX3_sumOfWays_17 : decode cX3_sumOfWays 17 = .ok (.istore 8, 2) := by decide +kernel
theorem dX3_sumOfWays_19 : decode cX3_sumOfWays 19 = .ok (.iload 8, 2) := by decide +kernel
theorem dX3_sumOfWays_21 : decode cX3_sumOfWays 21 = .ok (.iload_n 2, 1) := by decide +kernel
theorem dX3_sumOfWays_22 : decode cX3_sumOfWays 22 = .ok (.if_icmp .ge 37, 3) := by decide +kernel
theorem dX3_sumOfWays_25 : decode cX3_sumOfWays 25 = .ok (.lload 4, 2) := by decide +kernel
theorem dX3_sumOfWays_27 : decode cX3_sumOfWays 27 = .ok (.aload_n 0, 1) := by decide +kernel
theorem dX3_sumOfWays_28 : decode cX3_sumOfWays 28 = .ok (.iload_n 3, 1) := by decide +kernel
theorem dX3_sumOfWays_29 : decode cX3_sumOfWays 29 = .ok (.iload 8, 2) := by decide +kernel
theorem dX3_sumOfWays_31 : decode cX3_sumOfWays 31 = .ok (.invokestatic 53, 3) := by decide +kernel
theorem dX3_sumOfWays_34 : decode cX3_sumOfWays 34 = .ok (.lmul, 1) := by decide +kernel
theorem dX3_sumOfWays_35 : decode cX3_sumOfWays 35 = .ok (.lstore 9, 2) := by decide +kernel
theorem dX3_sumOfWays_37 : decode cX3_sumOfWays 37 = .ok (.lload 6, 2) := by decide +kernel
theorem dX3_sumOfWays_39 : decode cX3_sumOfWays 39 = .ok (.aload_n 0, 1) := by decide +kernel
theorem dX3_sumOfWays_40 : decode cX3_sumOfWays 40 = .ok (.iload_n 1, 1) := by decide +kernel
theorem dX3_sumOfWays_41 : decode cX3_sumOfWays 41 = .ok (.iload_n 2, 1) := by decide +kernel
theorem dX3_sumOfWays_42 : decode cX3_sumOfWays 42 = .ok (.iload_n 3, 1) := by decide +kernel
theorem dX3_sumOfWays_43 : decode cX3_sumOfWays 43 = .ok (.iconst 1, 1) := by decide +kernel
theorem dX3_sumOfWays_44 : decode cX3_sumOfWays 44 = .ok (.iadd, 1) := by decide +kernel
theorem dX3_sumOfWays_45 : decode cX3_sumOfWays 45 = .ok (.lload 9, 2) := by decide +kernel
theorem dX3_sumOfWays_47 : decode cX3_sumOfWays 47 = .ok (.invokestatic 57, 3) := by decide +kernel
theorem dX3_sumOfWays_50 : decode cX3_sumOfWays 50 = .ok (.ladd, 1) := by decide +kernel
theorem dX3_sumOfWays_51 : decode cX3_sumOfWays 51 = .ok (.lstore 6, 2) := by decide +kernel
theorem dX3_sumOfWays_53 : decode cX3_sumOfWays 53 = .ok (.iinc 8 1, 3) := by decide +kernel
theorem dX3_sumOfWays_56 : decode cX3_sumOfWays 56 = .ok (.goto (-37), 3) := by decide +kernel
theorem dX3_sumOfWays_59 : decode cX3_sumOfWays 59 = .ok (.lload 6, 2) := by decide +kernel
theorem dX3_sumOfWays_61 : decode cX3_sumOfWays 61 = .ok (.lreturn, 1) := by decide +kernel
theorem dX3_setPart_0 : decode cX3_setPart 0 = .ok (.iload_n 1, 1) := by decide +kernel
theorem dX3_setPart_1 : decode cX3_setPart 1 = .ok (.iload_n 2, 1) := by decide +kernel
theorem dX3_setPart_2 : decode cX3_setPart 2 = .ok (.invokestatic 61, 3) := by decide +kernel
theorem dX3_setPart_5 : decode cX3_setPart 5 = .ok (.istore 5, 2) := by decide +kernel
theorem dX3_setPart_7 : decode cX3_setPart 7 = .ok (.iload 5, 2) := by decide +kernel
theorem dX3_setPart_9 : decode cX3_setPart 9 = .ok (.ifCond .lt 21, 3) := by decide +kernel
theorem dX3_setPart_12 : decode cX3_setPart 12 = .ok (.iload 5, 2) := by decide +kernel
theorem dX3_setPart_14 : decode cX3_setPart 14 = .ok (.aload_n 0, 1) := by decide +kernel
theorem dX3_setPart_15 : decode cX3_setPart 15 = .ok (.getfield 9, 3) := by decide +kernel
theorem dX3_setPart_18 : decode cX3_setPart 18 = .ok (.arraylength, 1) := by decide +kernel
theorem dX3_setPart_19 : decode cX3_setPart 19 = .ok (.if_icmp .ge 11, 3) := by decide +kernel
theorem dX3_setPart_22 : decode cX3_setPart 22 = .ok (.aload_n 0, 1) := by decide +kernel
theorem dX3_setPart_23 : decode cX3_setPart 23 = .ok (.getfield 9, 3) := by decide +kernel
theorem dX3_setPart_26 : decode cX3_setPart 26 = .ok (.iload 5, 2) := by decide +kernel
theorem dX3_setPart_28 : decode cX3_setPart 28 = .ok (.lload_n 3, 1) := by decide +kernel
theorem dX3_setPart_29 : decode cX3_setPart 29 = .ok (.lastore, 1) := by decide +kernel
theorem dX3_setPart_30 : decode cX3_setPart 30 = .ok (.return_, 1) := by decide +kernel
theorem dX3_partOf_0 : decode cX3_partOf 0 = .ok (.iload_n 1, 1) := by decide +kernel
theorem dX3_partOf_1 : decode cX3_partOf 1 = .ok (.iload_n 2, 1) := by decide +kernel
theorem dX3_partOf_2 : decode cX3_partOf 2 = .ok (.invokestatic 61, 3) := by decide +kernel
theorem dX3_partOf_5 : decode cX3_partOf 5 = .ok (.istore_n 3, 1) := by decide +kernel
theorem dX3_partOf_6 : decode cX3_partOf 6 = .ok (.aload_n 0, 1) := by decide +kernel
theorem dX3_partOf_7 : decode cX3_partOf 7 = .ok (.ifnull 19, 3) := by decide +kernel
theorem dX3_partOf_10 : decode cX3_partOf 10 = .ok (.iload_n 3, 1) := by decide +kernel
theorem dX3_partOf_11 : decode cX3_partOf 11 = .ok (.ifCond .lt 15, 3) := by decide +kernel
theorem dX3_partOf_14 : decode cX3_partOf 14 = .ok (.iload_n 3, 1) := by decide +kernel
theorem dX3_partOf_15 : decode cX3_partOf 15 = .ok (.aload_n 0, 1) := by decide +kernel
theorem dX3_partOf_16 : decode cX3_partOf 16 = .ok (.arraylength, 1) := by decide +kernel
theorem dX3_partOf_17 : decode cX3_partOf 17 = .ok (.if_icmp .ge 9, 3) := by decide +kernel
theorem dX3_partOf_20 : decode cX3_partOf 20 = .ok (.aload_n 0, 1) := by decide +kernel
theorem dX3_partOf_21 : decode cX3_partOf 21 = .ok (.iload_n 3, 1) := by decide +kernel
theorem dX3_partOf_22 : decode cX3_partOf 22 = .ok (.laload, 1) := by decide +kernel
theorem dX3_partOf_23 : decode cX3_partOf 23 = .ok (.goto 4, 3) := by decide +kernel
theorem dX3_partOf_26 : decode cX3_partOf 26 = .ok (.lconst 0, 1) := by decide +kernel
theorem dX3_partOf_27 : decode cX3_partOf 27 = .ok (.lreturn, 1) := by decide +kernel
theorem dX3_cellOf_0 : decode cX3_cellOf 0 = .ok (.iload_n 0, 1) := by decide +kernel
theorem dX3_cellOf_1 : decode cX3_cellOf 1 = .ok (.bipush 9, 2) := by decide +kernel
theorem dX3_cellOf_3 : decode cX3_cellOf 3 = .ok (.imul, 1) := by decide +kernel
theorem dX3_cellOf_4 : decode cX3_cellOf 4 = .ok (.iload_n 1, 1) := by decide +kernel
theorem dX3_cellOf_5 : decode cX3_cellOf 5 = .ok (.iadd, 1) := by decide +kernel
theorem dX3_cellOf_6 : decode cX3_cellOf 6 = .ok (.ireturn, 1) := by decide +kernel
theorem dX4_init_0 : decode cX4_init 0 = .ok (.aload_n 0, 1) := by decide +kernel
theorem dX4_init_1 : decode cX4_init 1 = .ok (.invokespecial 3, 3) := by decide +kernel
theorem dX4_init_4 : decode cX4_init 4 = .ok (.aload_n 0, 1) := by decide +kernel
theorem dX4_init_5 : decode cX4_init 5 = .ok (.new 9, 3) := by decide +kernel
theorem dX4_init_8 : decode cX4_init 8 = .ok (.dup, 1) := by decide +kernel
theorem dX4_init_9 : decode cX4_init 9 = .ok (.iconst 0, 1) := by decide +kernel
theorem dX4_init_10 : decode cX4_init 10 = .ok (.invokespecial 11, 3) := by decide +kernel
theorem dX4_init_13 : decode cX4_init 13 = .ok (.putfield 14, 3) := by decide +kernel
theorem dX4_init_16 : decode cX4_init 16 = .ok (.aload_n 0, 1) := by decide +kernel
theorem dX4_init_17 : decode cX4_init 17 = .ok (.new 9, 3) := by decide +kernel
theorem dX4_init_20 : decode cX4_init 20 = .ok (.dup, 1) := by decide +kernel
theorem dX4_init_21 : decode cX4_init 21 = .ok (.iconst 1, 1) := by decide +kernel
theorem dX4_init_22 : decode cX4_init 22 = .ok (.invokespecial 11, 3) := by decide +kernel
theorem dX4_init_25 : decode cX4_init 25 = .ok (.putfield 20, 3) := by decide +kernel
theorem dX4_init_28 : decode cX4_init 28 = .ok (.aload_n 0, 1) := by decide +kernel
theorem dX4_init_29 : decode cX4_init 29 = .ok (.new 23, 3) := by decide +kernel
theorem dX4_init_32 : decode cX4_init 32 = .ok (.dup, 1) := by decide +kernel
theorem dX4_init_33 : decode cX4_init 33 = .ok (.invokespecial 25, 3) := by decide +kernel
theorem dX4_init_36 : decode cX4_init 36 = .ok (.putfield 26, 3) := by decide +kernel
theorem dX4_init_39 : decode cX4_init 39 = .ok (.return_, 1) := by decide +kernel
theorem dX4_lexicon_0 : decode cX4_lexicon 0 = .ok (.iload_n 1, 1) := by decide +kernel
theorem dX4_lexicon_1 : decode cX4_lexicon 1 = .ok (.ifCond .ne 10, 3) := by decide +kernel
theorem dX4_lexicon_4 : decode cX4_lexicon 4 = .ok (.aload_n 0, 1) := by decide +kernel
theorem dX4_lexicon_5 : decode cX4_lexicon 5 = .ok (.getfield 14, 3) := by decide +kernel
theorem dX4_lexicon_8 : decode cX4_lexicon 8 = .ok (.goto 7, 3) := by decide +kernel
theorem dX4_lexicon_11 : decode cX4_lexicon 11 = .ok (.aload_n 0, 1) := by decide +kernel
theorem dX4_lexicon_12 : decode cX4_lexicon 12 = .ok (.getfield 20, 3) := by decide +kernel
theorem dX4_lexicon_15 : decode cX4_lexicon 15 = .ok (.areturn, 1) := by decide +kernel
theorem dX4_setWeight_0 : decode cX4_setWeight 0 = .ok (.aload_n 0, 1) := by decide +kernel
theorem dX4_setWeight_1 : decode cX4_setWeight 1 = .ok (.getfield 26, 3) := by decide +kernel
theorem dX4_setWeight_4 : decode cX4_setWeight 4 = .ok (.iload_n 1, 1) := by decide +kernel
theorem dX4_setWeight_5 : decode cX4_setWeight 5 = .ok (.iload_n 2, 1) := by decide +kernel
theorem dX4_setWeight_6 : decode cX4_setWeight 6 = .ok (.invokevirtual 30, 3) := by decide +kernel
theorem dX4_setWeight_9 : decode cX4_setWeight 9 = .ok (.ireturn, 1) := by decide +kernel
theorem dX4_answerFor_0 : decode cX4_answerFor 0 = .ok (.aload_n 0, 1) := by decide +kernel
theorem dX4_answerFor_1 : decode cX4_answerFor 1 = .ok (.iload_n 1, 1) := by decide +kernel
theorem dX4_answerFor_2 : decode cX4_answerFor 2 = .ok (.invokevirtual 34, 3) := by decide +kernel
theorem dX4_answerFor_5 : decode cX4_answerFor 5 = .ok (.astore 4, 2) := by decide +kernel
theorem dX4_answerFor_7 : decode cX4_answerFor 7 = .ok (.aload_n 2, 1) := by decide +kernel
theorem dX4_answerFor_8 : decode cX4_answerFor 8 = .ok (.iload_n 1, 1) := by decide +kernel
theorem dX4_answerFor_9 : decode cX4_answerFor 9 = .ok (.invokevirtual 38, 3) := by decide +kernel
theorem dX4_answerFor_12 : decode cX4_answerFor 12 = .ok (.astore 5, 2) := by decide +kernel
theorem dX4_answerFor_14 : decode cX4_answerFor 14 = .ok (.aload_n 2, 1) := by decide +kernel
theorem dX4_answerFor_15 : decode cX4_answerFor 15 = .ok (.iconst 1, 1) := by decide +kernel
theorem dX4_answerFor_16 : decode cX4_answerFor 16 = .ok (.iload_n 1, 1) := by decide +kernel
theorem dX4_answerFor_17 : decode cX4_answerFor 17 = .ok (.isub, 1) := by decide +kernel
theorem dX4_answerFor_18 : decode cX4_answerFor 18 = .ok (.invokevirtual 38, 3) := by decide +kernel
theorem dX4_answerFor_21 : decode cX4_answerFor 21 = .ok (.iload_n 3, 1) := by decide +kernel
theorem dX4_answerFor_22 : decode cX4_answerFor 22 = .ok (.invokevirtual 44, 3) := by decide +kernel
theorem dX4_answerFor_25 : decode cX4_answerFor 25 = .ok (.istore 6, 2) := by decide +kernel
theorem dX4_answerFor_27 : decode cX4_answerFor 27 = .ok (.iconst (-1), 1) := by decide +kernel
theorem dX4_answerFor_28 : decode cX4_answerFor 28 = .ok (.istore 7, 2) := by decide +kernel
theorem dX4_answerFor_30 : decode cX4_answerFor 30 = .ok (.iconst 0, 1) := by decide +kernel
theorem dX4_answerFor_31 : decode cX4_answerFor 31 = .ok (.istore 8, 2) := by decide +kernel
theorem dX4_answerFor_33 : decode cX4_answerFor 33 = .ok (.iconst 0, 1) := by decide +kernel
theorem dX4_answerFor_34 : decode cX4_answerFor 34 = .ok (.istore 9, 2) := by decide +kernel
theorem dX4_answerFor_36 : decode cX4_answerFor 36 = .ok (.iload 9, 2) := by decide +kernel
theorem dX4_answerFor_38 : decode cX4_answerFor 38 = .ok (.aload 5, 2) := by decide +kernel
theorem dX4_answerFor_40 : decode cX4_answerFor 40 = .ok (.invokevirtual 50, 3) := by decide +kernel
theorem dX4_answerFor_43 : decode cX4_answerFor 43 = .ok (.if_icmp .ge 55, 3) := by decide +kernel
theorem dX4_answerFor_46 : decode cX4_answerFor 46 = .ok (.aload 4, 2) := by decide +kernel
theorem dX4_answerFor_48 : decode cX4_answerFor 48 = .ok (.aload 5, 2) := by decide +kernel
theorem dX4_answerFor_50 : decode cX4_answerFor 50 = .ok (.iload 9, 2) := by decide +kernel
theorem dX4_answerFor_52 : decode cX4_answerFor 52 = .ok (.invokevirtual 44, 3) := by decide +kernel
theorem dX4_answerFor_55 : decode cX4_answerFor 55 = .ok (.iload 6, 2) := by decide +kernel
theorem dX4_answerFor_57 : decode cX4_answerFor 57 = .ok (.invokevirtual 54, 3) := by decide +kernel
theorem dX4_answerFor_60 : decode cX4_answerFor 60 = .ok (.istore 10, 2) := by decide +kernel
theorem dX4_answerFor_62 : decode cX4_answerFor 62 = .ok (.iload 10, 2) := by decide +kernel
theorem dX4_answerFor_64 : decode cX4_answerFor 64 = .ok (.aload_n 0, 1) := by decide +kernel
theorem dX4_answerFor_65 : decode cX4_answerFor 65 = .ok (.getfield 26, 3) := by decide +kernel
theorem dX4_answerFor_68 : decode cX4_answerFor 68 = .ok (.iload 9, 2) := by decide +kernel
theorem dX4_answerFor_70 : decode cX4_answerFor 70 = .ok (.iload_n 3, 1) := by decide +kernel
theorem dX4_answerFor_71 : decode cX4_answerFor 71 = .ok (.invokevirtual 57, 3) := by decide +kernel
theorem dX4_answerFor_74 : decode cX4_answerFor 74 = .ok (.imul, 1) := by decide +kernel
theorem dX4_answerFor_75 : decode cX4_answerFor 75 = .ok (.istore 11, 2) := by decide +kernel
theorem dX4_answerFor_77 : decode cX4_answerFor 77 = .ok (.iload 11, 2) := by decide +kernel
theorem dX4_answerFor_79 : decode cX4_answerFor 79 = .ok (.iload 8, 2) := by decide +kernel
theorem dX4_answerFor_81 : decode cX4_answerFor 81 = .ok (.if_icmp .le 11, 3) := by decide +kernel
theorem dX4_answerFor_84 : decode cX4_answerFor 84 = .ok (.iload 11, 2) := by decide +kernel
theorem dX4_answerFor_86 : decode cX4_answerFor 86 = .ok (.istore 8, 2) := by decide +kernel
theorem dX4_answerFor_88 : decode cX4_answerFor 88 = .ok (.iload 9, 2) := by decide +kernel
theorem dX4_answerFor_90 : decode cX4_answerFor 90 = .ok (.istore 7, 2) := by decide +kernel
theorem dX4_answerFor_92 : decode cX4_answerFor 92 = .ok (.iinc 9 1, 3) := by decide +kernel
theorem dX4_answerFor_95 : decode cX4_answerFor 95 = .ok (.goto (-59), 3) := by decide +kernel
theorem dX4_answerFor_98 : decode cX4_answerFor 98 = .ok (.aload 4, 2) := by decide +kernel
theorem dX4_answerFor_100 : decode cX4_answerFor 100 = .ok (.bipush 15, 2) := by decide +kernel
theorem dX4_answerFor_102 : decode cX4_answerFor 102 = .ok (.iload 6, 2) := by decide +kernel
theorem dX4_answerFor_104 : decode cX4_answerFor 104 = .ok (.invokevirtual 54, 3) := by decide +kernel
theorem dX4_answerFor_107 : decode cX4_answerFor 107 = .ok (.aload_n 0, 1) := by decide +kernel
theorem dX4_answerFor_108 : decode cX4_answerFor 108 = .ok (.getfield 26, 3) := by decide +kernel
theorem dX4_answerFor_111 : decode cX4_answerFor 111 = .ok (.invokevirtual 60, 3) := by decide +kernel
theorem dX4_answerFor_114 : decode cX4_answerFor 114 = .ok (.imul, 1) := by decide +kernel
theorem dX4_answerFor_115 : decode cX4_answerFor 115 = .ok (.istore 9, 2) := by decide +kernel
theorem dX4_answerFor_117 : decode cX4_answerFor 117 = .ok (.iload 9, 2) := by decide +kernel
theorem dX4_answerFor_119 : decode cX4_answerFor 119 = .ok (.iload 8, 2) := by decide +kernel
theorem dX4_answerFor_121 : decode cX4_answerFor 121 = .ok (.if_icmp .le 7, 3) := by decide +kernel
theorem dX4_answerFor_124 : decode cX4_answerFor 124 = .ok (.iconst (-1), 1) := by decide +kernel
theorem dX4_answerFor_125 : decode cX4_answerFor 125 = .ok (.goto 5, 3) := by decide +kernel
theorem dX4_answerFor_128 : decode cX4_answerFor 128 = .ok (.iload 7, 2) := by decide +kernel
theorem dX4_answerFor_130 : decode cX4_answerFor 130 = .ok (.ireturn, 1) := by decide +kernel
theorem dX5_init_0 : decode cX5_init 0 = .ok (.aload_n 0, 1) := by decide +kernel
theorem dX5_init_1 : decode cX5_init 1 = .ok (.invokespecial 3, 3) := by decide +kernel
theorem dX5_init_4 : decode cX5_init 4 = .ok (.aload_n 0, 1) := by decide +kernel
theorem dX5_init_5 : decode cX5_init 5 = .ok (.iconst 4, 1) := by decide +kernel
theorem dX5_init_6 : decode cX5_init 6 = .ok (.newarray .int, 2) := by decide +kernel
theorem dX5_init_8 : decode cX5_init 8 = .ok (.putfield 9, 3) := by decide +kernel
theorem dX5_init_11 : decode cX5_init 11 = .ok (.return_, 1) := by decide +kernel
theorem dX5_count_0 : decode cX5_count 0 = .ok (.aload_n 0, 1) := by decide +kernel
theorem dX5_count_1 : decode cX5_count 1 = .ok (.getfield 15, 3) := by decide +kernel
theorem dX5_count_4 : decode cX5_count 4 = .ok (.ireturn, 1) := by decide +kernel
theorem dX5_endOfFound_0 : decode cX5_endOfFound 0 = .ok (.iload_n 1, 1) := by decide +kernel
theorem dX5_endOfFound_1 : decode cX5_endOfFound 1 = .ok (.ifCond .lt 21, 3) := by decide +kernel
theorem dX5_endOfFound_4 : decode cX5_endOfFound 4 = .ok (.iload_n 1, 1) := by decide +kernel
theorem dX5_endOfFound_5 : decode cX5_endOfFound 5 = .ok (.aload_n 0, 1) := by decide +kernel
theorem dX5_endOfFound_6 : decode cX5_endOfFound 6 = .ok (.getfield 9, 3) := by decide +kernel
theorem dX5_endOfFound_9 : decode cX5_endOfFound 9 = .ok (.arraylength, 1) := by decide +kernel
theorem dX5_endOfFound_10 : decode cX5_endOfFound 10 = .ok (.if_icmp .ge 12, 3) := by decide +kernel
theorem dX5_endOfFound_13 : decode cX5_endOfFound 13 = .ok (.aload_n 0, 1) := by decide +kernel
theorem dX5_endOfFound_14 : decode cX5_endOfFound 14 = .ok (.getfield 9, 3) := by decide +kernel
theorem dX5_endOfFound_17 : decode cX5_endOfFound 17 = .ok (.iload_n 1, 1) := by decide +kernel
theorem dX5_endOfFound_18 : decode cX5_endOfFound 18 = .ok (.iaload, 1) := by decide +kernel
theorem dX5_endOfFound_19 : decode cX5_endOfFound 19 = .ok (.goto 4, 3) := by decide +kernel
theorem dX5_endOfFound_22 : decode cX5_endOfFound 22 = .ok (.iconst (-1), 1) := by decide +kernel
theorem dX5_endOfFound_23 : decode cX5_endOfFound 23 = .ok (.ireturn, 1) := by decide +kernel
theorem dX5_seek_0 : decode cX5_seek 0 = .ok (.aload_n 0, 1) := by decide +kernel
theorem dX5_seek_1 : decode cX5_seek 1 = .ok (.iconst 0, 1) := by decide +kernel
theorem dX5_seek_2 : decode cX5_seek 2 = .ok (.putfield 15, 3) := by decide +kernel
theorem dX5_seek_5 : decode cX5_seek 5 = .ok (.iconst 0, 1) := by decide +kernel
theorem dX5_seek_6 : decode cX5_seek 6 = .ok (.istore_n 3, 1) := by decide +kernel
theorem dX5_seek_7 : decode cX5_seek 7 = .ok (.iload_n 3, 1) := by decide +kernel
theorem dX5_seek_8 : decode cX5_seek 8 = .ok (.aload_n 1, 1) := by decide +kernel
theorem dX5_seek_9 : decode cX5_seek 9 = .ok (.invokevirtual 19, 3) := by decide +kernel
theorem dX5_seek_12 : decode cX5_seek 12 = .ok (.if_icmp .ge 46, 3) := by decide +kernel
theorem dX5_seek_15 : decode cX5_seek 15 = .ok (.iload_n 3, 1) := by decide +kernel
theorem dX5_seek_16 : decode cX5_seek 16 = .ok (.iconst 4, 1) := by decide +kernel
theorem dX5_seek_17 : decode cX5_seek 17 = .ok (.iadd, 1) := by decide +kernel
theorem dX5_seek_18 : decode cX5_seek 18 = .ok (.aload_n 1, 1) := by decide +kernel
theorem dX5_seek_19 : decode cX5_seek 19 = .ok (.invokevirtual 19, 3) := by decide +kernel
theorem dX5_seek_22 : decode cX5_seek 22 = .ok (.invokestatic 25, 3) := by decide +kernel
theorem dX5_seek_25 : decode cX5_seek 25 = .ok (.istore 4, 2) := by decide +kernel
theorem dX5_seek_27 : decode cX5_seek 27 = .ok (.iload_n 3, 1) := by decide +kernel
theorem dX5_seek_28 : decode cX5_seek 28 = .ok (.istore 5, 2) := by decide +kernel
theorem dX5_seek_30 : decode cX5_seek 30 = .ok (.iload 5, 2) := by decide +kernel
theorem dX5_seek_32 : decode cX5_seek 32 = .ok (.iload 4, 2) := by decide +kernel
theorem dX5_seek_34 : decode cX5_seek 34 = .ok (.if_icmp .ge 18, 3) := by decide +kernel
theorem dX5_seek_37 : decode cX5_seek 37 = .ok (.aload_n 0, 1) := by decide +kernel
theorem dX5_seek_38 : decode cX5_seek 38 = .ok (.aload_n 1, 1) := by decide +kernel
theorem dX5_seek_39 : decode cX5_seek 39 = .ok (.iload_n 3, 1) := by decide +kernel
theorem dX5_seek_40 : decode cX5_seek 40 = .ok (.iload 5, 2) := by decide +kernel
theorem dX5_seek_42 : decode cX5_seek 42 = .ok (.iload_n 2, 1) := by decide +kernel
theorem dX5_seek_43 : decode cX5_seek 43 = .ok (.invokevirtual 31, 3) := by decide +kernel
theorem dX5_seek_46 : decode cX5_seek 46 = .ok (.iinc 5 1, 3) := by decide +kernel
theorem dX5_seek_49 : decode cX5_seek 49 = .ok (.goto (-19), 3) := by decide +kernel
theorem dX5_seek_52 : decode cX5_seek 52 = .ok (.iinc 3 1, 3) := by decide +kernel
theorem dX5_seek_55 : decode cX5_seek 55 = .ok (.goto (-48), 3) := by decide +kernel
theorem dX5_seek_58 : decode cX5_seek 58 = .ok (.return_, 1) := by decide +kernel
theorem dX5_seekAcross_0 : decode cX5_seekAcross 0 = .ok (.iconst 0, 1) := by decide +kernel
theorem dX5_seekAcross_1 : decode cX5_seekAcross 1 = .ok (.istore 5, 2) := by decide +kernel
theorem dX5_seekAcross_3 : decode cX5_seekAcross 3 = .ok (.iconst 0, 1) := by decide +kernel
theorem dX5_seekAcross_4 : decode cX5_seekAcross 4 = .ok (.istore 6, 2) := by decide +kernel
theorem dX5_seekAcross_6 : decode cX5_seekAcross 6 = .ok (.iconst 0, 1) := by decide +kernel
theorem dX5_seekAcross_7 : decode cX5_seekAcross 7 = .ok (.istore 7, 2) := by decide +kernel
theorem dX5_seekAcross_9 : decode cX5_seekAcross 9 = .ok (.iload 7, 2) := by decide +kernel
theorem dX5_seekAcross_11 : decode cX5_seekAcross 11 = .ok (.aload_n 1, 1) := by decide +kernel
theorem dX5_seekAcross_12 : decode cX5_seekAcross 12 = .ok (.invokevirtual 19, 3) := by decide +kernel
theorem dX5_seekAcross_15 : decode cX5_seekAcross 15 = .ok (.if_icmp .ge 46, 3) := by decide +kernel
theorem dX5_seekAcross_18 : decode cX5_seekAcross 18 = .ok (.iload 7, 2) := by decide +kernel
theorem dX5_seekAcross_20 : decode cX5_seekAcross 20 = .ok (.iload_n 2, 1) := by decide +kernel
theorem dX5_seekAcross_21 : decode cX5_seekAcross 21 = .ok (.if_icmp .lt 23, 3) := by decide +kernel
theorem dX5_seekAcross_24 : decode cX5_seekAcross 24 = .ok (.iload 7, 2) := by decide +kernel
theorem dX5_seekAcross_26 : decode cX5_seekAcross 26 = .ok (.iload_n 3, 1) := by decide +kernel
theorem dX5_seekAcross_27 : decode cX5_seekAcross 27 = .ok (.if_icmp .gt 17, 3) := by decide +kernel
theorem dX5_seekAcross_30 : decode cX5_seekAcross 30 = .ok (.iload 5, 2) := by decide +kernel
theorem dX5_seekAcross_32 : decode cX5_seekAcross 32 = .ok (.aload_n 1, 1) := by decide +kernel
theorem dX5_seekAcross_33 : decode cX5_seekAcross 33 = .ok (.iload 7, 2) := by decide +kernel
theorem dX5_seekAcross_35 : decode cX5_seekAcross 35 = .ok (.invokevirtual 35, 3) := by decide +kernel
theorem dX5_seekAcross_38 : decode cX5_seekAcross 38 = .ok (.ior, 1) := by decide +kernel
theorem dX5_seekAcross_39 : decode cX5_seekAcross 39 = .ok (.istore 5, 2) := by decide +kernel
theorem dX5_seekAcross_41 : decode cX5_seekAcross 41 = .ok (.goto 14, 3) := by decide +kernel
theorem dX5_seekAcross_44 : decode cX5_seekAcross 44 = .ok (.iload 6, 2) := by decide +kernel
theorem dX5_seekAcross_46 : decode cX5_seekAcross 46 = .ok (.aload_n 1, 1) := by decide +kernel
theorem dX5_seekAcross_47 : decode cX5_seekAcross 47 = .ok (.iload 7, 2) := by decide +kernel
theorem dX5_seekAcross_49 : decode cX5_seekAcross 49 = .ok (.invokevirtual 35, 3) := by decide +kernel
theorem dX5_seekAcross_52 : decode cX5_seekAcross 52 = .ok (.ior, 1) := by decide +kernel
theorem dX5_seekAcross_53 : decode cX5_seekAcross 53 = .ok (.istore 6, 2) := by decide +kernel
theorem dX5_seekAcross_55 : decode cX5_seekAcross 55 = .ok (.iinc 7 1, 3) := by decide +kernel
theorem dX5_seekAcross_58 : decode cX5_seekAcross 58 = .ok (.goto (-49), 3) := by decide +kernel
theorem dX5_seekAcross_61 : decode cX5_seekAcross 61 = .ok (.iconst 0, 1) := by decide +kernel
theorem dX5_seekAcross_62 : decode cX5_seekAcross 62 = .ok (.istore 7, 2) := by decide +kernel
theorem dX5_seekAcross_64 : decode cX5_seekAcross 64 = .ok (.iload 7, 2) := by decide +kernel
theorem dX5_seekAcross_66 : decode cX5_seekAcross 66 = .ok (.aload_n 1, 1) := by decide +kernel
theorem dX5_seekAcross_67 : decode cX5_seekAcross 67 = .ok (.invokevirtual 39, 3) := by decide +kernel
theorem dX5_seekAcross_70 : decode cX5_seekAcross 70 = .ok (.if_icmp .ge 68, 3) := by decide +kernel
theorem dX5_seekAcross_73 : decode cX5_seekAcross 73 = .ok (.iload 7, 2) := by decide +kernel
theorem dX5_seekAcross_75 : decode cX5_seekAcross 75 = .ok (.iconst 4, 1) := by decide +kernel
theorem dX5_seekAcross_76 : decode cX5_seekAcross 76 = .ok (.iadd, 1) := by decide +kernel
theorem dX5_seekAcross_77 : decode cX5_seekAcross 77 = .ok (.aload_n 1, 1) := by decide +kernel
theorem dX5_seekAcross_78 : decode cX5_seekAcross 78 = .ok (.invokevirtual 39, 3) := by decide +kernel
theorem dX5_seekAcross_81 : decode cX5_seekAcross 81 = .ok (.invokestatic 25, 3) := by decide +kernel
theorem dX5_seekAcross_84 : decode cX5_seekAcross 84 = .ok (.istore 8, 2) := by decide +kernel
theorem dX5_seekAcross_86 : decode cX5_seekAcross 86 = .ok (.iload 7, 2) := by decide +kernel
theorem dX5_seekAcross_88 : decode cX5_seekAcross 88 = .ok (.istore 9, 2) := by decide +kernel
theorem dX5_seekAcross_90 : decode cX5_seekAcross 90 = .ok (.iload 9, 2) := by decide +kernel
theorem dX5_seekAcross_92 : decode cX5_seekAcross 92 = .ok (.iload 8, 2) := by decide +kernel
theorem dX5_seekAcross_94 : decode cX5_seekAcross 94 = .ok (.if_icmp .ge 38, 3) := by decide +kernel
theorem dX5_seekAcross_97 : decode cX5_seekAcross 97 = .ok (.iload 5, 2) := by decide +kernel
theorem dX5_seekAcross_99 : decode cX5_seekAcross 99 = .ok (.iload 6, 2) := by decide +kernel
theorem dX5_seekAcross_101 : decode cX5_seekAcross 101 = .ok (.iload 7, 2) := by decide +kernel
theorem dX5_seekAcross_103 : decode cX5_seekAcross 103 = .ok (.iload 9, 2) := by decide +kernel
theorem dX5_seekAcross_105 : decode cX5_seekAcross 105 = .ok (.invokestatic 42, 3) := by decide +kernel
theorem dX5_seekAcross_108 : decode cX5_seekAcross 108 = .ok (.invokestatic 45, 3) := by decide +kernel
theorem dX5_seekAcross_111 : decode cX5_seekAcross 111 = .ok (.ifCond .eq 15, 3) := by decide +kernel
theorem dX5_seekAcross_114 : decode cX5_seekAcross 114 = .ok (.aload_n 0, 1) := by decide +kernel
theorem dX5_seekAcross_115 : decode cX5_seekAcross 115 = .ok (.iload_n 2, 1) := by decide +kernel
theorem dX5_seekAcross_116 : decode cX5_seekAcross 116 = .ok (.iload_n 3, 1) := by decide +kernel
theorem dX5_seekAcross_117 : decode cX5_seekAcross 117 = .ok (.iload 7, 2) := by decide +kernel
theorem dX5_seekAcross_119 : decode cX5_seekAcross 119 = .ok (.iload 9, 2) := by decide +kernel
theorem dX5_seekAcross_121 : decode cX5_seekAcross 121 = .ok (.iload 4, 2) := by decide +kernel
theorem dX5_seekAcross_123 : decode cX5_seekAcross 123 = .ok (.invokevirtual 49, 3) := by decide +kernel
theorem dX5_seekAcross_126 : decode cX5_seekAcross 126 = .ok (.iinc 9 1, 3) := by decide +kernel
theorem dX5_seekAcross_129 : decode cX5_seekAcross 129 = .ok (.goto (-39), 3) := by decide +kernel
theorem dX5_seekAcross_132 : decode cX5_seekAcross 132 = .ok (.iinc 7 1, 3) := by decide +kernel
theorem dX5_seekAcross_135 : decode cX5_seekAcross 135 = .ok (.goto (-71), 3) := by decide +kernel
theorem dX5_seekAcross_138 : decode cX5_seekAcross 138 = .ok (.return_, 1) := by decide +kernel
theorem dX5_isPhrase_0 : decode cX5_isPhrase 0 = .ok (.iload_n 0, 1) := by decide +kernel
theorem dX5_isPhrase_1 : decode cX5_isPhrase 1 = .ok (.ifCond .eq 21, 3) := by decide +kernel
theorem dX5_isPhrase_4 : decode cX5_isPhrase 4 = .ok (.iload_n 0, 1) := by decide +kernel
theorem dX5_isPhrase_5 : decode cX5_isPhrase 5 = .ok (.iload_n 2, 1) := by decide +kernel
theorem dX5_isPhrase_6 : decode cX5_isPhrase 6 = .ok (.iconst (-1), 1) := by decide +kernel
theorem dX5_isPhrase_7 : decode cX5_isPhrase 7 = .ok (.ixor, 1) := by decide +kernel
theorem dX5_isPhrase_8 : decode cX5_isPhrase 8 = .ok (.iand, 1) := by decide +kernel
theorem dX5_isPhrase_9 : decode cX5_isPhrase 9 = .ok (.ifCond .ne 13, 3) := by decide +kernel
theorem dX5_isPhrase_12 : decode cX5_isPhrase 12 = .ok (.iload_n 1, 1) := by decide +kernel
theorem dX5_isPhrase_13 : decode cX5_isPhrase 13 = .ok (.iload_n 2, 1) := by decide +kernel
theorem dX5_isPhrase_14 : decode cX5_isPhrase 14 = .ok (.iand, 1) := by decide +kernel
theorem dX5_isPhrase_15 : decode cX5_isPhrase 15 = .ok (.ifCond .ne 7, 3) := by decide +kernel
theorem dX5_isPhrase_18 : decode cX5_isPhrase 18 = .ok (.iconst 1, 1) := by decide +kernel
theorem dX5_isPhrase_19 : decode cX5_isPhrase 19 = .ok (.goto 4, 3) := by decide +kernel
theorem dX5_isPhrase_22 : decode cX5_isPhrase 22 = .ok (.iconst 0, 1) := by decide +kernel
theorem dX5_isPhrase_23 : decode cX5_isPhrase 23 = .ok (.ireturn, 1) := by decide +kernel
theorem dX5_spanBits_0 : decode cX5_spanBits 0 = .ok (.iconst 0, 1) := by decide +kernel
theorem dX5_spanBits_1 : decode cX5_spanBits 1 = .ok (.istore_n 2, 1) := by decide +kernel
theorem dX5_spanBits_2 : decode cX5_spanBits 2 = .ok (.iload_n 0, 1) := by decide +kernel
theorem dX5_spanBits_3 : decode cX5_spanBits 3 = .ok (.istore_n 3, 1) := by decide +kernel
theorem dX5_spanBits_4 : decode cX5_spanBits 4 = .ok (.iload_n 3, 1) := by decide +kernel
theorem dX5_spanBits_5 : decode cX5_spanBits 5 = .ok (.iload_n 1, 1) := by decide +kernel
theorem dX5_spanBits_6 : decode cX5_spanBits 6 = .ok (.if_icmp .gt 16, 3) := by decide +kernel
theorem dX5_spanBits_9 : decode cX5_spanBits 9 = .ok (.iload_n 2, 1) := by decide +kernel
theorem dX5_spanBits_10 : decode cX5_spanBits 10 = .ok (.iload_n 3, 1) := by decide +kernel
theorem dX5_spanBits_11 : decode cX5_spanBits 11 = .ok (.invokestatic 53, 3) := by decide +kernel
theorem dX5_spanBits_14 : decode cX5_spanBits 14 = .ok (.ior, 1) := by decide +kernel
theorem dX5_spanBits_15 : decode cX5_spanBits 15 = .ok (.istore_n 2, 1) := by decide +kernel
theorem dX5_spanBits_16 : decode cX5_spanBits 16 = .ok (.iinc 3 1, 3) := by decide +kernel
theorem dX5_spanBits_19 : decode cX5_spanBits 19 = .ok (.goto (-15), 3) := by decide +kernel
theorem dX5_spanBits_22 : decode cX5_spanBits 22 = .ok (.iload_n 2, 1) := by decide +kernel
theorem dX5_spanBits_23 : decode cX5_spanBits 23 = .ok (.ireturn, 1) := by decide +kernel
theorem dX5_meet_0 : decode cX5_meet 0 = .ok (.aload_n 0, 1) := by decide +kernel
theorem dX5_meet_1 : decode cX5_meet 1 = .ok (.getfield 15, 3) := by decide +kernel
theorem dX5_meet_4 : decode cX5_meet 4 = .ok (.iload 5, 2) := by decide +kernel
theorem dX5_meet_6 : decode cX5_meet 6 = .ok (.if_icmp .ne 41, 3) := by decide +kernel
theorem dX5_meet_9 : decode cX5_meet 9 = .ok (.aload_n 0, 1) := by decide +kernel
theorem dX5_meet_10 : decode cX5_meet 10 = .ok (.getfield 9, 3) := by decide +kernel
theorem dX5_meet_13 : decode cX5_meet 13 = .ok (.arraylength, 1) := by decide +kernel
theorem dX5_meet_14 : decode cX5_meet 14 = .ok (.iconst 4, 1) := by decide +kernel
theorem dX5_meet_15 : decode cX5_meet 15 = .ok (.if_icmp .ne 32, 3) := by decide +kernel
theorem dX5_meet_18 : decode cX5_meet 18 = .ok (.aload_n 0, 1) := by decide +kernel
theorem dX5_meet_19 : decode cX5_meet 19 = .ok (.getfield 9, 3) := by decide +kernel
theorem dX5_meet_22 : decode cX5_meet 22 = .ok (.iconst 0, 1) := by decide +kernel
theorem dX5_meet_23 : decode cX5_meet 23 = .ok (.iload_n 1, 1) := by decide +kernel
theorem dX5_meet_24 : decode cX5_meet 24 = .ok (.iastore, 1) := by decide +kernel
theorem dX5_meet_25 : decode cX5_meet 25 = .ok (.aload_n 0, 1) := by decide +kernel
theorem dX5_meet_26 : decode cX5_meet 26 = .ok (.getfield 9, 3) := by decide +kernel
theorem dX5_meet_29 : decode cX5_meet 29 = .ok (.iconst 1, 1) := by decide +kernel
theorem dX5_meet_30 : decode cX5_meet 30 = .ok (.iload_n 2, 1) := by decide +kernel
theorem dX5_meet_31 : decode cX5_meet 31 = .ok (.iastore, 1) := by decide +kernel
theorem dX5_meet_32 : decode cX5_meet 32 = .ok (.aload_n 0, 1) := by decide +kernel
theorem dX5_meet_33 : decode cX5_meet 33 = .ok (.getfield 9, 3) := by decide +kernel
theorem dX5_meet_36 : decode cX5_meet 36 = .ok (.iconst 2, 1) := by decide +kernel
theorem dX5_meet_37 : decode cX5_meet 37 = .ok (.iload_n 3, 1) := by decide +kernel
theorem dX5_meet_38 : decode cX5_meet 38 = .ok (.iastore, 1) := by decide +kernel
theorem dX5_meet_39 : decode cX5_meet 39 = .ok (.aload_n 0, 1) := by decide +kernel
theorem dX5_meet_40 : decode cX5_meet 40 = .ok (.getfield 9, 3) := by decide +kernel
theorem dX5_meet_43 : decode cX5_meet 43 = .ok (.iconst 3, 1) := by decide +kernel
theorem dX5_meet_44 : decode cX5_meet 44 = .ok (.iload 4, 2) := by decide +kernel
theorem dX5_meet_46 : decode cX5_meet 46 = .ok (.iastore, 1) := by decide +kernel
theorem dX5_meet_47 : decode cX5_meet 47 = .ok (.aload_n 0, 1) := by decide +kernel
theorem dX5_meet_48 : decode cX5_meet 48 = .ok (.dup, 1) := by decide +kernel
theorem dX5_meet_49 : decode cX5_meet 49 = .ok (.getfield 15, 3) := by decide +kernel
theorem dX5_meet_52 : decode cX5_meet 52 = .ok (.iconst 1, 1) := by decide +kernel
theorem dX5_meet_53 : decode cX5_meet 53 = .ok (.iadd, 1) := by decide +kernel
theorem dX5_meet_54 : decode cX5_meet 54 = .ok (.putfield 15, 3) := by decide +kernel
theorem dX5_meet_57 : decode cX5_meet 57 = .ok (.return_, 1) := by decide +kernel
theorem dX6_init_0 : decode cX6_init 0 = .ok (.aload_n 0, 1) := by decide +kernel
theorem dX6_init_1 : decode cX6_init 1 = .ok (.invokespecial 3, 3) := by decide +kernel
theorem dX6_init_4 : decode cX6_init 4 = .ok (.aload_n 0, 1) := by decide +kernel
theorem dX6_init_5 : decode cX6_init 5 = .ok (.bipush 8, 2) := by decide +kernel
theorem dX6_init_7 : decode cX6_init 7 = .ok (.newarray .int, 2) := by decide +kernel
theorem dX6_init_9 : decode cX6_init 9 = .ok (.putfield 9, 3) := by decide +kernel
theorem dX6_init_12 : decode cX6_init 12 = .ok (.return_, 1) := by decide +kernel
theorem dX6_length_0 : decode cX6_length 0 = .ok (.aload_n 0, 1) := by decide +kernel
theorem dX6_length_1 : decode cX6_length 1 = .ok (.getfield 15, 3) := by decide +kernel
theorem dX6_length_4 : decode cX6_length 4 = .ok (.ireturn, 1) := by decide +kernel
theorem dX6_isFull_0 : decode cX6_isFull 0 = .ok (.aload_n 0, 1) := by decide +kernel
theorem dX6_isFull_1 : decode cX6_isFull 1 = .ok (.getfield 15, 3) := by decide +kernel
theorem dX6_isFull_4 : decode cX6_isFull 4 = .ok (.bipush 8, 2) := by decide +kernel
theorem dX6_isFull_6 : decode cX6_isFull 6 = .ok (.if_icmp .lt 7, 3) := by decide +kernel
theorem dX6_isFull_9 : decode cX6_isFull 9 = .ok (.iconst 1, 1) := by decide +kernel
theorem dX6_isFull_10 : decode cX6_isFull 10 = .ok (.goto 4, 3) := by decide +kernel
theorem dX6_isFull_13 : decode cX6_isFull 13 = .ok (.iconst 0, 1) := by decide +kernel
theorem dX6_isFull_14 : decode cX6_isFull 14 = .ok (.ireturn, 1) := by decide +kernel
theorem dX6_has_0 : decode cX6_has 0 = .ok (.iload_n 1, 1) := by decide +kernel
theorem dX6_has_1 : decode cX6_has 1 = .ok (.ifCond .lt 15, 3) := by decide +kernel
theorem dX6_has_4 : decode cX6_has 4 = .ok (.iload_n 1, 1) := by decide +kernel
theorem dX6_has_5 : decode cX6_has 5 = .ok (.aload_n 0, 1) := by decide +kernel
theorem dX6_has_6 : decode cX6_has 6 = .ok (.getfield 15, 3) := by decide +kernel
theorem dX6_has_9 : decode cX6_has 9 = .ok (.if_icmp .ge 7, 3) := by decide +kernel
theorem dX6_has_12 : decode cX6_has 12 = .ok (.iconst 1, 1) := by decide +kernel
theorem dX6_has_13 : decode cX6_has 13 = .ok (.goto 4, 3) := by decide +kernel
theorem dX6_has_16 : decode cX6_has 16 = .ok (.iconst 0, 1) := by decide +kernel
theorem dX6_has_17 : decode cX6_has 17 = .ok (.ireturn, 1) := by decide +kernel
theorem dX6_at_0 : decode cX6_at 0 = .ok (.aload_n 0, 1) := by decide +kernel
theorem dX6_at_1 : decode cX6_at 1 = .ok (.iload_n 1, 1) := by decide +kernel
theorem dX6_at_2 : decode cX6_at 2 = .ok (.invokevirtual 19, 3) := by decide +kernel
theorem dX6_at_5 : decode cX6_at 5 = .ok (.ifCond .eq 21, 3) := by decide +kernel
theorem dX6_at_8 : decode cX6_at 8 = .ok (.iload_n 1, 1) := by decide +kernel
theorem dX6_at_9 : decode cX6_at 9 = .ok (.aload_n 0, 1) := by decide +kernel
theorem dX6_at_10 : decode cX6_at 10 = .ok (.getfield 9, 3) := by decide +kernel
theorem dX6_at_13 : decode cX6_at 13 = .ok (.arraylength, 1) := by decide +kernel
theorem dX6_at_14 : decode cX6_at 14 = .ok (.if_icmp .ge 12, 3) := by decide +kernel
theorem dX6_at_17 : decode cX6_at 17 = .ok (.aload_n 0, 1) := by decide +kernel
theorem dX6_at_18 : decode cX6_at 18 = .ok (.getfield 9, 3) := by decide +kernel
theorem dX6_at_21 : decode cX6_at 21 = .ok (.iload_n 1, 1) := by decide +kernel
theorem dX6_at_22 : decode cX6_at 22 = .ok (.iaload, 1) := by decide +kernel
theorem dX6_at_23 : decode cX6_at 23 = .ok (.goto 4, 3) := by decide +kernel
theorem dX6_at_26 : decode cX6_at 26 = .ok (.iconst (-1), 1) := by decide +kernel
theorem dX6_at_27 : decode cX6_at 27 = .ok (.ireturn, 1) := by decide +kernel
theorem dX6_append_0 : decode cX6_append 0 = .ok (.aload_n 0, 1) := by decide +kernel
theorem dX6_append_1 : decode cX6_append 1 = .ok (.getfield 15, 3) := by decide +kernel
theorem dX6_append_4 : decode cX6_append 4 = .ok (.ifCond .lt 35, 3) := by decide +kernel
theorem dX6_append_7 : decode cX6_append 7 = .ok (.aload_n 0, 1) := by decide +kernel
theorem dX6_append_8 : decode cX6_append 8 = .ok (.getfield 15, 3) := by decide +kernel
theorem dX6_append_11 : decode cX6_append 11 = .ok (.aload_n 0, 1) := by decide +kernel
theorem dX6_append_12 : decode cX6_append 12 = .ok (.getfield 9, 3) := by decide +kernel
theorem dX6_append_15 : decode cX6_append 15 = .ok (.arraylength, 1) := by decide +kernel
theorem dX6_append_16 : decode cX6_append 16 = .ok (.if_icmp .ge 23, 3) := by decide +kernel
theorem dX6_append_19 : decode cX6_append 19 = .ok (.aload_n 0, 1) := by decide +kernel
theorem dX6_append_20 : decode cX6_append 20 = .ok (.getfield 9, 3) := by decide +kernel
theorem dX6_append_23 : decode cX6_append 23 = .ok (.aload_n 0, 1) := by decide +kernel
theorem dX6_append_24 : decode cX6_append 24 = .ok (.getfield 15, 3) := by decide +kernel
theorem dX6_append_27 : decode cX6_append 27 = .ok (.iload_n 1, 1) := by decide +kernel
theorem dX6_append_28 : decode cX6_append 28 = .ok (.iastore, 1) := by decide +kernel
theorem dX6_append_29 : decode cX6_append 29 = .ok (.aload_n 0, 1) := by decide +kernel
theorem dX6_append_30 : decode cX6_append 30 = .ok (.dup, 1) := by decide +kernel
theorem dX6_append_31 : decode cX6_append 31 = .ok (.getfield 15, 3) := by decide +kernel
theorem dX6_append_34 : decode cX6_append 34 = .ok (.iconst 1, 1) := by decide +kernel
theorem dX6_append_35 : decode cX6_append 35 = .ok (.iadd, 1) := by decide +kernel
theorem dX6_append_36 : decode cX6_append 36 = .ok (.putfield 15, 3) := by decide +kernel
theorem dX6_append_39 : decode cX6_append 39 = .ok (.return_, 1) := by decide +kernel
theorem dX6_clear_0 : decode cX6_clear 0 = .ok (.aload_n 0, 1) := by decide +kernel
theorem dX6_clear_1 : decode cX6_clear 1 = .ok (.iconst 0, 1) := by decide +kernel
theorem dX6_clear_2 : decode cX6_clear 2 = .ok (.putfield 15, 3) := by decide +kernel
theorem dX6_clear_5 : decode cX6_clear 5 = .ok (.return_, 1) := by decide +kernel
theorem dX7_init_0 : decode cX7_init 0 = .ok (.aload_n 0, 1) := by decide +kernel
theorem dX7_init_1 : decode cX7_init 1 = .ok (.invokespecial 1, 3) := by decide +kernel
theorem dX7_init_4 : decode cX7_init 4 = .ok (.aload_n 0, 1) := by decide +kernel
theorem dX7_init_5 : decode cX7_init 5 = .ok (.new 7, 3) := by decide +kernel
theorem dX7_init_8 : decode cX7_init 8 = .ok (.dup, 1) := by decide +kernel
theorem dX7_init_9 : decode cX7_init 9 = .ok (.invokespecial 9, 3) := by decide +kernel
theorem dX7_init_12 : decode cX7_init 12 = .ok (.putfield 10, 3) := by decide +kernel
theorem dX7_init_15 : decode cX7_init 15 = .ok (.aload_n 0, 1) := by decide +kernel
theorem dX7_init_16 : decode cX7_init 16 = .ok (.new 7, 3) := by decide +kernel
theorem dX7_init_19 : decode cX7_init 19 = .ok (.dup, 1) := by decide +kernel
theorem dX7_init_20 : decode cX7_init 20 = .ok (.invokespecial 9, 3) := by decide +kernel
theorem dX7_init_23 : decode cX7_init 23 = .ok (.putfield 16, 3) := by decide +kernel
theorem dX7_init_26 : decode cX7_init 26 = .ok (.return_, 1) := by decide +kernel
theorem dX7_ofSide_0 : decode cX7_ofSide 0 = .ok (.iload_n 1, 1) := by decide +kernel
theorem dX7_ofSide_1 : decode cX7_ofSide 1 = .ok (.ifCond .ne 10, 3) := by decide +kernel
theorem dX7_ofSide_4 : decode cX7_ofSide 4 = .ok (.aload_n 0, 1) := by decide +kernel
theorem dX7_ofSide_5 : decode cX7_ofSide 5 = .ok (.getfield 10, 3) := by decide +kernel
theorem dX7_ofSide_8 : decode cX7_ofSide 8 = .ok (.goto 7, 3) := by decide +kernel
theorem dX7_ofSide_11 : decode cX7_ofSide 11 = .ok (.aload_n 0, 1) := by decide +kernel
theorem dX7_ofSide_12 : decode cX7_ofSide 12 = .ok (.getfield 16, 3) := by decide +kernel
theorem dX7_ofSide_15 : decode cX7_ofSide 15 = .ok (.areturn, 1) := by decide +kernel
theorem dX7_isThere_0 : decode cX7_isThere 0 = .ok (.aload_n 0, 1) := by decide +kernel
theorem dX7_isThere_1 : decode cX7_isThere 1 = .ok (.getfield 19, 3) := by decide +kernel
theorem dX7_isThere_4 : decode cX7_isThere 4 = .ok (.ireturn, 1) := by decide +kernel
theorem dX7_setThere_0 : decode cX7_setThere 0 = .ok (.aload_n 0, 1) := by decide +kernel
theorem dX7_setThere_1 : decode cX7_setThere 1 = .ok (.iload_n 1, 1) := by decide +kernel
theorem dX7_setThere_2 : decode cX7_setThere 2 = .ok (.putfield 19, 3) := by decide +kernel
theorem dX7_setThere_5 : decode cX7_setThere 5 = .ok (.return_, 1) := by decide +kernel
theorem dX8_init_0 : decode cX8_init 0 = .ok (.aload_n 0, 1) := by decide +kernel
theorem dX8_init_1 : decode cX8_init 1 = .ok (.invokespecial 3, 3) := by decide +kernel
theorem dX8_init_4 : decode cX8_init 4 = .ok (.aload_n 0, 1) := by decide +kernel
theorem dX8_init_5 : decode cX8_init 5 = .ok (.getstatic 9, 3) := by decide +kernel
theorem dX8_init_8 : decode cX8_init 8 = .ok (.invokevirtual 13, 3) := by decide +kernel
theorem dX8_init_11 : decode cX8_init 11 = .ok (.checkcast 14, 3) := by decide +kernel
theorem dX8_init_14 : decode cX8_init 14 = .ok (.putfield 18, 3) := by decide +kernel
theorem dX8_init_17 : decode cX8_init 17 = .ok (.return_, 1) := by decide +kernel
theorem dX8_at_0 : decode cX8_at 0 = .ok (.iload_n 1, 1) := by decide +kernel
theorem dX8_at_1 : decode cX8_at 1 = .ok (.ifCond .lt 21, 3) := by decide +kernel
theorem dX8_at_4 : decode cX8_at 4 = .ok (.iload_n 1, 1) := by decide +kernel
theorem dX8_at_5 : decode cX8_at 5 = .ok (.aload_n 0, 1) := by decide +kernel
theorem dX8_at_6 : decode cX8_at 6 = .ok (.getfield 18, 3) := by decide +kernel
theorem dX8_at_9 : decode cX8_at 9 = .ok (.arraylength, 1) := by decide +kernel
theorem dX8_at_10 : decode cX8_at 10 = .ok (.if_icmp .ge 12, 3) := by decide +kernel
theorem dX8_at_13 : decode cX8_at 13 = .ok (.aload_n 0, 1) := by decide +kernel
theorem dX8_at_14 : decode cX8_at 14 = .ok (.getfield 18, 3) := by decide +kernel
theorem dX8_at_17 : decode cX8_at 17 = .ok (.iload_n 1, 1) := by decide +kernel
theorem dX8_at_18 : decode cX8_at 18 = .ok (.iaload, 1) := by decide +kernel
theorem dX8_at_19 : decode cX8_at 19 = .ok (.goto 4, 3) := by decide +kernel
theorem dX8_at_22 : decode cX8_at 22 = .ok (.iconst 0, 1) := by decide +kernel
theorem dX8_at_23 : decode cX8_at 23 = .ok (.ireturn, 1) := by decide +kernel
theorem dX8_replace_0 : decode cX8_replace 0 = .ok (.aload_n 0, 1) := by decide +kernel
theorem dX8_replace_1 : decode cX8_replace 1 = .ok (.iload_n 1, 1) := by decide +kernel
theorem dX8_replace_2 : decode cX8_replace 2 = .ok (.invokevirtual 23, 3) := by decide +kernel
theorem dX8_replace_5 : decode cX8_replace 5 = .ok (.istore_n 3, 1) := by decide +kernel
theorem dX8_replace_6 : decode cX8_replace 6 = .ok (.iload_n 1, 1) := by decide +kernel
theorem dX8_replace_7 : decode cX8_replace 7 = .ok (.ifCond .lt 19, 3) := by decide +kernel
theorem dX8_replace_10 : decode cX8_replace 10 = .ok (.iload_n 1, 1) := by decide +kernel
theorem dX8_replace_11 : decode cX8_replace 11 = .ok (.aload_n 0, 1) := by decide +kernel
theorem dX8_replace_12 : decode cX8_replace 12 = .ok (.getfield 18, 3) := by decide +kernel
theorem dX8_replace_15 : decode cX8_replace 15 = .ok (.arraylength, 1) := by decide +kernel
theorem dX8_replace_16 : decode cX8_replace 16 = .ok (.if_icmp .ge 10, 3) := by decide +kernel
theorem dX8_replace_19 : decode cX8_replace 19 = .ok (.aload_n 0, 1) := by decide +kernel
theorem dX8_replace_20 : decode cX8_replace 20 = .ok (.getfield 18, 3) := by decide +kernel
theorem dX8_replace_23 : decode cX8_replace 23 = .ok (.iload_n 1, 1) := by decide +kernel
theorem dX8_replace_24 : decode cX8_replace 24 = .ok (.iload_n 2, 1) := by decide +kernel
theorem dX8_replace_25 : decode cX8_replace 25 = .ok (.iastore, 1) := by decide +kernel
theorem dX8_replace_26 : decode cX8_replace 26 = .ok (.iload_n 3, 1) := by decide +kernel
theorem dX8_replace_27 : decode cX8_replace 27 = .ok (.ireturn, 1) := by decide +kernel
theorem dX8_between_0 : decode cX8_between 0 = .ok (.aload_n 0, 1) := by decide +kernel
theorem dX8_between_1 : decode cX8_between 1 = .ok (.iload_n 1, 1) := by decide +kernel
theorem dX8_between_2 : decode cX8_between 2 = .ok (.iload_n 2, 1) := by decide +kernel
theorem dX8_between_3 : decode cX8_between 3 = .ok (.isub, 1) := by decide +kernel
theorem dX8_between_4 : decode cX8_between 4 = .ok (.invokestatic 27, 3) := by decide +kernel
theorem dX8_between_7 : decode cX8_between 7 = .ok (.iconst 3, 1) := by decide +kernel
theorem dX8_between_8 : decode cX8_between 8 = .ok (.invokestatic 32, 3) := by decide +kernel
theorem dX8_between_11 : decode cX8_between 11 = .ok (.invokevirtual 23, 3) := by decide +kernel
theorem dX8_between_14 : decode cX8_between 14 = .ok (.ireturn, 1) := by decide +kernel
theorem dX8_ofEmpty_0 : decode cX8_ofEmpty 0 = .ok (.aload_n 0, 1) := by decide +kernel
theorem dX8_ofEmpty_1 : decode cX8_ofEmpty 1 = .ok (.iconst 4, 1) := by decide +kernel
theorem dX8_ofEmpty_2 : decode cX8_ofEmpty 2 = .ok (.invokevirtual 23, 3) := by decide +kernel
theorem dX8_ofEmpty_5 : decode cX8_ofEmpty 5 = .ok (.ireturn, 1) := by decide +kernel
theorem dX9_init_0 : decode cX9_init 0 = .ok (.aload_n 0, 1) := by decide +kernel
theorem dX9_init_1 : decode cX9_init 1 = .ok (.invokespecial 3, 3) := by decide +kernel
theorem dX9_init_4 : decode cX9_init 4 = .ok (.aload_n 0, 1) := by decide +kernel
theorem dX9_init_5 : decode cX9_init 5 = .ok (.new 9, 3) := by decide +kernel
theorem dX9_init_8 : decode cX9_init 8 = .ok (.dup, 1) := by decide +kernel
theorem dX9_init_9 : decode cX9_init 9 = .ok (.invokespecial 11, 3) := by decide +kernel
theorem dX9_init_12 : decode cX9_init 12 = .ok (.putfield 12, 3) := by decide +kernel
theorem dX9_init_15 : decode cX9_init 15 = .ok (.aload_n 0, 1) := by decide +kernel
theorem dX9_init_16 : decode cX9_init 16 = .ok (.new 16, 3) := by decide +kernel
theorem dX9_init_19 : decode cX9_init 19 = .ok (.dup, 1) := by decide +kernel
theorem dX9_init_20 : decode cX9_init 20 = .ok (.invokespecial 18, 3) := by decide +kernel
theorem dX9_init_23 : decode cX9_init 23 = .ok (.putfield 19, 3) := by decide +kernel
theorem dX9_init_26 : decode cX9_init 26 = .ok (.aload_n 0, 1) := by decide +kernel
theorem dX9_init_27 : decode cX9_init 27 = .ok (.new 23, 3) := by decide +kernel
theorem dX9_init_30 : decode cX9_init 30 = .ok (.dup, 1) := by decide +kernel
theorem dX9_init_31 : decode cX9_init 31 = .ok (.invokespecial 25, 3) := by decide +kernel
theorem dX9_init_34 : decode cX9_init 34 = .ok (.putfield 26, 3) := by decide +kernel
theorem dX9_init_37 : decode cX9_init 37 = .ok (.aload_n 0, 1) := by decide +kernel
theorem dX9_init_38 : decode cX9_init 38 = .ok (.new 30, 3) := by decide +kernel
theorem dX9_init_41 : decode cX9_init 41 = .ok (.dup, 1) := by decide +kernel
theorem dX9_init_42 : decode cX9_init 42 = .ok (.invokespecial 32, 3) := by decide +kernel
theorem dX9_init_45 : decode cX9_init 45 = .ok (.putfield 33, 3) := by decide +kernel
theorem dX9_init_48 : decode cX9_init 48 = .ok (.aload_n 0, 1) := by decide +kernel
theorem dX9_init_49 : decode cX9_init 49 = .ok (.new 37, 3) := by decide +kernel
theorem dX9_init_52 : decode cX9_init 52 = .ok (.dup, 1) := by decide +kernel
theorem dX9_init_53 : decode cX9_init 53 = .ok (.invokespecial 39, 3) := by decide +kernel
theorem dX9_init_56 : decode cX9_init 56 = .ok (.putfield 40, 3) := by decide +kernel
theorem dX9_init_59 : decode cX9_init 59 = .ok (.aload_n 0, 1) := by decide +kernel
theorem dX9_init_60 : decode cX9_init 60 = .ok (.new 44, 3) := by decide +kernel
theorem dX9_init_63 : decode cX9_init 63 = .ok (.dup, 1) := by decide +kernel
theorem dX9_init_64 : decode cX9_init 64 = .ok (.invokespecial 46, 3) := by decide +kernel
theorem dX9_init_67 : decode cX9_init 67 = .ok (.putfield 47, 3) := by decide +kernel
theorem dX9_init_70 : decode cX9_init 70 = .ok (.return_, 1) := by decide +kernel
theorem dX9_put_0 : decode cX9_put 0 = .ok (.iload_n 1, 1) := by decide +kernel
theorem dX9_put_1 : decode cX9_put 1 = .ok (.invokestatic 51, 3) := by decide +kernel
theorem dX9_put_4 : decode cX9_put 4 = .ok (.ifCond .eq 10, 3) := by decide +kernel
theorem dX9_put_7 : decode cX9_put 7 = .ok (.iload_n 2, 1) := by decide +kernel
theorem dX9_put_8 : decode cX9_put 8 = .ok (.invokestatic 55, 3) := by decide +kernel
theorem dX9_put_11 : decode cX9_put 11 = .ok (.ifCond .ne 13, 3) := by decide +kernel
theorem dX9_put_14 : decode cX9_put 14 = .ok (.new 58, 3) := by decide +kernel
theorem dX9_put_17 : decode cX9_put 17 = .ok (.dup, 1) := by decide +kernel
theorem dX9_put_18 : decode cX9_put 18 = .ok (.ldc 60, 2) := by decide +kernel
theorem dX9_put_20 : decode cX9_put 20 = .ok (.invokespecial 62, 3) := by decide +kernel
theorem dX9_put_23 : decode cX9_put 23 = .ok (.athrow, 1) := by decide +kernel
theorem dX9_put_24 : decode cX9_put 24 = .ok (.aload_n 0, 1) := by decide +kernel
theorem dX9_put_25 : decode cX9_put 25 = .ok (.getfield 47, 3) := by decide +kernel
theorem dX9_put_28 : decode cX9_put 28 = .ok (.iload_n 1, 1) := by decide +kernel
theorem dX9_put_29 : decode cX9_put 29 = .ok (.invokevirtual 65, 3) := by decide +kernel
theorem dX9_put_32 : decode cX9_put 32 = .ok (.astore_n 3, 1) := by decide +kernel
theorem dX9_put_33 : decode cX9_put 33 = .ok (.aload_n 3, 1) := by decide +kernel
theorem dX9_put_34 : decode cX9_put 34 = .ok (.invokevirtual 69, 3) := by decide +kernel
theorem dX9_put_37 : decode cX9_put 37 = .ok (.ifCond .eq 13, 3) := by decide +kernel
theorem dX9_put_40 : decode cX9_put 40 = .ok (.new 75, 3) := by decide +kernel
theorem dX9_put_43 : decode cX9_put 43 = .ok (.dup, 1) := by decide +kernel
theorem dX9_put_44 : decode cX9_put 44 = .ok (.ldc 77, 2) := by decide +kernel
theorem dX9_put_46 : decode cX9_put 46 = .ok (.invokespecial 79, 3) := by decide +kernel
theorem dX9_put_49 : decode cX9_put 49 = .ok (.athrow, 1) := by decide +kernel
theorem dX9_put_50 : decode cX9_put 50 = .ok (.aload_n 3, 1) := by decide +kernel
theorem dX9_put_51 : decode cX9_put 51 = .ok (.iload_n 2, 1) := by decide +kernel
theorem dX9_put_52 : decode cX9_put 52 = .ok (.invokevirtual 80, 3) := by decide +kernel
theorem dX9_put_55 : decode cX9_put 55 = .ok (.aload_n 3, 1) := by decide +kernel
theorem dX9_put_56 : decode cX9_put 56 = .ok (.invokevirtual 84, 3) := by decide +kernel
theorem dX9_put_59 : decode cX9_put 59 = .ok (.ireturn, 1) := by decide +kernel
theorem dX9_wipe_0 : decode cX9_wipe 0 = .ok (.aload_n 0, 1) := by decide +kernel
theorem dX9_wipe_1 : decode cX9_wipe 1 = .ok (.getfield 47, 3) := by decide +kernel
theorem dX9_wipe_4 : decode cX9_wipe 4 = .ok (.iconst 0, 1) := by decide +kernel
theorem dX9_wipe_5 : decode cX9_wipe 5 = .ok (.invokevirtual 65, 3) := by decide +kernel
theorem dX9_wipe_8 : decode cX9_wipe 8 = .ok (.invokevirtual 84, 3) := by decide +kernel
theorem dX9_wipe_11 : decode cX9_wipe 11 = .ok (.aload_n 0, 1) := by decide +kernel
theorem dX9_wipe_12 : decode cX9_wipe 12 = .ok (.getfield 47, 3) := by decide +kernel
theorem dX9_wipe_15 : decode cX9_wipe 15 = .ok (.iconst 1, 1) := by decide +kernel
theorem dX9_wipe_16 : decode cX9_wipe 16 = .ok (.invokevirtual 65, 3) := by decide +kernel
theorem dX9_wipe_19 : decode cX9_wipe 19 = .ok (.invokevirtual 84, 3) := by decide +kernel
theorem dX9_wipe_22 : decode cX9_wipe 22 = .ok (.iadd, 1) := by decide +kernel
theorem dX9_wipe_23 : decode cX9_wipe 23 = .ok (.istore_n 1, 1) := by decide +kernel
theorem dX9_wipe_24 : decode cX9_wipe 24 = .ok (.aload_n 0, 1) := by decide +kernel
theorem dX9_wipe_25 : decode cX9_wipe 25 = .ok (.getfield 47, 3) := by decide +kernel
theorem dX9_wipe_28 : decode cX9_wipe 28 = .ok (.iconst 0, 1) := by decide +kernel
theorem dX9_wipe_29 : decode cX9_wipe 29 = .ok (.invokevirtual 65, 3) := by decide +kernel
theorem dX9_wipe_32 : decode cX9_wipe 32 = .ok (.invokevirtual 88, 3) := by decide +kernel
theorem dX9_wipe_35 : decode cX9_wipe 35 = .ok (.aload_n 0, 1) := by decide +kernel
theorem dX9_wipe_36 : decode cX9_wipe 36 = .ok (.getfield 47, 3) := by decide +kernel
theorem dX9_wipe_39 : decode cX9_wipe 39 = .ok (.iconst 1, 1) := by decide +kernel
theorem dX9_wipe_40 : decode cX9_wipe 40 = .ok (.invokevirtual 65, 3) := by decide +kernel
theorem dX9_wipe_43 : decode cX9_wipe 43 = .ok (.invokevirtual 88, 3) := by decide +kernel
theorem dX9_wipe_46 : decode cX9_wipe 46 = .ok (.iload_n 1, 1) := by decide +kernel
theorem dX9_wipe_47 : decode cX9_wipe 47 = .ok (.ireturn, 1) := by decide +kernel
theorem dX9_pair_0 : decode cX9_pair 0 = .ok (.aload_n 0, 1) := by decide +kernel
theorem dX9_pair_1 : decode cX9_pair 1 = .ok (.getfield 47, 3) := by decide +kernel
theorem dX9_pair_4 : decode cX9_pair 4 = .ok (.iconst 0, 1) := by decide +kernel
theorem dX9_pair_5 : decode cX9_pair 5 = .ok (.invokevirtual 65, 3) := by decide +kernel
theorem dX9_pair_8 : decode cX9_pair 8 = .ok (.invokevirtual 84, 3) := by decide +kernel
theorem dX9_pair_11 : decode cX9_pair 11 = .ok (.ifCond .eq 17, 3) := by decide +kernel
theorem dX9_pair_14 : decode cX9_pair 14 = .ok (.aload_n 0, 1) := by decide +kernel
theorem dX9_pair_15 : decode cX9_pair 15 = .ok (.getfield 47, 3) := by decide +kernel
theorem dX9_pair_18 : decode cX9_pair 18 = .ok (.iconst 1, 1) := by decide +kernel
theorem dX9_pair_19 : decode cX9_pair 19 = .ok (.invokevirtual 65, 3) := by decide +kernel
theorem dX9_pair_22 : decode cX9_pair 22 = .ok (.invokevirtual 84, 3) := by decide +kernel
theorem dX9_pair_25 : decode cX9_pair 25 = .ok (.ifCond .ne 13, 3) := by decide +kernel
theorem dX9_pair_28 : decode cX9_pair 28 = .ok (.new 75, 3) := by decide +kernel
theorem dX9_pair_31 : decode cX9_pair 31 = .ok (.dup, 1) := by decide +kernel
theorem dX9_pair_32 : decode cX9_pair 32 = .ok (.ldc 91, 2) := by decide +kernel
theorem dX9_pair_34 : decode cX9_pair 34 = .ok (.invokespecial 79, 3) := by decide +kernel
theorem dX9_pair_37 : decode cX9_pair 37 = .ok (.athrow, 1) := by decide +kernel
theorem dX9_pair_38 : decode cX9_pair 38 = .ok (.aload_n 0, 1) := by decide +kernel
theorem dX9_pair_39 : decode cX9_pair 39 = .ok (.getfield 12, 3) := by decide +kernel
theorem dX9_pair_42 : decode cX9_pair 42 = .ok (.invokevirtual 93, 3) := by decide +kernel
theorem dX9_pair_45 : decode cX9_pair 45 = .ok (.ifCond .eq 13, 3) := by decide +kernel
theorem dX9_pair_48 : decode cX9_pair 48 = .ok (.new 75, 3) := by decide +kernel
theorem dX9_pair_51 : decode cX9_pair 51 = .ok (.dup, 1) := by decide +kernel
theorem dX9_pair_52 : decode cX9_pair 52 = .ok (.ldc 94, 2) := by decide +kernel
theorem dX9_pair_54 : decode cX9_pair 54 = .ok (.invokespecial 79, 3) := by decide +kernel
theorem dX9_pair_57 : decode cX9_pair 57 = .ok (.athrow, 1) := by decide +kernel
theorem dX9_pair_58 : decode cX9_pair 58 = .ok (.aload_n 0, 1) := by decide +kernel
theorem dX9_pair_59 : decode cX9_pair 59 = .ok (.getfield 12, 3) := by decide +kernel
theorem dX9_pair_62 : decode cX9_pair 62 = .ok (.aload_n 0, 1) := by decide +kernel
theorem dX9_pair_63 : decode cX9_pair 63 = .ok (.getfield 47, 3) := by decide +kernel
theorem dX9_pair_66 : decode cX9_pair 66 = .ok (.invokevirtual 96, 3) := by decide +kernel
theorem dX9_pair_69 : decode cX9_pair 69 = .ok (.istore_n 1, 1) := by decide +kernel
theorem dX9_pair_70 : decode cX9_pair 70 = .ok (.aload_n 0, 1) := by decide +kernel
theorem dX9_pair_71 : decode cX9_pair 71 = .ok (.new 44, 3) := by decide +kernel
theorem dX9_pair_74 : decode cX9_pair 74 = .ok (.dup, 1) := by decide +kernel
theorem dX9_pair_75 : decode cX9_pair 75 = .ok (.invokespecial 46, 3) := by decide +kernel
theorem dX9_pair_78 : decode cX9_pair 78 = .ok (.putfield 47, 3) := by decide +kernel
theorem dX9_pair_81 : decode cX9_pair 81 = .ok (.iload_n 1, 1) := by decide +kernel
theorem dX9_pair_82 : decode cX9_pair 82 = .ok (.ireturn, 1) := by decide +kernel
theorem dX9_takeBack_0 : decode cX9_takeBack 0 = .ok (.aload_n 0, 1) := by decide +kernel
theorem dX9_takeBack_1 : decode cX9_takeBack 1 = .ok (.iload_n 1, 1) := by decide +kernel
theorem dX9_takeBack_2 : decode cX9_takeBack 2 = .ok (.invokevirtual 100, 3) := by decide +kernel
theorem dX9_takeBack_5 : decode cX9_takeBack 5 = .ok (.astore_n 2, 1) := by decide +kernel
theorem dX9_takeBack_6 : decode cX9_takeBack 6 = .ok (.aload_n 0, 1) := by decide +kernel
theorem dX9_takeBack_7 : decode cX9_takeBack 7 = .ok (.getfield 12, 3) := by decide +kernel
theorem dX9_takeBack_10 : decode cX9_takeBack 10 = .ok (.aload_n 2, 1) := by decide +kernel
theorem dX9_takeBack_11 : decode cX9_takeBack 11 = .ok (.invokevirtual 104, 3) := by decide +kernel
theorem dX9_takeBack_14 : decode cX9_takeBack 14 = .ok (.aload_n 0, 1) := by decide +kernel
theorem dX9_takeBack_15 : decode cX9_takeBack 15 = .ok (.getfield 12, 3) := by decide +kernel
theorem dX9_takeBack_18 : decode cX9_takeBack 18 = .ok (.invokevirtual 108, 3) := by decide +kernel
theorem dX9_takeBack_21 : decode cX9_takeBack 21 = .ok (.ireturn, 1) := by decide +kernel
theorem dX9_begin_0 : decode cX9_begin 0 = .ok (.aload_n 0, 1) := by decide +kernel
theorem dX9_begin_1 : decode cX9_begin 1 = .ok (.getfield 19, 3) := by decide +kernel
theorem dX9_begin_4 : decode cX9_begin 4 = .ok (.iconst 0, 1) := by decide +kernel
theorem dX9_begin_5 : decode cX9_begin 5 = .ok (.invokevirtual 111, 3) := by decide +kernel
theorem dX9_begin_8 : decode cX9_begin 8 = .ok (.aload_n 0, 1) := by decide +kernel
theorem dX9_begin_9 : decode cX9_begin 9 = .ok (.getfield 12, 3) := by decide +kernel
theorem dX9_begin_12 : decode cX9_begin 12 = .ok (.invokevirtual 115, 3) := by decide +kernel
theorem dX9_begin_15 : decode cX9_begin 15 = .ok (.aload_n 0, 1) := by decide +kernel
theorem dX9_begin_16 : decode cX9_begin 16 = .ok (.getfield 19, 3) := by decide +kernel
theorem dX9_begin_19 : decode cX9_begin 19 = .ok (.iconst 1, 1) := by decide +kernel
theorem dX9_begin_20 : decode cX9_begin 20 = .ok (.invokevirtual 111, 3) := by decide +kernel
theorem dX9_begin_23 : decode cX9_begin 23 = .ok (.aload_n 0, 1) := by decide +kernel
theorem dX9_begin_24 : decode cX9_begin 24 = .ok (.getfield 12, 3) := by decide +kernel
theorem dX9_begin_27 : decode cX9_begin 27 = .ok (.invokevirtual 115, 3) := by decide +kernel
theorem dX9_begin_30 : decode cX9_begin 30 = .ok (.iadd, 1) := by decide +kernel
theorem dX9_begin_31 : decode cX9_begin 31 = .ok (.ireturn, 1) := by decide +kernel
theorem dX9_round_0 : decode cX9_round 0 = .ok (.aload_n 0, 1) := by decide +kernel
theorem dX9_round_1 : decode cX9_round 1 = .ok (.getfield 19, 3) := by decide +kernel
theorem dX9_round_4 : decode cX9_round 4 = .ok (.iconst 0, 1) := by decide +kernel
theorem dX9_round_5 : decode cX9_round 5 = .ok (.invokevirtual 111, 3) := by decide +kernel
theorem dX9_round_8 : decode cX9_round 8 = .ok (.aload_n 0, 1) := by decide +kernel
theorem dX9_round_9 : decode cX9_round 9 = .ok (.getfield 12, 3) := by decide +kernel
theorem dX9_round_12 : decode cX9_round 12 = .ok (.invokevirtual 121, 3) := by decide +kernel
theorem dX9_round_15 : decode cX9_round 15 = .ok (.aload_n 0, 1) := by decide +kernel
theorem dX9_round_16 : decode cX9_round 16 = .ok (.getfield 19, 3) := by decide +kernel
theorem dX9_round_19 : decode cX9_round 19 = .ok (.iconst 1, 1) := by decide +kernel
theorem dX9_round_20 : decode cX9_round 20 = .ok (.invokevirtual 111, 3) := by decide +kernel
theorem dX9_round_23 : decode cX9_round 23 = .ok (.aload_n 0, 1) := by decide +kernel
theorem dX9_round_24 : decode cX9_round 24 = .ok (.getfield 12, 3) := by decide +kernel
theorem dX9_round_27 : decode cX9_round 27 = .ok (.invokevirtual 121, 3) := by decide +kernel
theorem dX9_round_30 : decode cX9_round 30 = .ok (.iadd, 1) := by decide +kernel
theorem dX9_round_31 : decode cX9_round 31 = .ok (.ireturn, 1) := by decide +kernel
theorem dX9_weight_0 : decode cX9_weight 0 = .ok (.iload_n 1, 1) := by decide +kernel
theorem dX9_weight_1 : decode cX9_weight 1 = .ok (.ifCond .lt 8, 3) := by decide +kernel
theorem dX9_weight_4 : decode cX9_weight 4 = .ok (.iload_n 1, 1) := by decide +kernel
theorem dX9_weight_5 : decode cX9_weight 5 = .ok (.iconst 4, 1) := by decide +kernel
theorem dX9_weight_6 : decode cX9_weight 6 = .ok (.if_icmp .le 13, 3) := by decide +kernel
theorem dX9_weight_9 : decode cX9_weight 9 = .ok (.new 58, 3) := by decide +kernel
theorem dX9_weight_12 : decode cX9_weight 12 = .ok (.dup, 1) := by decide +kernel
theorem dX9_weight_13 : decode cX9_weight 13 = .ok (.ldc 124, 2) := by decide +kernel
theorem dX9_weight_15 : decode cX9_weight 15 = .ok (.invokespecial 62, 3) := by decide +kernel
theorem dX9_weight_18 : decode cX9_weight 18 = .ok (.athrow, 1) := by decide +kernel
theorem dX9_weight_19 : decode cX9_weight 19 = .ok (.iload_n 2, 1) := by decide +kernel
theorem dX9_weight_20 : decode cX9_weight 20 = .ok (.ifCond .lt 9, 3) := by decide +kernel
theorem dX9_weight_23 : decode cX9_weight 23 = .ok (.iload_n 2, 1) := by decide +kernel
theorem dX9_weight_24 : decode cX9_weight 24 = .ok (.bipush 9, 2) := by decide +kernel
theorem dX9_weight_26 : decode cX9_weight 26 = .ok (.if_icmp .le 13, 3) := by decide +kernel
theorem dX9_weight_29 : decode cX9_weight 29 = .ok (.new 126, 3) := by decide +kernel
theorem dX9_weight_32 : decode cX9_weight 32 = .ok (.dup, 1) := by decide +kernel
theorem dX9_weight_33 : decode cX9_weight 33 = .ok (.ldc 128, 2) := by decide +kernel
theorem dX9_weight_35 : decode cX9_weight 35 = .ok (.invokespecial 130, 3) := by decide +kernel
theorem dX9_weight_38 : decode cX9_weight 38 = .ok (.athrow, 1) := by decide +kernel
theorem dX9_weight_39 : decode cX9_weight 39 = .ok (.aload_n 0, 1) := by decide +kernel
theorem dX9_weight_40 : decode cX9_weight 40 = .ok (.getfield 19, 3) := by decide +kernel
theorem dX9_weight_43 : decode cX9_weight 43 = .ok (.iload_n 1, 1) := by decide +kernel
theorem dX9_weight_44 : decode cX9_weight 44 = .ok (.iload_n 2, 1) := by decide +kernel
theorem dX9_weight_45 : decode cX9_weight 45 = .ok (.invokevirtual 131, 3) := by decide +kernel
theorem dX9_weight_48 : decode cX9_weight 48 = .ok (.ireturn, 1) := by decide +kernel
theorem dX9_pairs_0 : decode cX9_pairs 0 = .ok (.aload_n 0, 1) := by decide +kernel
theorem dX9_pairs_1 : decode cX9_pairs 1 = .ok (.getfield 12, 3) := by decide +kernel
theorem dX9_pairs_4 : decode cX9_pairs 4 = .ok (.invokevirtual 108, 3) := by decide +kernel
theorem dX9_pairs_7 : decode cX9_pairs 7 = .ok (.ireturn, 1) := by decide +kernel
theorem dX9_word_0 : decode cX9_word 0 = .ok (.aload_n 0, 1) := by decide +kernel
theorem dX9_word_1 : decode cX9_word 1 = .ok (.iload_n 1, 1) := by decide +kernel
theorem dX9_word_2 : decode cX9_word 2 = .ok (.invokevirtual 100, 3) := by decide +kernel
theorem dX9_word_5 : decode cX9_word 5 = .ok (.astore 4, 2) := by decide +kernel
theorem dX9_word_7 : decode cX9_word 7 = .ok (.iload_n 2, 1) := by decide +kernel
theorem dX9_word_8 : decode cX9_word 8 = .ok (.invokestatic 51, 3) := by decide +kernel
theorem dX9_word_11 : decode cX9_word 11 = .ok (.ifCond .eq 7, 3) := by decide +kernel
theorem dX9_word_14 : decode cX9_word 14 = .ok (.iload_n 3, 1) := by decide +kernel
theorem dX9_word_15 : decode cX9_word 15 = .ok (.ifCond .ge 13, 3) := by decide +kernel
theorem dX9_word_18 : decode cX9_word 18 = .ok (.new 58, 3) := by decide +kernel
theorem dX9_word_21 : decode cX9_word 21 = .ok (.dup, 1) := by decide +kernel
theorem dX9_word_22 : decode cX9_word 22 = .ok (.ldc 135, 2) := by decide +kernel
theorem dX9_word_24 : decode cX9_word 24 = .ok (.invokespecial 62, 3) := by decide +kernel
theorem dX9_word_27 : decode cX9_word 27 = .ok (.athrow, 1) := by decide +kernel
theorem dX9_word_28 : decode cX9_word 28 = .ok (.aload 4, 2) := by decide +kernel
theorem dX9_word_30 : decode cX9_word 30 = .ok (.iload_n 2, 1) := by decide +kernel
theorem dX9_word_31 : decode cX9_word 31 = .ok (.invokevirtual 65, 3) := by decide +kernel
theorem dX9_word_34 : decode cX9_word 34 = .ok (.iload_n 3, 1) := by decide +kernel
theorem dX9_word_35 : decode cX9_word 35 = .ok (.invokevirtual 137, 3) := by decide +kernel
theorem dX9_word_38 : decode cX9_word 38 = .ok (.ireturn, 1) := by decide +kernel
theorem dX9_share_0 : decode cX9_share 0 = .ok (.iload_n 1, 1) := by decide +kernel
theorem dX9_share_1 : decode cX9_share 1 = .ok (.invokestatic 51, 3) := by decide +kernel
theorem dX9_share_4 : decode cX9_share 4 = .ok (.ifCond .eq 23, 3) := by decide +kernel
theorem dX9_share_7 : decode cX9_share 7 = .ok (.iload_n 2, 1) := by decide +kernel
theorem dX9_share_8 : decode cX9_share 8 = .ok (.invokestatic 55, 3) := by decide +kernel
theorem dX9_share_11 : decode cX9_share 11 = .ok (.ifCond .ne 9, 3) := by decide +kernel
theorem dX9_share_14 : decode cX9_share 14 = .ok (.iload_n 2, 1) := by decide +kernel
theorem dX9_share_15 : decode cX9_share 15 = .ok (.bipush 15, 2) := by decide +kernel
theorem dX9_share_17 : decode cX9_share 17 = .ok (.if_icmp .ne 10, 3) := by decide +kernel
theorem dX9_share_20 : decode cX9_share 20 = .ok (.iload_n 3, 1) := by decide +kernel
theorem dX9_share_21 : decode cX9_share 21 = .ok (.invokestatic 55, 3) := by decide +kernel
theorem dX9_share_24 : decode cX9_share 24 = .ok (.ifCond .ne 13, 3) := by decide +kernel
theorem dX9_share_27 : decode cX9_share 27 = .ok (.new 58, 3) := by decide +kernel
theorem dX9_share_30 : decode cX9_share 30 = .ok (.dup, 1) := by decide +kernel
theorem dX9_share_31 : decode cX9_share 31 = .ok (.ldc 141, 2) := by decide +kernel
theorem dX9_share_33 : decode cX9_share 33 = .ok (.invokespecial 62, 3) := by decide +kernel
theorem dX9_share_36 : decode cX9_share 36 = .ok (.athrow, 1) := by decide +kernel
theorem dX9_share_37 : decode cX9_share 37 = .ok (.aload_n 0, 1) := by decide +kernel
theorem dX9_share_38 : decode cX9_share 38 = .ok (.getfield 19, 3) := by decide +kernel
theorem dX9_share_41 : decode cX9_share 41 = .ok (.iload_n 1, 1) := by decide +kernel
theorem dX9_share_42 : decode cX9_share 42 = .ok (.invokevirtual 111, 3) := by decide +kernel
theorem dX9_share_45 : decode cX9_share 45 = .ok (.iload_n 2, 1) := by decide +kernel
theorem dX9_share_46 : decode cX9_share 46 = .ok (.iload_n 3, 1) := by decide +kernel
theorem dX9_share_47 : decode cX9_share 47 = .ok (.invokevirtual 143, 3) := by decide +kernel
theorem dX9_share_50 : decode cX9_share 50 = .ok (.ireturn, 1) := by decide +kernel
theorem dX9_link_0 : decode cX9_link 0 = .ok (.aload_n 0, 1) := by decide +kernel
theorem dX9_link_1 : decode cX9_link 1 = .ok (.iload_n 2, 1) := by decide +kernel
theorem dX9_link_2 : decode cX9_link 2 = .ok (.invokevirtual 100, 3) := by decide +kernel
theorem dX9_link_5 : decode cX9_link 5 = .ok (.astore 4, 2) := by decide +kernel
theorem dX9_link_7 : decode cX9_link 7 = .ok (.iload_n 1, 1) := by decide +kernel
theorem dX9_link_8 : decode cX9_link 8 = .ok (.invokestatic 51, 3) := by decide +kernel
theorem dX9_link_11 : decode cX9_link 11 = .ok (.ifCond .eq 18, 3) := by decide +kernel
theorem dX9_link_14 : decode cX9_link 14 = .ok (.aload 4, 2) := by decide +kernel
theorem dX9_link_16 : decode cX9_link 16 = .ok (.iconst 1, 1) := by decide +kernel
theorem dX9_link_17 : decode cX9_link 17 = .ok (.iload_n 1, 1) := by decide +kernel
theorem dX9_link_18 : decode cX9_link 18 = .ok (.isub, 1) := by decide +kernel
theorem dX9_link_19 : decode cX9_link 19 = .ok (.invokevirtual 65, 3) := by decide +kernel
theorem dX9_link_22 : decode cX9_link 22 = .ok (.iload_n 3, 1) := by decide +kernel
theorem dX9_link_23 : decode cX9_link 23 = .ok (.invokevirtual 146, 3) := by decide +kernel
theorem dX9_link_26 : decode cX9_link 26 = .ok (.ifCond .ne 13, 3) := by decide +kernel
theorem dX9_link_29 : decode cX9_link 29 = .ok (.new 58, 3) := by decide +kernel
theorem dX9_link_32 : decode cX9_link 32 = .ok (.dup, 1) := by decide +kernel
theorem dX9_link_33 : decode cX9_link 33 = .ok (.ldc 149, 2) := by decide +kernel
theorem dX9_link_35 : decode cX9_link 35 = .ok (.invokespecial 62, 3) := by decide +kernel
theorem dX9_link_38 : decode cX9_link 38 = .ok (.athrow, 1) := by decide +kernel
theorem dX9_link_39 : decode cX9_link 39 = .ok (.aload_n 0, 1) := by decide +kernel
theorem dX9_link_40 : decode cX9_link 40 = .ok (.getfield 19, 3) := by decide +kernel
theorem dX9_link_43 : decode cX9_link 43 = .ok (.iload_n 1, 1) := by decide +kernel
theorem dX9_link_44 : decode cX9_link 44 = .ok (.aload 4, 2) := by decide +kernel
theorem dX9_link_46 : decode cX9_link 46 = .ok (.iload_n 3, 1) := by decide +kernel
theorem dX9_link_47 : decode cX9_link 47 = .ok (.invokevirtual 151, 3) := by decide +kernel
theorem dX9_link_50 : decode cX9_link 50 = .ok (.ireturn, 1) := by decide +kernel
theorem dX9_isJoined_0 : decode cX9_isJoined 0 = .ok (.aload_n 0, 1) := by decide +kernel
theorem dX9_isJoined_1 : decode cX9_isJoined 1 = .ok (.iload_n 1, 1) := by decide +kernel
theorem dX9_isJoined_2 : decode cX9_isJoined 2 = .ok (.invokevirtual 100, 3) := by decide +kernel
theorem dX9_isJoined_5 : decode cX9_isJoined 5 = .ok (.astore 4, 2) := by decide +kernel
theorem dX9_isJoined_7 : decode cX9_isJoined 7 = .ok (.aload 4, 2) := by decide +kernel
theorem dX9_isJoined_9 : decode cX9_isJoined 9 = .ok (.iconst 0, 1) := by decide +kernel
theorem dX9_isJoined_10 : decode cX9_isJoined 10 = .ok (.invokevirtual 65, 3) := by decide +kernel
theorem dX9_isJoined_13 : decode cX9_isJoined 13 = .ok (.iload_n 2, 1) := by decide +kernel
theorem dX9_isJoined_14 : decode cX9_isJoined 14 = .ok (.invokevirtual 146, 3) := by decide +kernel
theorem dX9_isJoined_17 : decode cX9_isJoined 17 = .ok (.ifCond .eq 16, 3) := by decide +kernel
theorem dX9_isJoined_20 : decode cX9_isJoined 20 = .ok (.aload 4, 2) := by decide +kernel
theorem dX9_isJoined_22 : decode cX9_isJoined 22 = .ok (.iconst 1, 1) := by decide +kernel
theorem dX9_isJoined_23 : decode cX9_isJoined 23 = .ok (.invokevirtual 65, 3) := by decide +kernel
theorem dX9_isJoined_26 : decode cX9_isJoined 26 = .ok (.iload_n 3, 1) := by decide +kernel
theorem dX9_isJoined_27 : decode cX9_isJoined 27 = .ok (.invokevirtual 146, 3) := by decide +kernel
theorem dX9_isJoined_30 : decode cX9_isJoined 30 = .ok (.ifCond .ne 13, 3) := by decide +kernel
theorem dX9_isJoined_33 : decode cX9_isJoined 33 = .ok (.new 58, 3) := by decide +kernel
theorem dX9_isJoined_36 : decode cX9_isJoined 36 = .ok (.dup, 1) := by decide +kernel
theorem dX9_isJoined_37 : decode cX9_isJoined 37 = .ok (.ldc 155, 2) := by decide +kernel
theorem dX9_isJoined_39 : decode cX9_isJoined 39 = .ok (.invokespecial 62, 3) := by decide +kernel
theorem dX9_isJoined_42 : decode cX9_isJoined 42 = .ok (.athrow, 1) := by decide +kernel
theorem dX9_isJoined_43 : decode cX9_isJoined 43 = .ok (.aload_n 0, 1) := by decide +kernel
theorem dX9_isJoined_44 : decode cX9_isJoined 44 = .ok (.getfield 26, 3) := by decide +kernel
theorem dX9_isJoined_47 : decode cX9_isJoined 47 = .ok (.aload 4, 2) := by decide +kernel
theorem dX9_isJoined_49 : decode cX9_isJoined 49 = .ok (.aload_n 0, 1) := by decide +kernel
theorem dX9_isJoined_50 : decode cX9_isJoined 50 = .ok (.getfield 19, 3) := by decide +kernel
theorem dX9_isJoined_53 : decode cX9_isJoined 53 = .ok (.invokevirtual 157, 3) := by decide +kernel
theorem dX9_isJoined_56 : decode cX9_isJoined 56 = .ok (.aload_n 0, 1) := by decide +kernel
theorem dX9_isJoined_57 : decode cX9_isJoined 57 = .ok (.getfield 26, 3) := by decide +kernel
theorem dX9_isJoined_60 : decode cX9_isJoined 60 = .ok (.iload_n 2, 1) := by decide +kernel
theorem dX9_isJoined_61 : decode cX9_isJoined 61 = .ok (.iload_n 3, 1) := by decide +kernel
theorem dX9_isJoined_62 : decode cX9_isJoined 62 = .ok (.invokevirtual 161, 3) := by decide +kernel
theorem dX9_isJoined_65 : decode cX9_isJoined 65 = .ok (.ireturn, 1) := by decide +kernel
theorem dX9_phrases_0 : decode cX9_phrases 0 = .ok (.aload_n 0, 1) := by decide +kernel
theorem dX9_phrases_1 : decode cX9_phrases 1 = .ok (.iload_n 1, 1) := by decide +kernel
theorem dX9_phrases_2 : decode cX9_phrases 2 = .ok (.invokevirtual 100, 3) := by decide +kernel
theorem dX9_phrases_5 : decode cX9_phrases 5 = .ok (.astore_n 2, 1) := by decide +kernel
theorem dX9_phrases_6 : decode cX9_phrases 6 = .ok (.aload_n 0, 1) := by decide +kernel
theorem dX9_phrases_7 : decode cX9_phrases 7 = .ok (.getfield 26, 3) := by decide +kernel
theorem dX9_phrases_10 : decode cX9_phrases 10 = .ok (.aload_n 2, 1) := by decide +kernel
theorem dX9_phrases_11 : decode cX9_phrases 11 = .ok (.aload_n 0, 1) := by decide +kernel
theorem dX9_phrases_12 : decode cX9_phrases 12 = .ok (.getfield 19, 3) := by decide +kernel
theorem dX9_phrases_15 : decode cX9_phrases 15 = .ok (.invokevirtual 157, 3) := by decide +kernel
theorem dX9_phrases_18 : decode cX9_phrases 18 = .ok (.aload_n 0, 1) := by decide +kernel
theorem dX9_phrases_19 : decode cX9_phrases 19 = .ok (.getfield 33, 3) := by decide +kernel
theorem dX9_phrases_22 : decode cX9_phrases 22 = .ok (.aload_n 0, 1) := by decide +kernel
theorem dX9_phrases_23 : decode cX9_phrases 23 = .ok (.getfield 26, 3) := by decide +kernel
theorem dX9_phrases_26 : decode cX9_phrases 26 = .ok (.iconst (-1), 1) := by decide +kernel
theorem dX9_phrases_27 : decode cX9_phrases 27 = .ok (.invokevirtual 165, 3) := by decide +kernel
theorem dX9_phrases_30 : decode cX9_phrases 30 = .ok (.aload_n 0, 1) := by decide +kernel
theorem dX9_phrases_31 : decode cX9_phrases 31 = .ok (.getfield 33, 3) := by decide +kernel
theorem dX9_phrases_34 : decode cX9_phrases 34 = .ok (.invokevirtual 169, 3) := by decide +kernel
theorem dX9_phrases_37 : decode cX9_phrases 37 = .ok (.ireturn, 1) := by decide +kernel
theorem dX9_phrase_0 : decode cX9_phrase 0 = .ok (.aload_n 0, 1) := by decide +kernel
theorem dX9_phrase_1 : decode cX9_phrase 1 = .ok (.iload_n 1, 1) := by decide +kernel
theorem dX9_phrase_2 : decode cX9_phrase 2 = .ok (.invokevirtual 100, 3) := by decide +kernel
theorem dX9_phrase_5 : decode cX9_phrase 5 = .ok (.astore 4, 2) := by decide +kernel
theorem dX9_phrase_7 : decode cX9_phrase 7 = .ok (.aload_n 0, 1) := by decide +kernel
theorem dX9_phrase_8 : decode cX9_phrase 8 = .ok (.getfield 26, 3) := by decide +kernel
theorem dX9_phrase_11 : decode cX9_phrase 11 = .ok (.aload 4, 2) := by decide +kernel
theorem dX9_phrase_13 : decode cX9_phrase 13 = .ok (.aload_n 0, 1) := by decide +kernel
theorem dX9_phrase_14 : decode cX9_phrase 14 = .ok (.getfield 19, 3) := by decide +kernel
theorem dX9_phrase_17 : decode cX9_phrase 17 = .ok (.invokevirtual 157, 3) := by decide +kernel
theorem dX9_phrase_20 : decode cX9_phrase 20 = .ok (.aload_n 0, 1) := by decide +kernel
theorem dX9_phrase_21 : decode cX9_phrase 21 = .ok (.getfield 33, 3) := by decide +kernel
theorem dX9_phrase_24 : decode cX9_phrase 24 = .ok (.aload_n 0, 1) := by decide +kernel
theorem dX9_phrase_25 : decode cX9_phrase 25 = .ok (.getfield 26, 3) := by decide +kernel
theorem dX9_phrase_28 : decode cX9_phrase 28 = .ok (.iload_n 2, 1) := by decide +kernel
theorem dX9_phrase_29 : decode cX9_phrase 29 = .ok (.invokevirtual 165, 3) := by decide +kernel
theorem dX9_phrase_32 : decode cX9_phrase 32 = .ok (.iload_n 2, 1) := by decide +kernel
theorem dX9_phrase_33 : decode cX9_phrase 33 = .ok (.ifCond .lt 14, 3) := by decide +kernel
theorem dX9_phrase_36 : decode cX9_phrase 36 = .ok (.iload_n 2, 1) := by decide +kernel
theorem dX9_phrase_37 : decode cX9_phrase 37 = .ok (.aload_n 0, 1) := by decide +kernel
theorem dX9_phrase_38 : decode cX9_phrase 38 = .ok (.getfield 33, 3) := by decide +kernel
theorem dX9_phrase_41 : decode cX9_phrase 41 = .ok (.invokevirtual 169, 3) := by decide +kernel
theorem dX9_phrase_44 : decode cX9_phrase 44 = .ok (.if_icmp .lt 13, 3) := by decide +kernel
theorem dX9_phrase_47 : decode cX9_phrase 47 = .ok (.new 58, 3) := by decide +kernel
theorem dX9_phrase_50 : decode cX9_phrase 50 = .ok (.dup, 1) := by decide +kernel
theorem dX9_phrase_51 : decode cX9_phrase 51 = .ok (.ldc 172, 2) := by decide +kernel
theorem dX9_phrase_53 : decode cX9_phrase 53 = .ok (.invokespecial 62, 3) := by decide +kernel
theorem dX9_phrase_56 : decode cX9_phrase 56 = .ok (.athrow, 1) := by decide +kernel
theorem dX9_phrase_57 : decode cX9_phrase 57 = .ok (.iload_n 3, 1) := by decide +kernel
theorem dX9_phrase_58 : decode cX9_phrase 58 = .ok (.ifCond .lt 8, 3) := by decide +kernel
theorem dX9_phrase_61 : decode cX9_phrase 61 = .ok (.iload_n 3, 1) := by decide +kernel
theorem dX9_phrase_62 : decode cX9_phrase 62 = .ok (.iconst 4, 1) := by decide +kernel
theorem dX9_phrase_63 : decode cX9_phrase 63 = .ok (.if_icmp .lt 13, 3) := by decide +kernel
theorem dX9_phrase_66 : decode cX9_phrase 66 = .ok (.new 126, 3) := by decide +kernel
theorem dX9_phrase_69 : decode cX9_phrase 69 = .ok (.dup, 1) := by decide +kernel
theorem dX9_phrase_70 : decode cX9_phrase 70 = .ok (.ldc 174, 2) := by decide +kernel
theorem dX9_phrase_72 : decode cX9_phrase 72 = .ok (.invokespecial 130, 3) := by decide +kernel
theorem dX9_phrase_75 : decode cX9_phrase 75 = .ok (.athrow, 1) := by decide +kernel
theorem dX9_phrase_76 : decode cX9_phrase 76 = .ok (.aload_n 0, 1) := by decide +kernel
theorem dX9_phrase_77 : decode cX9_phrase 77 = .ok (.getfield 33, 3) := by decide +kernel
theorem dX9_phrase_80 : decode cX9_phrase 80 = .ok (.iload_n 3, 1) := by decide +kernel
theorem dX9_phrase_81 : decode cX9_phrase 81 = .ok (.invokevirtual 176, 3) := by decide +kernel
theorem dX9_phrase_84 : decode cX9_phrase 84 = .ok (.ireturn, 1) := by decide +kernel
theorem dX9_fertility_0 : decode cX9_fertility 0 = .ok (.iload_n 1, 1) := by decide +kernel
theorem dX9_fertility_1 : decode cX9_fertility 1 = .ok (.invokestatic 55, 3) := by decide +kernel
theorem dX9_fertility_4 : decode cX9_fertility 4 = .ok (.ifCond .ne 13, 3) := by decide +kernel
theorem dX9_fertility_7 : decode cX9_fertility 7 = .ok (.new 58, 3) := by decide +kernel
theorem dX9_fertility_10 : decode cX9_fertility 10 = .ok (.dup, 1) := by decide +kernel
theorem dX9_fertility_11 : decode cX9_fertility 11 = .ok (.ldc 179, 2) := by decide +kernel
theorem dX9_fertility_13 : decode cX9_fertility 13 = .ok (.invokespecial 62, 3) := by decide +kernel
theorem dX9_fertility_16 : decode cX9_fertility 16 = .ok (.athrow, 1) := by decide +kernel
theorem dX9_fertility_17 : decode cX9_fertility 17 = .ok (.iload_n 2, 1) := by decide +kernel
theorem dX9_fertility_18 : decode cX9_fertility 18 = .ok (.ifCond .lt 9, 3) := by decide +kernel
theorem dX9_fertility_21 : decode cX9_fertility 21 = .ok (.iload_n 2, 1) := by decide +kernel
theorem dX9_fertility_22 : decode cX9_fertility 22 = .ok (.bipush 8, 2) := by decide +kernel
theorem dX9_fertility_24 : decode cX9_fertility 24 = .ok (.if_icmp .le 13, 3) := by decide +kernel
theorem dX9_fertility_27 : decode cX9_fertility 27 = .ok (.new 126, 3) := by decide +kernel
theorem dX9_fertility_30 : decode cX9_fertility 30 = .ok (.dup, 1) := by decide +kernel
theorem dX9_fertility_31 : decode cX9_fertility 31 = .ok (.ldc 181, 2) := by decide +kernel
theorem dX9_fertility_33 : decode cX9_fertility 33 = .ok (.invokespecial 130, 3) := by decide +kernel
theorem dX9_fertility_36 : decode cX9_fertility 36 = .ok (.athrow, 1) := by decide +kernel
theorem dX9_fertility_37 : decode cX9_fertility 37 = .ok (.iconst 0, 1) := by decide +kernel
theorem dX9_fertility_38 : decode cX9_fertility 38 = .ok (.istore_n 3, 1) := by decide +kernel
theorem dX9_fertility_39 : decode cX9_fertility 39 = .ok (.iconst 0, 1) := by decide +kernel
theorem dX9_fertility_40 : decode cX9_fertility 40 = .ok (.istore 4, 2) := by decide +kernel
theorem dX9_fertility_42 : decode cX9_fertility 42 = .ok (.iload 4, 2) := by decide +kernel
theorem dX9_fertility_44 : decode cX9_fertility 44 = .ok (.aload_n 0, 1) := by decide +kernel
theorem dX9_fertility_45 : decode cX9_fertility 45 = .ok (.getfield 12, 3) := by decide +kernel
theorem dX9_fertility_48 : decode cX9_fertility 48 = .ok (.invokevirtual 183, 3) := by decide +kernel
theorem dX9_fertility_51 : decode cX9_fertility 51 = .ok (.if_icmp .ge 53, 3) := by decide +kernel
theorem dX9_fertility_54 : decode cX9_fertility 54 = .ok (.aload_n 0, 1) := by decide +kernel
theorem dX9_fertility_55 : decode cX9_fertility 55 = .ok (.getfield 12, 3) := by decide +kernel
theorem dX9_fertility_58 : decode cX9_fertility 58 = .ok (.iload 4, 2) := by decide +kernel
theorem dX9_fertility_60 : decode cX9_fertility 60 = .ok (.invokevirtual 186, 3) := by decide +kernel
theorem dX9_fertility_63 : decode cX9_fertility 63 = .ok (.astore 5, 2) := by decide +kernel
theorem dX9_fertility_65 : decode cX9_fertility 65 = .ok (.aload 5, 2) := by decide +kernel
theorem dX9_fertility_67 : decode cX9_fertility 67 = .ok (.ifnull 31, 3) := by decide +kernel
theorem dX9_fertility_70 : decode cX9_fertility 70 = .ok (.aload_n 0, 1) := by decide +kernel
theorem dX9_fertility_71 : decode cX9_fertility 71 = .ok (.getfield 26, 3) := by decide +kernel
theorem dX9_fertility_74 : decode cX9_fertility 74 = .ok (.aload 5, 2) := by decide +kernel
theorem dX9_fertility_76 : decode cX9_fertility 76 = .ok (.aload_n 0, 1) := by decide +kernel
theorem dX9_fertility_77 : decode cX9_fertility 77 = .ok (.getfield 19, 3) := by decide +kernel
theorem dX9_fertility_80 : decode cX9_fertility 80 = .ok (.invokevirtual 157, 3) := by decide +kernel
theorem dX9_fertility_83 : decode cX9_fertility 83 = .ok (.iload_n 3, 1) := by decide +kernel
theorem dX9_fertility_84 : decode cX9_fertility 84 = .ok (.aload_n 0, 1) := by decide +kernel
theorem dX9_fertility_85 : decode cX9_fertility 85 = .ok (.aload 5, 2) := by decide +kernel
theorem dX9_fertility_87 : decode cX9_fertility 87 = .ok (.iconst 0, 1) := by decide +kernel
theorem dX9_fertility_88 : decode cX9_fertility 88 = .ok (.invokevirtual 65, 3) := by decide +kernel
theorem dX9_fertility_91 : decode cX9_fertility 91 = .ok (.iload_n 1, 1) := by decide +kernel
theorem dX9_fertility_92 : decode cX9_fertility 92 = .ok (.iload_n 2, 1) := by decide +kernel
theorem dX9_fertility_93 : decode cX9_fertility 93 = .ok (.invokevirtual 189, 3) := by decide +kernel
theorem dX9_fertility_96 : decode cX9_fertility 96 = .ok (.iadd, 1) := by decide +kernel
theorem dX9_fertility_97 : decode cX9_fertility 97 = .ok (.istore_n 3, 1) := by decide +kernel
theorem dX9_fertility_98 : decode cX9_fertility 98 = .ok (.iinc 4 1, 3) := by decide +kernel
theorem dX9_fertility_101 : decode cX9_fertility 101 = .ok (.goto (-59), 3) := by decide +kernel
theorem dX9_fertility_104 : decode cX9_fertility 104 = .ok (.iload_n 3, 1) := by decide +kernel
theorem dX9_fertility_105 : decode cX9_fertility 105 = .ok (.ireturn, 1) := by decide +kernel
theorem dX9_total_0 : decode cX9_total 0 = .ok (.aload_n 0, 1) := by decide +kernel
theorem dX9_total_1 : decode cX9_total 1 = .ok (.getfield 40, 3) := by decide +kernel
theorem dX9_total_4 : decode cX9_total 4 = .ok (.aload_n 0, 1) := by decide +kernel
theorem dX9_total_5 : decode cX9_total 5 = .ok (.iload_n 1, 1) := by decide +kernel
theorem dX9_total_6 : decode cX9_total 6 = .ok (.invokevirtual 193, 3) := by decide +kernel
theorem dX9_total_9 : decode cX9_total 9 = .ok (.aload_n 0, 1) := by decide +kernel
theorem dX9_total_10 : decode cX9_total 10 = .ok (.getfield 19, 3) := by decide +kernel
theorem dX9_total_13 : decode cX9_total 13 = .ok (.iconst 0, 1) := by decide +kernel
theorem dX9_total_14 : decode cX9_total 14 = .ok (.invokevirtual 111, 3) := by decide +kernel
theorem dX9_total_17 : decode cX9_total 17 = .ok (.invokevirtual 196, 3) := by decide +kernel
theorem dX9_total_20 : decode cX9_total 20 = .ok (.aload_n 0, 1) := by decide +kernel
theorem dX9_total_21 : decode cX9_total 21 = .ok (.getfield 40, 3) := by decide +kernel
theorem dX9_total_24 : decode cX9_total 24 = .ok (.invokevirtual 200, 3) := by decide +kernel
theorem dX9_total_27 : decode cX9_total 27 = .ok (.lreturn, 1) := by decide +kernel
theorem dX9_totalAnew_0 : decode cX9_totalAnew 0 = .ok (.aload_n 0, 1) := by decide +kernel
theorem dX9_totalAnew_1 : decode cX9_totalAnew 1 = .ok (.getfield 40, 3) := by decide +kernel
theorem dX9_totalAnew_4 : decode cX9_totalAnew 4 = .ok (.aload_n 0, 1) := by decide +kernel
theorem dX9_totalAnew_5 : decode cX9_totalAnew 5 = .ok (.iload_n 1, 1) := by decide +kernel
theorem dX9_totalAnew_6 : decode cX9_totalAnew 6 = .ok (.invokevirtual 193, 3) := by decide +kernel
theorem dX9_totalAnew_9 : decode cX9_totalAnew 9 = .ok (.aload_n 0, 1) := by decide +kernel
theorem dX9_totalAnew_10 : decode cX9_totalAnew 10 = .ok (.getfield 19, 3) := by decide +kernel
theorem dX9_totalAnew_13 : decode cX9_totalAnew 13 = .ok (.iconst 0, 1) := by decide +kernel
theorem dX9_totalAnew_14 : decode cX9_totalAnew 14 = .ok (.invokevirtual 111, 3) := by decide +kernel
theorem dX9_totalAnew_17 : decode cX9_totalAnew 17 = .ok (.invokevirtual 196, 3) := by decide +kernel
theorem dX9_totalAnew_20 : decode cX9_totalAnew 20 = .ok (.aload_n 0, 1) := by decide +kernel
theorem dX9_totalAnew_21 : decode cX9_totalAnew 21 = .ok (.getfield 40, 3) := by decide +kernel
theorem dX9_totalAnew_24 : decode cX9_totalAnew 24 = .ok (.invokevirtual 204, 3) := by decide +kernel
theorem dX9_totalAnew_27 : decode cX9_totalAnew 27 = .ok (.lreturn, 1) := by decide +kernel
theorem dX9_isSide_0 : decode cX9_isSide 0 = .ok (.iload_n 0, 1) := by decide +kernel
theorem dX9_isSide_1 : decode cX9_isSide 1 = .ok (.ifCond .lt 12, 3) := by decide +kernel
theorem dX9_isSide_4 : decode cX9_isSide 4 = .ok (.iload_n 0, 1) := by decide +kernel
theorem dX9_isSide_5 : decode cX9_isSide 5 = .ok (.iconst 2, 1) := by decide +kernel
theorem dX9_isSide_6 : decode cX9_isSide 6 = .ok (.if_icmp .ge 7, 3) := by decide +kernel
theorem dX9_isSide_9 : decode cX9_isSide 9 = .ok (.iconst 1, 1) := by decide +kernel
theorem dX9_isSide_10 : decode cX9_isSide 10 = .ok (.goto 4, 3) := by decide +kernel
theorem dX9_isSide_13 : decode cX9_isSide 13 = .ok (.iconst 0, 1) := by decide +kernel
theorem dX9_isSide_14 : decode cX9_isSide 14 = .ok (.ireturn, 1) := by decide +kernel
theorem dX9_isWord_0 : decode cX9_isWord 0 = .ok (.iload_n 0, 1) := by decide +kernel
theorem dX9_isWord_1 : decode cX9_isWord 1 = .ok (.ifCond .lt 13, 3) := by decide +kernel
theorem dX9_isWord_4 : decode cX9_isWord 4 = .ok (.iload_n 0, 1) := by decide +kernel
theorem dX9_isWord_5 : decode cX9_isWord 5 = .ok (.bipush 15, 2) := by decide +kernel
theorem dX9_isWord_7 : decode cX9_isWord 7 = .ok (.if_icmp .ge 7, 3) := by decide +kernel
theorem dX9_isWord_10 : decode cX9_isWord 10 = .ok (.iconst 1, 1) := by decide +kernel
theorem dX9_isWord_11 : decode cX9_isWord 11 = .ok (.goto 4, 3) := by decide +kernel
theorem dX9_isWord_14 : decode cX9_isWord 14 = .ok (.iconst 0, 1) := by decide +kernel
theorem dX9_isWord_15 : decode cX9_isWord 15 = .ok (.ireturn, 1) := by decide +kernel
theorem dX9_pairThatIsThere_0 : decode cX9_pairThatIsThere 0 = .ok (.aload_n 0, 1) := by decide +kernel
theorem dX9_pairThatIsThere_1 : decode cX9_pairThatIsThere 1 = .ok (.getfield 12, 3) := by decide +kernel
theorem dX9_pairThatIsThere_4 : decode cX9_pairThatIsThere 4 = .ok (.iload_n 1, 1) := by decide +kernel
theorem dX9_pairThatIsThere_5 : decode cX9_pairThatIsThere 5 = .ok (.invokevirtual 186, 3) := by decide +kernel
theorem dX9_pairThatIsThere_8 : decode cX9_pairThatIsThere 8 = .ok (.astore_n 2, 1) := by decide +kernel
theorem dX9_pairThatIsThere_9 : decode cX9_pairThatIsThere 9 = .ok (.aload_n 2, 1) := by decide +kernel
theorem dX9_pairThatIsThere_10 : decode cX9_pairThatIsThere 10 = .ok (.ifnonnull 13, 3) := by decide +kernel
theorem dX9_pairThatIsThere_13 : decode cX9_pairThatIsThere 13 = .ok (.new 58, 3) := by decide +kernel
theorem dX9_pairThatIsThere_16 : decode cX9_pairThatIsThere 16 = .ok (.dup, 1) := by decide +kernel
theorem dX9_pairThatIsThere_17 : decode cX9_pairThatIsThere 17 = .ok (.ldc 207, 2) := by decide +kernel
theorem dX9_pairThatIsThere_19 : decode cX9_pairThatIsThere 19 = .ok (.invokespecial 62, 3) := by decide +kernel
theorem dX9_pairThatIsThere_22 : decode cX9_pairThatIsThere 22 = .ok (.athrow, 1) := by decide +kernel
theorem dX9_pairThatIsThere_23 : decode cX9_pairThatIsThere 23 = .ok (.aload_n 2, 1) := by decide +kernel
theorem dX9_pairThatIsThere_24 : decode cX9_pairThatIsThere 24 = .ok (.areturn, 1) := by decide +kernel
theorem dX9_shortPair_0 : decode cX9_shortPair 0 = .ok (.aload_n 0, 1) := by decide +kernel
theorem dX9_shortPair_1 : decode cX9_shortPair 1 = .ok (.iload_n 1, 1) := by decide +kernel
theorem dX9_shortPair_2 : decode cX9_shortPair 2 = .ok (.invokevirtual 100, 3) := by decide +kernel
theorem dX9_shortPair_5 : decode cX9_shortPair 5 = .ok (.astore_n 2, 1) := by decide +kernel
theorem dX9_shortPair_6 : decode cX9_shortPair 6 = .ok (.aload_n 2, 1) := by decide +kernel
theorem dX9_shortPair_7 : decode cX9_shortPair 7 = .ok (.iconst 1, 1) := by decide +kernel
theorem dX9_shortPair_8 : decode cX9_shortPair 8 = .ok (.invokevirtual 65, 3) := by decide +kernel
theorem dX9_shortPair_11 : decode cX9_shortPair 11 = .ok (.invokevirtual 84, 3) := by decide +kernel
theorem dX9_shortPair_14 : decode cX9_shortPair 14 = .ok (.iconst 4, 1) := by decide +kernel
theorem dX9_shortPair_15 : decode cX9_shortPair 15 = .ok (.if_icmp .le 13, 3) := by decide +kernel
theorem dX9_shortPair_18 : decode cX9_shortPair 18 = .ok (.new 75, 3) := by decide +kernel
theorem dX9_shortPair_21 : decode cX9_shortPair 21 = .ok (.dup, 1) := by decide +kernel
theorem dX9_shortPair_22 : decode cX9_shortPair 22 = .ok (.ldc 209, 2) := by decide +kernel
theorem dX9_shortPair_24 : decode cX9_shortPair 24 = .ok (.invokespecial 79, 3) := by decide +kernel
theorem dX9_shortPair_27 : decode cX9_shortPair 27 = .ok (.athrow, 1) := by decide +kernel
theorem dX9_shortPair_28 : decode cX9_shortPair 28 = .ok (.aload_n 2, 1) := by decide +kernel
theorem dX9_shortPair_29 : decode cX9_shortPair 29 = .ok (.areturn, 1) := by decide +kernel
theorem dX9_placesWith_0 : decode cX9_placesWith 0 = .ok (.iconst 0, 1) := by decide +kernel
theorem dX9_placesWith_1 : decode cX9_placesWith 1 = .ok (.istore 4, 2) := by decide +kernel
theorem dX9_placesWith_3 : decode cX9_placesWith 3 = .ok (.iconst 0, 1) := by decide +kernel
theorem dX9_placesWith_4 : decode cX9_placesWith 4 = .ok (.istore 5, 2) := by decide +kernel
theorem dX9_placesWith_6 : decode cX9_placesWith 6 = .ok (.iload 5, 2) := by decide +kernel
theorem dX9_placesWith_8 : decode cX9_placesWith 8 = .ok (.aload_n 1, 1) := by decide +kernel
theorem dX9_placesWith_9 : decode cX9_placesWith 9 = .ok (.invokevirtual 84, 3) := by decide +kernel
theorem dX9_placesWith_12 : decode cX9_placesWith 12 = .ok (.if_icmp .ge 35, 3) := by decide +kernel
theorem dX9_placesWith_15 : decode cX9_placesWith 15 = .ok (.aload_n 1, 1) := by decide +kernel
theorem dX9_placesWith_16 : decode cX9_placesWith 16 = .ok (.iload 5, 2) := by decide +kernel
theorem dX9_placesWith_18 : decode cX9_placesWith 18 = .ok (.invokevirtual 137, 3) := by decide +kernel
theorem dX9_placesWith_21 : decode cX9_placesWith 21 = .ok (.iload_n 2, 1) := by decide +kernel
theorem dX9_placesWith_22 : decode cX9_placesWith 22 = .ok (.if_icmp .ne 19, 3) := by decide +kernel
theorem dX9_placesWith_25 : decode cX9_placesWith 25 = .ok (.aload_n 0, 1) := by decide +kernel
theorem dX9_placesWith_26 : decode cX9_placesWith 26 = .ok (.getfield 26, 3) := by decide +kernel
theorem dX9_placesWith_29 : decode cX9_placesWith 29 = .ok (.iload 5, 2) := by decide +kernel
theorem dX9_placesWith_31 : decode cX9_placesWith 31 = .ok (.invokevirtual 211, 3) := by decide +kernel
theorem dX9_placesWith_34 : decode cX9_placesWith 34 = .ok (.iload_n 3, 1) := by decide +kernel
theorem dX9_placesWith_35 : decode cX9_placesWith 35 = .ok (.if_icmp .ne 6, 3) := by decide +kernel
theorem dX9_placesWith_38 : decode cX9_placesWith 38 = .ok (.iinc 4 1, 3) := by decide +kernel
theorem dX9_placesWith_41 : decode cX9_placesWith 41 = .ok (.iinc 5 1, 3) := by decide +kernel
theorem dX9_placesWith_44 : decode cX9_placesWith 44 = .ok (.goto (-38), 3) := by decide +kernel
theorem dX9_placesWith_47 : decode cX9_placesWith 47 = .ok (.iload 4, 2) := by decide +kernel
theorem dX9_placesWith_49 : decode cX9_placesWith 49 = .ok (.ireturn, 1) := by decide +kernel
theorem dX10_init_0 : decode cX10_init 0 = .ok (.aload_n 0, 1) := by decide +kernel
theorem dX10_init_1 : decode cX10_init 1 = .ok (.invokespecial 1, 3) := by decide +kernel
theorem dX10_init_4 : decode cX10_init 4 = .ok (.aload_n 0, 1) := by decide +kernel
theorem dX10_init_5 : decode cX10_init 5 = .ok (.iconst 2, 1) := by decide +kernel
theorem dX10_init_6 : decode cX10_init 6 = .ok (.newarray .int, 2) := by decide +kernel
theorem dX10_init_8 : decode cX10_init 8 = .ok (.putfield 7, 3) := by decide +kernel
theorem dX10_init_11 : decode cX10_init 11 = .ok (.aload_n 0, 1) := by decide +kernel
theorem dX10_init_12 : decode cX10_init 12 = .ok (.bipush 16, 2) := by decide +kernel
theorem dX10_init_14 : decode cX10_init 14 = .ok (.newarray .int, 2) := by decide +kernel
theorem dX10_init_16 : decode cX10_init 16 = .ok (.putfield 13, 3) := by decide +kernel
theorem dX10_init_19 : decode cX10_init 19 = .ok (.aload_n 0, 1) := by decide +kernel
theorem dX10_init_20 : decode cX10_init 20 = .ok (.bipush 40, 2) := by decide +kernel
theorem dX10_init_22 : decode cX10_init 22 = .ok (.newarray .int, 2) := by decide +kernel
theorem dX10_init_24 : decode cX10_init 24 = .ok (.putfield 16, 3) := by decide +kernel
theorem dX10_init_27 : decode cX10_init 27 = .ok (.aload_n 0, 1) := by decide +kernel
theorem dX10_init_28 : decode cX10_init 28 = .ok (.sipush 320, 3) := by decide +kernel
theorem dX10_init_31 : decode cX10_init 31 = .ok (.newarray .int, 2) := by decide +kernel
theorem dX10_init_33 : decode cX10_init 33 = .ok (.putfield 19, 3) := by decide +kernel
theorem dX10_init_36 : decode cX10_init 36 = .ok (.aload_n 0, 1) := by decide +kernel
theorem dX10_init_37 : decode cX10_init 37 = .ok (.bipush 20, 2) := by decide +kernel
theorem dX10_init_39 : decode cX10_init 39 = .ok (.newarray .boolean, 2) := by decide +kernel
theorem dX10_init_41 : decode cX10_init 41 = .ok (.putfield 22, 3) := by decide +kernel
theorem dX10_init_44 : decode cX10_init 44 = .ok (.aload_n 0, 1) := by decide +kernel
theorem dX10_init_45 : decode cX10_init 45 = .ok (.iconst 5, 1) := by decide +kernel
theorem dX10_init_46 : decode cX10_init 46 = .ok (.newarray .int, 2) := by decide +kernel
theorem dX10_init_48 : decode cX10_init 48 = .ok (.putfield 26, 3) := by decide +kernel
theorem dX10_init_51 : decode cX10_init 51 = .ok (.aload_n 0, 1) := by decide +kernel
theorem dX10_init_52 : decode cX10_init 52 = .ok (.sipush 480, 3) := by decide +kernel
theorem dX10_init_55 : decode cX10_init 55 = .ok (.newarray .int, 2) := by decide +kernel
theorem dX10_init_57 : decode cX10_init 57 = .ok (.putfield 29, 3) := by decide +kernel
theorem dX10_init_60 : decode cX10_init 60 = .ok (.aload_n 0, 1) := by decide +kernel
theorem dX10_init_61 : decode cX10_init 61 = .ok (.sipush 480, 3) := by decide +kernel
theorem dX10_init_64 : decode cX10_init 64 = .ok (.newarray .long, 2) := by decide +kernel
theorem dX10_init_66 : decode cX10_init 66 = .ok (.putfield 32, 3) := by decide +kernel
theorem dX10_init_69 : decode cX10_init 69 = .ok (.aload_n 0, 1) := by decide +kernel
theorem dX10_init_70 : decode cX10_init 70 = .ok (.bipush 15, 2) := by decide +kernel
theorem dX10_init_72 : decode cX10_init 72 = .ok (.newarray .long, 2) := by decide +kernel
theorem dX10_init_74 : decode cX10_init 74 = .ok (.putfield 36, 3) := by decide +kernel
theorem dX10_init_77 : decode cX10_init 77 = .ok (.aload_n 0, 1) := by decide +kernel
theorem dX10_init_78 : decode cX10_init 78 = .ok (.bipush 15, 2) := by decide +kernel
theorem dX10_init_80 : decode cX10_init 80 = .ok (.newarray .int, 2) := by decide +kernel
theorem dX10_init_82 : decode cX10_init 82 = .ok (.putfield 39, 3) := by decide +kernel
theorem dX10_init_85 : decode cX10_init 85 = .ok (.aload_n 0, 1) := by decide +kernel
theorem dX10_init_86 : decode cX10_init 86 = .ok (.bipush 64, 2) := by decide +kernel
theorem dX10_init_88 : decode cX10_init 88 = .ok (.newarray .int, 2) := by decide +kernel
theorem dX10_init_90 : decode cX10_init 90 = .ok (.putfield 42, 3) := by decide +kernel
theorem dX10_init_93 : decode cX10_init 93 = .ok (.aload_n 0, 1) := by decide +kernel
theorem dX10_init_94 : decode cX10_init 94 = .ok (.bipush 64, 2) := by decide +kernel
theorem dX10_init_96 : decode cX10_init 96 = .ok (.newarray .boolean, 2) := by decide +kernel
theorem dX10_init_98 : decode cX10_init 98 = .ok (.putfield 45, 3) := by decide +kernel
theorem dX10_init_101 : decode cX10_init 101 = .ok (.aload_n 0, 1) := by decide +kernel
theorem dX10_init_102 : decode cX10_init 102 = .ok (.getfield 26, 3) := by decide +kernel
theorem dX10_init_105 : decode cX10_init 105 = .ok (.iconst 0, 1) := by decide +kernel
theorem dX10_init_106 : decode cX10_init 106 = .ok (.iconst 4, 1) := by decide +kernel
theorem dX10_init_107 : decode cX10_init 107 = .ok (.iastore, 1) := by decide +kernel
theorem dX10_init_108 : decode cX10_init 108 = .ok (.aload_n 0, 1) := by decide +kernel
theorem dX10_init_109 : decode cX10_init 109 = .ok (.getfield 26, 3) := by decide +kernel
theorem dX10_init_112 : decode cX10_init 112 = .ok (.iconst 1, 1) := by decide +kernel
theorem dX10_init_113 : decode cX10_init 113 = .ok (.iconst 3, 1) := by decide +kernel
theorem dX10_init_114 : decode cX10_init 114 = .ok (.iastore, 1) := by decide +kernel
theorem dX10_init_115 : decode cX10_init 115 = .ok (.aload_n 0, 1) := by decide +kernel
theorem dX10_init_116 : decode cX10_init 116 = .ok (.getfield 26, 3) := by decide +kernel
theorem dX10_init_119 : decode cX10_init 119 = .ok (.iconst 2, 1) := by decide +kernel
theorem dX10_init_120 : decode cX10_init 120 = .ok (.iconst 2, 1) := by decide +kernel
theorem dX10_init_121 : decode cX10_init 121 = .ok (.iastore, 1) := by decide +kernel
theorem dX10_init_122 : decode cX10_init 122 = .ok (.aload_n 0, 1) := by decide +kernel
theorem dX10_init_123 : decode cX10_init 123 = .ok (.getfield 26, 3) := by decide +kernel
theorem dX10_init_126 : decode cX10_init 126 = .ok (.iconst 3, 1) := by decide +kernel
theorem dX10_init_127 : decode cX10_init 127 = .ok (.iconst 1, 1) := by decide +kernel
theorem dX10_init_128 : decode cX10_init 128 = .ok (.iastore, 1) := by decide +kernel
theorem dX10_init_129 : decode cX10_init 129 = .ok (.aload_n 0, 1) := by decide +kernel
theorem dX10_init_130 : decode cX10_init 130 = .ok (.getfield 26, 3) := by decide +kernel
theorem dX10_init_133 : decode cX10_init 133 = .ok (.iconst 4, 1) := by decide +kernel
theorem dX10_init_134 : decode cX10_init 134 = .ok (.iconst 1, 1) := by decide +kernel
theorem dX10_init_135 : decode cX10_init 135 = .ok (.iastore, 1) := by decide +kernel
theorem dX10_init_136 : decode cX10_init 136 = .ok (.return_, 1) := by decide +kernel
theorem dX10_thrown_0 : decode cX10_thrown 0 = .ok (.aload_n 0, 1) := by decide +kernel
theorem dX10_thrown_1 : decode cX10_thrown 1 = .ok (.getfield 48, 3) := by decide +kernel
theorem dX10_thrown_4 : decode cX10_thrown 4 = .ok (.ireturn, 1) := by decide +kernel
theorem dX10_in_0 : decode cX10_in 0 = .ok (.iload_n 0, 1) := by decide +kernel
theorem dX10_in_1 : decode cX10_in 1 = .ok (.iload_n 1, 1) := by decide +kernel
theorem dX10_in_2 : decode cX10_in 2 = .ok (.if_icmp .lt 12, 3) := by decide +kernel
theorem dX10_in_5 : decode cX10_in 5 = .ok (.iload_n 0, 1) := by decide +kernel
theorem dX10_in_6 : decode cX10_in 6 = .ok (.iload_n 2, 1) := by decide +kernel
theorem dX10_in_7 : decode cX10_in 7 = .ok (.if_icmp .gt 7, 3) := by decide +kernel
theorem dX10_in_10 : decode cX10_in 10 = .ok (.iconst 1, 1) := by decide +kernel
theorem dX10_in_11 : decode cX10_in 11 = .ok (.goto 4, 3) := by decide +kernel
theorem dX10_in_14 : decode cX10_in 14 = .ok (.iconst 0, 1) := by decide +kernel
theorem dX10_in_15 : decode cX10_in 15 = .ok (.ireturn, 1) := by decide +kernel
theorem dX10_goes_0 : decode cX10_goes 0 = .ok (.aload_n 0, 1) := by decide +kernel
theorem dX10_goes_1 : decode cX10_goes 1 = .ok (.iload_n 1, 1) := by decide +kernel
theorem dX10_goes_2 : decode cX10_goes 2 = .ok (.ifCond .ne 7, 3) := by decide +kernel
theorem dX10_goes_5 : decode cX10_goes 5 = .ok (.iconst 1, 1) := by decide +kernel
theorem dX10_goes_6 : decode cX10_goes 6 = .ok (.goto 20, 3) := by decide +kernel
theorem dX10_goes_9 : decode cX10_goes 9 = .ok (.iload_n 2, 1) := by decide +kernel
theorem dX10_goes_10 : decode cX10_goes 10 = .ok (.ifCond .ne 7, 3) := by decide +kernel
theorem dX10_goes_13 : decode cX10_goes 13 = .ok (.iconst 2, 1) := by decide +kernel
theorem dX10_goes_14 : decode cX10_goes 14 = .ok (.goto 12, 3) := by decide +kernel
theorem dX10_goes_17 : decode cX10_goes 17 = .ok (.iload_n 3, 1) := by decide +kernel
theorem dX10_goes_18 : decode cX10_goes 18 = .ok (.ifCond .ne 7, 3) := by decide +kernel
theorem dX10_goes_21 : decode cX10_goes 21 = .ok (.iconst 3, 1) := by decide +kernel
theorem dX10_goes_22 : decode cX10_goes 22 = .ok (.goto 4, 3) := by decide +kernel
theorem dX10_goes_25 : decode cX10_goes 25 = .ok (.iconst 0, 1) := by decide +kernel
theorem dX10_goes_26 : decode cX10_goes 26 = .ok (.putfield 48, 3) := by decide +kernel
theorem dX10_goes_29 : decode cX10_goes 29 = .ok (.aload_n 0, 1) := by decide +kernel
theorem dX10_goes_30 : decode cX10_goes 30 = .ok (.getfield 48, 3) := by decide +kernel
theorem dX10_goes_33 : decode cX10_goes 33 = .ok (.ifCond .ne 7, 3) := by decide +kernel
theorem dX10_goes_36 : decode cX10_goes 36 = .ok (.iconst 1, 1) := by decide +kernel
theorem dX10_goes_37 : decode cX10_goes 37 = .ok (.goto 4, 3) := by decide +kernel
theorem dX10_goes_40 : decode cX10_goes 40 = .ok (.iconst 0, 1) := by decide +kernel
theorem dX10_goes_41 : decode cX10_goes 41 = .ok (.ireturn, 1) := by decide +kernel
theorem dX10_isThere_0 : decode cX10_isThere 0 = .ok (.iload_n 1, 1) := by decide +kernel
theorem dX10_isThere_1 : decode cX10_isThere 1 = .ok (.iconst 0, 1) := by decide +kernel
theorem dX10_isThere_2 : decode cX10_isThere 2 = .ok (.aload_n 0, 1) := by decide +kernel
theorem dX10_isThere_3 : decode cX10_isThere 3 = .ok (.getfield 52, 3) := by decide +kernel
theorem dX10_isThere_6 : decode cX10_isThere 6 = .ok (.iconst 1, 1) := by decide +kernel
theorem dX10_isThere_7 : decode cX10_isThere 7 = .ok (.isub, 1) := by decide +kernel
theorem dX10_isThere_8 : decode cX10_isThere 8 = .ok (.invokestatic 55, 3) := by decide +kernel
theorem dX10_isThere_11 : decode cX10_isThere 11 = .ok (.ifCond .eq 16, 3) := by decide +kernel
theorem dX10_isThere_14 : decode cX10_isThere 14 = .ok (.aload_n 0, 1) := by decide +kernel
theorem dX10_isThere_15 : decode cX10_isThere 15 = .ok (.getfield 22, 3) := by decide +kernel
theorem dX10_isThere_18 : decode cX10_isThere 18 = .ok (.iload_n 1, 1) := by decide +kernel
theorem dX10_isThere_19 : decode cX10_isThere 19 = .ok (.baload, 1) := by decide +kernel
theorem dX10_isThere_20 : decode cX10_isThere 20 = .ok (.ifCond .ne 7, 3) := by decide +kernel
theorem dX10_isThere_23 : decode cX10_isThere 23 = .ok (.iconst 1, 1) := by decide +kernel
theorem dX10_isThere_24 : decode cX10_isThere 24 = .ok (.goto 4, 3) := by decide +kernel
theorem dX10_isThere_27 : decode cX10_isThere 27 = .ok (.iconst 0, 1) := by decide +kernel
theorem dX10_isThere_28 : decode cX10_isThere 28 = .ok (.ireturn, 1) := by decide +kernel
theorem dX10_longOf_0 : decode cX10_longOf 0 = .ok (.aload_n 0, 1) := by decide +kernel
theorem dX10_longOf_1 : decode cX10_longOf 1 = .ok (.getfield 16, 3) := by decide +kernel
theorem dX10_longOf_4 : decode cX10_longOf 4 = .ok (.iconst 2, 1) := by decide +kernel
theorem dX10_longOf_5 : decode cX10_longOf 5 = .ok (.iload_n 1, 1) := by decide +kernel
theorem dX10_longOf_6 : decode cX10_longOf 6 = .ok (.imul, 1) := by decide +kernel
theorem dX10_longOf_7 : decode cX10_longOf 7 = .ok (.iload_n 2, 1) := by decide +kernel
theorem dX10_longOf_8 : decode cX10_longOf 8 = .ok (.iadd, 1) := by decide +kernel
theorem dX10_longOf_9 : decode cX10_longOf 9 = .ok (.iaload, 1) := by decide +kernel
theorem dX10_longOf_10 : decode cX10_longOf 10 = .ok (.ireturn, 1) := by decide +kernel
theorem dX10_wordAt_0 : decode cX10_wordAt 0 = .ok (.aload_n 0, 1) := by decide +kernel
theorem dX10_wordAt_1 : decode cX10_wordAt 1 = .ok (.getfield 19, 3) := by decide +kernel
theorem dX10_wordAt_4 : decode cX10_wordAt 4 = .ok (.bipush 16, 2) := by decide +kernel
theorem dX10_wordAt_6 : decode cX10_wordAt 6 = .ok (.iload_n 1, 1) := by decide +kernel
theorem dX10_wordAt_7 : decode cX10_wordAt 7 = .ok (.imul, 1) := by decide +kernel
theorem dX10_wordAt_8 : decode cX10_wordAt 8 = .ok (.bipush 8, 2) := by decide +kernel
theorem dX10_wordAt_10 : decode cX10_wordAt 10 = .ok (.iload_n 2, 1) := by decide +kernel
theorem dX10_wordAt_11 : decode cX10_wordAt 11 = .ok (.imul, 1) := by decide +kernel
theorem dX10_wordAt_12 : decode cX10_wordAt 12 = .ok (.iadd, 1) := by decide +kernel
theorem dX10_wordAt_13 : decode cX10_wordAt 13 = .ok (.iload_n 3, 1) := by decide +kernel
theorem dX10_wordAt_14 : decode cX10_wordAt 14 = .ok (.iadd, 1) := by decide +kernel
theorem dX10_wordAt_15 : decode cX10_wordAt 15 = .ok (.iaload, 1) := by decide +kernel
theorem dX10_wordAt_16 : decode cX10_wordAt 16 = .ok (.ireturn, 1) := by decide +kernel
theorem dX10_at_0 : decode cX10_at 0 = .ok (.sipush 240, 3) := by decide +kernel
theorem dX10_at_3 : decode cX10_at 3 = .ok (.iload_n 0, 1) := by decide +kernel
theorem dX10_at_4 : decode cX10_at 4 = .ok (.imul, 1) := by decide +kernel
theorem dX10_at_5 : decode cX10_at 5 = .ok (.bipush 15, 2) := by decide +kernel
theorem dX10_at_7 : decode cX10_at 7 = .ok (.iload_n 1, 1) := by decide +kernel
theorem dX10_at_8 : decode cX10_at 8 = .ok (.imul, 1) := by decide +kernel
theorem dX10_at_9 : decode cX10_at 9 = .ok (.iadd, 1) := by decide +kernel
theorem dX10_at_10 : decode cX10_at 10 = .ok (.iload_n 2, 1) := by decide +kernel
theorem dX10_at_11 : decode cX10_at 11 = .ok (.iadd, 1) := by decide +kernel
theorem dX10_at_12 : decode cX10_at 12 = .ok (.ireturn, 1) := by decide +kernel
theorem dX10_put_0 : decode cX10_put 0 = .ok (.iload_n 1, 1) := by decide +kernel
theorem dX10_put_1 : decode cX10_put 1 = .ok (.iconst 0, 1) := by decide +kernel
theorem dX10_put_2 : decode cX10_put 2 = .ok (.iconst 1, 1) := by decide +kernel
theorem dX10_put_3 : decode cX10_put 3 = .ok (.invokestatic 55, 3) := by decide +kernel
theorem dX10_put_6 : decode cX10_put 6 = .ok (.ifCond .eq 17, 3) := by decide +kernel
theorem dX10_put_9 : decode cX10_put 9 = .ok (.iload_n 2, 1) := by decide +kernel
theorem dX10_put_10 : decode cX10_put 10 = .ok (.iconst 0, 1) := by decide +kernel
theorem dX10_put_11 : decode cX10_put 11 = .ok (.bipush 14, 2) := by decide +kernel
theorem dX10_put_13 : decode cX10_put 13 = .ok (.invokestatic 55, 3) := by decide +kernel
theorem dX10_put_16 : decode cX10_put 16 = .ok (.ifCond .eq 7, 3) := by decide +kernel
theorem dX10_put_19 : decode cX10_put 19 = .ok (.iconst 1, 1) := by decide +kernel
theorem dX10_put_20 : decode cX10_put 20 = .ok (.goto 4, 3) := by decide +kernel
theorem dX10_put_23 : decode cX10_put 23 = .ok (.iconst 0, 1) := by decide +kernel
theorem dX10_put_24 : decode cX10_put 24 = .ok (.istore_n 3, 1) := by decide +kernel
theorem dX10_put_25 : decode cX10_put 25 = .ok (.aload_n 0, 1) := by decide +kernel
theorem dX10_put_26 : decode cX10_put 26 = .ok (.iload_n 3, 1) := by decide +kernel
theorem dX10_put_27 : decode cX10_put 27 = .ok (.iload_n 3, 1) := by decide +kernel
theorem dX10_put_28 : decode cX10_put 28 = .ok (.ifCond .eq 18, 3) := by decide +kernel
theorem dX10_put_31 : decode cX10_put 31 = .ok (.aload_n 0, 1) := by decide +kernel
theorem dX10_put_32 : decode cX10_put 32 = .ok (.getfield 7, 3) := by decide +kernel
theorem dX10_put_35 : decode cX10_put 35 = .ok (.iload_n 1, 1) := by decide +kernel
theorem dX10_put_36 : decode cX10_put 36 = .ok (.iaload, 1) := by decide +kernel
theorem dX10_put_37 : decode cX10_put 37 = .ok (.bipush 8, 2) := by decide +kernel
theorem dX10_put_39 : decode cX10_put 39 = .ok (.if_icmp .ge 7, 3) := by decide +kernel
theorem dX10_put_42 : decode cX10_put 42 = .ok (.iconst 1, 1) := by decide +kernel
theorem dX10_put_43 : decode cX10_put 43 = .ok (.goto 4, 3) := by decide +kernel
theorem dX10_put_46 : decode cX10_put 46 = .ok (.iconst 0, 1) := by decide +kernel
theorem dX10_put_47 : decode cX10_put 47 = .ok (.iconst 1, 1) := by decide +kernel
theorem dX10_put_48 : decode cX10_put 48 = .ok (.invokevirtual 59, 3) := by decide +kernel
theorem dX10_put_51 : decode cX10_put 51 = .ok (.ifCond .ne 5, 3) := by decide +kernel
theorem dX10_put_54 : decode cX10_put 54 = .ok (.iconst 0, 1) := by decide +kernel
theorem dX10_put_55 : decode cX10_put 55 = .ok (.ireturn, 1) := by decide +kernel
theorem dX10_put_56 : decode cX10_put 56 = .ok (.aload_n 0, 1) := by decide +kernel
theorem dX10_put_57 : decode cX10_put 57 = .ok (.getfield 13, 3) := by decide +kernel
theorem dX10_put_60 : decode cX10_put 60 = .ok (.bipush 8, 2) := by decide +kernel
theorem dX10_put_62 : decode cX10_put 62 = .ok (.iload_n 1, 1) := by decide +kernel
theorem dX10_put_63 : decode cX10_put 63 = .ok (.imul, 1) := by decide +kernel
theorem dX10_put_64 : decode cX10_put 64 = .ok (.aload_n 0, 1) := by decide +kernel
theorem dX10_put_65 : decode cX10_put 65 = .ok (.getfield 7, 3) := by decide +kernel
theorem dX10_put_68 : decode cX10_put 68 = .ok (.iload_n 1, 1) := by decide +kernel
theorem dX10_put_69 : decode cX10_put 69 = .ok (.iaload, 1) := by decide +kernel
theorem dX10_put_70 : decode cX10_put 70 = .ok (.iadd, 1) := by decide +kernel
theorem dX10_put_71 : decode cX10_put 71 = .ok (.iload_n 2, 1) := by decide +kernel
theorem dX10_put_72 : decode cX10_put 72 = .ok (.iastore, 1) := by decide +kernel
theorem dX10_put_73 : decode cX10_put 73 = .ok (.aload_n 0, 1) := by decide +kernel
theorem dX10_put_74 : decode cX10_put 74 = .ok (.getfield 7, 3) := by decide +kernel
theorem dX10_put_77 : decode cX10_put 77 = .ok (.iload_n 1, 1) := by decide +kernel
theorem dX10_put_78 : decode cX10_put 78 = .ok (.dup2, 1) := by decide +kernel
theorem dX10_put_79 : decode cX10_put 79 = .ok (.iaload, 1) := by decide +kernel
theorem dX10_put_80 : decode cX10_put 80 = .ok (.iconst 1, 1) := by decide +kernel
theorem dX10_put_81 : decode cX10_put 81 = .ok (.iadd, 1) := by decide +kernel
theorem dX10_put_82 : decode cX10_put 82 = .ok (.iastore, 1) := by decide +kernel
theorem dX10_put_83 : decode cX10_put 83 = .ok (.aload_n 0, 1) := by decide +kernel
theorem dX10_put_84 : decode cX10_put 84 = .ok (.getfield 7, 3) := by decide +kernel
theorem dX10_put_87 : decode cX10_put 87 = .ok (.iload_n 1, 1) := by decide +kernel
theorem dX10_put_88 : decode cX10_put 88 = .ok (.iaload, 1) := by decide +kernel
theorem dX10_put_89 : decode cX10_put 89 = .ok (.ireturn, 1) := by decide +kernel
theorem dX10_wipe_0 : decode cX10_wipe 0 = .ok (.aload_n 0, 1) := by decide +kernel
theorem dX10_wipe_1 : decode cX10_wipe 1 = .ok (.iconst 0, 1) := by decide +kernel
theorem dX10_wipe_2 : decode cX10_wipe 2 = .ok (.putfield 48, 3) := by decide +kernel
theorem dX10_wipe_5 : decode cX10_wipe 5 = .ok (.aload_n 0, 1) := by decide +kernel
theorem dX10_wipe_6 : decode cX10_wipe 6 = .ok (.getfield 7, 3) := by decide +kernel
theorem dX10_wipe_9 : decode cX10_wipe 9 = .ok (.iconst 0, 1) := by decide +kernel
theorem dX10_wipe_10 : decode cX10_wipe 10 = .ok (.iaload, 1) := by decide +kernel
theorem dX10_wipe_11 : decode cX10_wipe 11 = .ok (.aload_n 0, 1) := by decide +kernel
theorem dX10_wipe_12 : decode cX10_wipe 12 = .ok (.getfield 7, 3) := by decide +kernel
theorem dX10_wipe_15 : decode cX10_wipe 15 = .ok (.iconst 1, 1) := by decide +kernel
theorem dX10_wipe_16 : decode cX10_wipe 16 = .ok (.iaload, 1) := by decide +kernel
theorem dX10_wipe_17 : decode cX10_wipe 17 = .ok (.iadd, 1) := by decide +kernel
theorem dX10_wipe_18 : decode cX10_wipe 18 = .ok (.istore_n 1, 1) := by decide +kernel
theorem dX10_wipe_19 : decode cX10_wipe 19 = .ok (.aload_n 0, 1) := by decide +kernel
theorem dX10_wipe_20 : decode cX10_wipe 20 = .ok (.getfield 7, 3) := by decide +kernel
theorem dX10_wipe_23 : decode cX10_wipe 23 = .ok (.iconst 0, 1) := by decide +kernel
theorem dX10_wipe_24 : decode cX10_wipe 24 = .ok (.iconst 0, 1) := by decide +kernel
theorem dX10_wipe_25 : decode cX10_wipe 25 = .ok (.iastore, 1) := by decide +kernel
theorem dX10_wipe_26 : decode cX10_wipe 26 = .ok (.aload_n 0, 1) := by decide +kernel
theorem dX10_wipe_27 : decode cX10_wipe 27 = .ok (.getfield 7, 3) := by decide +kernel
theorem dX10_wipe_30 : decode cX10_wipe 30 = .ok (.iconst 1, 1) := by decide +kernel
theorem dX10_wipe_31 : decode cX10_wipe 31 = .ok (.iconst 0, 1) := by decide +kernel
theorem dX10_wipe_32 : decode cX10_wipe 32 = .ok (.iastore, 1) := by decide +kernel
theorem dX10_wipe_33 : decode cX10_wipe 33 = .ok (.iload_n 1, 1) := by decide +kernel
theorem dX10_wipe_34 : decode cX10_wipe 34 = .ok (.ireturn, 1) := by decide +kernel
theorem dX10_pair_0 : decode cX10_pair 0 = .ok (.aload_n 0, 1) := by decide +kernel
theorem dX10_pair_1 : decode cX10_pair 1 = .ok (.aload_n 0, 1) := by decide +kernel
theorem dX10_pair_2 : decode cX10_pair 2 = .ok (.getfield 7, 3) := by decide +kernel
theorem dX10_pair_5 : decode cX10_pair 5 = .ok (.iconst 0, 1) := by decide +kernel
theorem dX10_pair_6 : decode cX10_pair 6 = .ok (.iaload, 1) := by decide +kernel
theorem dX10_pair_7 : decode cX10_pair 7 = .ok (.ifCond .le 25, 3) := by decide +kernel
theorem dX10_pair_10 : decode cX10_pair 10 = .ok (.aload_n 0, 1) := by decide +kernel
theorem dX10_pair_11 : decode cX10_pair 11 = .ok (.getfield 7, 3) := by decide +kernel
theorem dX10_pair_14 : decode cX10_pair 14 = .ok (.iconst 1, 1) := by decide +kernel
theorem dX10_pair_15 : decode cX10_pair 15 = .ok (.iaload, 1) := by decide +kernel
theorem dX10_pair_16 : decode cX10_pair 16 = .ok (.ifCond .le 16, 3) := by decide +kernel
theorem dX10_pair_19 : decode cX10_pair 19 = .ok (.aload_n 0, 1) := by decide +kernel
theorem dX10_pair_20 : decode cX10_pair 20 = .ok (.getfield 52, 3) := by decide +kernel
theorem dX10_pair_23 : decode cX10_pair 23 = .ok (.bipush 20, 2) := by decide +kernel
theorem dX10_pair_25 : decode cX10_pair 25 = .ok (.if_icmp .ge 7, 3) := by decide +kernel
theorem dX10_pair_28 : decode cX10_pair 28 = .ok (.iconst 1, 1) := by decide +kernel
theorem dX10_pair_29 : decode cX10_pair 29 = .ok (.goto 4, 3) := by decide +kernel
theorem dX10_pair_32 : decode cX10_pair 32 = .ok (.iconst 0, 1) := by decide +kernel
theorem dX10_pair_33 : decode cX10_pair 33 = .ok (.iconst 1, 1) := by decide +kernel
theorem dX10_pair_34 : decode cX10_pair 34 = .ok (.iconst 1, 1) := by decide +kernel
theorem dX10_pair_35 : decode cX10_pair 35 = .ok (.invokevirtual 59, 3) := by decide +kernel
theorem dX10_pair_38 : decode cX10_pair 38 = .ok (.ifCond .ne 5, 3) := by decide +kernel
theorem dX10_pair_41 : decode cX10_pair 41 = .ok (.iconst 0, 1) := by decide +kernel
theorem dX10_pair_42 : decode cX10_pair 42 = .ok (.ireturn, 1) := by decide +kernel
theorem dX10_pair_43 : decode cX10_pair 43 = .ok (.iconst 0, 1) := by decide +kernel
theorem dX10_pair_44 : decode cX10_pair 44 = .ok (.istore_n 1, 1) := by decide +kernel
theorem dX10_pair_45 : decode cX10_pair 45 = .ok (.iload_n 1, 1) := by decide +kernel
theorem dX10_pair_46 : decode cX10_pair 46 = .ok (.bipush 16, 2) := by decide +kernel
theorem dX10_pair_48 : decode cX10_pair 48 = .ok (.if_icmp .ge 29, 3) := by decide +kernel
theorem dX10_pair_51 : decode cX10_pair 51 = .ok (.aload_n 0, 1) := by decide +kernel
theorem dX10_pair_52 : decode cX10_pair 52 = .ok (.getfield 19, 3) := by decide +kernel
theorem dX10_pair_55 : decode cX10_pair 55 = .ok (.bipush 16, 2) := by decide +kernel
theorem dX10_pair_57 : decode cX10_pair 57 = .ok (.aload_n 0, 1) := by decide +kernel
theorem dX10_pair_58 : decode cX10_pair 58 = .ok (.getfield 52, 3) := by decide +kernel
theorem dX10_pair_61 : decode cX10_pair 61 = .ok (.imul, 1) := by decide +kernel
theorem dX10_pair_62 : decode cX10_pair 62 = .ok (.iload_n 1, 1) := by decide +kernel
theorem dX10_pair_63 : decode cX10_pair 63 = .ok (.iadd, 1) := by decide +kernel
theorem dX10_pair_64 : decode cX10_pair 64 = .ok (.aload_n 0, 1) := by decide +kernel
theorem dX10_pair_65 : decode cX10_pair 65 = .ok (.getfield 13, 3) := by decide +kernel
theorem dX10_pair_68 : decode cX10_pair 68 = .ok (.iload_n 1, 1) := by decide +kernel
theorem dX10_pair_69 : decode cX10_pair 69 = .ok (.iaload, 1) := by decide +kernel
theorem dX10_pair_70 : decode cX10_pair 70 = .ok (.iastore, 1) := by decide +kernel
theorem dX10_pair_71 : decode cX10_pair 71 = .ok (.iinc 1 1, 3) := by decide +kernel
theorem dX10_pair_74 : decode cX10_pair 74 = .ok (.goto (-29), 3) := by decide +kernel
theorem dX10_pair_77 : decode cX10_pair 77 = .ok (.aload_n 0, 1) := by decide +kernel
theorem dX10_pair_78 : decode cX10_pair 78 = .ok (.getfield 16, 3) := by decide +kernel
theorem dX10_pair_81 : decode cX10_pair 81 = .ok (.iconst 2, 1) := by decide +kernel
theorem dX10_pair_82 : decode cX10_pair 82 = .ok (.aload_n 0, 1) := by decide +kernel
theorem dX10_pair_83 : decode cX10_pair 83 = .ok (.getfield 52, 3) := by decide +kernel
theorem dX10_pair_86 : decode cX10_pair 86 = .ok (.imul, 1) := by decide +kernel
theorem dX10_pair_87 : decode cX10_pair 87 = .ok (.aload_n 0, 1) := by decide +kernel
theorem dX10_pair_88 : decode cX10_pair 88 = .ok (.getfield 7, 3) := by decide +kernel
theorem dX10_pair_91 : decode cX10_pair 91 = .ok (.iconst 0, 1) := by decide +kernel
theorem dX10_pair_92 : decode cX10_pair 92 = .ok (.iaload, 1) := by decide +kernel
theorem dX10_pair_93 : decode cX10_pair 93 = .ok (.iastore, 1) := by decide +kernel
theorem dX10_pair_94 : decode cX10_pair 94 = .ok (.aload_n 0, 1) := by decide +kernel
theorem dX10_pair_95 : decode cX10_pair 95 = .ok (.getfield 16, 3) := by decide +kernel
theorem dX10_pair_98 : decode cX10_pair 98 = .ok (.iconst 2, 1) := by decide +kernel
theorem dX10_pair_99 : decode cX10_pair 99 = .ok (.aload_n 0, 1) := by decide +kernel
theorem dX10_pair_100 : decode cX10_pair 100 = .ok (.getfield 52, 3) := by decide +kernel
theorem dX10_pair_103 : decode cX10_pair 103 = .ok (.imul, 1) := by decide +kernel
theorem dX10_pair_104 : decode cX10_pair 104 = .ok (.iconst 1, 1) := by decide +kernel
theorem dX10_pair_105 : decode cX10_pair 105 = .ok (.iadd, 1) := by decide +kernel
theorem dX10_pair_106 : decode cX10_pair 106 = .ok (.aload_n 0, 1) := by decide +kernel
theorem dX10_pair_107 : decode cX10_pair 107 = .ok (.getfield 7, 3) := by decide +kernel
theorem dX10_pair_110 : decode cX10_pair 110 = .ok (.iconst 1, 1) := by decide +kernel
theorem dX10_pair_111 : decode cX10_pair 111 = .ok (.iaload, 1) := by decide +kernel
theorem dX10_pair_112 : decode cX10_pair 112 = .ok (.iastore, 1) := by decide +kernel
theorem dX10_pair_113 : decode cX10_pair 113 = .ok (.aload_n 0, 1) := by decide +kernel
theorem dX10_pair_114 : decode cX10_pair 114 = .ok (.invokevirtual 63, 3) := by decide +kernel
theorem dX10_pair_117 : decode cX10_pair 117 = .ok (.istore_n 1, 1) := by decide +kernel
theorem dX10_pair_118 : decode cX10_pair 118 = .ok (.aload_n 0, 1) := by decide +kernel
theorem dX10_pair_119 : decode cX10_pair 119 = .ok (.dup, 1) := by decide +kernel
theorem dX10_pair_120 : decode cX10_pair 120 = .ok (.getfield 52, 3) := by decide +kernel
theorem dX10_pair_123 : decode cX10_pair 123 = .ok (.iconst 1, 1) := by decide +kernel
theorem dX10_pair_124 : decode cX10_pair 124 = .ok (.iadd, 1) := by decide +kernel
theorem dX10_pair_125 : decode cX10_pair 125 = .ok (.putfield 52, 3) := by decide +kernel
theorem dX10_pair_128 : decode cX10_pair 128 = .ok (.aload_n 0, 1) := by decide +kernel
theorem dX10_pair_129 : decode cX10_pair 129 = .ok (.getfield 52, 3) := by decide +kernel
theorem dX10_pair_132 : decode cX10_pair 132 = .ok (.iconst 1, 1) := by decide +kernel
theorem dX10_pair_133 : decode cX10_pair 133 = .ok (.isub, 1) := by decide +kernel
theorem dX10_pair_134 : decode cX10_pair 134 = .ok (.ireturn, 1) := by decide +kernel
theorem dX10_there_0 : decode cX10_there 0 = .ok (.iconst 0, 1) := by decide +kernel
theorem dX10_there_1 : decode cX10_there 1 = .ok (.istore_n 1, 1) := by decide +kernel
theorem dX10_there_2 : decode cX10_there 2 = .ok (.iconst 0, 1) := by decide +kernel
theorem dX10_there_3 : decode cX10_there 3 = .ok (.istore_n 2, 1) := by decide +kernel
theorem dX10_there_4 : decode cX10_there 4 = .ok (.iload_n 2, 1) := by decide +kernel
theorem dX10_there_5 : decode cX10_there 5 = .ok (.aload_n 0, 1) := by decide +kernel
theorem dX10_there_6 : decode cX10_there 6 = .ok (.getfield 52, 3) := by decide +kernel
theorem dX10_there_9 : decode cX10_there 9 = .ok (.if_icmp .ge 26, 3) := by decide +kernel
theorem dX10_there_12 : decode cX10_there 12 = .ok (.iload_n 1, 1) := by decide +kernel
theorem dX10_there_13 : decode cX10_there 13 = .ok (.aload_n 0, 1) := by decide +kernel
theorem dX10_there_14 : decode cX10_there 14 = .ok (.getfield 22, 3) := by decide +kernel
theorem dX10_there_17 : decode cX10_there 17 = .ok (.iload_n 2, 1) := by decide +kernel
theorem dX10_there_18 : decode cX10_there 18 = .ok (.baload, 1) := by decide +kernel
theorem dX10_there_19 : decode cX10_there 19 = .ok (.ifCond .eq 7, 3) := by decide +kernel
theorem dX10_there_22 : decode cX10_there 22 = .ok (.iconst 0, 1) := by decide +kernel
theorem dX10_there_23 : decode cX10_there 23 = .ok (.goto 4, 3) := by decide +kernel
theorem dX10_there_26 : decode cX10_there 26 = .ok (.iconst 1, 1) := by decide +kernel
theorem dX10_there_27 : decode cX10_there 27 = .ok (.iadd, 1) := by decide +kernel
theorem dX10_there_28 : decode cX10_there 28 = .ok (.istore_n 1, 1) := by decide +kernel
theorem dX10_there_29 : decode cX10_there 29 = .ok (.iinc 2 1, 3) := by decide +kernel
theorem dX10_there_32 : decode cX10_there 32 = .ok (.goto (-28), 3) := by decide +kernel
theorem dX10_there_35 : decode cX10_there 35 = .ok (.iload_n 1, 1) := by decide +kernel
theorem dX10_there_36 : decode cX10_there 36 = .ok (.ireturn, 1) := by decide +kernel
theorem dX10_takeBack_0 : decode cX10_takeBack 0 = .ok (.aload_n 0, 1) := by decide +kernel
theorem dX10_takeBack_1 : decode cX10_takeBack 1 = .ok (.aload_n 0, 1) := by decide +kernel
theorem dX10_takeBack_2 : decode cX10_takeBack 2 = .ok (.iload_n 1, 1) := by decide +kernel
theorem dX10_takeBack_3 : decode cX10_takeBack 3 = .ok (.invokevirtual 67, 3) := by decide +kernel
theorem dX10_takeBack_6 : decode cX10_takeBack 6 = .ok (.iconst 1, 1) := by decide +kernel
theorem dX10_takeBack_7 : decode cX10_takeBack 7 = .ok (.iconst 1, 1) := by decide +kernel
theorem dX10_takeBack_8 : decode cX10_takeBack 8 = .ok (.invokevirtual 59, 3) := by decide +kernel
theorem dX10_takeBack_11 : decode cX10_takeBack 11 = .ok (.ifCond .ne 5, 3) := by decide +kernel
theorem dX10_takeBack_14 : decode cX10_takeBack 14 = .ok (.iconst 0, 1) := by decide +kernel
theorem dX10_takeBack_15 : decode cX10_takeBack 15 = .ok (.ireturn, 1) := by decide +kernel
theorem dX10_takeBack_16 : decode cX10_takeBack 16 = .ok (.aload_n 0, 1) := by decide +kernel
theorem dX10_takeBack_17 : decode cX10_takeBack 17 = .ok (.getfield 22, 3) := by decide +kernel
theorem dX10_takeBack_20 : decode cX10_takeBack 20 = .ok (.iload_n 1, 1) := by decide +kernel
theorem dX10_takeBack_21 : decode cX10_takeBack 21 = .ok (.iconst 1, 1) := by decide +kernel
theorem dX10_takeBack_22 : decode cX10_takeBack 22 = .ok (.bastore, 1) := by decide +kernel
theorem dX10_takeBack_23 : decode cX10_takeBack 23 = .ok (.aload_n 0, 1) := by decide +kernel
theorem dX10_takeBack_24 : decode cX10_takeBack 24 = .ok (.invokevirtual 71, 3) := by decide +kernel
theorem dX10_takeBack_27 : decode cX10_takeBack 27 = .ok (.ireturn, 1) := by decide +kernel
theorem dX10_marks_0 : decode cX10_marks 0 = .ok (.iconst 0, 1) := by decide +kernel
theorem dX10_marks_1 : decode cX10_marks 1 = .ok (.istore_n 3, 1) := by decide +kernel
theorem dX10_marks_2 : decode cX10_marks 2 = .ok (.iload_n 3, 1) := by decide +kernel
theorem dX10_marks_3 : decode cX10_marks 3 = .ok (.aload_n 0, 1) := by decide +kernel
theorem dX10_marks_4 : decode cX10_marks 4 = .ok (.iload_n 2, 1) := by decide +kernel
theorem dX10_marks_5 : decode cX10_marks 5 = .ok (.iconst 1, 1) := by decide +kernel
theorem dX10_marks_6 : decode cX10_marks 6 = .ok (.iload_n 1, 1) := by decide +kernel
theorem dX10_marks_7 : decode cX10_marks 7 = .ok (.isub, 1) := by decide +kernel
theorem dX10_marks_8 : decode cX10_marks 8 = .ok (.invokevirtual 74, 3) := by decide +kernel
theorem dX10_marks_11 : decode cX10_marks 11 = .ok (.if_icmp .ge 74, 3) := by decide +kernel
theorem dX10_marks_14 : decode cX10_marks 14 = .ok (.aload_n 0, 1) := by decide +kernel
theorem dX10_marks_15 : decode cX10_marks 15 = .ok (.iload_n 2, 1) := by decide +kernel
theorem dX10_marks_16 : decode cX10_marks 16 = .ok (.iconst 1, 1) := by decide +kernel
theorem dX10_marks_17 : decode cX10_marks 17 = .ok (.iload_n 1, 1) := by decide +kernel
theorem dX10_marks_18 : decode cX10_marks 18 = .ok (.isub, 1) := by decide +kernel
theorem dX10_marks_19 : decode cX10_marks 19 = .ok (.iload_n 3, 1) := by decide +kernel
theorem dX10_marks_20 : decode cX10_marks 20 = .ok (.invokevirtual 77, 3) := by decide +kernel
theorem dX10_marks_23 : decode cX10_marks 23 = .ok (.istore 4, 2) := by decide +kernel
theorem dX10_marks_25 : decode cX10_marks 25 = .ok (.aload_n 0, 1) := by decide +kernel
theorem dX10_marks_26 : decode cX10_marks 26 = .ok (.getfield 32, 3) := by decide +kernel
theorem dX10_marks_29 : decode cX10_marks 29 = .ok (.iload_n 1, 1) := by decide +kernel
theorem dX10_marks_30 : decode cX10_marks 30 = .ok (.bipush 15, 2) := by decide +kernel
theorem dX10_marks_32 : decode cX10_marks 32 = .ok (.iload 4, 2) := by decide +kernel
theorem dX10_marks_34 : decode cX10_marks 34 = .ok (.invokestatic 81, 3) := by decide +kernel
theorem dX10_marks_37 : decode cX10_marks 37 = .ok (.lconst 1, 1) := by decide +kernel
theorem dX10_marks_38 : decode cX10_marks 38 = .ok (.lastore, 1) := by decide +kernel
theorem dX10_marks_39 : decode cX10_marks 39 = .ok (.iconst 0, 1) := by decide +kernel
theorem dX10_marks_40 : decode cX10_marks 40 = .ok (.istore 5, 2) := by decide +kernel
theorem dX10_marks_42 : decode cX10_marks 42 = .ok (.iload 5, 2) := by decide +kernel
theorem dX10_marks_44 : decode cX10_marks 44 = .ok (.aload_n 0, 1) := by decide +kernel
theorem dX10_marks_45 : decode cX10_marks 45 = .ok (.iload_n 2, 1) := by decide +kernel
theorem dX10_marks_46 : decode cX10_marks 46 = .ok (.iload_n 1, 1) := by decide +kernel
theorem dX10_marks_47 : decode cX10_marks 47 = .ok (.invokevirtual 74, 3) := by decide +kernel
theorem dX10_marks_50 : decode cX10_marks 50 = .ok (.if_icmp .ge 29, 3) := by decide +kernel
theorem dX10_marks_53 : decode cX10_marks 53 = .ok (.aload_n 0, 1) := by decide +kernel
theorem dX10_marks_54 : decode cX10_marks 54 = .ok (.getfield 32, 3) := by decide +kernel
theorem dX10_marks_57 : decode cX10_marks 57 = .ok (.iload_n 1, 1) := by decide +kernel
theorem dX10_marks_58 : decode cX10_marks 58 = .ok (.aload_n 0, 1) := by decide +kernel
theorem dX10_marks_59 : decode cX10_marks 59 = .ok (.iload_n 2, 1) := by decide +kernel
theorem dX10_marks_60 : decode cX10_marks 60 = .ok (.iload_n 1, 1) := by decide +kernel
theorem dX10_marks_61 : decode cX10_marks 61 = .ok (.iload 5, 2) := by decide +kernel
theorem dX10_marks_63 : decode cX10_marks 63 = .ok (.invokevirtual 77, 3) := by decide +kernel
theorem dX10_marks_66 : decode cX10_marks 66 = .ok (.iload 4, 2) := by decide +kernel
theorem dX10_marks_68 : decode cX10_marks 68 = .ok (.invokestatic 81, 3) := by decide +kernel
theorem dX10_marks_71 : decode cX10_marks 71 = .ok (.lconst 1, 1) := by decide +kernel
theorem dX10_marks_72 : decode cX10_marks 72 = .ok (.lastore, 1) := by decide +kernel
theorem dX10_marks_73 : decode cX10_marks 73 = .ok (.iinc 5 1, 3) := by decide +kernel
theorem dX10_marks_76 : decode cX10_marks 76 = .ok (.goto (-34), 3) := by decide +kernel
theorem dX10_marks_79 : decode cX10_marks 79 = .ok (.iinc 3 1, 3) := by decide +kernel
theorem dX10_marks_82 : decode cX10_marks 82 = .ok (.goto (-80), 3) := by decide +kernel
theorem dX10_marks_85 : decode cX10_marks 85 = .ok (.return_, 1) := by decide +kernel
theorem dX10_clears_0 : decode cX10_clears 0 = .ok (.iconst 0, 1) := by decide +kernel
theorem dX10_clears_1 : decode cX10_clears 1 = .ok (.istore_n 1, 1) := by decide +kernel
theorem dX10_clears_2 : decode cX10_clears 2 = .ok (.iload_n 1, 1) := by decide +kernel
theorem dX10_clears_3 : decode cX10_clears 3 = .ok (.sipush 480, 3) := by decide +kernel
theorem dX10_clears_6 : decode cX10_clears 6 = .ok (.if_icmp .ge 16, 3) := by decide +kernel
theorem dX10_clears_9 : decode cX10_clears 9 = .ok (.aload_n 0, 1) := by decide +kernel
theorem dX10_clears_10 : decode cX10_clears 10 = .ok (.getfield 32, 3) := by decide +kernel
theorem dX10_clears_13 : decode cX10_clears 13 = .ok (.iload_n 1, 1) := by decide +kernel
theorem dX10_clears_14 : decode cX10_clears 14 = .ok (.lconst 0, 1) := by decide +kernel
theorem dX10_clears_15 : decode cX10_clears 15 = .ok (.lastore, 1) := by decide +kernel
theorem dX10_clears_16 : decode cX10_clears 16 = .ok (.iinc 1 1, 3) := by decide +kernel
theorem dX10_clears_19 : decode cX10_clears 19 = .ok (.goto (-17), 3) := by decide +kernel
theorem dX10_clears_22 : decode cX10_clears 22 = .ok (.return_, 1) := by decide +kernel
theorem dX10_begin_0 : decode cX10_begin 0 = .ok (.aload_n 0, 1) := by decide +kernel
theorem dX10_begin_1 : decode cX10_begin 1 = .ok (.iconst 0, 1) := by decide +kernel
theorem dX10_begin_2 : decode cX10_begin 2 = .ok (.putfield 48, 3) := by decide +kernel
theorem dX10_begin_5 : decode cX10_begin 5 = .ok (.aload_n 0, 1) := by decide +kernel
theorem dX10_begin_6 : decode cX10_begin 6 = .ok (.invokevirtual 84, 3) := by decide +kernel
theorem dX10_begin_9 : decode cX10_begin 9 = .ok (.iconst 0, 1) := by decide +kernel
theorem dX10_begin_10 : decode cX10_begin 10 = .ok (.istore_n 1, 1) := by decide +kernel
theorem dX10_begin_11 : decode cX10_begin 11 = .ok (.iload_n 1, 1) := by decide +kernel
theorem dX10_begin_12 : decode cX10_begin 12 = .ok (.aload_n 0, 1) := by decide +kernel
theorem dX10_begin_13 : decode cX10_begin 13 = .ok (.getfield 52, 3) := by decide +kernel
theorem dX10_begin_16 : decode cX10_begin 16 = .ok (.if_icmp .ge 30, 3) := by decide +kernel
theorem dX10_begin_19 : decode cX10_begin 19 = .ok (.aload_n 0, 1) := by decide +kernel
theorem dX10_begin_20 : decode cX10_begin 20 = .ok (.getfield 22, 3) := by decide +kernel
theorem dX10_begin_23 : decode cX10_begin 23 = .ok (.iload_n 1, 1) := by decide +kernel
theorem dX10_begin_24 : decode cX10_begin 24 = .ok (.baload, 1) := by decide +kernel
theorem dX10_begin_25 : decode cX10_begin 25 = .ok (.ifCond .ne 15, 3) := by decide +kernel
theorem dX10_begin_28 : decode cX10_begin 28 = .ok (.aload_n 0, 1) := by decide +kernel
theorem dX10_begin_29 : decode cX10_begin 29 = .ok (.iconst 0, 1) := by decide +kernel
theorem dX10_begin_30 : decode cX10_begin 30 = .ok (.iload_n 1, 1) := by decide +kernel
theorem dX10_begin_31 : decode cX10_begin 31 = .ok (.invokevirtual 87, 3) := by decide +kernel
theorem dX10_begin_34 : decode cX10_begin 34 = .ok (.aload_n 0, 1) := by decide +kernel
theorem dX10_begin_35 : decode cX10_begin 35 = .ok (.iconst 1, 1) := by decide +kernel
theorem dX10_begin_36 : decode cX10_begin 36 = .ok (.iload_n 1, 1) := by decide +kernel
theorem dX10_begin_37 : decode cX10_begin 37 = .ok (.invokevirtual 87, 3) := by decide +kernel
theorem dX10_begin_40 : decode cX10_begin 40 = .ok (.iinc 1 1, 3) := by decide +kernel
theorem dX10_begin_43 : decode cX10_begin 43 = .ok (.goto (-32), 3) := by decide +kernel
theorem dX10_begin_46 : decode cX10_begin 46 = .ok (.iconst 0, 1) := by decide +kernel
theorem dX10_begin_47 : decode cX10_begin 47 = .ok (.istore_n 1, 1) := by decide +kernel
theorem dX10_begin_48 : decode cX10_begin 48 = .ok (.iconst 0, 1) := by decide +kernel
theorem dX10_begin_49 : decode cX10_begin 49 = .ok (.istore_n 2, 1) := by decide +kernel
theorem dX10_begin_50 : decode cX10_begin 50 = .ok (.iload_n 2, 1) := by decide +kernel
theorem dX10_begin_51 : decode cX10_begin 51 = .ok (.sipush 480, 3) := by decide +kernel
theorem dX10_begin_54 : decode cX10_begin 54 = .ok (.if_icmp .ge 150, 3) := by decide +kernel
theorem dX10_begin_57 : decode cX10_begin 57 = .ok (.iconst 0, 1) := by decide +kernel
theorem dX10_begin_58 : decode cX10_begin 58 = .ok (.istore_n 3, 1) := by decide +kernel
theorem dX10_begin_59 : decode cX10_begin 59 = .ok (.iload_n 2, 1) := by decide +kernel
theorem dX10_begin_60 : decode cX10_begin 60 = .ok (.istore 4, 2) := by decide +kernel
theorem dX10_begin_62 : decode cX10_begin 62 = .ok (.iload 4, 2) := by decide +kernel
theorem dX10_begin_64 : decode cX10_begin 64 = .ok (.iload_n 2, 1) := by decide +kernel
theorem dX10_begin_65 : decode cX10_begin 65 = .ok (.bipush 15, 2) := by decide +kernel
theorem dX10_begin_67 : decode cX10_begin 67 = .ok (.iadd, 1) := by decide +kernel
theorem dX10_begin_68 : decode cX10_begin 68 = .ok (.if_icmp .ge 29, 3) := by decide +kernel
theorem dX10_begin_71 : decode cX10_begin 71 = .ok (.iload_n 3, 1) := by decide +kernel
theorem dX10_begin_72 : decode cX10_begin 72 = .ok (.aload_n 0, 1) := by decide +kernel
theorem dX10_begin_73 : decode cX10_begin 73 = .ok (.getfield 32, 3) := by decide +kernel
theorem dX10_begin_76 : decode cX10_begin 76 = .ok (.iload 4, 2) := by decide +kernel
theorem dX10_begin_78 : decode cX10_begin 78 = .ok (.laload, 1) := by decide +kernel
theorem dX10_begin_79 : decode cX10_begin 79 = .ok (.lconst 0, 1) := by decide +kernel
theorem dX10_begin_80 : decode cX10_begin 80 = .ok (.lcmp, 1) := by decide +kernel
theorem dX10_begin_81 : decode cX10_begin 81 = .ok (.ifCond .le 7, 3) := by decide +kernel
theorem dX10_begin_84 : decode cX10_begin 84 = .ok (.iconst 1, 1) := by decide +kernel
theorem dX10_begin_85 : decode cX10_begin 85 = .ok (.goto 4, 3) := by decide +kernel
theorem dX10_begin_88 : decode cX10_begin 88 = .ok (.iconst 0, 1) := by decide +kernel
theorem dX10_begin_89 : decode cX10_begin 89 = .ok (.iadd, 1) := by decide +kernel
theorem dX10_begin_90 : decode cX10_begin 90 = .ok (.istore_n 3, 1) := by decide +kernel
theorem dX10_begin_91 : decode cX10_begin 91 = .ok (.iinc 4 1, 3) := by decide +kernel
theorem dX10_begin_94 : decode cX10_begin 94 = .ok (.goto (-32), 3) := by decide +kernel
theorem dX10_begin_97 : decode cX10_begin 97 = .ok (.iload_n 3, 1) := by decide +kernel
theorem dX10_begin_98 : decode cX10_begin 98 = .ok (.ifCond .ne 7, 3) := by decide +kernel
theorem dX10_begin_101 : decode cX10_begin 101 = .ok (.iconst 0, 1) := by decide +kernel
theorem dX10_begin_102 : decode cX10_begin 102 = .ok (.goto 7, 3) := by decide +kernel
theorem dX10_begin_105 : decode cX10_begin 105 = .ok (.ldc 91, 2) := by decide +kernel
theorem dX10_begin_107 : decode cX10_begin 107 = .ok (.iload_n 3, 1) := by decide +kernel
theorem dX10_begin_108 : decode cX10_begin 108 = .ok (.irem, 1) := by decide +kernel
theorem dX10_begin_109 : decode cX10_begin 109 = .ok (.istore 4, 2) := by decide +kernel
theorem dX10_begin_111 : decode cX10_begin 111 = .ok (.iload_n 2, 1) := by decide +kernel
theorem dX10_begin_112 : decode cX10_begin 112 = .ok (.istore 5, 2) := by decide +kernel
theorem dX10_begin_114 : decode cX10_begin 114 = .ok (.iload 5, 2) := by decide +kernel
theorem dX10_begin_116 : decode cX10_begin 116 = .ok (.iload_n 2, 1) := by decide +kernel
theorem dX10_begin_117 : decode cX10_begin 117 = .ok (.bipush 15, 2) := by decide +kernel
theorem dX10_begin_119 : decode cX10_begin 119 = .ok (.iadd, 1) := by decide +kernel
theorem dX10_begin_120 : decode cX10_begin 120 = .ok (.if_icmp .ge 74, 3) := by decide +kernel
theorem dX10_begin_123 : decode cX10_begin 123 = .ok (.aload_n 0, 1) := by decide +kernel
theorem dX10_begin_124 : decode cX10_begin 124 = .ok (.getfield 29, 3) := by decide +kernel
theorem dX10_begin_127 : decode cX10_begin 127 = .ok (.iload 5, 2) := by decide +kernel
theorem dX10_begin_129 : decode cX10_begin 129 = .ok (.aload_n 0, 1) := by decide +kernel
theorem dX10_begin_130 : decode cX10_begin 130 = .ok (.getfield 32, 3) := by decide +kernel
theorem dX10_begin_133 : decode cX10_begin 133 = .ok (.iload 5, 2) := by decide +kernel
theorem dX10_begin_135 : decode cX10_begin 135 = .ok (.laload, 1) := by decide +kernel
theorem dX10_begin_136 : decode cX10_begin 136 = .ok (.lconst 0, 1) := by decide +kernel
theorem dX10_begin_137 : decode cX10_begin 137 = .ok (.lcmp, 1) := by decide +kernel
theorem dX10_begin_138 : decode cX10_begin 138 = .ok (.ifCond .ne 7, 3) := by decide +kernel
theorem dX10_begin_141 : decode cX10_begin 141 = .ok (.iconst 0, 1) := by decide +kernel
theorem dX10_begin_142 : decode cX10_begin 142 = .ok (.goto 18, 3) := by decide +kernel
theorem dX10_begin_145 : decode cX10_begin 145 = .ok (.ldc 91, 2) := by decide +kernel
theorem dX10_begin_147 : decode cX10_begin 147 = .ok (.iload_n 3, 1) := by decide +kernel
theorem dX10_begin_148 : decode cX10_begin 148 = .ok (.idiv, 1) := by decide +kernel
theorem dX10_begin_149 : decode cX10_begin 149 = .ok (.iload 4, 2) := by decide +kernel
theorem dX10_begin_151 : decode cX10_begin 151 = .ok (.ifCond .le 7, 3) := by decide +kernel
theorem dX10_begin_154 : decode cX10_begin 154 = .ok (.iconst 1, 1) := by decide +kernel
theorem dX10_begin_155 : decode cX10_begin 155 = .ok (.goto 4, 3) := by decide +kernel
theorem dX10_begin_158 : decode cX10_begin 158 = .ok (.iconst 0, 1) := by decide +kernel
theorem dX10_begin_159 : decode cX10_begin 159 = .ok (.iadd, 1) := by decide +kernel
theorem dX10_begin_160 : decode cX10_begin 160 = .ok (.iastore, 1) := by decide +kernel
theorem dX10_begin_161 : decode cX10_begin 161 = .ok (.iload 4, 2) := by decide +kernel
theorem dX10_begin_163 : decode cX10_begin 163 = .ok (.aload_n 0, 1) := by decide +kernel
theorem dX10_begin_164 : decode cX10_begin 164 = .ok (.getfield 32, 3) := by decide +kernel
theorem dX10_begin_167 : decode cX10_begin 167 = .ok (.iload 5, 2) := by decide +kernel
theorem dX10_begin_169 : decode cX10_begin 169 = .ok (.laload, 1) := by decide +kernel
theorem dX10_begin_170 : decode cX10_begin 170 = .ok (.lconst 0, 1) := by decide +kernel
theorem dX10_begin_171 : decode cX10_begin 171 = .ok (.lcmp, 1) := by decide +kernel
theorem dX10_begin_172 : decode cX10_begin 172 = .ok (.ifCond .le 12, 3) := by decide +kernel
theorem dX10_begin_175 : decode cX10_begin 175 = .ok (.iload 4, 2) := by decide +kernel
theorem dX10_begin_177 : decode cX10_begin 177 = .ok (.ifCond .le 7, 3) := by decide +kernel
theorem dX10_begin_180 : decode cX10_begin 180 = .ok (.iconst 1, 1) := by decide +kernel
theorem dX10_begin_181 : decode cX10_begin 181 = .ok (.goto 4, 3) := by decide +kernel
theorem dX10_begin_184 : decode cX10_begin 184 = .ok (.iconst 0, 1) := by decide +kernel
theorem dX10_begin_185 : decode cX10_begin 185 = .ok (.isub, 1) := by decide +kernel
theorem dX10_begin_186 : decode cX10_begin 186 = .ok (.istore 4, 2) := by decide +kernel
theorem dX10_begin_188 : decode cX10_begin 188 = .ok (.iinc 5 1, 3) := by decide +kernel
theorem dX10_begin_191 : decode cX10_begin 191 = .ok (.goto (-77), 3) := by decide +kernel
theorem dX10_begin_194 : decode cX10_begin 194 = .ok (.iload_n 1, 1) := by decide +kernel
theorem dX10_begin_195 : decode cX10_begin 195 = .ok (.iload_n 3, 1) := by decide +kernel
theorem dX10_begin_196 : decode cX10_begin 196 = .ok (.iadd, 1) := by decide +kernel
theorem dX10_begin_197 : decode cX10_begin 197 = .ok (.istore_n 1, 1) := by decide +kernel
theorem dX10_begin_198 : decode cX10_begin 198 = .ok (.iinc 2 15, 3) := by decide +kernel
theorem dX10_begin_201 : decode cX10_begin 201 = .ok (.goto (-151), 3) := by decide +kernel
theorem dX10_begin_204 : decode cX10_begin 204 = .ok (.iload_n 1, 1) := by decide +kernel
theorem dX10_begin_205 : decode cX10_begin 205 = .ok (.ireturn, 1) := by decide +kernel
theorem dX10_allFor_0 : decode cX10_allFor 0 = .ok (.aload_n 0, 1) := by decide +kernel
theorem dX10_allFor_1 : decode cX10_allFor 1 = .ok (.getfield 29, 3) := by decide +kernel
theorem dX10_allFor_4 : decode cX10_allFor 4 = .ok (.iload_n 1, 1) := by decide +kernel
theorem dX10_allFor_5 : decode cX10_allFor 5 = .ok (.bipush 15, 2) := by decide +kernel
theorem dX10_allFor_7 : decode cX10_allFor 7 = .ok (.iload_n 3, 1) := by decide +kernel
theorem dX10_allFor_8 : decode cX10_allFor 8 = .ok (.invokestatic 81, 3) := by decide +kernel
theorem dX10_allFor_11 : decode cX10_allFor 11 = .ok (.iaload, 1) := by decide +kernel
theorem dX10_allFor_12 : decode cX10_allFor 12 = .ok (.i2l, 1) := by decide +kernel
theorem dX10_allFor_13 : decode cX10_allFor 13 = .ok (.lstore 4, 2) := by decide +kernel
theorem dX10_allFor_15 : decode cX10_allFor 15 = .ok (.iconst 0, 1) := by decide +kernel
theorem dX10_allFor_16 : decode cX10_allFor 16 = .ok (.istore 6, 2) := by decide +kernel
theorem dX10_allFor_18 : decode cX10_allFor 18 = .ok (.iload 6, 2) := by decide +kernel
theorem dX10_allFor_20 : decode cX10_allFor 20 = .ok (.aload_n 0, 1) := by decide +kernel
theorem dX10_allFor_21 : decode cX10_allFor 21 = .ok (.iload_n 2, 1) := by decide +kernel
theorem dX10_allFor_22 : decode cX10_allFor 22 = .ok (.iload_n 1, 1) := by decide +kernel
theorem dX10_allFor_23 : decode cX10_allFor 23 = .ok (.invokevirtual 74, 3) := by decide +kernel
theorem dX10_allFor_26 : decode cX10_allFor 26 = .ok (.if_icmp .ge 33, 3) := by decide +kernel
theorem dX10_allFor_29 : decode cX10_allFor 29 = .ok (.lload 4, 2) := by decide +kernel
theorem dX10_allFor_31 : decode cX10_allFor 31 = .ok (.aload_n 0, 1) := by decide +kernel
theorem dX10_allFor_32 : decode cX10_allFor 32 = .ok (.getfield 29, 3) := by decide +kernel
theorem dX10_allFor_35 : decode cX10_allFor 35 = .ok (.iload_n 1, 1) := by decide +kernel
theorem dX10_allFor_36 : decode cX10_allFor 36 = .ok (.aload_n 0, 1) := by decide +kernel
theorem dX10_allFor_37 : decode cX10_allFor 37 = .ok (.iload_n 2, 1) := by decide +kernel
theorem dX10_allFor_38 : decode cX10_allFor 38 = .ok (.iload_n 1, 1) := by decide +kernel
theorem dX10_allFor_39 : decode cX10_allFor 39 = .ok (.iload 6, 2) := by decide +kernel
theorem dX10_allFor_41 : decode cX10_allFor 41 = .ok (.invokevirtual 77, 3) := by decide +kernel
theorem dX10_allFor_44 : decode cX10_allFor 44 = .ok (.iload_n 3, 1) := by decide +kernel
theorem dX10_allFor_45 : decode cX10_allFor 45 = .ok (.invokestatic 81, 3) := by decide +kernel
theorem dX10_allFor_48 : decode cX10_allFor 48 = .ok (.iaload, 1) := by decide +kernel
theorem dX10_allFor_49 : decode cX10_allFor 49 = .ok (.i2l, 1) := by decide +kernel
theorem dX10_allFor_50 : decode cX10_allFor 50 = .ok (.ladd, 1) := by decide +kernel
theorem dX10_allFor_51 : decode cX10_allFor 51 = .ok (.lstore 4, 2) := by decide +kernel
theorem dX10_allFor_53 : decode cX10_allFor 53 = .ok (.iinc 6 1, 3) := by decide +kernel
theorem dX10_allFor_56 : decode cX10_allFor 56 = .ok (.goto (-38), 3) := by decide +kernel
theorem dX10_allFor_59 : decode cX10_allFor 59 = .ok (.lload 4, 2) := by decide +kernel
theorem dX10_allFor_61 : decode cX10_allFor 61 = .ok (.lreturn, 1) := by decide +kernel
theorem dX10_adds_0 : decode cX10_adds 0 = .ok (.iconst 0, 1) := by decide +kernel
theorem dX10_adds_1 : decode cX10_adds 1 = .ok (.istore_n 3, 1) := by decide +kernel
theorem dX10_adds_2 : decode cX10_adds 2 = .ok (.iload_n 3, 1) := by decide +kernel
theorem dX10_adds_3 : decode cX10_adds 3 = .ok (.aload_n 0, 1) := by decide +kernel
theorem dX10_adds_4 : decode cX10_adds 4 = .ok (.iload_n 2, 1) := by decide +kernel
theorem dX10_adds_5 : decode cX10_adds 5 = .ok (.iconst 1, 1) := by decide +kernel
theorem dX10_adds_6 : decode cX10_adds 6 = .ok (.iload_n 1, 1) := by decide +kernel
theorem dX10_adds_7 : decode cX10_adds 7 = .ok (.isub, 1) := by decide +kernel
theorem dX10_adds_8 : decode cX10_adds 8 = .ok (.invokevirtual 74, 3) := by decide +kernel
theorem dX10_adds_11 : decode cX10_adds 11 = .ok (.if_icmp .ge 108, 3) := by decide +kernel
theorem dX10_adds_14 : decode cX10_adds 14 = .ok (.aload_n 0, 1) := by decide +kernel
theorem dX10_adds_15 : decode cX10_adds 15 = .ok (.iload_n 2, 1) := by decide +kernel
theorem dX10_adds_16 : decode cX10_adds 16 = .ok (.iconst 1, 1) := by decide +kernel
theorem dX10_adds_17 : decode cX10_adds 17 = .ok (.iload_n 1, 1) := by decide +kernel
theorem dX10_adds_18 : decode cX10_adds 18 = .ok (.isub, 1) := by decide +kernel
theorem dX10_adds_19 : decode cX10_adds 19 = .ok (.iload_n 3, 1) := by decide +kernel
theorem dX10_adds_20 : decode cX10_adds 20 = .ok (.invokevirtual 77, 3) := by decide +kernel
theorem dX10_adds_23 : decode cX10_adds 23 = .ok (.istore 4, 2) := by decide +kernel
theorem dX10_adds_25 : decode cX10_adds 25 = .ok (.aload_n 0, 1) := by decide +kernel
theorem dX10_adds_26 : decode cX10_adds 26 = .ok (.iload_n 1, 1) := by decide +kernel
theorem dX10_adds_27 : decode cX10_adds 27 = .ok (.iload_n 2, 1) := by decide +kernel
theorem dX10_adds_28 : decode cX10_adds 28 = .ok (.iload 4, 2) := by decide +kernel
theorem dX10_adds_30 : decode cX10_adds 30 = .ok (.invokevirtual 92, 3) := by decide +kernel
theorem dX10_adds_33 : decode cX10_adds 33 = .ok (.lstore 5, 2) := by decide +kernel
theorem dX10_adds_35 : decode cX10_adds 35 = .ok (.iconst (-1), 1) := by decide +kernel
theorem dX10_adds_36 : decode cX10_adds 36 = .ok (.istore 7, 2) := by decide +kernel
theorem dX10_adds_38 : decode cX10_adds 38 = .ok (.iload 7, 2) := by decide +kernel
theorem dX10_adds_40 : decode cX10_adds 40 = .ok (.aload_n 0, 1) := by decide +kernel
theorem dX10_adds_41 : decode cX10_adds 41 = .ok (.iload_n 2, 1) := by decide +kernel
theorem dX10_adds_42 : decode cX10_adds 42 = .ok (.iload_n 1, 1) := by decide +kernel
theorem dX10_adds_43 : decode cX10_adds 43 = .ok (.invokevirtual 74, 3) := by decide +kernel
theorem dX10_adds_46 : decode cX10_adds 46 = .ok (.if_icmp .ge 67, 3) := by decide +kernel
theorem dX10_adds_49 : decode cX10_adds 49 = .ok (.lload 5, 2) := by decide +kernel
theorem dX10_adds_51 : decode cX10_adds 51 = .ok (.lconst 0, 1) := by decide +kernel
theorem dX10_adds_52 : decode cX10_adds 52 = .ok (.lcmp, 1) := by decide +kernel
theorem dX10_adds_53 : decode cX10_adds 53 = .ok (.ifCond .le 60, 3) := by decide +kernel
theorem dX10_adds_56 : decode cX10_adds 56 = .ok (.iload_n 1, 1) := by decide +kernel
theorem dX10_adds_57 : decode cX10_adds 57 = .ok (.iload 7, 2) := by decide +kernel
theorem dX10_adds_59 : decode cX10_adds 59 = .ok (.ifCond .ge 8, 3) := by decide +kernel
theorem dX10_adds_62 : decode cX10_adds 62 = .ok (.bipush 15, 2) := by decide +kernel
theorem dX10_adds_64 : decode cX10_adds 64 = .ok (.goto 11, 3) := by decide +kernel
theorem dX10_adds_67 : decode cX10_adds 67 = .ok (.aload_n 0, 1) := by decide +kernel
theorem dX10_adds_68 : decode cX10_adds 68 = .ok (.iload_n 2, 1) := by decide +kernel
theorem dX10_adds_69 : decode cX10_adds 69 = .ok (.iload_n 1, 1) := by decide +kernel
theorem dX10_adds_70 : decode cX10_adds 70 = .ok (.iload 7, 2) := by decide +kernel
theorem dX10_adds_72 : decode cX10_adds 72 = .ok (.invokevirtual 77, 3) := by decide +kernel
theorem dX10_adds_75 : decode cX10_adds 75 = .ok (.iload 4, 2) := by decide +kernel
theorem dX10_adds_77 : decode cX10_adds 77 = .ok (.invokestatic 81, 3) := by decide +kernel
theorem dX10_adds_80 : decode cX10_adds 80 = .ok (.istore 8, 2) := by decide +kernel
theorem dX10_adds_82 : decode cX10_adds 82 = .ok (.aload_n 0, 1) := by decide +kernel
theorem dX10_adds_83 : decode cX10_adds 83 = .ok (.getfield 32, 3) := by decide +kernel
theorem dX10_adds_86 : decode cX10_adds 86 = .ok (.iload 8, 2) := by decide +kernel
theorem dX10_adds_88 : decode cX10_adds 88 = .ok (.dup2, 1) := by decide +kernel
theorem dX10_adds_89 : decode cX10_adds 89 = .ok (.laload, 1) := by decide +kernel
theorem dX10_adds_90 : decode cX10_adds 90 = .ok (.aload_n 0, 1) := by decide +kernel
theorem dX10_adds_91 : decode cX10_adds 91 = .ok (.getfield 29, 3) := by decide +kernel
theorem dX10_adds_94 : decode cX10_adds 94 = .ok (.iload 8, 2) := by decide +kernel
theorem dX10_adds_96 : decode cX10_adds 96 = .ok (.iaload, 1) := by decide +kernel
theorem dX10_adds_97 : decode cX10_adds 97 = .ok (.i2l, 1) := by decide +kernel
theorem dX10_adds_98 : decode cX10_adds 98 = .ok (.ldc2_w 96, 3) := by decide +kernel
theorem dX10_adds_101 : decode cX10_adds 101 = .ok (.lmul, 1) := by decide +kernel
theorem dX10_adds_102 : decode cX10_adds 102 = .ok (.lload 5, 2) := by decide +kernel
theorem dX10_adds_104 : decode cX10_adds 104 = .ok (.ldiv, 1) := by decide +kernel
theorem dX10_adds_105 : decode cX10_adds 105 = .ok (.ladd, 1) := by decide +kernel
theorem dX10_adds_106 : decode cX10_adds 106 = .ok (.lastore, 1) := by decide +kernel
theorem dX10_adds_107 : decode cX10_adds 107 = .ok (.iinc 7 1, 3) := by decide +kernel
theorem dX10_adds_110 : decode cX10_adds 110 = .ok (.goto (-72), 3) := by decide +kernel
theorem dX10_adds_113 : decode cX10_adds 113 = .ok (.iinc 3 1, 3) := by decide +kernel
theorem dX10_adds_116 : decode cX10_adds 116 = .ok (.goto (-114), 3) := by decide +kernel
theorem dX10_adds_119 : decode cX10_adds 119 = .ok (.return_, 1) := by decide +kernel
theorem dX10_renews_0 : decode cX10_renews 0 = .ok (.lconst 0, 1) := by decide +kernel
theorem dX10_renews_1 : decode cX10_renews 1 = .ok (.lstore_n 2, 1) := by decide +kernel
theorem dX10_renews_2 : decode cX10_renews 2 = .ok (.iconst 0, 1) := by decide +kernel
theorem dX10_renews_3 : decode cX10_renews 3 = .ok (.istore 4, 2) := by decide +kernel
theorem dX10_renews_5 : decode cX10_renews 5 = .ok (.iload 4, 2) := by decide +kernel
theorem dX10_renews_7 : decode cX10_renews 7 = .ok (.bipush 15, 2) := by decide +kernel
theorem dX10_renews_9 : decode cX10_renews 9 = .ok (.if_icmp .ge 21, 3) := by decide +kernel
theorem dX10_renews_12 : decode cX10_renews 12 = .ok (.lload_n 2, 1) := by decide +kernel
theorem dX10_renews_13 : decode cX10_renews 13 = .ok (.aload_n 0, 1) := by decide +kernel
theorem dX10_renews_14 : decode cX10_renews 14 = .ok (.getfield 32, 3) := by decide +kernel
theorem dX10_renews_17 : decode cX10_renews 17 = .ok (.iload_n 1, 1) := by decide +kernel
theorem dX10_renews_18 : decode cX10_renews 18 = .ok (.iload 4, 2) := by decide +kernel
theorem dX10_renews_20 : decode cX10_renews 20 = .ok (.iadd, 1) := by decide +kernel
theorem dX10_renews_21 : decode cX10_renews 21 = .ok (.laload, 1) := by decide +kernel
theorem dX10_renews_22 : decode cX10_renews 22 = .ok (.ladd, 1) := by decide +kernel
theorem dX10_renews_23 : decode cX10_renews 23 = .ok (.lstore_n 2, 1) := by decide +kernel
theorem dX10_renews_24 : decode cX10_renews 24 = .ok (.iinc 4 1, 3) := by decide +kernel
theorem dX10_renews_27 : decode cX10_renews 27 = .ok (.goto (-22), 3) := by decide +kernel
theorem dX10_renews_30 : decode cX10_renews 30 = .ok (.lload_n 2, 1) := by decide +kernel
theorem dX10_renews_31 : decode cX10_renews 31 = .ok (.lconst 0, 1) := by decide +kernel
theorem dX10_renews_32 : decode cX10_renews 32 = .ok (.lcmp, 1) := by decide +kernel
theorem dX10_renews_33 : decode cX10_renews 33 = .ok (.ifCond .ne 7, 3) := by decide +kernel
theorem dX10_renews_36 : decode cX10_renews 36 = .ok (.iconst 0, 1) := by decide +kernel
theorem dX10_renews_37 : decode cX10_renews 37 = .ok (.goto 5, 3) := by decide +kernel
theorem dX10_renews_40 : decode cX10_renews 40 = .ok (.ldc 91, 2) := by decide +kernel
theorem dX10_renews_42 : decode cX10_renews 42 = .ok (.istore 4, 2) := by decide +kernel
theorem dX10_renews_44 : decode cX10_renews 44 = .ok (.iconst 0, 1) := by decide +kernel
theorem dX10_renews_45 : decode cX10_renews 45 = .ok (.istore 5, 2) := by decide +kernel
theorem dX10_renews_47 : decode cX10_renews 47 = .ok (.iload 5, 2) := by decide +kernel
theorem dX10_renews_49 : decode cX10_renews 49 = .ok (.bipush 15, 2) := by decide +kernel
theorem dX10_renews_51 : decode cX10_renews 51 = .ok (.if_icmp .ge 79, 3) := by decide +kernel
theorem dX10_renews_54 : decode cX10_renews 54 = .ok (.aload_n 0, 1) := by decide +kernel
theorem dX10_renews_55 : decode cX10_renews 55 = .ok (.getfield 32, 3) := by decide +kernel
theorem dX10_renews_58 : decode cX10_renews 58 = .ok (.iload_n 1, 1) := by decide +kernel
theorem dX10_renews_59 : decode cX10_renews 59 = .ok (.iload 5, 2) := by decide +kernel
theorem dX10_renews_61 : decode cX10_renews 61 = .ok (.iadd, 1) := by decide +kernel
theorem dX10_renews_62 : decode cX10_renews 62 = .ok (.laload, 1) := by decide +kernel
theorem dX10_renews_63 : decode cX10_renews 63 = .ok (.ldc2_w 96, 3) := by decide +kernel
theorem dX10_renews_66 : decode cX10_renews 66 = .ok (.lmul, 1) := by decide +kernel
theorem dX10_renews_67 : decode cX10_renews 67 = .ok (.lstore 6, 2) := by decide +kernel
theorem dX10_renews_69 : decode cX10_renews 69 = .ok (.aload_n 0, 1) := by decide +kernel
theorem dX10_renews_70 : decode cX10_renews 70 = .ok (.getfield 39, 3) := by decide +kernel
theorem dX10_renews_73 : decode cX10_renews 73 = .ok (.iload 5, 2) := by decide +kernel
theorem dX10_renews_75 : decode cX10_renews 75 = .ok (.lload_n 2, 1) := by decide +kernel
theorem dX10_renews_76 : decode cX10_renews 76 = .ok (.lconst 0, 1) := by decide +kernel
theorem dX10_renews_77 : decode cX10_renews 77 = .ok (.lcmp, 1) := by decide +kernel
theorem dX10_renews_78 : decode cX10_renews 78 = .ok (.ifCond .ne 7, 3) := by decide +kernel
theorem dX10_renews_81 : decode cX10_renews 81 = .ok (.iconst 0, 1) := by decide +kernel
theorem dX10_renews_82 : decode cX10_renews 82 = .ok (.goto 8, 3) := by decide +kernel
theorem dX10_renews_85 : decode cX10_renews 85 = .ok (.lload 6, 2) := by decide +kernel
theorem dX10_renews_87 : decode cX10_renews 87 = .ok (.lload_n 2, 1) := by decide +kernel
theorem dX10_renews_88 : decode cX10_renews 88 = .ok (.ldiv, 1) := by decide +kernel
theorem dX10_renews_89 : decode cX10_renews 89 = .ok (.l2i, 1) := by decide +kernel
theorem dX10_renews_90 : decode cX10_renews 90 = .ok (.iastore, 1) := by decide +kernel
theorem dX10_renews_91 : decode cX10_renews 91 = .ok (.aload_n 0, 1) := by decide +kernel
theorem dX10_renews_92 : decode cX10_renews 92 = .ok (.getfield 36, 3) := by decide +kernel
theorem dX10_renews_95 : decode cX10_renews 95 = .ok (.iload 5, 2) := by decide +kernel
theorem dX10_renews_97 : decode cX10_renews 97 = .ok (.lload_n 2, 1) := by decide +kernel
theorem dX10_renews_98 : decode cX10_renews 98 = .ok (.lconst 0, 1) := by decide +kernel
theorem dX10_renews_99 : decode cX10_renews 99 = .ok (.lcmp, 1) := by decide +kernel
theorem dX10_renews_100 : decode cX10_renews 100 = .ok (.ifCond .ne 7, 3) := by decide +kernel
theorem dX10_renews_103 : decode cX10_renews 103 = .ok (.lconst 0, 1) := by decide +kernel
theorem dX10_renews_104 : decode cX10_renews 104 = .ok (.goto 7, 3) := by decide +kernel
theorem dX10_renews_107 : decode cX10_renews 107 = .ok (.lload 6, 2) := by decide +kernel
theorem dX10_renews_109 : decode cX10_renews 109 = .ok (.lload_n 2, 1) := by decide +kernel
theorem dX10_renews_110 : decode cX10_renews 110 = .ok (.lrem, 1) := by decide +kernel
theorem dX10_renews_111 : decode cX10_renews 111 = .ok (.lastore, 1) := by decide +kernel
theorem dX10_renews_112 : decode cX10_renews 112 = .ok (.iload 4, 2) := by decide +kernel
theorem dX10_renews_114 : decode cX10_renews 114 = .ok (.aload_n 0, 1) := by decide +kernel
theorem dX10_renews_115 : decode cX10_renews 115 = .ok (.getfield 39, 3) := by decide +kernel
theorem dX10_renews_118 : decode cX10_renews 118 = .ok (.iload 5, 2) := by decide +kernel
theorem dX10_renews_120 : decode cX10_renews 120 = .ok (.iaload, 1) := by decide +kernel
theorem dX10_renews_121 : decode cX10_renews 121 = .ok (.isub, 1) := by decide +kernel
theorem dX10_renews_122 : decode cX10_renews 122 = .ok (.istore 4, 2) := by decide +kernel
theorem dX10_renews_124 : decode cX10_renews 124 = .ok (.iinc 5 1, 3) := by decide +kernel
theorem dX10_renews_127 : decode cX10_renews 127 = .ok (.goto (-80), 3) := by decide +kernel
theorem dX10_renews_130 : decode cX10_renews 130 = .ok (.iload 4, 2) := by decide +kernel
theorem dX10_renews_132 : decode cX10_renews 132 = .ok (.ifCond .le 76, 3) := by decide +kernel
theorem dX10_renews_135 : decode cX10_renews 135 = .ok (.iconst 0, 1) := by decide +kernel
theorem dX10_renews_136 : decode cX10_renews 136 = .ok (.istore 5, 2) := by decide +kernel
theorem dX10_renews_138 : decode cX10_renews 138 = .ok (.iconst 1, 1) := by decide +kernel
theorem dX10_renews_139 : decode cX10_renews 139 = .ok (.istore 6, 2) := by decide +kernel
theorem dX10_renews_141 : decode cX10_renews 141 = .ok (.iload 6, 2) := by decide +kernel
theorem dX10_renews_143 : decode cX10_renews 143 = .ok (.bipush 15, 2) := by decide +kernel
theorem dX10_renews_145 : decode cX10_renews 145 = .ok (.if_icmp .ge 36, 3) := by decide +kernel
theorem dX10_renews_148 : decode cX10_renews 148 = .ok (.aload_n 0, 1) := by decide +kernel
theorem dX10_renews_149 : decode cX10_renews 149 = .ok (.getfield 36, 3) := by decide +kernel
theorem dX10_renews_152 : decode cX10_renews 152 = .ok (.iload 6, 2) := by decide +kernel
theorem dX10_renews_154 : decode cX10_renews 154 = .ok (.laload, 1) := by decide +kernel
theorem dX10_renews_155 : decode cX10_renews 155 = .ok (.aload_n 0, 1) := by decide +kernel
theorem dX10_renews_156 : decode cX10_renews 156 = .ok (.getfield 36, 3) := by decide +kernel
theorem dX10_renews_159 : decode cX10_renews 159 = .ok (.iload 5, 2) := by decide +kernel
theorem dX10_renews_161 : decode cX10_renews 161 = .ok (.laload, 1) := by decide +kernel
theorem dX10_renews_162 : decode cX10_renews 162 = .ok (.lcmp, 1) := by decide +kernel
theorem dX10_renews_163 : decode cX10_renews 163 = .ok (.ifCond .le 8, 3) := by decide +kernel
theorem dX10_renews_166 : decode cX10_renews 166 = .ok (.iload 6, 2) := by decide +kernel
theorem dX10_renews_168 : decode cX10_renews 168 = .ok (.goto 5, 3) := by decide +kernel
theorem dX10_renews_171 : decode cX10_renews 171 = .ok (.iload 5, 2) := by decide +kernel
theorem dX10_renews_173 : decode cX10_renews 173 = .ok (.istore 5, 2) := by decide +kernel
theorem dX10_renews_175 : decode cX10_renews 175 = .ok (.iinc 6 1, 3) := by decide +kernel
theorem dX10_renews_178 : decode cX10_renews 178 = .ok (.goto (-37), 3) := by decide +kernel
theorem dX10_renews_181 : decode cX10_renews 181 = .ok (.aload_n 0, 1) := by decide +kernel
theorem dX10_renews_182 : decode cX10_renews 182 = .ok (.getfield 39, 3) := by decide +kernel
theorem dX10_renews_185 : decode cX10_renews 185 = .ok (.iload 5, 2) := by decide +kernel
theorem dX10_renews_187 : decode cX10_renews 187 = .ok (.dup2, 1) := by decide +kernel
theorem dX10_renews_188 : decode cX10_renews 188 = .ok (.iaload, 1) := by decide +kernel
theorem dX10_renews_189 : decode cX10_renews 189 = .ok (.iconst 1, 1) := by decide +kernel
theorem dX10_renews_190 : decode cX10_renews 190 = .ok (.iadd, 1) := by decide +kernel
theorem dX10_renews_191 : decode cX10_renews 191 = .ok (.iastore, 1) := by decide +kernel
theorem dX10_renews_192 : decode cX10_renews 192 = .ok (.aload_n 0, 1) := by decide +kernel
theorem dX10_renews_193 : decode cX10_renews 193 = .ok (.getfield 36, 3) := by decide +kernel
theorem dX10_renews_196 : decode cX10_renews 196 = .ok (.iload 5, 2) := by decide +kernel
theorem dX10_renews_198 : decode cX10_renews 198 = .ok (.ldc2_w 98, 3) := by decide +kernel
theorem dX10_renews_201 : decode cX10_renews 201 = .ok (.lastore, 1) := by decide +kernel
theorem dX10_renews_202 : decode cX10_renews 202 = .ok (.iinc 4 (-1), 3) := by decide +kernel
theorem dX10_renews_205 : decode cX10_renews 205 = .ok (.goto (-75), 3) := by decide +kernel
theorem dX10_renews_208 : decode cX10_renews 208 = .ok (.return_, 1) := by decide +kernel
theorem dX10_round_0 : decode cX10_round 0 = .ok (.aload_n 0, 1) := by decide +kernel
theorem dX10_round_1 : decode cX10_round 1 = .ok (.iconst 0, 1) := by decide +kernel
theorem dX10_round_2 : decode cX10_round 2 = .ok (.putfield 48, 3) := by decide +kernel
theorem dX10_round_5 : decode cX10_round 5 = .ok (.aload_n 0, 1) := by decide +kernel
theorem dX10_round_6 : decode cX10_round 6 = .ok (.invokevirtual 84, 3) := by decide +kernel
theorem dX10_round_9 : decode cX10_round 9 = .ok (.iconst 0, 1) := by decide +kernel
theorem dX10_round_10 : decode cX10_round 10 = .ok (.istore_n 1, 1) := by decide +kernel
theorem dX10_round_11 : decode cX10_round 11 = .ok (.iload_n 1, 1) := by decide +kernel
theorem dX10_round_12 : decode cX10_round 12 = .ok (.aload_n 0, 1) := by decide +kernel
theorem dX10_round_13 : decode cX10_round 13 = .ok (.getfield 52, 3) := by decide +kernel
theorem dX10_round_16 : decode cX10_round 16 = .ok (.if_icmp .ge 30, 3) := by decide +kernel
theorem dX10_round_19 : decode cX10_round 19 = .ok (.aload_n 0, 1) := by decide +kernel
theorem dX10_round_20 : decode cX10_round 20 = .ok (.getfield 22, 3) := by decide +kernel
theorem dX10_round_23 : decode cX10_round 23 = .ok (.iload_n 1, 1) := by decide +kernel
theorem dX10_round_24 : decode cX10_round 24 = .ok (.baload, 1) := by decide +kernel
theorem dX10_round_25 : decode cX10_round 25 = .ok (.ifCond .ne 15, 3) := by decide +kernel
theorem dX10_round_28 : decode cX10_round 28 = .ok (.aload_n 0, 1) := by decide +kernel
theorem dX10_round_29 : decode cX10_round 29 = .ok (.iconst 0, 1) := by decide +kernel
theorem dX10_round_30 : decode cX10_round 30 = .ok (.iload_n 1, 1) := by decide +kernel
theorem dX10_round_31 : decode cX10_round 31 = .ok (.invokevirtual 100, 3) := by decide +kernel
theorem dX10_round_34 : decode cX10_round 34 = .ok (.aload_n 0, 1) := by decide +kernel
theorem dX10_round_35 : decode cX10_round 35 = .ok (.iconst 1, 1) := by decide +kernel
theorem dX10_round_36 : decode cX10_round 36 = .ok (.iload_n 1, 1) := by decide +kernel
theorem dX10_round_37 : decode cX10_round 37 = .ok (.invokevirtual 100, 3) := by decide +kernel
theorem dX10_round_40 : decode cX10_round 40 = .ok (.iinc 1 1, 3) := by decide +kernel
theorem dX10_round_43 : decode cX10_round 43 = .ok (.goto (-32), 3) := by decide +kernel
theorem dX10_round_46 : decode cX10_round 46 = .ok (.iconst 0, 1) := by decide +kernel
theorem dX10_round_47 : decode cX10_round 47 = .ok (.istore_n 1, 1) := by decide +kernel
theorem dX10_round_48 : decode cX10_round 48 = .ok (.iconst 0, 1) := by decide +kernel
theorem dX10_round_49 : decode cX10_round 49 = .ok (.istore_n 2, 1) := by decide +kernel
theorem dX10_round_50 : decode cX10_round 50 = .ok (.iload_n 2, 1) := by decide +kernel
theorem dX10_round_51 : decode cX10_round 51 = .ok (.sipush 480, 3) := by decide +kernel
theorem dX10_round_54 : decode cX10_round 54 = .ok (.if_icmp .ge 67, 3) := by decide +kernel
theorem dX10_round_57 : decode cX10_round 57 = .ok (.aload_n 0, 1) := by decide +kernel
theorem dX10_round_58 : decode cX10_round 58 = .ok (.iload_n 2, 1) := by decide +kernel
theorem dX10_round_59 : decode cX10_round 59 = .ok (.invokevirtual 103, 3) := by decide +kernel
theorem dX10_round_62 : decode cX10_round 62 = .ok (.iconst 0, 1) := by decide +kernel
theorem dX10_round_63 : decode cX10_round 63 = .ok (.istore_n 3, 1) := by decide +kernel
theorem dX10_round_64 : decode cX10_round 64 = .ok (.iload_n 3, 1) := by decide +kernel
theorem dX10_round_65 : decode cX10_round 65 = .ok (.bipush 15, 2) := by decide +kernel
theorem dX10_round_67 : decode cX10_round 67 = .ok (.if_icmp .ge 48, 3) := by decide +kernel
theorem dX10_round_70 : decode cX10_round 70 = .ok (.iload_n 1, 1) := by decide +kernel
theorem dX10_round_71 : decode cX10_round 71 = .ok (.aload_n 0, 1) := by decide +kernel
theorem dX10_round_72 : decode cX10_round 72 = .ok (.getfield 29, 3) := by decide +kernel
theorem dX10_round_75 : decode cX10_round 75 = .ok (.iload_n 2, 1) := by decide +kernel
theorem dX10_round_76 : decode cX10_round 76 = .ok (.iload_n 3, 1) := by decide +kernel
theorem dX10_round_77 : decode cX10_round 77 = .ok (.iadd, 1) := by decide +kernel
theorem dX10_round_78 : decode cX10_round 78 = .ok (.iaload, 1) := by decide +kernel
theorem dX10_round_79 : decode cX10_round 79 = .ok (.aload_n 0, 1) := by decide +kernel
theorem dX10_round_80 : decode cX10_round 80 = .ok (.getfield 39, 3) := by decide +kernel
theorem dX10_round_83 : decode cX10_round 83 = .ok (.iload_n 3, 1) := by decide +kernel
theorem dX10_round_84 : decode cX10_round 84 = .ok (.iaload, 1) := by decide +kernel
theorem dX10_round_85 : decode cX10_round 85 = .ok (.if_icmp .eq 7, 3) := by decide +kernel
theorem dX10_round_88 : decode cX10_round 88 = .ok (.iconst 1, 1) := by decide +kernel
theorem dX10_round_89 : decode cX10_round 89 = .ok (.goto 4, 3) := by decide +kernel
theorem dX10_round_92 : decode cX10_round 92 = .ok (.iconst 0, 1) := by decide +kernel
theorem dX10_round_93 : decode cX10_round 93 = .ok (.iadd, 1) := by decide +kernel
theorem dX10_round_94 : decode cX10_round 94 = .ok (.istore_n 1, 1) := by decide +kernel
theorem dX10_round_95 : decode cX10_round 95 = .ok (.aload_n 0, 1) := by decide +kernel
theorem dX10_round_96 : decode cX10_round 96 = .ok (.getfield 29, 3) := by decide +kernel
theorem dX10_round_99 : decode cX10_round 99 = .ok (.iload_n 2, 1) := by decide +kernel
theorem dX10_round_100 : decode cX10_round 100 = .ok (.iload_n 3, 1) := by decide +kernel
theorem dX10_round_101 : decode cX10_round 101 = .ok (.iadd, 1) := by decide +kernel
theorem dX10_round_102 : decode cX10_round 102 = .ok (.aload_n 0, 1) := by decide +kernel
theorem dX10_round_103 : decode cX10_round 103 = .ok (.getfield 39, 3) := by decide +kernel
theorem dX10_round_106 : decode cX10_round 106 = .ok (.iload_n 3, 1) := by decide +kernel
theorem dX10_round_107 : decode cX10_round 107 = .ok (.iaload, 1) := by decide +kernel
theorem dX10_round_108 : decode cX10_round 108 = .ok (.iastore, 1) := by decide +kernel
theorem dX10_round_109 : decode cX10_round 109 = .ok (.iinc 3 1, 3) := by decide +kernel
theorem dX10_round_112 : decode cX10_round 112 = .ok (.goto (-48), 3) := by decide +kernel
theorem dX10_round_115 : decode cX10_round 115 = .ok (.iinc 2 15, 3) := by decide +kernel
theorem dX10_round_118 : decode cX10_round 118 = .ok (.goto (-68), 3) := by decide +kernel
theorem dX10_round_121 : decode cX10_round 121 = .ok (.iload_n 1, 1) := by decide +kernel
theorem dX10_round_122 : decode cX10_round 122 = .ok (.ireturn, 1) := by decide +kernel
theorem dX10_weight_0 : decode cX10_weight 0 = .ok (.aload_n 0, 1) := by decide +kernel
theorem dX10_weight_1 : decode cX10_weight 1 = .ok (.iload_n 1, 1) := by decide +kernel
theorem dX10_weight_2 : decode cX10_weight 2 = .ok (.iconst 0, 1) := by decide +kernel
theorem dX10_weight_3 : decode cX10_weight 3 = .ok (.iconst 4, 1) := by decide +kernel
theorem dX10_weight_4 : decode cX10_weight 4 = .ok (.invokestatic 55, 3) := by decide +kernel
theorem dX10_weight_7 : decode cX10_weight 7 = .ok (.iload_n 2, 1) := by decide +kernel
theorem dX10_weight_8 : decode cX10_weight 8 = .ok (.iconst 0, 1) := by decide +kernel
theorem dX10_weight_9 : decode cX10_weight 9 = .ok (.bipush 9, 2) := by decide +kernel
theorem dX10_weight_11 : decode cX10_weight 11 = .ok (.invokestatic 55, 3) := by decide +kernel
theorem dX10_weight_14 : decode cX10_weight 14 = .ok (.iconst 1, 1) := by decide +kernel
theorem dX10_weight_15 : decode cX10_weight 15 = .ok (.invokevirtual 59, 3) := by decide +kernel
theorem dX10_weight_18 : decode cX10_weight 18 = .ok (.ifCond .ne 5, 3) := by decide +kernel
theorem dX10_weight_21 : decode cX10_weight 21 = .ok (.iconst 0, 1) := by decide +kernel
theorem dX10_weight_22 : decode cX10_weight 22 = .ok (.ireturn, 1) := by decide +kernel
theorem dX10_weight_23 : decode cX10_weight 23 = .ok (.aload_n 0, 1) := by decide +kernel
theorem dX10_weight_24 : decode cX10_weight 24 = .ok (.getfield 26, 3) := by decide +kernel
theorem dX10_weight_27 : decode cX10_weight 27 = .ok (.iload_n 1, 1) := by decide +kernel
theorem dX10_weight_28 : decode cX10_weight 28 = .ok (.iaload, 1) := by decide +kernel
theorem dX10_weight_29 : decode cX10_weight 29 = .ok (.istore_n 3, 1) := by decide +kernel
theorem dX10_weight_30 : decode cX10_weight 30 = .ok (.aload_n 0, 1) := by decide +kernel
theorem dX10_weight_31 : decode cX10_weight 31 = .ok (.getfield 26, 3) := by decide +kernel
theorem dX10_weight_34 : decode cX10_weight 34 = .ok (.iload_n 1, 1) := by decide +kernel
theorem dX10_weight_35 : decode cX10_weight 35 = .ok (.iload_n 2, 1) := by decide +kernel
theorem dX10_weight_36 : decode cX10_weight 36 = .ok (.iastore, 1) := by decide +kernel
theorem dX10_weight_37 : decode cX10_weight 37 = .ok (.iload_n 3, 1) := by decide +kernel
theorem dX10_weight_38 : decode cX10_weight 38 = .ok (.ireturn, 1) := by decide +kernel
theorem dX10_between_0 : decode cX10_between 0 = .ok (.iload_n 0, 1) := by decide +kernel
theorem dX10_between_1 : decode cX10_between 1 = .ok (.iload_n 1, 1) := by decide +kernel
theorem dX10_between_2 : decode cX10_between 2 = .ok (.if_icmp .ge 9, 3) := by decide +kernel
theorem dX10_between_5 : decode cX10_between 5 = .ok (.iload_n 1, 1) := by decide +kernel
theorem dX10_between_6 : decode cX10_between 6 = .ok (.iload_n 0, 1) := by decide +kernel
theorem dX10_between_7 : decode cX10_between 7 = .ok (.isub, 1) := by decide +kernel
theorem dX10_between_8 : decode cX10_between 8 = .ok (.goto 6, 3) := by decide +kernel
theorem dX10_between_11 : decode cX10_between 11 = .ok (.iload_n 0, 1) := by decide +kernel
theorem dX10_between_12 : decode cX10_between 12 = .ok (.iload_n 1, 1) := by decide +kernel
theorem dX10_between_13 : decode cX10_between 13 = .ok (.isub, 1) := by decide +kernel
theorem dX10_between_14 : decode cX10_between 14 = .ok (.ireturn, 1) := by decide +kernel
theorem dX10_linkOf_0 : decode cX10_linkOf 0 = .ok (.aload_n 0, 1) := by decide +kernel
theorem dX10_linkOf_1 : decode cX10_linkOf 1 = .ok (.iload_n 2, 1) := by decide +kernel
theorem dX10_linkOf_2 : decode cX10_linkOf 2 = .ok (.iconst 1, 1) := by decide +kernel
theorem dX10_linkOf_3 : decode cX10_linkOf 3 = .ok (.iload_n 1, 1) := by decide +kernel
theorem dX10_linkOf_4 : decode cX10_linkOf 4 = .ok (.isub, 1) := by decide +kernel
theorem dX10_linkOf_5 : decode cX10_linkOf 5 = .ok (.iload_n 3, 1) := by decide +kernel
theorem dX10_linkOf_6 : decode cX10_linkOf 6 = .ok (.invokevirtual 77, 3) := by decide +kernel
theorem dX10_linkOf_9 : decode cX10_linkOf 9 = .ok (.istore 4, 2) := by decide +kernel
theorem dX10_linkOf_11 : decode cX10_linkOf 11 = .ok (.iconst (-1), 1) := by decide +kernel
theorem dX10_linkOf_12 : decode cX10_linkOf 12 = .ok (.istore 5, 2) := by decide +kernel
theorem dX10_linkOf_14 : decode cX10_linkOf 14 = .ok (.iconst 0, 1) := by decide +kernel
theorem dX10_linkOf_15 : decode cX10_linkOf 15 = .ok (.istore 6, 2) := by decide +kernel
theorem dX10_linkOf_17 : decode cX10_linkOf 17 = .ok (.iconst 0, 1) := by decide +kernel
theorem dX10_linkOf_18 : decode cX10_linkOf 18 = .ok (.istore 7, 2) := by decide +kernel
theorem dX10_linkOf_20 : decode cX10_linkOf 20 = .ok (.iload 7, 2) := by decide +kernel
theorem dX10_linkOf_22 : decode cX10_linkOf 22 = .ok (.aload_n 0, 1) := by decide +kernel
theorem dX10_linkOf_23 : decode cX10_linkOf 23 = .ok (.iload_n 2, 1) := by decide +kernel
theorem dX10_linkOf_24 : decode cX10_linkOf 24 = .ok (.iload_n 1, 1) := by decide +kernel
theorem dX10_linkOf_25 : decode cX10_linkOf 25 = .ok (.invokevirtual 74, 3) := by decide +kernel
theorem dX10_linkOf_28 : decode cX10_linkOf 28 = .ok (.if_icmp .ge 88, 3) := by decide +kernel
theorem dX10_linkOf_31 : decode cX10_linkOf 31 = .ok (.iload 7, 2) := by decide +kernel
theorem dX10_linkOf_33 : decode cX10_linkOf 33 = .ok (.iload_n 3, 1) := by decide +kernel
theorem dX10_linkOf_34 : decode cX10_linkOf 34 = .ok (.invokestatic 107, 3) := by decide +kernel
theorem dX10_linkOf_37 : decode cX10_linkOf 37 = .ok (.istore 8, 2) := by decide +kernel
theorem dX10_linkOf_39 : decode cX10_linkOf 39 = .ok (.aload_n 0, 1) := by decide +kernel
theorem dX10_linkOf_40 : decode cX10_linkOf 40 = .ok (.getfield 29, 3) := by decide +kernel
theorem dX10_linkOf_43 : decode cX10_linkOf 43 = .ok (.iload_n 1, 1) := by decide +kernel
theorem dX10_linkOf_44 : decode cX10_linkOf 44 = .ok (.aload_n 0, 1) := by decide +kernel
theorem dX10_linkOf_45 : decode cX10_linkOf 45 = .ok (.iload_n 2, 1) := by decide +kernel
theorem dX10_linkOf_46 : decode cX10_linkOf 46 = .ok (.iload_n 1, 1) := by decide +kernel
theorem dX10_linkOf_47 : decode cX10_linkOf 47 = .ok (.iload 7, 2) := by decide +kernel
theorem dX10_linkOf_49 : decode cX10_linkOf 49 = .ok (.invokevirtual 77, 3) := by decide +kernel
theorem dX10_linkOf_52 : decode cX10_linkOf 52 = .ok (.iload 4, 2) := by decide +kernel
theorem dX10_linkOf_54 : decode cX10_linkOf 54 = .ok (.invokestatic 81, 3) := by decide +kernel
theorem dX10_linkOf_57 : decode cX10_linkOf 57 = .ok (.iaload, 1) := by decide +kernel
theorem dX10_linkOf_58 : decode cX10_linkOf 58 = .ok (.aload_n 0, 1) := by decide +kernel
theorem dX10_linkOf_59 : decode cX10_linkOf 59 = .ok (.getfield 26, 3) := by decide +kernel
theorem dX10_linkOf_62 : decode cX10_linkOf 62 = .ok (.iload 8, 2) := by decide +kernel
theorem dX10_linkOf_64 : decode cX10_linkOf 64 = .ok (.iconst 3, 1) := by decide +kernel
theorem dX10_linkOf_65 : decode cX10_linkOf 65 = .ok (.if_icmp .le 7, 3) := by decide +kernel
theorem dX10_linkOf_68 : decode cX10_linkOf 68 = .ok (.iconst 3, 1) := by decide +kernel
theorem dX10_linkOf_69 : decode cX10_linkOf 69 = .ok (.goto 5, 3) := by decide +kernel
theorem dX10_linkOf_72 : decode cX10_linkOf 72 = .ok (.iload 8, 2) := by decide +kernel
theorem dX10_linkOf_74 : decode cX10_linkOf 74 = .ok (.iaload, 1) := by decide +kernel
theorem dX10_linkOf_75 : decode cX10_linkOf 75 = .ok (.imul, 1) := by decide +kernel
theorem dX10_linkOf_76 : decode cX10_linkOf 76 = .ok (.istore 9, 2) := by decide +kernel
theorem dX10_linkOf_78 : decode cX10_linkOf 78 = .ok (.iload 9, 2) := by decide +kernel
theorem dX10_linkOf_80 : decode cX10_linkOf 80 = .ok (.iload 6, 2) := by decide +kernel
theorem dX10_linkOf_82 : decode cX10_linkOf 82 = .ok (.if_icmp .le 8, 3) := by decide +kernel
theorem dX10_linkOf_85 : decode cX10_linkOf 85 = .ok (.iload 7, 2) := by decide +kernel
theorem dX10_linkOf_87 : decode cX10_linkOf 87 = .ok (.goto 5, 3) := by decide +kernel
theorem dX10_linkOf_90 : decode cX10_linkOf 90 = .ok (.iload 5, 2) := by decide +kernel
theorem dX10_linkOf_92 : decode cX10_linkOf 92 = .ok (.istore 5, 2) := by decide +kernel
theorem dX10_linkOf_94 : decode cX10_linkOf 94 = .ok (.iload 9, 2) := by decide +kernel
theorem dX10_linkOf_96 : decode cX10_linkOf 96 = .ok (.iload 6, 2) := by decide +kernel
theorem dX10_linkOf_98 : decode cX10_linkOf 98 = .ok (.if_icmp .le 8, 3) := by decide +kernel
theorem dX10_linkOf_101 : decode cX10_linkOf 101 = .ok (.iload 9, 2) := by decide +kernel
theorem dX10_linkOf_103 : decode cX10_linkOf 103 = .ok (.goto 5, 3) := by decide +kernel
theorem dX10_linkOf_106 : decode cX10_linkOf 106 = .ok (.iload 6, 2) := by decide +kernel
theorem dX10_linkOf_108 : decode cX10_linkOf 108 = .ok (.istore 6, 2) := by decide +kernel
theorem dX10_linkOf_110 : decode cX10_linkOf 110 = .ok (.iinc 7 1, 3) := by decide +kernel
theorem dX10_linkOf_113 : decode cX10_linkOf 113 = .ok (.goto (-93), 3) := by decide +kernel
theorem dX10_linkOf_116 : decode cX10_linkOf 116 = .ok (.aload_n 0, 1) := by decide +kernel
theorem dX10_linkOf_117 : decode cX10_linkOf 117 = .ok (.getfield 29, 3) := by decide +kernel
theorem dX10_linkOf_120 : decode cX10_linkOf 120 = .ok (.iload_n 1, 1) := by decide +kernel
theorem dX10_linkOf_121 : decode cX10_linkOf 121 = .ok (.bipush 15, 2) := by decide +kernel
theorem dX10_linkOf_123 : decode cX10_linkOf 123 = .ok (.iload 4, 2) := by decide +kernel
theorem dX10_linkOf_125 : decode cX10_linkOf 125 = .ok (.invokestatic 81, 3) := by decide +kernel
theorem dX10_linkOf_128 : decode cX10_linkOf 128 = .ok (.iaload, 1) := by decide +kernel
theorem dX10_linkOf_129 : decode cX10_linkOf 129 = .ok (.aload_n 0, 1) := by decide +kernel
theorem dX10_linkOf_130 : decode cX10_linkOf 130 = .ok (.getfield 26, 3) := by decide +kernel
theorem dX10_linkOf_133 : decode cX10_linkOf 133 = .ok (.iconst 4, 1) := by decide +kernel
theorem dX10_linkOf_134 : decode cX10_linkOf 134 = .ok (.iaload, 1) := by decide +kernel
theorem dX10_linkOf_135 : decode cX10_linkOf 135 = .ok (.imul, 1) := by decide +kernel
theorem dX10_linkOf_136 : decode cX10_linkOf 136 = .ok (.iload 6, 2) := by decide +kernel
theorem dX10_linkOf_138 : decode cX10_linkOf 138 = .ok (.if_icmp .le 7, 3) := by decide +kernel
theorem dX10_linkOf_141 : decode cX10_linkOf 141 = .ok (.iconst (-1), 1) := by decide +kernel
theorem dX10_linkOf_142 : decode cX10_linkOf 142 = .ok (.goto 5, 3) := by decide +kernel
theorem dX10_linkOf_145 : decode cX10_linkOf 145 = .ok (.iload 5, 2) := by decide +kernel
theorem dX10_linkOf_147 : decode cX10_linkOf 147 = .ok (.ireturn, 1) := by decide +kernel
theorem dX10_isBeside_0 : decode cX10_isBeside 0 = .ok (.iconst 0, 1) := by decide +kernel
theorem dX10_isBeside_1 : decode cX10_isBeside 1 = .ok (.istore_n 2, 1) := by decide +kernel
theorem dX10_isBeside_2 : decode cX10_isBeside 2 = .ok (.iconst 0, 1) := by decide +kernel
theorem dX10_isBeside_3 : decode cX10_isBeside 3 = .ok (.istore_n 3, 1) := by decide +kernel
theorem dX10_isBeside_4 : decode cX10_isBeside 4 = .ok (.iload_n 3, 1) := by decide +kernel
theorem dX10_isBeside_5 : decode cX10_isBeside 5 = .ok (.bipush 64, 2) := by decide +kernel
theorem dX10_isBeside_7 : decode cX10_isBeside 7 = .ok (.if_icmp .ge 63, 3) := by decide +kernel
theorem dX10_isBeside_10 : decode cX10_isBeside 10 = .ok (.iload_n 2, 1) := by decide +kernel
theorem dX10_isBeside_11 : decode cX10_isBeside 11 = .ok (.ifCond .ne 47, 3) := by decide +kernel
theorem dX10_isBeside_14 : decode cX10_isBeside 14 = .ok (.iload_n 3, 1) := by decide +kernel
theorem dX10_isBeside_15 : decode cX10_isBeside 15 = .ok (.iload_n 1, 1) := by decide +kernel
theorem dX10_isBeside_16 : decode cX10_isBeside 16 = .ok (.if_icmp .eq 46, 3) := by decide +kernel
theorem dX10_isBeside_19 : decode cX10_isBeside 19 = .ok (.aload_n 0, 1) := by decide +kernel
theorem dX10_isBeside_20 : decode cX10_isBeside 20 = .ok (.getfield 45, 3) := by decide +kernel
theorem dX10_isBeside_23 : decode cX10_isBeside 23 = .ok (.iload_n 3, 1) := by decide +kernel
theorem dX10_isBeside_24 : decode cX10_isBeside 24 = .ok (.baload, 1) := by decide +kernel
theorem dX10_isBeside_25 : decode cX10_isBeside 25 = .ok (.ifCond .eq 37, 3) := by decide +kernel
theorem dX10_isBeside_28 : decode cX10_isBeside 28 = .ok (.iload_n 3, 1) := by decide +kernel
theorem dX10_isBeside_29 : decode cX10_isBeside 29 = .ok (.bipush 8, 2) := by decide +kernel
theorem dX10_isBeside_31 : decode cX10_isBeside 31 = .ok (.idiv, 1) := by decide +kernel
theorem dX10_isBeside_32 : decode cX10_isBeside 32 = .ok (.iload_n 1, 1) := by decide +kernel
theorem dX10_isBeside_33 : decode cX10_isBeside 33 = .ok (.bipush 8, 2) := by decide +kernel
theorem dX10_isBeside_35 : decode cX10_isBeside 35 = .ok (.idiv, 1) := by decide +kernel
theorem dX10_isBeside_36 : decode cX10_isBeside 36 = .ok (.invokestatic 107, 3) := by decide +kernel
theorem dX10_isBeside_39 : decode cX10_isBeside 39 = .ok (.iconst 2, 1) := by decide +kernel
theorem dX10_isBeside_40 : decode cX10_isBeside 40 = .ok (.if_icmp .ge 22, 3) := by decide +kernel
theorem dX10_isBeside_43 : decode cX10_isBeside 43 = .ok (.iload_n 3, 1) := by decide +kernel
theorem dX10_isBeside_44 : decode cX10_isBeside 44 = .ok (.bipush 8, 2) := by decide +kernel
theorem dX10_isBeside_46 : decode cX10_isBeside 46 = .ok (.irem, 1) := by decide +kernel
theorem dX10_isBeside_47 : decode cX10_isBeside 47 = .ok (.iload_n 1, 1) := by decide +kernel
theorem dX10_isBeside_48 : decode cX10_isBeside 48 = .ok (.bipush 8, 2) := by decide +kernel
theorem dX10_isBeside_50 : decode cX10_isBeside 50 = .ok (.irem, 1) := by decide +kernel
theorem dX10_isBeside_51 : decode cX10_isBeside 51 = .ok (.invokestatic 107, 3) := by decide +kernel
theorem dX10_isBeside_54 : decode cX10_isBeside 54 = .ok (.iconst 2, 1) := by decide +kernel
theorem dX10_isBeside_55 : decode cX10_isBeside 55 = .ok (.if_icmp .ge 7, 3) := by decide +kernel
theorem dX10_isBeside_58 : decode cX10_isBeside 58 = .ok (.iconst 1, 1) := by decide +kernel
theorem dX10_isBeside_59 : decode cX10_isBeside 59 = .ok (.goto 4, 3) := by decide +kernel
theorem dX10_isBeside_62 : decode cX10_isBeside 62 = .ok (.iconst 0, 1) := by decide +kernel
theorem dX10_isBeside_63 : decode cX10_isBeside 63 = .ok (.istore_n 2, 1) := by decide +kernel
theorem dX10_isBeside_64 : decode cX10_isBeside 64 = .ok (.iinc 3 1, 3) := by decide +kernel
theorem dX10_isBeside_67 : decode cX10_isBeside 67 = .ok (.goto (-63), 3) := by decide +kernel
theorem dX10_isBeside_70 : decode cX10_isBeside 70 = .ok (.iload_n 2, 1) := by decide +kernel
theorem dX10_isBeside_71 : decode cX10_isBeside 71 = .ok (.ireturn, 1) := by decide +kernel
theorem dX10_isFree_0 : decode cX10_isFree 0 = .ok (.iconst 1, 1) := by decide +kernel
theorem dX10_isFree_1 : decode cX10_isFree 1 = .ok (.istore_n 2, 1) := by decide +kernel
theorem dX10_isFree_2 : decode cX10_isFree 2 = .ok (.iconst 1, 1) := by decide +kernel
theorem dX10_isFree_3 : decode cX10_isFree 3 = .ok (.istore_n 3, 1) := by decide +kernel
theorem dX10_isFree_4 : decode cX10_isFree 4 = .ok (.iconst 0, 1) := by decide +kernel
theorem dX10_isFree_5 : decode cX10_isFree 5 = .ok (.istore 4, 2) := by decide +kernel
theorem dX10_isFree_7 : decode cX10_isFree 7 = .ok (.iload 4, 2) := by decide +kernel
theorem dX10_isFree_9 : decode cX10_isFree 9 = .ok (.bipush 8, 2) := by decide +kernel
theorem dX10_isFree_11 : decode cX10_isFree 11 = .ok (.if_icmp .ge 65, 3) := by decide +kernel
theorem dX10_isFree_14 : decode cX10_isFree 14 = .ok (.iload_n 2, 1) := by decide +kernel
theorem dX10_isFree_15 : decode cX10_isFree 15 = .ok (.ifCond .eq 25, 3) := by decide +kernel
theorem dX10_isFree_18 : decode cX10_isFree 18 = .ok (.aload_n 0, 1) := by decide +kernel
theorem dX10_isFree_19 : decode cX10_isFree 19 = .ok (.getfield 45, 3) := by decide +kernel
theorem dX10_isFree_22 : decode cX10_isFree 22 = .ok (.iload_n 1, 1) := by decide +kernel
theorem dX10_isFree_23 : decode cX10_isFree 23 = .ok (.bipush 8, 2) := by decide +kernel
theorem dX10_isFree_25 : decode cX10_isFree 25 = .ok (.idiv, 1) := by decide +kernel
theorem dX10_isFree_26 : decode cX10_isFree 26 = .ok (.bipush 8, 2) := by decide +kernel
theorem dX10_isFree_28 : decode cX10_isFree 28 = .ok (.imul, 1) := by decide +kernel
theorem dX10_isFree_29 : decode cX10_isFree 29 = .ok (.iload 4, 2) := by decide +kernel
theorem dX10_isFree_31 : decode cX10_isFree 31 = .ok (.iadd, 1) := by decide +kernel
theorem dX10_isFree_32 : decode cX10_isFree 32 = .ok (.baload, 1) := by decide +kernel
theorem dX10_isFree_33 : decode cX10_isFree 33 = .ok (.ifCond .ne 7, 3) := by decide +kernel
theorem dX10_isFree_36 : decode cX10_isFree 36 = .ok (.iconst 1, 1) := by decide +kernel
theorem dX10_isFree_37 : decode cX10_isFree 37 = .ok (.goto 4, 3) := by decide +kernel
theorem dX10_isFree_40 : decode cX10_isFree 40 = .ok (.iconst 0, 1) := by decide +kernel
theorem dX10_isFree_41 : decode cX10_isFree 41 = .ok (.istore_n 2, 1) := by decide +kernel
theorem dX10_isFree_42 : decode cX10_isFree 42 = .ok (.iload_n 3, 1) := by decide +kernel
theorem dX10_isFree_43 : decode cX10_isFree 43 = .ok (.ifCond .eq 25, 3) := by decide +kernel
theorem dX10_isFree_46 : decode cX10_isFree 46 = .ok (.aload_n 0, 1) := by decide +kernel
theorem dX10_isFree_47 : decode cX10_isFree 47 = .ok (.getfield 45, 3) := by decide +kernel
theorem dX10_isFree_50 : decode cX10_isFree 50 = .ok (.bipush 8, 2) := by decide +kernel
theorem dX10_isFree_52 : decode cX10_isFree 52 = .ok (.iload 4, 2) := by decide +kernel
theorem dX10_isFree_54 : decode cX10_isFree 54 = .ok (.imul, 1) := by decide +kernel
theorem dX10_isFree_55 : decode cX10_isFree 55 = .ok (.iload_n 1, 1) := by decide +kernel
theorem dX10_isFree_56 : decode cX10_isFree 56 = .ok (.bipush 8, 2) := by decide +kernel
theorem dX10_isFree_58 : decode cX10_isFree 58 = .ok (.irem, 1) := by decide +kernel
theorem dX10_isFree_59 : decode cX10_isFree 59 = .ok (.iadd, 1) := by decide +kernel
theorem dX10_isFree_60 : decode cX10_isFree 60 = .ok (.baload, 1) := by decide +kernel
theorem dX10_isFree_61 : decode cX10_isFree 61 = .ok (.ifCond .ne 7, 3) := by decide +kernel
theorem dX10_isFree_64 : decode cX10_isFree 64 = .ok (.iconst 1, 1) := by decide +kernel
theorem dX10_isFree_65 : decode cX10_isFree 65 = .ok (.goto 4, 3) := by decide +kernel
theorem dX10_isFree_68 : decode cX10_isFree 68 = .ok (.iconst 0, 1) := by decide +kernel
theorem dX10_isFree_69 : decode cX10_isFree 69 = .ok (.istore_n 3, 1) := by decide +kernel
theorem dX10_isFree_70 : decode cX10_isFree 70 = .ok (.iinc 4 1, 3) := by decide +kernel
theorem dX10_isFree_73 : decode cX10_isFree 73 = .ok (.goto (-66), 3) := by decide +kernel
theorem dX10_isFree_76 : decode cX10_isFree 76 = .ok (.iload_n 2, 1) := by decide +kernel
theorem dX10_isFree_77 : decode cX10_isFree 77 = .ok (.ifCond .ne 7, 3) := by decide +kernel
theorem dX10_isFree_80 : decode cX10_isFree 80 = .ok (.iload_n 3, 1) := by decide +kernel
theorem dX10_isFree_81 : decode cX10_isFree 81 = .ok (.ifCond .eq 7, 3) := by decide +kernel
theorem dX10_isFree_84 : decode cX10_isFree 84 = .ok (.iconst 1, 1) := by decide +kernel
theorem dX10_isFree_85 : decode cX10_isFree 85 = .ok (.goto 4, 3) := by decide +kernel
theorem dX10_isFree_88 : decode cX10_isFree 88 = .ok (.iconst 0, 1) := by decide +kernel
theorem dX10_isFree_89 : decode cX10_isFree 89 = .ok (.ireturn, 1) := by decide +kernel
theorem dX10_finds_0 : decode cX10_finds 0 = .ok (.iconst 0, 1) := by decide +kernel
theorem dX10_finds_1 : decode cX10_finds 1 = .ok (.istore_n 2, 1) := by decide +kernel
theorem dX10_finds_2 : decode cX10_finds 2 = .ok (.iload_n 2, 1) := by decide +kernel
theorem dX10_finds_3 : decode cX10_finds 3 = .ok (.bipush 64, 2) := by decide +kernel
theorem dX10_finds_5 : decode cX10_finds 5 = .ok (.if_icmp .ge 16, 3) := by decide +kernel
theorem dX10_finds_8 : decode cX10_finds 8 = .ok (.aload_n 0, 1) := by decide +kernel
theorem dX10_finds_9 : decode cX10_finds 9 = .ok (.getfield 42, 3) := by decide +kernel
theorem dX10_finds_12 : decode cX10_finds 12 = .ok (.iload_n 2, 1) := by decide +kernel
theorem dX10_finds_13 : decode cX10_finds 13 = .ok (.iconst 0, 1) := by decide +kernel
theorem dX10_finds_14 : decode cX10_finds 14 = .ok (.iastore, 1) := by decide +kernel
theorem dX10_finds_15 : decode cX10_finds 15 = .ok (.iinc 2 1, 3) := by decide +kernel
theorem dX10_finds_18 : decode cX10_finds 18 = .ok (.goto (-16), 3) := by decide +kernel
theorem dX10_finds_21 : decode cX10_finds 21 = .ok (.iconst 0, 1) := by decide +kernel
theorem dX10_finds_22 : decode cX10_finds 22 = .ok (.istore_n 2, 1) := by decide +kernel
theorem dX10_finds_23 : decode cX10_finds 23 = .ok (.iload_n 2, 1) := by decide +kernel
theorem dX10_finds_24 : decode cX10_finds 24 = .ok (.aload_n 0, 1) := by decide +kernel
theorem dX10_finds_25 : decode cX10_finds 25 = .ok (.iload_n 1, 1) := by decide +kernel
theorem dX10_finds_26 : decode cX10_finds 26 = .ok (.iconst 1, 1) := by decide +kernel
theorem dX10_finds_27 : decode cX10_finds 27 = .ok (.invokevirtual 74, 3) := by decide +kernel
theorem dX10_finds_30 : decode cX10_finds 30 = .ok (.if_icmp .ge 37, 3) := by decide +kernel
theorem dX10_finds_33 : decode cX10_finds 33 = .ok (.aload_n 0, 1) := by decide +kernel
theorem dX10_finds_34 : decode cX10_finds 34 = .ok (.iconst 0, 1) := by decide +kernel
theorem dX10_finds_35 : decode cX10_finds 35 = .ok (.iload_n 1, 1) := by decide +kernel
theorem dX10_finds_36 : decode cX10_finds 36 = .ok (.iload_n 2, 1) := by decide +kernel
theorem dX10_finds_37 : decode cX10_finds 37 = .ok (.invokevirtual 110, 3) := by decide +kernel
theorem dX10_finds_40 : decode cX10_finds 40 = .ok (.istore_n 3, 1) := by decide +kernel
theorem dX10_finds_41 : decode cX10_finds 41 = .ok (.iload_n 3, 1) := by decide +kernel
theorem dX10_finds_42 : decode cX10_finds 42 = .ok (.iconst (-1), 1) := by decide +kernel
theorem dX10_finds_43 : decode cX10_finds 43 = .ok (.if_icmp .eq 18, 3) := by decide +kernel
theorem dX10_finds_46 : decode cX10_finds 46 = .ok (.aload_n 0, 1) := by decide +kernel
theorem dX10_finds_47 : decode cX10_finds 47 = .ok (.getfield 42, 3) := by decide +kernel
theorem dX10_finds_50 : decode cX10_finds 50 = .ok (.bipush 8, 2) := by decide +kernel
theorem dX10_finds_52 : decode cX10_finds 52 = .ok (.iload_n 3, 1) := by decide +kernel
theorem dX10_finds_53 : decode cX10_finds 53 = .ok (.imul, 1) := by decide +kernel
theorem dX10_finds_54 : decode cX10_finds 54 = .ok (.iload_n 2, 1) := by decide +kernel
theorem dX10_finds_55 : decode cX10_finds 55 = .ok (.iadd, 1) := by decide +kernel
theorem dX10_finds_56 : decode cX10_finds 56 = .ok (.dup2, 1) := by decide +kernel
theorem dX10_finds_57 : decode cX10_finds 57 = .ok (.iaload, 1) := by decide +kernel
theorem dX10_finds_58 : decode cX10_finds 58 = .ok (.iconst 1, 1) := by decide +kernel
theorem dX10_finds_59 : decode cX10_finds 59 = .ok (.iadd, 1) := by decide +kernel
theorem dX10_finds_60 : decode cX10_finds 60 = .ok (.iastore, 1) := by decide +kernel
theorem dX10_finds_61 : decode cX10_finds 61 = .ok (.iinc 2 1, 3) := by decide +kernel
theorem dX10_finds_64 : decode cX10_finds 64 = .ok (.goto (-41), 3) := by decide +kernel
theorem dX10_finds_67 : decode cX10_finds 67 = .ok (.iconst 0, 1) := by decide +kernel
theorem dX10_finds_68 : decode cX10_finds 68 = .ok (.istore_n 2, 1) := by decide +kernel
theorem dX10_finds_69 : decode cX10_finds 69 = .ok (.iload_n 2, 1) := by decide +kernel
theorem dX10_finds_70 : decode cX10_finds 70 = .ok (.aload_n 0, 1) := by decide +kernel
theorem dX10_finds_71 : decode cX10_finds 71 = .ok (.iload_n 1, 1) := by decide +kernel
theorem dX10_finds_72 : decode cX10_finds 72 = .ok (.iconst 0, 1) := by decide +kernel
theorem dX10_finds_73 : decode cX10_finds 73 = .ok (.invokevirtual 74, 3) := by decide +kernel
theorem dX10_finds_76 : decode cX10_finds 76 = .ok (.if_icmp .ge 37, 3) := by decide +kernel
theorem dX10_finds_79 : decode cX10_finds 79 = .ok (.aload_n 0, 1) := by decide +kernel
theorem dX10_finds_80 : decode cX10_finds 80 = .ok (.iconst 1, 1) := by decide +kernel
theorem dX10_finds_81 : decode cX10_finds 81 = .ok (.iload_n 1, 1) := by decide +kernel
theorem dX10_finds_82 : decode cX10_finds 82 = .ok (.iload_n 2, 1) := by decide +kernel
theorem dX10_finds_83 : decode cX10_finds 83 = .ok (.invokevirtual 110, 3) := by decide +kernel
theorem dX10_finds_86 : decode cX10_finds 86 = .ok (.istore_n 3, 1) := by decide +kernel
theorem dX10_finds_87 : decode cX10_finds 87 = .ok (.iload_n 3, 1) := by decide +kernel
theorem dX10_finds_88 : decode cX10_finds 88 = .ok (.iconst (-1), 1) := by decide +kernel
theorem dX10_finds_89 : decode cX10_finds 89 = .ok (.if_icmp .eq 18, 3) := by decide +kernel
theorem dX10_finds_92 : decode cX10_finds 92 = .ok (.aload_n 0, 1) := by decide +kernel
theorem dX10_finds_93 : decode cX10_finds 93 = .ok (.getfield 42, 3) := by decide +kernel
theorem dX10_finds_96 : decode cX10_finds 96 = .ok (.bipush 8, 2) := by decide +kernel
theorem dX10_finds_98 : decode cX10_finds 98 = .ok (.iload_n 2, 1) := by decide +kernel
theorem dX10_finds_99 : decode cX10_finds 99 = .ok (.imul, 1) := by decide +kernel
theorem dX10_finds_100 : decode cX10_finds 100 = .ok (.iload_n 3, 1) := by decide +kernel
theorem dX10_finds_101 : decode cX10_finds 101 = .ok (.iadd, 1) := by decide +kernel
theorem dX10_finds_102 : decode cX10_finds 102 = .ok (.dup2, 1) := by decide +kernel
theorem dX10_finds_103 : decode cX10_finds 103 = .ok (.iaload, 1) := by decide +kernel
theorem dX10_finds_104 : decode cX10_finds 104 = .ok (.iconst 2, 1) := by decide +kernel
theorem dX10_finds_105 : decode cX10_finds 105 = .ok (.iadd, 1) := by decide +kernel
theorem dX10_finds_106 : decode cX10_finds 106 = .ok (.iastore, 1) := by decide +kernel
theorem dX10_finds_107 : decode cX10_finds 107 = .ok (.iinc 2 1, 3) := by decide +kernel
theorem dX10_finds_110 : decode cX10_finds 110 = .ok (.goto (-41), 3) := by decide +kernel
theorem dX10_finds_113 : decode cX10_finds 113 = .ok (.iconst 0, 1) := by decide +kernel
theorem dX10_finds_114 : decode cX10_finds 114 = .ok (.istore_n 2, 1) := by decide +kernel
theorem dX10_finds_115 : decode cX10_finds 115 = .ok (.iload_n 2, 1) := by decide +kernel
theorem dX10_finds_116 : decode cX10_finds 116 = .ok (.bipush 64, 2) := by decide +kernel
theorem dX10_finds_118 : decode cX10_finds 118 = .ok (.if_icmp .ge 30, 3) := by decide +kernel
theorem dX10_finds_121 : decode cX10_finds 121 = .ok (.aload_n 0, 1) := by decide +kernel
theorem dX10_finds_122 : decode cX10_finds 122 = .ok (.getfield 45, 3) := by decide +kernel
theorem dX10_finds_125 : decode cX10_finds 125 = .ok (.iload_n 2, 1) := by decide +kernel
theorem dX10_finds_126 : decode cX10_finds 126 = .ok (.aload_n 0, 1) := by decide +kernel
theorem dX10_finds_127 : decode cX10_finds 127 = .ok (.getfield 42, 3) := by decide +kernel
theorem dX10_finds_130 : decode cX10_finds 130 = .ok (.iload_n 2, 1) := by decide +kernel
theorem dX10_finds_131 : decode cX10_finds 131 = .ok (.iaload, 1) := by decide +kernel
theorem dX10_finds_132 : decode cX10_finds 132 = .ok (.iconst 3, 1) := by decide +kernel
theorem dX10_finds_133 : decode cX10_finds 133 = .ok (.if_icmp .ne 7, 3) := by decide +kernel
theorem dX10_finds_136 : decode cX10_finds 136 = .ok (.iconst 1, 1) := by decide +kernel
theorem dX10_finds_137 : decode cX10_finds 137 = .ok (.goto 4, 3) := by decide +kernel
theorem dX10_finds_140 : decode cX10_finds 140 = .ok (.iconst 0, 1) := by decide +kernel
theorem dX10_finds_141 : decode cX10_finds 141 = .ok (.bastore, 1) := by decide +kernel
theorem dX10_finds_142 : decode cX10_finds 142 = .ok (.iinc 2 1, 3) := by decide +kernel
theorem dX10_finds_145 : decode cX10_finds 145 = .ok (.goto (-30), 3) := by decide +kernel
theorem dX10_finds_148 : decode cX10_finds 148 = .ok (.iconst 1, 1) := by decide +kernel
theorem dX10_finds_149 : decode cX10_finds 149 = .ok (.istore_n 2, 1) := by decide +kernel
theorem dX10_finds_150 : decode cX10_finds 150 = .ok (.iload_n 2, 1) := by decide +kernel
theorem dX10_finds_151 : decode cX10_finds 151 = .ok (.ifCond .eq 65, 3) := by decide +kernel
theorem dX10_finds_154 : decode cX10_finds 154 = .ok (.iconst 0, 1) := by decide +kernel
theorem dX10_finds_155 : decode cX10_finds 155 = .ok (.istore_n 2, 1) := by decide +kernel
theorem dX10_finds_156 : decode cX10_finds 156 = .ok (.iconst 0, 1) := by decide +kernel
theorem dX10_finds_157 : decode cX10_finds 157 = .ok (.istore_n 3, 1) := by decide +kernel
theorem dX10_finds_158 : decode cX10_finds 158 = .ok (.iload_n 3, 1) := by decide +kernel
theorem dX10_finds_159 : decode cX10_finds 159 = .ok (.bipush 64, 2) := by decide +kernel
theorem dX10_finds_161 : decode cX10_finds 161 = .ok (.if_icmp .ge 52, 3) := by decide +kernel
theorem dX10_finds_164 : decode cX10_finds 164 = .ok (.aload_n 0, 1) := by decide +kernel
theorem dX10_finds_165 : decode cX10_finds 165 = .ok (.getfield 42, 3) := by decide +kernel
theorem dX10_finds_168 : decode cX10_finds 168 = .ok (.iload_n 3, 1) := by decide +kernel
theorem dX10_finds_169 : decode cX10_finds 169 = .ok (.iaload, 1) := by decide +kernel
theorem dX10_finds_170 : decode cX10_finds 170 = .ok (.ifCond .le 37, 3) := by decide +kernel
theorem dX10_finds_173 : decode cX10_finds 173 = .ok (.aload_n 0, 1) := by decide +kernel
theorem dX10_finds_174 : decode cX10_finds 174 = .ok (.getfield 45, 3) := by decide +kernel
theorem dX10_finds_177 : decode cX10_finds 177 = .ok (.iload_n 3, 1) := by decide +kernel
theorem dX10_finds_178 : decode cX10_finds 178 = .ok (.baload, 1) := by decide +kernel
theorem dX10_finds_179 : decode cX10_finds 179 = .ok (.ifCond .ne 28, 3) := by decide +kernel
theorem dX10_finds_182 : decode cX10_finds 182 = .ok (.aload_n 0, 1) := by decide +kernel
theorem dX10_finds_183 : decode cX10_finds 183 = .ok (.iload_n 3, 1) := by decide +kernel
theorem dX10_finds_184 : decode cX10_finds 184 = .ok (.invokevirtual 113, 3) := by decide +kernel
theorem dX10_finds_187 : decode cX10_finds 187 = .ok (.ifCond .eq 20, 3) := by decide +kernel
theorem dX10_finds_190 : decode cX10_finds 190 = .ok (.aload_n 0, 1) := by decide +kernel
theorem dX10_finds_191 : decode cX10_finds 191 = .ok (.iload_n 3, 1) := by decide +kernel
theorem dX10_finds_192 : decode cX10_finds 192 = .ok (.invokevirtual 116, 3) := by decide +kernel
theorem dX10_finds_195 : decode cX10_finds 195 = .ok (.ifCond .eq 12, 3) := by decide +kernel
theorem dX10_finds_198 : decode cX10_finds 198 = .ok (.aload_n 0, 1) := by decide +kernel
theorem dX10_finds_199 : decode cX10_finds 199 = .ok (.getfield 45, 3) := by decide +kernel
theorem dX10_finds_202 : decode cX10_finds 202 = .ok (.iload_n 3, 1) := by decide +kernel
theorem dX10_finds_203 : decode cX10_finds 203 = .ok (.iconst 1, 1) := by decide +kernel
theorem dX10_finds_204 : decode cX10_finds 204 = .ok (.bastore, 1) := by decide +kernel
theorem dX10_finds_205 : decode cX10_finds 205 = .ok (.iconst 1, 1) := by decide +kernel
theorem dX10_finds_206 : decode cX10_finds 206 = .ok (.istore_n 2, 1) := by decide +kernel
theorem dX10_finds_207 : decode cX10_finds 207 = .ok (.iinc 3 1, 3) := by decide +kernel
theorem dX10_finds_210 : decode cX10_finds 210 = .ok (.goto (-52), 3) := by decide +kernel
theorem dX10_finds_213 : decode cX10_finds 213 = .ok (.goto (-63), 3) := by decide +kernel
theorem dX10_finds_216 : decode cX10_finds 216 = .ok (.return_, 1) := by decide +kernel
theorem dX10_isPhrase_0 : decode cX10_isPhrase 0 = .ok (.iconst 1, 1) := by decide +kernel
theorem dX10_isPhrase_1 : decode cX10_isPhrase 1 = .ok (.istore 5, 2) := by decide +kernel
theorem dX10_isPhrase_3 : decode cX10_isPhrase 3 = .ok (.iconst 0, 1) := by decide +kernel
theorem dX10_isPhrase_4 : decode cX10_isPhrase 4 = .ok (.istore 6, 2) := by decide +kernel
theorem dX10_isPhrase_6 : decode cX10_isPhrase 6 = .ok (.iconst 0, 1) := by decide +kernel
theorem dX10_isPhrase_7 : decode cX10_isPhrase 7 = .ok (.istore 7, 2) := by decide +kernel
theorem dX10_isPhrase_9 : decode cX10_isPhrase 9 = .ok (.iload 7, 2) := by decide +kernel
theorem dX10_isPhrase_11 : decode cX10_isPhrase 11 = .ok (.bipush 64, 2) := by decide +kernel
theorem dX10_isPhrase_13 : decode cX10_isPhrase 13 = .ok (.if_icmp .ge 93, 3) := by decide +kernel
theorem dX10_isPhrase_16 : decode cX10_isPhrase 16 = .ok (.iload 7, 2) := by decide +kernel
theorem dX10_isPhrase_18 : decode cX10_isPhrase 18 = .ok (.bipush 8, 2) := by decide +kernel
theorem dX10_isPhrase_20 : decode cX10_isPhrase 20 = .ok (.idiv, 1) := by decide +kernel
theorem dX10_isPhrase_21 : decode cX10_isPhrase 21 = .ok (.iload_n 1, 1) := by decide +kernel
theorem dX10_isPhrase_22 : decode cX10_isPhrase 22 = .ok (.iload_n 2, 1) := by decide +kernel
theorem dX10_isPhrase_23 : decode cX10_isPhrase 23 = .ok (.invokestatic 55, 3) := by decide +kernel
theorem dX10_isPhrase_26 : decode cX10_isPhrase 26 = .ok (.istore 8, 2) := by decide +kernel
theorem dX10_isPhrase_28 : decode cX10_isPhrase 28 = .ok (.iload 7, 2) := by decide +kernel
theorem dX10_isPhrase_30 : decode cX10_isPhrase 30 = .ok (.bipush 8, 2) := by decide +kernel
theorem dX10_isPhrase_32 : decode cX10_isPhrase 32 = .ok (.irem, 1) := by decide +kernel
theorem dX10_isPhrase_33 : decode cX10_isPhrase 33 = .ok (.iload_n 3, 1) := by decide +kernel
theorem dX10_isPhrase_34 : decode cX10_isPhrase 34 = .ok (.iload 4, 2) := by decide +kernel
theorem dX10_isPhrase_36 : decode cX10_isPhrase 36 = .ok (.invokestatic 55, 3) := by decide +kernel
theorem dX10_isPhrase_39 : decode cX10_isPhrase 39 = .ok (.istore 9, 2) := by decide +kernel
theorem dX10_isPhrase_41 : decode cX10_isPhrase 41 = .ok (.iload 5, 2) := by decide +kernel
theorem dX10_isPhrase_43 : decode cX10_isPhrase 43 = .ok (.ifCond .eq 24, 3) := by decide +kernel
theorem dX10_isPhrase_46 : decode cX10_isPhrase 46 = .ok (.aload_n 0, 1) := by decide +kernel
theorem dX10_isPhrase_47 : decode cX10_isPhrase 47 = .ok (.getfield 45, 3) := by decide +kernel
theorem dX10_isPhrase_50 : decode cX10_isPhrase 50 = .ok (.iload 7, 2) := by decide +kernel
theorem dX10_isPhrase_52 : decode cX10_isPhrase 52 = .ok (.baload, 1) := by decide +kernel
theorem dX10_isPhrase_53 : decode cX10_isPhrase 53 = .ok (.ifCond .eq 10, 3) := by decide +kernel
theorem dX10_isPhrase_56 : decode cX10_isPhrase 56 = .ok (.iload 8, 2) := by decide +kernel
theorem dX10_isPhrase_58 : decode cX10_isPhrase 58 = .ok (.iload 9, 2) := by decide +kernel
theorem dX10_isPhrase_60 : decode cX10_isPhrase 60 = .ok (.if_icmp .ne 7, 3) := by decide +kernel
theorem dX10_isPhrase_63 : decode cX10_isPhrase 63 = .ok (.iconst 1, 1) := by decide +kernel
theorem dX10_isPhrase_64 : decode cX10_isPhrase 64 = .ok (.goto 4, 3) := by decide +kernel
theorem dX10_isPhrase_67 : decode cX10_isPhrase 67 = .ok (.iconst 0, 1) := by decide +kernel
theorem dX10_isPhrase_68 : decode cX10_isPhrase 68 = .ok (.istore 5, 2) := by decide +kernel
theorem dX10_isPhrase_70 : decode cX10_isPhrase 70 = .ok (.iload 6, 2) := by decide +kernel
theorem dX10_isPhrase_72 : decode cX10_isPhrase 72 = .ok (.aload_n 0, 1) := by decide +kernel
theorem dX10_isPhrase_73 : decode cX10_isPhrase 73 = .ok (.getfield 45, 3) := by decide +kernel
theorem dX10_isPhrase_76 : decode cX10_isPhrase 76 = .ok (.iload 7, 2) := by decide +kernel
theorem dX10_isPhrase_78 : decode cX10_isPhrase 78 = .ok (.baload, 1) := by decide +kernel
theorem dX10_isPhrase_79 : decode cX10_isPhrase 79 = .ok (.ifCond .eq 17, 3) := by decide +kernel
theorem dX10_isPhrase_82 : decode cX10_isPhrase 82 = .ok (.iload 8, 2) := by decide +kernel
theorem dX10_isPhrase_84 : decode cX10_isPhrase 84 = .ok (.ifCond .eq 12, 3) := by decide +kernel
theorem dX10_isPhrase_87 : decode cX10_isPhrase 87 = .ok (.iload 9, 2) := by decide +kernel
theorem dX10_isPhrase_89 : decode cX10_isPhrase 89 = .ok (.ifCond .eq 7, 3) := by decide +kernel
theorem dX10_isPhrase_92 : decode cX10_isPhrase 92 = .ok (.iconst 1, 1) := by decide +kernel
theorem dX10_isPhrase_93 : decode cX10_isPhrase 93 = .ok (.goto 4, 3) := by decide +kernel
theorem dX10_isPhrase_96 : decode cX10_isPhrase 96 = .ok (.iconst 0, 1) := by decide +kernel
theorem dX10_isPhrase_97 : decode cX10_isPhrase 97 = .ok (.iadd, 1) := by decide +kernel
theorem dX10_isPhrase_98 : decode cX10_isPhrase 98 = .ok (.istore 6, 2) := by decide +kernel
theorem dX10_isPhrase_100 : decode cX10_isPhrase 100 = .ok (.iinc 7 1, 3) := by decide +kernel
theorem dX10_isPhrase_103 : decode cX10_isPhrase 103 = .ok (.goto (-94), 3) := by decide +kernel
theorem dX10_isPhrase_106 : decode cX10_isPhrase 106 = .ok (.iload 5, 2) := by decide +kernel
theorem dX10_isPhrase_108 : decode cX10_isPhrase 108 = .ok (.ifCond .eq 12, 3) := by decide +kernel
theorem dX10_isPhrase_111 : decode cX10_isPhrase 111 = .ok (.iload 6, 2) := by decide +kernel
theorem dX10_isPhrase_113 : decode cX10_isPhrase 113 = .ok (.ifCond .le 7, 3) := by decide +kernel
theorem dX10_isPhrase_116 : decode cX10_isPhrase 116 = .ok (.iconst 1, 1) := by decide +kernel
theorem dX10_isPhrase_117 : decode cX10_isPhrase 117 = .ok (.goto 4, 3) := by decide +kernel
theorem dX10_isPhrase_120 : decode cX10_isPhrase 120 = .ok (.iconst 0, 1) := by decide +kernel
theorem dX10_isPhrase_121 : decode cX10_isPhrase 121 = .ok (.ireturn, 1) := by decide +kernel
theorem dX10_meets_0 : decode cX10_meets 0 = .ok (.aload_n 0, 1) := by decide +kernel
theorem dX10_meets_1 : decode cX10_meets 1 = .ok (.iload_n 1, 1) := by decide +kernel
theorem dX10_meets_2 : decode cX10_meets 2 = .ok (.invokevirtual 119, 3) := by decide +kernel
theorem dX10_meets_5 : decode cX10_meets 5 = .ok (.iconst 0, 1) := by decide +kernel
theorem dX10_meets_6 : decode cX10_meets 6 = .ok (.istore_n 3, 1) := by decide +kernel
theorem dX10_meets_7 : decode cX10_meets 7 = .ok (.aload_n 0, 1) := by decide +kernel
theorem dX10_meets_8 : decode cX10_meets 8 = .ok (.iload_n 1, 1) := by decide +kernel
theorem dX10_meets_9 : decode cX10_meets 9 = .ok (.iconst 0, 1) := by decide +kernel
theorem dX10_meets_10 : decode cX10_meets 10 = .ok (.invokevirtual 74, 3) := by decide +kernel
theorem dX10_meets_13 : decode cX10_meets 13 = .ok (.istore 4, 2) := by decide +kernel
theorem dX10_meets_15 : decode cX10_meets 15 = .ok (.aload_n 0, 1) := by decide +kernel
theorem dX10_meets_16 : decode cX10_meets 16 = .ok (.iload_n 1, 1) := by decide +kernel
theorem dX10_meets_17 : decode cX10_meets 17 = .ok (.iconst 1, 1) := by decide +kernel
theorem dX10_meets_18 : decode cX10_meets 18 = .ok (.invokevirtual 74, 3) := by decide +kernel
theorem dX10_meets_21 : decode cX10_meets 21 = .ok (.istore 5, 2) := by decide +kernel
theorem dX10_meets_23 : decode cX10_meets 23 = .ok (.iconst 0, 1) := by decide +kernel
theorem dX10_meets_24 : decode cX10_meets 24 = .ok (.istore 6, 2) := by decide +kernel
theorem dX10_meets_26 : decode cX10_meets 26 = .ok (.iload 6, 2) := by decide +kernel
theorem dX10_meets_28 : decode cX10_meets 28 = .ok (.iload 4, 2) := by decide +kernel
theorem dX10_meets_30 : decode cX10_meets 30 = .ok (.if_icmp .ge 167, 3) := by decide +kernel
theorem dX10_meets_33 : decode cX10_meets 33 = .ok (.iload 6, 2) := by decide +kernel
theorem dX10_meets_35 : decode cX10_meets 35 = .ok (.istore 7, 2) := by decide +kernel
theorem dX10_meets_37 : decode cX10_meets 37 = .ok (.iload 7, 2) := by decide +kernel
theorem dX10_meets_39 : decode cX10_meets 39 = .ok (.iload 4, 2) := by decide +kernel
theorem dX10_meets_41 : decode cX10_meets 41 = .ok (.if_icmp .ge 150, 3) := by decide +kernel
theorem dX10_meets_44 : decode cX10_meets 44 = .ok (.iload 7, 2) := by decide +kernel
theorem dX10_meets_46 : decode cX10_meets 46 = .ok (.iload 6, 2) := by decide +kernel
theorem dX10_meets_48 : decode cX10_meets 48 = .ok (.iconst 4, 1) := by decide +kernel
theorem dX10_meets_49 : decode cX10_meets 49 = .ok (.iadd, 1) := by decide +kernel
theorem dX10_meets_50 : decode cX10_meets 50 = .ok (.if_icmp .ge 141, 3) := by decide +kernel
theorem dX10_meets_53 : decode cX10_meets 53 = .ok (.iconst 0, 1) := by decide +kernel
theorem dX10_meets_54 : decode cX10_meets 54 = .ok (.istore 8, 2) := by decide +kernel
theorem dX10_meets_56 : decode cX10_meets 56 = .ok (.iload 8, 2) := by decide +kernel
theorem dX10_meets_58 : decode cX10_meets 58 = .ok (.iload 5, 2) := by decide +kernel
theorem dX10_meets_60 : decode cX10_meets 60 = .ok (.if_icmp .ge 125, 3) := by decide +kernel
theorem dX10_meets_63 : decode cX10_meets 63 = .ok (.iload 8, 2) := by decide +kernel
theorem dX10_meets_65 : decode cX10_meets 65 = .ok (.istore 9, 2) := by decide +kernel
theorem dX10_meets_67 : decode cX10_meets 67 = .ok (.iload 9, 2) := by decide +kernel
theorem dX10_meets_69 : decode cX10_meets 69 = .ok (.iload 5, 2) := by decide +kernel
theorem dX10_meets_71 : decode cX10_meets 71 = .ok (.if_icmp .ge 108, 3) := by decide +kernel
theorem dX10_meets_74 : decode cX10_meets 74 = .ok (.iload 9, 2) := by decide +kernel
theorem dX10_meets_76 : decode cX10_meets 76 = .ok (.iload 8, 2) := by decide +kernel
theorem dX10_meets_78 : decode cX10_meets 78 = .ok (.iconst 4, 1) := by decide +kernel
theorem dX10_meets_79 : decode cX10_meets 79 = .ok (.iadd, 1) := by decide +kernel
theorem dX10_meets_80 : decode cX10_meets 80 = .ok (.if_icmp .ge 99, 3) := by decide +kernel
theorem dX10_meets_83 : decode cX10_meets 83 = .ok (.aload_n 0, 1) := by decide +kernel
theorem dX10_meets_84 : decode cX10_meets 84 = .ok (.iload 6, 2) := by decide +kernel
theorem dX10_meets_86 : decode cX10_meets 86 = .ok (.iload 7, 2) := by decide +kernel
theorem dX10_meets_88 : decode cX10_meets 88 = .ok (.iload 8, 2) := by decide +kernel
theorem dX10_meets_90 : decode cX10_meets 90 = .ok (.iload 9, 2) := by decide +kernel
theorem dX10_meets_92 : decode cX10_meets 92 = .ok (.invokevirtual 122, 3) := by decide +kernel
theorem dX10_meets_95 : decode cX10_meets 95 = .ok (.ifCond .eq 78, 3) := by decide +kernel
theorem dX10_meets_98 : decode cX10_meets 98 = .ok (.aload_n 0, 1) := by decide +kernel
theorem dX10_meets_99 : decode cX10_meets 99 = .ok (.iload_n 3, 1) := by decide +kernel
theorem dX10_meets_100 : decode cX10_meets 100 = .ok (.iload_n 2, 1) := by decide +kernel
theorem dX10_meets_101 : decode cX10_meets 101 = .ok (.if_icmp .ne 8, 3) := by decide +kernel
theorem dX10_meets_104 : decode cX10_meets 104 = .ok (.iload 6, 2) := by decide +kernel
theorem dX10_meets_106 : decode cX10_meets 106 = .ok (.goto 7, 3) := by decide +kernel
theorem dX10_meets_109 : decode cX10_meets 109 = .ok (.aload_n 0, 1) := by decide +kernel
theorem dX10_meets_110 : decode cX10_meets 110 = .ok (.getfield 126, 3) := by decide +kernel
theorem dX10_meets_113 : decode cX10_meets 113 = .ok (.putfield 126, 3) := by decide +kernel
theorem dX10_meets_116 : decode cX10_meets 116 = .ok (.aload_n 0, 1) := by decide +kernel
theorem dX10_meets_117 : decode cX10_meets 117 = .ok (.iload_n 3, 1) := by decide +kernel
theorem dX10_meets_118 : decode cX10_meets 118 = .ok (.iload_n 2, 1) := by decide +kernel
theorem dX10_meets_119 : decode cX10_meets 119 = .ok (.if_icmp .ne 8, 3) := by decide +kernel
theorem dX10_meets_122 : decode cX10_meets 122 = .ok (.iload 7, 2) := by decide +kernel
theorem dX10_meets_124 : decode cX10_meets 124 = .ok (.goto 7, 3) := by decide +kernel
theorem dX10_meets_127 : decode cX10_meets 127 = .ok (.aload_n 0, 1) := by decide +kernel
theorem dX10_meets_128 : decode cX10_meets 128 = .ok (.getfield 129, 3) := by decide +kernel
theorem dX10_meets_131 : decode cX10_meets 131 = .ok (.putfield 129, 3) := by decide +kernel
theorem dX10_meets_134 : decode cX10_meets 134 = .ok (.aload_n 0, 1) := by decide +kernel
theorem dX10_meets_135 : decode cX10_meets 135 = .ok (.iload_n 3, 1) := by decide +kernel
theorem dX10_meets_136 : decode cX10_meets 136 = .ok (.iload_n 2, 1) := by decide +kernel
theorem dX10_meets_137 : decode cX10_meets 137 = .ok (.if_icmp .ne 8, 3) := by decide +kernel
theorem dX10_meets_140 : decode cX10_meets 140 = .ok (.iload 8, 2) := by decide +kernel
theorem dX10_meets_142 : decode cX10_meets 142 = .ok (.goto 7, 3) := by decide +kernel
theorem dX10_meets_145 : decode cX10_meets 145 = .ok (.aload_n 0, 1) := by decide +kernel
theorem dX10_meets_146 : decode cX10_meets 146 = .ok (.getfield 132, 3) := by decide +kernel
theorem dX10_meets_149 : decode cX10_meets 149 = .ok (.putfield 132, 3) := by decide +kernel
theorem dX10_meets_152 : decode cX10_meets 152 = .ok (.aload_n 0, 1) := by decide +kernel
theorem dX10_meets_153 : decode cX10_meets 153 = .ok (.iload_n 3, 1) := by decide +kernel
theorem dX10_meets_154 : decode cX10_meets 154 = .ok (.iload_n 2, 1) := by decide +kernel
theorem dX10_meets_155 : decode cX10_meets 155 = .ok (.if_icmp .ne 8, 3) := by decide +kernel
theorem dX10_meets_158 : decode cX10_meets 158 = .ok (.iload 9, 2) := by decide +kernel
theorem dX10_meets_160 : decode cX10_meets 160 = .ok (.goto 7, 3) := by decide +kernel
theorem dX10_meets_163 : decode cX10_meets 163 = .ok (.aload_n 0, 1) := by decide +kernel
theorem dX10_meets_164 : decode cX10_meets 164 = .ok (.getfield 135, 3) := by decide +kernel
theorem dX10_meets_167 : decode cX10_meets 167 = .ok (.putfield 135, 3) := by decide +kernel
theorem dX10_meets_170 : decode cX10_meets 170 = .ok (.iinc 3 1, 3) := by decide +kernel
theorem dX10_meets_173 : decode cX10_meets 173 = .ok (.iinc 9 1, 3) := by decide +kernel
theorem dX10_meets_176 : decode cX10_meets 176 = .ok (.goto (-109), 3) := by decide +kernel
theorem dX10_meets_179 : decode cX10_meets 179 = .ok (.iinc 8 1, 3) := by decide +kernel
theorem dX10_meets_182 : decode cX10_meets 182 = .ok (.goto (-126), 3) := by decide +kernel
theorem dX10_meets_185 : decode cX10_meets 185 = .ok (.iinc 7 1, 3) := by decide +kernel
theorem dX10_meets_188 : decode cX10_meets 188 = .ok (.goto (-151), 3) := by decide +kernel
theorem dX10_meets_191 : decode cX10_meets 191 = .ok (.iinc 6 1, 3) := by decide +kernel
theorem dX10_meets_194 : decode cX10_meets 194 = .ok (.goto (-168), 3) := by decide +kernel
theorem dX10_meets_197 : decode cX10_meets 197 = .ok (.iload_n 3, 1) := by decide +kernel
theorem dX10_meets_198 : decode cX10_meets 198 = .ok (.ireturn, 1) := by decide +kernel
theorem dX10_pairs_0 : decode cX10_pairs 0 = .ok (.aload_n 0, 1) := by decide +kernel
theorem dX10_pairs_1 : decode cX10_pairs 1 = .ok (.iconst 0, 1) := by decide +kernel
theorem dX10_pairs_2 : decode cX10_pairs 2 = .ok (.putfield 48, 3) := by decide +kernel
theorem dX10_pairs_5 : decode cX10_pairs 5 = .ok (.aload_n 0, 1) := by decide +kernel
theorem dX10_pairs_6 : decode cX10_pairs 6 = .ok (.invokevirtual 71, 3) := by decide +kernel
theorem dX10_pairs_9 : decode cX10_pairs 9 = .ok (.ireturn, 1) := by decide +kernel
theorem dX10_word_0 : decode cX10_word 0 = .ok (.aload_n 0, 1) := by decide +kernel
theorem dX10_word_1 : decode cX10_word 1 = .ok (.aload_n 0, 1) := by decide +kernel
theorem dX10_word_2 : decode cX10_word 2 = .ok (.iload_n 1, 1) := by decide +kernel
theorem dX10_word_3 : decode cX10_word 3 = .ok (.invokevirtual 67, 3) := by decide +kernel
theorem dX10_word_6 : decode cX10_word 6 = .ok (.ifCond .eq 20, 3) := by decide +kernel
theorem dX10_word_9 : decode cX10_word 9 = .ok (.iload_n 2, 1) := by decide +kernel
theorem dX10_word_10 : decode cX10_word 10 = .ok (.iconst 0, 1) := by decide +kernel
theorem dX10_word_11 : decode cX10_word 11 = .ok (.iconst 1, 1) := by decide +kernel
theorem dX10_word_12 : decode cX10_word 12 = .ok (.invokestatic 55, 3) := by decide +kernel
theorem dX10_word_15 : decode cX10_word 15 = .ok (.ifCond .eq 11, 3) := by decide +kernel
theorem dX10_word_18 : decode cX10_word 18 = .ok (.iload_n 3, 1) := by decide +kernel
theorem dX10_word_19 : decode cX10_word 19 = .ok (.ifCond .lt 7, 3) := by decide +kernel
theorem dX10_word_22 : decode cX10_word 22 = .ok (.iconst 1, 1) := by decide +kernel
theorem dX10_word_23 : decode cX10_word 23 = .ok (.goto 4, 3) := by decide +kernel
theorem dX10_word_26 : decode cX10_word 26 = .ok (.iconst 0, 1) := by decide +kernel
theorem dX10_word_27 : decode cX10_word 27 = .ok (.iconst 1, 1) := by decide +kernel
theorem dX10_word_28 : decode cX10_word 28 = .ok (.iconst 1, 1) := by decide +kernel
theorem dX10_word_29 : decode cX10_word 29 = .ok (.invokevirtual 59, 3) := by decide +kernel
theorem dX10_word_32 : decode cX10_word 32 = .ok (.ifCond .ne 5, 3) := by decide +kernel
theorem dX10_word_35 : decode cX10_word 35 = .ok (.iconst 0, 1) := by decide +kernel
theorem dX10_word_36 : decode cX10_word 36 = .ok (.ireturn, 1) := by decide +kernel
theorem dX10_word_37 : decode cX10_word 37 = .ok (.iload_n 3, 1) := by decide +kernel
theorem dX10_word_38 : decode cX10_word 38 = .ok (.aload_n 0, 1) := by decide +kernel
theorem dX10_word_39 : decode cX10_word 39 = .ok (.iload_n 1, 1) := by decide +kernel
theorem dX10_word_40 : decode cX10_word 40 = .ok (.iload_n 2, 1) := by decide +kernel
theorem dX10_word_41 : decode cX10_word 41 = .ok (.invokevirtual 74, 3) := by decide +kernel
theorem dX10_word_44 : decode cX10_word 44 = .ok (.if_icmp .ge 13, 3) := by decide +kernel
theorem dX10_word_47 : decode cX10_word 47 = .ok (.aload_n 0, 1) := by decide +kernel
theorem dX10_word_48 : decode cX10_word 48 = .ok (.iload_n 1, 1) := by decide +kernel
theorem dX10_word_49 : decode cX10_word 49 = .ok (.iload_n 2, 1) := by decide +kernel
theorem dX10_word_50 : decode cX10_word 50 = .ok (.iload_n 3, 1) := by decide +kernel
theorem dX10_word_51 : decode cX10_word 51 = .ok (.invokevirtual 77, 3) := by decide +kernel
theorem dX10_word_54 : decode cX10_word 54 = .ok (.goto 4, 3) := by decide +kernel
theorem dX10_word_57 : decode cX10_word 57 = .ok (.iconst (-1), 1) := by decide +kernel
theorem dX10_word_58 : decode cX10_word 58 = .ok (.ireturn, 1) := by decide +kernel
theorem dX10_share_0 : decode cX10_share 0 = .ok (.iload_n 1, 1) := by decide +kernel
theorem dX10_share_1 : decode cX10_share 1 = .ok (.iconst 0, 1) := by decide +kernel
theorem dX10_share_2 : decode cX10_share 2 = .ok (.iconst 1, 1) := by decide +kernel
theorem dX10_share_3 : decode cX10_share 3 = .ok (.invokestatic 55, 3) := by decide +kernel
theorem dX10_share_6 : decode cX10_share 6 = .ok (.ifCond .eq 27, 3) := by decide +kernel
theorem dX10_share_9 : decode cX10_share 9 = .ok (.iload_n 2, 1) := by decide +kernel
theorem dX10_share_10 : decode cX10_share 10 = .ok (.iconst 0, 1) := by decide +kernel
theorem dX10_share_11 : decode cX10_share 11 = .ok (.bipush 15, 2) := by decide +kernel
theorem dX10_share_13 : decode cX10_share 13 = .ok (.invokestatic 55, 3) := by decide +kernel
theorem dX10_share_16 : decode cX10_share 16 = .ok (.ifCond .eq 17, 3) := by decide +kernel
theorem dX10_share_19 : decode cX10_share 19 = .ok (.iload_n 3, 1) := by decide +kernel
theorem dX10_share_20 : decode cX10_share 20 = .ok (.iconst 0, 1) := by decide +kernel
theorem dX10_share_21 : decode cX10_share 21 = .ok (.bipush 14, 2) := by decide +kernel
theorem dX10_share_23 : decode cX10_share 23 = .ok (.invokestatic 55, 3) := by decide +kernel
theorem dX10_share_26 : decode cX10_share 26 = .ok (.ifCond .eq 7, 3) := by decide +kernel
theorem dX10_share_29 : decode cX10_share 29 = .ok (.iconst 1, 1) := by decide +kernel
theorem dX10_share_30 : decode cX10_share 30 = .ok (.goto 4, 3) := by decide +kernel
theorem dX10_share_33 : decode cX10_share 33 = .ok (.iconst 0, 1) := by decide +kernel
theorem dX10_share_34 : decode cX10_share 34 = .ok (.istore 4, 2) := by decide +kernel
theorem dX10_share_36 : decode cX10_share 36 = .ok (.aload_n 0, 1) := by decide +kernel
theorem dX10_share_37 : decode cX10_share 37 = .ok (.iload 4, 2) := by decide +kernel
theorem dX10_share_39 : decode cX10_share 39 = .ok (.iconst 1, 1) := by decide +kernel
theorem dX10_share_40 : decode cX10_share 40 = .ok (.iconst 1, 1) := by decide +kernel
theorem dX10_share_41 : decode cX10_share 41 = .ok (.invokevirtual 59, 3) := by decide +kernel
theorem dX10_share_44 : decode cX10_share 44 = .ok (.ifCond .eq 17, 3) := by decide +kernel
theorem dX10_share_47 : decode cX10_share 47 = .ok (.aload_n 0, 1) := by decide +kernel
theorem dX10_share_48 : decode cX10_share 48 = .ok (.getfield 29, 3) := by decide +kernel
theorem dX10_share_51 : decode cX10_share 51 = .ok (.iload_n 1, 1) := by decide +kernel
theorem dX10_share_52 : decode cX10_share 52 = .ok (.iload_n 2, 1) := by decide +kernel
theorem dX10_share_53 : decode cX10_share 53 = .ok (.iload_n 3, 1) := by decide +kernel
theorem dX10_share_54 : decode cX10_share 54 = .ok (.invokestatic 81, 3) := by decide +kernel
theorem dX10_share_57 : decode cX10_share 57 = .ok (.iaload, 1) := by decide +kernel
theorem dX10_share_58 : decode cX10_share 58 = .ok (.goto 4, 3) := by decide +kernel
theorem dX10_share_61 : decode cX10_share 61 = .ok (.iconst 0, 1) := by decide +kernel
theorem dX10_share_62 : decode cX10_share 62 = .ok (.ireturn, 1) := by decide +kernel
theorem dX10_isPlace_0 : decode cX10_isPlace 0 = .ok (.aload_n 0, 1) := by decide +kernel
theorem dX10_isPlace_1 : decode cX10_isPlace 1 = .ok (.iload_n 1, 1) := by decide +kernel
theorem dX10_isPlace_2 : decode cX10_isPlace 2 = .ok (.invokevirtual 67, 3) := by decide +kernel
theorem dX10_isPlace_5 : decode cX10_isPlace 5 = .ok (.ifCond .eq 23, 3) := by decide +kernel
theorem dX10_isPlace_8 : decode cX10_isPlace 8 = .ok (.iload_n 3, 1) := by decide +kernel
theorem dX10_isPlace_9 : decode cX10_isPlace 9 = .ok (.iconst 0, 1) := by decide +kernel
theorem dX10_isPlace_10 : decode cX10_isPlace 10 = .ok (.aload_n 0, 1) := by decide +kernel
theorem dX10_isPlace_11 : decode cX10_isPlace 11 = .ok (.iload_n 1, 1) := by decide +kernel
theorem dX10_isPlace_12 : decode cX10_isPlace 12 = .ok (.iload_n 2, 1) := by decide +kernel
theorem dX10_isPlace_13 : decode cX10_isPlace 13 = .ok (.invokevirtual 74, 3) := by decide +kernel
theorem dX10_isPlace_16 : decode cX10_isPlace 16 = .ok (.iconst 1, 1) := by decide +kernel
theorem dX10_isPlace_17 : decode cX10_isPlace 17 = .ok (.isub, 1) := by decide +kernel
theorem dX10_isPlace_18 : decode cX10_isPlace 18 = .ok (.invokestatic 55, 3) := by decide +kernel
theorem dX10_isPlace_21 : decode cX10_isPlace 21 = .ok (.ifCond .eq 7, 3) := by decide +kernel
theorem dX10_isPlace_24 : decode cX10_isPlace 24 = .ok (.iconst 1, 1) := by decide +kernel
theorem dX10_isPlace_25 : decode cX10_isPlace 25 = .ok (.goto 4, 3) := by decide +kernel
theorem dX10_isPlace_28 : decode cX10_isPlace 28 = .ok (.iconst 0, 1) := by decide +kernel
theorem dX10_isPlace_29 : decode cX10_isPlace 29 = .ok (.ireturn, 1) := by decide +kernel
theorem dX10_link_0 : decode cX10_link 0 = .ok (.iload_n 1, 1) := by decide +kernel
theorem dX10_link_1 : decode cX10_link 1 = .ok (.iconst 0, 1) := by decide +kernel
theorem dX10_link_2 : decode cX10_link 2 = .ok (.iconst 1, 1) := by decide +kernel
theorem dX10_link_3 : decode cX10_link 3 = .ok (.invokestatic 55, 3) := by decide +kernel
theorem dX10_link_6 : decode cX10_link 6 = .ok (.ifCond .eq 25, 3) := by decide +kernel
theorem dX10_link_9 : decode cX10_link 9 = .ok (.aload_n 0, 1) := by decide +kernel
theorem dX10_link_10 : decode cX10_link 10 = .ok (.iload_n 2, 1) := by decide +kernel
theorem dX10_link_11 : decode cX10_link 11 = .ok (.iload_n 1, 1) := by decide +kernel
theorem dX10_link_12 : decode cX10_link 12 = .ok (.ifCond .ne 7, 3) := by decide +kernel
theorem dX10_link_15 : decode cX10_link 15 = .ok (.iconst 1, 1) := by decide +kernel
theorem dX10_link_16 : decode cX10_link 16 = .ok (.goto 4, 3) := by decide +kernel
theorem dX10_link_19 : decode cX10_link 19 = .ok (.iconst 0, 1) := by decide +kernel
theorem dX10_link_20 : decode cX10_link 20 = .ok (.iload_n 3, 1) := by decide +kernel
theorem dX10_link_21 : decode cX10_link 21 = .ok (.invokevirtual 138, 3) := by decide +kernel
theorem dX10_link_24 : decode cX10_link 24 = .ok (.ifCond .eq 7, 3) := by decide +kernel
theorem dX10_link_27 : decode cX10_link 27 = .ok (.iconst 1, 1) := by decide +kernel
theorem dX10_link_28 : decode cX10_link 28 = .ok (.goto 4, 3) := by decide +kernel
theorem dX10_link_31 : decode cX10_link 31 = .ok (.iconst 0, 1) := by decide +kernel
theorem dX10_link_32 : decode cX10_link 32 = .ok (.istore 4, 2) := by decide +kernel
theorem dX10_link_34 : decode cX10_link 34 = .ok (.aload_n 0, 1) := by decide +kernel
theorem dX10_link_35 : decode cX10_link 35 = .ok (.iload 4, 2) := by decide +kernel
theorem dX10_link_37 : decode cX10_link 37 = .ok (.iconst 1, 1) := by decide +kernel
theorem dX10_link_38 : decode cX10_link 38 = .ok (.iconst 1, 1) := by decide +kernel
theorem dX10_link_39 : decode cX10_link 39 = .ok (.invokevirtual 59, 3) := by decide +kernel
theorem dX10_link_42 : decode cX10_link 42 = .ok (.ifCond .eq 13, 3) := by decide +kernel
theorem dX10_link_45 : decode cX10_link 45 = .ok (.aload_n 0, 1) := by decide +kernel
theorem dX10_link_46 : decode cX10_link 46 = .ok (.iload_n 1, 1) := by decide +kernel
theorem dX10_link_47 : decode cX10_link 47 = .ok (.iload_n 2, 1) := by decide +kernel
theorem dX10_link_48 : decode cX10_link 48 = .ok (.iload_n 3, 1) := by decide +kernel
theorem dX10_link_49 : decode cX10_link 49 = .ok (.invokevirtual 110, 3) := by decide +kernel
theorem dX10_link_52 : decode cX10_link 52 = .ok (.goto 4, 3) := by decide +kernel
theorem dX10_link_55 : decode cX10_link 55 = .ok (.iconst 0, 1) := by decide +kernel
theorem dX10_link_56 : decode cX10_link 56 = .ok (.ireturn, 1) := by decide +kernel
theorem dX10_isJoined_0 : decode cX10_isJoined 0 = .ok (.aload_n 0, 1) := by decide +kernel
theorem dX10_isJoined_1 : decode cX10_isJoined 1 = .ok (.aload_n 0, 1) := by decide +kernel
theorem dX10_isJoined_2 : decode cX10_isJoined 2 = .ok (.iload_n 1, 1) := by decide +kernel
theorem dX10_isJoined_3 : decode cX10_isJoined 3 = .ok (.iconst 0, 1) := by decide +kernel
theorem dX10_isJoined_4 : decode cX10_isJoined 4 = .ok (.iload_n 2, 1) := by decide +kernel
theorem dX10_isJoined_5 : decode cX10_isJoined 5 = .ok (.invokevirtual 138, 3) := by decide +kernel
theorem dX10_isJoined_8 : decode cX10_isJoined 8 = .ok (.ifCond .eq 17, 3) := by decide +kernel
theorem dX10_isJoined_11 : decode cX10_isJoined 11 = .ok (.aload_n 0, 1) := by decide +kernel
theorem dX10_isJoined_12 : decode cX10_isJoined 12 = .ok (.iload_n 1, 1) := by decide +kernel
theorem dX10_isJoined_13 : decode cX10_isJoined 13 = .ok (.iconst 1, 1) := by decide +kernel
theorem dX10_isJoined_14 : decode cX10_isJoined 14 = .ok (.iload_n 3, 1) := by decide +kernel
theorem dX10_isJoined_15 : decode cX10_isJoined 15 = .ok (.invokevirtual 138, 3) := by decide +kernel
theorem dX10_isJoined_18 : decode cX10_isJoined 18 = .ok (.ifCond .eq 7, 3) := by decide +kernel
theorem dX10_isJoined_21 : decode cX10_isJoined 21 = .ok (.iconst 1, 1) := by decide +kernel
theorem dX10_isJoined_22 : decode cX10_isJoined 22 = .ok (.goto 4, 3) := by decide +kernel
theorem dX10_isJoined_25 : decode cX10_isJoined 25 = .ok (.iconst 0, 1) := by decide +kernel
theorem dX10_isJoined_26 : decode cX10_isJoined 26 = .ok (.iconst 1, 1) := by decide +kernel
theorem dX10_isJoined_27 : decode cX10_isJoined 27 = .ok (.iconst 1, 1) := by decide +kernel
theorem dX10_isJoined_28 : decode cX10_isJoined 28 = .ok (.invokevirtual 59, 3) := by decide +kernel
theorem dX10_isJoined_31 : decode cX10_isJoined 31 = .ok (.ifCond .ne 5, 3) := by decide +kernel
theorem dX10_isJoined_34 : decode cX10_isJoined 34 = .ok (.iconst 0, 1) := by decide +kernel
theorem dX10_isJoined_35 : decode cX10_isJoined 35 = .ok (.ireturn, 1) := by decide +kernel
theorem dX10_isJoined_36 : decode cX10_isJoined 36 = .ok (.aload_n 0, 1) := by decide +kernel
theorem dX10_isJoined_37 : decode cX10_isJoined 37 = .ok (.iload_n 1, 1) := by decide +kernel
theorem dX10_isJoined_38 : decode cX10_isJoined 38 = .ok (.invokevirtual 119, 3) := by decide +kernel
theorem dX10_isJoined_41 : decode cX10_isJoined 41 = .ok (.aload_n 0, 1) := by decide +kernel
theorem dX10_isJoined_42 : decode cX10_isJoined 42 = .ok (.getfield 45, 3) := by decide +kernel
theorem dX10_isJoined_45 : decode cX10_isJoined 45 = .ok (.bipush 8, 2) := by decide +kernel
theorem dX10_isJoined_47 : decode cX10_isJoined 47 = .ok (.iload_n 2, 1) := by decide +kernel
theorem dX10_isJoined_48 : decode cX10_isJoined 48 = .ok (.imul, 1) := by decide +kernel
theorem dX10_isJoined_49 : decode cX10_isJoined 49 = .ok (.iload_n 3, 1) := by decide +kernel
theorem dX10_isJoined_50 : decode cX10_isJoined 50 = .ok (.iadd, 1) := by decide +kernel
theorem dX10_isJoined_51 : decode cX10_isJoined 51 = .ok (.baload, 1) := by decide +kernel
theorem dX10_isJoined_52 : decode cX10_isJoined 52 = .ok (.ireturn, 1) := by decide +kernel
theorem dX10_phrases_0 : decode cX10_phrases 0 = .ok (.aload_n 0, 1) := by decide +kernel
theorem dX10_phrases_1 : decode cX10_phrases 1 = .ok (.aload_n 0, 1) := by decide +kernel
theorem dX10_phrases_2 : decode cX10_phrases 2 = .ok (.iload_n 1, 1) := by decide +kernel
theorem dX10_phrases_3 : decode cX10_phrases 3 = .ok (.invokevirtual 67, 3) := by decide +kernel
theorem dX10_phrases_6 : decode cX10_phrases 6 = .ok (.iconst 1, 1) := by decide +kernel
theorem dX10_phrases_7 : decode cX10_phrases 7 = .ok (.iconst 1, 1) := by decide +kernel
theorem dX10_phrases_8 : decode cX10_phrases 8 = .ok (.invokevirtual 59, 3) := by decide +kernel
theorem dX10_phrases_11 : decode cX10_phrases 11 = .ok (.ifCond .eq 12, 3) := by decide +kernel
theorem dX10_phrases_14 : decode cX10_phrases 14 = .ok (.aload_n 0, 1) := by decide +kernel
theorem dX10_phrases_15 : decode cX10_phrases 15 = .ok (.iload_n 1, 1) := by decide +kernel
theorem dX10_phrases_16 : decode cX10_phrases 16 = .ok (.iconst (-1), 1) := by decide +kernel
theorem dX10_phrases_17 : decode cX10_phrases 17 = .ok (.invokevirtual 141, 3) := by decide +kernel
theorem dX10_phrases_20 : decode cX10_phrases 20 = .ok (.goto 4, 3) := by decide +kernel
theorem dX10_phrases_23 : decode cX10_phrases 23 = .ok (.iconst 0, 1) := by decide +kernel
theorem dX10_phrases_24 : decode cX10_phrases 24 = .ok (.ireturn, 1) := by decide +kernel
theorem dX10_phrase_0 : decode cX10_phrase 0 = .ok (.aload_n 0, 1) := by decide +kernel
theorem dX10_phrase_1 : decode cX10_phrase 1 = .ok (.iload_n 1, 1) := by decide +kernel
theorem dX10_phrase_2 : decode cX10_phrase 2 = .ok (.invokevirtual 67, 3) := by decide +kernel
theorem dX10_phrase_5 : decode cX10_phrase 5 = .ok (.ifCond .eq 21, 3) := by decide +kernel
theorem dX10_phrase_8 : decode cX10_phrase 8 = .ok (.iload_n 2, 1) := by decide +kernel
theorem dX10_phrase_9 : decode cX10_phrase 9 = .ok (.ifCond .lt 17, 3) := by decide +kernel
theorem dX10_phrase_12 : decode cX10_phrase 12 = .ok (.aload_n 0, 1) := by decide +kernel
theorem dX10_phrase_13 : decode cX10_phrase 13 = .ok (.iload_n 1, 1) := by decide +kernel
theorem dX10_phrase_14 : decode cX10_phrase 14 = .ok (.iload_n 2, 1) := by decide +kernel
theorem dX10_phrase_15 : decode cX10_phrase 15 = .ok (.invokevirtual 141, 3) := by decide +kernel
theorem dX10_phrase_18 : decode cX10_phrase 18 = .ok (.iload_n 2, 1) := by decide +kernel
theorem dX10_phrase_19 : decode cX10_phrase 19 = .ok (.if_icmp .le 7, 3) := by decide +kernel
theorem dX10_phrase_22 : decode cX10_phrase 22 = .ok (.iconst 1, 1) := by decide +kernel
theorem dX10_phrase_23 : decode cX10_phrase 23 = .ok (.goto 4, 3) := by decide +kernel
theorem dX10_phrase_26 : decode cX10_phrase 26 = .ok (.iconst 0, 1) := by decide +kernel
theorem dX10_phrase_27 : decode cX10_phrase 27 = .ok (.istore 4, 2) := by decide +kernel
theorem dX10_phrase_29 : decode cX10_phrase 29 = .ok (.aload_n 0, 1) := by decide +kernel
theorem dX10_phrase_30 : decode cX10_phrase 30 = .ok (.iload 4, 2) := by decide +kernel
theorem dX10_phrase_32 : decode cX10_phrase 32 = .ok (.iload_n 3, 1) := by decide +kernel
theorem dX10_phrase_33 : decode cX10_phrase 33 = .ok (.iconst 0, 1) := by decide +kernel
theorem dX10_phrase_34 : decode cX10_phrase 34 = .ok (.iconst 3, 1) := by decide +kernel
theorem dX10_phrase_35 : decode cX10_phrase 35 = .ok (.invokestatic 55, 3) := by decide +kernel
theorem dX10_phrase_38 : decode cX10_phrase 38 = .ok (.iconst 1, 1) := by decide +kernel
theorem dX10_phrase_39 : decode cX10_phrase 39 = .ok (.invokevirtual 59, 3) := by decide +kernel
theorem dX10_phrase_42 : decode cX10_phrase 42 = .ok (.ifCond .ne 5, 3) := by decide +kernel
theorem dX10_phrase_45 : decode cX10_phrase 45 = .ok (.iconst 0, 1) := by decide +kernel
theorem dX10_phrase_46 : decode cX10_phrase 46 = .ok (.ireturn, 1) := by decide +kernel
theorem dX10_phrase_47 : decode cX10_phrase 47 = .ok (.iload_n 3, 1) := by decide +kernel
theorem dX10_phrase_48 : decode cX10_phrase 48 = .ok (.ifCond .ne 10, 3) := by decide +kernel
theorem dX10_phrase_51 : decode cX10_phrase 51 = .ok (.aload_n 0, 1) := by decide +kernel
theorem dX10_phrase_52 : decode cX10_phrase 52 = .ok (.getfield 126, 3) := by decide +kernel
theorem dX10_phrase_55 : decode cX10_phrase 55 = .ok (.goto 31, 3) := by decide +kernel
theorem dX10_phrase_58 : decode cX10_phrase 58 = .ok (.iload_n 3, 1) := by decide +kernel
theorem dX10_phrase_59 : decode cX10_phrase 59 = .ok (.iconst 1, 1) := by decide +kernel
theorem dX10_phrase_60 : decode cX10_phrase 60 = .ok (.if_icmp .ne 10, 3) := by decide +kernel
theorem dX10_phrase_63 : decode cX10_phrase 63 = .ok (.aload_n 0, 1) := by decide +kernel
theorem dX10_phrase_64 : decode cX10_phrase 64 = .ok (.getfield 129, 3) := by decide +kernel
theorem dX10_phrase_67 : decode cX10_phrase 67 = .ok (.goto 19, 3) := by decide +kernel
theorem dX10_phrase_70 : decode cX10_phrase 70 = .ok (.iload_n 3, 1) := by decide +kernel
theorem dX10_phrase_71 : decode cX10_phrase 71 = .ok (.iconst 2, 1) := by decide +kernel
theorem dX10_phrase_72 : decode cX10_phrase 72 = .ok (.if_icmp .ne 10, 3) := by decide +kernel
theorem dX10_phrase_75 : decode cX10_phrase 75 = .ok (.aload_n 0, 1) := by decide +kernel
theorem dX10_phrase_76 : decode cX10_phrase 76 = .ok (.getfield 132, 3) := by decide +kernel
theorem dX10_phrase_79 : decode cX10_phrase 79 = .ok (.goto 7, 3) := by decide +kernel
theorem dX10_phrase_82 : decode cX10_phrase 82 = .ok (.aload_n 0, 1) := by decide +kernel
theorem dX10_phrase_83 : decode cX10_phrase 83 = .ok (.getfield 135, 3) := by decide +kernel
theorem dX10_phrase_86 : decode cX10_phrase 86 = .ok (.ireturn, 1) := by decide +kernel
theorem dX10_fertilityOf_0 : decode cX10_fertilityOf 0 = .ok (.iconst 0, 1) := by decide +kernel
theorem dX10_fertilityOf_1 : decode cX10_fertilityOf 1 = .ok (.istore_n 2, 1) := by decide +kernel
theorem dX10_fertilityOf_2 : decode cX10_fertilityOf 2 = .ok (.iconst 0, 1) := by decide +kernel
theorem dX10_fertilityOf_3 : decode cX10_fertilityOf 3 = .ok (.istore_n 3, 1) := by decide +kernel
theorem dX10_fertilityOf_4 : decode cX10_fertilityOf 4 = .ok (.iload_n 3, 1) := by decide +kernel
theorem dX10_fertilityOf_5 : decode cX10_fertilityOf 5 = .ok (.bipush 8, 2) := by decide +kernel
theorem dX10_fertilityOf_7 : decode cX10_fertilityOf 7 = .ok (.if_icmp .ge 31, 3) := by decide +kernel
theorem dX10_fertilityOf_10 : decode cX10_fertilityOf 10 = .ok (.iload_n 2, 1) := by decide +kernel
theorem dX10_fertilityOf_11 : decode cX10_fertilityOf 11 = .ok (.aload_n 0, 1) := by decide +kernel
theorem dX10_fertilityOf_12 : decode cX10_fertilityOf 12 = .ok (.getfield 45, 3) := by decide +kernel
theorem dX10_fertilityOf_15 : decode cX10_fertilityOf 15 = .ok (.bipush 8, 2) := by decide +kernel
theorem dX10_fertilityOf_17 : decode cX10_fertilityOf 17 = .ok (.iload_n 1, 1) := by decide +kernel
theorem dX10_fertilityOf_18 : decode cX10_fertilityOf 18 = .ok (.imul, 1) := by decide +kernel
theorem dX10_fertilityOf_19 : decode cX10_fertilityOf 19 = .ok (.iload_n 3, 1) := by decide +kernel
theorem dX10_fertilityOf_20 : decode cX10_fertilityOf 20 = .ok (.iadd, 1) := by decide +kernel
theorem dX10_fertilityOf_21 : decode cX10_fertilityOf 21 = .ok (.baload, 1) := by decide +kernel
theorem dX10_fertilityOf_22 : decode cX10_fertilityOf 22 = .ok (.ifCond .eq 7, 3) := by decide +kernel
theorem dX10_fertilityOf_25 : decode cX10_fertilityOf 25 = .ok (.iconst 1, 1) := by decide +kernel
theorem dX10_fertilityOf_26 : decode cX10_fertilityOf 26 = .ok (.goto 4, 3) := by decide +kernel
theorem dX10_fertilityOf_29 : decode cX10_fertilityOf 29 = .ok (.iconst 0, 1) := by decide +kernel
theorem dX10_fertilityOf_30 : decode cX10_fertilityOf 30 = .ok (.iadd, 1) := by decide +kernel
theorem dX10_fertilityOf_31 : decode cX10_fertilityOf 31 = .ok (.istore_n 2, 1) := by decide +kernel
theorem dX10_fertilityOf_32 : decode cX10_fertilityOf 32 = .ok (.iinc 3 1, 3) := by decide +kernel
theorem dX10_fertilityOf_35 : decode cX10_fertilityOf 35 = .ok (.goto (-31), 3) := by decide +kernel
theorem dX10_fertilityOf_38 : decode cX10_fertilityOf 38 = .ok (.iload_n 2, 1) := by decide +kernel
theorem dX10_fertilityOf_39 : decode cX10_fertilityOf 39 = .ok (.ireturn, 1) := by decide +kernel
theorem dX10_fertility_0 : decode cX10_fertility 0 = .ok (.aload_n 0, 1) := by decide +kernel
theorem dX10_fertility_1 : decode cX10_fertility 1 = .ok (.iload_n 1, 1) := by decide +kernel
theorem dX10_fertility_2 : decode cX10_fertility 2 = .ok (.iconst 0, 1) := by decide +kernel
theorem dX10_fertility_3 : decode cX10_fertility 3 = .ok (.bipush 14, 2) := by decide +kernel
theorem dX10_fertility_5 : decode cX10_fertility 5 = .ok (.invokestatic 55, 3) := by decide +kernel
theorem dX10_fertility_8 : decode cX10_fertility 8 = .ok (.iload_n 2, 1) := by decide +kernel
theorem dX10_fertility_9 : decode cX10_fertility 9 = .ok (.iconst 0, 1) := by decide +kernel
theorem dX10_fertility_10 : decode cX10_fertility 10 = .ok (.bipush 8, 2) := by decide +kernel
theorem dX10_fertility_12 : decode cX10_fertility 12 = .ok (.invokestatic 55, 3) := by decide +kernel
theorem dX10_fertility_15 : decode cX10_fertility 15 = .ok (.iconst 1, 1) := by decide +kernel
theorem dX10_fertility_16 : decode cX10_fertility 16 = .ok (.invokevirtual 59, 3) := by decide +kernel
theorem dX10_fertility_19 : decode cX10_fertility 19 = .ok (.ifCond .ne 5, 3) := by decide +kernel
theorem dX10_fertility_22 : decode cX10_fertility 22 = .ok (.iconst 0, 1) := by decide +kernel
theorem dX10_fertility_23 : decode cX10_fertility 23 = .ok (.ireturn, 1) := by decide +kernel
theorem dX10_fertility_24 : decode cX10_fertility 24 = .ok (.iconst 0, 1) := by decide +kernel
theorem dX10_fertility_25 : decode cX10_fertility 25 = .ok (.istore_n 3, 1) := by decide +kernel
theorem dX10_fertility_26 : decode cX10_fertility 26 = .ok (.iconst 0, 1) := by decide +kernel
theorem dX10_fertility_27 : decode cX10_fertility 27 = .ok (.istore 4, 2) := by decide +kernel
theorem dX10_fertility_29 : decode cX10_fertility 29 = .ok (.iload 4, 2) := by decide +kernel
theorem dX10_fertility_31 : decode cX10_fertility 31 = .ok (.aload_n 0, 1) := by decide +kernel
theorem dX10_fertility_32 : decode cX10_fertility 32 = .ok (.getfield 52, 3) := by decide +kernel
theorem dX10_fertility_35 : decode cX10_fertility 35 = .ok (.if_icmp .ge 77, 3) := by decide +kernel
theorem dX10_fertility_38 : decode cX10_fertility 38 = .ok (.aload_n 0, 1) := by decide +kernel
theorem dX10_fertility_39 : decode cX10_fertility 39 = .ok (.getfield 22, 3) := by decide +kernel
theorem dX10_fertility_42 : decode cX10_fertility 42 = .ok (.iload 4, 2) := by decide +kernel
theorem dX10_fertility_44 : decode cX10_fertility 44 = .ok (.baload, 1) := by decide +kernel
theorem dX10_fertility_45 : decode cX10_fertility 45 = .ok (.ifCond .ne 61, 3) := by decide +kernel
theorem dX10_fertility_48 : decode cX10_fertility 48 = .ok (.aload_n 0, 1) := by decide +kernel
theorem dX10_fertility_49 : decode cX10_fertility 49 = .ok (.iload 4, 2) := by decide +kernel
theorem dX10_fertility_51 : decode cX10_fertility 51 = .ok (.invokevirtual 119, 3) := by decide +kernel
theorem dX10_fertility_54 : decode cX10_fertility 54 = .ok (.iconst 0, 1) := by decide +kernel
theorem dX10_fertility_55 : decode cX10_fertility 55 = .ok (.istore 5, 2) := by decide +kernel
theorem dX10_fertility_57 : decode cX10_fertility 57 = .ok (.iload 5, 2) := by decide +kernel
theorem dX10_fertility_59 : decode cX10_fertility 59 = .ok (.aload_n 0, 1) := by decide +kernel
theorem dX10_fertility_60 : decode cX10_fertility 60 = .ok (.iload 4, 2) := by decide +kernel
theorem dX10_fertility_62 : decode cX10_fertility 62 = .ok (.iconst 0, 1) := by decide +kernel
theorem dX10_fertility_63 : decode cX10_fertility 63 = .ok (.invokevirtual 74, 3) := by decide +kernel
theorem dX10_fertility_66 : decode cX10_fertility 66 = .ok (.if_icmp .ge 40, 3) := by decide +kernel
theorem dX10_fertility_69 : decode cX10_fertility 69 = .ok (.iload_n 3, 1) := by decide +kernel
theorem dX10_fertility_70 : decode cX10_fertility 70 = .ok (.aload_n 0, 1) := by decide +kernel
theorem dX10_fertility_71 : decode cX10_fertility 71 = .ok (.iload 4, 2) := by decide +kernel
theorem dX10_fertility_73 : decode cX10_fertility 73 = .ok (.iconst 0, 1) := by decide +kernel
theorem dX10_fertility_74 : decode cX10_fertility 74 = .ok (.iload 5, 2) := by decide +kernel
theorem dX10_fertility_76 : decode cX10_fertility 76 = .ok (.invokevirtual 77, 3) := by decide +kernel
theorem dX10_fertility_79 : decode cX10_fertility 79 = .ok (.iload_n 1, 1) := by decide +kernel
theorem dX10_fertility_80 : decode cX10_fertility 80 = .ok (.if_icmp .ne 17, 3) := by decide +kernel
theorem dX10_fertility_83 : decode cX10_fertility 83 = .ok (.aload_n 0, 1) := by decide +kernel
theorem dX10_fertility_84 : decode cX10_fertility 84 = .ok (.iload 5, 2) := by decide +kernel
theorem dX10_fertility_86 : decode cX10_fertility 86 = .ok (.invokevirtual 144, 3) := by decide +kernel
theorem dX10_fertility_89 : decode cX10_fertility 89 = .ok (.iload_n 2, 1) := by decide +kernel
theorem dX10_fertility_90 : decode cX10_fertility 90 = .ok (.if_icmp .ne 7, 3) := by decide +kernel
theorem dX10_fertility_93 : decode cX10_fertility 93 = .ok (.iconst 1, 1) := by decide +kernel
theorem dX10_fertility_94 : decode cX10_fertility 94 = .ok (.goto 4, 3) := by decide +kernel
theorem dX10_fertility_97 : decode cX10_fertility 97 = .ok (.iconst 0, 1) := by decide +kernel
theorem dX10_fertility_98 : decode cX10_fertility 98 = .ok (.iadd, 1) := by decide +kernel
theorem dX10_fertility_99 : decode cX10_fertility 99 = .ok (.istore_n 3, 1) := by decide +kernel
theorem dX10_fertility_100 : decode cX10_fertility 100 = .ok (.iinc 5 1, 3) := by decide +kernel
theorem dX10_fertility_103 : decode cX10_fertility 103 = .ok (.goto (-46), 3) := by decide +kernel
theorem dX10_fertility_106 : decode cX10_fertility 106 = .ok (.iinc 4 1, 3) := by decide +kernel
theorem dX10_fertility_109 : decode cX10_fertility 109 = .ok (.goto (-80), 3) := by decide +kernel
theorem dX10_fertility_112 : decode cX10_fertility 112 = .ok (.iload_n 3, 1) := by decide +kernel
theorem dX10_fertility_113 : decode cX10_fertility 113 = .ok (.ireturn, 1) := by decide +kernel
theorem dX10_total_0 : decode cX10_total 0 = .ok (.aload_n 0, 1) := by decide +kernel
theorem dX10_total_1 : decode cX10_total 1 = .ok (.aload_n 0, 1) := by decide +kernel
theorem dX10_total_2 : decode cX10_total 2 = .ok (.iload_n 1, 1) := by decide +kernel
theorem dX10_total_3 : decode cX10_total 3 = .ok (.invokevirtual 67, 3) := by decide +kernel
theorem dX10_total_6 : decode cX10_total 6 = .ok (.aload_n 0, 1) := by decide +kernel
theorem dX10_total_7 : decode cX10_total 7 = .ok (.iload_n 1, 1) := by decide +kernel
theorem dX10_total_8 : decode cX10_total 8 = .ok (.invokevirtual 67, 3) := by decide +kernel
theorem dX10_total_11 : decode cX10_total 11 = .ok (.ifCond .eq 17, 3) := by decide +kernel
theorem dX10_total_14 : decode cX10_total 14 = .ok (.aload_n 0, 1) := by decide +kernel
theorem dX10_total_15 : decode cX10_total 15 = .ok (.iload_n 1, 1) := by decide +kernel
theorem dX10_total_16 : decode cX10_total 16 = .ok (.iconst 1, 1) := by decide +kernel
theorem dX10_total_17 : decode cX10_total 17 = .ok (.invokevirtual 74, 3) := by decide +kernel
theorem dX10_total_20 : decode cX10_total 20 = .ok (.iconst 4, 1) := by decide +kernel
theorem dX10_total_21 : decode cX10_total 21 = .ok (.if_icmp .gt 7, 3) := by decide +kernel
theorem dX10_total_24 : decode cX10_total 24 = .ok (.iconst 1, 1) := by decide +kernel
theorem dX10_total_25 : decode cX10_total 25 = .ok (.goto 4, 3) := by decide +kernel
theorem dX10_total_28 : decode cX10_total 28 = .ok (.iconst 0, 1) := by decide +kernel
theorem dX10_total_29 : decode cX10_total 29 = .ok (.iconst 1, 1) := by decide +kernel
theorem dX10_total_30 : decode cX10_total 30 = .ok (.invokevirtual 59, 3) := by decide +kernel
theorem dX10_total_33 : decode cX10_total 33 = .ok (.ifCond .ne 5, 3) := by decide +kernel
theorem dX10_total_36 : decode cX10_total 36 = .ok (.lconst 0, 1) := by decide +kernel
theorem dX10_total_37 : decode cX10_total 37 = .ok (.lreturn, 1) := by decide +kernel
theorem dX10_total_38 : decode cX10_total 38 = .ok (.lconst 1, 1) := by decide +kernel
theorem dX10_total_39 : decode cX10_total 39 = .ok (.lstore_n 2, 1) := by decide +kernel
theorem dX10_total_40 : decode cX10_total 40 = .ok (.iconst 0, 1) := by decide +kernel
theorem dX10_total_41 : decode cX10_total 41 = .ok (.istore 4, 2) := by decide +kernel
theorem dX10_total_43 : decode cX10_total 43 = .ok (.iload 4, 2) := by decide +kernel
theorem dX10_total_45 : decode cX10_total 45 = .ok (.aload_n 0, 1) := by decide +kernel
theorem dX10_total_46 : decode cX10_total 46 = .ok (.iload_n 1, 1) := by decide +kernel
theorem dX10_total_47 : decode cX10_total 47 = .ok (.iconst 1, 1) := by decide +kernel
theorem dX10_total_48 : decode cX10_total 48 = .ok (.invokevirtual 74, 3) := by decide +kernel
theorem dX10_total_51 : decode cX10_total 51 = .ok (.if_icmp .ge 93, 3) := by decide +kernel
theorem dX10_total_54 : decode cX10_total 54 = .ok (.aload_n 0, 1) := by decide +kernel
theorem dX10_total_55 : decode cX10_total 55 = .ok (.iload_n 1, 1) := by decide +kernel
theorem dX10_total_56 : decode cX10_total 56 = .ok (.iconst 1, 1) := by decide +kernel
theorem dX10_total_57 : decode cX10_total 57 = .ok (.iload 4, 2) := by decide +kernel
theorem dX10_total_59 : decode cX10_total 59 = .ok (.invokevirtual 77, 3) := by decide +kernel
theorem dX10_total_62 : decode cX10_total 62 = .ok (.istore 5, 2) := by decide +kernel
theorem dX10_total_64 : decode cX10_total 64 = .ok (.aload_n 0, 1) := by decide +kernel
theorem dX10_total_65 : decode cX10_total 65 = .ok (.getfield 29, 3) := by decide +kernel
theorem dX10_total_68 : decode cX10_total 68 = .ok (.iconst 0, 1) := by decide +kernel
theorem dX10_total_69 : decode cX10_total 69 = .ok (.bipush 15, 2) := by decide +kernel
theorem dX10_total_71 : decode cX10_total 71 = .ok (.iload 5, 2) := by decide +kernel
theorem dX10_total_73 : decode cX10_total 73 = .ok (.invokestatic 81, 3) := by decide +kernel
theorem dX10_total_76 : decode cX10_total 76 = .ok (.iaload, 1) := by decide +kernel
theorem dX10_total_77 : decode cX10_total 77 = .ok (.sipush 1000, 3) := by decide +kernel
theorem dX10_total_80 : decode cX10_total 80 = .ok (.idiv, 1) := by decide +kernel
theorem dX10_total_81 : decode cX10_total 81 = .ok (.i2l, 1) := by decide +kernel
theorem dX10_total_82 : decode cX10_total 82 = .ok (.lstore 6, 2) := by decide +kernel
theorem dX10_total_84 : decode cX10_total 84 = .ok (.iconst 0, 1) := by decide +kernel
theorem dX10_total_85 : decode cX10_total 85 = .ok (.istore 8, 2) := by decide +kernel
theorem dX10_total_87 : decode cX10_total 87 = .ok (.iload 8, 2) := by decide +kernel
theorem dX10_total_89 : decode cX10_total 89 = .ok (.aload_n 0, 1) := by decide +kernel
theorem dX10_total_90 : decode cX10_total 90 = .ok (.iload_n 1, 1) := by decide +kernel
theorem dX10_total_91 : decode cX10_total 91 = .ok (.iconst 0, 1) := by decide +kernel
theorem dX10_total_92 : decode cX10_total 92 = .ok (.invokevirtual 74, 3) := by decide +kernel
theorem dX10_total_95 : decode cX10_total 95 = .ok (.if_icmp .ge 38, 3) := by decide +kernel
theorem dX10_total_98 : decode cX10_total 98 = .ok (.lload 6, 2) := by decide +kernel
theorem dX10_total_100 : decode cX10_total 100 = .ok (.aload_n 0, 1) := by decide +kernel
theorem dX10_total_101 : decode cX10_total 101 = .ok (.getfield 29, 3) := by decide +kernel
theorem dX10_total_104 : decode cX10_total 104 = .ok (.iconst 0, 1) := by decide +kernel
theorem dX10_total_105 : decode cX10_total 105 = .ok (.aload_n 0, 1) := by decide +kernel
theorem dX10_total_106 : decode cX10_total 106 = .ok (.iload_n 1, 1) := by decide +kernel
theorem dX10_total_107 : decode cX10_total 107 = .ok (.iconst 0, 1) := by decide +kernel
theorem dX10_total_108 : decode cX10_total 108 = .ok (.iload 8, 2) := by decide +kernel
theorem dX10_total_110 : decode cX10_total 110 = .ok (.invokevirtual 77, 3) := by decide +kernel
theorem dX10_total_113 : decode cX10_total 113 = .ok (.iload 5, 2) := by decide +kernel
theorem dX10_total_115 : decode cX10_total 115 = .ok (.invokestatic 81, 3) := by decide +kernel
theorem dX10_total_118 : decode cX10_total 118 = .ok (.iaload, 1) := by decide +kernel
theorem dX10_total_119 : decode cX10_total 119 = .ok (.sipush 1000, 3) := by decide +kernel
theorem dX10_total_122 : decode cX10_total 122 = .ok (.idiv, 1) := by decide +kernel
theorem dX10_total_123 : decode cX10_total 123 = .ok (.i2l, 1) := by decide +kernel
theorem dX10_total_124 : decode cX10_total 124 = .ok (.ladd, 1) := by decide +kernel
theorem dX10_total_125 : decode cX10_total 125 = .ok (.lstore 6, 2) := by decide +kernel
theorem dX10_total_127 : decode cX10_total 127 = .ok (.iinc 8 1, 3) := by decide +kernel
theorem dX10_total_130 : decode cX10_total 130 = .ok (.goto (-43), 3) := by decide +kernel
theorem dX10_total_133 : decode cX10_total 133 = .ok (.lload_n 2, 1) := by decide +kernel
theorem dX10_total_134 : decode cX10_total 134 = .ok (.lload 6, 2) := by decide +kernel
theorem dX10_total_136 : decode cX10_total 136 = .ok (.lmul, 1) := by decide +kernel
theorem dX10_total_137 : decode cX10_total 137 = .ok (.lstore_n 2, 1) := by decide +kernel
theorem dX10_total_138 : decode cX10_total 138 = .ok (.iinc 4 1, 3) := by decide +kernel
theorem dX10_total_141 : decode cX10_total 141 = .ok (.goto (-98), 3) := by decide +kernel
theorem dX10_total_144 : decode cX10_total 144 = .ok (.lload_n 2, 1) := by decide +kernel
theorem dX10_total_145 : decode cX10_total 145 = .ok (.lreturn, 1) := by decide +kernel
theorem dX10_totalAnew_0 : decode cX10_totalAnew 0 = .ok (.aload_n 0, 1) := by decide +kernel
theorem dX10_totalAnew_1 : decode cX10_totalAnew 1 = .ok (.iload_n 1, 1) := by decide +kernel
theorem dX10_totalAnew_2 : decode cX10_totalAnew 2 = .ok (.invokevirtual 148, 3) := by decide +kernel
theorem dX10_totalAnew_5 : decode cX10_totalAnew 5 = .ok (.lreturn, 1) := by decide +kernel
theorem dJ6_bitCount_0f7a4_0 : decode cJ6_bitCount_0f7a4 0 = .ok (.iload_n 0, 1) := by decide +kernel
theorem dJ6_bitCount_0f7a4_1 : decode cJ6_bitCount_0f7a4 1 = .ok (.iload_n 0, 1) := by decide +kernel
theorem dJ6_bitCount_0f7a4_2 : decode cJ6_bitCount_0f7a4 2 = .ok (.iconst 1, 1) := by decide +kernel
theorem dJ6_bitCount_0f7a4_3 : decode cJ6_bitCount_0f7a4 3 = .ok (.iushr, 1) := by decide +kernel
theorem dJ6_bitCount_0f7a4_4 : decode cJ6_bitCount_0f7a4 4 = .ok (.ldc_w 265, 3) := by decide +kernel
theorem dJ6_bitCount_0f7a4_7 : decode cJ6_bitCount_0f7a4 7 = .ok (.iand, 1) := by decide +kernel
theorem dJ6_bitCount_0f7a4_8 : decode cJ6_bitCount_0f7a4 8 = .ok (.isub, 1) := by decide +kernel
theorem dJ6_bitCount_0f7a4_9 : decode cJ6_bitCount_0f7a4 9 = .ok (.istore_n 0, 1) := by decide +kernel
theorem dJ6_bitCount_0f7a4_10 : decode cJ6_bitCount_0f7a4 10 = .ok (.iload_n 0, 1) := by decide +kernel
theorem dJ6_bitCount_0f7a4_11 : decode cJ6_bitCount_0f7a4 11 = .ok (.ldc_w 266, 3) := by decide +kernel
theorem dJ6_bitCount_0f7a4_14 : decode cJ6_bitCount_0f7a4 14 = .ok (.iand, 1) := by decide +kernel
theorem dJ6_bitCount_0f7a4_15 : decode cJ6_bitCount_0f7a4 15 = .ok (.iload_n 0, 1) := by decide +kernel
theorem dJ6_bitCount_0f7a4_16 : decode cJ6_bitCount_0f7a4 16 = .ok (.iconst 2, 1) := by decide +kernel
theorem dJ6_bitCount_0f7a4_17 : decode cJ6_bitCount_0f7a4 17 = .ok (.iushr, 1) := by decide +kernel
theorem dJ6_bitCount_0f7a4_18 : decode cJ6_bitCount_0f7a4 18 = .ok (.ldc_w 266, 3) := by decide +kernel
theorem dJ6_bitCount_0f7a4_21 : decode cJ6_bitCount_0f7a4 21 = .ok (.iand, 1) := by decide +kernel
theorem dJ6_bitCount_0f7a4_22 : decode cJ6_bitCount_0f7a4 22 = .ok (.iadd, 1) := by decide +kernel
theorem dJ6_bitCount_0f7a4_23 : decode cJ6_bitCount_0f7a4 23 = .ok (.istore_n 0, 1) := by decide +kernel
theorem dJ6_bitCount_0f7a4_24 : decode cJ6_bitCount_0f7a4 24 = .ok (.iload_n 0, 1) := by decide +kernel
theorem dJ6_bitCount_0f7a4_25 : decode cJ6_bitCount_0f7a4 25 = .ok (.iload_n 0, 1) := by decide +kernel
theorem dJ6_bitCount_0f7a4_26 : decode cJ6_bitCount_0f7a4 26 = .ok (.iconst 4, 1) := by decide +kernel
theorem dJ6_bitCount_0f7a4_27 : decode cJ6_bitCount_0f7a4 27 = .ok (.iushr, 1) := by decide +kernel
theorem dJ6_bitCount_0f7a4_28 : decode cJ6_bitCount_0f7a4 28 = .ok (.iadd, 1) := by decide +kernel
theorem dJ6_bitCount_0f7a4_29 : decode cJ6_bitCount_0f7a4 29 = .ok (.ldc_w 267, 3) := by decide +kernel
theorem dJ6_bitCount_0f7a4_32 : decode cJ6_bitCount_0f7a4 32 = .ok (.iand, 1) := by decide +kernel
theorem dJ6_bitCount_0f7a4_33 : decode cJ6_bitCount_0f7a4 33 = .ok (.istore_n 0, 1) := by decide +kernel
theorem dJ6_bitCount_0f7a4_34 : decode cJ6_bitCount_0f7a4 34 = .ok (.iload_n 0, 1) := by decide +kernel
theorem dJ6_bitCount_0f7a4_35 : decode cJ6_bitCount_0f7a4 35 = .ok (.iload_n 0, 1) := by decide +kernel
theorem dJ6_bitCount_0f7a4_36 : decode cJ6_bitCount_0f7a4 36 = .ok (.bipush 8, 2) := by decide +kernel
theorem dJ6_bitCount_0f7a4_38 : decode cJ6_bitCount_0f7a4 38 = .ok (.iushr, 1) := by decide +kernel
theorem dJ6_bitCount_0f7a4_39 : decode cJ6_bitCount_0f7a4 39 = .ok (.iadd, 1) := by decide +kernel
theorem dJ6_bitCount_0f7a4_40 : decode cJ6_bitCount_0f7a4 40 = .ok (.istore_n 0, 1) := by decide +kernel
theorem dJ6_bitCount_0f7a4_41 : decode cJ6_bitCount_0f7a4 41 = .ok (.iload_n 0, 1) := by decide +kernel
theorem dJ6_bitCount_0f7a4_42 : decode cJ6_bitCount_0f7a4 42 = .ok (.iload_n 0, 1) := by decide +kernel
theorem dJ6_bitCount_0f7a4_43 : decode cJ6_bitCount_0f7a4 43 = .ok (.bipush 16, 2) := by decide +kernel
theorem dJ6_bitCount_0f7a4_45 : decode cJ6_bitCount_0f7a4 45 = .ok (.iushr, 1) := by decide +kernel
theorem dJ6_bitCount_0f7a4_46 : decode cJ6_bitCount_0f7a4 46 = .ok (.iadd, 1) := by decide +kernel
theorem dJ6_bitCount_0f7a4_47 : decode cJ6_bitCount_0f7a4 47 = .ok (.istore_n 0, 1) := by decide +kernel
theorem dJ6_bitCount_0f7a4_48 : decode cJ6_bitCount_0f7a4 48 = .ok (.iload_n 0, 1) := by decide +kernel
theorem dJ6_bitCount_0f7a4_49 : decode cJ6_bitCount_0f7a4 49 = .ok (.bipush 63, 2) := by decide +kernel
theorem dJ6_bitCount_0f7a4_51 : decode cJ6_bitCount_0f7a4 51 = .ok (.iand, 1) := by decide +kernel
theorem dJ6_bitCount_0f7a4_52 : decode cJ6_bitCount_0f7a4 52 = .ok (.ireturn, 1) := by decide +kernel
theorem dJ9_abs_0f7a4_0 : decode cJ9_abs_0f7a4 0 = .ok (.iload_n 0, 1) := by decide +kernel
theorem dJ9_abs_0f7a4_1 : decode cJ9_abs_0f7a4 1 = .ok (.ifCond .ge 8, 3) := by decide +kernel
theorem dJ9_abs_0f7a4_4 : decode cJ9_abs_0f7a4 4 = .ok (.iload_n 0, 1) := by decide +kernel
theorem dJ9_abs_0f7a4_5 : decode cJ9_abs_0f7a4 5 = .ok (.ineg, 1) := by decide +kernel
theorem dJ9_abs_0f7a4_6 : decode cJ9_abs_0f7a4 6 = .ok (.goto 4, 3) := by decide +kernel
theorem dJ9_abs_0f7a4_9 : decode cJ9_abs_0f7a4 9 = .ok (.iload_n 0, 1) := by decide +kernel
theorem dJ9_abs_0f7a4_10 : decode cJ9_abs_0f7a4 10 = .ok (.ireturn, 1) := by decide +kernel
theorem dJ9_min_7cf53_0 : decode cJ9_min_7cf53 0 = .ok (.iload_n 0, 1) := by decide +kernel
theorem dJ9_min_7cf53_1 : decode cJ9_min_7cf53 1 = .ok (.iload_n 1, 1) := by decide +kernel
theorem dJ9_min_7cf53_2 : decode cJ9_min_7cf53 2 = .ok (.if_icmp .gt 7, 3) := by decide +kernel
theorem dJ9_min_7cf53_5 : decode cJ9_min_7cf53 5 = .ok (.iload_n 0, 1) := by decide +kernel
theorem dJ9_min_7cf53_6 : decode cJ9_min_7cf53 6 = .ok (.goto 4, 3) := by decide +kernel
theorem dJ9_min_7cf53_9 : decode cJ9_min_7cf53 9 = .ok (.iload_n 1, 1) := by decide +kernel
theorem dJ9_min_7cf53_10 : decode cJ9_min_7cf53 10 = .ok (.ireturn, 1) := by decide +kernel
theorem dJ7_fill_d0a16_0 : decode cJ7_fill_d0a16 0 = .ok (.iconst 0, 1) := by decide +kernel
theorem dJ7_fill_d0a16_1 : decode cJ7_fill_d0a16 1 = .ok (.istore_n 3, 1) := by decide +kernel
theorem dJ7_fill_d0a16_2 : decode cJ7_fill_d0a16 2 = .ok (.aload_n 0, 1) := by decide +kernel
theorem dJ7_fill_d0a16_3 : decode cJ7_fill_d0a16 3 = .ok (.arraylength, 1) := by decide +kernel
theorem dJ7_fill_d0a16_4 : decode cJ7_fill_d0a16 4 = .ok (.istore 4, 2) := by decide +kernel
theorem dJ7_fill_d0a16_6 : decode cJ7_fill_d0a16 6 = .ok (.iload_n 3, 1) := by decide +kernel
theorem dJ7_fill_d0a16_7 : decode cJ7_fill_d0a16 7 = .ok (.iload 4, 2) := by decide +kernel
theorem dJ7_fill_d0a16_9 : decode cJ7_fill_d0a16 9 = .ok (.if_icmp .ge 13, 3) := by decide +kernel
theorem dJ7_fill_d0a16_12 : decode cJ7_fill_d0a16 12 = .ok (.aload_n 0, 1) := by decide +kernel
theorem dJ7_fill_d0a16_13 : decode cJ7_fill_d0a16 13 = .ok (.iload_n 3, 1) := by decide +kernel
theorem dJ7_fill_d0a16_14 : decode cJ7_fill_d0a16 14 = .ok (.lload_n 1, 1) := by decide +kernel
theorem dJ7_fill_d0a16_15 : decode cJ7_fill_d0a16 15 = .ok (.lastore, 1) := by decide +kernel
theorem dJ7_fill_d0a16_16 : decode cJ7_fill_d0a16 16 = .ok (.iinc 3 1, 3) := by decide +kernel
theorem dJ7_fill_d0a16_19 : decode cJ7_fill_d0a16 19 = .ok (.goto (-13), 3) := by decide +kernel
theorem dJ7_fill_d0a16_22 : decode cJ7_fill_d0a16 22 = .ok (.return_, 1) := by decide +kernel
theorem dJ7_fill_53178_0 : decode cJ7_fill_53178 0 = .ok (.iconst 0, 1) := by decide +kernel
theorem dJ7_fill_53178_1 : decode cJ7_fill_53178 1 = .ok (.istore_n 2, 1) := by decide +kernel
theorem dJ7_fill_53178_2 : decode cJ7_fill_53178 2 = .ok (.aload_n 0, 1) := by decide +kernel
theorem dJ7_fill_53178_3 : decode cJ7_fill_53178 3 = .ok (.arraylength, 1) := by decide +kernel
theorem dJ7_fill_53178_4 : decode cJ7_fill_53178 4 = .ok (.istore_n 3, 1) := by decide +kernel
theorem dJ7_fill_53178_5 : decode cJ7_fill_53178 5 = .ok (.iload_n 2, 1) := by decide +kernel
theorem dJ7_fill_53178_6 : decode cJ7_fill_53178 6 = .ok (.iload_n 3, 1) := by decide +kernel
theorem dJ7_fill_53178_7 : decode cJ7_fill_53178 7 = .ok (.if_icmp .ge 13, 3) := by decide +kernel
theorem dJ7_fill_53178_10 : decode cJ7_fill_53178 10 = .ok (.aload_n 0, 1) := by decide +kernel
theorem dJ7_fill_53178_11 : decode cJ7_fill_53178 11 = .ok (.iload_n 2, 1) := by decide +kernel
theorem dJ7_fill_53178_12 : decode cJ7_fill_53178 12 = .ok (.iload_n 1, 1) := by decide +kernel
theorem dJ7_fill_53178_13 : decode cJ7_fill_53178 13 = .ok (.iastore, 1) := by decide +kernel
theorem dJ7_fill_53178_14 : decode cJ7_fill_53178 14 = .ok (.iinc 2 1, 3) := by decide +kernel
theorem dJ7_fill_53178_17 : decode cJ7_fill_53178 17 = .ok (.goto (-12), 3) := by decide +kernel
theorem dJ7_fill_53178_20 : decode cJ7_fill_53178 20 = .ok (.return_, 1) := by decide +kernel
theorem dL_put_0 : decode cL_put 0 = .ok (.aload_n 3, 1) := by decide +kernel
theorem dL_put_1 : decode cL_put 1 = .ok (.iconst 0, 1) := by decide +kernel
theorem dL_put_2 : decode cL_put 2 = .ok (.aload_n 0, 1) := by decide +kernel
theorem dL_put_3 : decode cL_put 3 = .ok (.iload_n 1, 1) := by decide +kernel
theorem dL_put_4 : decode cL_put 4 = .ok (.iload_n 2, 1) := by decide +kernel
theorem dL_put_5 : decode cL_put 5 = .ok (.invokevirtual 7, 3) := by decide +kernel
theorem dL_put_8 : decode cL_put 8 = .ok (.i2l, 1) := by decide +kernel
theorem dL_put_9 : decode cL_put 9 = .ok (.lastore, 1) := by decide +kernel
theorem dL_put_10 : decode cL_put 10 = .ok (.goto 11, 3) := by decide +kernel
theorem dL_put_13 : decode cL_put 13 = .ok (.astore 4, 2) := by decide +kernel
theorem dL_put_15 : decode cL_put 15 = .ok (.iconst 1, 1) := by decide +kernel
theorem dL_put_16 : decode cL_put 16 = .ok (.ireturn, 1) := by decide +kernel
theorem dL_put_17 : decode cL_put 17 = .ok (.astore 4, 2) := by decide +kernel
theorem dL_put_19 : decode cL_put 19 = .ok (.iconst 2, 1) := by decide +kernel
theorem dL_put_20 : decode cL_put 20 = .ok (.ireturn, 1) := by decide +kernel
theorem dL_put_21 : decode cL_put 21 = .ok (.iconst 0, 1) := by decide +kernel
theorem dL_put_22 : decode cL_put 22 = .ok (.ireturn, 1) := by decide +kernel
theorem dL_pair_0 : decode cL_pair 0 = .ok (.aload_n 1, 1) := by decide +kernel
theorem dL_pair_1 : decode cL_pair 1 = .ok (.iconst 0, 1) := by decide +kernel
theorem dL_pair_2 : decode cL_pair 2 = .ok (.aload_n 0, 1) := by decide +kernel
theorem dL_pair_3 : decode cL_pair 3 = .ok (.invokevirtual 17, 3) := by decide +kernel
theorem dL_pair_6 : decode cL_pair 6 = .ok (.i2l, 1) := by decide +kernel
theorem dL_pair_7 : decode cL_pair 7 = .ok (.lastore, 1) := by decide +kernel
theorem dL_pair_8 : decode cL_pair 8 = .ok (.goto 6, 3) := by decide +kernel
theorem dL_pair_11 : decode cL_pair 11 = .ok (.astore_n 2, 1) := by decide +kernel
theorem dL_pair_12 : decode cL_pair 12 = .ok (.iconst 1, 1) := by decide +kernel
theorem dL_pair_13 : decode cL_pair 13 = .ok (.ireturn, 1) := by decide +kernel
theorem dL_pair_14 : decode cL_pair 14 = .ok (.iconst 0, 1) := by decide +kernel
theorem dL_pair_15 : decode cL_pair 15 = .ok (.ireturn, 1) := by decide +kernel
theorem dL_takeBack_0 : decode cL_takeBack 0 = .ok (.aload_n 2, 1) := by decide +kernel
theorem dL_takeBack_1 : decode cL_takeBack 1 = .ok (.iconst 0, 1) := by decide +kernel
theorem dL_takeBack_2 : decode cL_takeBack 2 = .ok (.aload_n 0, 1) := by decide +kernel
theorem dL_takeBack_3 : decode cL_takeBack 3 = .ok (.iload_n 1, 1) := by decide +kernel
theorem dL_takeBack_4 : decode cL_takeBack 4 = .ok (.invokevirtual 21, 3) := by decide +kernel
theorem dL_takeBack_7 : decode cL_takeBack 7 = .ok (.i2l, 1) := by decide +kernel
theorem dL_takeBack_8 : decode cL_takeBack 8 = .ok (.lastore, 1) := by decide +kernel
theorem dL_takeBack_9 : decode cL_takeBack 9 = .ok (.goto 6, 3) := by decide +kernel
theorem dL_takeBack_12 : decode cL_takeBack 12 = .ok (.astore_n 3, 1) := by decide +kernel
theorem dL_takeBack_13 : decode cL_takeBack 13 = .ok (.iconst 1, 1) := by decide +kernel
theorem dL_takeBack_14 : decode cL_takeBack 14 = .ok (.ireturn, 1) := by decide +kernel
theorem dL_takeBack_15 : decode cL_takeBack 15 = .ok (.iconst 0, 1) := by decide +kernel
theorem dL_takeBack_16 : decode cL_takeBack 16 = .ok (.ireturn, 1) := by decide +kernel
theorem dL_weight_0 : decode cL_weight 0 = .ok (.aload_n 3, 1) := by decide +kernel
theorem dL_weight_1 : decode cL_weight 1 = .ok (.iconst 0, 1) := by decide +kernel
theorem dL_weight_2 : decode cL_weight 2 = .ok (.aload_n 0, 1) := by decide +kernel
theorem dL_weight_3 : decode cL_weight 3 = .ok (.iload_n 1, 1) := by decide +kernel
theorem dL_weight_4 : decode cL_weight 4 = .ok (.iload_n 2, 1) := by decide +kernel
theorem dL_weight_5 : decode cL_weight 5 = .ok (.invokevirtual 25, 3) := by decide +kernel
theorem dL_weight_8 : decode cL_weight 8 = .ok (.i2l, 1) := by decide +kernel
theorem dL_weight_9 : decode cL_weight 9 = .ok (.lastore, 1) := by decide +kernel
theorem dL_weight_10 : decode cL_weight 10 = .ok (.goto 11, 3) := by decide +kernel
theorem dL_weight_13 : decode cL_weight 13 = .ok (.astore 4, 2) := by decide +kernel
theorem dL_weight_15 : decode cL_weight 15 = .ok (.iconst 1, 1) := by decide +kernel
theorem dL_weight_16 : decode cL_weight 16 = .ok (.ireturn, 1) := by decide +kernel
theorem dL_weight_17 : decode cL_weight 17 = .ok (.astore 4, 2) := by decide +kernel
theorem dL_weight_19 : decode cL_weight 19 = .ok (.iconst 2, 1) := by decide +kernel
theorem dL_weight_20 : decode cL_weight 20 = .ok (.ireturn, 1) := by decide +kernel
theorem dL_weight_21 : decode cL_weight 21 = .ok (.iconst 0, 1) := by decide +kernel
theorem dL_weight_22 : decode cL_weight 22 = .ok (.ireturn, 1) := by decide +kernel
theorem dL_word_0 : decode cL_word 0 = .ok (.aload 4, 2) := by decide +kernel
theorem dL_word_2 : decode cL_word 2 = .ok (.iconst 0, 1) := by decide +kernel
theorem dL_word_3 : decode cL_word 3 = .ok (.aload_n 0, 1) := by decide +kernel
theorem dL_word_4 : decode cL_word 4 = .ok (.iload_n 1, 1) := by decide +kernel
theorem dL_word_5 : decode cL_word 5 = .ok (.iload_n 2, 1) := by decide +kernel
theorem dL_word_6 : decode cL_word 6 = .ok (.iload_n 3, 1) := by decide +kernel
theorem dL_word_7 : decode cL_word 7 = .ok (.invokevirtual 30, 3) := by decide +kernel
theorem dL_word_10 : decode cL_word 10 = .ok (.i2l, 1) := by decide +kernel
theorem dL_word_11 : decode cL_word 11 = .ok (.lastore, 1) := by decide +kernel
theorem dL_word_12 : decode cL_word 12 = .ok (.goto 7, 3) := by decide +kernel
theorem dL_word_15 : decode cL_word 15 = .ok (.astore 5, 2) := by decide +kernel
theorem dL_word_17 : decode cL_word 17 = .ok (.iconst 1, 1) := by decide +kernel
theorem dL_word_18 : decode cL_word 18 = .ok (.ireturn, 1) := by decide +kernel
theorem dL_word_19 : decode cL_word 19 = .ok (.iconst 0, 1) := by decide +kernel
theorem dL_word_20 : decode cL_word 20 = .ok (.ireturn, 1) := by decide +kernel
theorem dL_share_0 : decode cL_share 0 = .ok (.aload 4, 2) := by decide +kernel
theorem dL_share_2 : decode cL_share 2 = .ok (.iconst 0, 1) := by decide +kernel
theorem dL_share_3 : decode cL_share 3 = .ok (.aload_n 0, 1) := by decide +kernel
theorem dL_share_4 : decode cL_share 4 = .ok (.iload_n 1, 1) := by decide +kernel
theorem dL_share_5 : decode cL_share 5 = .ok (.iload_n 2, 1) := by decide +kernel
theorem dL_share_6 : decode cL_share 6 = .ok (.iload_n 3, 1) := by decide +kernel
theorem dL_share_7 : decode cL_share 7 = .ok (.invokevirtual 34, 3) := by decide +kernel
theorem dL_share_10 : decode cL_share 10 = .ok (.i2l, 1) := by decide +kernel
theorem dL_share_11 : decode cL_share 11 = .ok (.lastore, 1) := by decide +kernel
theorem dL_share_12 : decode cL_share 12 = .ok (.goto 7, 3) := by decide +kernel
theorem dL_share_15 : decode cL_share 15 = .ok (.astore 5, 2) := by decide +kernel
theorem dL_share_17 : decode cL_share 17 = .ok (.iconst 1, 1) := by decide +kernel
theorem dL_share_18 : decode cL_share 18 = .ok (.ireturn, 1) := by decide +kernel
theorem dL_share_19 : decode cL_share 19 = .ok (.iconst 0, 1) := by decide +kernel
theorem dL_share_20 : decode cL_share 20 = .ok (.ireturn, 1) := by decide +kernel
theorem dL_link_0 : decode cL_link 0 = .ok (.aload 4, 2) := by decide +kernel
theorem dL_link_2 : decode cL_link 2 = .ok (.iconst 0, 1) := by decide +kernel
theorem dL_link_3 : decode cL_link 3 = .ok (.aload_n 0, 1) := by decide +kernel
theorem dL_link_4 : decode cL_link 4 = .ok (.iload_n 1, 1) := by decide +kernel
theorem dL_link_5 : decode cL_link 5 = .ok (.iload_n 2, 1) := by decide +kernel
theorem dL_link_6 : decode cL_link 6 = .ok (.iload_n 3, 1) := by decide +kernel
theorem dL_link_7 : decode cL_link 7 = .ok (.invokevirtual 37, 3) := by decide +kernel
theorem dL_link_10 : decode cL_link 10 = .ok (.i2l, 1) := by decide +kernel
theorem dL_link_11 : decode cL_link 11 = .ok (.lastore, 1) := by decide +kernel
theorem dL_link_12 : decode cL_link 12 = .ok (.goto 7, 3) := by decide +kernel
theorem dL_link_15 : decode cL_link 15 = .ok (.astore 5, 2) := by decide +kernel
theorem dL_link_17 : decode cL_link 17 = .ok (.iconst 1, 1) := by decide +kernel
theorem dL_link_18 : decode cL_link 18 = .ok (.ireturn, 1) := by decide +kernel
theorem dL_link_19 : decode cL_link 19 = .ok (.iconst 0, 1) := by decide +kernel
theorem dL_link_20 : decode cL_link 20 = .ok (.ireturn, 1) := by decide +kernel
theorem dL_isJoined_0 : decode cL_isJoined 0 = .ok (.aload 4, 2) := by decide +kernel
theorem dL_isJoined_2 : decode cL_isJoined 2 = .ok (.iconst 0, 1) := by decide +kernel
theorem dL_isJoined_3 : decode cL_isJoined 3 = .ok (.aload_n 0, 1) := by decide +kernel
theorem dL_isJoined_4 : decode cL_isJoined 4 = .ok (.iload_n 1, 1) := by decide +kernel
theorem dL_isJoined_5 : decode cL_isJoined 5 = .ok (.iload_n 2, 1) := by decide +kernel
theorem dL_isJoined_6 : decode cL_isJoined 6 = .ok (.iload_n 3, 1) := by decide +kernel
theorem dL_isJoined_7 : decode cL_isJoined 7 = .ok (.invokevirtual 40, 3) := by decide +kernel
theorem dL_isJoined_10 : decode cL_isJoined 10 = .ok (.ifCond .eq 7, 3) := by decide +kernel
theorem dL_isJoined_13 : decode cL_isJoined 13 = .ok (.lconst 1, 1) := by decide +kernel
theorem dL_isJoined_14 : decode cL_isJoined 14 = .ok (.goto 4, 3) := by decide +kernel
theorem dL_isJoined_17 : decode cL_isJoined 17 = .ok (.lconst 0, 1) := by decide +kernel
theorem dL_isJoined_18 : decode cL_isJoined 18 = .ok (.lastore, 1) := by decide +kernel
theorem dL_isJoined_19 : decode cL_isJoined 19 = .ok (.goto 7, 3) := by decide +kernel
theorem dL_isJoined_22 : decode cL_isJoined 22 = .ok (.astore 5, 2) := by decide +kernel
theorem dL_isJoined_24 : decode cL_isJoined 24 = .ok (.iconst 1, 1) := by decide +kernel
theorem dL_isJoined_25 : decode cL_isJoined 25 = .ok (.ireturn, 1) := by decide +kernel
theorem dL_isJoined_26 : decode cL_isJoined 26 = .ok (.iconst 0, 1) := by decide +kernel
theorem dL_isJoined_27 : decode cL_isJoined 27 = .ok (.ireturn, 1) := by decide +kernel
theorem dL_phrases_0 : decode cL_phrases 0 = .ok (.aload_n 2, 1) := by decide +kernel
theorem dL_phrases_1 : decode cL_phrases 1 = .ok (.iconst 0, 1) := by decide +kernel
theorem dL_phrases_2 : decode cL_phrases 2 = .ok (.aload_n 0, 1) := by decide +kernel
theorem dL_phrases_3 : decode cL_phrases 3 = .ok (.iload_n 1, 1) := by decide +kernel
theorem dL_phrases_4 : decode cL_phrases 4 = .ok (.invokevirtual 44, 3) := by decide +kernel
theorem dL_phrases_7 : decode cL_phrases 7 = .ok (.i2l, 1) := by decide +kernel
theorem dL_phrases_8 : decode cL_phrases 8 = .ok (.lastore, 1) := by decide +kernel
theorem dL_phrases_9 : decode cL_phrases 9 = .ok (.goto 6, 3) := by decide +kernel
theorem dL_phrases_12 : decode cL_phrases 12 = .ok (.astore_n 3, 1) := by decide +kernel
theorem dL_phrases_13 : decode cL_phrases 13 = .ok (.iconst 1, 1) := by decide +kernel
theorem dL_phrases_14 : decode cL_phrases 14 = .ok (.ireturn, 1) := by decide +kernel
theorem dL_phrases_15 : decode cL_phrases 15 = .ok (.iconst 0, 1) := by decide +kernel
theorem dL_phrases_16 : decode cL_phrases 16 = .ok (.ireturn, 1) := by decide +kernel
theorem dL_phrase_0 : decode cL_phrase 0 = .ok (.aload 4, 2) := by decide +kernel
theorem dL_phrase_2 : decode cL_phrase 2 = .ok (.iconst 0, 1) := by decide +kernel
theorem dL_phrase_3 : decode cL_phrase 3 = .ok (.aload_n 0, 1) := by decide +kernel
theorem dL_phrase_4 : decode cL_phrase 4 = .ok (.iload_n 1, 1) := by decide +kernel
theorem dL_phrase_5 : decode cL_phrase 5 = .ok (.iload_n 2, 1) := by decide +kernel
theorem dL_phrase_6 : decode cL_phrase 6 = .ok (.iload_n 3, 1) := by decide +kernel
theorem dL_phrase_7 : decode cL_phrase 7 = .ok (.invokevirtual 47, 3) := by decide +kernel
theorem dL_phrase_10 : decode cL_phrase 10 = .ok (.i2l, 1) := by decide +kernel
theorem dL_phrase_11 : decode cL_phrase 11 = .ok (.lastore, 1) := by decide +kernel
theorem dL_phrase_12 : decode cL_phrase 12 = .ok (.goto 11, 3) := by decide +kernel
theorem dL_phrase_15 : decode cL_phrase 15 = .ok (.astore 5, 2) := by decide +kernel
theorem dL_phrase_17 : decode cL_phrase 17 = .ok (.iconst 1, 1) := by decide +kernel
theorem dL_phrase_18 : decode cL_phrase 18 = .ok (.ireturn, 1) := by decide +kernel
theorem dL_phrase_19 : decode cL_phrase 19 = .ok (.astore 5, 2) := by decide +kernel
theorem dL_phrase_21 : decode cL_phrase 21 = .ok (.iconst 2, 1) := by decide +kernel
theorem dL_phrase_22 : decode cL_phrase 22 = .ok (.ireturn, 1) := by decide +kernel
theorem dL_phrase_23 : decode cL_phrase 23 = .ok (.iconst 0, 1) := by decide +kernel
theorem dL_phrase_24 : decode cL_phrase 24 = .ok (.ireturn, 1) := by decide +kernel
theorem dL_fertility_0 : decode cL_fertility 0 = .ok (.aload_n 3, 1) := by decide +kernel
theorem dL_fertility_1 : decode cL_fertility 1 = .ok (.iconst 0, 1) := by decide +kernel
theorem dL_fertility_2 : decode cL_fertility 2 = .ok (.aload_n 0, 1) := by decide +kernel
theorem dL_fertility_3 : decode cL_fertility 3 = .ok (.iload_n 1, 1) := by decide +kernel
theorem dL_fertility_4 : decode cL_fertility 4 = .ok (.iload_n 2, 1) := by decide +kernel
theorem dL_fertility_5 : decode cL_fertility 5 = .ok (.invokevirtual 50, 3) := by decide +kernel
theorem dL_fertility_8 : decode cL_fertility 8 = .ok (.i2l, 1) := by decide +kernel
theorem dL_fertility_9 : decode cL_fertility 9 = .ok (.lastore, 1) := by decide +kernel
theorem dL_fertility_10 : decode cL_fertility 10 = .ok (.goto 11, 3) := by decide +kernel
theorem dL_fertility_13 : decode cL_fertility 13 = .ok (.astore 4, 2) := by decide +kernel
theorem dL_fertility_15 : decode cL_fertility 15 = .ok (.iconst 1, 1) := by decide +kernel
theorem dL_fertility_16 : decode cL_fertility 16 = .ok (.ireturn, 1) := by decide +kernel
theorem dL_fertility_17 : decode cL_fertility 17 = .ok (.astore 4, 2) := by decide +kernel
theorem dL_fertility_19 : decode cL_fertility 19 = .ok (.iconst 2, 1) := by decide +kernel
theorem dL_fertility_20 : decode cL_fertility 20 = .ok (.ireturn, 1) := by decide +kernel
theorem dL_fertility_21 : decode cL_fertility 21 = .ok (.iconst 0, 1) := by decide +kernel
theorem dL_fertility_22 : decode cL_fertility 22 = .ok (.ireturn, 1) := by decide +kernel
theorem dL_total_0 : decode cL_total 0 = .ok (.aload_n 2, 1) := by decide +kernel
theorem dL_total_1 : decode cL_total 1 = .ok (.iconst 0, 1) := by decide +kernel
theorem dL_total_2 : decode cL_total 2 = .ok (.aload_n 0, 1) := by decide +kernel
theorem dL_total_3 : decode cL_total 3 = .ok (.iload_n 1, 1) := by decide +kernel
theorem dL_total_4 : decode cL_total 4 = .ok (.invokevirtual 53, 3) := by decide +kernel
theorem dL_total_7 : decode cL_total 7 = .ok (.lastore, 1) := by decide +kernel
theorem dL_total_8 : decode cL_total 8 = .ok (.goto 9, 3) := by decide +kernel
theorem dL_total_11 : decode cL_total 11 = .ok (.astore_n 3, 1) := by decide +kernel
theorem dL_total_12 : decode cL_total 12 = .ok (.iconst 1, 1) := by decide +kernel
theorem dL_total_13 : decode cL_total 13 = .ok (.ireturn, 1) := by decide +kernel
theorem dL_total_14 : decode cL_total 14 = .ok (.astore_n 3, 1) := by decide +kernel
theorem dL_total_15 : decode cL_total 15 = .ok (.iconst 2, 1) := by decide +kernel
theorem dL_total_16 : decode cL_total 16 = .ok (.ireturn, 1) := by decide +kernel
theorem dL_total_17 : decode cL_total 17 = .ok (.iconst 0, 1) := by decide +kernel
theorem dL_total_18 : decode cL_total 18 = .ok (.ireturn, 1) := by decide +kernel
theorem dL_totalAnew_0 : decode cL_totalAnew 0 = .ok (.aload_n 2, 1) := by decide +kernel
theorem dL_totalAnew_1 : decode cL_totalAnew 1 = .ok (.iconst 0, 1) := by decide +kernel
theorem dL_totalAnew_2 : decode cL_totalAnew 2 = .ok (.aload_n 0, 1) := by decide +kernel
theorem dL_totalAnew_3 : decode cL_totalAnew 3 = .ok (.iload_n 1, 1) := by decide +kernel
theorem dL_totalAnew_4 : decode cL_totalAnew 4 = .ok (.invokevirtual 57, 3) := by decide +kernel
theorem dL_totalAnew_7 : decode cL_totalAnew 7 = .ok (.lastore, 1) := by decide +kernel
theorem dL_totalAnew_8 : decode cL_totalAnew 8 = .ok (.goto 9, 3) := by decide +kernel
theorem dL_totalAnew_11 : decode cL_totalAnew 11 = .ok (.astore_n 3, 1) := by decide +kernel
theorem dL_totalAnew_12 : decode cL_totalAnew 12 = .ok (.iconst 1, 1) := by decide +kernel
theorem dL_totalAnew_13 : decode cL_totalAnew 13 = .ok (.ireturn, 1) := by decide +kernel
theorem dL_totalAnew_14 : decode cL_totalAnew 14 = .ok (.astore_n 3, 1) := by decide +kernel
theorem dL_totalAnew_15 : decode cL_totalAnew 15 = .ok (.iconst 2, 1) := by decide +kernel
theorem dL_totalAnew_16 : decode cL_totalAnew 16 = .ok (.ireturn, 1) := by decide +kernel
theorem dL_totalAnew_17 : decode cL_totalAnew 17 = .ok (.iconst 0, 1) := by decide +kernel
theorem dL_totalAnew_18 : decode cL_totalAnew 18 = .ok (.ireturn, 1) := by decide +kernel
theorem dL_law_0 : decode cL_law 0 = .ok (.new 8, 3) := by decide +kernel
theorem dL_law_3 : decode cL_law 3 = .ok (.dup, 1) := by decide +kernel
theorem dL_law_4 : decode cL_law 4 = .ok (.invokespecial 60, 3) := by decide +kernel
theorem dL_law_7 : decode cL_law 7 = .ok (.astore_n 1, 1) := by decide +kernel
theorem dL_law_8 : decode cL_law 8 = .ok (.new 61, 3) := by decide +kernel
theorem dL_law_11 : decode cL_law 11 = .ok (.dup, 1) := by decide +kernel
theorem dL_law_12 : decode cL_law 12 = .ok (.invokespecial 63, 3) := by decide +kernel
theorem dL_law_15 : decode cL_law 15 = .ok (.astore_n 2, 1) := by decide +kernel
theorem dL_law_16 : decode cL_law 16 = .ok (.iconst 1, 1) := by decide +kernel
theorem dL_law_17 : decode cL_law 17 = .ok (.newarray .long, 2) := by decide +kernel
theorem dL_law_19 : decode cL_law 19 = .ok (.astore_n 3, 1) := by decide +kernel
theorem dL_law_20 : decode cL_law 20 = .ok (.iconst 0, 1) := by decide +kernel
theorem dL_law_21 : decode cL_law 21 = .ok (.istore 4, 2) := by decide +kernel
theorem dL_law_23 : decode cL_law 23 = .ok (.iload 4, 2) := by decide +kernel
theorem dL_law_25 : decode cL_law 25 = .ok (.aload_n 0, 1) := by decide +kernel
theorem dL_law_26 : decode cL_law 26 = .ok (.arraylength, 1) := by decide +kernel
theorem dL_law_27 : decode cL_law 27 = .ok (.iconst 4, 1) := by decide +kernel
theorem dL_law_28 : decode cL_law 28 = .ok (.isub, 1) := by decide +kernel
theorem dL_law_29 : decode cL_law 29 = .ok (.if_icmp .gt 1026, 3) := by decide +kernel
theorem dL_law_32 : decode cL_law 32 = .ok (.aload_n 0, 1) := by decide +kernel
theorem dL_law_33 : decode cL_law 33 = .ok (.iload 4, 2) := by decide +kernel
theorem dL_law_35 : decode cL_law 35 = .ok (.iaload, 1) := by decide +kernel
theorem dL_law_36 : decode cL_law 36 = .ok (.bipush 31, 2) := by decide +kernel
theorem dL_law_38 : decode cL_law 38 = .ok (.iand, 1) := by decide +kernel
theorem dL_law_39 : decode cL_law 39 = .ok (.tableswitch 1010 0 16 #[81, 149, 162, 206, 262, 275, 288, 356, 369, 449, 529, 609, 696, 752, 832, 900, 955], 81) := by decide +kernel
theorem dL_law_120 : decode cL_law 120 = .ok (.aload_n 1, 1) := by decide +kernel
theorem dL_law_121 : decode cL_law 121 = .ok (.aload_n 0, 1) := by decide +kernel
theorem dL_law_122 : decode cL_law 122 = .ok (.iload 4, 2) := by decide +kernel
theorem dL_law_124 : decode cL_law 124 = .ok (.iconst 1, 1) := by decide +kernel
theorem dL_law_125 : decode cL_law 125 = .ok (.iadd, 1) := by decide +kernel
theorem dL_law_126 : decode cL_law 126 = .ok (.iaload, 1) := by decide +kernel
theorem dL_law_127 : decode cL_law 127 = .ok (.aload_n 0, 1) := by decide +kernel
theorem dL_law_128 : decode cL_law 128 = .ok (.iload 4, 2) := by decide +kernel
theorem dL_law_130 : decode cL_law 130 = .ok (.iconst 2, 1) := by decide +kernel
theorem dL_law_131 : decode cL_law 131 = .ok (.iadd, 1) := by decide +kernel
theorem dL_law_132 : decode cL_law 132 = .ok (.iaload, 1) := by decide +kernel
theorem dL_law_133 : decode cL_law 133 = .ok (.aload_n 3, 1) := by decide +kernel
theorem dL_law_134 : decode cL_law 134 = .ok (.invokestatic 64, 3) := by decide +kernel
theorem dL_law_137 : decode cL_law 137 = .ok (.istore 5, 2) := by decide +kernel
theorem dL_law_139 : decode cL_law 139 = .ok (.aload_n 2, 1) := by decide +kernel
theorem dL_law_140 : decode cL_law 140 = .ok (.aload_n 0, 1) := by decide +kernel
theorem dL_law_141 : decode cL_law 141 = .ok (.iload 4, 2) := by decide +kernel
theorem dL_law_143 : decode cL_law 143 = .ok (.iconst 1, 1) := by decide +kernel
theorem dL_law_144 : decode cL_law 144 = .ok (.iadd, 1) := by decide +kernel
theorem dL_law_145 : decode cL_law 145 = .ok (.iaload, 1) := by decide +kernel
theorem dL_law_146 : decode cL_law 146 = .ok (.aload_n 0, 1) := by decide +kernel
theorem dL_law_147 : decode cL_law 147 = .ok (.iload 4, 2) := by decide +kernel
theorem dL_law_149 : decode cL_law 149 = .ok (.iconst 2, 1) := by decide +kernel
theorem dL_law_150 : decode cL_law 150 = .ok (.iadd, 1) := by decide +kernel
theorem dL_law_151 : decode cL_law 151 = .ok (.iaload, 1) := by decide +kernel
theorem dL_law_152 : decode cL_law 152 = .ok (.invokevirtual 69, 3) := by decide +kernel
theorem dL_law_155 : decode cL_law 155 = .ok (.istore 6, 2) := by decide +kernel
theorem dL_law_157 : decode cL_law 157 = .ok (.aload_n 2, 1) := by decide +kernel
theorem dL_law_158 : decode cL_law 158 = .ok (.invokevirtual 70, 3) := by decide +kernel
theorem dL_law_161 : decode cL_law 161 = .ok (.iload 5, 2) := by decide +kernel
theorem dL_law_163 : decode cL_law 163 = .ok (.if_icmp .eq 5, 3) := by decide +kernel
theorem dL_law_166 : decode cL_law 166 = .ok (.iconst 0, 1) := by decide +kernel
theorem dL_law_167 : decode cL_law 167 = .ok (.ireturn, 1) := by decide +kernel
theorem dL_law_168 : decode cL_law 168 = .ok (.iload 5, 2) := by decide +kernel
theorem dL_law_170 : decode cL_law 170 = .ok (.ifCond .ne 15, 3) := by decide +kernel
theorem dL_law_173 : decode cL_law 173 = .ok (.aload_n 3, 1) := by decide +kernel
theorem dL_law_174 : decode cL_law 174 = .ok (.iconst 0, 1) := by decide +kernel
theorem dL_law_175 : decode cL_law 175 = .ok (.laload, 1) := by decide +kernel
theorem dL_law_176 : decode cL_law 176 = .ok (.iload 6, 2) := by decide +kernel
theorem dL_law_178 : decode cL_law 178 = .ok (.i2l, 1) := by decide +kernel
theorem dL_law_179 : decode cL_law 179 = .ok (.lcmp, 1) := by decide +kernel
theorem dL_law_180 : decode cL_law 180 = .ok (.ifCond .eq 5, 3) := by decide +kernel
theorem dL_law_183 : decode cL_law 183 = .ok (.iconst 0, 1) := by decide +kernel
theorem dL_law_184 : decode cL_law 184 = .ok (.ireturn, 1) := by decide +kernel
theorem dL_law_185 : decode cL_law 185 = .ok (.goto 864, 3) := by decide +kernel
theorem dL_law_188 : decode cL_law 188 = .ok (.aload_n 1, 1) := by decide +kernel
theorem dL_law_189 : decode cL_law 189 = .ok (.invokevirtual 73, 3) := by decide +kernel
theorem dL_law_192 : decode cL_law 192 = .ok (.aload_n 2, 1) := by decide +kernel
theorem dL_law_193 : decode cL_law 193 = .ok (.invokevirtual 76, 3) := by decide +kernel
theorem dL_law_196 : decode cL_law 196 = .ok (.if_icmp .eq 853, 3) := by decide +kernel
theorem dL_law_199 : decode cL_law 199 = .ok (.iconst 0, 1) := by decide +kernel
theorem dL_law_200 : decode cL_law 200 = .ok (.ireturn, 1) := by decide +kernel
theorem dL_law_201 : decode cL_law 201 = .ok (.aload_n 1, 1) := by decide +kernel
theorem dL_law_202 : decode cL_law 202 = .ok (.aload_n 3, 1) := by decide +kernel
theorem dL_law_203 : decode cL_law 203 = .ok (.invokestatic 77, 3) := by decide +kernel
theorem dL_law_206 : decode cL_law 206 = .ok (.istore 5, 2) := by decide +kernel
theorem dL_law_208 : decode cL_law 208 = .ok (.aload_n 2, 1) := by decide +kernel
theorem dL_law_209 : decode cL_law 209 = .ok (.invokevirtual 80, 3) := by decide +kernel
theorem dL_law_212 : decode cL_law 212 = .ok (.istore 6, 2) := by decide +kernel
theorem dL_law_214 : decode cL_law 214 = .ok (.aload_n 2, 1) := by decide +kernel
theorem dL_law_215 : decode cL_law 215 = .ok (.invokevirtual 70, 3) := by decide +kernel
theorem dL_law_218 : decode cL_law 218 = .ok (.iload 5, 2) := by decide +kernel
theorem dL_law_220 : decode cL_law 220 = .ok (.if_icmp .eq 5, 3) := by decide +kernel
theorem dL_law_223 : decode cL_law 223 = .ok (.iconst 0, 1) := by decide +kernel
theorem dL_law_224 : decode cL_law 224 = .ok (.ireturn, 1) := by decide +kernel
theorem dL_law_225 : decode cL_law 225 = .ok (.iload 5, 2) := by decide +kernel
theorem dL_law_227 : decode cL_law 227 = .ok (.ifCond .ne 15, 3) := by decide +kernel
theorem dL_law_230 : decode cL_law 230 = .ok (.aload_n 3, 1) := by decide +kernel
theorem dL_law_231 : decode cL_law 231 = .ok (.iconst 0, 1) := by decide +kernel
theorem dL_law_232 : decode cL_law 232 = .ok (.laload, 1) := by decide +kernel
theorem dL_law_233 : decode cL_law 233 = .ok (.iload 6, 2) := by decide +kernel
theorem dL_law_235 : decode cL_law 235 = .ok (.i2l, 1) := by decide +kernel
theorem dL_law_236 : decode cL_law 236 = .ok (.lcmp, 1) := by decide +kernel
theorem dL_law_237 : decode cL_law 237 = .ok (.ifCond .eq 5, 3) := by decide +kernel
theorem dL_law_240 : decode cL_law 240 = .ok (.iconst 0, 1) := by decide +kernel
theorem dL_law_241 : decode cL_law 241 = .ok (.ireturn, 1) := by decide +kernel
theorem dL_law_242 : decode cL_law 242 = .ok (.goto 807, 3) := by decide +kernel
theorem dL_law_245 : decode cL_law 245 = .ok (.aload_n 1, 1) := by decide +kernel
theorem dL_law_246 : decode cL_law 246 = .ok (.aload_n 0, 1) := by decide +kernel
theorem dL_law_247 : decode cL_law 247 = .ok (.iload 4, 2) := by decide +kernel
theorem dL_law_249 : decode cL_law 249 = .ok (.iconst 1, 1) := by decide +kernel
theorem dL_law_250 : decode cL_law 250 = .ok (.iadd, 1) := by decide +kernel
theorem dL_law_251 : decode cL_law 251 = .ok (.iaload, 1) := by decide +kernel
theorem dL_law_252 : decode cL_law 252 = .ok (.aload_n 3, 1) := by decide +kernel
theorem dL_law_253 : decode cL_law 253 = .ok (.invokestatic 81, 3) := by decide +kernel
theorem dL_law_256 : decode cL_law 256 = .ok (.istore 5, 2) := by decide +kernel
theorem dL_law_258 : decode cL_law 258 = .ok (.aload_n 2, 1) := by decide +kernel
theorem dL_law_259 : decode cL_law 259 = .ok (.aload_n 0, 1) := by decide +kernel
theorem dL_law_260 : decode cL_law 260 = .ok (.iload 4, 2) := by decide +kernel
theorem dL_law_262 : decode cL_law 262 = .ok (.iconst 1, 1) := by decide +kernel
theorem dL_law_263 : decode cL_law 263 = .ok (.iadd, 1) := by decide +kernel
theorem dL_law_264 : decode cL_law 264 = .ok (.iaload, 1) := by decide +kernel
theorem dL_law_265 : decode cL_law 265 = .ok (.invokevirtual 84, 3) := by decide +kernel
theorem dL_law_268 : decode cL_law 268 = .ok (.istore 6, 2) := by decide +kernel
theorem dL_law_270 : decode cL_law 270 = .ok (.aload_n 2, 1) := by decide +kernel
theorem dL_law_271 : decode cL_law 271 = .ok (.invokevirtual 70, 3) := by decide +kernel
theorem dL_law_274 : decode cL_law 274 = .ok (.iload 5, 2) := by decide +kernel
theorem dL_law_276 : decode cL_law 276 = .ok (.if_icmp .eq 5, 3) := by decide +kernel
theorem dL_law_279 : decode cL_law 279 = .ok (.iconst 0, 1) := by decide +kernel
theorem dL_law_280 : decode cL_law 280 = .ok (.ireturn, 1) := by decide +kernel
theorem dL_law_281 : decode cL_law 281 = .ok (.iload 5, 2) := by decide +kernel
theorem dL_law_283 : decode cL_law 283 = .ok (.ifCond .ne 15, 3) := by decide +kernel
theorem dL_law_286 : decode cL_law 286 = .ok (.aload_n 3, 1) := by decide +kernel
theorem dL_law_287 : decode cL_law 287 = .ok (.iconst 0, 1) := by decide +kernel
theorem dL_law_288 : decode cL_law 288 = .ok (.laload, 1) := by decide +kernel
theorem dL_law_289 : decode cL_law 289 = .ok (.iload 6, 2) := by decide +kernel
theorem dL_law_291 : decode cL_law 291 = .ok (.i2l, 1) := by decide +kernel
theorem dL_law_292 : decode cL_law 292 = .ok (.lcmp, 1) := by decide +kernel
theorem dL_law_293 : decode cL_law 293 = .ok (.ifCond .eq 5, 3) := by decide +kernel
theorem dL_law_296 : decode cL_law 296 = .ok (.iconst 0, 1) := by decide +kernel
theorem dL_law_297 : decode cL_law 297 = .ok (.ireturn, 1) := by decide +kernel
theorem dL_law_298 : decode cL_law 298 = .ok (.goto 751, 3) := by decide +kernel
theorem dL_law_301 : decode cL_law 301 = .ok (.aload_n 1, 1) := by decide +kernel
theorem dL_law_302 : decode cL_law 302 = .ok (.invokevirtual 85, 3) := by decide +kernel
theorem dL_law_305 : decode cL_law 305 = .ok (.aload_n 2, 1) := by decide +kernel
theorem dL_law_306 : decode cL_law 306 = .ok (.invokevirtual 88, 3) := by decide +kernel
theorem dL_law_309 : decode cL_law 309 = .ok (.if_icmp .eq 740, 3) := by decide +kernel
theorem dL_law_312 : decode cL_law 312 = .ok (.iconst 0, 1) := by decide +kernel
theorem dL_law_313 : decode cL_law 313 = .ok (.ireturn, 1) := by decide +kernel
theorem dL_law_314 : decode cL_law 314 = .ok (.aload_n 1, 1) := by decide +kernel
theorem dL_law_315 : decode cL_law 315 = .ok (.invokevirtual 89, 3) := by decide +kernel
theorem dL_law_318 : decode cL_law 318 = .ok (.aload_n 2, 1) := by decide +kernel
theorem dL_law_319 : decode cL_law 319 = .ok (.invokevirtual 92, 3) := by decide +kernel
theorem dL_law_322 : decode cL_law 322 = .ok (.if_icmp .eq 727, 3) := by decide +kernel
theorem dL_law_325 : decode cL_law 325 = .ok (.iconst 0, 1) := by decide +kernel
theorem dL_law_326 : decode cL_law 326 = .ok (.ireturn, 1) := by decide +kernel
theorem dL_law_327 : decode cL_law 327 = .ok (.aload_n 1, 1) := by decide +kernel
theorem dL_law_328 : decode cL_law 328 = .ok (.aload_n 0, 1) := by decide +kernel
theorem dL_law_329 : decode cL_law 329 = .ok (.iload 4, 2) := by decide +kernel
theorem dL_law_331 : decode cL_law 331 = .ok (.iconst 1, 1) := by decide +kernel
theorem dL_law_332 : decode cL_law 332 = .ok (.iadd, 1) := by decide +kernel
theorem dL_law_333 : decode cL_law 333 = .ok (.iaload, 1) := by decide +kernel
theorem dL_law_334 : decode cL_law 334 = .ok (.aload_n 0, 1) := by decide +kernel
theorem dL_law_335 : decode cL_law 335 = .ok (.iload 4, 2) := by decide +kernel
theorem dL_law_337 : decode cL_law 337 = .ok (.iconst 2, 1) := by decide +kernel
theorem dL_law_338 : decode cL_law 338 = .ok (.iadd, 1) := by decide +kernel
theorem dL_law_339 : decode cL_law 339 = .ok (.iaload, 1) := by decide +kernel
theorem dL_law_340 : decode cL_law 340 = .ok (.aload_n 3, 1) := by decide +kernel
theorem dL_law_341 : decode cL_law 341 = .ok (.invokestatic 93, 3) := by decide +kernel
theorem dL_law_344 : decode cL_law 344 = .ok (.istore 5, 2) := by decide +kernel
theorem dL_law_346 : decode cL_law 346 = .ok (.aload_n 2, 1) := by decide +kernel
theorem dL_law_347 : decode cL_law 347 = .ok (.aload_n 0, 1) := by decide +kernel
theorem dL_law_348 : decode cL_law 348 = .ok (.iload 4, 2) := by decide +kernel
theorem dL_law_350 : decode cL_law 350 = .ok (.iconst 1, 1) := by decide +kernel
theorem dL_law_351 : decode cL_law 351 = .ok (.iadd, 1) := by decide +kernel
theorem dL_law_352 : decode cL_law 352 = .ok (.iaload, 1) := by decide +kernel
theorem dL_law_353 : decode cL_law 353 = .ok (.aload_n 0, 1) := by decide +kernel
theorem dL_law_354 : decode cL_law 354 = .ok (.iload 4, 2) := by decide +kernel
theorem dL_law_356 : decode cL_law 356 = .ok (.iconst 2, 1) := by decide +kernel
theorem dL_law_357 : decode cL_law 357 = .ok (.iadd, 1) := by decide +kernel
theorem dL_law_358 : decode cL_law 358 = .ok (.iaload, 1) := by decide +kernel
theorem dL_law_359 : decode cL_law 359 = .ok (.invokevirtual 95, 3) := by decide +kernel
theorem dL_law_362 : decode cL_law 362 = .ok (.istore 6, 2) := by decide +kernel
theorem dL_law_364 : decode cL_law 364 = .ok (.aload_n 2, 1) := by decide +kernel
theorem dL_law_365 : decode cL_law 365 = .ok (.invokevirtual 70, 3) := by decide +kernel
theorem dL_law_368 : decode cL_law 368 = .ok (.iload 5, 2) := by decide +kernel
theorem dL_law_370 : decode cL_law 370 = .ok (.if_icmp .eq 5, 3) := by decide +kernel
theorem dL_law_373 : decode cL_law 373 = .ok (.iconst 0, 1) := by decide +kernel
theorem dL_law_374 : decode cL_law 374 = .ok (.ireturn, 1) := by decide +kernel
theorem dL_law_375 : decode cL_law 375 = .ok (.iload 5, 2) := by decide +kernel
theorem dL_law_377 : decode cL_law 377 = .ok (.ifCond .ne 15, 3) := by decide +kernel
theorem dL_law_380 : decode cL_law 380 = .ok (.aload_n 3, 1) := by decide +kernel
theorem dL_law_381 : decode cL_law 381 = .ok (.iconst 0, 1) := by decide +kernel
theorem dL_law_382 : decode cL_law 382 = .ok (.laload, 1) := by decide +kernel
theorem dL_law_383 : decode cL_law 383 = .ok (.iload 6, 2) := by decide +kernel
theorem dL_law_385 : decode cL_law 385 = .ok (.i2l, 1) := by decide +kernel
theorem dL_law_386 : decode cL_law 386 = .ok (.lcmp, 1) := by decide +kernel
theorem dL_law_387 : decode cL_law 387 = .ok (.ifCond .eq 5, 3) := by decide +kernel
theorem dL_law_390 : decode cL_law 390 = .ok (.iconst 0, 1) := by decide +kernel
theorem dL_law_391 : decode cL_law 391 = .ok (.ireturn, 1) := by decide +kernel
theorem dL_law_392 : decode cL_law 392 = .ok (.goto 657, 3) := by decide +kernel
theorem dL_law_395 : decode cL_law 395 = .ok (.aload_n 1, 1) := by decide +kernel
theorem dL_law_396 : decode cL_law 396 = .ok (.invokevirtual 96, 3) := by decide +kernel
theorem dL_law_399 : decode cL_law 399 = .ok (.aload_n 2, 1) := by decide +kernel
theorem dL_law_400 : decode cL_law 400 = .ok (.invokevirtual 99, 3) := by decide +kernel
theorem dL_law_403 : decode cL_law 403 = .ok (.if_icmp .eq 646, 3) := by decide +kernel
theorem dL_law_406 : decode cL_law 406 = .ok (.iconst 0, 1) := by decide +kernel
theorem dL_law_407 : decode cL_law 407 = .ok (.ireturn, 1) := by decide +kernel
theorem dL_law_408 : decode cL_law 408 = .ok (.aload_n 1, 1) := by decide +kernel
theorem dL_law_409 : decode cL_law 409 = .ok (.aload_n 0, 1) := by decide +kernel
theorem dL_law_410 : decode cL_law 410 = .ok (.iload 4, 2) := by decide +kernel
theorem dL_law_412 : decode cL_law 412 = .ok (.iconst 1, 1) := by decide +kernel
theorem dL_law_413 : decode cL_law 413 = .ok (.iadd, 1) := by decide +kernel
theorem dL_law_414 : decode cL_law 414 = .ok (.iaload, 1) := by decide +kernel
theorem dL_law_415 : decode cL_law 415 = .ok (.aload_n 0, 1) := by decide +kernel
theorem dL_law_416 : decode cL_law 416 = .ok (.iload 4, 2) := by decide +kernel
theorem dL_law_418 : decode cL_law 418 = .ok (.iconst 2, 1) := by decide +kernel
theorem dL_law_419 : decode cL_law 419 = .ok (.iadd, 1) := by decide +kernel
theorem dL_law_420 : decode cL_law 420 = .ok (.iaload, 1) := by decide +kernel
theorem dL_law_421 : decode cL_law 421 = .ok (.aload_n 0, 1) := by decide +kernel
theorem dL_law_422 : decode cL_law 422 = .ok (.iload 4, 2) := by decide +kernel
theorem dL_law_424 : decode cL_law 424 = .ok (.iconst 3, 1) := by decide +kernel
theorem dL_law_425 : decode cL_law 425 = .ok (.iadd, 1) := by decide +kernel
theorem dL_law_426 : decode cL_law 426 = .ok (.iaload, 1) := by decide +kernel
theorem dL_law_427 : decode cL_law 427 = .ok (.aload_n 3, 1) := by decide +kernel
theorem dL_law_428 : decode cL_law 428 = .ok (.invokestatic 100, 3) := by decide +kernel
theorem dL_law_431 : decode cL_law 431 = .ok (.istore 5, 2) := by decide +kernel
theorem dL_law_433 : decode cL_law 433 = .ok (.aload_n 2, 1) := by decide +kernel
theorem dL_law_434 : decode cL_law 434 = .ok (.aload_n 0, 1) := by decide +kernel
theorem dL_law_435 : decode cL_law 435 = .ok (.iload 4, 2) := by decide +kernel
theorem dL_law_437 : decode cL_law 437 = .ok (.iconst 1, 1) := by decide +kernel
theorem dL_law_438 : decode cL_law 438 = .ok (.iadd, 1) := by decide +kernel
theorem dL_law_439 : decode cL_law 439 = .ok (.iaload, 1) := by decide +kernel
theorem dL_law_440 : decode cL_law 440 = .ok (.aload_n 0, 1) := by decide +kernel
theorem dL_law_441 : decode cL_law 441 = .ok (.iload 4, 2) := by decide +kernel
theorem dL_law_443 : decode cL_law 443 = .ok (.iconst 2, 1) := by decide +kernel
theorem dL_law_444 : decode cL_law 444 = .ok (.iadd, 1) := by decide +kernel
theorem dL_law_445 : decode cL_law 445 = .ok (.iaload, 1) := by decide +kernel
theorem dL_law_446 : decode cL_law 446 = .ok (.aload_n 0, 1) := by decide +kernel
theorem dL_law_447 : decode cL_law 447 = .ok (.iload 4, 2) := by decide +kernel
theorem dL_law_449 : decode cL_law 449 = .ok (.iconst 3, 1) := by decide +kernel
theorem dL_law_450 : decode cL_law 450 = .ok (.iadd, 1) := by decide +kernel
theorem dL_law_451 : decode cL_law 451 = .ok (.iaload, 1) := by decide +kernel
theorem dL_law_452 : decode cL_law 452 = .ok (.invokevirtual 103, 3) := by decide +kernel
theorem dL_law_455 : decode cL_law 455 = .ok (.istore 6, 2) := by decide +kernel
theorem dL_law_457 : decode cL_law 457 = .ok (.aload_n 2, 1) := by decide +kernel
theorem dL_law_458 : decode cL_law 458 = .ok (.invokevirtual 70, 3) := by decide +kernel
theorem dL_law_461 : decode cL_law 461 = .ok (.iload 5, 2) := by decide +kernel
theorem dL_law_463 : decode cL_law 463 = .ok (.if_icmp .eq 5, 3) := by decide +kernel
theorem dL_law_466 : decode cL_law 466 = .ok (.iconst 0, 1) := by decide +kernel
theorem dL_law_467 : decode cL_law 467 = .ok (.ireturn, 1) := by decide +kernel
theorem dL_law_468 : decode cL_law 468 = .ok (.iload 5, 2) := by decide +kernel
theorem dL_law_470 : decode cL_law 470 = .ok (.ifCond .ne 15, 3) := by decide +kernel
theorem dL_law_473 : decode cL_law 473 = .ok (.aload_n 3, 1) := by decide +kernel
theorem dL_law_474 : decode cL_law 474 = .ok (.iconst 0, 1) := by decide +kernel
theorem dL_law_475 : decode cL_law 475 = .ok (.laload, 1) := by decide +kernel
theorem dL_law_476 : decode cL_law 476 = .ok (.iload 6, 2) := by decide +kernel
theorem dL_law_478 : decode cL_law 478 = .ok (.i2l, 1) := by decide +kernel
theorem dL_law_479 : decode cL_law 479 = .ok (.lcmp, 1) := by decide +kernel
theorem dL_law_480 : decode cL_law 480 = .ok (.ifCond .eq 5, 3) := by decide +kernel
theorem dL_law_483 : decode cL_law 483 = .ok (.iconst 0, 1) := by decide +kernel
theorem dL_law_484 : decode cL_law 484 = .ok (.ireturn, 1) := by decide +kernel
theorem dL_law_485 : decode cL_law 485 = .ok (.goto 564, 3) := by decide +kernel
theorem dL_law_488 : decode cL_law 488 = .ok (.aload_n 1, 1) := by decide +kernel
theorem dL_law_489 : decode cL_law 489 = .ok (.aload_n 0, 1) := by decide +kernel
theorem dL_law_490 : decode cL_law 490 = .ok (.iload 4, 2) := by decide +kernel
theorem dL_law_492 : decode cL_law 492 = .ok (.iconst 1, 1) := by decide +kernel
theorem dL_law_493 : decode cL_law 493 = .ok (.iadd, 1) := by decide +kernel
theorem dL_law_494 : decode cL_law 494 = .ok (.iaload, 1) := by decide +kernel
theorem dL_law_495 : decode cL_law 495 = .ok (.aload_n 0, 1) := by decide +kernel
theorem dL_law_496 : decode cL_law 496 = .ok (.iload 4, 2) := by decide +kernel
theorem dL_law_498 : decode cL_law 498 = .ok (.iconst 2, 1) := by decide +kernel
theorem dL_law_499 : decode cL_law 499 = .ok (.iadd, 1) := by decide +kernel
theorem dL_law_500 : decode cL_law 500 = .ok (.iaload, 1) := by decide +kernel
theorem dL_law_501 : decode cL_law 501 = .ok (.aload_n 0, 1) := by decide +kernel
theorem dL_law_502 : decode cL_law 502 = .ok (.iload 4, 2) := by decide +kernel
theorem dL_law_504 : decode cL_law 504 = .ok (.iconst 3, 1) := by decide +kernel
theorem dL_law_505 : decode cL_law 505 = .ok (.iadd, 1) := by decide +kernel
theorem dL_law_506 : decode cL_law 506 = .ok (.iaload, 1) := by decide +kernel
theorem dL_law_507 : decode cL_law 507 = .ok (.aload_n 3, 1) := by decide +kernel
theorem dL_law_508 : decode cL_law 508 = .ok (.invokestatic 104, 3) := by decide +kernel
theorem dL_law_511 : decode cL_law 511 = .ok (.istore 5, 2) := by decide +kernel
theorem dL_law_513 : decode cL_law 513 = .ok (.aload_n 2, 1) := by decide +kernel
theorem dL_law_514 : decode cL_law 514 = .ok (.aload_n 0, 1) := by decide +kernel
theorem dL_law_515 : decode cL_law 515 = .ok (.iload 4, 2) := by decide +kernel
theorem dL_law_517 : decode cL_law 517 = .ok (.iconst 1, 1) := by decide +kernel
theorem dL_law_518 : decode cL_law 518 = .ok (.iadd, 1) := by decide +kernel
theorem dL_law_519 : decode cL_law 519 = .ok (.iaload, 1) := by decide +kernel
theorem dL_law_520 : decode cL_law 520 = .ok (.aload_n 0, 1) := by decide +kernel
theorem dL_law_521 : decode cL_law 521 = .ok (.iload 4, 2) := by decide +kernel
theorem dL_law_523 : decode cL_law 523 = .ok (.iconst 2, 1) := by decide +kernel
theorem dL_law_524 : decode cL_law 524 = .ok (.iadd, 1) := by decide +kernel
theorem dL_law_525 : decode cL_law 525 = .ok (.iaload, 1) := by decide +kernel
theorem dL_law_526 : decode cL_law 526 = .ok (.aload_n 0, 1) := by decide +kernel
theorem dL_law_527 : decode cL_law 527 = .ok (.iload 4, 2) := by decide +kernel
theorem dL_law_529 : decode cL_law 529 = .ok (.iconst 3, 1) := by decide +kernel
theorem dL_law_530 : decode cL_law 530 = .ok (.iadd, 1) := by decide +kernel
theorem dL_law_531 : decode cL_law 531 = .ok (.iaload, 1) := by decide +kernel
theorem dL_law_532 : decode cL_law 532 = .ok (.invokevirtual 106, 3) := by decide +kernel
theorem dL_law_535 : decode cL_law 535 = .ok (.istore 6, 2) := by decide +kernel
theorem dL_law_537 : decode cL_law 537 = .ok (.aload_n 2, 1) := by decide +kernel
theorem dL_law_538 : decode cL_law 538 = .ok (.invokevirtual 70, 3) := by decide +kernel
theorem dL_law_541 : decode cL_law 541 = .ok (.iload 5, 2) := by decide +kernel
theorem dL_law_543 : decode cL_law 543 = .ok (.if_icmp .eq 5, 3) := by decide +kernel
theorem dL_law_546 : decode cL_law 546 = .ok (.iconst 0, 1) := by decide +kernel
theorem dL_law_547 : decode cL_law 547 = .ok (.ireturn, 1) := by decide +kernel
theorem dL_law_548 : decode cL_law 548 = .ok (.iload 5, 2) := by decide +kernel
theorem dL_law_550 : decode cL_law 550 = .ok (.ifCond .ne 15, 3) := by decide +kernel
theorem dL_law_553 : decode cL_law 553 = .ok (.aload_n 3, 1) := by decide +kernel
theorem dL_law_554 : decode cL_law 554 = .ok (.iconst 0, 1) := by decide +kernel
theorem dL_law_555 : decode cL_law 555 = .ok (.laload, 1) := by decide +kernel
theorem dL_law_556 : decode cL_law 556 = .ok (.iload 6, 2) := by decide +kernel
theorem dL_law_558 : decode cL_law 558 = .ok (.i2l, 1) := by decide +kernel
theorem dL_law_559 : decode cL_law 559 = .ok (.lcmp, 1) := by decide +kernel
theorem dL_law_560 : decode cL_law 560 = .ok (.ifCond .eq 5, 3) := by decide +kernel
theorem dL_law_563 : decode cL_law 563 = .ok (.iconst 0, 1) := by decide +kernel
theorem dL_law_564 : decode cL_law 564 = .ok (.ireturn, 1) := by decide +kernel
theorem dL_law_565 : decode cL_law 565 = .ok (.goto 484, 3) := by decide +kernel
theorem dL_law_568 : decode cL_law 568 = .ok (.aload_n 1, 1) := by decide +kernel
theorem dL_law_569 : decode cL_law 569 = .ok (.aload_n 0, 1) := by decide +kernel
theorem dL_law_570 : decode cL_law 570 = .ok (.iload 4, 2) := by decide +kernel
theorem dL_law_572 : decode cL_law 572 = .ok (.iconst 1, 1) := by decide +kernel
theorem dL_law_573 : decode cL_law 573 = .ok (.iadd, 1) := by decide +kernel
theorem dL_law_574 : decode cL_law 574 = .ok (.iaload, 1) := by decide +kernel
theorem dL_law_575 : decode cL_law 575 = .ok (.aload_n 0, 1) := by decide +kernel
theorem dL_law_576 : decode cL_law 576 = .ok (.iload 4, 2) := by decide +kernel
theorem dL_law_578 : decode cL_law 578 = .ok (.iconst 2, 1) := by decide +kernel
theorem dL_law_579 : decode cL_law 579 = .ok (.iadd, 1) := by decide +kernel
theorem dL_law_580 : decode cL_law 580 = .ok (.iaload, 1) := by decide +kernel
theorem dL_law_581 : decode cL_law 581 = .ok (.aload_n 0, 1) := by decide +kernel
theorem dL_law_582 : decode cL_law 582 = .ok (.iload 4, 2) := by decide +kernel
theorem dL_law_584 : decode cL_law 584 = .ok (.iconst 3, 1) := by decide +kernel
theorem dL_law_585 : decode cL_law 585 = .ok (.iadd, 1) := by decide +kernel
theorem dL_law_586 : decode cL_law 586 = .ok (.iaload, 1) := by decide +kernel
theorem dL_law_587 : decode cL_law 587 = .ok (.aload_n 3, 1) := by decide +kernel
theorem dL_law_588 : decode cL_law 588 = .ok (.invokestatic 107, 3) := by decide +kernel
theorem dL_law_591 : decode cL_law 591 = .ok (.istore 5, 2) := by decide +kernel
theorem dL_law_593 : decode cL_law 593 = .ok (.aload_n 2, 1) := by decide +kernel
theorem dL_law_594 : decode cL_law 594 = .ok (.aload_n 0, 1) := by decide +kernel
theorem dL_law_595 : decode cL_law 595 = .ok (.iload 4, 2) := by decide +kernel
theorem dL_law_597 : decode cL_law 597 = .ok (.iconst 1, 1) := by decide +kernel
theorem dL_law_598 : decode cL_law 598 = .ok (.iadd, 1) := by decide +kernel
theorem dL_law_599 : decode cL_law 599 = .ok (.iaload, 1) := by decide +kernel
theorem dL_law_600 : decode cL_law 600 = .ok (.aload_n 0, 1) := by decide +kernel
theorem dL_law_601 : decode cL_law 601 = .ok (.iload 4, 2) := by decide +kernel
theorem dL_law_603 : decode cL_law 603 = .ok (.iconst 2, 1) := by decide +kernel
theorem dL_law_604 : decode cL_law 604 = .ok (.iadd, 1) := by decide +kernel
theorem dL_law_605 : decode cL_law 605 = .ok (.iaload, 1) := by decide +kernel
theorem dL_law_606 : decode cL_law 606 = .ok (.aload_n 0, 1) := by decide +kernel
theorem dL_law_607 : decode cL_law 607 = .ok (.iload 4, 2) := by decide +kernel
theorem dL_law_609 : decode cL_law 609 = .ok (.iconst 3, 1) := by decide +kernel
theorem dL_law_610 : decode cL_law 610 = .ok (.iadd, 1) := by decide +kernel
theorem dL_law_611 : decode cL_law 611 = .ok (.iaload, 1) := by decide +kernel
theorem dL_law_612 : decode cL_law 612 = .ok (.invokevirtual 109, 3) := by decide +kernel
theorem dL_law_615 : decode cL_law 615 = .ok (.istore 6, 2) := by decide +kernel
theorem dL_law_617 : decode cL_law 617 = .ok (.aload_n 2, 1) := by decide +kernel
theorem dL_law_618 : decode cL_law 618 = .ok (.invokevirtual 70, 3) := by decide +kernel
theorem dL_law_621 : decode cL_law 621 = .ok (.iload 5, 2) := by decide +kernel
theorem dL_law_623 : decode cL_law 623 = .ok (.if_icmp .eq 5, 3) := by decide +kernel
theorem dL_law_626 : decode cL_law 626 = .ok (.iconst 0, 1) := by decide +kernel
theorem dL_law_627 : decode cL_law 627 = .ok (.ireturn, 1) := by decide +kernel
theorem dL_law_628 : decode cL_law 628 = .ok (.iload 5, 2) := by decide +kernel
theorem dL_law_630 : decode cL_law 630 = .ok (.ifCond .ne 15, 3) := by decide +kernel
theorem dL_law_633 : decode cL_law 633 = .ok (.aload_n 3, 1) := by decide +kernel
theorem dL_law_634 : decode cL_law 634 = .ok (.iconst 0, 1) := by decide +kernel
theorem dL_law_635 : decode cL_law 635 = .ok (.laload, 1) := by decide +kernel
theorem dL_law_636 : decode cL_law 636 = .ok (.iload 6, 2) := by decide +kernel
theorem dL_law_638 : decode cL_law 638 = .ok (.i2l, 1) := by decide +kernel
theorem dL_law_639 : decode cL_law 639 = .ok (.lcmp, 1) := by decide +kernel
theorem dL_law_640 : decode cL_law 640 = .ok (.ifCond .eq 5, 3) := by decide +kernel
theorem dL_law_643 : decode cL_law 643 = .ok (.iconst 0, 1) := by decide +kernel
theorem dL_law_644 : decode cL_law 644 = .ok (.ireturn, 1) := by decide +kernel
theorem dL_law_645 : decode cL_law 645 = .ok (.goto 404, 3) := by decide +kernel
theorem dL_law_648 : decode cL_law 648 = .ok (.aload_n 1, 1) := by decide +kernel
theorem dL_law_649 : decode cL_law 649 = .ok (.aload_n 0, 1) := by decide +kernel
theorem dL_law_650 : decode cL_law 650 = .ok (.iload 4, 2) := by decide +kernel
theorem dL_law_652 : decode cL_law 652 = .ok (.iconst 1, 1) := by decide +kernel
theorem dL_law_653 : decode cL_law 653 = .ok (.iadd, 1) := by decide +kernel
theorem dL_law_654 : decode cL_law 654 = .ok (.iaload, 1) := by decide +kernel
theorem dL_law_655 : decode cL_law 655 = .ok (.aload_n 0, 1) := by decide +kernel
theorem dL_law_656 : decode cL_law 656 = .ok (.iload 4, 2) := by decide +kernel
theorem dL_law_658 : decode cL_law 658 = .ok (.iconst 2, 1) := by decide +kernel
theorem dL_law_659 : decode cL_law 659 = .ok (.iadd, 1) := by decide +kernel
theorem dL_law_660 : decode cL_law 660 = .ok (.iaload, 1) := by decide +kernel
theorem dL_law_661 : decode cL_law 661 = .ok (.aload_n 0, 1) := by decide +kernel
theorem dL_law_662 : decode cL_law 662 = .ok (.iload 4, 2) := by decide +kernel
theorem dL_law_664 : decode cL_law 664 = .ok (.iconst 3, 1) := by decide +kernel
theorem dL_law_665 : decode cL_law 665 = .ok (.iadd, 1) := by decide +kernel
theorem dL_law_666 : decode cL_law 666 = .ok (.iaload, 1) := by decide +kernel
theorem dL_law_667 : decode cL_law 667 = .ok (.aload_n 3, 1) := by decide +kernel
theorem dL_law_668 : decode cL_law 668 = .ok (.invokestatic 110, 3) := by decide +kernel
theorem dL_law_671 : decode cL_law 671 = .ok (.istore 5, 2) := by decide +kernel
theorem dL_law_673 : decode cL_law 673 = .ok (.aload_n 2, 1) := by decide +kernel
theorem dL_law_674 : decode cL_law 674 = .ok (.aload_n 0, 1) := by decide +kernel
theorem dL_law_675 : decode cL_law 675 = .ok (.iload 4, 2) := by decide +kernel
theorem dL_law_677 : decode cL_law 677 = .ok (.iconst 1, 1) := by decide +kernel
theorem dL_law_678 : decode cL_law 678 = .ok (.iadd, 1) := by decide +kernel
theorem dL_law_679 : decode cL_law 679 = .ok (.iaload, 1) := by decide +kernel
theorem dL_law_680 : decode cL_law 680 = .ok (.aload_n 0, 1) := by decide +kernel
theorem dL_law_681 : decode cL_law 681 = .ok (.iload 4, 2) := by decide +kernel
theorem dL_law_683 : decode cL_law 683 = .ok (.iconst 2, 1) := by decide +kernel
theorem dL_law_684 : decode cL_law 684 = .ok (.iadd, 1) := by decide +kernel
theorem dL_law_685 : decode cL_law 685 = .ok (.iaload, 1) := by decide +kernel
theorem dL_law_686 : decode cL_law 686 = .ok (.aload_n 0, 1) := by decide +kernel
theorem dL_law_687 : decode cL_law 687 = .ok (.iload 4, 2) := by decide +kernel
theorem dL_law_689 : decode cL_law 689 = .ok (.iconst 3, 1) := by decide +kernel
theorem dL_law_690 : decode cL_law 690 = .ok (.iadd, 1) := by decide +kernel
theorem dL_law_691 : decode cL_law 691 = .ok (.iaload, 1) := by decide +kernel
theorem dL_law_692 : decode cL_law 692 = .ok (.invokevirtual 112, 3) := by decide +kernel
theorem dL_law_695 : decode cL_law 695 = .ok (.istore 6, 2) := by decide +kernel
theorem dL_law_697 : decode cL_law 697 = .ok (.aload_n 2, 1) := by decide +kernel
theorem dL_law_698 : decode cL_law 698 = .ok (.invokevirtual 70, 3) := by decide +kernel
theorem dL_law_701 : decode cL_law 701 = .ok (.iload 5, 2) := by decide +kernel
theorem dL_law_703 : decode cL_law 703 = .ok (.if_icmp .eq 5, 3) := by decide +kernel
theorem dL_law_706 : decode cL_law 706 = .ok (.iconst 0, 1) := by decide +kernel
theorem dL_law_707 : decode cL_law 707 = .ok (.ireturn, 1) := by decide +kernel
theorem dL_law_708 : decode cL_law 708 = .ok (.iload 5, 2) := by decide +kernel
theorem dL_law_710 : decode cL_law 710 = .ok (.ifCond .ne 22, 3) := by decide +kernel
theorem dL_law_713 : decode cL_law 713 = .ok (.aload_n 3, 1) := by decide +kernel
theorem dL_law_714 : decode cL_law 714 = .ok (.iconst 0, 1) := by decide +kernel
theorem dL_law_715 : decode cL_law 715 = .ok (.laload, 1) := by decide +kernel
theorem dL_law_716 : decode cL_law 716 = .ok (.iload 6, 2) := by decide +kernel
theorem dL_law_718 : decode cL_law 718 = .ok (.ifCond .eq 7, 3) := by decide +kernel
theorem dL_law_721 : decode cL_law 721 = .ok (.lconst 1, 1) := by decide +kernel
theorem dL_law_722 : decode cL_law 722 = .ok (.goto 4, 3) := by decide +kernel
theorem dL_law_725 : decode cL_law 725 = .ok (.lconst 0, 1) := by decide +kernel
theorem dL_law_726 : decode cL_law 726 = .ok (.lcmp, 1) := by decide +kernel
theorem dL_law_727 : decode cL_law 727 = .ok (.ifCond .eq 5, 3) := by decide +kernel
theorem dL_law_730 : decode cL_law 730 = .ok (.iconst 0, 1) := by decide +kernel
theorem dL_law_731 : decode cL_law 731 = .ok (.ireturn, 1) := by decide +kernel
theorem dL_law_732 : decode cL_law 732 = .ok (.goto 317, 3) := by decide +kernel
theorem dL_law_735 : decode cL_law 735 = .ok (.aload_n 1, 1) := by decide +kernel
theorem dL_law_736 : decode cL_law 736 = .ok (.aload_n 0, 1) := by decide +kernel
theorem dL_law_737 : decode cL_law 737 = .ok (.iload 4, 2) := by decide +kernel
theorem dL_law_739 : decode cL_law 739 = .ok (.iconst 1, 1) := by decide +kernel
theorem dL_law_740 : decode cL_law 740 = .ok (.iadd, 1) := by decide +kernel
theorem dL_law_741 : decode cL_law 741 = .ok (.iaload, 1) := by decide +kernel
theorem dL_law_742 : decode cL_law 742 = .ok (.aload_n 3, 1) := by decide +kernel
theorem dL_law_743 : decode cL_law 743 = .ok (.invokestatic 113, 3) := by decide +kernel
theorem dL_law_746 : decode cL_law 746 = .ok (.istore 5, 2) := by decide +kernel
theorem dL_law_748 : decode cL_law 748 = .ok (.aload_n 2, 1) := by decide +kernel
theorem dL_law_749 : decode cL_law 749 = .ok (.aload_n 0, 1) := by decide +kernel
theorem dL_law_750 : decode cL_law 750 = .ok (.iload 4, 2) := by decide +kernel
theorem dL_law_752 : decode cL_law 752 = .ok (.iconst 1, 1) := by decide +kernel
theorem dL_law_753 : decode cL_law 753 = .ok (.iadd, 1) := by decide +kernel
theorem dL_law_754 : decode cL_law 754 = .ok (.iaload, 1) := by decide +kernel
theorem dL_law_755 : decode cL_law 755 = .ok (.invokevirtual 115, 3) := by decide +kernel
theorem dL_law_758 : decode cL_law 758 = .ok (.istore 6, 2) := by decide +kernel
theorem dL_law_760 : decode cL_law 760 = .ok (.aload_n 2, 1) := by decide +kernel
theorem dL_law_761 : decode cL_law 761 = .ok (.invokevirtual 70, 3) := by decide +kernel
theorem dL_law_764 : decode cL_law 764 = .ok (.iload 5, 2) := by decide +kernel
theorem dL_law_766 : decode cL_law 766 = .ok (.if_icmp .eq 5, 3) := by decide +kernel
theorem dL_law_769 : decode cL_law 769 = .ok (.iconst 0, 1) := by decide +kernel
theorem dL_law_770 : decode cL_law 770 = .ok (.ireturn, 1) := by decide +kernel
theorem dL_law_771 : decode cL_law 771 = .ok (.iload 5, 2) := by decide +kernel
theorem dL_law_773 : decode cL_law 773 = .ok (.ifCond .ne 15, 3) := by decide +kernel
theorem dL_law_776 : decode cL_law 776 = .ok (.aload_n 3, 1) := by decide +kernel
theorem dL_law_777 : decode cL_law 777 = .ok (.iconst 0, 1) := by decide +kernel
theorem dL_law_778 : decode cL_law 778 = .ok (.laload, 1) := by decide +kernel
theorem dL_law_779 : decode cL_law 779 = .ok (.iload 6, 2) := by decide +kernel
theorem dL_law_781 : decode cL_law 781 = .ok (.i2l, 1) := by decide +kernel
theorem dL_law_782 : decode cL_law 782 = .ok (.lcmp, 1) := by decide +kernel
theorem dL_law_783 : decode cL_law 783 = .ok (.ifCond .eq 5, 3) := by decide +kernel
theorem dL_law_786 : decode cL_law 786 = .ok (.iconst 0, 1) := by decide +kernel
theorem dL_law_787 : decode cL_law 787 = .ok (.ireturn, 1) := by decide +kernel
theorem dL_law_788 : decode cL_law 788 = .ok (.goto 261, 3) := by decide +kernel
theorem dL_law_791 : decode cL_law 791 = .ok (.aload_n 1, 1) := by decide +kernel
theorem dL_law_792 : decode cL_law 792 = .ok (.aload_n 0, 1) := by decide +kernel
theorem dL_law_793 : decode cL_law 793 = .ok (.iload 4, 2) := by decide +kernel
theorem dL_law_795 : decode cL_law 795 = .ok (.iconst 1, 1) := by decide +kernel
theorem dL_law_796 : decode cL_law 796 = .ok (.iadd, 1) := by decide +kernel
theorem dL_law_797 : decode cL_law 797 = .ok (.iaload, 1) := by decide +kernel
theorem dL_law_798 : decode cL_law 798 = .ok (.aload_n 0, 1) := by decide +kernel
theorem dL_law_799 : decode cL_law 799 = .ok (.iload 4, 2) := by decide +kernel
theorem dL_law_801 : decode cL_law 801 = .ok (.iconst 2, 1) := by decide +kernel
theorem dL_law_802 : decode cL_law 802 = .ok (.iadd, 1) := by decide +kernel
theorem dL_law_803 : decode cL_law 803 = .ok (.iaload, 1) := by decide +kernel
theorem dL_law_804 : decode cL_law 804 = .ok (.aload_n 0, 1) := by decide +kernel
theorem dL_law_805 : decode cL_law 805 = .ok (.iload 4, 2) := by decide +kernel
theorem dL_law_807 : decode cL_law 807 = .ok (.iconst 3, 1) := by decide +kernel
theorem dL_law_808 : decode cL_law 808 = .ok (.iadd, 1) := by decide +kernel
theorem dL_law_809 : decode cL_law 809 = .ok (.iaload, 1) := by decide +kernel
theorem dL_law_810 : decode cL_law 810 = .ok (.aload_n 3, 1) := by decide +kernel
theorem dL_law_811 : decode cL_law 811 = .ok (.invokestatic 116, 3) := by decide +kernel
theorem dL_law_814 : decode cL_law 814 = .ok (.istore 5, 2) := by decide +kernel
theorem dL_law_816 : decode cL_law 816 = .ok (.aload_n 2, 1) := by decide +kernel
theorem dL_law_817 : decode cL_law 817 = .ok (.aload_n 0, 1) := by decide +kernel
theorem dL_law_818 : decode cL_law 818 = .ok (.iload 4, 2) := by decide +kernel
theorem dL_law_820 : decode cL_law 820 = .ok (.iconst 1, 1) := by decide +kernel
theorem dL_law_821 : decode cL_law 821 = .ok (.iadd, 1) := by decide +kernel
theorem dL_law_822 : decode cL_law 822 = .ok (.iaload, 1) := by decide +kernel
theorem dL_law_823 : decode cL_law 823 = .ok (.aload_n 0, 1) := by decide +kernel
theorem dL_law_824 : decode cL_law 824 = .ok (.iload 4, 2) := by decide +kernel
theorem dL_law_826 : decode cL_law 826 = .ok (.iconst 2, 1) := by decide +kernel
theorem dL_law_827 : decode cL_law 827 = .ok (.iadd, 1) := by decide +kernel
theorem dL_law_828 : decode cL_law 828 = .ok (.iaload, 1) := by decide +kernel
theorem dL_law_829 : decode cL_law 829 = .ok (.aload_n 0, 1) := by decide +kernel
theorem dL_law_830 : decode cL_law 830 = .ok (.iload 4, 2) := by decide +kernel
theorem dL_law_832 : decode cL_law 832 = .ok (.iconst 3, 1) := by decide +kernel
theorem dL_law_833 : decode cL_law 833 = .ok (.iadd, 1) := by decide +kernel
theorem dL_law_834 : decode cL_law 834 = .ok (.iaload, 1) := by decide +kernel
theorem dL_law_835 : decode cL_law 835 = .ok (.invokevirtual 118, 3) := by decide +kernel
theorem dL_law_838 : decode cL_law 838 = .ok (.istore 6, 2) := by decide +kernel
theorem dL_law_840 : decode cL_law 840 = .ok (.aload_n 2, 1) := by decide +kernel
theorem dL_law_841 : decode cL_law 841 = .ok (.invokevirtual 70, 3) := by decide +kernel
theorem dL_law_844 : decode cL_law 844 = .ok (.iload 5, 2) := by decide +kernel
theorem dL_law_846 : decode cL_law 846 = .ok (.if_icmp .eq 5, 3) := by decide +kernel
theorem dL_law_849 : decode cL_law 849 = .ok (.iconst 0, 1) := by decide +kernel
theorem dL_law_850 : decode cL_law 850 = .ok (.ireturn, 1) := by decide +kernel
theorem dL_law_851 : decode cL_law 851 = .ok (.iload 5, 2) := by decide +kernel
theorem dL_law_853 : decode cL_law 853 = .ok (.ifCond .ne 15, 3) := by decide +kernel
theorem dL_law_856 : decode cL_law 856 = .ok (.aload_n 3, 1) := by decide +kernel
theorem dL_law_857 : decode cL_law 857 = .ok (.iconst 0, 1) := by decide +kernel
theorem dL_law_858 : decode cL_law 858 = .ok (.laload, 1) := by decide +kernel
theorem dL_law_859 : decode cL_law 859 = .ok (.iload 6, 2) := by decide +kernel
theorem dL_law_861 : decode cL_law 861 = .ok (.i2l, 1) := by decide +kernel
theorem dL_law_862 : decode cL_law 862 = .ok (.lcmp, 1) := by decide +kernel
theorem dL_law_863 : decode cL_law 863 = .ok (.ifCond .eq 5, 3) := by decide +kernel
theorem dL_law_866 : decode cL_law 866 = .ok (.iconst 0, 1) := by decide +kernel
theorem dL_law_867 : decode cL_law 867 = .ok (.ireturn, 1) := by decide +kernel
theorem dL_law_868 : decode cL_law 868 = .ok (.goto 181, 3) := by decide +kernel
theorem dL_law_871 : decode cL_law 871 = .ok (.aload_n 1, 1) := by decide +kernel
theorem dL_law_872 : decode cL_law 872 = .ok (.aload_n 0, 1) := by decide +kernel
theorem dL_law_873 : decode cL_law 873 = .ok (.iload 4, 2) := by decide +kernel
theorem dL_law_875 : decode cL_law 875 = .ok (.iconst 1, 1) := by decide +kernel
theorem dL_law_876 : decode cL_law 876 = .ok (.iadd, 1) := by decide +kernel
theorem dL_law_877 : decode cL_law 877 = .ok (.iaload, 1) := by decide +kernel
theorem dL_law_878 : decode cL_law 878 = .ok (.aload_n 0, 1) := by decide +kernel
theorem dL_law_879 : decode cL_law 879 = .ok (.iload 4, 2) := by decide +kernel
theorem dL_law_881 : decode cL_law 881 = .ok (.iconst 2, 1) := by decide +kernel
theorem dL_law_882 : decode cL_law 882 = .ok (.iadd, 1) := by decide +kernel
theorem dL_law_883 : decode cL_law 883 = .ok (.iaload, 1) := by decide +kernel
theorem dL_law_884 : decode cL_law 884 = .ok (.aload_n 3, 1) := by decide +kernel
theorem dL_law_885 : decode cL_law 885 = .ok (.invokestatic 119, 3) := by decide +kernel
theorem dL_law_888 : decode cL_law 888 = .ok (.istore 5, 2) := by decide +kernel
theorem dL_law_890 : decode cL_law 890 = .ok (.aload_n 2, 1) := by decide +kernel
theorem dL_law_891 : decode cL_law 891 = .ok (.aload_n 0, 1) := by decide +kernel
theorem dL_law_892 : decode cL_law 892 = .ok (.iload 4, 2) := by decide +kernel
theorem dL_law_894 : decode cL_law 894 = .ok (.iconst 1, 1) := by decide +kernel
theorem dL_law_895 : decode cL_law 895 = .ok (.iadd, 1) := by decide +kernel
theorem dL_law_896 : decode cL_law 896 = .ok (.iaload, 1) := by decide +kernel
theorem dL_law_897 : decode cL_law 897 = .ok (.aload_n 0, 1) := by decide +kernel
theorem dL_law_898 : decode cL_law 898 = .ok (.iload 4, 2) := by decide +kernel
theorem dL_law_900 : decode cL_law 900 = .ok (.iconst 2, 1) := by decide +kernel
theorem dL_law_901 : decode cL_law 901 = .ok (.iadd, 1) := by decide +kernel
theorem dL_law_902 : decode cL_law 902 = .ok (.iaload, 1) := by decide +kernel
theorem dL_law_903 : decode cL_law 903 = .ok (.invokevirtual 121, 3) := by decide +kernel
theorem dL_law_906 : decode cL_law 906 = .ok (.istore 6, 2) := by decide +kernel
theorem dL_law_908 : decode cL_law 908 = .ok (.aload_n 2, 1) := by decide +kernel
theorem dL_law_909 : decode cL_law 909 = .ok (.invokevirtual 70, 3) := by decide +kernel
theorem dL_law_912 : decode cL_law 912 = .ok (.iload 5, 2) := by decide +kernel
theorem dL_law_914 : decode cL_law 914 = .ok (.if_icmp .eq 5, 3) := by decide +kernel
theorem dL_law_917 : decode cL_law 917 = .ok (.iconst 0, 1) := by decide +kernel
theorem dL_law_918 : decode cL_law 918 = .ok (.ireturn, 1) := by decide +kernel
theorem dL_law_919 : decode cL_law 919 = .ok (.iload 5, 2) := by decide +kernel
theorem dL_law_921 : decode cL_law 921 = .ok (.ifCond .ne 15, 3) := by decide +kernel
theorem dL_law_924 : decode cL_law 924 = .ok (.aload_n 3, 1) := by decide +kernel
theorem dL_law_925 : decode cL_law 925 = .ok (.iconst 0, 1) := by decide +kernel
theorem dL_law_926 : decode cL_law 926 = .ok (.laload, 1) := by decide +kernel
theorem dL_law_927 : decode cL_law 927 = .ok (.iload 6, 2) := by decide +kernel
theorem dL_law_929 : decode cL_law 929 = .ok (.i2l, 1) := by decide +kernel
theorem dL_law_930 : decode cL_law 930 = .ok (.lcmp, 1) := by decide +kernel
theorem dL_law_931 : decode cL_law 931 = .ok (.ifCond .eq 5, 3) := by decide +kernel
theorem dL_law_934 : decode cL_law 934 = .ok (.iconst 0, 1) := by decide +kernel
theorem dL_law_935 : decode cL_law 935 = .ok (.ireturn, 1) := by decide +kernel
theorem dL_law_936 : decode cL_law 936 = .ok (.goto 113, 3) := by decide +kernel
theorem dL_law_939 : decode cL_law 939 = .ok (.aload_n 1, 1) := by decide +kernel
theorem dL_law_940 : decode cL_law 940 = .ok (.aload_n 0, 1) := by decide +kernel
theorem dL_law_941 : decode cL_law 941 = .ok (.iload 4, 2) := by decide +kernel
theorem dL_law_943 : decode cL_law 943 = .ok (.iconst 1, 1) := by decide +kernel
theorem dL_law_944 : decode cL_law 944 = .ok (.iadd, 1) := by decide +kernel
theorem dL_law_945 : decode cL_law 945 = .ok (.iaload, 1) := by decide +kernel
theorem dL_law_946 : decode cL_law 946 = .ok (.aload_n 3, 1) := by decide +kernel
theorem dL_law_947 : decode cL_law 947 = .ok (.invokestatic 122, 3) := by decide +kernel
theorem dL_law_950 : decode cL_law 950 = .ok (.istore 5, 2) := by decide +kernel
theorem dL_law_952 : decode cL_law 952 = .ok (.aload_n 2, 1) := by decide +kernel
theorem dL_law_953 : decode cL_law 953 = .ok (.aload_n 0, 1) := by decide +kernel
theorem dL_law_954 : decode cL_law 954 = .ok (.iload 4, 2) := by decide +kernel
theorem dL_law_956 : decode cL_law 956 = .ok (.iconst 1, 1) := by decide +kernel
theorem dL_law_957 : decode cL_law 957 = .ok (.iadd, 1) := by decide +kernel
theorem dL_law_958 : decode cL_law 958 = .ok (.iaload, 1) := by decide +kernel
theorem dL_law_959 : decode cL_law 959 = .ok (.invokevirtual 124, 3) := by decide +kernel
theorem dL_law_962 : decode cL_law 962 = .ok (.lstore 6, 2) := by decide +kernel
theorem dL_law_964 : decode cL_law 964 = .ok (.aload_n 2, 1) := by decide +kernel
theorem dL_law_965 : decode cL_law 965 = .ok (.invokevirtual 70, 3) := by decide +kernel
theorem dL_law_968 : decode cL_law 968 = .ok (.iload 5, 2) := by decide +kernel
theorem dL_law_970 : decode cL_law 970 = .ok (.if_icmp .eq 5, 3) := by decide +kernel
theorem dL_law_973 : decode cL_law 973 = .ok (.iconst 0, 1) := by decide +kernel
theorem dL_law_974 : decode cL_law 974 = .ok (.ireturn, 1) := by decide +kernel
theorem dL_law_975 : decode cL_law 975 = .ok (.iload 5, 2) := by decide +kernel
theorem dL_law_977 : decode cL_law 977 = .ok (.ifCond .ne 14, 3) := by decide +kernel
theorem dL_law_980 : decode cL_law 980 = .ok (.aload_n 3, 1) := by decide +kernel
theorem dL_law_981 : decode cL_law 981 = .ok (.iconst 0, 1) := by decide +kernel
theorem dL_law_982 : decode cL_law 982 = .ok (.laload, 1) := by decide +kernel
theorem dL_law_983 : decode cL_law 983 = .ok (.lload 6, 2) := by decide +kernel
theorem dL_law_985 : decode cL_law 985 = .ok (.lcmp, 1) := by decide +kernel
theorem dL_law_986 : decode cL_law 986 = .ok (.ifCond .eq 5, 3) := by decide +kernel
theorem dL_law_989 : decode cL_law 989 = .ok (.iconst 0, 1) := by decide +kernel
theorem dL_law_990 : decode cL_law 990 = .ok (.ireturn, 1) := by decide +kernel
theorem dL_law_991 : decode cL_law 991 = .ok (.goto 58, 3) := by decide +kernel
theorem dL_law_994 : decode cL_law 994 = .ok (.aload_n 1, 1) := by decide +kernel
theorem dL_law_995 : decode cL_law 995 = .ok (.aload_n 0, 1) := by decide +kernel
theorem dL_law_996 : decode cL_law 996 = .ok (.iload 4, 2) := by decide +kernel
theorem dL_law_998 : decode cL_law 998 = .ok (.iconst 1, 1) := by decide +kernel
theorem dL_law_999 : decode cL_law 999 = .ok (.iadd, 1) := by decide +kernel
theorem dL_law_1000 : decode cL_law 1000 = .ok (.iaload, 1) := by decide +kernel
theorem dL_law_1001 : decode cL_law 1001 = .ok (.aload_n 3, 1) := by decide +kernel
theorem dL_law_1002 : decode cL_law 1002 = .ok (.invokestatic 125, 3) := by decide +kernel
theorem dL_law_1005 : decode cL_law 1005 = .ok (.istore 5, 2) := by decide +kernel
theorem dL_law_1007 : decode cL_law 1007 = .ok (.aload_n 2, 1) := by decide +kernel
theorem dL_law_1008 : decode cL_law 1008 = .ok (.aload_n 0, 1) := by decide +kernel
theorem dL_law_1009 : decode cL_law 1009 = .ok (.iload 4, 2) := by decide +kernel
theorem dL_law_1011 : decode cL_law 1011 = .ok (.iconst 1, 1) := by decide +kernel
theorem dL_law_1012 : decode cL_law 1012 = .ok (.iadd, 1) := by decide +kernel
theorem dL_law_1013 : decode cL_law 1013 = .ok (.iaload, 1) := by decide +kernel
theorem dL_law_1014 : decode cL_law 1014 = .ok (.invokevirtual 127, 3) := by decide +kernel
theorem dL_law_1017 : decode cL_law 1017 = .ok (.lstore 6, 2) := by decide +kernel
theorem dL_law_1019 : decode cL_law 1019 = .ok (.aload_n 2, 1) := by decide +kernel
theorem dL_law_1020 : decode cL_law 1020 = .ok (.invokevirtual 70, 3) := by decide +kernel
theorem dL_law_1023 : decode cL_law 1023 = .ok (.iload 5, 2) := by decide +kernel
theorem dL_law_1025 : decode cL_law 1025 = .ok (.if_icmp .eq 5, 3) := by decide +kernel
theorem dL_law_1028 : decode cL_law 1028 = .ok (.iconst 0, 1) := by decide +kernel
theorem dL_law_1029 : decode cL_law 1029 = .ok (.ireturn, 1) := by decide +kernel
theorem dL_law_1030 : decode cL_law 1030 = .ok (.iload 5, 2) := by decide +kernel
theorem dL_law_1032 : decode cL_law 1032 = .ok (.ifCond .ne 14, 3) := by decide +kernel
theorem dL_law_1035 : decode cL_law 1035 = .ok (.aload_n 3, 1) := by decide +kernel
theorem dL_law_1036 : decode cL_law 1036 = .ok (.iconst 0, 1) := by decide +kernel
theorem dL_law_1037 : decode cL_law 1037 = .ok (.laload, 1) := by decide +kernel
theorem dL_law_1038 : decode cL_law 1038 = .ok (.lload 6, 2) := by decide +kernel
theorem dL_law_1040 : decode cL_law 1040 = .ok (.lcmp, 1) := by decide +kernel
theorem dL_law_1041 : decode cL_law 1041 = .ok (.ifCond .eq 5, 3) := by decide +kernel
theorem dL_law_1044 : decode cL_law 1044 = .ok (.iconst 0, 1) := by decide +kernel
theorem dL_law_1045 : decode cL_law 1045 = .ok (.ireturn, 1) := by decide +kernel
theorem dL_law_1046 : decode cL_law 1046 = .ok (.goto 3, 3) := by decide +kernel
theorem dL_law_1049 : decode cL_law 1049 = .ok (.iinc 4 4, 3) := by decide +kernel
theorem dL_law_1052 : decode cL_law 1052 = .ok (.goto (-1029), 3) := by decide +kernel
theorem dL_law_1055 : decode cL_law 1055 = .ok (.iconst 1, 1) := by decide +kernel
theorem dL_law_1056 : decode cL_law 1056 = .ok (.ireturn, 1) := by decide +kernel
