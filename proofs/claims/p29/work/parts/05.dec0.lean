theorem dX0_init_0 : decode cX0_init 0 = .ok (.aload_n 0, 1) := by decide +kernel
theorem dX0_init_1 : decode cX0_init 1 = .ok (.invokespecial 3, 3) := by decide +kernel
theorem dX0_init_4 : decode cX0_init 4 = .ok (.aload_n 0, 1) := by decide +kernel
theorem dX0_init_5 : decode cX0_init 5 = .ok (.bipush 12, 2) := by decide +kernel
theorem dX0_init_7 : decode cX0_init 7 = .ok (.newarray .int, 2) := by decide +kernel
theorem dX0_init_9 : decode cX0_init 9 = .ok (.putfield 9, 3) := by decide +kernel
theorem dX0_init_12 : decode cX0_init 12 = .ok (.aload_n 0, 1) := by decide +kernel
theorem dX0_init_13 : decode cX0_init 13 = .ok (.bipush 72, 2) := by decide +kernel
theorem dX0_init_15 : decode cX0_init 15 = .ok (.newarray .int, 2) := by decide +kernel
theorem dX0_init_17 : decode cX0_init 17 = .ok (.putfield 15, 3) := by decide +kernel
theorem dX0_init_20 : decode cX0_init 20 = .ok (.aload_n 0, 1) := by decide +kernel
theorem dX0_init_21 : decode cX0_init 21 = .ok (.bipush 72, 2) := by decide +kernel
theorem dX0_init_23 : decode cX0_init 23 = .ok (.newarray .int, 2) := by decide +kernel
theorem dX0_init_25 : decode cX0_init 25 = .ok (.putfield 18, 3) := by decide +kernel
theorem dX0_init_28 : decode cX0_init 28 = .ok (.return_, 1) := by decide +kernel
theorem dX0_copyFrom_0 : decode cX0_copyFrom 0 = .ok (.aload_n 1, 1) := by decide +kernel
theorem dX0_copyFrom_1 : decode cX0_copyFrom 1 = .ok (.getfield 9, 3) := by decide +kernel
theorem dX0_copyFrom_4 : decode cX0_copyFrom 4 = .ok (.iconst 0, 1) := by decide +kernel
theorem dX0_copyFrom_5 : decode cX0_copyFrom 5 = .ok (.aload_n 0, 1) := by decide +kernel
theorem dX0_copyFrom_6 : decode cX0_copyFrom 6 = .ok (.getfield 9, 3) := by decide +kernel
theorem dX0_copyFrom_9 : decode cX0_copyFrom 9 = .ok (.iconst 0, 1) := by decide +kernel
theorem dX0_copyFrom_10 : decode cX0_copyFrom 10 = .ok (.bipush 12, 2) := by decide +kernel
theorem dX0_copyFrom_12 : decode cX0_copyFrom 12 = .ok (.invokestatic 21, 3) := by decide +kernel
theorem dX0_copyFrom_15 : decode cX0_copyFrom 15 = .ok (.aload_n 1, 1) := by decide +kernel
theorem dX0_copyFrom_16 : decode cX0_copyFrom 16 = .ok (.getfield 15, 3) := by decide +kernel
theorem dX0_copyFrom_19 : decode cX0_copyFrom 19 = .ok (.iconst 0, 1) := by decide +kernel
theorem dX0_copyFrom_20 : decode cX0_copyFrom 20 = .ok (.aload_n 0, 1) := by decide +kernel
theorem dX0_copyFrom_21 : decode cX0_copyFrom 21 = .ok (.getfield 15, 3) := by decide +kernel
theorem dX0_copyFrom_24 : decode cX0_copyFrom 24 = .ok (.iconst 0, 1) := by decide +kernel
theorem dX0_copyFrom_25 : decode cX0_copyFrom 25 = .ok (.bipush 72, 2) := by decide +kernel
theorem dX0_copyFrom_27 : decode cX0_copyFrom 27 = .ok (.invokestatic 21, 3) := by decide +kernel
theorem dX0_copyFrom_30 : decode cX0_copyFrom 30 = .ok (.aload_n 1, 1) := by decide +kernel
theorem dX0_copyFrom_31 : decode cX0_copyFrom 31 = .ok (.getfield 18, 3) := by decide +kernel
theorem dX0_copyFrom_34 : decode cX0_copyFrom 34 = .ok (.iconst 0, 1) := by decide +kernel
theorem dX0_copyFrom_35 : decode cX0_copyFrom 35 = .ok (.aload_n 0, 1) := by decide +kernel
theorem dX0_copyFrom_36 : decode cX0_copyFrom 36 = .ok (.getfield 18, 3) := by decide +kernel
theorem dX0_copyFrom_39 : decode cX0_copyFrom 39 = .ok (.iconst 0, 1) := by decide +kernel
theorem dX0_copyFrom_40 : decode cX0_copyFrom 40 = .ok (.bipush 72, 2) := by decide +kernel
theorem dX0_copyFrom_42 : decode cX0_copyFrom 42 = .ok (.invokestatic 21, 3) := by decide +kernel
theorem dX0_copyFrom_45 : decode cX0_copyFrom 45 = .ok (.return_, 1) := by decide +kernel
theorem dX0_add_0 : decode cX0_add 0 = .ok (.iload_n 1, 1) := by decide +kernel
theorem dX0_add_1 : decode cX0_add 1 = .ok (.aload_n 0, 1) := by decide +kernel
theorem dX0_add_2 : decode cX0_add 2 = .ok (.getfield 9, 3) := by decide +kernel
theorem dX0_add_5 : decode cX0_add 5 = .ok (.iload_n 1, 1) := by decide +kernel
theorem dX0_add_6 : decode cX0_add 6 = .ok (.iaload, 1) := by decide +kernel
theorem dX0_add_7 : decode cX0_add 7 = .ok (.invokestatic 27, 3) := by decide +kernel
theorem dX0_add_10 : decode cX0_add 10 = .ok (.istore 4, 2) := by decide +kernel
theorem dX0_add_12 : decode cX0_add 12 = .ok (.aload_n 0, 1) := by decide +kernel
theorem dX0_add_13 : decode cX0_add 13 = .ok (.getfield 15, 3) := by decide +kernel
theorem dX0_add_16 : decode cX0_add 16 = .ok (.iload 4, 2) := by decide +kernel
theorem dX0_add_18 : decode cX0_add 18 = .ok (.iload_n 2, 1) := by decide +kernel
theorem dX0_add_19 : decode cX0_add 19 = .ok (.iastore, 1) := by decide +kernel
theorem dX0_add_20 : decode cX0_add 20 = .ok (.aload_n 0, 1) := by decide +kernel
theorem dX0_add_21 : decode cX0_add 21 = .ok (.getfield 18, 3) := by decide +kernel
theorem dX0_add_24 : decode cX0_add 24 = .ok (.iload 4, 2) := by decide +kernel
theorem dX0_add_26 : decode cX0_add 26 = .ok (.iload_n 3, 1) := by decide +kernel
theorem dX0_add_27 : decode cX0_add 27 = .ok (.iastore, 1) := by decide +kernel
theorem dX0_add_28 : decode cX0_add 28 = .ok (.aload_n 0, 1) := by decide +kernel
theorem dX0_add_29 : decode cX0_add 29 = .ok (.getfield 9, 3) := by decide +kernel
theorem dX0_add_32 : decode cX0_add 32 = .ok (.iload_n 1, 1) := by decide +kernel
theorem dX0_add_33 : decode cX0_add 33 = .ok (.dup2, 1) := by decide +kernel
theorem dX0_add_34 : decode cX0_add 34 = .ok (.iaload, 1) := by decide +kernel
theorem dX0_add_35 : decode cX0_add 35 = .ok (.iconst 1, 1) := by decide +kernel
theorem dX0_add_36 : decode cX0_add 36 = .ok (.iadd, 1) := by decide +kernel
theorem dX0_add_37 : decode cX0_add 37 = .ok (.iastore, 1) := by decide +kernel
theorem dX0_add_38 : decode cX0_add 38 = .ok (.return_, 1) := by decide +kernel
theorem dX0_takeOutLost_0 : decode cX0_takeOutLost 0 = .ok (.aload_n 0, 1) := by decide +kernel
theorem dX0_takeOutLost_1 : decode cX0_takeOutLost 1 = .ok (.getfield 9, 3) := by decide +kernel
theorem dX0_takeOutLost_4 : decode cX0_takeOutLost 4 = .ok (.iload_n 1, 1) := by decide +kernel
theorem dX0_takeOutLost_5 : decode cX0_takeOutLost 5 = .ok (.iaload, 1) := by decide +kernel
theorem dX0_takeOutLost_6 : decode cX0_takeOutLost 6 = .ok (.istore_n 3, 1) := by decide +kernel
theorem dX0_takeOutLost_7 : decode cX0_takeOutLost 7 = .ok (.aload_n 0, 1) := by decide +kernel
theorem dX0_takeOutLost_8 : decode cX0_takeOutLost 8 = .ok (.getfield 9, 3) := by decide +kernel
theorem dX0_takeOutLost_11 : decode cX0_takeOutLost 11 = .ok (.iload_n 1, 1) := by decide +kernel
theorem dX0_takeOutLost_12 : decode cX0_takeOutLost 12 = .ok (.iconst 0, 1) := by decide +kernel
theorem dX0_takeOutLost_13 : decode cX0_takeOutLost 13 = .ok (.iastore, 1) := by decide +kernel
theorem dX0_takeOutLost_14 : decode cX0_takeOutLost 14 = .ok (.iconst 0, 1) := by decide +kernel
theorem dX0_takeOutLost_15 : decode cX0_takeOutLost 15 = .ok (.istore 4, 2) := by decide +kernel
theorem dX0_takeOutLost_17 : decode cX0_takeOutLost 17 = .ok (.iload 4, 2) := by decide +kernel
theorem dX0_takeOutLost_19 : decode cX0_takeOutLost 19 = .ok (.iload_n 3, 1) := by decide +kernel
theorem dX0_takeOutLost_20 : decode cX0_takeOutLost 20 = .ok (.if_icmp .ge 43, 3) := by decide +kernel
theorem dX0_takeOutLost_23 : decode cX0_takeOutLost 23 = .ok (.iload_n 1, 1) := by decide +kernel
theorem dX0_takeOutLost_24 : decode cX0_takeOutLost 24 = .ok (.iload 4, 2) := by decide +kernel
theorem dX0_takeOutLost_26 : decode cX0_takeOutLost 26 = .ok (.invokestatic 27, 3) := by decide +kernel
theorem dX0_takeOutLost_29 : decode cX0_takeOutLost 29 = .ok (.istore 5, 2) := by decide +kernel
theorem dX0_takeOutLost_31 : decode cX0_takeOutLost 31 = .ok (.aload_n 2, 1) := by decide +kernel
theorem dX0_takeOutLost_32 : decode cX0_takeOutLost 32 = .ok (.iload 5, 2) := by decide +kernel
theorem dX0_takeOutLost_34 : decode cX0_takeOutLost 34 = .ok (.baload, 1) := by decide +kernel
theorem dX0_takeOutLost_35 : decode cX0_takeOutLost 35 = .ok (.ifCond .ne 22, 3) := by decide +kernel
theorem dX0_takeOutLost_38 : decode cX0_takeOutLost 38 = .ok (.aload_n 0, 1) := by decide +kernel
theorem dX0_takeOutLost_39 : decode cX0_takeOutLost 39 = .ok (.iload_n 1, 1) := by decide +kernel
theorem dX0_takeOutLost_40 : decode cX0_takeOutLost 40 = .ok (.aload_n 0, 1) := by decide +kernel
theorem dX0_takeOutLost_41 : decode cX0_takeOutLost 41 = .ok (.getfield 15, 3) := by decide +kernel
theorem dX0_takeOutLost_44 : decode cX0_takeOutLost 44 = .ok (.iload 5, 2) := by decide +kernel
theorem dX0_takeOutLost_46 : decode cX0_takeOutLost 46 = .ok (.iaload, 1) := by decide +kernel
theorem dX0_takeOutLost_47 : decode cX0_takeOutLost 47 = .ok (.aload_n 0, 1) := by decide +kernel
theorem dX0_takeOutLost_48 : decode cX0_takeOutLost 48 = .ok (.getfield 18, 3) := by decide +kernel
theorem dX0_takeOutLost_51 : decode cX0_takeOutLost 51 = .ok (.iload 5, 2) := by decide +kernel
theorem dX0_takeOutLost_53 : decode cX0_takeOutLost 53 = .ok (.iaload, 1) := by decide +kernel
theorem dX0_takeOutLost_54 : decode cX0_takeOutLost 54 = .ok (.invokevirtual 31, 3) := by decide +kernel
theorem dX0_takeOutLost_57 : decode cX0_takeOutLost 57 = .ok (.iinc 4 1, 3) := by decide +kernel
theorem dX0_takeOutLost_60 : decode cX0_takeOutLost 60 = .ok (.goto (-43), 3) := by decide +kernel
theorem dX0_takeOutLost_63 : decode cX0_takeOutLost 63 = .ok (.iload_n 3, 1) := by decide +kernel
theorem dX0_takeOutLost_64 : decode cX0_takeOutLost 64 = .ok (.aload_n 0, 1) := by decide +kernel
theorem dX0_takeOutLost_65 : decode cX0_takeOutLost 65 = .ok (.getfield 9, 3) := by decide +kernel
theorem dX0_takeOutLost_68 : decode cX0_takeOutLost 68 = .ok (.iload_n 1, 1) := by decide +kernel
theorem dX0_takeOutLost_69 : decode cX0_takeOutLost 69 = .ok (.iaload, 1) := by decide +kernel
theorem dX0_takeOutLost_70 : decode cX0_takeOutLost 70 = .ok (.isub, 1) := by decide +kernel
theorem dX0_takeOutLost_71 : decode cX0_takeOutLost 71 = .ok (.ireturn, 1) := by decide +kernel
theorem dX0_followJoin_0 : decode cX0_followJoin 0 = .ok (.iconst 0, 1) := by decide +kernel
theorem dX0_followJoin_1 : decode cX0_followJoin 1 = .ok (.istore 4, 2) := by decide +kernel
theorem dX0_followJoin_3 : decode cX0_followJoin 3 = .ok (.iload 4, 2) := by decide +kernel
theorem dX0_followJoin_5 : decode cX0_followJoin 5 = .ok (.bipush 12, 2) := by decide +kernel
theorem dX0_followJoin_7 : decode cX0_followJoin 7 = .ok (.if_icmp .ge 83, 3) := by decide +kernel
theorem dX0_followJoin_10 : decode cX0_followJoin 10 = .ok (.iconst 0, 1) := by decide +kernel
theorem dX0_followJoin_11 : decode cX0_followJoin 11 = .ok (.istore 5, 2) := by decide +kernel
theorem dX0_followJoin_13 : decode cX0_followJoin 13 = .ok (.iload 5, 2) := by decide +kernel
theorem dX0_followJoin_15 : decode cX0_followJoin 15 = .ok (.aload_n 0, 1) := by decide +kernel
theorem dX0_followJoin_16 : decode cX0_followJoin 16 = .ok (.getfield 9, 3) := by decide +kernel
theorem dX0_followJoin_19 : decode cX0_followJoin 19 = .ok (.iload 4, 2) := by decide +kernel
theorem dX0_followJoin_21 : decode cX0_followJoin 21 = .ok (.iaload, 1) := by decide +kernel
theorem dX0_followJoin_22 : decode cX0_followJoin 22 = .ok (.if_icmp .ge 62, 3) := by decide +kernel
theorem dX0_followJoin_25 : decode cX0_followJoin 25 = .ok (.iload 4, 2) := by decide +kernel
theorem dX0_followJoin_27 : decode cX0_followJoin 27 = .ok (.iload 5, 2) := by decide +kernel
theorem dX0_followJoin_29 : decode cX0_followJoin 29 = .ok (.invokestatic 27, 3) := by decide +kernel
theorem dX0_followJoin_32 : decode cX0_followJoin 32 = .ok (.istore 6, 2) := by decide +kernel
theorem dX0_followJoin_34 : decode cX0_followJoin 34 = .ok (.aload_n 0, 1) := by decide +kernel
theorem dX0_followJoin_35 : decode cX0_followJoin 35 = .ok (.getfield 15, 3) := by decide +kernel
theorem dX0_followJoin_38 : decode cX0_followJoin 38 = .ok (.iload 6, 2) := by decide +kernel
theorem dX0_followJoin_40 : decode cX0_followJoin 40 = .ok (.iaload, 1) := by decide +kernel
theorem dX0_followJoin_41 : decode cX0_followJoin 41 = .ok (.iload_n 1, 1) := by decide +kernel
theorem dX0_followJoin_42 : decode cX0_followJoin 42 = .ok (.if_icmp .ne 36, 3) := by decide +kernel
theorem dX0_followJoin_45 : decode cX0_followJoin 45 = .ok (.aload_n 0, 1) := by decide +kernel
theorem dX0_followJoin_46 : decode cX0_followJoin 46 = .ok (.getfield 18, 3) := by decide +kernel
theorem dX0_followJoin_49 : decode cX0_followJoin 49 = .ok (.iload 6, 2) := by decide +kernel
theorem dX0_followJoin_51 : decode cX0_followJoin 51 = .ok (.iaload, 1) := by decide +kernel
theorem dX0_followJoin_52 : decode cX0_followJoin 52 = .ok (.iload_n 3, 1) := by decide +kernel
theorem dX0_followJoin_53 : decode cX0_followJoin 53 = .ok (.iadd, 1) := by decide +kernel
theorem dX0_followJoin_54 : decode cX0_followJoin 54 = .ok (.bipush 60, 2) := by decide +kernel
theorem dX0_followJoin_56 : decode cX0_followJoin 56 = .ok (.if_icmp .gt 22, 3) := by decide +kernel
theorem dX0_followJoin_59 : decode cX0_followJoin 59 = .ok (.aload_n 0, 1) := by decide +kernel
theorem dX0_followJoin_60 : decode cX0_followJoin 60 = .ok (.getfield 15, 3) := by decide +kernel
theorem dX0_followJoin_63 : decode cX0_followJoin 63 = .ok (.iload 6, 2) := by decide +kernel
theorem dX0_followJoin_65 : decode cX0_followJoin 65 = .ok (.iload_n 2, 1) := by decide +kernel
theorem dX0_followJoin_66 : decode cX0_followJoin 66 = .ok (.iastore, 1) := by decide +kernel
theorem dX0_followJoin_67 : decode cX0_followJoin 67 = .ok (.aload_n 0, 1) := by decide +kernel
theorem dX0_followJoin_68 : decode cX0_followJoin 68 = .ok (.getfield 18, 3) := by decide +kernel
theorem dX0_followJoin_71 : decode cX0_followJoin 71 = .ok (.iload 6, 2) := by decide +kernel
theorem dX0_followJoin_73 : decode cX0_followJoin 73 = .ok (.dup2, 1) := by decide +kernel
theorem dX0_followJoin_74 : decode cX0_followJoin 74 = .ok (.iaload, 1) := by decide +kernel
theorem dX0_followJoin_75 : decode cX0_followJoin 75 = .ok (.iload_n 3, 1) := by decide +kernel
theorem dX0_followJoin_76 : decode cX0_followJoin 76 = .ok (.iadd, 1) := by decide +kernel
theorem dX0_followJoin_77 : decode cX0_followJoin 77 = .ok (.iastore, 1) := by decide +kernel
theorem dX0_followJoin_78 : decode cX0_followJoin 78 = .ok (.iinc 5 1, 3) := by decide +kernel
theorem dX0_followJoin_81 : decode cX0_followJoin 81 = .ok (.goto (-68), 3) := by decide +kernel
theorem dX0_followJoin_84 : decode cX0_followJoin 84 = .ok (.iinc 4 1, 3) := by decide +kernel
theorem dX0_followJoin_87 : decode cX0_followJoin 87 = .ok (.goto (-84), 3) := by decide +kernel
theorem dX0_followJoin_90 : decode cX0_followJoin 90 = .ok (.return_, 1) := by decide +kernel
theorem dX0_followSplit_0 : decode cX0_followSplit 0 = .ok (.iconst 0, 1) := by decide +kernel
theorem dX0_followSplit_1 : decode cX0_followSplit 1 = .ok (.istore 4, 2) := by decide +kernel
theorem dX0_followSplit_3 : decode cX0_followSplit 3 = .ok (.iload 4, 2) := by decide +kernel
theorem dX0_followSplit_5 : decode cX0_followSplit 5 = .ok (.bipush 12, 2) := by decide +kernel
theorem dX0_followSplit_7 : decode cX0_followSplit 7 = .ok (.if_icmp .ge 80, 3) := by decide +kernel
theorem dX0_followSplit_10 : decode cX0_followSplit 10 = .ok (.iconst 0, 1) := by decide +kernel
theorem dX0_followSplit_11 : decode cX0_followSplit 11 = .ok (.istore 5, 2) := by decide +kernel
theorem dX0_followSplit_13 : decode cX0_followSplit 13 = .ok (.iload 5, 2) := by decide +kernel
theorem dX0_followSplit_15 : decode cX0_followSplit 15 = .ok (.aload_n 0, 1) := by decide +kernel
theorem dX0_followSplit_16 : decode cX0_followSplit 16 = .ok (.getfield 9, 3) := by decide +kernel
theorem dX0_followSplit_19 : decode cX0_followSplit 19 = .ok (.iload 4, 2) := by decide +kernel
theorem dX0_followSplit_21 : decode cX0_followSplit 21 = .ok (.iaload, 1) := by decide +kernel
theorem dX0_followSplit_22 : decode cX0_followSplit 22 = .ok (.if_icmp .ge 59, 3) := by decide +kernel
theorem dX0_followSplit_25 : decode cX0_followSplit 25 = .ok (.iload 4, 2) := by decide +kernel
theorem dX0_followSplit_27 : decode cX0_followSplit 27 = .ok (.iload 5, 2) := by decide +kernel
theorem dX0_followSplit_29 : decode cX0_followSplit 29 = .ok (.invokestatic 27, 3) := by decide +kernel
theorem dX0_followSplit_32 : decode cX0_followSplit 32 = .ok (.istore 6, 2) := by decide +kernel
theorem dX0_followSplit_34 : decode cX0_followSplit 34 = .ok (.aload_n 0, 1) := by decide +kernel
theorem dX0_followSplit_35 : decode cX0_followSplit 35 = .ok (.getfield 15, 3) := by decide +kernel
theorem dX0_followSplit_38 : decode cX0_followSplit 38 = .ok (.iload 6, 2) := by decide +kernel
theorem dX0_followSplit_40 : decode cX0_followSplit 40 = .ok (.iaload, 1) := by decide +kernel
theorem dX0_followSplit_41 : decode cX0_followSplit 41 = .ok (.iload_n 1, 1) := by decide +kernel
theorem dX0_followSplit_42 : decode cX0_followSplit 42 = .ok (.if_icmp .ne 33, 3) := by decide +kernel
theorem dX0_followSplit_45 : decode cX0_followSplit 45 = .ok (.aload_n 0, 1) := by decide +kernel
theorem dX0_followSplit_46 : decode cX0_followSplit 46 = .ok (.getfield 18, 3) := by decide +kernel
theorem dX0_followSplit_49 : decode cX0_followSplit 49 = .ok (.iload 6, 2) := by decide +kernel
theorem dX0_followSplit_51 : decode cX0_followSplit 51 = .ok (.iaload, 1) := by decide +kernel
theorem dX0_followSplit_52 : decode cX0_followSplit 52 = .ok (.iload_n 3, 1) := by decide +kernel
theorem dX0_followSplit_53 : decode cX0_followSplit 53 = .ok (.if_icmp .le 22, 3) := by decide +kernel
theorem dX0_followSplit_56 : decode cX0_followSplit 56 = .ok (.aload_n 0, 1) := by decide +kernel
theorem dX0_followSplit_57 : decode cX0_followSplit 57 = .ok (.getfield 15, 3) := by decide +kernel
theorem dX0_followSplit_60 : decode cX0_followSplit 60 = .ok (.iload 6, 2) := by decide +kernel
theorem dX0_followSplit_62 : decode cX0_followSplit 62 = .ok (.iload_n 2, 1) := by decide +kernel
theorem dX0_followSplit_63 : decode cX0_followSplit 63 = .ok (.iastore, 1) := by decide +kernel
theorem dX0_followSplit_64 : decode cX0_followSplit 64 = .ok (.aload_n 0, 1) := by decide +kernel
theorem dX0_followSplit_65 : decode cX0_followSplit 65 = .ok (.getfield 18, 3) := by decide +kernel
theorem dX0_followSplit_68 : decode cX0_followSplit 68 = .ok (.iload 6, 2) := by decide +kernel
theorem dX0_followSplit_70 : decode cX0_followSplit 70 = .ok (.dup2, 1) := by decide +kernel
theorem dX0_followSplit_71 : decode cX0_followSplit 71 = .ok (.iaload, 1) := by decide +kernel
theorem dX0_followSplit_72 : decode cX0_followSplit 72 = .ok (.iload_n 3, 1) := by decide +kernel
theorem dX0_followSplit_73 : decode cX0_followSplit 73 = .ok (.isub, 1) := by decide +kernel
theorem dX0_followSplit_74 : decode cX0_followSplit 74 = .ok (.iastore, 1) := by decide +kernel
theorem dX0_followSplit_75 : decode cX0_followSplit 75 = .ok (.iinc 5 1, 3) := by decide +kernel
theorem dX0_followSplit_78 : decode cX0_followSplit 78 = .ok (.goto (-65), 3) := by decide +kernel
theorem dX0_followSplit_81 : decode cX0_followSplit 81 = .ok (.iinc 4 1, 3) := by decide +kernel
theorem dX0_followSplit_84 : decode cX0_followSplit 84 = .ok (.goto (-81), 3) := by decide +kernel
theorem dX0_followSplit_87 : decode cX0_followSplit 87 = .ok (.return_, 1) := by decide +kernel
theorem dX1_init_0 : decode cX1_init 0 = .ok (.aload_n 0, 1) := by decide +kernel
theorem dX1_init_1 : decode cX1_init 1 = .ok (.invokespecial 3, 3) := by decide +kernel
theorem dX1_init_4 : decode cX1_init 4 = .ok (.aload_n 0, 1) := by decide +kernel
theorem dX1_init_5 : decode cX1_init 5 = .ok (.bipush 30, 2) := by decide +kernel
theorem dX1_init_7 : decode cX1_init 7 = .ok (.newarray .int, 2) := by decide +kernel
theorem dX1_init_9 : decode cX1_init 9 = .ok (.putfield 9, 3) := by decide +kernel
theorem dX1_init_12 : decode cX1_init 12 = .ok (.aload_n 0, 1) := by decide +kernel
theorem dX1_init_13 : decode cX1_init 13 = .ok (.bipush 30, 2) := by decide +kernel
theorem dX1_init_15 : decode cX1_init 15 = .ok (.newarray .int, 2) := by decide +kernel
theorem dX1_init_17 : decode cX1_init 17 = .ok (.putfield 15, 3) := by decide +kernel
theorem dX1_init_20 : decode cX1_init 20 = .ok (.aload_n 0, 1) := by decide +kernel
theorem dX1_init_21 : decode cX1_init 21 = .ok (.iconst 0, 1) := by decide +kernel
theorem dX1_init_22 : decode cX1_init 22 = .ok (.putfield 18, 3) := by decide +kernel
theorem dX1_init_25 : decode cX1_init 25 = .ok (.aload_n 0, 1) := by decide +kernel
theorem dX1_init_26 : decode cX1_init 26 = .ok (.iconst 0, 1) := by decide +kernel
theorem dX1_init_27 : decode cX1_init 27 = .ok (.putfield 22, 3) := by decide +kernel
theorem dX1_init_30 : decode cX1_init 30 = .ok (.aload_n 0, 1) := by decide +kernel
theorem dX1_init_31 : decode cX1_init 31 = .ok (.bipush 60, 2) := by decide +kernel
theorem dX1_init_33 : decode cX1_init 33 = .ok (.putfield 25, 3) := by decide +kernel
theorem dX1_init_36 : decode cX1_init 36 = .ok (.return_, 1) := by decide +kernel
theorem dX1_copyFrom_0 : decode cX1_copyFrom 0 = .ok (.aload_n 1, 1) := by decide +kernel
theorem dX1_copyFrom_1 : decode cX1_copyFrom 1 = .ok (.getfield 9, 3) := by decide +kernel
theorem dX1_copyFrom_4 : decode cX1_copyFrom 4 = .ok (.iconst 0, 1) := by decide +kernel
theorem dX1_copyFrom_5 : decode cX1_copyFrom 5 = .ok (.aload_n 0, 1) := by decide +kernel
theorem dX1_copyFrom_6 : decode cX1_copyFrom 6 = .ok (.getfield 9, 3) := by decide +kernel
theorem dX1_copyFrom_9 : decode cX1_copyFrom 9 = .ok (.iconst 0, 1) := by decide +kernel
theorem dX1_copyFrom_10 : decode cX1_copyFrom 10 = .ok (.bipush 30, 2) := by decide +kernel
theorem dX1_copyFrom_12 : decode cX1_copyFrom 12 = .ok (.invokestatic 28, 3) := by decide +kernel
theorem dX1_copyFrom_15 : decode cX1_copyFrom 15 = .ok (.aload_n 1, 1) := by decide +kernel
theorem dX1_copyFrom_16 : decode cX1_copyFrom 16 = .ok (.getfield 15, 3) := by decide +kernel
theorem dX1_copyFrom_19 : decode cX1_copyFrom 19 = .ok (.iconst 0, 1) := by decide +kernel
theorem dX1_copyFrom_20 : decode cX1_copyFrom 20 = .ok (.aload_n 0, 1) := by decide +kernel
theorem dX1_copyFrom_21 : decode cX1_copyFrom 21 = .ok (.getfield 15, 3) := by decide +kernel
theorem dX1_copyFrom_24 : decode cX1_copyFrom 24 = .ok (.iconst 0, 1) := by decide +kernel
theorem dX1_copyFrom_25 : decode cX1_copyFrom 25 = .ok (.bipush 30, 2) := by decide +kernel
theorem dX1_copyFrom_27 : decode cX1_copyFrom 27 = .ok (.invokestatic 28, 3) := by decide +kernel
theorem dX1_copyFrom_30 : decode cX1_copyFrom 30 = .ok (.aload_n 0, 1) := by decide +kernel
theorem dX1_copyFrom_31 : decode cX1_copyFrom 31 = .ok (.aload_n 1, 1) := by decide +kernel
theorem dX1_copyFrom_32 : decode cX1_copyFrom 32 = .ok (.getfield 18, 3) := by decide +kernel
theorem dX1_copyFrom_35 : decode cX1_copyFrom 35 = .ok (.putfield 18, 3) := by decide +kernel
theorem dX1_copyFrom_38 : decode cX1_copyFrom 38 = .ok (.aload_n 0, 1) := by decide +kernel
theorem dX1_copyFrom_39 : decode cX1_copyFrom 39 = .ok (.aload_n 1, 1) := by decide +kernel
theorem dX1_copyFrom_40 : decode cX1_copyFrom 40 = .ok (.getfield 22, 3) := by decide +kernel
theorem dX1_copyFrom_43 : decode cX1_copyFrom 43 = .ok (.putfield 22, 3) := by decide +kernel
theorem dX1_copyFrom_46 : decode cX1_copyFrom 46 = .ok (.aload_n 0, 1) := by decide +kernel
theorem dX1_copyFrom_47 : decode cX1_copyFrom 47 = .ok (.aload_n 1, 1) := by decide +kernel
theorem dX1_copyFrom_48 : decode cX1_copyFrom 48 = .ok (.getfield 25, 3) := by decide +kernel
theorem dX1_copyFrom_51 : decode cX1_copyFrom 51 = .ok (.putfield 25, 3) := by decide +kernel
theorem dX1_copyFrom_54 : decode cX1_copyFrom 54 = .ok (.return_, 1) := by decide +kernel
theorem dX1_putNew_0 : decode cX1_putNew 0 = .ok (.aload_n 0, 1) := by decide +kernel
theorem dX1_putNew_1 : decode cX1_putNew 1 = .ok (.getfield 22, 3) := by decide +kernel
theorem dX1_putNew_4 : decode cX1_putNew 4 = .ok (.istore_n 3, 1) := by decide +kernel
theorem dX1_putNew_5 : decode cX1_putNew 5 = .ok (.aload_n 0, 1) := by decide +kernel
theorem dX1_putNew_6 : decode cX1_putNew 6 = .ok (.dup, 1) := by decide +kernel
theorem dX1_putNew_7 : decode cX1_putNew 7 = .ok (.getfield 22, 3) := by decide +kernel
theorem dX1_putNew_10 : decode cX1_putNew 10 = .ok (.iconst 1, 1) := by decide +kernel
theorem dX1_putNew_11 : decode cX1_putNew 11 = .ok (.iadd, 1) := by decide +kernel
theorem dX1_putNew_12 : decode cX1_putNew 12 = .ok (.putfield 22, 3) := by decide +kernel
theorem dX1_putNew_15 : decode cX1_putNew 15 = .ok (.aload_n 0, 1) := by decide +kernel
theorem dX1_putNew_16 : decode cX1_putNew 16 = .ok (.iload_n 1, 1) := by decide +kernel
theorem dX1_putNew_17 : decode cX1_putNew 17 = .ok (.iload_n 3, 1) := by decide +kernel
theorem dX1_putNew_18 : decode cX1_putNew 18 = .ok (.iload_n 2, 1) := by decide +kernel
theorem dX1_putNew_19 : decode cX1_putNew 19 = .ok (.invokevirtual 34, 3) := by decide +kernel
theorem dX1_putNew_22 : decode cX1_putNew 22 = .ok (.iload_n 3, 1) := by decide +kernel
theorem dX1_putNew_23 : decode cX1_putNew 23 = .ok (.ireturn, 1) := by decide +kernel
theorem dX1_putIn_0 : decode cX1_putIn 0 = .ok (.aload_n 0, 1) := by decide +kernel
theorem dX1_putIn_1 : decode cX1_putIn 1 = .ok (.getfield 18, 3) := by decide +kernel
theorem dX1_putIn_4 : decode cX1_putIn 4 = .ok (.istore 4, 2) := by decide +kernel
theorem dX1_putIn_6 : decode cX1_putIn 6 = .ok (.iload 4, 2) := by decide +kernel
theorem dX1_putIn_8 : decode cX1_putIn 8 = .ok (.iload_n 1, 1) := by decide +kernel
theorem dX1_putIn_9 : decode cX1_putIn 9 = .ok (.if_icmp .le 41, 3) := by decide +kernel
theorem dX1_putIn_12 : decode cX1_putIn 12 = .ok (.aload_n 0, 1) := by decide +kernel
theorem dX1_putIn_13 : decode cX1_putIn 13 = .ok (.getfield 9, 3) := by decide +kernel
theorem dX1_putIn_16 : decode cX1_putIn 16 = .ok (.iload 4, 2) := by decide +kernel
theorem dX1_putIn_18 : decode cX1_putIn 18 = .ok (.aload_n 0, 1) := by decide +kernel
theorem dX1_putIn_19 : decode cX1_putIn 19 = .ok (.getfield 9, 3) := by decide +kernel
theorem dX1_putIn_22 : decode cX1_putIn 22 = .ok (.iload 4, 2) := by decide +kernel
theorem dX1_putIn_24 : decode cX1_putIn 24 = .ok (.iconst 1, 1) := by decide +kernel
theorem dX1_putIn_25 : decode cX1_putIn 25 = .ok (.isub, 1) := by decide +kernel
theorem dX1_putIn_26 : decode cX1_putIn 26 = .ok (.iaload, 1) := by decide +kernel
theorem dX1_putIn_27 : decode cX1_putIn 27 = .ok (.iastore, 1) := by decide +kernel
theorem dX1_putIn_28 : decode cX1_putIn 28 = .ok (.aload_n 0, 1) := by decide +kernel
theorem dX1_putIn_29 : decode cX1_putIn 29 = .ok (.getfield 15, 3) := by decide +kernel
theorem dX1_putIn_32 : decode cX1_putIn 32 = .ok (.iload 4, 2) := by decide +kernel
theorem dX1_putIn_34 : decode cX1_putIn 34 = .ok (.aload_n 0, 1) := by decide +kernel
theorem dX1_putIn_35 : decode cX1_putIn 35 = .ok (.getfield 15, 3) := by decide +kernel
theorem dX1_putIn_38 : decode cX1_putIn 38 = .ok (.iload 4, 2) := by decide +kernel
theorem dX1_putIn_40 : decode cX1_putIn 40 = .ok (.iconst 1, 1) := by decide +kernel
theorem dX1_putIn_41 : decode cX1_putIn 41 = .ok (.isub, 1) := by decide +kernel
theorem dX1_putIn_42 : decode cX1_putIn 42 = .ok (.iaload, 1) := by decide +kernel
theorem dX1_putIn_43 : decode cX1_putIn 43 = .ok (.iastore, 1) := by decide +kernel
theorem dX1_putIn_44 : decode cX1_putIn 44 = .ok (.iinc 4 (-1), 3) := by decide +kernel
theorem dX1_putIn_47 : decode cX1_putIn 47 = .ok (.goto (-41), 3) := by decide +kernel
theorem dX1_putIn_50 : decode cX1_putIn 50 = .ok (.aload_n 0, 1) := by decide +kernel
theorem dX1_putIn_51 : decode cX1_putIn 51 = .ok (.getfield 9, 3) := by decide +kernel
theorem dX1_putIn_54 : decode cX1_putIn 54 = .ok (.iload_n 1, 1) := by decide +kernel
theorem dX1_putIn_55 : decode cX1_putIn 55 = .ok (.iload_n 2, 1) := by decide +kernel
theorem dX1_putIn_56 : decode cX1_putIn 56 = .ok (.iastore, 1) := by decide +kernel
theorem dX1_putIn_57 : decode cX1_putIn 57 = .ok (.aload_n 0, 1) := by decide +kernel
theorem dX1_putIn_58 : decode cX1_putIn 58 = .ok (.getfield 15, 3) := by decide +kernel
theorem dX1_putIn_61 : decode cX1_putIn 61 = .ok (.iload_n 1, 1) := by decide +kernel
theorem dX1_putIn_62 : decode cX1_putIn 62 = .ok (.iload_n 3, 1) := by decide +kernel
theorem dX1_putIn_63 : decode cX1_putIn 63 = .ok (.iastore, 1) := by decide +kernel
theorem dX1_putIn_64 : decode cX1_putIn 64 = .ok (.aload_n 0, 1) := by decide +kernel
theorem dX1_putIn_65 : decode cX1_putIn 65 = .ok (.dup, 1) := by decide +kernel
theorem dX1_putIn_66 : decode cX1_putIn 66 = .ok (.getfield 18, 3) := by decide +kernel
theorem dX1_putIn_69 : decode cX1_putIn 69 = .ok (.iconst 1, 1) := by decide +kernel
theorem dX1_putIn_70 : decode cX1_putIn 70 = .ok (.iadd, 1) := by decide +kernel
theorem dX1_putIn_71 : decode cX1_putIn 71 = .ok (.putfield 18, 3) := by decide +kernel
theorem dX1_putIn_74 : decode cX1_putIn 74 = .ok (.return_, 1) := by decide +kernel
theorem dX1_takeOut_0 : decode cX1_takeOut 0 = .ok (.aload_n 0, 1) := by decide +kernel
theorem dX1_takeOut_1 : decode cX1_takeOut 1 = .ok (.dup, 1) := by decide +kernel
theorem dX1_takeOut_2 : decode cX1_takeOut 2 = .ok (.getfield 18, 3) := by decide +kernel
theorem dX1_takeOut_5 : decode cX1_takeOut 5 = .ok (.iconst 1, 1) := by decide +kernel
theorem dX1_takeOut_6 : decode cX1_takeOut 6 = .ok (.isub, 1) := by decide +kernel
theorem dX1_takeOut_7 : decode cX1_takeOut 7 = .ok (.putfield 18, 3) := by decide +kernel
theorem dX1_takeOut_10 : decode cX1_takeOut 10 = .ok (.iload_n 1, 1) := by decide +kernel
theorem dX1_takeOut_11 : decode cX1_takeOut 11 = .ok (.istore_n 2, 1) := by decide +kernel
theorem dX1_takeOut_12 : decode cX1_takeOut 12 = .ok (.iload_n 2, 1) := by decide +kernel
theorem dX1_takeOut_13 : decode cX1_takeOut 13 = .ok (.aload_n 0, 1) := by decide +kernel
theorem dX1_takeOut_14 : decode cX1_takeOut 14 = .ok (.getfield 18, 3) := by decide +kernel
theorem dX1_takeOut_17 : decode cX1_takeOut 17 = .ok (.if_icmp .ge 37, 3) := by decide +kernel
theorem dX1_takeOut_20 : decode cX1_takeOut 20 = .ok (.aload_n 0, 1) := by decide +kernel
theorem dX1_takeOut_21 : decode cX1_takeOut 21 = .ok (.getfield 9, 3) := by decide +kernel
theorem dX1_takeOut_24 : decode cX1_takeOut 24 = .ok (.iload_n 2, 1) := by decide +kernel
theorem dX1_takeOut_25 : decode cX1_takeOut 25 = .ok (.aload_n 0, 1) := by decide +kernel
theorem dX1_takeOut_26 : decode cX1_takeOut 26 = .ok (.getfield 9, 3) := by decide +kernel
theorem dX1_takeOut_29 : decode cX1_takeOut 29 = .ok (.iload_n 2, 1) := by decide +kernel
theorem dX1_takeOut_30 : decode cX1_takeOut 30 = .ok (.iconst 1, 1) := by decide +kernel
theorem dX1_takeOut_31 : decode cX1_takeOut 31 = .ok (.iadd, 1) := by decide +kernel
theorem dX1_takeOut_32 : decode cX1_takeOut 32 = .ok (.iaload, 1) := by decide +kernel
theorem dX1_takeOut_33 : decode cX1_takeOut 33 = .ok (.iastore, 1) := by decide +kernel
theorem dX1_takeOut_34 : decode cX1_takeOut 34 = .ok (.aload_n 0, 1) := by decide +kernel
theorem dX1_takeOut_35 : decode cX1_takeOut 35 = .ok (.getfield 15, 3) := by decide +kernel
theorem dX1_takeOut_38 : decode cX1_takeOut 38 = .ok (.iload_n 2, 1) := by decide +kernel
theorem dX1_takeOut_39 : decode cX1_takeOut 39 = .ok (.aload_n 0, 1) := by decide +kernel
theorem dX1_takeOut_40 : decode cX1_takeOut 40 = .ok (.getfield 15, 3) := by decide +kernel
theorem dX1_takeOut_43 : decode cX1_takeOut 43 = .ok (.iload_n 2, 1) := by decide +kernel
theorem dX1_takeOut_44 : decode cX1_takeOut 44 = .ok (.iconst 1, 1) := by decide +kernel
theorem dX1_takeOut_45 : decode cX1_takeOut 45 = .ok (.iadd, 1) := by decide +kernel
theorem dX1_takeOut_46 : decode cX1_takeOut 46 = .ok (.iaload, 1) := by decide +kernel
theorem dX1_takeOut_47 : decode cX1_takeOut 47 = .ok (.iastore, 1) := by decide +kernel
theorem dX1_takeOut_48 : decode cX1_takeOut 48 = .ok (.iinc 2 1, 3) := by decide +kernel
theorem dX1_takeOut_51 : decode cX1_takeOut 51 = .ok (.goto (-39), 3) := by decide +kernel
theorem dX1_takeOut_54 : decode cX1_takeOut 54 = .ok (.return_, 1) := by decide +kernel
theorem dX1_placeOf_0 : decode cX1_placeOf 0 = .ok (.iconst 0, 1) := by decide +kernel
theorem dX1_placeOf_1 : decode cX1_placeOf 1 = .ok (.istore_n 2, 1) := by decide +kernel
theorem dX1_placeOf_2 : decode cX1_placeOf 2 = .ok (.iload_n 2, 1) := by decide +kernel
theorem dX1_placeOf_3 : decode cX1_placeOf 3 = .ok (.aload_n 0, 1) := by decide +kernel
theorem dX1_placeOf_4 : decode cX1_placeOf 4 = .ok (.getfield 18, 3) := by decide +kernel
theorem dX1_placeOf_7 : decode cX1_placeOf 7 = .ok (.if_icmp .ge 21, 3) := by decide +kernel
theorem dX1_placeOf_10 : decode cX1_placeOf 10 = .ok (.aload_n 0, 1) := by decide +kernel
theorem dX1_placeOf_11 : decode cX1_placeOf 11 = .ok (.getfield 9, 3) := by decide +kernel
theorem dX1_placeOf_14 : decode cX1_placeOf 14 = .ok (.iload_n 2, 1) := by decide +kernel
theorem dX1_placeOf_15 : decode cX1_placeOf 15 = .ok (.iaload, 1) := by decide +kernel
theorem dX1_placeOf_16 : decode cX1_placeOf 16 = .ok (.iload_n 1, 1) := by decide +kernel
theorem dX1_placeOf_17 : decode cX1_placeOf 17 = .ok (.if_icmp .ne 5, 3) := by decide +kernel
theorem dX1_placeOf_20 : decode cX1_placeOf 20 = .ok (.iload_n 2, 1) := by decide +kernel
theorem dX1_placeOf_21 : decode cX1_placeOf 21 = .ok (.ireturn, 1) := by decide +kernel
theorem dX1_placeOf_22 : decode cX1_placeOf 22 = .ok (.iinc 2 1, 3) := by decide +kernel
theorem dX1_placeOf_25 : decode cX1_placeOf 25 = .ok (.goto (-23), 3) := by decide +kernel
theorem dX1_placeOf_28 : decode cX1_placeOf 28 = .ok (.iconst (-1), 1) := by decide +kernel
theorem dX1_placeOf_29 : decode cX1_placeOf 29 = .ok (.ireturn, 1) := by decide +kernel
theorem dX1_sumOfPages_0 : decode cX1_sumOfPages 0 = .ok (.iconst 0, 1) := by decide +kernel
theorem dX1_sumOfPages_1 : decode cX1_sumOfPages 1 = .ok (.istore_n 1, 1) := by decide +kernel
theorem dX1_sumOfPages_2 : decode cX1_sumOfPages 2 = .ok (.iconst 0, 1) := by decide +kernel
theorem dX1_sumOfPages_3 : decode cX1_sumOfPages 3 = .ok (.istore_n 2, 1) := by decide +kernel
theorem dX1_sumOfPages_4 : decode cX1_sumOfPages 4 = .ok (.iload_n 2, 1) := by decide +kernel
theorem dX1_sumOfPages_5 : decode cX1_sumOfPages 5 = .ok (.aload_n 0, 1) := by decide +kernel
theorem dX1_sumOfPages_6 : decode cX1_sumOfPages 6 = .ok (.getfield 18, 3) := by decide +kernel
theorem dX1_sumOfPages_9 : decode cX1_sumOfPages 9 = .ok (.if_icmp .ge 18, 3) := by decide +kernel
theorem dX1_sumOfPages_12 : decode cX1_sumOfPages 12 = .ok (.iload_n 1, 1) := by decide +kernel
theorem dX1_sumOfPages_13 : decode cX1_sumOfPages 13 = .ok (.aload_n 0, 1) := by decide +kernel
theorem dX1_sumOfPages_14 : decode cX1_sumOfPages 14 = .ok (.getfield 15, 3) := by decide +kernel
theorem dX1_sumOfPages_17 : decode cX1_sumOfPages 17 = .ok (.iload_n 2, 1) := by decide +kernel
theorem dX1_sumOfPages_18 : decode cX1_sumOfPages 18 = .ok (.iaload, 1) := by decide +kernel
theorem dX1_sumOfPages_19 : decode cX1_sumOfPages 19 = .ok (.iadd, 1) := by decide +kernel
theorem dX1_sumOfPages_20 : decode cX1_sumOfPages 20 = .ok (.istore_n 1, 1) := by decide +kernel
theorem dX1_sumOfPages_21 : decode cX1_sumOfPages 21 = .ok (.iinc 2 1, 3) := by decide +kernel
theorem dX1_sumOfPages_24 : decode cX1_sumOfPages 24 = .ok (.goto (-20), 3) := by decide +kernel
theorem dX1_sumOfPages_27 : decode cX1_sumOfPages 27 = .ok (.iload_n 1, 1) := by decide +kernel
theorem dX1_sumOfPages_28 : decode cX1_sumOfPages 28 = .ok (.ireturn, 1) := by decide +kernel
theorem dX2_init_0 : decode cX2_init 0 = .ok (.aload_n 0, 1) := by decide +kernel
theorem dX2_init_1 : decode cX2_init 1 = .ok (.invokespecial 3, 3) := by decide +kernel
theorem dX2_init_4 : decode cX2_init 4 = .ok (.aload_n 0, 1) := by decide +kernel
theorem dX2_init_5 : decode cX2_init 5 = .ok (.bipush 6, 2) := by decide +kernel
theorem dX2_init_7 : decode cX2_init 7 = .ok (.anewarray 9, 3) := by decide +kernel
theorem dX2_init_10 : decode cX2_init 10 = .ok (.putfield 11, 3) := by decide +kernel
theorem dX2_init_13 : decode cX2_init 13 = .ok (.aload_n 0, 1) := by decide +kernel
theorem dX2_init_14 : decode cX2_init 14 = .ok (.iconst 0, 1) := by decide +kernel
theorem dX2_init_15 : decode cX2_init 15 = .ok (.putfield 17, 3) := by decide +kernel
theorem dX2_init_18 : decode cX2_init 18 = .ok (.aload_n 0, 1) := by decide +kernel
theorem dX2_init_19 : decode cX2_init 19 = .ok (.iconst 0, 1) := by decide +kernel
theorem dX2_init_20 : decode cX2_init 20 = .ok (.putfield 21, 3) := by decide +kernel
theorem dX2_init_23 : decode cX2_init 23 = .ok (.iconst 0, 1) := by decide +kernel
theorem dX2_init_24 : decode cX2_init 24 = .ok (.istore_n 1, 1) := by decide +kernel
theorem dX2_init_25 : decode cX2_init 25 = .ok (.iload_n 1, 1) := by decide +kernel
theorem dX2_init_26 : decode cX2_init 26 = .ok (.bipush 6, 2) := by decide +kernel
theorem dX2_init_28 : decode cX2_init 28 = .ok (.if_icmp .ge 22, 3) := by decide +kernel
theorem dX2_init_31 : decode cX2_init 31 = .ok (.aload_n 0, 1) := by decide +kernel
theorem dX2_init_32 : decode cX2_init 32 = .ok (.getfield 11, 3) := by decide +kernel
theorem dX2_init_35 : decode cX2_init 35 = .ok (.iload_n 1, 1) := by decide +kernel
theorem dX2_init_36 : decode cX2_init 36 = .ok (.new 9, 3) := by decide +kernel
theorem dX2_init_39 : decode cX2_init 39 = .ok (.dup, 1) := by decide +kernel
theorem dX2_init_40 : decode cX2_init 40 = .ok (.invokespecial 24, 3) := by decide +kernel
theorem dX2_init_43 : decode cX2_init 43 = .ok (.aastore, 1) := by decide +kernel
theorem dX2_init_44 : decode cX2_init 44 = .ok (.iinc 1 1, 3) := by decide +kernel
theorem dX2_init_47 : decode cX2_init 47 = .ok (.goto (-22), 3) := by decide +kernel
theorem dX2_init_50 : decode cX2_init 50 = .ok (.return_, 1) := by decide +kernel
theorem dX2_save_0 : decode cX2_save 0 = .ok (.aload_n 0, 1) := by decide +kernel
theorem dX2_save_1 : decode cX2_save 1 = .ok (.getfield 21, 3) := by decide +kernel
theorem dX2_save_4 : decode cX2_save 4 = .ok (.bipush 6, 2) := by decide +kernel
theorem dX2_save_6 : decode cX2_save 6 = .ok (.if_icmp .ne 26, 3) := by decide +kernel
theorem dX2_save_9 : decode cX2_save 9 = .ok (.aload_n 0, 1) := by decide +kernel
theorem dX2_save_10 : decode cX2_save 10 = .ok (.aload_n 0, 1) := by decide +kernel
theorem dX2_save_11 : decode cX2_save 11 = .ok (.getfield 17, 3) := by decide +kernel
theorem dX2_save_14 : decode cX2_save 14 = .ok (.iconst 1, 1) := by decide +kernel
theorem dX2_save_15 : decode cX2_save 15 = .ok (.iadd, 1) := by decide +kernel
theorem dX2_save_16 : decode cX2_save 16 = .ok (.bipush 6, 2) := by decide +kernel
theorem dX2_save_18 : decode cX2_save 18 = .ok (.irem, 1) := by decide +kernel
theorem dX2_save_19 : decode cX2_save 19 = .ok (.putfield 17, 3) := by decide +kernel
theorem dX2_save_22 : decode cX2_save 22 = .ok (.aload_n 0, 1) := by decide +kernel
theorem dX2_save_23 : decode cX2_save 23 = .ok (.dup, 1) := by decide +kernel
theorem dX2_save_24 : decode cX2_save 24 = .ok (.getfield 21, 3) := by decide +kernel
theorem dX2_save_27 : decode cX2_save 27 = .ok (.iconst 1, 1) := by decide +kernel
theorem dX2_save_28 : decode cX2_save 28 = .ok (.isub, 1) := by decide +kernel
theorem dX2_save_29 : decode cX2_save 29 = .ok (.putfield 21, 3) := by decide +kernel
theorem dX2_save_32 : decode cX2_save 32 = .ok (.aload_n 0, 1) := by decide +kernel
theorem dX2_save_33 : decode cX2_save 33 = .ok (.getfield 11, 3) := by decide +kernel
theorem dX2_save_36 : decode cX2_save 36 = .ok (.aload_n 0, 1) := by decide +kernel
theorem dX2_save_37 : decode cX2_save 37 = .ok (.getfield 17, 3) := by decide +kernel
theorem dX2_save_40 : decode cX2_save 40 = .ok (.aload_n 0, 1) := by decide +kernel
theorem dX2_save_41 : decode cX2_save 41 = .ok (.getfield 21, 3) := by decide +kernel
theorem dX2_save_44 : decode cX2_save 44 = .ok (.iadd, 1) := by decide +kernel
theorem dX2_save_45 : decode cX2_save 45 = .ok (.bipush 6, 2) := by decide +kernel
theorem dX2_save_47 : decode cX2_save 47 = .ok (.irem, 1) := by decide +kernel
theorem dX2_save_48 : decode cX2_save 48 = .ok (.aaload, 1) := by decide +kernel
theorem dX2_save_49 : decode cX2_save 49 = .ok (.aload_n 1, 1) := by decide +kernel
theorem dX2_save_50 : decode cX2_save 50 = .ok (.invokevirtual 25, 3) := by decide +kernel
theorem dX2_save_53 : decode cX2_save 53 = .ok (.aload_n 0, 1) := by decide +kernel
theorem dX2_save_54 : decode cX2_save 54 = .ok (.dup, 1) := by decide +kernel
theorem dX2_save_55 : decode cX2_save 55 = .ok (.getfield 21, 3) := by decide +kernel
theorem dX2_save_58 : decode cX2_save 58 = .ok (.iconst 1, 1) := by decide +kernel
theorem dX2_save_59 : decode cX2_save 59 = .ok (.iadd, 1) := by decide +kernel
theorem dX2_save_60 : decode cX2_save 60 = .ok (.putfield 21, 3) := by decide +kernel
theorem dX2_save_63 : decode cX2_save 63 = .ok (.return_, 1) := by decide +kernel
theorem dX2_restore_0 : decode cX2_restore 0 = .ok (.aload_n 0, 1) := by decide +kernel
theorem dX2_restore_1 : decode cX2_restore 1 = .ok (.dup, 1) := by decide +kernel
theorem dX2_restore_2 : decode cX2_restore 2 = .ok (.getfield 21, 3) := by decide +kernel
theorem dX2_restore_5 : decode cX2_restore 5 = .ok (.iconst 1, 1) := by decide +kernel
theorem dX2_restore_6 : decode cX2_restore 6 = .ok (.isub, 1) := by decide +kernel
theorem dX2_restore_7 : decode cX2_restore 7 = .ok (.putfield 21, 3) := by decide +kernel
theorem dX2_restore_10 : decode cX2_restore 10 = .ok (.aload_n 1, 1) := by decide +kernel
theorem dX2_restore_11 : decode cX2_restore 11 = .ok (.aload_n 0, 1) := by decide +kernel
theorem dX2_restore_12 : decode cX2_restore 12 = .ok (.getfield 11, 3) := by decide +kernel
theorem dX2_restore_15 : decode cX2_restore 15 = .ok (.aload_n 0, 1) := by decide +kernel
theorem dX2_restore_16 : decode cX2_restore 16 = .ok (.getfield 17, 3) := by decide +kernel
theorem dX2_restore_19 : decode cX2_restore 19 = .ok (.aload_n 0, 1) := by decide +kernel
theorem dX2_restore_20 : decode cX2_restore 20 = .ok (.getfield 21, 3) := by decide +kernel
theorem dX2_restore_23 : decode cX2_restore 23 = .ok (.iadd, 1) := by decide +kernel
theorem dX2_restore_24 : decode cX2_restore 24 = .ok (.bipush 6, 2) := by decide +kernel
theorem dX2_restore_26 : decode cX2_restore 26 = .ok (.irem, 1) := by decide +kernel
theorem dX2_restore_27 : decode cX2_restore 27 = .ok (.aaload, 1) := by decide +kernel
theorem dX2_restore_28 : decode cX2_restore 28 = .ok (.invokevirtual 25, 3) := by decide +kernel
theorem dX2_restore_31 : decode cX2_restore 31 = .ok (.return_, 1) := by decide +kernel
theorem dX3_init_0 : decode cX3_init 0 = .ok (.aload_n 0, 1) := by decide +kernel
theorem dX3_init_1 : decode cX3_init 1 = .ok (.invokespecial 3, 3) := by decide +kernel
theorem dX3_init_4 : decode cX3_init 4 = .ok (.aload_n 0, 1) := by decide +kernel
theorem dX3_init_5 : decode cX3_init 5 = .ok (.bipush 12, 2) := by decide +kernel
theorem dX3_init_7 : decode cX3_init 7 = .ok (.newarray .int, 2) := by decide +kernel
theorem dX3_init_9 : decode cX3_init 9 = .ok (.putfield 9, 3) := by decide +kernel
theorem dX3_init_12 : decode cX3_init 12 = .ok (.aload_n 0, 1) := by decide +kernel
theorem dX3_init_13 : decode cX3_init 13 = .ok (.bipush 72, 2) := by decide +kernel
theorem dX3_init_15 : decode cX3_init 15 = .ok (.newarray .int, 2) := by decide +kernel
theorem dX3_init_17 : decode cX3_init 17 = .ok (.putfield 15, 3) := by decide +kernel
theorem dX3_init_20 : decode cX3_init 20 = .ok (.iconst 0, 1) := by decide +kernel
theorem dX3_init_21 : decode cX3_init 21 = .ok (.istore_n 1, 1) := by decide +kernel
theorem dX3_init_22 : decode cX3_init 22 = .ok (.iload_n 1, 1) := by decide +kernel
theorem dX3_init_23 : decode cX3_init 23 = .ok (.bipush 12, 2) := by decide +kernel
theorem dX3_init_25 : decode cX3_init 25 = .ok (.if_icmp .ge 16, 3) := by decide +kernel
theorem dX3_init_28 : decode cX3_init 28 = .ok (.aload_n 0, 1) := by decide +kernel
theorem dX3_init_29 : decode cX3_init 29 = .ok (.getfield 9, 3) := by decide +kernel
theorem dX3_init_32 : decode cX3_init 32 = .ok (.iload_n 1, 1) := by decide +kernel
theorem dX3_init_33 : decode cX3_init 33 = .ok (.iconst (-1), 1) := by decide +kernel
theorem dX3_init_34 : decode cX3_init 34 = .ok (.iastore, 1) := by decide +kernel
theorem dX3_init_35 : decode cX3_init 35 = .ok (.iinc 1 1, 3) := by decide +kernel
theorem dX3_init_38 : decode cX3_init 38 = .ok (.goto (-16), 3) := by decide +kernel
theorem dX3_init_41 : decode cX3_init 41 = .ok (.return_, 1) := by decide +kernel
theorem dX3_copyFrom_0 : decode cX3_copyFrom 0 = .ok (.aload_n 1, 1) := by decide +kernel
theorem dX3_copyFrom_1 : decode cX3_copyFrom 1 = .ok (.getfield 9, 3) := by decide +kernel
theorem dX3_copyFrom_4 : decode cX3_copyFrom 4 = .ok (.iconst 0, 1) := by decide +kernel
theorem dX3_copyFrom_5 : decode cX3_copyFrom 5 = .ok (.aload_n 0, 1) := by decide +kernel
theorem dX3_copyFrom_6 : decode cX3_copyFrom 6 = .ok (.getfield 9, 3) := by decide +kernel
theorem dX3_copyFrom_9 : decode cX3_copyFrom 9 = .ok (.iconst 0, 1) := by decide +kernel
theorem dX3_copyFrom_10 : decode cX3_copyFrom 10 = .ok (.bipush 12, 2) := by decide +kernel
theorem dX3_copyFrom_12 : decode cX3_copyFrom 12 = .ok (.invokestatic 18, 3) := by decide +kernel
theorem dX3_copyFrom_15 : decode cX3_copyFrom 15 = .ok (.aload_n 1, 1) := by decide +kernel
theorem dX3_copyFrom_16 : decode cX3_copyFrom 16 = .ok (.getfield 15, 3) := by decide +kernel
theorem dX3_copyFrom_19 : decode cX3_copyFrom 19 = .ok (.iconst 0, 1) := by decide +kernel
theorem dX3_copyFrom_20 : decode cX3_copyFrom 20 = .ok (.aload_n 0, 1) := by decide +kernel
theorem dX3_copyFrom_21 : decode cX3_copyFrom 21 = .ok (.getfield 15, 3) := by decide +kernel
theorem dX3_copyFrom_24 : decode cX3_copyFrom 24 = .ok (.iconst 0, 1) := by decide +kernel
theorem dX3_copyFrom_25 : decode cX3_copyFrom 25 = .ok (.bipush 72, 2) := by decide +kernel
theorem dX3_copyFrom_27 : decode cX3_copyFrom 27 = .ok (.invokestatic 18, 3) := by decide +kernel
theorem dX3_copyFrom_30 : decode cX3_copyFrom 30 = .ok (.return_, 1) := by decide +kernel
theorem dX4_init_0 : decode cX4_init 0 = .ok (.aload_n 0, 1) := by decide +kernel
theorem dX4_init_1 : decode cX4_init 1 = .ok (.invokespecial 1, 3) := by decide +kernel
theorem dX4_init_4 : decode cX4_init 4 = .ok (.aload_n 0, 1) := by decide +kernel
theorem dX4_init_5 : decode cX4_init 5 = .ok (.new 7, 3) := by decide +kernel
theorem dX4_init_8 : decode cX4_init 8 = .ok (.dup, 1) := by decide +kernel
theorem dX4_init_9 : decode cX4_init 9 = .ok (.invokespecial 9, 3) := by decide +kernel
theorem dX4_init_12 : decode cX4_init 12 = .ok (.putfield 10, 3) := by decide +kernel
theorem dX4_init_15 : decode cX4_init 15 = .ok (.aload_n 0, 1) := by decide +kernel
theorem dX4_init_16 : decode cX4_init 16 = .ok (.new 16, 3) := by decide +kernel
theorem dX4_init_19 : decode cX4_init 19 = .ok (.dup, 1) := by decide +kernel
theorem dX4_init_20 : decode cX4_init 20 = .ok (.invokespecial 18, 3) := by decide +kernel
theorem dX4_init_23 : decode cX4_init 23 = .ok (.putfield 19, 3) := by decide +kernel
theorem dX4_init_26 : decode cX4_init 26 = .ok (.aload_n 0, 1) := by decide +kernel
theorem dX4_init_27 : decode cX4_init 27 = .ok (.new 23, 3) := by decide +kernel
theorem dX4_init_30 : decode cX4_init 30 = .ok (.dup, 1) := by decide +kernel
theorem dX4_init_31 : decode cX4_init 31 = .ok (.invokespecial 25, 3) := by decide +kernel
theorem dX4_init_34 : decode cX4_init 34 = .ok (.putfield 26, 3) := by decide +kernel
theorem dX4_init_37 : decode cX4_init 37 = .ok (.return_, 1) := by decide +kernel
theorem dX4_copyFrom_0 : decode cX4_copyFrom 0 = .ok (.aload_n 0, 1) := by decide +kernel
theorem dX4_copyFrom_1 : decode cX4_copyFrom 1 = .ok (.getfield 10, 3) := by decide +kernel
theorem dX4_copyFrom_4 : decode cX4_copyFrom 4 = .ok (.aload_n 1, 1) := by decide +kernel
theorem dX4_copyFrom_5 : decode cX4_copyFrom 5 = .ok (.getfield 10, 3) := by decide +kernel
theorem dX4_copyFrom_8 : decode cX4_copyFrom 8 = .ok (.invokevirtual 30, 3) := by decide +kernel
theorem dX4_copyFrom_11 : decode cX4_copyFrom 11 = .ok (.aload_n 0, 1) := by decide +kernel
theorem dX4_copyFrom_12 : decode cX4_copyFrom 12 = .ok (.getfield 19, 3) := by decide +kernel
theorem dX4_copyFrom_15 : decode cX4_copyFrom 15 = .ok (.aload_n 1, 1) := by decide +kernel
theorem dX4_copyFrom_16 : decode cX4_copyFrom 16 = .ok (.getfield 19, 3) := by decide +kernel
theorem dX4_copyFrom_19 : decode cX4_copyFrom 19 = .ok (.invokevirtual 34, 3) := by decide +kernel
theorem dX4_copyFrom_22 : decode cX4_copyFrom 22 = .ok (.aload_n 0, 1) := by decide +kernel
theorem dX4_copyFrom_23 : decode cX4_copyFrom 23 = .ok (.getfield 26, 3) := by decide +kernel
theorem dX4_copyFrom_26 : decode cX4_copyFrom 26 = .ok (.aload_n 1, 1) := by decide +kernel
theorem dX4_copyFrom_27 : decode cX4_copyFrom 27 = .ok (.getfield 26, 3) := by decide +kernel
theorem dX4_copyFrom_30 : decode cX4_copyFrom 30 = .ok (.invokevirtual 37, 3) := by decide +kernel
theorem dX4_copyFrom_33 : decode cX4_copyFrom 33 = .ok (.return_, 1) := by decide +kernel
theorem dX5_init_0 : decode cX5_init 0 = .ok (.aload_n 0, 1) := by decide +kernel
theorem dX5_init_1 : decode cX5_init 1 = .ok (.invokespecial 3, 3) := by decide +kernel
theorem dX5_init_4 : decode cX5_init 4 = .ok (.aload_n 0, 1) := by decide +kernel
theorem dX5_init_5 : decode cX5_init 5 = .ok (.bipush 60, 2) := by decide +kernel
theorem dX5_init_7 : decode cX5_init 7 = .ok (.newarray .int, 2) := by decide +kernel
theorem dX5_init_9 : decode cX5_init 9 = .ok (.putfield 9, 3) := by decide +kernel
theorem dX5_init_12 : decode cX5_init 12 = .ok (.aload_n 0, 1) := by decide +kernel
theorem dX5_init_13 : decode cX5_init 13 = .ok (.iconst 0, 1) := by decide +kernel
theorem dX5_init_14 : decode cX5_init 14 = .ok (.putfield 15, 3) := by decide +kernel
theorem dX5_init_17 : decode cX5_init 17 = .ok (.aload_n 0, 1) := by decide +kernel
theorem dX5_init_18 : decode cX5_init 18 = .ok (.bipush 6, 2) := by decide +kernel
theorem dX5_init_20 : decode cX5_init 20 = .ok (.newarray .int, 2) := by decide +kernel
theorem dX5_init_22 : decode cX5_init 22 = .ok (.putfield 19, 3) := by decide +kernel
theorem dX5_init_25 : decode cX5_init 25 = .ok (.aload_n 0, 1) := by decide +kernel
theorem dX5_init_26 : decode cX5_init 26 = .ok (.bipush 6, 2) := by decide +kernel
theorem dX5_init_28 : decode cX5_init 28 = .ok (.newarray .int, 2) := by decide +kernel
theorem dX5_init_30 : decode cX5_init 30 = .ok (.putfield 22, 3) := by decide +kernel
theorem dX5_init_33 : decode cX5_init 33 = .ok (.aload_n 0, 1) := by decide +kernel
theorem dX5_init_34 : decode cX5_init 34 = .ok (.iconst 0, 1) := by decide +kernel
theorem dX5_init_35 : decode cX5_init 35 = .ok (.putfield 25, 3) := by decide +kernel
theorem dX5_init_38 : decode cX5_init 38 = .ok (.aload_n 0, 1) := by decide +kernel
theorem dX5_init_39 : decode cX5_init 39 = .ok (.iconst 1, 1) := by decide +kernel
theorem dX5_init_40 : decode cX5_init 40 = .ok (.putfield 28, 3) := by decide +kernel
theorem dX5_init_43 : decode cX5_init 43 = .ok (.return_, 1) := by decide +kernel
theorem dX6_init_0 : decode cX6_init 0 = .ok (.aload_n 0, 1) := by decide +kernel
theorem dX6_init_1 : decode cX6_init 1 = .ok (.invokespecial 3, 3) := by decide +kernel
theorem dX6_init_4 : decode cX6_init 4 = .ok (.aload_n 0, 1) := by decide +kernel
theorem dX6_init_5 : decode cX6_init 5 = .ok (.bipush 30, 2) := by decide +kernel
theorem dX6_init_7 : decode cX6_init 7 = .ok (.newarray .int, 2) := by decide +kernel
theorem dX6_init_9 : decode cX6_init 9 = .ok (.putfield 9, 3) := by decide +kernel
theorem dX6_init_12 : decode cX6_init 12 = .ok (.aload_n 0, 1) := by decide +kernel
theorem dX6_init_13 : decode cX6_init 13 = .ok (.bipush 31, 2) := by decide +kernel
theorem dX6_init_15 : decode cX6_init 15 = .ok (.newarray .int, 2) := by decide +kernel
theorem dX6_init_17 : decode cX6_init 17 = .ok (.putfield 15, 3) := by decide +kernel
theorem dX6_init_20 : decode cX6_init 20 = .ok (.aload_n 0, 1) := by decide +kernel
theorem dX6_init_21 : decode cX6_init 21 = .ok (.iconst 0, 1) := by decide +kernel
theorem dX6_init_22 : decode cX6_init 22 = .ok (.putfield 18, 3) := by decide +kernel
theorem dX6_init_25 : decode cX6_init 25 = .ok (.return_, 1) := by decide +kernel
theorem dX6_dropOne_0 : decode cX6_dropOne 0 = .ok (.iconst 0, 1) := by decide +kernel
theorem dX6_dropOne_1 : decode cX6_dropOne 1 = .ok (.istore_n 3, 1) := by decide +kernel
theorem dX6_dropOne_2 : decode cX6_dropOne 2 = .ok (.iload_n 3, 1) := by decide +kernel
theorem dX6_dropOne_3 : decode cX6_dropOne 3 = .ok (.aload_n 1, 1) := by decide +kernel
theorem dX6_dropOne_4 : decode cX6_dropOne 4 = .ok (.getfield 22, 3) := by decide +kernel
theorem dX6_dropOne_7 : decode cX6_dropOne 7 = .ok (.if_icmp .ge 27, 3) := by decide +kernel
theorem dX6_dropOne_10 : decode cX6_dropOne 10 = .ok (.aload_n 0, 1) := by decide +kernel
theorem dX6_dropOne_11 : decode cX6_dropOne 11 = .ok (.getfield 9, 3) := by decide +kernel
theorem dX6_dropOne_14 : decode cX6_dropOne 14 = .ok (.iload_n 3, 1) := by decide +kernel
theorem dX6_dropOne_15 : decode cX6_dropOne 15 = .ok (.iload_n 3, 1) := by decide +kernel
theorem dX6_dropOne_16 : decode cX6_dropOne 16 = .ok (.iload_n 2, 1) := by decide +kernel
theorem dX6_dropOne_17 : decode cX6_dropOne 17 = .ok (.if_icmp .ge 7, 3) := by decide +kernel
theorem dX6_dropOne_20 : decode cX6_dropOne 20 = .ok (.iload_n 3, 1) := by decide +kernel
theorem dX6_dropOne_21 : decode cX6_dropOne 21 = .ok (.goto 6, 3) := by decide +kernel
theorem dX6_dropOne_24 : decode cX6_dropOne 24 = .ok (.iload_n 3, 1) := by decide +kernel
theorem dX6_dropOne_25 : decode cX6_dropOne 25 = .ok (.iconst 1, 1) := by decide +kernel
theorem dX6_dropOne_26 : decode cX6_dropOne 26 = .ok (.isub, 1) := by decide +kernel
theorem dX6_dropOne_27 : decode cX6_dropOne 27 = .ok (.iastore, 1) := by decide +kernel
theorem dX6_dropOne_28 : decode cX6_dropOne 28 = .ok (.iinc 3 1, 3) := by decide +kernel
theorem dX6_dropOne_31 : decode cX6_dropOne 31 = .ok (.goto (-29), 3) := by decide +kernel
theorem dX6_dropOne_34 : decode cX6_dropOne 34 = .ok (.aload_n 0, 1) := by decide +kernel
theorem dX6_dropOne_35 : decode cX6_dropOne 35 = .ok (.getfield 9, 3) := by decide +kernel
theorem dX6_dropOne_38 : decode cX6_dropOne 38 = .ok (.iload_n 2, 1) := by decide +kernel
theorem dX6_dropOne_39 : decode cX6_dropOne 39 = .ok (.iconst (-1), 1) := by decide +kernel
theorem dX6_dropOne_40 : decode cX6_dropOne 40 = .ok (.iastore, 1) := by decide +kernel
theorem dX6_dropOne_41 : decode cX6_dropOne 41 = .ok (.aload_n 0, 1) := by decide +kernel
theorem dX6_dropOne_42 : decode cX6_dropOne 42 = .ok (.aload_n 1, 1) := by decide +kernel
theorem dX6_dropOne_43 : decode cX6_dropOne 43 = .ok (.invokevirtual 25, 3) := by decide +kernel
theorem dX6_dropOne_46 : decode cX6_dropOne 46 = .ok (.aload_n 0, 1) := by decide +kernel
theorem dX6_dropOne_47 : decode cX6_dropOne 47 = .ok (.aload_n 1, 1) := by decide +kernel
theorem dX6_dropOne_48 : decode cX6_dropOne 48 = .ok (.getfield 22, 3) := by decide +kernel
theorem dX6_dropOne_51 : decode cX6_dropOne 51 = .ok (.iconst 1, 1) := by decide +kernel
theorem dX6_dropOne_52 : decode cX6_dropOne 52 = .ok (.isub, 1) := by decide +kernel
theorem dX6_dropOne_53 : decode cX6_dropOne 53 = .ok (.putfield 18, 3) := by decide +kernel
theorem dX6_dropOne_56 : decode cX6_dropOne 56 = .ok (.return_, 1) := by decide +kernel
theorem dX6_layPages_0 : decode cX6_layPages 0 = .ok (.iconst 0, 1) := by decide +kernel
theorem dX6_layPages_1 : decode cX6_layPages 1 = .ok (.istore_n 2, 1) := by decide +kernel
theorem dX6_layPages_2 : decode cX6_layPages 2 = .ok (.iload_n 2, 1) := by decide +kernel
theorem dX6_layPages_3 : decode cX6_layPages 3 = .ok (.aload_n 1, 1) := by decide +kernel
theorem dX6_layPages_4 : decode cX6_layPages 4 = .ok (.getfield 22, 3) := by decide +kernel
theorem dX6_layPages_7 : decode cX6_layPages 7 = .ok (.if_icmp .ge 36, 3) := by decide +kernel
theorem dX6_layPages_10 : decode cX6_layPages 10 = .ok (.aload_n 0, 1) := by decide +kernel
theorem dX6_layPages_11 : decode cX6_layPages 11 = .ok (.getfield 9, 3) := by decide +kernel
theorem dX6_layPages_14 : decode cX6_layPages 14 = .ok (.iload_n 2, 1) := by decide +kernel
theorem dX6_layPages_15 : decode cX6_layPages 15 = .ok (.iaload, 1) := by decide +kernel
theorem dX6_layPages_16 : decode cX6_layPages 16 = .ok (.iconst (-1), 1) := by decide +kernel
theorem dX6_layPages_17 : decode cX6_layPages 17 = .ok (.if_icmp .eq 20, 3) := by decide +kernel
theorem dX6_layPages_20 : decode cX6_layPages 20 = .ok (.aload_n 0, 1) := by decide +kernel
theorem dX6_layPages_21 : decode cX6_layPages 21 = .ok (.getfield 15, 3) := by decide +kernel
theorem dX6_layPages_24 : decode cX6_layPages 24 = .ok (.aload_n 0, 1) := by decide +kernel
theorem dX6_layPages_25 : decode cX6_layPages 25 = .ok (.getfield 9, 3) := by decide +kernel
theorem dX6_layPages_28 : decode cX6_layPages 28 = .ok (.iload_n 2, 1) := by decide +kernel
theorem dX6_layPages_29 : decode cX6_layPages 29 = .ok (.iaload, 1) := by decide +kernel
theorem dX6_layPages_30 : decode cX6_layPages 30 = .ok (.aload_n 1, 1) := by decide +kernel
theorem dX6_layPages_31 : decode cX6_layPages 31 = .ok (.getfield 29, 3) := by decide +kernel
theorem dX6_layPages_34 : decode cX6_layPages 34 = .ok (.iload_n 2, 1) := by decide +kernel
theorem dX6_layPages_35 : decode cX6_layPages 35 = .ok (.iaload, 1) := by decide +kernel
theorem dX6_layPages_36 : decode cX6_layPages 36 = .ok (.iastore, 1) := by decide +kernel
theorem dX6_layPages_37 : decode cX6_layPages 37 = .ok (.iinc 2 1, 3) := by decide +kernel
theorem dX6_layPages_40 : decode cX6_layPages 40 = .ok (.goto (-38), 3) := by decide +kernel
theorem dX6_layPages_43 : decode cX6_layPages 43 = .ok (.return_, 1) := by decide +kernel
theorem dX7_init_0 : decode cX7_init 0 = .ok (.aload_n 0, 1) := by decide +kernel
theorem dX7_init_1 : decode cX7_init 1 = .ok (.invokespecial 3, 3) := by decide +kernel
theorem dX7_init_4 : decode cX7_init 4 = .ok (.aload_n 0, 1) := by decide +kernel
theorem dX7_init_5 : decode cX7_init 5 = .ok (.bipush 30, 2) := by decide +kernel
theorem dX7_init_7 : decode cX7_init 7 = .ok (.newarray .int, 2) := by decide +kernel
theorem dX7_init_9 : decode cX7_init 9 = .ok (.putfield 9, 3) := by decide +kernel
theorem dX7_init_12 : decode cX7_init 12 = .ok (.aload_n 0, 1) := by decide +kernel
theorem dX7_init_13 : decode cX7_init 13 = .ok (.bipush 30, 2) := by decide +kernel
theorem dX7_init_15 : decode cX7_init 15 = .ok (.newarray .int, 2) := by decide +kernel
theorem dX7_init_17 : decode cX7_init 17 = .ok (.putfield 15, 3) := by decide +kernel
theorem dX7_init_20 : decode cX7_init 20 = .ok (.aload_n 0, 1) := by decide +kernel
theorem dX7_init_21 : decode cX7_init 21 = .ok (.bipush 30, 2) := by decide +kernel
theorem dX7_init_23 : decode cX7_init 23 = .ok (.newarray .int, 2) := by decide +kernel
theorem dX7_init_25 : decode cX7_init 25 = .ok (.putfield 18, 3) := by decide +kernel
theorem dX7_init_28 : decode cX7_init 28 = .ok (.aload_n 0, 1) := by decide +kernel
theorem dX7_init_29 : decode cX7_init 29 = .ok (.bipush 72, 2) := by decide +kernel
theorem dX7_init_31 : decode cX7_init 31 = .ok (.newarray .int, 2) := by decide +kernel
theorem dX7_init_33 : decode cX7_init 33 = .ok (.putfield 21, 3) := by decide +kernel
theorem dX7_init_36 : decode cX7_init 36 = .ok (.aload_n 0, 1) := by decide +kernel
theorem dX7_init_37 : decode cX7_init 37 = .ok (.bipush 72, 2) := by decide +kernel
theorem dX7_init_39 : decode cX7_init 39 = .ok (.newarray .boolean, 2) := by decide +kernel
theorem dX7_init_41 : decode cX7_init 41 = .ok (.putfield 24, 3) := by decide +kernel
theorem dX7_init_44 : decode cX7_init 44 = .ok (.aload_n 0, 1) := by decide +kernel
theorem dX7_init_45 : decode cX7_init 45 = .ok (.iconst 0, 1) := by decide +kernel
theorem dX7_init_46 : decode cX7_init 46 = .ok (.putfield 28, 3) := by decide +kernel
theorem dX7_init_49 : decode cX7_init 49 = .ok (.return_, 1) := by decide +kernel
theorem dX7_follow_0 : decode cX7_follow 0 = .ok (.aload_n 0, 1) := by decide +kernel
theorem dX7_follow_1 : decode cX7_follow 1 = .ok (.aload_n 1, 1) := by decide +kernel
theorem dX7_follow_2 : decode cX7_follow 2 = .ok (.getfield 32, 3) := by decide +kernel
theorem dX7_follow_5 : decode cX7_follow 5 = .ok (.invokevirtual 38, 3) := by decide +kernel
theorem dX7_follow_8 : decode cX7_follow 8 = .ok (.aload_n 0, 1) := by decide +kernel
theorem dX7_follow_9 : decode cX7_follow 9 = .ok (.aload_n 1, 1) := by decide +kernel
theorem dX7_follow_10 : decode cX7_follow 10 = .ok (.getfield 42, 3) := by decide +kernel
theorem dX7_follow_13 : decode cX7_follow 13 = .ok (.aload_n 1, 1) := by decide +kernel
theorem dX7_follow_14 : decode cX7_follow 14 = .ok (.getfield 32, 3) := by decide +kernel
theorem dX7_follow_17 : decode cX7_follow 17 = .ok (.invokevirtual 46, 3) := by decide +kernel
theorem dX7_follow_20 : decode cX7_follow 20 = .ok (.return_, 1) := by decide +kernel
theorem dX7_followExhibits_0 : decode cX7_followExhibits 0 = .ok (.iconst (-1), 1) := by decide +kernel
theorem dX7_followExhibits_1 : decode cX7_followExhibits 1 = .ok (.istore_n 2, 1) := by decide +kernel
theorem dX7_followExhibits_2 : decode cX7_followExhibits 2 = .ok (.iconst 0, 1) := by decide +kernel
theorem dX7_followExhibits_3 : decode cX7_followExhibits 3 = .ok (.istore_n 3, 1) := by decide +kernel
theorem dX7_followExhibits_4 : decode cX7_followExhibits 4 = .ok (.iconst 0, 1) := by decide +kernel
theorem dX7_followExhibits_5 : decode cX7_followExhibits 5 = .ok (.istore 4, 2) := by decide +kernel
theorem dX7_followExhibits_7 : decode cX7_followExhibits 7 = .ok (.iconst 0, 1) := by decide +kernel
theorem dX7_followExhibits_8 : decode cX7_followExhibits 8 = .ok (.istore 5, 2) := by decide +kernel
theorem dX7_followExhibits_10 : decode cX7_followExhibits 10 = .ok (.iconst 0, 1) := by decide +kernel
theorem dX7_followExhibits_11 : decode cX7_followExhibits 11 = .ok (.istore 6, 2) := by decide +kernel
theorem dX7_followExhibits_13 : decode cX7_followExhibits 13 = .ok (.iload 6, 2) := by decide +kernel
theorem dX7_followExhibits_15 : decode cX7_followExhibits 15 = .ok (.aload_n 1, 1) := by decide +kernel
theorem dX7_followExhibits_16 : decode cX7_followExhibits 16 = .ok (.getfield 50, 3) := by decide +kernel
theorem dX7_followExhibits_19 : decode cX7_followExhibits 19 = .ok (.if_icmp .ge 92, 3) := by decide +kernel
theorem dX7_followExhibits_22 : decode cX7_followExhibits 22 = .ok (.aload_n 1, 1) := by decide +kernel
theorem dX7_followExhibits_23 : decode cX7_followExhibits 23 = .ok (.getfield 55, 3) := by decide +kernel
theorem dX7_followExhibits_26 : decode cX7_followExhibits 26 = .ok (.iload 6, 2) := by decide +kernel
theorem dX7_followExhibits_28 : decode cX7_followExhibits 28 = .ok (.iaload, 1) := by decide +kernel
theorem dX7_followExhibits_29 : decode cX7_followExhibits 29 = .ok (.istore 7, 2) := by decide +kernel
theorem dX7_followExhibits_31 : decode cX7_followExhibits 31 = .ok (.iload 6, 2) := by decide +kernel
theorem dX7_followExhibits_33 : decode cX7_followExhibits 33 = .ok (.ifCond .eq 14, 3) := by decide +kernel
theorem dX7_followExhibits_36 : decode cX7_followExhibits 36 = .ok (.iload_n 3, 1) := by decide +kernel
theorem dX7_followExhibits_37 : decode cX7_followExhibits 37 = .ok (.iload 7, 2) := by decide +kernel
theorem dX7_followExhibits_39 : decode cX7_followExhibits 39 = .ok (.iadd, 1) := by decide +kernel
theorem dX7_followExhibits_40 : decode cX7_followExhibits 40 = .ok (.aload_n 1, 1) := by decide +kernel
theorem dX7_followExhibits_41 : decode cX7_followExhibits 41 = .ok (.getfield 58, 3) := by decide +kernel
theorem dX7_followExhibits_44 : decode cX7_followExhibits 44 = .ok (.if_icmp .le 11, 3) := by decide +kernel
theorem dX7_followExhibits_47 : decode cX7_followExhibits 47 = .ok (.iinc 2 1, 3) := by decide +kernel
theorem dX7_followExhibits_50 : decode cX7_followExhibits 50 = .ok (.iconst 0, 1) := by decide +kernel
theorem dX7_followExhibits_51 : decode cX7_followExhibits 51 = .ok (.istore_n 3, 1) := by decide +kernel
theorem dX7_followExhibits_52 : decode cX7_followExhibits 52 = .ok (.iconst 0, 1) := by decide +kernel
theorem dX7_followExhibits_53 : decode cX7_followExhibits 53 = .ok (.istore 4, 2) := by decide +kernel
theorem dX7_followExhibits_55 : decode cX7_followExhibits 55 = .ok (.aload_n 0, 1) := by decide +kernel
theorem dX7_followExhibits_56 : decode cX7_followExhibits 56 = .ok (.getfield 9, 3) := by decide +kernel
theorem dX7_followExhibits_59 : decode cX7_followExhibits 59 = .ok (.iload 6, 2) := by decide +kernel
theorem dX7_followExhibits_61 : decode cX7_followExhibits 61 = .ok (.iload_n 2, 1) := by decide +kernel
theorem dX7_followExhibits_62 : decode cX7_followExhibits 62 = .ok (.iastore, 1) := by decide +kernel
theorem dX7_followExhibits_63 : decode cX7_followExhibits 63 = .ok (.aload_n 0, 1) := by decide +kernel
theorem dX7_followExhibits_64 : decode cX7_followExhibits 64 = .ok (.getfield 15, 3) := by decide +kernel
theorem dX7_followExhibits_67 : decode cX7_followExhibits 67 = .ok (.iload 6, 2) := by decide +kernel
theorem dX7_followExhibits_69 : decode cX7_followExhibits 69 = .ok (.iload 4, 2) := by decide +kernel
theorem dX7_followExhibits_71 : decode cX7_followExhibits 71 = .ok (.iastore, 1) := by decide +kernel
theorem dX7_followExhibits_72 : decode cX7_followExhibits 72 = .ok (.aload_n 0, 1) := by decide +kernel
theorem dX7_followExhibits_73 : decode cX7_followExhibits 73 = .ok (.getfield 18, 3) := by decide +kernel
theorem dX7_followExhibits_76 : decode cX7_followExhibits 76 = .ok (.iload 6, 2) := by decide +kernel
theorem dX7_followExhibits_78 : decode cX7_followExhibits 78 = .ok (.iload 5, 2) := by decide +kernel
theorem dX7_followExhibits_80 : decode cX7_followExhibits 80 = .ok (.iload 6, 2) := by decide +kernel
theorem dX7_followExhibits_82 : decode cX7_followExhibits 82 = .ok (.iadd, 1) := by decide +kernel
theorem dX7_followExhibits_83 : decode cX7_followExhibits 83 = .ok (.iconst 1, 1) := by decide +kernel
theorem dX7_followExhibits_84 : decode cX7_followExhibits 84 = .ok (.iadd, 1) := by decide +kernel
theorem dX7_followExhibits_85 : decode cX7_followExhibits 85 = .ok (.iconst 2, 1) := by decide +kernel
theorem dX7_followExhibits_86 : decode cX7_followExhibits 86 = .ok (.iload_n 2, 1) := by decide +kernel
theorem dX7_followExhibits_87 : decode cX7_followExhibits 87 = .ok (.imul, 1) := by decide +kernel
theorem dX7_followExhibits_88 : decode cX7_followExhibits 88 = .ok (.iadd, 1) := by decide +kernel
theorem dX7_followExhibits_89 : decode cX7_followExhibits 89 = .ok (.iastore, 1) := by decide +kernel
theorem dX7_followExhibits_90 : decode cX7_followExhibits 90 = .ok (.iinc 4 1, 3) := by decide +kernel
theorem dX7_followExhibits_93 : decode cX7_followExhibits 93 = .ok (.iload_n 3, 1) := by decide +kernel
theorem dX7_followExhibits_94 : decode cX7_followExhibits 94 = .ok (.iload 7, 2) := by decide +kernel
theorem dX7_followExhibits_96 : decode cX7_followExhibits 96 = .ok (.iadd, 1) := by decide +kernel
theorem dX7_followExhibits_97 : decode cX7_followExhibits 97 = .ok (.istore_n 3, 1) := by decide +kernel
theorem dX7_followExhibits_98 : decode cX7_followExhibits 98 = .ok (.iload 5, 2) := by decide +kernel
theorem dX7_followExhibits_100 : decode cX7_followExhibits 100 = .ok (.iload 7, 2) := by decide +kernel
theorem dX7_followExhibits_102 : decode cX7_followExhibits 102 = .ok (.iadd, 1) := by decide +kernel
theorem dX7_followExhibits_103 : decode cX7_followExhibits 103 = .ok (.istore 5, 2) := by decide +kernel
theorem dX7_followExhibits_105 : decode cX7_followExhibits 105 = .ok (.iinc 6 1, 3) := by decide +kernel
theorem dX7_followExhibits_108 : decode cX7_followExhibits 108 = .ok (.goto (-95), 3) := by decide +kernel
theorem dX7_followExhibits_111 : decode cX7_followExhibits 111 = .ok (.aload_n 0, 1) := by decide +kernel
theorem dX7_followExhibits_112 : decode cX7_followExhibits 112 = .ok (.iload_n 2, 1) := by decide +kernel
theorem dX7_followExhibits_113 : decode cX7_followExhibits 113 = .ok (.iconst 1, 1) := by decide +kernel
theorem dX7_followExhibits_114 : decode cX7_followExhibits 114 = .ok (.iadd, 1) := by decide +kernel
theorem dX7_followExhibits_115 : decode cX7_followExhibits 115 = .ok (.putfield 28, 3) := by decide +kernel
theorem dX7_followExhibits_118 : decode cX7_followExhibits 118 = .ok (.return_, 1) := by decide +kernel
theorem dX7_followCitations_0 : decode cX7_followCitations 0 = .ok (.iconst 0, 1) := by decide +kernel
theorem dX7_followCitations_1 : decode cX7_followCitations 1 = .ok (.istore_n 3, 1) := by decide +kernel
theorem dX7_followCitations_2 : decode cX7_followCitations 2 = .ok (.iload_n 3, 1) := by decide +kernel
theorem dX7_followCitations_3 : decode cX7_followCitations 3 = .ok (.bipush 12, 2) := by decide +kernel
theorem dX7_followCitations_5 : decode cX7_followCitations 5 = .ok (.if_icmp .ge 94, 3) := by decide +kernel
theorem dX7_followCitations_8 : decode cX7_followCitations 8 = .ok (.iconst 0, 1) := by decide +kernel
theorem dX7_followCitations_9 : decode cX7_followCitations 9 = .ok (.istore 4, 2) := by decide +kernel
theorem dX7_followCitations_11 : decode cX7_followCitations 11 = .ok (.iload 4, 2) := by decide +kernel
theorem dX7_followCitations_13 : decode cX7_followCitations 13 = .ok (.aload_n 1, 1) := by decide +kernel
theorem dX7_followCitations_14 : decode cX7_followCitations 14 = .ok (.getfield 61, 3) := by decide +kernel
theorem dX7_followCitations_17 : decode cX7_followCitations 17 = .ok (.iload_n 3, 1) := by decide +kernel
theorem dX7_followCitations_18 : decode cX7_followCitations 18 = .ok (.iaload, 1) := by decide +kernel
theorem dX7_followCitations_19 : decode cX7_followCitations 19 = .ok (.if_icmp .ge 74, 3) := by decide +kernel
theorem dX7_followCitations_22 : decode cX7_followCitations 22 = .ok (.iload_n 3, 1) := by decide +kernel
theorem dX7_followCitations_23 : decode cX7_followCitations 23 = .ok (.iload 4, 2) := by decide +kernel
theorem dX7_followCitations_25 : decode cX7_followCitations 25 = .ok (.invokestatic 66, 3) := by decide +kernel
theorem dX7_followCitations_28 : decode cX7_followCitations 28 = .ok (.istore 5, 2) := by decide +kernel
theorem dX7_followCitations_30 : decode cX7_followCitations 30 = .ok (.aload_n 2, 1) := by decide +kernel
theorem dX7_followCitations_31 : decode cX7_followCitations 31 = .ok (.aload_n 1, 1) := by decide +kernel
theorem dX7_followCitations_32 : decode cX7_followCitations 32 = .ok (.getfield 70, 3) := by decide +kernel
theorem dX7_followCitations_35 : decode cX7_followCitations 35 = .ok (.iload 5, 2) := by decide +kernel
theorem dX7_followCitations_37 : decode cX7_followCitations 37 = .ok (.iaload, 1) := by decide +kernel
theorem dX7_followCitations_38 : decode cX7_followCitations 38 = .ok (.invokevirtual 73, 3) := by decide +kernel
theorem dX7_followCitations_41 : decode cX7_followCitations 41 = .ok (.istore 6, 2) := by decide +kernel
theorem dX7_followCitations_43 : decode cX7_followCitations 43 = .ok (.aload_n 0, 1) := by decide +kernel
theorem dX7_followCitations_44 : decode cX7_followCitations 44 = .ok (.getfield 21, 3) := by decide +kernel
theorem dX7_followCitations_47 : decode cX7_followCitations 47 = .ok (.iload 5, 2) := by decide +kernel
theorem dX7_followCitations_49 : decode cX7_followCitations 49 = .ok (.iload 6, 2) := by decide +kernel
theorem dX7_followCitations_51 : decode cX7_followCitations 51 = .ok (.iastore, 1) := by decide +kernel
theorem dX7_followCitations_52 : decode cX7_followCitations 52 = .ok (.aload_n 0, 1) := by decide +kernel
theorem dX7_followCitations_53 : decode cX7_followCitations 53 = .ok (.getfield 24, 3) := by decide +kernel
theorem dX7_followCitations_56 : decode cX7_followCitations 56 = .ok (.iload 5, 2) := by decide +kernel
theorem dX7_followCitations_58 : decode cX7_followCitations 58 = .ok (.iload 6, 2) := by decide +kernel
theorem dX7_followCitations_60 : decode cX7_followCitations 60 = .ok (.iconst (-1), 1) := by decide +kernel
theorem dX7_followCitations_61 : decode cX7_followCitations 61 = .ok (.if_icmp .eq 20, 3) := by decide +kernel
theorem dX7_followCitations_64 : decode cX7_followCitations 64 = .ok (.aload_n 1, 1) := by decide +kernel
theorem dX7_followCitations_65 : decode cX7_followCitations 65 = .ok (.getfield 77, 3) := by decide +kernel
theorem dX7_followCitations_68 : decode cX7_followCitations 68 = .ok (.iload 5, 2) := by decide +kernel
theorem dX7_followCitations_70 : decode cX7_followCitations 70 = .ok (.iaload, 1) := by decide +kernel
theorem dX7_followCitations_71 : decode cX7_followCitations 71 = .ok (.aload_n 2, 1) := by decide +kernel
theorem dX7_followCitations_72 : decode cX7_followCitations 72 = .ok (.getfield 55, 3) := by decide +kernel
theorem dX7_followCitations_75 : decode cX7_followCitations 75 = .ok (.iload 6, 2) := by decide +kernel
theorem dX7_followCitations_77 : decode cX7_followCitations 77 = .ok (.iaload, 1) := by decide +kernel
theorem dX7_followCitations_78 : decode cX7_followCitations 78 = .ok (.if_icmp .le 7, 3) := by decide +kernel
theorem dX7_followCitations_81 : decode cX7_followCitations 81 = .ok (.iconst 1, 1) := by decide +kernel
theorem dX7_followCitations_82 : decode cX7_followCitations 82 = .ok (.goto 4, 3) := by decide +kernel
theorem dX7_followCitations_85 : decode cX7_followCitations 85 = .ok (.iconst 0, 1) := by decide +kernel
theorem dX7_followCitations_86 : decode cX7_followCitations 86 = .ok (.bastore, 1) := by decide +kernel
theorem dX7_followCitations_87 : decode cX7_followCitations 87 = .ok (.iinc 4 1, 3) := by decide +kernel
theorem dX7_followCitations_90 : decode cX7_followCitations 90 = .ok (.goto (-79), 3) := by decide +kernel
theorem dX7_followCitations_93 : decode cX7_followCitations 93 = .ok (.iinc 3 1, 3) := by decide +kernel
theorem dX7_followCitations_96 : decode cX7_followCitations 96 = .ok (.goto (-94), 3) := by decide +kernel
theorem dX7_followCitations_99 : decode cX7_followCitations 99 = .ok (.return_, 1) := by decide +kernel
theorem dX8_init_0 : decode cX8_init 0 = .ok (.aload_n 0, 1) := by decide +kernel
theorem dX8_init_1 : decode cX8_init 1 = .ok (.invokespecial 3, 3) := by decide +kernel
theorem dX8_init_4 : decode cX8_init 4 = .ok (.aload_n 0, 1) := by decide +kernel
theorem dX8_init_5 : decode cX8_init 5 = .ok (.new 9, 3) := by decide +kernel
theorem dX8_init_8 : decode cX8_init 8 = .ok (.dup, 1) := by decide +kernel
theorem dX8_init_9 : decode cX8_init 9 = .ok (.invokespecial 11, 3) := by decide +kernel
theorem dX8_init_12 : decode cX8_init 12 = .ok (.putfield 12, 3) := by decide +kernel
theorem dX8_init_15 : decode cX8_init 15 = .ok (.aload_n 0, 1) := by decide +kernel
theorem dX8_init_16 : decode cX8_init 16 = .ok (.new 16, 3) := by decide +kernel
theorem dX8_init_19 : decode cX8_init 19 = .ok (.dup, 1) := by decide +kernel
theorem dX8_init_20 : decode cX8_init 20 = .ok (.invokespecial 18, 3) := by decide +kernel
theorem dX8_init_23 : decode cX8_init 23 = .ok (.putfield 19, 3) := by decide +kernel
theorem dX8_init_26 : decode cX8_init 26 = .ok (.aload_n 0, 1) := by decide +kernel
theorem dX8_init_27 : decode cX8_init 27 = .ok (.new 23, 3) := by decide +kernel
theorem dX8_init_30 : decode cX8_init 30 = .ok (.dup, 1) := by decide +kernel
theorem dX8_init_31 : decode cX8_init 31 = .ok (.invokespecial 25, 3) := by decide +kernel
theorem dX8_init_34 : decode cX8_init 34 = .ok (.putfield 26, 3) := by decide +kernel
theorem dX8_init_37 : decode cX8_init 37 = .ok (.aload_n 0, 1) := by decide +kernel
theorem dX8_init_38 : decode cX8_init 38 = .ok (.new 30, 3) := by decide +kernel
theorem dX8_init_41 : decode cX8_init 41 = .ok (.dup, 1) := by decide +kernel
theorem dX8_init_42 : decode cX8_init 42 = .ok (.invokespecial 32, 3) := by decide +kernel
theorem dX8_init_45 : decode cX8_init 45 = .ok (.putfield 33, 3) := by decide +kernel
theorem dX8_init_48 : decode cX8_init 48 = .ok (.aload_n 0, 1) := by decide +kernel
theorem dX8_init_49 : decode cX8_init 49 = .ok (.new 37, 3) := by decide +kernel
theorem dX8_init_52 : decode cX8_init 52 = .ok (.dup, 1) := by decide +kernel
theorem dX8_init_53 : decode cX8_init 53 = .ok (.invokespecial 39, 3) := by decide +kernel
theorem dX8_init_56 : decode cX8_init 56 = .ok (.putfield 40, 3) := by decide +kernel
theorem dX8_init_59 : decode cX8_init 59 = .ok (.aload_n 0, 1) := by decide +kernel
theorem dX8_init_60 : decode cX8_init 60 = .ok (.bipush 30, 2) := by decide +kernel
theorem dX8_init_62 : decode cX8_init 62 = .ok (.newarray .int, 2) := by decide +kernel
theorem dX8_init_64 : decode cX8_init 64 = .ok (.putfield 44, 3) := by decide +kernel
theorem dX8_init_67 : decode cX8_init 67 = .ok (.iconst 0, 1) := by decide +kernel
theorem dX8_init_68 : decode cX8_init 68 = .ok (.istore_n 1, 1) := by decide +kernel
theorem dX8_init_69 : decode cX8_init 69 = .ok (.iload_n 1, 1) := by decide +kernel
theorem dX8_init_70 : decode cX8_init 70 = .ok (.bipush 30, 2) := by decide +kernel
theorem dX8_init_72 : decode cX8_init 72 = .ok (.if_icmp .ge 16, 3) := by decide +kernel
theorem dX8_init_75 : decode cX8_init 75 = .ok (.aload_n 0, 1) := by decide +kernel
theorem dX8_init_76 : decode cX8_init 76 = .ok (.getfield 44, 3) := by decide +kernel
theorem dX8_init_79 : decode cX8_init 79 = .ok (.iload_n 1, 1) := by decide +kernel
theorem dX8_init_80 : decode cX8_init 80 = .ok (.iload_n 1, 1) := by decide +kernel
theorem dX8_init_81 : decode cX8_init 81 = .ok (.iastore, 1) := by decide +kernel
theorem dX8_init_82 : decode cX8_init 82 = .ok (.iinc 1 1, 3) := by decide +kernel
theorem dX8_init_85 : decode cX8_init 85 = .ok (.goto (-16), 3) := by decide +kernel
theorem dX8_init_88 : decode cX8_init 88 = .ok (.return_, 1) := by decide +kernel
theorem dX8_insert_0 : decode cX8_insert 0 = .ok (.aload_n 0, 1) := by decide +kernel
theorem dX8_insert_1 : decode cX8_insert 1 = .ok (.getfield 12, 3) := by decide +kernel
theorem dX8_insert_4 : decode cX8_insert 4 = .ok (.getfield 48, 3) := by decide +kernel
theorem dX8_insert_7 : decode cX8_insert 7 = .ok (.astore_n 3, 1) := by decide +kernel
theorem dX8_insert_8 : decode cX8_insert 8 = .ok (.aload_n 0, 1) := by decide +kernel
theorem dX8_insert_9 : decode cX8_insert 9 = .ok (.iload_n 1, 1) := by decide +kernel
theorem dX8_insert_10 : decode cX8_insert 10 = .ok (.invokevirtual 52, 3) := by decide +kernel
theorem dX8_insert_13 : decode cX8_insert 13 = .ok (.iload_n 2, 1) := by decide +kernel
theorem dX8_insert_14 : decode cX8_insert 14 = .ok (.invokestatic 56, 3) := by decide +kernel
theorem dX8_insert_17 : decode cX8_insert 17 = .ok (.aload_n 0, 1) := by decide +kernel
theorem dX8_insert_18 : decode cX8_insert 18 = .ok (.invokevirtual 59, 3) := by decide +kernel
theorem dX8_insert_21 : decode cX8_insert 21 = .ok (.aload_n 0, 1) := by decide +kernel
theorem dX8_insert_22 : decode cX8_insert 22 = .ok (.getfield 33, 3) := by decide +kernel
theorem dX8_insert_25 : decode cX8_insert 25 = .ok (.aload_n 0, 1) := by decide +kernel
theorem dX8_insert_26 : decode cX8_insert 26 = .ok (.getfield 12, 3) := by decide +kernel
theorem dX8_insert_29 : decode cX8_insert 29 = .ok (.invokevirtual 62, 3) := by decide +kernel
theorem dX8_insert_32 : decode cX8_insert 32 = .ok (.aload_n 3, 1) := by decide +kernel
theorem dX8_insert_33 : decode cX8_insert 33 = .ok (.iload_n 1, 1) := by decide +kernel
theorem dX8_insert_34 : decode cX8_insert 34 = .ok (.iload_n 2, 1) := by decide +kernel
theorem dX8_insert_35 : decode cX8_insert 35 = .ok (.invokevirtual 66, 3) := by decide +kernel
theorem dX8_insert_38 : decode cX8_insert 38 = .ok (.istore 4, 2) := by decide +kernel
theorem dX8_insert_40 : decode cX8_insert 40 = .ok (.aload_n 0, 1) := by decide +kernel
theorem dX8_insert_41 : decode cX8_insert 41 = .ok (.getfield 19, 3) := by decide +kernel
theorem dX8_insert_44 : decode cX8_insert 44 = .ok (.aload_n 0, 1) := by decide +kernel
theorem dX8_insert_45 : decode cX8_insert 45 = .ok (.getfield 12, 3) := by decide +kernel
theorem dX8_insert_48 : decode cX8_insert 48 = .ok (.invokevirtual 72, 3) := by decide +kernel
theorem dX8_insert_51 : decode cX8_insert 51 = .ok (.iload 4, 2) := by decide +kernel
theorem dX8_insert_53 : decode cX8_insert 53 = .ok (.ireturn, 1) := by decide +kernel
theorem dX8_move_0 : decode cX8_move 0 = .ok (.aload_n 0, 1) := by decide +kernel
theorem dX8_move_1 : decode cX8_move 1 = .ok (.getfield 12, 3) := by decide +kernel
theorem dX8_move_4 : decode cX8_move 4 = .ok (.getfield 48, 3) := by decide +kernel
theorem dX8_move_7 : decode cX8_move 7 = .ok (.astore_n 3, 1) := by decide +kernel
theorem dX8_move_8 : decode cX8_move 8 = .ok (.aload_n 0, 1) := by decide +kernel
theorem dX8_move_9 : decode cX8_move 9 = .ok (.iload_n 1, 1) := by decide +kernel
theorem dX8_move_10 : decode cX8_move 10 = .ok (.invokevirtual 75, 3) := by decide +kernel
theorem dX8_move_13 : decode cX8_move 13 = .ok (.aload_n 0, 1) := by decide +kernel
theorem dX8_move_14 : decode cX8_move 14 = .ok (.iload_n 2, 1) := by decide +kernel
theorem dX8_move_15 : decode cX8_move 15 = .ok (.invokevirtual 75, 3) := by decide +kernel
theorem dX8_move_18 : decode cX8_move 18 = .ok (.aload_n 0, 1) := by decide +kernel
theorem dX8_move_19 : decode cX8_move 19 = .ok (.getfield 33, 3) := by decide +kernel
theorem dX8_move_22 : decode cX8_move 22 = .ok (.aload_n 0, 1) := by decide +kernel
theorem dX8_move_23 : decode cX8_move 23 = .ok (.getfield 12, 3) := by decide +kernel
theorem dX8_move_26 : decode cX8_move 26 = .ok (.invokevirtual 62, 3) := by decide +kernel
theorem dX8_move_29 : decode cX8_move 29 = .ok (.aload_n 3, 1) := by decide +kernel
theorem dX8_move_30 : decode cX8_move 30 = .ok (.getfield 78, 3) := by decide +kernel
theorem dX8_move_33 : decode cX8_move 33 = .ok (.iload_n 1, 1) := by decide +kernel
theorem dX8_move_34 : decode cX8_move 34 = .ok (.iaload, 1) := by decide +kernel
theorem dX8_move_35 : decode cX8_move 35 = .ok (.istore 4, 2) := by decide +kernel
theorem dX8_move_37 : decode cX8_move 37 = .ok (.aload_n 3, 1) := by decide +kernel
theorem dX8_move_38 : decode cX8_move 38 = .ok (.getfield 81, 3) := by decide +kernel
theorem dX8_move_41 : decode cX8_move 41 = .ok (.iload_n 1, 1) := by decide +kernel
theorem dX8_move_42 : decode cX8_move 42 = .ok (.iaload, 1) := by decide +kernel
theorem dX8_move_43 : decode cX8_move 43 = .ok (.istore 5, 2) := by decide +kernel
theorem dX8_move_45 : decode cX8_move 45 = .ok (.aload_n 3, 1) := by decide +kernel
theorem dX8_move_46 : decode cX8_move 46 = .ok (.iload_n 1, 1) := by decide +kernel
theorem dX8_move_47 : decode cX8_move 47 = .ok (.invokevirtual 84, 3) := by decide +kernel
theorem dX8_move_50 : decode cX8_move 50 = .ok (.aload_n 3, 1) := by decide +kernel
theorem dX8_move_51 : decode cX8_move 51 = .ok (.iload_n 2, 1) := by decide +kernel
theorem dX8_move_52 : decode cX8_move 52 = .ok (.iload 4, 2) := by decide +kernel
theorem dX8_move_54 : decode cX8_move 54 = .ok (.iload 5, 2) := by decide +kernel
theorem dX8_move_56 : decode cX8_move 56 = .ok (.invokevirtual 87, 3) := by decide +kernel
theorem dX8_move_59 : decode cX8_move 59 = .ok (.aload_n 0, 1) := by decide +kernel
theorem dX8_move_60 : decode cX8_move 60 = .ok (.getfield 19, 3) := by decide +kernel
theorem dX8_move_63 : decode cX8_move 63 = .ok (.aload_n 0, 1) := by decide +kernel
theorem dX8_move_64 : decode cX8_move 64 = .ok (.getfield 12, 3) := by decide +kernel
theorem dX8_move_67 : decode cX8_move 67 = .ok (.invokevirtual 72, 3) := by decide +kernel
theorem dX8_move_70 : decode cX8_move 70 = .ok (.iload 4, 2) := by decide +kernel
theorem dX8_move_72 : decode cX8_move 72 = .ok (.ireturn, 1) := by decide +kernel
theorem dX8_drop_0 : decode cX8_drop 0 = .ok (.aload_n 0, 1) := by decide +kernel
theorem dX8_drop_1 : decode cX8_drop 1 = .ok (.iload_n 1, 1) := by decide +kernel
theorem dX8_drop_2 : decode cX8_drop 2 = .ok (.invokevirtual 75, 3) := by decide +kernel
theorem dX8_drop_5 : decode cX8_drop 5 = .ok (.aload_n 0, 1) := by decide +kernel
theorem dX8_drop_6 : decode cX8_drop 6 = .ok (.getfield 33, 3) := by decide +kernel
theorem dX8_drop_9 : decode cX8_drop 9 = .ok (.aload_n 0, 1) := by decide +kernel
theorem dX8_drop_10 : decode cX8_drop 10 = .ok (.getfield 12, 3) := by decide +kernel
theorem dX8_drop_13 : decode cX8_drop 13 = .ok (.invokevirtual 62, 3) := by decide +kernel
theorem dX8_drop_16 : decode cX8_drop 16 = .ok (.aload_n 0, 1) := by decide +kernel
theorem dX8_drop_17 : decode cX8_drop 17 = .ok (.iload_n 1, 1) := by decide +kernel
theorem dX8_drop_18 : decode cX8_drop 18 = .ok (.invokevirtual 91, 3) := by decide +kernel
theorem dX8_drop_21 : decode cX8_drop 21 = .ok (.istore_n 2, 1) := by decide +kernel
theorem dX8_drop_22 : decode cX8_drop 22 = .ok (.aload_n 0, 1) := by decide +kernel
theorem dX8_drop_23 : decode cX8_drop 23 = .ok (.getfield 12, 3) := by decide +kernel
theorem dX8_drop_26 : decode cX8_drop 26 = .ok (.getfield 48, 3) := by decide +kernel
theorem dX8_drop_29 : decode cX8_drop 29 = .ok (.iload_n 1, 1) := by decide +kernel
theorem dX8_drop_30 : decode cX8_drop 30 = .ok (.invokevirtual 84, 3) := by decide +kernel
theorem dX8_drop_33 : decode cX8_drop 33 = .ok (.aload_n 0, 1) := by decide +kernel
theorem dX8_drop_34 : decode cX8_drop 34 = .ok (.getfield 19, 3) := by decide +kernel
theorem dX8_drop_37 : decode cX8_drop 37 = .ok (.aload_n 0, 1) := by decide +kernel
theorem dX8_drop_38 : decode cX8_drop 38 = .ok (.getfield 12, 3) := by decide +kernel
theorem dX8_drop_41 : decode cX8_drop 41 = .ok (.invokevirtual 72, 3) := by decide +kernel
theorem dX8_drop_44 : decode cX8_drop 44 = .ok (.iload_n 2, 1) := by decide +kernel
theorem dX8_drop_45 : decode cX8_drop 45 = .ok (.ireturn, 1) := by decide +kernel
theorem dX8_pages_0 : decode cX8_pages 0 = .ok (.aload_n 0, 1) := by decide +kernel
theorem dX8_pages_1 : decode cX8_pages 1 = .ok (.iload_n 1, 1) := by decide +kernel
theorem dX8_pages_2 : decode cX8_pages 2 = .ok (.invokevirtual 75, 3) := by decide +kernel
theorem dX8_pages_5 : decode cX8_pages 5 = .ok (.iload_n 2, 1) := by decide +kernel
theorem dX8_pages_6 : decode cX8_pages 6 = .ok (.invokestatic 56, 3) := by decide +kernel
theorem dX8_pages_9 : decode cX8_pages 9 = .ok (.aload_n 0, 1) := by decide +kernel
theorem dX8_pages_10 : decode cX8_pages 10 = .ok (.getfield 33, 3) := by decide +kernel
theorem dX8_pages_13 : decode cX8_pages 13 = .ok (.aload_n 0, 1) := by decide +kernel
theorem dX8_pages_14 : decode cX8_pages 14 = .ok (.getfield 12, 3) := by decide +kernel
theorem dX8_pages_17 : decode cX8_pages 17 = .ok (.invokevirtual 62, 3) := by decide +kernel
theorem dX8_pages_20 : decode cX8_pages 20 = .ok (.aload_n 0, 1) := by decide +kernel
theorem dX8_pages_21 : decode cX8_pages 21 = .ok (.getfield 12, 3) := by decide +kernel
theorem dX8_pages_24 : decode cX8_pages 24 = .ok (.getfield 48, 3) := by decide +kernel
theorem dX8_pages_27 : decode cX8_pages 27 = .ok (.getfield 81, 3) := by decide +kernel
theorem dX8_pages_30 : decode cX8_pages 30 = .ok (.iload_n 1, 1) := by decide +kernel
theorem dX8_pages_31 : decode cX8_pages 31 = .ok (.iaload, 1) := by decide +kernel
theorem dX8_pages_32 : decode cX8_pages 32 = .ok (.istore_n 3, 1) := by decide +kernel
theorem dX8_pages_33 : decode cX8_pages 33 = .ok (.aload_n 0, 1) := by decide +kernel
theorem dX8_pages_34 : decode cX8_pages 34 = .ok (.getfield 12, 3) := by decide +kernel
theorem dX8_pages_37 : decode cX8_pages 37 = .ok (.getfield 48, 3) := by decide +kernel
theorem dX8_pages_40 : decode cX8_pages 40 = .ok (.getfield 81, 3) := by decide +kernel
theorem dX8_pages_43 : decode cX8_pages 43 = .ok (.iload_n 1, 1) := by decide +kernel
theorem dX8_pages_44 : decode cX8_pages 44 = .ok (.iload_n 2, 1) := by decide +kernel
theorem dX8_pages_45 : decode cX8_pages 45 = .ok (.iastore, 1) := by decide +kernel
theorem dX8_pages_46 : decode cX8_pages 46 = .ok (.aload_n 0, 1) := by decide +kernel
theorem dX8_pages_47 : decode cX8_pages 47 = .ok (.getfield 19, 3) := by decide +kernel
theorem dX8_pages_50 : decode cX8_pages 50 = .ok (.aload_n 0, 1) := by decide +kernel
theorem dX8_pages_51 : decode cX8_pages 51 = .ok (.getfield 12, 3) := by decide +kernel
theorem dX8_pages_54 : decode cX8_pages 54 = .ok (.invokevirtual 72, 3) := by decide +kernel
theorem dX8_pages_57 : decode cX8_pages 57 = .ok (.iload_n 3, 1) := by decide +kernel
theorem dX8_pages_58 : decode cX8_pages 58 = .ok (.ireturn, 1) := by decide +kernel
theorem dX8_join_0 : decode cX8_join 0 = .ok (.aload_n 0, 1) := by decide +kernel
theorem dX8_join_1 : decode cX8_join 1 = .ok (.getfield 12, 3) := by decide +kernel
theorem dX8_join_4 : decode cX8_join 4 = .ok (.getfield 48, 3) := by decide +kernel
theorem dX8_join_7 : decode cX8_join 7 = .ok (.astore_n 2, 1) := by decide +kernel
theorem dX8_join_8 : decode cX8_join 8 = .ok (.aload_n 0, 1) := by decide +kernel
theorem dX8_join_9 : decode cX8_join 9 = .ok (.iload_n 1, 1) := by decide +kernel
theorem dX8_join_10 : decode cX8_join 10 = .ok (.invokevirtual 75, 3) := by decide +kernel
theorem dX8_join_13 : decode cX8_join 13 = .ok (.iload_n 1, 1) := by decide +kernel
theorem dX8_join_14 : decode cX8_join 14 = .ok (.aload_n 2, 1) := by decide +kernel
theorem dX8_join_15 : decode cX8_join 15 = .ok (.getfield 95, 3) := by decide +kernel
theorem dX8_join_18 : decode cX8_join 18 = .ok (.iconst 1, 1) := by decide +kernel
theorem dX8_join_19 : decode cX8_join 19 = .ok (.isub, 1) := by decide +kernel
theorem dX8_join_20 : decode cX8_join 20 = .ok (.if_icmp .lt 13, 3) := by decide +kernel
theorem dX8_join_23 : decode cX8_join 23 = .ok (.new 99, 3) := by decide +kernel
theorem dX8_join_26 : decode cX8_join 26 = .ok (.dup, 1) := by decide +kernel
theorem dX8_join_27 : decode cX8_join 27 = .ok (.ldc 101, 2) := by decide +kernel
theorem dX8_join_29 : decode cX8_join 29 = .ok (.invokespecial 103, 3) := by decide +kernel
theorem dX8_join_32 : decode cX8_join 32 = .ok (.athrow, 1) := by decide +kernel
theorem dX8_join_33 : decode cX8_join 33 = .ok (.aload_n 2, 1) := by decide +kernel
theorem dX8_join_34 : decode cX8_join 34 = .ok (.getfield 81, 3) := by decide +kernel
theorem dX8_join_37 : decode cX8_join 37 = .ok (.iload_n 1, 1) := by decide +kernel
theorem dX8_join_38 : decode cX8_join 38 = .ok (.iaload, 1) := by decide +kernel
theorem dX8_join_39 : decode cX8_join 39 = .ok (.istore_n 3, 1) := by decide +kernel
theorem dX8_join_40 : decode cX8_join 40 = .ok (.iload_n 3, 1) := by decide +kernel
theorem dX8_join_41 : decode cX8_join 41 = .ok (.aload_n 2, 1) := by decide +kernel
theorem dX8_join_42 : decode cX8_join 42 = .ok (.getfield 81, 3) := by decide +kernel
theorem dX8_join_45 : decode cX8_join 45 = .ok (.iload_n 1, 1) := by decide +kernel
theorem dX8_join_46 : decode cX8_join 46 = .ok (.iconst 1, 1) := by decide +kernel
theorem dX8_join_47 : decode cX8_join 47 = .ok (.iadd, 1) := by decide +kernel
theorem dX8_join_48 : decode cX8_join 48 = .ok (.iaload, 1) := by decide +kernel
theorem dX8_join_49 : decode cX8_join 49 = .ok (.iadd, 1) := by decide +kernel
theorem dX8_join_50 : decode cX8_join 50 = .ok (.istore 4, 2) := by decide +kernel
theorem dX8_join_52 : decode cX8_join 52 = .ok (.iload 4, 2) := by decide +kernel
theorem dX8_join_54 : decode cX8_join 54 = .ok (.bipush 60, 2) := by decide +kernel
theorem dX8_join_56 : decode cX8_join 56 = .ok (.if_icmp .le 13, 3) := by decide +kernel
theorem dX8_join_59 : decode cX8_join 59 = .ok (.new 106, 3) := by decide +kernel
theorem dX8_join_62 : decode cX8_join 62 = .ok (.dup, 1) := by decide +kernel
theorem dX8_join_63 : decode cX8_join 63 = .ok (.ldc 108, 2) := by decide +kernel
theorem dX8_join_65 : decode cX8_join 65 = .ok (.invokespecial 110, 3) := by decide +kernel
theorem dX8_join_68 : decode cX8_join 68 = .ok (.athrow, 1) := by decide +kernel
theorem dX8_join_69 : decode cX8_join 69 = .ok (.aload_n 0, 1) := by decide +kernel
theorem dX8_join_70 : decode cX8_join 70 = .ok (.getfield 33, 3) := by decide +kernel
theorem dX8_join_73 : decode cX8_join 73 = .ok (.aload_n 0, 1) := by decide +kernel
theorem dX8_join_74 : decode cX8_join 74 = .ok (.getfield 12, 3) := by decide +kernel
theorem dX8_join_77 : decode cX8_join 77 = .ok (.invokevirtual 62, 3) := by decide +kernel
theorem dX8_join_80 : decode cX8_join 80 = .ok (.aload_n 0, 1) := by decide +kernel
theorem dX8_join_81 : decode cX8_join 81 = .ok (.getfield 12, 3) := by decide +kernel
theorem dX8_join_84 : decode cX8_join 84 = .ok (.getfield 111, 3) := by decide +kernel
theorem dX8_join_87 : decode cX8_join 87 = .ok (.aload_n 2, 1) := by decide +kernel
theorem dX8_join_88 : decode cX8_join 88 = .ok (.getfield 78, 3) := by decide +kernel
theorem dX8_join_91 : decode cX8_join 91 = .ok (.iload_n 1, 1) := by decide +kernel
theorem dX8_join_92 : decode cX8_join 92 = .ok (.iconst 1, 1) := by decide +kernel
theorem dX8_join_93 : decode cX8_join 93 = .ok (.iadd, 1) := by decide +kernel
theorem dX8_join_94 : decode cX8_join 94 = .ok (.iaload, 1) := by decide +kernel
theorem dX8_join_95 : decode cX8_join 95 = .ok (.aload_n 2, 1) := by decide +kernel
theorem dX8_join_96 : decode cX8_join 96 = .ok (.getfield 78, 3) := by decide +kernel
theorem dX8_join_99 : decode cX8_join 99 = .ok (.iload_n 1, 1) := by decide +kernel
theorem dX8_join_100 : decode cX8_join 100 = .ok (.iaload, 1) := by decide +kernel
theorem dX8_join_101 : decode cX8_join 101 = .ok (.iload_n 3, 1) := by decide +kernel
theorem dX8_join_102 : decode cX8_join 102 = .ok (.invokevirtual 115, 3) := by decide +kernel
theorem dX8_join_105 : decode cX8_join 105 = .ok (.aload_n 2, 1) := by decide +kernel
theorem dX8_join_106 : decode cX8_join 106 = .ok (.iload_n 1, 1) := by decide +kernel
theorem dX8_join_107 : decode cX8_join 107 = .ok (.iconst 1, 1) := by decide +kernel
theorem dX8_join_108 : decode cX8_join 108 = .ok (.iadd, 1) := by decide +kernel
theorem dX8_join_109 : decode cX8_join 109 = .ok (.invokevirtual 84, 3) := by decide +kernel
theorem dX8_join_112 : decode cX8_join 112 = .ok (.aload_n 2, 1) := by decide +kernel
theorem dX8_join_113 : decode cX8_join 113 = .ok (.getfield 81, 3) := by decide +kernel
theorem dX8_join_116 : decode cX8_join 116 = .ok (.iload_n 1, 1) := by decide +kernel
theorem dX8_join_117 : decode cX8_join 117 = .ok (.iload 4, 2) := by decide +kernel
theorem dX8_join_119 : decode cX8_join 119 = .ok (.iastore, 1) := by decide +kernel
theorem dX8_join_120 : decode cX8_join 120 = .ok (.aload_n 0, 1) := by decide +kernel
theorem dX8_join_121 : decode cX8_join 121 = .ok (.getfield 19, 3) := by decide +kernel
theorem dX8_join_124 : decode cX8_join 124 = .ok (.aload_n 0, 1) := by decide +kernel
theorem dX8_join_125 : decode cX8_join 125 = .ok (.getfield 12, 3) := by decide +kernel
theorem dX8_join_128 : decode cX8_join 128 = .ok (.invokevirtual 72, 3) := by decide +kernel
theorem dX8_join_131 : decode cX8_join 131 = .ok (.iload 4, 2) := by decide +kernel
theorem dX8_join_133 : decode cX8_join 133 = .ok (.ireturn, 1) := by decide +kernel
theorem dX8_split_0 : decode cX8_split 0 = .ok (.aload_n 0, 1) := by decide +kernel
theorem dX8_split_1 : decode cX8_split 1 = .ok (.getfield 12, 3) := by decide +kernel
theorem dX8_split_4 : decode cX8_split 4 = .ok (.getfield 48, 3) := by decide +kernel
theorem dX8_split_7 : decode cX8_split 7 = .ok (.astore_n 3, 1) := by decide +kernel
theorem dX8_split_8 : decode cX8_split 8 = .ok (.aload_n 0, 1) := by decide +kernel
theorem dX8_split_9 : decode cX8_split 9 = .ok (.iload_n 1, 1) := by decide +kernel
theorem dX8_split_10 : decode cX8_split 10 = .ok (.invokevirtual 75, 3) := by decide +kernel
theorem dX8_split_13 : decode cX8_split 13 = .ok (.aload_n 3, 1) := by decide +kernel
theorem dX8_split_14 : decode cX8_split 14 = .ok (.getfield 81, 3) := by decide +kernel
theorem dX8_split_17 : decode cX8_split 17 = .ok (.iload_n 1, 1) := by decide +kernel
theorem dX8_split_18 : decode cX8_split 18 = .ok (.iaload, 1) := by decide +kernel
theorem dX8_split_19 : decode cX8_split 19 = .ok (.istore 4, 2) := by decide +kernel
theorem dX8_split_21 : decode cX8_split 21 = .ok (.iload_n 2, 1) := by decide +kernel
theorem dX8_split_22 : decode cX8_split 22 = .ok (.iconst 1, 1) := by decide +kernel
theorem dX8_split_23 : decode cX8_split 23 = .ok (.if_icmp .lt 9, 3) := by decide +kernel
theorem dX8_split_26 : decode cX8_split 26 = .ok (.iload_n 2, 1) := by decide +kernel
theorem dX8_split_27 : decode cX8_split 27 = .ok (.iload 4, 2) := by decide +kernel
theorem dX8_split_29 : decode cX8_split 29 = .ok (.if_icmp .lt 13, 3) := by decide +kernel
theorem dX8_split_32 : decode cX8_split 32 = .ok (.new 120, 3) := by decide +kernel
theorem dX8_split_35 : decode cX8_split 35 = .ok (.dup, 1) := by decide +kernel
theorem dX8_split_36 : decode cX8_split 36 = .ok (.ldc 122, 2) := by decide +kernel
theorem dX8_split_38 : decode cX8_split 38 = .ok (.invokespecial 124, 3) := by decide +kernel
theorem dX8_split_41 : decode cX8_split 41 = .ok (.athrow, 1) := by decide +kernel
theorem dX8_split_42 : decode cX8_split 42 = .ok (.aload_n 0, 1) := by decide +kernel
theorem dX8_split_43 : decode cX8_split 43 = .ok (.invokevirtual 59, 3) := by decide +kernel
theorem dX8_split_46 : decode cX8_split 46 = .ok (.aload_n 0, 1) := by decide +kernel
theorem dX8_split_47 : decode cX8_split 47 = .ok (.getfield 33, 3) := by decide +kernel
theorem dX8_split_50 : decode cX8_split 50 = .ok (.aload_n 0, 1) := by decide +kernel
theorem dX8_split_51 : decode cX8_split 51 = .ok (.getfield 12, 3) := by decide +kernel
theorem dX8_split_54 : decode cX8_split 54 = .ok (.invokevirtual 62, 3) := by decide +kernel
theorem dX8_split_57 : decode cX8_split 57 = .ok (.aload_n 3, 1) := by decide +kernel
theorem dX8_split_58 : decode cX8_split 58 = .ok (.iload_n 1, 1) := by decide +kernel
theorem dX8_split_59 : decode cX8_split 59 = .ok (.iconst 1, 1) := by decide +kernel
theorem dX8_split_60 : decode cX8_split 60 = .ok (.iadd, 1) := by decide +kernel
theorem dX8_split_61 : decode cX8_split 61 = .ok (.iload 4, 2) := by decide +kernel
theorem dX8_split_63 : decode cX8_split 63 = .ok (.iload_n 2, 1) := by decide +kernel
theorem dX8_split_64 : decode cX8_split 64 = .ok (.isub, 1) := by decide +kernel
theorem dX8_split_65 : decode cX8_split 65 = .ok (.invokevirtual 66, 3) := by decide +kernel
theorem dX8_split_68 : decode cX8_split 68 = .ok (.istore 5, 2) := by decide +kernel
theorem dX8_split_70 : decode cX8_split 70 = .ok (.aload_n 3, 1) := by decide +kernel
theorem dX8_split_71 : decode cX8_split 71 = .ok (.getfield 81, 3) := by decide +kernel
theorem dX8_split_74 : decode cX8_split 74 = .ok (.iload_n 1, 1) := by decide +kernel
theorem dX8_split_75 : decode cX8_split 75 = .ok (.iload_n 2, 1) := by decide +kernel
theorem dX8_split_76 : decode cX8_split 76 = .ok (.iastore, 1) := by decide +kernel
theorem dX8_split_77 : decode cX8_split 77 = .ok (.aload_n 0, 1) := by decide +kernel
theorem dX8_split_78 : decode cX8_split 78 = .ok (.getfield 12, 3) := by decide +kernel
theorem dX8_split_81 : decode cX8_split 81 = .ok (.getfield 111, 3) := by decide +kernel
theorem dX8_split_84 : decode cX8_split 84 = .ok (.aload_n 3, 1) := by decide +kernel
theorem dX8_split_85 : decode cX8_split 85 = .ok (.getfield 78, 3) := by decide +kernel
theorem dX8_split_88 : decode cX8_split 88 = .ok (.iload_n 1, 1) := by decide +kernel
theorem dX8_split_89 : decode cX8_split 89 = .ok (.iaload, 1) := by decide +kernel
theorem dX8_split_90 : decode cX8_split 90 = .ok (.iload 5, 2) := by decide +kernel
theorem dX8_split_92 : decode cX8_split 92 = .ok (.iload_n 2, 1) := by decide +kernel
theorem dX8_split_93 : decode cX8_split 93 = .ok (.invokevirtual 125, 3) := by decide +kernel
theorem dX8_split_96 : decode cX8_split 96 = .ok (.aload_n 0, 1) := by decide +kernel
theorem dX8_split_97 : decode cX8_split 97 = .ok (.getfield 19, 3) := by decide +kernel
theorem dX8_split_100 : decode cX8_split 100 = .ok (.aload_n 0, 1) := by decide +kernel
theorem dX8_split_101 : decode cX8_split 101 = .ok (.getfield 12, 3) := by decide +kernel
theorem dX8_split_104 : decode cX8_split 104 = .ok (.invokevirtual 72, 3) := by decide +kernel
theorem dX8_split_107 : decode cX8_split 107 = .ok (.iload 5, 2) := by decide +kernel
theorem dX8_split_109 : decode cX8_split 109 = .ok (.ireturn, 1) := by decide +kernel
theorem dX8_cite_0 : decode cX8_cite 0 = .ok (.aload_n 0, 1) := by decide +kernel
theorem dX8_cite_1 : decode cX8_cite 1 = .ok (.getfield 12, 3) := by decide +kernel
theorem dX8_cite_4 : decode cX8_cite 4 = .ok (.getfield 111, 3) := by decide +kernel
theorem dX8_cite_7 : decode cX8_cite 7 = .ok (.astore 4, 2) := by decide +kernel
theorem dX8_cite_9 : decode cX8_cite 9 = .ok (.iload_n 1, 1) := by decide +kernel
theorem dX8_cite_10 : decode cX8_cite 10 = .ok (.invokestatic 128, 3) := by decide +kernel
theorem dX8_cite_13 : decode cX8_cite 13 = .ok (.aload_n 0, 1) := by decide +kernel
theorem dX8_cite_14 : decode cX8_cite 14 = .ok (.iload_n 2, 1) := by decide +kernel
theorem dX8_cite_15 : decode cX8_cite 15 = .ok (.invokevirtual 75, 3) := by decide +kernel
theorem dX8_cite_18 : decode cX8_cite 18 = .ok (.iload_n 3, 1) := by decide +kernel
theorem dX8_cite_19 : decode cX8_cite 19 = .ok (.invokestatic 56, 3) := by decide +kernel
theorem dX8_cite_22 : decode cX8_cite 22 = .ok (.aload 4, 2) := by decide +kernel
theorem dX8_cite_24 : decode cX8_cite 24 = .ok (.getfield 131, 3) := by decide +kernel
theorem dX8_cite_27 : decode cX8_cite 27 = .ok (.iload_n 1, 1) := by decide +kernel
theorem dX8_cite_28 : decode cX8_cite 28 = .ok (.iaload, 1) := by decide +kernel
theorem dX8_cite_29 : decode cX8_cite 29 = .ok (.bipush 6, 2) := by decide +kernel
theorem dX8_cite_31 : decode cX8_cite 31 = .ok (.if_icmp .lt 13, 3) := by decide +kernel
theorem dX8_cite_34 : decode cX8_cite 34 = .ok (.new 106, 3) := by decide +kernel
theorem dX8_cite_37 : decode cX8_cite 37 = .ok (.dup, 1) := by decide +kernel
theorem dX8_cite_38 : decode cX8_cite 38 = .ok (.ldc 134, 2) := by decide +kernel
theorem dX8_cite_40 : decode cX8_cite 40 = .ok (.invokespecial 110, 3) := by decide +kernel
theorem dX8_cite_43 : decode cX8_cite 43 = .ok (.athrow, 1) := by decide +kernel
theorem dX8_cite_44 : decode cX8_cite 44 = .ok (.aload_n 0, 1) := by decide +kernel
theorem dX8_cite_45 : decode cX8_cite 45 = .ok (.getfield 33, 3) := by decide +kernel
theorem dX8_cite_48 : decode cX8_cite 48 = .ok (.aload_n 0, 1) := by decide +kernel
theorem dX8_cite_49 : decode cX8_cite 49 = .ok (.getfield 12, 3) := by decide +kernel
theorem dX8_cite_52 : decode cX8_cite 52 = .ok (.invokevirtual 62, 3) := by decide +kernel
theorem dX8_cite_55 : decode cX8_cite 55 = .ok (.aload 4, 2) := by decide +kernel
theorem dX8_cite_57 : decode cX8_cite 57 = .ok (.iload_n 1, 1) := by decide +kernel
theorem dX8_cite_58 : decode cX8_cite 58 = .ok (.aload_n 0, 1) := by decide +kernel
theorem dX8_cite_59 : decode cX8_cite 59 = .ok (.getfield 12, 3) := by decide +kernel
theorem dX8_cite_62 : decode cX8_cite 62 = .ok (.getfield 48, 3) := by decide +kernel
theorem dX8_cite_65 : decode cX8_cite 65 = .ok (.getfield 78, 3) := by decide +kernel
theorem dX8_cite_68 : decode cX8_cite 68 = .ok (.iload_n 2, 1) := by decide +kernel
theorem dX8_cite_69 : decode cX8_cite 69 = .ok (.iaload, 1) := by decide +kernel
theorem dX8_cite_70 : decode cX8_cite 70 = .ok (.iload_n 3, 1) := by decide +kernel
theorem dX8_cite_71 : decode cX8_cite 71 = .ok (.invokevirtual 136, 3) := by decide +kernel
theorem dX8_cite_74 : decode cX8_cite 74 = .ok (.aload_n 0, 1) := by decide +kernel
theorem dX8_cite_75 : decode cX8_cite 75 = .ok (.getfield 19, 3) := by decide +kernel
theorem dX8_cite_78 : decode cX8_cite 78 = .ok (.aload_n 0, 1) := by decide +kernel
theorem dX8_cite_79 : decode cX8_cite 79 = .ok (.getfield 12, 3) := by decide +kernel
theorem dX8_cite_82 : decode cX8_cite 82 = .ok (.invokevirtual 72, 3) := by decide +kernel
theorem dX8_cite_85 : decode cX8_cite 85 = .ok (.aload 4, 2) := by decide +kernel
theorem dX8_cite_87 : decode cX8_cite 87 = .ok (.getfield 131, 3) := by decide +kernel
theorem dX8_cite_90 : decode cX8_cite 90 = .ok (.iload_n 1, 1) := by decide +kernel
theorem dX8_cite_91 : decode cX8_cite 91 = .ok (.iaload, 1) := by decide +kernel
theorem dX8_cite_92 : decode cX8_cite 92 = .ok (.ireturn, 1) := by decide +kernel
theorem dX8_clean_0 : decode cX8_clean 0 = .ok (.iload_n 1, 1) := by decide +kernel
theorem dX8_clean_1 : decode cX8_clean 1 = .ok (.invokestatic 128, 3) := by decide +kernel
theorem dX8_clean_4 : decode cX8_clean 4 = .ok (.aload_n 0, 1) := by decide +kernel
theorem dX8_clean_5 : decode cX8_clean 5 = .ok (.getfield 33, 3) := by decide +kernel
theorem dX8_clean_8 : decode cX8_clean 8 = .ok (.aload_n 0, 1) := by decide +kernel
theorem dX8_clean_9 : decode cX8_clean 9 = .ok (.getfield 12, 3) := by decide +kernel
theorem dX8_clean_12 : decode cX8_clean 12 = .ok (.invokevirtual 62, 3) := by decide +kernel
theorem dX8_clean_15 : decode cX8_clean 15 = .ok (.aload_n 0, 1) := by decide +kernel
theorem dX8_clean_16 : decode cX8_clean 16 = .ok (.getfield 12, 3) := by decide +kernel
theorem dX8_clean_19 : decode cX8_clean 19 = .ok (.getfield 111, 3) := by decide +kernel
theorem dX8_clean_22 : decode cX8_clean 22 = .ok (.iload_n 1, 1) := by decide +kernel
theorem dX8_clean_23 : decode cX8_clean 23 = .ok (.aload_n 0, 1) := by decide +kernel
theorem dX8_clean_24 : decode cX8_clean 24 = .ok (.getfield 19, 3) := by decide +kernel
theorem dX8_clean_27 : decode cX8_clean 27 = .ok (.getfield 139, 3) := by decide +kernel
theorem dX8_clean_30 : decode cX8_clean 30 = .ok (.invokevirtual 143, 3) := by decide +kernel
theorem dX8_clean_33 : decode cX8_clean 33 = .ok (.istore_n 2, 1) := by decide +kernel
theorem dX8_clean_34 : decode cX8_clean 34 = .ok (.aload_n 0, 1) := by decide +kernel
theorem dX8_clean_35 : decode cX8_clean 35 = .ok (.getfield 19, 3) := by decide +kernel
theorem dX8_clean_38 : decode cX8_clean 38 = .ok (.aload_n 0, 1) := by decide +kernel
theorem dX8_clean_39 : decode cX8_clean 39 = .ok (.getfield 12, 3) := by decide +kernel
theorem dX8_clean_42 : decode cX8_clean 42 = .ok (.invokevirtual 72, 3) := by decide +kernel
theorem dX8_clean_45 : decode cX8_clean 45 = .ok (.iload_n 2, 1) := by decide +kernel
theorem dX8_clean_46 : decode cX8_clean 46 = .ok (.ireturn, 1) := by decide +kernel
theorem dX8_print_0 : decode cX8_print 0 = .ok (.iload_n 1, 1) := by decide +kernel
theorem dX8_print_1 : decode cX8_print 1 = .ok (.invokestatic 128, 3) := by decide +kernel
theorem dX8_print_4 : decode cX8_print 4 = .ok (.aload_n 0, 1) := by decide +kernel
theorem dX8_print_5 : decode cX8_print 5 = .ok (.getfield 33, 3) := by decide +kernel
theorem dX8_print_8 : decode cX8_print 8 = .ok (.aload_n 0, 1) := by decide +kernel
theorem dX8_print_9 : decode cX8_print 9 = .ok (.getfield 12, 3) := by decide +kernel
theorem dX8_print_12 : decode cX8_print 12 = .ok (.invokevirtual 62, 3) := by decide +kernel
theorem dX8_print_15 : decode cX8_print 15 = .ok (.aload_n 0, 1) := by decide +kernel
theorem dX8_print_16 : decode cX8_print 16 = .ok (.iload_n 1, 1) := by decide +kernel
theorem dX8_print_17 : decode cX8_print 17 = .ok (.aload_n 0, 1) := by decide +kernel
theorem dX8_print_18 : decode cX8_print 18 = .ok (.getfield 44, 3) := by decide +kernel
theorem dX8_print_21 : decode cX8_print 21 = .ok (.invokevirtual 147, 3) := by decide +kernel
theorem dX8_print_24 : decode cX8_print 24 = .ok (.ifCond .eq 7, 3) := by decide +kernel
theorem dX8_print_27 : decode cX8_print 27 = .ok (.iconst 1, 1) := by decide +kernel
theorem dX8_print_28 : decode cX8_print 28 = .ok (.goto 4, 3) := by decide +kernel
theorem dX8_print_31 : decode cX8_print 31 = .ok (.iconst 0, 1) := by decide +kernel
theorem dX8_print_32 : decode cX8_print 32 = .ok (.istore_n 2, 1) := by decide +kernel
theorem dX8_print_33 : decode cX8_print 33 = .ok (.aload_n 0, 1) := by decide +kernel
theorem dX8_print_34 : decode cX8_print 34 = .ok (.getfield 12, 3) := by decide +kernel
theorem dX8_print_37 : decode cX8_print 37 = .ok (.getfield 111, 3) := by decide +kernel
theorem dX8_print_40 : decode cX8_print 40 = .ok (.getfield 131, 3) := by decide +kernel
theorem dX8_print_43 : decode cX8_print 43 = .ok (.iload_n 1, 1) := by decide +kernel
theorem dX8_print_44 : decode cX8_print 44 = .ok (.iaload, 1) := by decide +kernel
theorem dX8_print_45 : decode cX8_print 45 = .ok (.istore_n 3, 1) := by decide +kernel
theorem dX8_print_46 : decode cX8_print 46 = .ok (.aload_n 0, 1) := by decide +kernel
theorem dX8_print_47 : decode cX8_print 47 = .ok (.getfield 12, 3) := by decide +kernel
theorem dX8_print_50 : decode cX8_print 50 = .ok (.getfield 151, 3) := by decide +kernel
theorem dX8_print_53 : decode cX8_print 53 = .ok (.getfield 155, 3) := by decide +kernel
theorem dX8_print_56 : decode cX8_print 56 = .ok (.iload_n 1, 1) := by decide +kernel
theorem dX8_print_57 : decode cX8_print 57 = .ok (.iload_n 3, 1) := by decide +kernel
theorem dX8_print_58 : decode cX8_print 58 = .ok (.iastore, 1) := by decide +kernel
theorem dX8_print_59 : decode cX8_print 59 = .ok (.iconst 0, 1) := by decide +kernel
theorem dX8_print_60 : decode cX8_print 60 = .ok (.istore 4, 2) := by decide +kernel
theorem dX8_print_62 : decode cX8_print 62 = .ok (.iload 4, 2) := by decide +kernel
theorem dX8_print_64 : decode cX8_print 64 = .ok (.iload_n 3, 1) := by decide +kernel
theorem dX8_print_65 : decode cX8_print 65 = .ok (.if_icmp .ge 66, 3) := by decide +kernel
theorem dX8_print_68 : decode cX8_print 68 = .ok (.iload_n 1, 1) := by decide +kernel
theorem dX8_print_69 : decode cX8_print 69 = .ok (.iload 4, 2) := by decide +kernel
theorem dX8_print_71 : decode cX8_print 71 = .ok (.invokestatic 158, 3) := by decide +kernel
theorem dX8_print_74 : decode cX8_print 74 = .ok (.istore 5, 2) := by decide +kernel
theorem dX8_print_76 : decode cX8_print 76 = .ok (.aload_n 0, 1) := by decide +kernel
theorem dX8_print_77 : decode cX8_print 77 = .ok (.getfield 12, 3) := by decide +kernel
theorem dX8_print_80 : decode cX8_print 80 = .ok (.getfield 151, 3) := by decide +kernel
theorem dX8_print_83 : decode cX8_print 83 = .ok (.getfield 161, 3) := by decide +kernel
theorem dX8_print_86 : decode cX8_print 86 = .ok (.iload 5, 2) := by decide +kernel
theorem dX8_print_88 : decode cX8_print 88 = .ok (.aload_n 0, 1) := by decide +kernel
theorem dX8_print_89 : decode cX8_print 89 = .ok (.getfield 19, 3) := by decide +kernel
theorem dX8_print_92 : decode cX8_print 92 = .ok (.getfield 164, 3) := by decide +kernel
theorem dX8_print_95 : decode cX8_print 95 = .ok (.iload 5, 2) := by decide +kernel
theorem dX8_print_97 : decode cX8_print 97 = .ok (.iaload, 1) := by decide +kernel
theorem dX8_print_98 : decode cX8_print 98 = .ok (.aload_n 0, 1) := by decide +kernel
theorem dX8_print_99 : decode cX8_print 99 = .ok (.getfield 12, 3) := by decide +kernel
theorem dX8_print_102 : decode cX8_print 102 = .ok (.getfield 111, 3) := by decide +kernel
theorem dX8_print_105 : decode cX8_print 105 = .ok (.getfield 167, 3) := by decide +kernel
theorem dX8_print_108 : decode cX8_print 108 = .ok (.iload 5, 2) := by decide +kernel
theorem dX8_print_110 : decode cX8_print 110 = .ok (.iaload, 1) := by decide +kernel
theorem dX8_print_111 : decode cX8_print 111 = .ok (.aload_n 0, 1) := by decide +kernel
theorem dX8_print_112 : decode cX8_print 112 = .ok (.getfield 19, 3) := by decide +kernel
theorem dX8_print_115 : decode cX8_print 115 = .ok (.getfield 139, 3) := by decide +kernel
theorem dX8_print_118 : decode cX8_print 118 = .ok (.iload 5, 2) := by decide +kernel
theorem dX8_print_120 : decode cX8_print 120 = .ok (.baload, 1) := by decide +kernel
theorem dX8_print_121 : decode cX8_print 121 = .ok (.invokestatic 168, 3) := by decide +kernel
theorem dX8_print_124 : decode cX8_print 124 = .ok (.iastore, 1) := by decide +kernel
theorem dX8_print_125 : decode cX8_print 125 = .ok (.iinc 4 1, 3) := by decide +kernel
theorem dX8_print_128 : decode cX8_print 128 = .ok (.goto (-66), 3) := by decide +kernel
theorem dX8_print_131 : decode cX8_print 131 = .ok (.iload_n 2, 1) := by decide +kernel
theorem dX8_print_132 : decode cX8_print 132 = .ok (.ireturn, 1) := by decide +kernel
theorem dX8_set_0 : decode cX8_set 0 = .ok (.iload_n 1, 1) := by decide +kernel
theorem dX8_set_1 : decode cX8_set 1 = .ok (.bipush 10, 2) := by decide +kernel
theorem dX8_set_3 : decode cX8_set 3 = .ok (.if_icmp .lt 10, 3) := by decide +kernel
theorem dX8_set_6 : decode cX8_set 6 = .ok (.iload_n 1, 1) := by decide +kernel
theorem dX8_set_7 : decode cX8_set 7 = .ok (.sipush 200, 3) := by decide +kernel
theorem dX8_set_10 : decode cX8_set 10 = .ok (.if_icmp .le 13, 3) := by decide +kernel
theorem dX8_set_13 : decode cX8_set 13 = .ok (.new 120, 3) := by decide +kernel
theorem dX8_set_16 : decode cX8_set 16 = .ok (.dup, 1) := by decide +kernel
theorem dX8_set_17 : decode cX8_set 17 = .ok (.ldc 172, 2) := by decide +kernel
theorem dX8_set_19 : decode cX8_set 19 = .ok (.invokespecial 124, 3) := by decide +kernel
theorem dX8_set_22 : decode cX8_set 22 = .ok (.athrow, 1) := by decide +kernel
theorem dX8_set_23 : decode cX8_set 23 = .ok (.aload_n 0, 1) := by decide +kernel
theorem dX8_set_24 : decode cX8_set 24 = .ok (.getfield 33, 3) := by decide +kernel
theorem dX8_set_27 : decode cX8_set 27 = .ok (.aload_n 0, 1) := by decide +kernel
theorem dX8_set_28 : decode cX8_set 28 = .ok (.getfield 12, 3) := by decide +kernel
theorem dX8_set_31 : decode cX8_set 31 = .ok (.invokevirtual 62, 3) := by decide +kernel
theorem dX8_set_34 : decode cX8_set 34 = .ok (.aload_n 0, 1) := by decide +kernel
theorem dX8_set_35 : decode cX8_set 35 = .ok (.getfield 12, 3) := by decide +kernel
theorem dX8_set_38 : decode cX8_set 38 = .ok (.getfield 48, 3) := by decide +kernel
theorem dX8_set_41 : decode cX8_set 41 = .ok (.getfield 174, 3) := by decide +kernel
theorem dX8_set_44 : decode cX8_set 44 = .ok (.istore_n 2, 1) := by decide +kernel
theorem dX8_set_45 : decode cX8_set 45 = .ok (.aload_n 0, 1) := by decide +kernel
theorem dX8_set_46 : decode cX8_set 46 = .ok (.getfield 12, 3) := by decide +kernel
theorem dX8_set_49 : decode cX8_set 49 = .ok (.getfield 48, 3) := by decide +kernel
theorem dX8_set_52 : decode cX8_set 52 = .ok (.iload_n 1, 1) := by decide +kernel
theorem dX8_set_53 : decode cX8_set 53 = .ok (.putfield 174, 3) := by decide +kernel
theorem dX8_set_56 : decode cX8_set 56 = .ok (.aload_n 0, 1) := by decide +kernel
theorem dX8_set_57 : decode cX8_set 57 = .ok (.getfield 19, 3) := by decide +kernel
theorem dX8_set_60 : decode cX8_set 60 = .ok (.aload_n 0, 1) := by decide +kernel
theorem dX8_set_61 : decode cX8_set 61 = .ok (.getfield 12, 3) := by decide +kernel
theorem dX8_set_64 : decode cX8_set 64 = .ok (.invokevirtual 72, 3) := by decide +kernel
theorem dX8_set_67 : decode cX8_set 67 = .ok (.iload_n 2, 1) := by decide +kernel
theorem dX8_set_68 : decode cX8_set 68 = .ok (.ireturn, 1) := by decide +kernel
theorem dX8_undo_0 : decode cX8_undo 0 = .ok (.aload_n 0, 1) := by decide +kernel
theorem dX8_undo_1 : decode cX8_undo 1 = .ok (.getfield 33, 3) := by decide +kernel
theorem dX8_undo_4 : decode cX8_undo 4 = .ok (.getfield 205, 3) := by decide +kernel
theorem dX8_undo_7 : decode cX8_undo 7 = .ok (.ifCond .ne 13, 3) := by decide +kernel
theorem dX8_undo_10 : decode cX8_undo 10 = .ok (.new 106, 3) := by decide +kernel
theorem dX8_undo_13 : decode cX8_undo 13 = .ok (.dup, 1) := by decide +kernel
theorem dX8_undo_14 : decode cX8_undo 14 = .ok (.ldc 206, 2) := by decide +kernel
theorem dX8_undo_16 : decode cX8_undo 16 = .ok (.invokespecial 110, 3) := by decide +kernel
theorem dX8_undo_19 : decode cX8_undo 19 = .ok (.athrow, 1) := by decide +kernel
theorem dX8_undo_20 : decode cX8_undo 20 = .ok (.aload_n 0, 1) := by decide +kernel
theorem dX8_undo_21 : decode cX8_undo 21 = .ok (.getfield 33, 3) := by decide +kernel
theorem dX8_undo_24 : decode cX8_undo 24 = .ok (.aload_n 0, 1) := by decide +kernel
theorem dX8_undo_25 : decode cX8_undo 25 = .ok (.getfield 12, 3) := by decide +kernel
theorem dX8_undo_28 : decode cX8_undo 28 = .ok (.invokevirtual 208, 3) := by decide +kernel
theorem dX8_undo_31 : decode cX8_undo 31 = .ok (.aload_n 0, 1) := by decide +kernel
theorem dX8_undo_32 : decode cX8_undo 32 = .ok (.getfield 19, 3) := by decide +kernel
theorem dX8_undo_35 : decode cX8_undo 35 = .ok (.aload_n 0, 1) := by decide +kernel
theorem dX8_undo_36 : decode cX8_undo 36 = .ok (.getfield 12, 3) := by decide +kernel
theorem dX8_undo_39 : decode cX8_undo 39 = .ok (.invokevirtual 72, 3) := by decide +kernel
theorem dX8_undo_42 : decode cX8_undo 42 = .ok (.aload_n 0, 1) := by decide +kernel
theorem dX8_undo_43 : decode cX8_undo 43 = .ok (.getfield 33, 3) := by decide +kernel
theorem dX8_undo_46 : decode cX8_undo 46 = .ok (.getfield 205, 3) := by decide +kernel
theorem dX8_undo_49 : decode cX8_undo 49 = .ok (.ireturn, 1) := by decide +kernel
theorem dX8_exhibit_0 : decode cX8_exhibit 0 = .ok (.iload_n 1, 1) := by decide +kernel
theorem dX8_exhibit_1 : decode cX8_exhibit 1 = .ok (.ifCond .ge 13, 3) := by decide +kernel
theorem dX8_exhibit_4 : decode cX8_exhibit 4 = .ok (.new 120, 3) := by decide +kernel
theorem dX8_exhibit_7 : decode cX8_exhibit 7 = .ok (.dup, 1) := by decide +kernel
theorem dX8_exhibit_8 : decode cX8_exhibit 8 = .ok (.ldc 211, 2) := by decide +kernel
theorem dX8_exhibit_10 : decode cX8_exhibit 10 = .ok (.invokespecial 124, 3) := by decide +kernel
theorem dX8_exhibit_13 : decode cX8_exhibit 13 = .ok (.athrow, 1) := by decide +kernel
theorem dX8_exhibit_14 : decode cX8_exhibit 14 = .ok (.iload_n 2, 1) := by decide +kernel
theorem dX8_exhibit_15 : decode cX8_exhibit 15 = .ok (.iconst 5, 1) := by decide +kernel
theorem dX8_exhibit_16 : decode cX8_exhibit 16 = .ok (.invokestatic 213, 3) := by decide +kernel
theorem dX8_exhibit_19 : decode cX8_exhibit 19 = .ok (.iload_n 1, 1) := by decide +kernel
theorem dX8_exhibit_20 : decode cX8_exhibit 20 = .ok (.aload_n 0, 1) := by decide +kernel
theorem dX8_exhibit_21 : decode cX8_exhibit 21 = .ok (.getfield 12, 3) := by decide +kernel
theorem dX8_exhibit_24 : decode cX8_exhibit 24 = .ok (.getfield 48, 3) := by decide +kernel
theorem dX8_exhibit_27 : decode cX8_exhibit 27 = .ok (.getfield 95, 3) := by decide +kernel
theorem dX8_exhibit_30 : decode cX8_exhibit 30 = .ok (.if_icmp .lt 5, 3) := by decide +kernel
theorem dX8_exhibit_33 : decode cX8_exhibit 33 = .ok (.iconst (-1), 1) := by decide +kernel
theorem dX8_exhibit_34 : decode cX8_exhibit 34 = .ok (.ireturn, 1) := by decide +kernel
theorem dX8_exhibit_35 : decode cX8_exhibit 35 = .ok (.iload_n 2, 1) := by decide +kernel
theorem dX8_exhibit_36 : decode cX8_exhibit 36 = .ok (.tableswitch 92 0 4 #[36, 49, 62, 72, 82], 36) := by decide +kernel
theorem dX8_exhibit_72 : decode cX8_exhibit 72 = .ok (.aload_n 0, 1) := by decide +kernel
theorem dX8_exhibit_73 : decode cX8_exhibit 73 = .ok (.getfield 12, 3) := by decide +kernel
theorem dX8_exhibit_76 : decode cX8_exhibit 76 = .ok (.getfield 48, 3) := by decide +kernel
theorem dX8_exhibit_79 : decode cX8_exhibit 79 = .ok (.getfield 78, 3) := by decide +kernel
theorem dX8_exhibit_82 : decode cX8_exhibit 82 = .ok (.iload_n 1, 1) := by decide +kernel
theorem dX8_exhibit_83 : decode cX8_exhibit 83 = .ok (.iaload, 1) := by decide +kernel
theorem dX8_exhibit_84 : decode cX8_exhibit 84 = .ok (.ireturn, 1) := by decide +kernel
theorem dX8_exhibit_85 : decode cX8_exhibit 85 = .ok (.aload_n 0, 1) := by decide +kernel
theorem dX8_exhibit_86 : decode cX8_exhibit 86 = .ok (.getfield 12, 3) := by decide +kernel
theorem dX8_exhibit_89 : decode cX8_exhibit 89 = .ok (.getfield 48, 3) := by decide +kernel
theorem dX8_exhibit_92 : decode cX8_exhibit 92 = .ok (.getfield 81, 3) := by decide +kernel
theorem dX8_exhibit_95 : decode cX8_exhibit 95 = .ok (.iload_n 1, 1) := by decide +kernel
theorem dX8_exhibit_96 : decode cX8_exhibit 96 = .ok (.iaload, 1) := by decide +kernel
theorem dX8_exhibit_97 : decode cX8_exhibit 97 = .ok (.ireturn, 1) := by decide +kernel
theorem dX8_exhibit_98 : decode cX8_exhibit 98 = .ok (.aload_n 0, 1) := by decide +kernel
theorem dX8_exhibit_99 : decode cX8_exhibit 99 = .ok (.getfield 19, 3) := by decide +kernel
theorem dX8_exhibit_102 : decode cX8_exhibit 102 = .ok (.getfield 217, 3) := by decide +kernel
theorem dX8_exhibit_105 : decode cX8_exhibit 105 = .ok (.iload_n 1, 1) := by decide +kernel
theorem dX8_exhibit_106 : decode cX8_exhibit 106 = .ok (.iaload, 1) := by decide +kernel
theorem dX8_exhibit_107 : decode cX8_exhibit 107 = .ok (.ireturn, 1) := by decide +kernel
theorem dX8_exhibit_108 : decode cX8_exhibit 108 = .ok (.aload_n 0, 1) := by decide +kernel
theorem dX8_exhibit_109 : decode cX8_exhibit 109 = .ok (.getfield 19, 3) := by decide +kernel
theorem dX8_exhibit_112 : decode cX8_exhibit 112 = .ok (.getfield 220, 3) := by decide +kernel
theorem dX8_exhibit_115 : decode cX8_exhibit 115 = .ok (.iload_n 1, 1) := by decide +kernel
theorem dX8_exhibit_116 : decode cX8_exhibit 116 = .ok (.iaload, 1) := by decide +kernel
theorem dX8_exhibit_117 : decode cX8_exhibit 117 = .ok (.ireturn, 1) := by decide +kernel
theorem dX8_exhibit_118 : decode cX8_exhibit 118 = .ok (.aload_n 0, 1) := by decide +kernel
theorem dX8_exhibit_119 : decode cX8_exhibit 119 = .ok (.getfield 19, 3) := by decide +kernel
theorem dX8_exhibit_122 : decode cX8_exhibit 122 = .ok (.getfield 223, 3) := by decide +kernel
theorem dX8_exhibit_125 : decode cX8_exhibit 125 = .ok (.iload_n 1, 1) := by decide +kernel
theorem dX8_exhibit_126 : decode cX8_exhibit 126 = .ok (.iaload, 1) := by decide +kernel
theorem dX8_exhibit_127 : decode cX8_exhibit 127 = .ok (.ireturn, 1) := by decide +kernel
theorem dX8_exhibit_128 : decode cX8_exhibit 128 = .ok (.aload_n 0, 1) := by decide +kernel
theorem dX8_exhibit_129 : decode cX8_exhibit 129 = .ok (.iload_n 1, 1) := by decide +kernel
theorem dX8_exhibit_130 : decode cX8_exhibit 130 = .ok (.invokevirtual 226, 3) := by decide +kernel
theorem dX8_exhibit_133 : decode cX8_exhibit 133 = .ok (.ireturn, 1) := by decide +kernel
theorem dX8_citation_0 : decode cX8_citation 0 = .ok (.iload_n 1, 1) := by decide +kernel
theorem dX8_citation_1 : decode cX8_citation 1 = .ok (.invokestatic 128, 3) := by decide +kernel
theorem dX8_citation_4 : decode cX8_citation 4 = .ok (.iload_n 2, 1) := by decide +kernel
theorem dX8_citation_5 : decode cX8_citation 5 = .ok (.ifCond .ge 13, 3) := by decide +kernel
theorem dX8_citation_8 : decode cX8_citation 8 = .ok (.new 120, 3) := by decide +kernel
theorem dX8_citation_11 : decode cX8_citation 11 = .ok (.dup, 1) := by decide +kernel
theorem dX8_citation_12 : decode cX8_citation 12 = .ok (.ldc 229, 2) := by decide +kernel
theorem dX8_citation_14 : decode cX8_citation 14 = .ok (.invokespecial 124, 3) := by decide +kernel
theorem dX8_citation_17 : decode cX8_citation 17 = .ok (.athrow, 1) := by decide +kernel
theorem dX8_citation_18 : decode cX8_citation 18 = .ok (.iload_n 3, 1) := by decide +kernel
theorem dX8_citation_19 : decode cX8_citation 19 = .ok (.iconst 4, 1) := by decide +kernel
theorem dX8_citation_20 : decode cX8_citation 20 = .ok (.invokestatic 213, 3) := by decide +kernel
theorem dX8_citation_23 : decode cX8_citation 23 = .ok (.iload_n 2, 1) := by decide +kernel
theorem dX8_citation_24 : decode cX8_citation 24 = .ok (.aload_n 0, 1) := by decide +kernel
theorem dX8_citation_25 : decode cX8_citation 25 = .ok (.getfield 12, 3) := by decide +kernel
theorem dX8_citation_28 : decode cX8_citation 28 = .ok (.getfield 111, 3) := by decide +kernel
theorem dX8_citation_31 : decode cX8_citation 31 = .ok (.getfield 131, 3) := by decide +kernel
theorem dX8_citation_34 : decode cX8_citation 34 = .ok (.iload_n 1, 1) := by decide +kernel
theorem dX8_citation_35 : decode cX8_citation 35 = .ok (.iaload, 1) := by decide +kernel
theorem dX8_citation_36 : decode cX8_citation 36 = .ok (.if_icmp .lt 5, 3) := by decide +kernel
theorem dX8_citation_39 : decode cX8_citation 39 = .ok (.iconst (-1), 1) := by decide +kernel
theorem dX8_citation_40 : decode cX8_citation 40 = .ok (.ireturn, 1) := by decide +kernel
theorem dX8_citation_41 : decode cX8_citation 41 = .ok (.iload_n 1, 1) := by decide +kernel
theorem dX8_citation_42 : decode cX8_citation 42 = .ok (.iload_n 2, 1) := by decide +kernel
theorem dX8_citation_43 : decode cX8_citation 43 = .ok (.invokestatic 158, 3) := by decide +kernel
theorem dX8_citation_46 : decode cX8_citation 46 = .ok (.istore 4, 2) := by decide +kernel
theorem dX8_citation_48 : decode cX8_citation 48 = .ok (.iload_n 3, 1) := by decide +kernel
theorem dX8_citation_49 : decode cX8_citation 49 = .ok (.tableswitch 89 0 3 #[31, 45, 56, 70], 31) := by decide +kernel
theorem dX8_citation_80 : decode cX8_citation 80 = .ok (.aload_n 0, 1) := by decide +kernel
theorem dX8_citation_81 : decode cX8_citation 81 = .ok (.getfield 12, 3) := by decide +kernel
theorem dX8_citation_84 : decode cX8_citation 84 = .ok (.getfield 111, 3) := by decide +kernel
theorem dX8_citation_87 : decode cX8_citation 87 = .ok (.getfield 231, 3) := by decide +kernel
theorem dX8_citation_90 : decode cX8_citation 90 = .ok (.iload 4, 2) := by decide +kernel
theorem dX8_citation_92 : decode cX8_citation 92 = .ok (.iaload, 1) := by decide +kernel
theorem dX8_citation_93 : decode cX8_citation 93 = .ok (.ireturn, 1) := by decide +kernel
theorem dX8_citation_94 : decode cX8_citation 94 = .ok (.aload_n 0, 1) := by decide +kernel
theorem dX8_citation_95 : decode cX8_citation 95 = .ok (.getfield 19, 3) := by decide +kernel
theorem dX8_citation_98 : decode cX8_citation 98 = .ok (.getfield 164, 3) := by decide +kernel
theorem dX8_citation_101 : decode cX8_citation 101 = .ok (.iload 4, 2) := by decide +kernel
theorem dX8_citation_103 : decode cX8_citation 103 = .ok (.iaload, 1) := by decide +kernel
theorem dX8_citation_104 : decode cX8_citation 104 = .ok (.ireturn, 1) := by decide +kernel
theorem dX8_citation_105 : decode cX8_citation 105 = .ok (.aload_n 0, 1) := by decide +kernel
theorem dX8_citation_106 : decode cX8_citation 106 = .ok (.getfield 12, 3) := by decide +kernel
theorem dX8_citation_109 : decode cX8_citation 109 = .ok (.getfield 111, 3) := by decide +kernel
theorem dX8_citation_112 : decode cX8_citation 112 = .ok (.getfield 167, 3) := by decide +kernel
theorem dX8_citation_115 : decode cX8_citation 115 = .ok (.iload 4, 2) := by decide +kernel
theorem dX8_citation_117 : decode cX8_citation 117 = .ok (.iaload, 1) := by decide +kernel
theorem dX8_citation_118 : decode cX8_citation 118 = .ok (.ireturn, 1) := by decide +kernel
theorem dX8_citation_119 : decode cX8_citation 119 = .ok (.aload_n 0, 1) := by decide +kernel
theorem dX8_citation_120 : decode cX8_citation 120 = .ok (.getfield 19, 3) := by decide +kernel
theorem dX8_citation_123 : decode cX8_citation 123 = .ok (.getfield 139, 3) := by decide +kernel
theorem dX8_citation_126 : decode cX8_citation 126 = .ok (.iload 4, 2) := by decide +kernel
theorem dX8_citation_128 : decode cX8_citation 128 = .ok (.baload, 1) := by decide +kernel
theorem dX8_citation_129 : decode cX8_citation 129 = .ok (.ifCond .eq 7, 3) := by decide +kernel
theorem dX8_citation_132 : decode cX8_citation 132 = .ok (.iconst 1, 1) := by decide +kernel
theorem dX8_citation_133 : decode cX8_citation 133 = .ok (.goto 4, 3) := by decide +kernel
theorem dX8_citation_136 : decode cX8_citation 136 = .ok (.iconst 0, 1) := by decide +kernel
theorem dX8_citation_137 : decode cX8_citation 137 = .ok (.ireturn, 1) := by decide +kernel
theorem dX8_citation_138 : decode cX8_citation 138 = .ok (.aload_n 0, 1) := by decide +kernel
theorem dX8_citation_139 : decode cX8_citation 139 = .ok (.iload 4, 2) := by decide +kernel
theorem dX8_citation_141 : decode cX8_citation 141 = .ok (.invokevirtual 232, 3) := by decide +kernel
theorem dX8_citation_144 : decode cX8_citation 144 = .ok (.ireturn, 1) := by decide +kernel
theorem dX8_paragraph_0 : decode cX8_paragraph 0 = .ok (.iload_n 1, 1) := by decide +kernel
theorem dX8_paragraph_1 : decode cX8_paragraph 1 = .ok (.invokestatic 128, 3) := by decide +kernel
theorem dX8_paragraph_4 : decode cX8_paragraph 4 = .ok (.iload_n 2, 1) := by decide +kernel
theorem dX8_paragraph_5 : decode cX8_paragraph 5 = .ok (.iconst 3, 1) := by decide +kernel
theorem dX8_paragraph_6 : decode cX8_paragraph 6 = .ok (.invokestatic 213, 3) := by decide +kernel
theorem dX8_paragraph_9 : decode cX8_paragraph 9 = .ok (.iload_n 2, 1) := by decide +kernel
theorem dX8_paragraph_10 : decode cX8_paragraph 10 = .ok (.tableswitch 63 0 2 #[26, 39, 45], 26) := by decide +kernel
theorem dX8_paragraph_36 : decode cX8_paragraph 36 = .ok (.aload_n 0, 1) := by decide +kernel
theorem dX8_paragraph_37 : decode cX8_paragraph 37 = .ok (.getfield 12, 3) := by decide +kernel
theorem dX8_paragraph_40 : decode cX8_paragraph 40 = .ok (.getfield 111, 3) := by decide +kernel
theorem dX8_paragraph_43 : decode cX8_paragraph 43 = .ok (.getfield 131, 3) := by decide +kernel
theorem dX8_paragraph_46 : decode cX8_paragraph 46 = .ok (.iload_n 1, 1) := by decide +kernel
theorem dX8_paragraph_47 : decode cX8_paragraph 47 = .ok (.iaload, 1) := by decide +kernel
theorem dX8_paragraph_48 : decode cX8_paragraph 48 = .ok (.ireturn, 1) := by decide +kernel
theorem dX8_paragraph_49 : decode cX8_paragraph 49 = .ok (.aload_n 0, 1) := by decide +kernel
theorem dX8_paragraph_50 : decode cX8_paragraph 50 = .ok (.iload_n 1, 1) := by decide +kernel
theorem dX8_paragraph_51 : decode cX8_paragraph 51 = .ok (.invokevirtual 235, 3) := by decide +kernel
theorem dX8_paragraph_54 : decode cX8_paragraph 54 = .ok (.ireturn, 1) := by decide +kernel
theorem dX8_paragraph_55 : decode cX8_paragraph 55 = .ok (.aload_n 0, 1) := by decide +kernel
theorem dX8_paragraph_56 : decode cX8_paragraph 56 = .ok (.iload_n 1, 1) := by decide +kernel
theorem dX8_paragraph_57 : decode cX8_paragraph 57 = .ok (.aload_n 0, 1) := by decide +kernel
theorem dX8_paragraph_58 : decode cX8_paragraph 58 = .ok (.getfield 44, 3) := by decide +kernel
theorem dX8_paragraph_61 : decode cX8_paragraph 61 = .ok (.invokevirtual 147, 3) := by decide +kernel
theorem dX8_paragraph_64 : decode cX8_paragraph 64 = .ok (.ifCond .eq 7, 3) := by decide +kernel
theorem dX8_paragraph_67 : decode cX8_paragraph 67 = .ok (.iconst 1, 1) := by decide +kernel
theorem dX8_paragraph_68 : decode cX8_paragraph 68 = .ok (.goto 4, 3) := by decide +kernel
theorem dX8_paragraph_71 : decode cX8_paragraph 71 = .ok (.iconst 0, 1) := by decide +kernel
theorem dX8_paragraph_72 : decode cX8_paragraph 72 = .ok (.ireturn, 1) := by decide +kernel
theorem dX8_paragraph_73 : decode cX8_paragraph 73 = .ok (.aload_n 0, 1) := by decide +kernel
theorem dX8_paragraph_74 : decode cX8_paragraph 74 = .ok (.getfield 12, 3) := by decide +kernel
theorem dX8_paragraph_77 : decode cX8_paragraph 77 = .ok (.getfield 151, 3) := by decide +kernel
theorem dX8_paragraph_80 : decode cX8_paragraph 80 = .ok (.getfield 155, 3) := by decide +kernel
theorem dX8_paragraph_83 : decode cX8_paragraph 83 = .ok (.iload_n 1, 1) := by decide +kernel
theorem dX8_paragraph_84 : decode cX8_paragraph 84 = .ok (.iaload, 1) := by decide +kernel
theorem dX8_paragraph_85 : decode cX8_paragraph 85 = .ok (.ireturn, 1) := by decide +kernel
theorem dX8_table_0 : decode cX8_table 0 = .ok (.aload_n 0, 1) := by decide +kernel
theorem dX8_table_1 : decode cX8_table 1 = .ok (.iload_n 1, 1) := by decide +kernel
theorem dX8_table_2 : decode cX8_table 2 = .ok (.invokevirtual 75, 3) := by decide +kernel
theorem dX8_table_5 : decode cX8_table 5 = .ok (.iconst 0, 1) := by decide +kernel
theorem dX8_table_6 : decode cX8_table 6 = .ok (.istore_n 2, 1) := by decide +kernel
theorem dX8_table_7 : decode cX8_table 7 = .ok (.iconst 0, 1) := by decide +kernel
theorem dX8_table_8 : decode cX8_table 8 = .ok (.istore_n 3, 1) := by decide +kernel
theorem dX8_table_9 : decode cX8_table 9 = .ok (.iload_n 3, 1) := by decide +kernel
theorem dX8_table_10 : decode cX8_table 10 = .ok (.bipush 12, 2) := by decide +kernel
theorem dX8_table_12 : decode cX8_table 12 = .ok (.if_icmp .ge 24, 3) := by decide +kernel
theorem dX8_table_15 : decode cX8_table 15 = .ok (.aload_n 0, 1) := by decide +kernel
theorem dX8_table_16 : decode cX8_table 16 = .ok (.iload_n 3, 1) := by decide +kernel
theorem dX8_table_17 : decode cX8_table 17 = .ok (.iload_n 1, 1) := by decide +kernel
theorem dX8_table_18 : decode cX8_table 18 = .ok (.invokevirtual 238, 3) := by decide +kernel
theorem dX8_table_21 : decode cX8_table 21 = .ok (.ifCond .le 9, 3) := by decide +kernel
theorem dX8_table_24 : decode cX8_table 24 = .ok (.iload_n 2, 1) := by decide +kernel
theorem dX8_table_25 : decode cX8_table 25 = .ok (.iconst 1, 1) := by decide +kernel
theorem dX8_table_26 : decode cX8_table 26 = .ok (.iload_n 3, 1) := by decide +kernel
theorem dX8_table_27 : decode cX8_table 27 = .ok (.ishl, 1) := by decide +kernel
theorem dX8_table_28 : decode cX8_table 28 = .ok (.ior, 1) := by decide +kernel
theorem dX8_table_29 : decode cX8_table 29 = .ok (.istore_n 2, 1) := by decide +kernel
theorem dX8_table_30 : decode cX8_table 30 = .ok (.iinc 3 1, 3) := by decide +kernel
theorem dX8_table_33 : decode cX8_table 33 = .ok (.goto (-24), 3) := by decide +kernel
theorem dX8_table_36 : decode cX8_table 36 = .ok (.iload_n 2, 1) := by decide +kernel
theorem dX8_table_37 : decode cX8_table 37 = .ok (.ireturn, 1) := by decide +kernel
theorem dX8_count_0 : decode cX8_count 0 = .ok (.iload_n 1, 1) := by decide +kernel
theorem dX8_count_1 : decode cX8_count 1 = .ok (.bipush 8, 2) := by decide +kernel
theorem dX8_count_3 : decode cX8_count 3 = .ok (.invokestatic 213, 3) := by decide +kernel
theorem dX8_count_6 : decode cX8_count 6 = .ok (.iload_n 1, 1) := by decide +kernel
theorem dX8_count_7 : decode cX8_count 7 = .ok (.tableswitch 121 0 7 #[45, 56, 67, 75, 80, 85, 94, 110], 45) := by decide +kernel
theorem dX8_count_52 : decode cX8_count 52 = .ok (.aload_n 0, 1) := by decide +kernel
theorem dX8_count_53 : decode cX8_count 53 = .ok (.getfield 12, 3) := by decide +kernel
theorem dX8_count_56 : decode cX8_count 56 = .ok (.getfield 48, 3) := by decide +kernel
theorem dX8_count_59 : decode cX8_count 59 = .ok (.getfield 95, 3) := by decide +kernel
theorem dX8_count_62 : decode cX8_count 62 = .ok (.ireturn, 1) := by decide +kernel
theorem dX8_count_63 : decode cX8_count 63 = .ok (.aload_n 0, 1) := by decide +kernel
theorem dX8_count_64 : decode cX8_count 64 = .ok (.getfield 12, 3) := by decide +kernel
theorem dX8_count_67 : decode cX8_count 67 = .ok (.getfield 48, 3) := by decide +kernel
theorem dX8_count_70 : decode cX8_count 70 = .ok (.invokevirtual 241, 3) := by decide +kernel
theorem dX8_count_73 : decode cX8_count 73 = .ok (.ireturn, 1) := by decide +kernel
theorem dX8_count_74 : decode cX8_count 74 = .ok (.aload_n 0, 1) := by decide +kernel
theorem dX8_count_75 : decode cX8_count 75 = .ok (.getfield 19, 3) := by decide +kernel
theorem dX8_count_78 : decode cX8_count 78 = .ok (.getfield 244, 3) := by decide +kernel
theorem dX8_count_81 : decode cX8_count 81 = .ok (.ireturn, 1) := by decide +kernel
theorem dX8_count_82 : decode cX8_count 82 = .ok (.aload_n 0, 1) := by decide +kernel
theorem dX8_count_83 : decode cX8_count 83 = .ok (.invokevirtual 247, 3) := by decide +kernel
theorem dX8_count_86 : decode cX8_count 86 = .ok (.ireturn, 1) := by decide +kernel
theorem dX8_count_87 : decode cX8_count 87 = .ok (.aload_n 0, 1) := by decide +kernel
theorem dX8_count_88 : decode cX8_count 88 = .ok (.invokevirtual 250, 3) := by decide +kernel
theorem dX8_count_91 : decode cX8_count 91 = .ok (.ireturn, 1) := by decide +kernel
theorem dX8_count_92 : decode cX8_count 92 = .ok (.aload_n 0, 1) := by decide +kernel
theorem dX8_count_93 : decode cX8_count 93 = .ok (.aload_n 0, 1) := by decide +kernel
theorem dX8_count_94 : decode cX8_count 94 = .ok (.getfield 44, 3) := by decide +kernel
theorem dX8_count_97 : decode cX8_count 97 = .ok (.invokevirtual 253, 3) := by decide +kernel
theorem dX8_count_100 : decode cX8_count 100 = .ok (.ireturn, 1) := by decide +kernel
theorem dX8_count_101 : decode cX8_count 101 = .ok (.aload_n 0, 1) := by decide +kernel
theorem dX8_count_102 : decode cX8_count 102 = .ok (.getfield 12, 3) := by decide +kernel
theorem dX8_count_105 : decode cX8_count 105 = .ok (.getfield 48, 3) := by decide +kernel
theorem dX8_count_108 : decode cX8_count 108 = .ok (.getfield 95, 3) := by decide +kernel
theorem dX8_count_111 : decode cX8_count 111 = .ok (.aload_n 0, 1) := by decide +kernel
theorem dX8_count_112 : decode cX8_count 112 = .ok (.invokevirtual 257, 3) := by decide +kernel
theorem dX8_count_115 : decode cX8_count 115 = .ok (.isub, 1) := by decide +kernel
theorem dX8_count_116 : decode cX8_count 116 = .ok (.ireturn, 1) := by decide +kernel
theorem dX8_count_117 : decode cX8_count 117 = .ok (.aload_n 0, 1) := by decide +kernel
theorem dX8_count_118 : decode cX8_count 118 = .ok (.getfield 12, 3) := by decide +kernel
theorem dX8_count_121 : decode cX8_count 121 = .ok (.getfield 48, 3) := by decide +kernel
theorem dX8_count_124 : decode cX8_count 124 = .ok (.getfield 174, 3) := by decide +kernel
theorem dX8_count_127 : decode cX8_count 127 = .ok (.ireturn, 1) := by decide +kernel
theorem dX8_count_128 : decode cX8_count 128 = .ok (.aload_n 0, 1) := by decide +kernel
theorem dX8_count_129 : decode cX8_count 129 = .ok (.getfield 33, 3) := by decide +kernel
theorem dX8_count_132 : decode cX8_count 132 = .ok (.getfield 205, 3) := by decide +kernel
theorem dX8_count_135 : decode cX8_count 135 = .ok (.ireturn, 1) := by decide +kernel
theorem dX8_ifDropped_0 : decode cX8_ifDropped 0 = .ok (.aload_n 0, 1) := by decide +kernel
theorem dX8_ifDropped_1 : decode cX8_ifDropped 1 = .ok (.iload_n 1, 1) := by decide +kernel
theorem dX8_ifDropped_2 : decode cX8_ifDropped 2 = .ok (.invokevirtual 75, 3) := by decide +kernel
theorem dX8_ifDropped_5 : decode cX8_ifDropped 5 = .ok (.iload_n 2, 1) := by decide +kernel
theorem dX8_ifDropped_6 : decode cX8_ifDropped 6 = .ok (.iconst 1, 1) := by decide +kernel
theorem dX8_ifDropped_7 : decode cX8_ifDropped 7 = .ok (.invokestatic 213, 3) := by decide +kernel
theorem dX8_ifDropped_10 : decode cX8_ifDropped 10 = .ok (.iload_n 2, 1) := by decide +kernel
theorem dX8_ifDropped_11 : decode cX8_ifDropped 11 = .ok (.ifCond .ne 9, 3) := by decide +kernel
theorem dX8_ifDropped_14 : decode cX8_ifDropped 14 = .ok (.aload_n 0, 1) := by decide +kernel
theorem dX8_ifDropped_15 : decode cX8_ifDropped 15 = .ok (.iload_n 1, 1) := by decide +kernel
theorem dX8_ifDropped_16 : decode cX8_ifDropped 16 = .ok (.invokevirtual 91, 3) := by decide +kernel
theorem dX8_ifDropped_19 : decode cX8_ifDropped 19 = .ok (.ireturn, 1) := by decide +kernel
theorem dX8_ifDropped_20 : decode cX8_ifDropped 20 = .ok (.aload_n 0, 1) := by decide +kernel
theorem dX8_ifDropped_21 : decode cX8_ifDropped 21 = .ok (.getfield 26, 3) := by decide +kernel
theorem dX8_ifDropped_24 : decode cX8_ifDropped 24 = .ok (.aload_n 0, 1) := by decide +kernel
theorem dX8_ifDropped_25 : decode cX8_ifDropped 25 = .ok (.getfield 12, 3) := by decide +kernel
theorem dX8_ifDropped_28 : decode cX8_ifDropped 28 = .ok (.getfield 48, 3) := by decide +kernel
theorem dX8_ifDropped_31 : decode cX8_ifDropped 31 = .ok (.iload_n 1, 1) := by decide +kernel
theorem dX8_ifDropped_32 : decode cX8_ifDropped 32 = .ok (.invokevirtual 270, 3) := by decide +kernel
theorem dX8_ifDropped_35 : decode cX8_ifDropped 35 = .ok (.aload_n 0, 1) := by decide +kernel
theorem dX8_ifDropped_36 : decode cX8_ifDropped 36 = .ok (.aload_n 0, 1) := by decide +kernel
theorem dX8_ifDropped_37 : decode cX8_ifDropped 37 = .ok (.getfield 26, 3) := by decide +kernel
theorem dX8_ifDropped_40 : decode cX8_ifDropped 40 = .ok (.getfield 264, 3) := by decide +kernel
theorem dX8_ifDropped_43 : decode cX8_ifDropped 43 = .ok (.invokevirtual 253, 3) := by decide +kernel
theorem dX8_ifDropped_46 : decode cX8_ifDropped 46 = .ok (.ireturn, 1) := by decide +kernel
theorem dX8_citedShare_0 : decode cX8_citedShare 0 = .ok (.aload_n 0, 1) := by decide +kernel
theorem dX8_citedShare_1 : decode cX8_citedShare 1 = .ok (.getfield 12, 3) := by decide +kernel
theorem dX8_citedShare_4 : decode cX8_citedShare 4 = .ok (.getfield 48, 3) := by decide +kernel
theorem dX8_citedShare_7 : decode cX8_citedShare 7 = .ok (.getfield 95, 3) := by decide +kernel
theorem dX8_citedShare_10 : decode cX8_citedShare 10 = .ok (.ifCond .ne 5, 3) := by decide +kernel
theorem dX8_citedShare_13 : decode cX8_citedShare 13 = .ok (.dconst 1, 1) := by decide +kernel
theorem dX8_citedShare_14 : decode cX8_citedShare 14 = .ok (.dreturn, 1) := by decide +kernel
theorem dX8_citedShare_15 : decode cX8_citedShare 15 = .ok (.aload_n 0, 1) := by decide +kernel
theorem dX8_citedShare_16 : decode cX8_citedShare 16 = .ok (.invokevirtual 257, 3) := by decide +kernel
theorem dX8_citedShare_19 : decode cX8_citedShare 19 = .ok (.i2d, 1) := by decide +kernel
theorem dX8_citedShare_20 : decode cX8_citedShare 20 = .ok (.aload_n 0, 1) := by decide +kernel
theorem dX8_citedShare_21 : decode cX8_citedShare 21 = .ok (.getfield 12, 3) := by decide +kernel
theorem dX8_citedShare_24 : decode cX8_citedShare 24 = .ok (.getfield 48, 3) := by decide +kernel
theorem dX8_citedShare_27 : decode cX8_citedShare 27 = .ok (.getfield 95, 3) := by decide +kernel
theorem dX8_citedShare_30 : decode cX8_citedShare 30 = .ok (.i2d, 1) := by decide +kernel
theorem dX8_citedShare_31 : decode cX8_citedShare 31 = .ok (.ddiv, 1) := by decide +kernel
theorem dX8_citedShare_32 : decode cX8_citedShare 32 = .ok (.dreturn, 1) := by decide +kernel
theorem dX8_checkPlace_0 : decode cX8_checkPlace 0 = .ok (.iload_n 1, 1) := by decide +kernel
theorem dX8_checkPlace_1 : decode cX8_checkPlace 1 = .ok (.ifCond .lt 17, 3) := by decide +kernel
theorem dX8_checkPlace_4 : decode cX8_checkPlace 4 = .ok (.iload_n 1, 1) := by decide +kernel
theorem dX8_checkPlace_5 : decode cX8_checkPlace 5 = .ok (.aload_n 0, 1) := by decide +kernel
theorem dX8_checkPlace_6 : decode cX8_checkPlace 6 = .ok (.getfield 12, 3) := by decide +kernel
theorem dX8_checkPlace_9 : decode cX8_checkPlace 9 = .ok (.getfield 48, 3) := by decide +kernel
theorem dX8_checkPlace_12 : decode cX8_checkPlace 12 = .ok (.getfield 95, 3) := by decide +kernel
theorem dX8_checkPlace_15 : decode cX8_checkPlace 15 = .ok (.if_icmp .lt 14, 3) := by decide +kernel
theorem dX8_checkPlace_18 : decode cX8_checkPlace 18 = .ok (.new 99, 3) := by decide +kernel
theorem dX8_checkPlace_21 : decode cX8_checkPlace 21 = .ok (.dup, 1) := by decide +kernel
theorem dX8_checkPlace_22 : decode cX8_checkPlace 22 = .ok (.ldc_w 342, 3) := by decide +kernel
theorem dX8_checkPlace_25 : decode cX8_checkPlace 25 = .ok (.invokespecial 103, 3) := by decide +kernel
theorem dX8_checkPlace_28 : decode cX8_checkPlace 28 = .ok (.athrow, 1) := by decide +kernel
theorem dX8_checkPlace_29 : decode cX8_checkPlace 29 = .ok (.return_, 1) := by decide +kernel
theorem dX8_checkGap_0 : decode cX8_checkGap 0 = .ok (.iload_n 1, 1) := by decide +kernel
theorem dX8_checkGap_1 : decode cX8_checkGap 1 = .ok (.ifCond .lt 17, 3) := by decide +kernel
theorem dX8_checkGap_4 : decode cX8_checkGap 4 = .ok (.iload_n 1, 1) := by decide +kernel
theorem dX8_checkGap_5 : decode cX8_checkGap 5 = .ok (.aload_n 0, 1) := by decide +kernel
theorem dX8_checkGap_6 : decode cX8_checkGap 6 = .ok (.getfield 12, 3) := by decide +kernel
theorem dX8_checkGap_9 : decode cX8_checkGap 9 = .ok (.getfield 48, 3) := by decide +kernel
theorem dX8_checkGap_12 : decode cX8_checkGap 12 = .ok (.getfield 95, 3) := by decide +kernel
theorem dX8_checkGap_15 : decode cX8_checkGap 15 = .ok (.if_icmp .le 14, 3) := by decide +kernel
theorem dX8_checkGap_18 : decode cX8_checkGap 18 = .ok (.new 99, 3) := by decide +kernel
theorem dX8_checkGap_21 : decode cX8_checkGap 21 = .ok (.dup, 1) := by decide +kernel
theorem dX8_checkGap_22 : decode cX8_checkGap 22 = .ok (.ldc_w 344, 3) := by decide +kernel
theorem dX8_checkGap_25 : decode cX8_checkGap 25 = .ok (.invokespecial 103, 3) := by decide +kernel
theorem dX8_checkGap_28 : decode cX8_checkGap 28 = .ok (.athrow, 1) := by decide +kernel
theorem dX8_checkGap_29 : decode cX8_checkGap 29 = .ok (.return_, 1) := by decide +kernel
theorem dX8_checkRoomForExhibit_0 : decode cX8_checkRoomForExhibit 0 = .ok (.aload_n 0, 1) := by decide +kernel
theorem dX8_checkRoomForExhibit_1 : decode cX8_checkRoomForExhibit 1 = .ok (.getfield 12, 3) := by decide +kernel
theorem dX8_checkRoomForExhibit_4 : decode cX8_checkRoomForExhibit 4 = .ok (.getfield 48, 3) := by decide +kernel
theorem dX8_checkRoomForExhibit_7 : decode cX8_checkRoomForExhibit 7 = .ok (.getfield 95, 3) := by decide +kernel
theorem dX8_checkRoomForExhibit_10 : decode cX8_checkRoomForExhibit 10 = .ok (.bipush 30, 2) := by decide +kernel
theorem dX8_checkRoomForExhibit_12 : decode cX8_checkRoomForExhibit 12 = .ok (.if_icmp .lt 14, 3) := by decide +kernel
theorem dX8_checkRoomForExhibit_15 : decode cX8_checkRoomForExhibit 15 = .ok (.new 106, 3) := by decide +kernel
theorem dX8_checkRoomForExhibit_18 : decode cX8_checkRoomForExhibit 18 = .ok (.dup, 1) := by decide +kernel
theorem dX8_checkRoomForExhibit_19 : decode cX8_checkRoomForExhibit 19 = .ok (.ldc_w 346, 3) := by decide +kernel
theorem dX8_checkRoomForExhibit_22 : decode cX8_checkRoomForExhibit 22 = .ok (.invokespecial 110, 3) := by decide +kernel
theorem dX8_checkRoomForExhibit_25 : decode cX8_checkRoomForExhibit 25 = .ok (.athrow, 1) := by decide +kernel
theorem dX8_checkRoomForExhibit_26 : decode cX8_checkRoomForExhibit 26 = .ok (.return_, 1) := by decide +kernel
theorem dX8_checkParagraph_0 : decode cX8_checkParagraph 0 = .ok (.iload_n 0, 1) := by decide +kernel
theorem dX8_checkParagraph_1 : decode cX8_checkParagraph 1 = .ok (.ifCond .lt 9, 3) := by decide +kernel
theorem dX8_checkParagraph_4 : decode cX8_checkParagraph 4 = .ok (.iload_n 0, 1) := by decide +kernel
theorem dX8_checkParagraph_5 : decode cX8_checkParagraph 5 = .ok (.bipush 12, 2) := by decide +kernel
theorem dX8_checkParagraph_7 : decode cX8_checkParagraph 7 = .ok (.if_icmp .lt 14, 3) := by decide +kernel
theorem dX8_checkParagraph_10 : decode cX8_checkParagraph 10 = .ok (.new 99, 3) := by decide +kernel
theorem dX8_checkParagraph_13 : decode cX8_checkParagraph 13 = .ok (.dup, 1) := by decide +kernel
theorem dX8_checkParagraph_14 : decode cX8_checkParagraph 14 = .ok (.ldc_w 348, 3) := by decide +kernel
theorem dX8_checkParagraph_17 : decode cX8_checkParagraph 17 = .ok (.invokespecial 103, 3) := by decide +kernel
theorem dX8_checkParagraph_20 : decode cX8_checkParagraph 20 = .ok (.athrow, 1) := by decide +kernel
theorem dX8_checkParagraph_21 : decode cX8_checkParagraph 21 = .ok (.return_, 1) := by decide +kernel
theorem dX8_checkPages_0 : decode cX8_checkPages 0 = .ok (.iload_n 0, 1) := by decide +kernel
theorem dX8_checkPages_1 : decode cX8_checkPages 1 = .ok (.iconst 1, 1) := by decide +kernel
theorem dX8_checkPages_2 : decode cX8_checkPages 2 = .ok (.if_icmp .lt 9, 3) := by decide +kernel
theorem dX8_checkPages_5 : decode cX8_checkPages 5 = .ok (.iload_n 0, 1) := by decide +kernel
theorem dX8_checkPages_6 : decode cX8_checkPages 6 = .ok (.bipush 60, 2) := by decide +kernel
theorem dX8_checkPages_8 : decode cX8_checkPages 8 = .ok (.if_icmp .le 14, 3) := by decide +kernel
theorem dX8_checkPages_11 : decode cX8_checkPages 11 = .ok (.new 120, 3) := by decide +kernel
theorem dX8_checkPages_14 : decode cX8_checkPages 14 = .ok (.dup, 1) := by decide +kernel
theorem dX8_checkPages_15 : decode cX8_checkPages 15 = .ok (.ldc_w 350, 3) := by decide +kernel
theorem dX8_checkPages_18 : decode cX8_checkPages 18 = .ok (.invokespecial 124, 3) := by decide +kernel
theorem dX8_checkPages_21 : decode cX8_checkPages 21 = .ok (.athrow, 1) := by decide +kernel
theorem dX8_checkPages_22 : decode cX8_checkPages 22 = .ok (.return_, 1) := by decide +kernel
theorem dX8_checkWhat_0 : decode cX8_checkWhat 0 = .ok (.iload_n 0, 1) := by decide +kernel
theorem dX8_checkWhat_1 : decode cX8_checkWhat 1 = .ok (.ifCond .lt 8, 3) := by decide +kernel
theorem dX8_checkWhat_4 : decode cX8_checkWhat 4 = .ok (.iload_n 0, 1) := by decide +kernel
theorem dX8_checkWhat_5 : decode cX8_checkWhat 5 = .ok (.iload_n 1, 1) := by decide +kernel
theorem dX8_checkWhat_6 : decode cX8_checkWhat 6 = .ok (.if_icmp .le 14, 3) := by decide +kernel
theorem dX8_checkWhat_9 : decode cX8_checkWhat 9 = .ok (.new 120, 3) := by decide +kernel
theorem dX8_checkWhat_12 : decode cX8_checkWhat 12 = .ok (.dup, 1) := by decide +kernel
theorem dX8_checkWhat_13 : decode cX8_checkWhat 13 = .ok (.ldc_w 352, 3) := by decide +kernel
theorem dX8_checkWhat_16 : decode cX8_checkWhat 16 = .ok (.invokespecial 124, 3) := by decide +kernel
theorem dX8_checkWhat_19 : decode cX8_checkWhat 19 = .ok (.athrow, 1) := by decide +kernel
theorem dX8_checkWhat_20 : decode cX8_checkWhat 20 = .ok (.return_, 1) := by decide +kernel
theorem dX8_cellOf_0 : decode cX8_cellOf 0 = .ok (.iload_n 0, 1) := by decide +kernel
theorem dX8_cellOf_1 : decode cX8_cellOf 1 = .ok (.bipush 6, 2) := by decide +kernel
theorem dX8_cellOf_3 : decode cX8_cellOf 3 = .ok (.imul, 1) := by decide +kernel
theorem dX8_cellOf_4 : decode cX8_cellOf 4 = .ok (.iload_n 1, 1) := by decide +kernel
theorem dX8_cellOf_5 : decode cX8_cellOf 5 = .ok (.iadd, 1) := by decide +kernel
theorem dX8_cellOf_6 : decode cX8_cellOf 6 = .ok (.ireturn, 1) := by decide +kernel
theorem dX8_markOf_0 : decode cX8_markOf 0 = .ok (.iload_n 0, 1) := by decide +kernel
theorem dX8_markOf_1 : decode cX8_markOf 1 = .ok (.iconst 1, 1) := by decide +kernel
theorem dX8_markOf_2 : decode cX8_markOf 2 = .ok (.iadd, 1) := by decide +kernel
theorem dX8_markOf_3 : decode cX8_markOf 3 = .ok (.bipush 61, 2) := by decide +kernel
theorem dX8_markOf_5 : decode cX8_markOf 5 = .ok (.imul, 1) := by decide +kernel
theorem dX8_markOf_6 : decode cX8_markOf 6 = .ok (.iload_n 1, 1) := by decide +kernel
theorem dX8_markOf_7 : decode cX8_markOf 7 = .ok (.iadd, 1) := by decide +kernel
theorem dX8_markOf_8 : decode cX8_markOf 8 = .ok (.iconst 2, 1) := by decide +kernel
theorem dX8_markOf_9 : decode cX8_markOf 9 = .ok (.imul, 1) := by decide +kernel
theorem dX8_markOf_10 : decode cX8_markOf 10 = .ok (.iload_n 2, 1) := by decide +kernel
theorem dX8_markOf_11 : decode cX8_markOf 11 = .ok (.ifCond .eq 7, 3) := by decide +kernel
theorem dX8_markOf_14 : decode cX8_markOf 14 = .ok (.iconst 1, 1) := by decide +kernel
theorem dX8_markOf_15 : decode cX8_markOf 15 = .ok (.goto 4, 3) := by decide +kernel
theorem dX8_markOf_18 : decode cX8_markOf 18 = .ok (.iconst 0, 1) := by decide +kernel
theorem dX8_markOf_19 : decode cX8_markOf 19 = .ok (.iadd, 1) := by decide +kernel
theorem dX8_markOf_20 : decode cX8_markOf 20 = .ok (.ireturn, 1) := by decide +kernel
theorem dX8_pageInBrief_0 : decode cX8_pageInBrief 0 = .ok (.aload_n 0, 1) := by decide +kernel
theorem dX8_pageInBrief_1 : decode cX8_pageInBrief 1 = .ok (.getfield 19, 3) := by decide +kernel
theorem dX8_pageInBrief_4 : decode cX8_pageInBrief 4 = .ok (.getfield 164, 3) := by decide +kernel
theorem dX8_pageInBrief_7 : decode cX8_pageInBrief 7 = .ok (.iload_n 1, 1) := by decide +kernel
theorem dX8_pageInBrief_8 : decode cX8_pageInBrief 8 = .ok (.iaload, 1) := by decide +kernel
theorem dX8_pageInBrief_9 : decode cX8_pageInBrief 9 = .ok (.istore_n 2, 1) := by decide +kernel
theorem dX8_pageInBrief_10 : decode cX8_pageInBrief 10 = .ok (.iload_n 2, 1) := by decide +kernel
theorem dX8_pageInBrief_11 : decode cX8_pageInBrief 11 = .ok (.iconst (-1), 1) := by decide +kernel
theorem dX8_pageInBrief_12 : decode cX8_pageInBrief 12 = .ok (.if_icmp .eq 15, 3) := by decide +kernel
theorem dX8_pageInBrief_15 : decode cX8_pageInBrief 15 = .ok (.aload_n 0, 1) := by decide +kernel
theorem dX8_pageInBrief_16 : decode cX8_pageInBrief 16 = .ok (.getfield 19, 3) := by decide +kernel
theorem dX8_pageInBrief_19 : decode cX8_pageInBrief 19 = .ok (.getfield 139, 3) := by decide +kernel
theorem dX8_pageInBrief_22 : decode cX8_pageInBrief 22 = .ok (.iload_n 1, 1) := by decide +kernel
theorem dX8_pageInBrief_23 : decode cX8_pageInBrief 23 = .ok (.baload, 1) := by decide +kernel
theorem dX8_pageInBrief_24 : decode cX8_pageInBrief 24 = .ok (.ifCond .eq 5, 3) := by decide +kernel
theorem dX8_pageInBrief_27 : decode cX8_pageInBrief 27 = .ok (.iconst (-1), 1) := by decide +kernel
theorem dX8_pageInBrief_28 : decode cX8_pageInBrief 28 = .ok (.ireturn, 1) := by decide +kernel
theorem dX8_pageInBrief_29 : decode cX8_pageInBrief 29 = .ok (.aload_n 0, 1) := by decide +kernel
theorem dX8_pageInBrief_30 : decode cX8_pageInBrief 30 = .ok (.getfield 19, 3) := by decide +kernel
theorem dX8_pageInBrief_33 : decode cX8_pageInBrief 33 = .ok (.getfield 223, 3) := by decide +kernel
theorem dX8_pageInBrief_36 : decode cX8_pageInBrief 36 = .ok (.iload_n 2, 1) := by decide +kernel
theorem dX8_pageInBrief_37 : decode cX8_pageInBrief 37 = .ok (.iaload, 1) := by decide +kernel
theorem dX8_pageInBrief_38 : decode cX8_pageInBrief 38 = .ok (.aload_n 0, 1) := by decide +kernel
theorem dX8_pageInBrief_39 : decode cX8_pageInBrief 39 = .ok (.getfield 12, 3) := by decide +kernel
theorem dX8_pageInBrief_42 : decode cX8_pageInBrief 42 = .ok (.getfield 111, 3) := by decide +kernel
theorem dX8_pageInBrief_45 : decode cX8_pageInBrief 45 = .ok (.getfield 167, 3) := by decide +kernel
theorem dX8_pageInBrief_48 : decode cX8_pageInBrief 48 = .ok (.iload_n 1, 1) := by decide +kernel
theorem dX8_pageInBrief_49 : decode cX8_pageInBrief 49 = .ok (.iaload, 1) := by decide +kernel
theorem dX8_pageInBrief_50 : decode cX8_pageInBrief 50 = .ok (.iadd, 1) := by decide +kernel
theorem dX8_pageInBrief_51 : decode cX8_pageInBrief 51 = .ok (.iconst 1, 1) := by decide +kernel
theorem dX8_pageInBrief_52 : decode cX8_pageInBrief 52 = .ok (.isub, 1) := by decide +kernel
theorem dX8_pageInBrief_53 : decode cX8_pageInBrief 53 = .ok (.ireturn, 1) := by decide +kernel
theorem dX8_citationsOf_0 : decode cX8_citationsOf 0 = .ok (.iconst 0, 1) := by decide +kernel
theorem dX8_citationsOf_1 : decode cX8_citationsOf 1 = .ok (.istore_n 2, 1) := by decide +kernel
