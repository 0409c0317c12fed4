theorem dX9_comes_2 : decode cX9_comes 2 = .ok (.aload_n 0, 1) := by decide +kernel
theorem dX9_comes_3 : decode cX9_comes 3 = .ok (.iconst 2, 1) := by decide +kernel
theorem dX9_comes_4 : decode cX9_comes 4 = .ok (.iaload, 1) := by decide +kernel
theorem dX9_comes_5 : decode cX9_comes 5 = .ok (.iload_n 2, 1) := by decide +kernel
theorem dX9_comes_6 : decode cX9_comes 6 = .ok (.invokestatic 83, 3) := by decide +kernel
theorem dX9_comes_9 : decode cX9_comes 9 = .ok (.aload_n 0, 1) := by decide +kernel
theorem dX9_comes_10 : decode cX9_comes 10 = .ok (.iconst 2, 1) := by decide +kernel
theorem dX9_comes_11 : decode cX9_comes 11 = .ok (.dup2, 1) := by decide +kernel
theorem dX9_comes_12 : decode cX9_comes 12 = .ok (.iaload, 1) := by decide +kernel
theorem dX9_comes_13 : decode cX9_comes 13 = .ok (.iconst 1, 1) := by decide +kernel
theorem dX9_comes_14 : decode cX9_comes 14 = .ok (.iadd, 1) := by decide +kernel
theorem dX9_comes_15 : decode cX9_comes 15 = .ok (.iastore, 1) := by decide +kernel
theorem dX9_comes_16 : decode cX9_comes 16 = .ok (.return_, 1) := by decide +kernel
theorem dX9_follow_0 : decode cX9_follow 0 = .ok (.iconst 0, 1) := by decide +kernel
theorem dX9_follow_1 : decode cX9_follow 1 = .ok (.istore 5, 2) := by decide +kernel
theorem dX9_follow_3 : decode cX9_follow 3 = .ok (.iload 5, 2) := by decide +kernel
theorem dX9_follow_5 : decode cX9_follow 5 = .ok (.bipush 12, 2) := by decide +kernel
theorem dX9_follow_7 : decode cX9_follow 7 = .ok (.if_icmp .ge 86, 3) := by decide +kernel
theorem dX9_follow_10 : decode cX9_follow 10 = .ok (.iconst 0, 1) := by decide +kernel
theorem dX9_follow_11 : decode cX9_follow 11 = .ok (.istore 6, 2) := by decide +kernel
theorem dX9_follow_13 : decode cX9_follow 13 = .ok (.iload 6, 2) := by decide +kernel
theorem dX9_follow_15 : decode cX9_follow 15 = .ok (.aload_n 0, 1) := by decide +kernel
theorem dX9_follow_16 : decode cX9_follow 16 = .ok (.iload 5, 2) := by decide +kernel
theorem dX9_follow_18 : decode cX9_follow 18 = .ok (.invokestatic 59, 3) := by decide +kernel
theorem dX9_follow_21 : decode cX9_follow 21 = .ok (.if_icmp .ge 66, 3) := by decide +kernel
theorem dX9_follow_24 : decode cX9_follow 24 = .ok (.iload 5, 2) := by decide +kernel
theorem dX9_follow_26 : decode cX9_follow 26 = .ok (.iload 6, 2) := by decide +kernel
theorem dX9_follow_28 : decode cX9_follow 28 = .ok (.invokestatic 44, 3) := by decide +kernel
theorem dX9_follow_31 : decode cX9_follow 31 = .ok (.istore 7, 2) := by decide +kernel
theorem dX9_follow_33 : decode cX9_follow 33 = .ok (.aload_n 0, 1) := by decide +kernel
theorem dX9_follow_34 : decode cX9_follow 34 = .ok (.iload 7, 2) := by decide +kernel
theorem dX9_follow_36 : decode cX9_follow 36 = .ok (.iaload, 1) := by decide +kernel
theorem dX9_follow_37 : decode cX9_follow 37 = .ok (.iload_n 1, 1) := by decide +kernel
theorem dX9_follow_38 : decode cX9_follow 38 = .ok (.if_icmp .ne 43, 3) := by decide +kernel
theorem dX9_follow_41 : decode cX9_follow 41 = .ok (.aload_n 0, 1) := by decide +kernel
theorem dX9_follow_42 : decode cX9_follow 42 = .ok (.iload 7, 2) := by decide +kernel
theorem dX9_follow_44 : decode cX9_follow 44 = .ok (.iconst 1, 1) := by decide +kernel
theorem dX9_follow_45 : decode cX9_follow 45 = .ok (.iadd, 1) := by decide +kernel
theorem dX9_follow_46 : decode cX9_follow 46 = .ok (.iaload, 1) := by decide +kernel
theorem dX9_follow_47 : decode cX9_follow 47 = .ok (.iload_n 3, 1) := by decide +kernel
theorem dX9_follow_48 : decode cX9_follow 48 = .ok (.if_icmp .lt 33, 3) := by decide +kernel
theorem dX9_follow_51 : decode cX9_follow 51 = .ok (.aload_n 0, 1) := by decide +kernel
theorem dX9_follow_52 : decode cX9_follow 52 = .ok (.iload 7, 2) := by decide +kernel
theorem dX9_follow_54 : decode cX9_follow 54 = .ok (.iconst 1, 1) := by decide +kernel
theorem dX9_follow_55 : decode cX9_follow 55 = .ok (.iadd, 1) := by decide +kernel
theorem dX9_follow_56 : decode cX9_follow 56 = .ok (.iaload, 1) := by decide +kernel
theorem dX9_follow_57 : decode cX9_follow 57 = .ok (.iload 4, 2) := by decide +kernel
theorem dX9_follow_59 : decode cX9_follow 59 = .ok (.iadd, 1) := by decide +kernel
theorem dX9_follow_60 : decode cX9_follow 60 = .ok (.bipush 60, 2) := by decide +kernel
theorem dX9_follow_62 : decode cX9_follow 62 = .ok (.if_icmp .gt 19, 3) := by decide +kernel
theorem dX9_follow_65 : decode cX9_follow 65 = .ok (.aload_n 0, 1) := by decide +kernel
theorem dX9_follow_66 : decode cX9_follow 66 = .ok (.iload 7, 2) := by decide +kernel
theorem dX9_follow_68 : decode cX9_follow 68 = .ok (.iload_n 2, 1) := by decide +kernel
theorem dX9_follow_69 : decode cX9_follow 69 = .ok (.iastore, 1) := by decide +kernel
theorem dX9_follow_70 : decode cX9_follow 70 = .ok (.aload_n 0, 1) := by decide +kernel
theorem dX9_follow_71 : decode cX9_follow 71 = .ok (.iload 7, 2) := by decide +kernel
theorem dX9_follow_73 : decode cX9_follow 73 = .ok (.iconst 1, 1) := by decide +kernel
theorem dX9_follow_74 : decode cX9_follow 74 = .ok (.iadd, 1) := by decide +kernel
theorem dX9_follow_75 : decode cX9_follow 75 = .ok (.dup2, 1) := by decide +kernel
theorem dX9_follow_76 : decode cX9_follow 76 = .ok (.iaload, 1) := by decide +kernel
theorem dX9_follow_77 : decode cX9_follow 77 = .ok (.iload 4, 2) := by decide +kernel
theorem dX9_follow_79 : decode cX9_follow 79 = .ok (.iadd, 1) := by decide +kernel
theorem dX9_follow_80 : decode cX9_follow 80 = .ok (.iastore, 1) := by decide +kernel
theorem dX9_follow_81 : decode cX9_follow 81 = .ok (.iinc 6 1, 3) := by decide +kernel
theorem dX9_follow_84 : decode cX9_follow 84 = .ok (.goto (-71), 3) := by decide +kernel
theorem dX9_follow_87 : decode cX9_follow 87 = .ok (.iinc 5 1, 3) := by decide +kernel
theorem dX9_follow_90 : decode cX9_follow 90 = .ok (.goto (-87), 3) := by decide +kernel
theorem dX9_follow_93 : decode cX9_follow 93 = .ok (.return_, 1) := by decide +kernel
theorem dX9_insert_0 : decode cX9_insert 0 = .ok (.aload_n 0, 1) := by decide +kernel
theorem dX9_insert_1 : decode cX9_insert 1 = .ok (.iconst 0, 1) := by decide +kernel
theorem dX9_insert_2 : decode cX9_insert 2 = .ok (.putfield 25, 3) := by decide +kernel
theorem dX9_insert_5 : decode cX9_insert 5 = .ok (.iload_n 1, 1) := by decide +kernel
theorem dX9_insert_6 : decode cX9_insert 6 = .ok (.iconst 0, 1) := by decide +kernel
theorem dX9_insert_7 : decode cX9_insert 7 = .ok (.aload_n 0, 1) := by decide +kernel
theorem dX9_insert_8 : decode cX9_insert 8 = .ok (.getfield 7, 3) := by decide +kernel
theorem dX9_insert_11 : decode cX9_insert 11 = .ok (.iconst 1, 1) := by decide +kernel
theorem dX9_insert_12 : decode cX9_insert 12 = .ok (.iaload, 1) := by decide +kernel
theorem dX9_insert_13 : decode cX9_insert 13 = .ok (.invokestatic 29, 3) := by decide +kernel
theorem dX9_insert_16 : decode cX9_insert 16 = .ok (.ifCond .ne 9, 3) := by decide +kernel
theorem dX9_insert_19 : decode cX9_insert 19 = .ok (.aload_n 0, 1) := by decide +kernel
theorem dX9_insert_20 : decode cX9_insert 20 = .ok (.iconst 1, 1) := by decide +kernel
theorem dX9_insert_21 : decode cX9_insert 21 = .ok (.invokevirtual 40, 3) := by decide +kernel
theorem dX9_insert_24 : decode cX9_insert 24 = .ok (.ireturn, 1) := by decide +kernel
theorem dX9_insert_25 : decode cX9_insert 25 = .ok (.iload_n 2, 1) := by decide +kernel
theorem dX9_insert_26 : decode cX9_insert 26 = .ok (.invokestatic 87, 3) := by decide +kernel
theorem dX9_insert_29 : decode cX9_insert 29 = .ok (.ifCond .ne 9, 3) := by decide +kernel
theorem dX9_insert_32 : decode cX9_insert 32 = .ok (.aload_n 0, 1) := by decide +kernel
theorem dX9_insert_33 : decode cX9_insert 33 = .ok (.iconst 2, 1) := by decide +kernel
theorem dX9_insert_34 : decode cX9_insert 34 = .ok (.invokevirtual 40, 3) := by decide +kernel
theorem dX9_insert_37 : decode cX9_insert 37 = .ok (.ireturn, 1) := by decide +kernel
theorem dX9_insert_38 : decode cX9_insert 38 = .ok (.aload_n 0, 1) := by decide +kernel
theorem dX9_insert_39 : decode cX9_insert 39 = .ok (.getfield 7, 3) := by decide +kernel
theorem dX9_insert_42 : decode cX9_insert 42 = .ok (.iconst 1, 1) := by decide +kernel
theorem dX9_insert_43 : decode cX9_insert 43 = .ok (.iaload, 1) := by decide +kernel
theorem dX9_insert_44 : decode cX9_insert 44 = .ok (.bipush 30, 2) := by decide +kernel
theorem dX9_insert_46 : decode cX9_insert 46 = .ok (.if_icmp .ne 9, 3) := by decide +kernel
theorem dX9_insert_49 : decode cX9_insert 49 = .ok (.aload_n 0, 1) := by decide +kernel
theorem dX9_insert_50 : decode cX9_insert 50 = .ok (.iconst 3, 1) := by decide +kernel
theorem dX9_insert_51 : decode cX9_insert 51 = .ok (.invokevirtual 40, 3) := by decide +kernel
theorem dX9_insert_54 : decode cX9_insert 54 = .ok (.ireturn, 1) := by decide +kernel
theorem dX9_insert_55 : decode cX9_insert 55 = .ok (.aload_n 0, 1) := by decide +kernel
theorem dX9_insert_56 : decode cX9_insert 56 = .ok (.invokevirtual 91, 3) := by decide +kernel
theorem dX9_insert_59 : decode cX9_insert 59 = .ok (.aload_n 0, 1) := by decide +kernel
theorem dX9_insert_60 : decode cX9_insert 60 = .ok (.getfield 7, 3) := by decide +kernel
theorem dX9_insert_63 : decode cX9_insert 63 = .ok (.iload_n 1, 1) := by decide +kernel
theorem dX9_insert_64 : decode cX9_insert 64 = .ok (.iload_n 2, 1) := by decide +kernel
theorem dX9_insert_65 : decode cX9_insert 65 = .ok (.invokestatic 94, 3) := by decide +kernel
theorem dX9_insert_68 : decode cX9_insert 68 = .ok (.aload_n 0, 1) := by decide +kernel
theorem dX9_insert_69 : decode cX9_insert 69 = .ok (.getfield 7, 3) := by decide +kernel
theorem dX9_insert_72 : decode cX9_insert 72 = .ok (.iconst 2, 1) := by decide +kernel
theorem dX9_insert_73 : decode cX9_insert 73 = .ok (.iaload, 1) := by decide +kernel
theorem dX9_insert_74 : decode cX9_insert 74 = .ok (.iconst 1, 1) := by decide +kernel
theorem dX9_insert_75 : decode cX9_insert 75 = .ok (.isub, 1) := by decide +kernel
theorem dX9_insert_76 : decode cX9_insert 76 = .ok (.ireturn, 1) := by decide +kernel
theorem dX9_move_0 : decode cX9_move 0 = .ok (.aload_n 0, 1) := by decide +kernel
theorem dX9_move_1 : decode cX9_move 1 = .ok (.iconst 0, 1) := by decide +kernel
theorem dX9_move_2 : decode cX9_move 2 = .ok (.putfield 25, 3) := by decide +kernel
theorem dX9_move_5 : decode cX9_move 5 = .ok (.aload_n 0, 1) := by decide +kernel
theorem dX9_move_6 : decode cX9_move 6 = .ok (.iload_n 1, 1) := by decide +kernel
theorem dX9_move_7 : decode cX9_move 7 = .ok (.invokevirtual 98, 3) := by decide +kernel
theorem dX9_move_10 : decode cX9_move 10 = .ok (.ifCond .eq 11, 3) := by decide +kernel
theorem dX9_move_13 : decode cX9_move 13 = .ok (.aload_n 0, 1) := by decide +kernel
theorem dX9_move_14 : decode cX9_move 14 = .ok (.iload_n 2, 1) := by decide +kernel
theorem dX9_move_15 : decode cX9_move 15 = .ok (.invokevirtual 98, 3) := by decide +kernel
theorem dX9_move_18 : decode cX9_move 18 = .ok (.ifCond .ne 9, 3) := by decide +kernel
theorem dX9_move_21 : decode cX9_move 21 = .ok (.aload_n 0, 1) := by decide +kernel
theorem dX9_move_22 : decode cX9_move 22 = .ok (.iconst 1, 1) := by decide +kernel
theorem dX9_move_23 : decode cX9_move 23 = .ok (.invokevirtual 40, 3) := by decide +kernel
theorem dX9_move_26 : decode cX9_move 26 = .ok (.ireturn, 1) := by decide +kernel
theorem dX9_move_27 : decode cX9_move 27 = .ok (.aload_n 0, 1) := by decide +kernel
theorem dX9_move_28 : decode cX9_move 28 = .ok (.invokevirtual 91, 3) := by decide +kernel
theorem dX9_move_31 : decode cX9_move 31 = .ok (.aload_n 0, 1) := by decide +kernel
theorem dX9_move_32 : decode cX9_move 32 = .ok (.getfield 7, 3) := by decide +kernel
theorem dX9_move_35 : decode cX9_move 35 = .ok (.iload_n 1, 1) := by decide +kernel
theorem dX9_move_36 : decode cX9_move 36 = .ok (.iload_n 2, 1) := by decide +kernel
theorem dX9_move_37 : decode cX9_move 37 = .ok (.invokestatic 101, 3) := by decide +kernel
theorem dX9_move_40 : decode cX9_move 40 = .ok (.ireturn, 1) := by decide +kernel
theorem dX9_drop_0 : decode cX9_drop 0 = .ok (.aload_n 0, 1) := by decide +kernel
theorem dX9_drop_1 : decode cX9_drop 1 = .ok (.iconst 0, 1) := by decide +kernel
theorem dX9_drop_2 : decode cX9_drop 2 = .ok (.putfield 25, 3) := by decide +kernel
theorem dX9_drop_5 : decode cX9_drop 5 = .ok (.aload_n 0, 1) := by decide +kernel
theorem dX9_drop_6 : decode cX9_drop 6 = .ok (.iload_n 1, 1) := by decide +kernel
theorem dX9_drop_7 : decode cX9_drop 7 = .ok (.invokevirtual 98, 3) := by decide +kernel
theorem dX9_drop_10 : decode cX9_drop 10 = .ok (.ifCond .ne 9, 3) := by decide +kernel
theorem dX9_drop_13 : decode cX9_drop 13 = .ok (.aload_n 0, 1) := by decide +kernel
theorem dX9_drop_14 : decode cX9_drop 14 = .ok (.iconst 1, 1) := by decide +kernel
theorem dX9_drop_15 : decode cX9_drop 15 = .ok (.invokevirtual 40, 3) := by decide +kernel
theorem dX9_drop_18 : decode cX9_drop 18 = .ok (.ireturn, 1) := by decide +kernel
theorem dX9_drop_19 : decode cX9_drop 19 = .ok (.aload_n 0, 1) := by decide +kernel
theorem dX9_drop_20 : decode cX9_drop 20 = .ok (.invokevirtual 91, 3) := by decide +kernel
theorem dX9_drop_23 : decode cX9_drop 23 = .ok (.aload_n 0, 1) := by decide +kernel
theorem dX9_drop_24 : decode cX9_drop 24 = .ok (.getfield 7, 3) := by decide +kernel
theorem dX9_drop_27 : decode cX9_drop 27 = .ok (.invokestatic 104, 3) := by decide +kernel
theorem dX9_drop_30 : decode cX9_drop 30 = .ok (.istore_n 2, 1) := by decide +kernel
theorem dX9_drop_31 : decode cX9_drop 31 = .ok (.aload_n 0, 1) := by decide +kernel
theorem dX9_drop_32 : decode cX9_drop 32 = .ok (.getfield 7, 3) := by decide +kernel
theorem dX9_drop_35 : decode cX9_drop 35 = .ok (.iload_n 1, 1) := by decide +kernel
theorem dX9_drop_36 : decode cX9_drop 36 = .ok (.invokestatic 79, 3) := by decide +kernel
theorem dX9_drop_39 : decode cX9_drop 39 = .ok (.aload_n 0, 1) := by decide +kernel
theorem dX9_drop_40 : decode cX9_drop 40 = .ok (.getfield 7, 3) := by decide +kernel
theorem dX9_drop_43 : decode cX9_drop 43 = .ok (.invokestatic 104, 3) := by decide +kernel
theorem dX9_drop_46 : decode cX9_drop 46 = .ok (.iload_n 2, 1) := by decide +kernel
theorem dX9_drop_47 : decode cX9_drop 47 = .ok (.isub, 1) := by decide +kernel
theorem dX9_drop_48 : decode cX9_drop 48 = .ok (.ireturn, 1) := by decide +kernel
theorem dX9_changes_0 : decode cX9_changes 0 = .ok (.aload_n 0, 1) := by decide +kernel
theorem dX9_changes_1 : decode cX9_changes 1 = .ok (.getfield 7, 3) := by decide +kernel
theorem dX9_changes_4 : decode cX9_changes 4 = .ok (.iload_n 1, 1) := by decide +kernel
theorem dX9_changes_5 : decode cX9_changes 5 = .ok (.iaload, 1) := by decide +kernel
theorem dX9_changes_6 : decode cX9_changes 6 = .ok (.istore_n 3, 1) := by decide +kernel
theorem dX9_changes_7 : decode cX9_changes 7 = .ok (.aload_n 0, 1) := by decide +kernel
theorem dX9_changes_8 : decode cX9_changes 8 = .ok (.getfield 7, 3) := by decide +kernel
theorem dX9_changes_11 : decode cX9_changes 11 = .ok (.iload_n 1, 1) := by decide +kernel
theorem dX9_changes_12 : decode cX9_changes 12 = .ok (.iload_n 2, 1) := by decide +kernel
theorem dX9_changes_13 : decode cX9_changes 13 = .ok (.iastore, 1) := by decide +kernel
theorem dX9_changes_14 : decode cX9_changes 14 = .ok (.iload_n 3, 1) := by decide +kernel
theorem dX9_changes_15 : decode cX9_changes 15 = .ok (.ireturn, 1) := by decide +kernel
theorem dX9_pages_0 : decode cX9_pages 0 = .ok (.aload_n 0, 1) := by decide +kernel
theorem dX9_pages_1 : decode cX9_pages 1 = .ok (.iconst 0, 1) := by decide +kernel
theorem dX9_pages_2 : decode cX9_pages 2 = .ok (.putfield 25, 3) := by decide +kernel
theorem dX9_pages_5 : decode cX9_pages 5 = .ok (.aload_n 0, 1) := by decide +kernel
theorem dX9_pages_6 : decode cX9_pages 6 = .ok (.iload_n 1, 1) := by decide +kernel
theorem dX9_pages_7 : decode cX9_pages 7 = .ok (.invokevirtual 98, 3) := by decide +kernel
theorem dX9_pages_10 : decode cX9_pages 10 = .ok (.ifCond .ne 9, 3) := by decide +kernel
theorem dX9_pages_13 : decode cX9_pages 13 = .ok (.aload_n 0, 1) := by decide +kernel
theorem dX9_pages_14 : decode cX9_pages 14 = .ok (.iconst 1, 1) := by decide +kernel
theorem dX9_pages_15 : decode cX9_pages 15 = .ok (.invokevirtual 40, 3) := by decide +kernel
theorem dX9_pages_18 : decode cX9_pages 18 = .ok (.ireturn, 1) := by decide +kernel
theorem dX9_pages_19 : decode cX9_pages 19 = .ok (.iload_n 2, 1) := by decide +kernel
theorem dX9_pages_20 : decode cX9_pages 20 = .ok (.invokestatic 87, 3) := by decide +kernel
theorem dX9_pages_23 : decode cX9_pages 23 = .ok (.ifCond .ne 9, 3) := by decide +kernel
theorem dX9_pages_26 : decode cX9_pages 26 = .ok (.aload_n 0, 1) := by decide +kernel
theorem dX9_pages_27 : decode cX9_pages 27 = .ok (.iconst 2, 1) := by decide +kernel
theorem dX9_pages_28 : decode cX9_pages 28 = .ok (.invokevirtual 40, 3) := by decide +kernel
theorem dX9_pages_31 : decode cX9_pages 31 = .ok (.ireturn, 1) := by decide +kernel
theorem dX9_pages_32 : decode cX9_pages 32 = .ok (.aload_n 0, 1) := by decide +kernel
theorem dX9_pages_33 : decode cX9_pages 33 = .ok (.invokevirtual 91, 3) := by decide +kernel
theorem dX9_pages_36 : decode cX9_pages 36 = .ok (.aload_n 0, 1) := by decide +kernel
theorem dX9_pages_37 : decode cX9_pages 37 = .ok (.iconst 3, 1) := by decide +kernel
theorem dX9_pages_38 : decode cX9_pages 38 = .ok (.iconst 2, 1) := by decide +kernel
theorem dX9_pages_39 : decode cX9_pages 39 = .ok (.iload_n 1, 1) := by decide +kernel
theorem dX9_pages_40 : decode cX9_pages 40 = .ok (.imul, 1) := by decide +kernel
theorem dX9_pages_41 : decode cX9_pages 41 = .ok (.iadd, 1) := by decide +kernel
theorem dX9_pages_42 : decode cX9_pages 42 = .ok (.iconst 1, 1) := by decide +kernel
theorem dX9_pages_43 : decode cX9_pages 43 = .ok (.iadd, 1) := by decide +kernel
theorem dX9_pages_44 : decode cX9_pages 44 = .ok (.iload_n 2, 1) := by decide +kernel
theorem dX9_pages_45 : decode cX9_pages 45 = .ok (.invokevirtual 108, 3) := by decide +kernel
theorem dX9_pages_48 : decode cX9_pages 48 = .ok (.ireturn, 1) := by decide +kernel
theorem dX9_join_0 : decode cX9_join 0 = .ok (.aload_n 0, 1) := by decide +kernel
theorem dX9_join_1 : decode cX9_join 1 = .ok (.iconst 0, 1) := by decide +kernel
theorem dX9_join_2 : decode cX9_join 2 = .ok (.putfield 25, 3) := by decide +kernel
theorem dX9_join_5 : decode cX9_join 5 = .ok (.iload_n 1, 1) := by decide +kernel
theorem dX9_join_6 : decode cX9_join 6 = .ok (.ifCond .lt 15, 3) := by decide +kernel
theorem dX9_join_9 : decode cX9_join 9 = .ok (.iload_n 1, 1) := by decide +kernel
theorem dX9_join_10 : decode cX9_join 10 = .ok (.aload_n 0, 1) := by decide +kernel
theorem dX9_join_11 : decode cX9_join 11 = .ok (.getfield 7, 3) := by decide +kernel
theorem dX9_join_14 : decode cX9_join 14 = .ok (.iconst 1, 1) := by decide +kernel
theorem dX9_join_15 : decode cX9_join 15 = .ok (.iaload, 1) := by decide +kernel
theorem dX9_join_16 : decode cX9_join 16 = .ok (.iconst 2, 1) := by decide +kernel
theorem dX9_join_17 : decode cX9_join 17 = .ok (.isub, 1) := by decide +kernel
theorem dX9_join_18 : decode cX9_join 18 = .ok (.if_icmp .le 9, 3) := by decide +kernel
theorem dX9_join_21 : decode cX9_join 21 = .ok (.aload_n 0, 1) := by decide +kernel
theorem dX9_join_22 : decode cX9_join 22 = .ok (.iconst 1, 1) := by decide +kernel
theorem dX9_join_23 : decode cX9_join 23 = .ok (.invokevirtual 40, 3) := by decide +kernel
theorem dX9_join_26 : decode cX9_join 26 = .ok (.ireturn, 1) := by decide +kernel
theorem dX9_join_27 : decode cX9_join 27 = .ok (.aload_n 0, 1) := by decide +kernel
theorem dX9_join_28 : decode cX9_join 28 = .ok (.getfield 7, 3) := by decide +kernel
theorem dX9_join_31 : decode cX9_join 31 = .ok (.iload_n 1, 1) := by decide +kernel
theorem dX9_join_32 : decode cX9_join 32 = .ok (.invokestatic 56, 3) := by decide +kernel
theorem dX9_join_35 : decode cX9_join 35 = .ok (.aload_n 0, 1) := by decide +kernel
theorem dX9_join_36 : decode cX9_join 36 = .ok (.getfield 7, 3) := by decide +kernel
theorem dX9_join_39 : decode cX9_join 39 = .ok (.iload_n 1, 1) := by decide +kernel
theorem dX9_join_40 : decode cX9_join 40 = .ok (.iconst 1, 1) := by decide +kernel
theorem dX9_join_41 : decode cX9_join 41 = .ok (.iadd, 1) := by decide +kernel
theorem dX9_join_42 : decode cX9_join 42 = .ok (.invokestatic 56, 3) := by decide +kernel
theorem dX9_join_45 : decode cX9_join 45 = .ok (.iadd, 1) := by decide +kernel
theorem dX9_join_46 : decode cX9_join 46 = .ok (.istore_n 2, 1) := by decide +kernel
theorem dX9_join_47 : decode cX9_join 47 = .ok (.iload_n 2, 1) := by decide +kernel
theorem dX9_join_48 : decode cX9_join 48 = .ok (.bipush 60, 2) := by decide +kernel
theorem dX9_join_50 : decode cX9_join 50 = .ok (.if_icmp .le 9, 3) := by decide +kernel
theorem dX9_join_53 : decode cX9_join 53 = .ok (.aload_n 0, 1) := by decide +kernel
theorem dX9_join_54 : decode cX9_join 54 = .ok (.iconst 2, 1) := by decide +kernel
theorem dX9_join_55 : decode cX9_join 55 = .ok (.invokevirtual 40, 3) := by decide +kernel
theorem dX9_join_58 : decode cX9_join 58 = .ok (.ireturn, 1) := by decide +kernel
theorem dX9_join_59 : decode cX9_join 59 = .ok (.aload_n 0, 1) := by decide +kernel
theorem dX9_join_60 : decode cX9_join 60 = .ok (.invokevirtual 91, 3) := by decide +kernel
theorem dX9_join_63 : decode cX9_join 63 = .ok (.aload_n 0, 1) := by decide +kernel
theorem dX9_join_64 : decode cX9_join 64 = .ok (.getfield 7, 3) := by decide +kernel
theorem dX9_join_67 : decode cX9_join 67 = .ok (.aload_n 0, 1) := by decide +kernel
theorem dX9_join_68 : decode cX9_join 68 = .ok (.getfield 7, 3) := by decide +kernel
theorem dX9_join_71 : decode cX9_join 71 = .ok (.iload_n 1, 1) := by decide +kernel
theorem dX9_join_72 : decode cX9_join 72 = .ok (.iconst 1, 1) := by decide +kernel
theorem dX9_join_73 : decode cX9_join 73 = .ok (.iadd, 1) := by decide +kernel
theorem dX9_join_74 : decode cX9_join 74 = .ok (.invokestatic 76, 3) := by decide +kernel
theorem dX9_join_77 : decode cX9_join 77 = .ok (.aload_n 0, 1) := by decide +kernel
theorem dX9_join_78 : decode cX9_join 78 = .ok (.getfield 7, 3) := by decide +kernel
theorem dX9_join_81 : decode cX9_join 81 = .ok (.iload_n 1, 1) := by decide +kernel
theorem dX9_join_82 : decode cX9_join 82 = .ok (.invokestatic 76, 3) := by decide +kernel
theorem dX9_join_85 : decode cX9_join 85 = .ok (.iconst 1, 1) := by decide +kernel
theorem dX9_join_86 : decode cX9_join 86 = .ok (.aload_n 0, 1) := by decide +kernel
theorem dX9_join_87 : decode cX9_join 87 = .ok (.getfield 7, 3) := by decide +kernel
theorem dX9_join_90 : decode cX9_join 90 = .ok (.iload_n 1, 1) := by decide +kernel
theorem dX9_join_91 : decode cX9_join 91 = .ok (.invokestatic 56, 3) := by decide +kernel
theorem dX9_join_94 : decode cX9_join 94 = .ok (.invokestatic 111, 3) := by decide +kernel
theorem dX9_join_97 : decode cX9_join 97 = .ok (.aload_n 0, 1) := by decide +kernel
theorem dX9_join_98 : decode cX9_join 98 = .ok (.getfield 7, 3) := by decide +kernel
theorem dX9_join_101 : decode cX9_join 101 = .ok (.iload_n 1, 1) := by decide +kernel
theorem dX9_join_102 : decode cX9_join 102 = .ok (.iconst 1, 1) := by decide +kernel
theorem dX9_join_103 : decode cX9_join 103 = .ok (.iadd, 1) := by decide +kernel
theorem dX9_join_104 : decode cX9_join 104 = .ok (.invokestatic 79, 3) := by decide +kernel
theorem dX9_join_107 : decode cX9_join 107 = .ok (.aload_n 0, 1) := by decide +kernel
theorem dX9_join_108 : decode cX9_join 108 = .ok (.getfield 7, 3) := by decide +kernel
theorem dX9_join_111 : decode cX9_join 111 = .ok (.iconst 3, 1) := by decide +kernel
theorem dX9_join_112 : decode cX9_join 112 = .ok (.iconst 2, 1) := by decide +kernel
theorem dX9_join_113 : decode cX9_join 113 = .ok (.iload_n 1, 1) := by decide +kernel
theorem dX9_join_114 : decode cX9_join 114 = .ok (.imul, 1) := by decide +kernel
theorem dX9_join_115 : decode cX9_join 115 = .ok (.iadd, 1) := by decide +kernel
theorem dX9_join_116 : decode cX9_join 116 = .ok (.iconst 1, 1) := by decide +kernel
theorem dX9_join_117 : decode cX9_join 117 = .ok (.iadd, 1) := by decide +kernel
theorem dX9_join_118 : decode cX9_join 118 = .ok (.iload_n 2, 1) := by decide +kernel
theorem dX9_join_119 : decode cX9_join 119 = .ok (.iastore, 1) := by decide +kernel
theorem dX9_join_120 : decode cX9_join 120 = .ok (.iload_n 2, 1) := by decide +kernel
theorem dX9_join_121 : decode cX9_join 121 = .ok (.ireturn, 1) := by decide +kernel
theorem dX9_split_0 : decode cX9_split 0 = .ok (.aload_n 0, 1) := by decide +kernel
theorem dX9_split_1 : decode cX9_split 1 = .ok (.iconst 0, 1) := by decide +kernel
theorem dX9_split_2 : decode cX9_split 2 = .ok (.putfield 25, 3) := by decide +kernel
theorem dX9_split_5 : decode cX9_split 5 = .ok (.aload_n 0, 1) := by decide +kernel
theorem dX9_split_6 : decode cX9_split 6 = .ok (.iload_n 1, 1) := by decide +kernel
theorem dX9_split_7 : decode cX9_split 7 = .ok (.invokevirtual 98, 3) := by decide +kernel
theorem dX9_split_10 : decode cX9_split 10 = .ok (.ifCond .ne 9, 3) := by decide +kernel
theorem dX9_split_13 : decode cX9_split 13 = .ok (.aload_n 0, 1) := by decide +kernel
theorem dX9_split_14 : decode cX9_split 14 = .ok (.iconst 1, 1) := by decide +kernel
theorem dX9_split_15 : decode cX9_split 15 = .ok (.invokevirtual 40, 3) := by decide +kernel
theorem dX9_split_18 : decode cX9_split 18 = .ok (.ireturn, 1) := by decide +kernel
theorem dX9_split_19 : decode cX9_split 19 = .ok (.iload_n 2, 1) := by decide +kernel
theorem dX9_split_20 : decode cX9_split 20 = .ok (.iconst 1, 1) := by decide +kernel
theorem dX9_split_21 : decode cX9_split 21 = .ok (.aload_n 0, 1) := by decide +kernel
theorem dX9_split_22 : decode cX9_split 22 = .ok (.getfield 7, 3) := by decide +kernel
theorem dX9_split_25 : decode cX9_split 25 = .ok (.iload_n 1, 1) := by decide +kernel
theorem dX9_split_26 : decode cX9_split 26 = .ok (.invokestatic 56, 3) := by decide +kernel
theorem dX9_split_29 : decode cX9_split 29 = .ok (.iconst 1, 1) := by decide +kernel
theorem dX9_split_30 : decode cX9_split 30 = .ok (.isub, 1) := by decide +kernel
theorem dX9_split_31 : decode cX9_split 31 = .ok (.invokestatic 29, 3) := by decide +kernel
theorem dX9_split_34 : decode cX9_split 34 = .ok (.ifCond .ne 9, 3) := by decide +kernel
theorem dX9_split_37 : decode cX9_split 37 = .ok (.aload_n 0, 1) := by decide +kernel
theorem dX9_split_38 : decode cX9_split 38 = .ok (.iconst 2, 1) := by decide +kernel
theorem dX9_split_39 : decode cX9_split 39 = .ok (.invokevirtual 40, 3) := by decide +kernel
theorem dX9_split_42 : decode cX9_split 42 = .ok (.ireturn, 1) := by decide +kernel
theorem dX9_split_43 : decode cX9_split 43 = .ok (.aload_n 0, 1) := by decide +kernel
theorem dX9_split_44 : decode cX9_split 44 = .ok (.getfield 7, 3) := by decide +kernel
theorem dX9_split_47 : decode cX9_split 47 = .ok (.iconst 1, 1) := by decide +kernel
theorem dX9_split_48 : decode cX9_split 48 = .ok (.iaload, 1) := by decide +kernel
theorem dX9_split_49 : decode cX9_split 49 = .ok (.bipush 30, 2) := by decide +kernel
theorem dX9_split_51 : decode cX9_split 51 = .ok (.if_icmp .ne 9, 3) := by decide +kernel
theorem dX9_split_54 : decode cX9_split 54 = .ok (.aload_n 0, 1) := by decide +kernel
theorem dX9_split_55 : decode cX9_split 55 = .ok (.iconst 3, 1) := by decide +kernel
theorem dX9_split_56 : decode cX9_split 56 = .ok (.invokevirtual 40, 3) := by decide +kernel
theorem dX9_split_59 : decode cX9_split 59 = .ok (.ireturn, 1) := by decide +kernel
theorem dX9_split_60 : decode cX9_split 60 = .ok (.aload_n 0, 1) := by decide +kernel
theorem dX9_split_61 : decode cX9_split 61 = .ok (.invokevirtual 91, 3) := by decide +kernel
theorem dX9_split_64 : decode cX9_split 64 = .ok (.aload_n 0, 1) := by decide +kernel
theorem dX9_split_65 : decode cX9_split 65 = .ok (.getfield 7, 3) := by decide +kernel
theorem dX9_split_68 : decode cX9_split 68 = .ok (.aload_n 0, 1) := by decide +kernel
theorem dX9_split_69 : decode cX9_split 69 = .ok (.getfield 7, 3) := by decide +kernel
theorem dX9_split_72 : decode cX9_split 72 = .ok (.iload_n 1, 1) := by decide +kernel
theorem dX9_split_73 : decode cX9_split 73 = .ok (.invokestatic 76, 3) := by decide +kernel
theorem dX9_split_76 : decode cX9_split 76 = .ok (.aload_n 0, 1) := by decide +kernel
theorem dX9_split_77 : decode cX9_split 77 = .ok (.getfield 7, 3) := by decide +kernel
theorem dX9_split_80 : decode cX9_split 80 = .ok (.iconst 2, 1) := by decide +kernel
theorem dX9_split_81 : decode cX9_split 81 = .ok (.iaload, 1) := by decide +kernel
theorem dX9_split_82 : decode cX9_split 82 = .ok (.iload_n 2, 1) := by decide +kernel
theorem dX9_split_83 : decode cX9_split 83 = .ok (.iconst 1, 1) := by decide +kernel
theorem dX9_split_84 : decode cX9_split 84 = .ok (.iadd, 1) := by decide +kernel
theorem dX9_split_85 : decode cX9_split 85 = .ok (.iload_n 2, 1) := by decide +kernel
theorem dX9_split_86 : decode cX9_split 86 = .ok (.ineg, 1) := by decide +kernel
theorem dX9_split_87 : decode cX9_split 87 = .ok (.invokestatic 111, 3) := by decide +kernel
theorem dX9_split_90 : decode cX9_split 90 = .ok (.aload_n 0, 1) := by decide +kernel
theorem dX9_split_91 : decode cX9_split 91 = .ok (.getfield 7, 3) := by decide +kernel
theorem dX9_split_94 : decode cX9_split 94 = .ok (.iload_n 1, 1) := by decide +kernel
theorem dX9_split_95 : decode cX9_split 95 = .ok (.iconst 1, 1) := by decide +kernel
theorem dX9_split_96 : decode cX9_split 96 = .ok (.iadd, 1) := by decide +kernel
theorem dX9_split_97 : decode cX9_split 97 = .ok (.aload_n 0, 1) := by decide +kernel
theorem dX9_split_98 : decode cX9_split 98 = .ok (.getfield 7, 3) := by decide +kernel
theorem dX9_split_101 : decode cX9_split 101 = .ok (.iload_n 1, 1) := by decide +kernel
theorem dX9_split_102 : decode cX9_split 102 = .ok (.invokestatic 56, 3) := by decide +kernel
theorem dX9_split_105 : decode cX9_split 105 = .ok (.iload_n 2, 1) := by decide +kernel
theorem dX9_split_106 : decode cX9_split 106 = .ok (.isub, 1) := by decide +kernel
theorem dX9_split_107 : decode cX9_split 107 = .ok (.invokestatic 94, 3) := by decide +kernel
theorem dX9_split_110 : decode cX9_split 110 = .ok (.aload_n 0, 1) := by decide +kernel
theorem dX9_split_111 : decode cX9_split 111 = .ok (.getfield 7, 3) := by decide +kernel
theorem dX9_split_114 : decode cX9_split 114 = .ok (.iconst 3, 1) := by decide +kernel
theorem dX9_split_115 : decode cX9_split 115 = .ok (.iconst 2, 1) := by decide +kernel
theorem dX9_split_116 : decode cX9_split 116 = .ok (.iload_n 1, 1) := by decide +kernel
theorem dX9_split_117 : decode cX9_split 117 = .ok (.imul, 1) := by decide +kernel
theorem dX9_split_118 : decode cX9_split 118 = .ok (.iadd, 1) := by decide +kernel
theorem dX9_split_119 : decode cX9_split 119 = .ok (.iconst 1, 1) := by decide +kernel
theorem dX9_split_120 : decode cX9_split 120 = .ok (.iadd, 1) := by decide +kernel
theorem dX9_split_121 : decode cX9_split 121 = .ok (.iload_n 2, 1) := by decide +kernel
theorem dX9_split_122 : decode cX9_split 122 = .ok (.iastore, 1) := by decide +kernel
theorem dX9_split_123 : decode cX9_split 123 = .ok (.aload_n 0, 1) := by decide +kernel
theorem dX9_split_124 : decode cX9_split 124 = .ok (.getfield 7, 3) := by decide +kernel
theorem dX9_split_127 : decode cX9_split 127 = .ok (.iconst 2, 1) := by decide +kernel
theorem dX9_split_128 : decode cX9_split 128 = .ok (.iaload, 1) := by decide +kernel
theorem dX9_split_129 : decode cX9_split 129 = .ok (.iconst 1, 1) := by decide +kernel
theorem dX9_split_130 : decode cX9_split 130 = .ok (.isub, 1) := by decide +kernel
theorem dX9_split_131 : decode cX9_split 131 = .ok (.ireturn, 1) := by decide +kernel
theorem dX9_names_0 : decode cX9_names 0 = .ok (.iload_n 1, 1) := by decide +kernel
theorem dX9_names_1 : decode cX9_names 1 = .ok (.aload_n 0, 1) := by decide +kernel
theorem dX9_names_2 : decode cX9_names 2 = .ok (.getfield 7, 3) := by decide +kernel
theorem dX9_names_5 : decode cX9_names 5 = .ok (.iload_n 1, 1) := by decide +kernel
theorem dX9_names_6 : decode cX9_names 6 = .ok (.invokestatic 59, 3) := by decide +kernel
theorem dX9_names_9 : decode cX9_names 9 = .ok (.invokestatic 44, 3) := by decide +kernel
theorem dX9_names_12 : decode cX9_names 12 = .ok (.istore 4, 2) := by decide +kernel
theorem dX9_names_14 : decode cX9_names 14 = .ok (.aload_n 0, 1) := by decide +kernel
theorem dX9_names_15 : decode cX9_names 15 = .ok (.getfield 7, 3) := by decide +kernel
theorem dX9_names_18 : decode cX9_names 18 = .ok (.iload 4, 2) := by decide +kernel
theorem dX9_names_20 : decode cX9_names 20 = .ok (.aload_n 0, 1) := by decide +kernel
theorem dX9_names_21 : decode cX9_names 21 = .ok (.getfield 7, 3) := by decide +kernel
theorem dX9_names_24 : decode cX9_names 24 = .ok (.iload_n 2, 1) := by decide +kernel
theorem dX9_names_25 : decode cX9_names 25 = .ok (.invokestatic 76, 3) := by decide +kernel
theorem dX9_names_28 : decode cX9_names 28 = .ok (.iastore, 1) := by decide +kernel
theorem dX9_names_29 : decode cX9_names 29 = .ok (.aload_n 0, 1) := by decide +kernel
theorem dX9_names_30 : decode cX9_names 30 = .ok (.getfield 7, 3) := by decide +kernel
theorem dX9_names_33 : decode cX9_names 33 = .ok (.iload 4, 2) := by decide +kernel
theorem dX9_names_35 : decode cX9_names 35 = .ok (.iconst 1, 1) := by decide +kernel
theorem dX9_names_36 : decode cX9_names 36 = .ok (.iadd, 1) := by decide +kernel
theorem dX9_names_37 : decode cX9_names 37 = .ok (.iload_n 3, 1) := by decide +kernel
theorem dX9_names_38 : decode cX9_names 38 = .ok (.iastore, 1) := by decide +kernel
theorem dX9_names_39 : decode cX9_names 39 = .ok (.aload_n 0, 1) := by decide +kernel
theorem dX9_names_40 : decode cX9_names 40 = .ok (.getfield 7, 3) := by decide +kernel
theorem dX9_names_43 : decode cX9_names 43 = .ok (.bipush 65, 2) := by decide +kernel
theorem dX9_names_45 : decode cX9_names 45 = .ok (.bipush 32, 2) := by decide +kernel
theorem dX9_names_47 : decode cX9_names 47 = .ok (.iload_n 1, 1) := by decide +kernel
theorem dX9_names_48 : decode cX9_names 48 = .ok (.imul, 1) := by decide +kernel
theorem dX9_names_49 : decode cX9_names 49 = .ok (.iadd, 1) := by decide +kernel
theorem dX9_names_50 : decode cX9_names 50 = .ok (.dup2, 1) := by decide +kernel
theorem dX9_names_51 : decode cX9_names 51 = .ok (.iaload, 1) := by decide +kernel
theorem dX9_names_52 : decode cX9_names 52 = .ok (.iconst 1, 1) := by decide +kernel
theorem dX9_names_53 : decode cX9_names 53 = .ok (.iadd, 1) := by decide +kernel
theorem dX9_names_54 : decode cX9_names 54 = .ok (.iastore, 1) := by decide +kernel
theorem dX9_names_55 : decode cX9_names 55 = .ok (.return_, 1) := by decide +kernel
theorem dX9_cite_0 : decode cX9_cite 0 = .ok (.aload_n 0, 1) := by decide +kernel
theorem dX9_cite_1 : decode cX9_cite 1 = .ok (.iconst 0, 1) := by decide +kernel
theorem dX9_cite_2 : decode cX9_cite 2 = .ok (.putfield 25, 3) := by decide +kernel
theorem dX9_cite_5 : decode cX9_cite 5 = .ok (.iload_n 1, 1) := by decide +kernel
theorem dX9_cite_6 : decode cX9_cite 6 = .ok (.invokestatic 115, 3) := by decide +kernel
theorem dX9_cite_9 : decode cX9_cite 9 = .ok (.ifCond .eq 11, 3) := by decide +kernel
theorem dX9_cite_12 : decode cX9_cite 12 = .ok (.aload_n 0, 1) := by decide +kernel
theorem dX9_cite_13 : decode cX9_cite 13 = .ok (.iload_n 2, 1) := by decide +kernel
theorem dX9_cite_14 : decode cX9_cite 14 = .ok (.invokevirtual 98, 3) := by decide +kernel
theorem dX9_cite_17 : decode cX9_cite 17 = .ok (.ifCond .ne 9, 3) := by decide +kernel
theorem dX9_cite_20 : decode cX9_cite 20 = .ok (.aload_n 0, 1) := by decide +kernel
theorem dX9_cite_21 : decode cX9_cite 21 = .ok (.iconst 1, 1) := by decide +kernel
theorem dX9_cite_22 : decode cX9_cite 22 = .ok (.invokevirtual 40, 3) := by decide +kernel
theorem dX9_cite_25 : decode cX9_cite 25 = .ok (.ireturn, 1) := by decide +kernel
theorem dX9_cite_26 : decode cX9_cite 26 = .ok (.iload_n 3, 1) := by decide +kernel
theorem dX9_cite_27 : decode cX9_cite 27 = .ok (.invokestatic 87, 3) := by decide +kernel
theorem dX9_cite_30 : decode cX9_cite 30 = .ok (.ifCond .ne 9, 3) := by decide +kernel
theorem dX9_cite_33 : decode cX9_cite 33 = .ok (.aload_n 0, 1) := by decide +kernel
theorem dX9_cite_34 : decode cX9_cite 34 = .ok (.iconst 2, 1) := by decide +kernel
theorem dX9_cite_35 : decode cX9_cite 35 = .ok (.invokevirtual 40, 3) := by decide +kernel
theorem dX9_cite_38 : decode cX9_cite 38 = .ok (.ireturn, 1) := by decide +kernel
theorem dX9_cite_39 : decode cX9_cite 39 = .ok (.aload_n 0, 1) := by decide +kernel
theorem dX9_cite_40 : decode cX9_cite 40 = .ok (.getfield 7, 3) := by decide +kernel
theorem dX9_cite_43 : decode cX9_cite 43 = .ok (.iload_n 1, 1) := by decide +kernel
theorem dX9_cite_44 : decode cX9_cite 44 = .ok (.invokestatic 59, 3) := by decide +kernel
theorem dX9_cite_47 : decode cX9_cite 47 = .ok (.bipush 6, 2) := by decide +kernel
theorem dX9_cite_49 : decode cX9_cite 49 = .ok (.if_icmp .ne 9, 3) := by decide +kernel
theorem dX9_cite_52 : decode cX9_cite 52 = .ok (.aload_n 0, 1) := by decide +kernel
theorem dX9_cite_53 : decode cX9_cite 53 = .ok (.iconst 3, 1) := by decide +kernel
theorem dX9_cite_54 : decode cX9_cite 54 = .ok (.invokevirtual 40, 3) := by decide +kernel
theorem dX9_cite_57 : decode cX9_cite 57 = .ok (.ireturn, 1) := by decide +kernel
theorem dX9_cite_58 : decode cX9_cite 58 = .ok (.aload_n 0, 1) := by decide +kernel
theorem dX9_cite_59 : decode cX9_cite 59 = .ok (.invokevirtual 91, 3) := by decide +kernel
theorem dX9_cite_62 : decode cX9_cite 62 = .ok (.aload_n 0, 1) := by decide +kernel
theorem dX9_cite_63 : decode cX9_cite 63 = .ok (.iload_n 1, 1) := by decide +kernel
theorem dX9_cite_64 : decode cX9_cite 64 = .ok (.iload_n 2, 1) := by decide +kernel
theorem dX9_cite_65 : decode cX9_cite 65 = .ok (.iload_n 3, 1) := by decide +kernel
theorem dX9_cite_66 : decode cX9_cite 66 = .ok (.invokevirtual 118, 3) := by decide +kernel
theorem dX9_cite_69 : decode cX9_cite 69 = .ok (.aload_n 0, 1) := by decide +kernel
theorem dX9_cite_70 : decode cX9_cite 70 = .ok (.getfield 7, 3) := by decide +kernel
theorem dX9_cite_73 : decode cX9_cite 73 = .ok (.iload_n 1, 1) := by decide +kernel
theorem dX9_cite_74 : decode cX9_cite 74 = .ok (.invokestatic 59, 3) := by decide +kernel
theorem dX9_cite_77 : decode cX9_cite 77 = .ok (.ireturn, 1) := by decide +kernel
theorem dX9_clean_0 : decode cX9_clean 0 = .ok (.aload_n 0, 1) := by decide +kernel
theorem dX9_clean_1 : decode cX9_clean 1 = .ok (.iconst 0, 1) := by decide +kernel
theorem dX9_clean_2 : decode cX9_clean 2 = .ok (.putfield 25, 3) := by decide +kernel
theorem dX9_clean_5 : decode cX9_clean 5 = .ok (.iload_n 1, 1) := by decide +kernel
theorem dX9_clean_6 : decode cX9_clean 6 = .ok (.invokestatic 115, 3) := by decide +kernel
theorem dX9_clean_9 : decode cX9_clean 9 = .ok (.ifCond .ne 9, 3) := by decide +kernel
theorem dX9_clean_12 : decode cX9_clean 12 = .ok (.aload_n 0, 1) := by decide +kernel
theorem dX9_clean_13 : decode cX9_clean 13 = .ok (.iconst 1, 1) := by decide +kernel
theorem dX9_clean_14 : decode cX9_clean 14 = .ok (.invokevirtual 40, 3) := by decide +kernel
theorem dX9_clean_17 : decode cX9_clean 17 = .ok (.ireturn, 1) := by decide +kernel
theorem dX9_clean_18 : decode cX9_clean 18 = .ok (.aload_n 0, 1) := by decide +kernel
theorem dX9_clean_19 : decode cX9_clean 19 = .ok (.invokevirtual 91, 3) := by decide +kernel
theorem dX9_clean_22 : decode cX9_clean 22 = .ok (.iconst 0, 1) := by decide +kernel
theorem dX9_clean_23 : decode cX9_clean 23 = .ok (.istore_n 2, 1) := by decide +kernel
theorem dX9_clean_24 : decode cX9_clean 24 = .ok (.aload_n 0, 1) := by decide +kernel
theorem dX9_clean_25 : decode cX9_clean 25 = .ok (.getfield 7, 3) := by decide +kernel
theorem dX9_clean_28 : decode cX9_clean 28 = .ok (.iload_n 1, 1) := by decide +kernel
theorem dX9_clean_29 : decode cX9_clean 29 = .ok (.invokestatic 59, 3) := by decide +kernel
theorem dX9_clean_32 : decode cX9_clean 32 = .ok (.istore_n 3, 1) := by decide +kernel
theorem dX9_clean_33 : decode cX9_clean 33 = .ok (.iconst 0, 1) := by decide +kernel
theorem dX9_clean_34 : decode cX9_clean 34 = .ok (.istore 4, 2) := by decide +kernel
theorem dX9_clean_36 : decode cX9_clean 36 = .ok (.iload 4, 2) := by decide +kernel
theorem dX9_clean_38 : decode cX9_clean 38 = .ok (.iload_n 3, 1) := by decide +kernel
theorem dX9_clean_39 : decode cX9_clean 39 = .ok (.if_icmp .ge 71, 3) := by decide +kernel
theorem dX9_clean_42 : decode cX9_clean 42 = .ok (.aload_n 0, 1) := by decide +kernel
theorem dX9_clean_43 : decode cX9_clean 43 = .ok (.getfield 7, 3) := by decide +kernel
theorem dX9_clean_46 : decode cX9_clean 46 = .ok (.iload_n 1, 1) := by decide +kernel
theorem dX9_clean_47 : decode cX9_clean 47 = .ok (.iload 4, 2) := by decide +kernel
theorem dX9_clean_49 : decode cX9_clean 49 = .ok (.invokestatic 62, 3) := by decide +kernel
theorem dX9_clean_52 : decode cX9_clean 52 = .ok (.ifCond .ne 52, 3) := by decide +kernel
theorem dX9_clean_55 : decode cX9_clean 55 = .ok (.aload_n 0, 1) := by decide +kernel
theorem dX9_clean_56 : decode cX9_clean 56 = .ok (.getfield 7, 3) := by decide +kernel
theorem dX9_clean_59 : decode cX9_clean 59 = .ok (.iload_n 1, 1) := by decide +kernel
theorem dX9_clean_60 : decode cX9_clean 60 = .ok (.iload_n 2, 1) := by decide +kernel
theorem dX9_clean_61 : decode cX9_clean 61 = .ok (.invokestatic 44, 3) := by decide +kernel
theorem dX9_clean_64 : decode cX9_clean 64 = .ok (.aload_n 0, 1) := by decide +kernel
theorem dX9_clean_65 : decode cX9_clean 65 = .ok (.getfield 7, 3) := by decide +kernel
theorem dX9_clean_68 : decode cX9_clean 68 = .ok (.iload_n 1, 1) := by decide +kernel
theorem dX9_clean_69 : decode cX9_clean 69 = .ok (.iload 4, 2) := by decide +kernel
theorem dX9_clean_71 : decode cX9_clean 71 = .ok (.invokestatic 44, 3) := by decide +kernel
theorem dX9_clean_74 : decode cX9_clean 74 = .ok (.iaload, 1) := by decide +kernel
theorem dX9_clean_75 : decode cX9_clean 75 = .ok (.iastore, 1) := by decide +kernel
theorem dX9_clean_76 : decode cX9_clean 76 = .ok (.aload_n 0, 1) := by decide +kernel
theorem dX9_clean_77 : decode cX9_clean 77 = .ok (.getfield 7, 3) := by decide +kernel
theorem dX9_clean_80 : decode cX9_clean 80 = .ok (.iload_n 1, 1) := by decide +kernel
theorem dX9_clean_81 : decode cX9_clean 81 = .ok (.iload_n 2, 1) := by decide +kernel
theorem dX9_clean_82 : decode cX9_clean 82 = .ok (.invokestatic 44, 3) := by decide +kernel
theorem dX9_clean_85 : decode cX9_clean 85 = .ok (.iconst 1, 1) := by decide +kernel
theorem dX9_clean_86 : decode cX9_clean 86 = .ok (.iadd, 1) := by decide +kernel
theorem dX9_clean_87 : decode cX9_clean 87 = .ok (.aload_n 0, 1) := by decide +kernel
theorem dX9_clean_88 : decode cX9_clean 88 = .ok (.getfield 7, 3) := by decide +kernel
theorem dX9_clean_91 : decode cX9_clean 91 = .ok (.iload_n 1, 1) := by decide +kernel
theorem dX9_clean_92 : decode cX9_clean 92 = .ok (.iload 4, 2) := by decide +kernel
theorem dX9_clean_94 : decode cX9_clean 94 = .ok (.invokestatic 44, 3) := by decide +kernel
theorem dX9_clean_97 : decode cX9_clean 97 = .ok (.iconst 1, 1) := by decide +kernel
theorem dX9_clean_98 : decode cX9_clean 98 = .ok (.iadd, 1) := by decide +kernel
theorem dX9_clean_99 : decode cX9_clean 99 = .ok (.iaload, 1) := by decide +kernel
theorem dX9_clean_100 : decode cX9_clean 100 = .ok (.iastore, 1) := by decide +kernel
theorem dX9_clean_101 : decode cX9_clean 101 = .ok (.iinc 2 1, 3) := by decide +kernel
theorem dX9_clean_104 : decode cX9_clean 104 = .ok (.iinc 4 1, 3) := by decide +kernel
theorem dX9_clean_107 : decode cX9_clean 107 = .ok (.goto (-71), 3) := by decide +kernel
theorem dX9_clean_110 : decode cX9_clean 110 = .ok (.aload_n 0, 1) := by decide +kernel
theorem dX9_clean_111 : decode cX9_clean 111 = .ok (.getfield 7, 3) := by decide +kernel
theorem dX9_clean_114 : decode cX9_clean 114 = .ok (.bipush 65, 2) := by decide +kernel
theorem dX9_clean_116 : decode cX9_clean 116 = .ok (.bipush 32, 2) := by decide +kernel
theorem dX9_clean_118 : decode cX9_clean 118 = .ok (.iload_n 1, 1) := by decide +kernel
theorem dX9_clean_119 : decode cX9_clean 119 = .ok (.imul, 1) := by decide +kernel
theorem dX9_clean_120 : decode cX9_clean 120 = .ok (.iadd, 1) := by decide +kernel
theorem dX9_clean_121 : decode cX9_clean 121 = .ok (.iload_n 2, 1) := by decide +kernel
theorem dX9_clean_122 : decode cX9_clean 122 = .ok (.iastore, 1) := by decide +kernel
theorem dX9_clean_123 : decode cX9_clean 123 = .ok (.iload_n 3, 1) := by decide +kernel
theorem dX9_clean_124 : decode cX9_clean 124 = .ok (.iload_n 2, 1) := by decide +kernel
theorem dX9_clean_125 : decode cX9_clean 125 = .ok (.isub, 1) := by decide +kernel
theorem dX9_clean_126 : decode cX9_clean 126 = .ok (.ireturn, 1) := by decide +kernel
theorem dX9_print_0 : decode cX9_print 0 = .ok (.aload_n 0, 1) := by decide +kernel
theorem dX9_print_1 : decode cX9_print 1 = .ok (.iconst 0, 1) := by decide +kernel
theorem dX9_print_2 : decode cX9_print 2 = .ok (.putfield 25, 3) := by decide +kernel
theorem dX9_print_5 : decode cX9_print 5 = .ok (.iload_n 1, 1) := by decide +kernel
theorem dX9_print_6 : decode cX9_print 6 = .ok (.invokestatic 115, 3) := by decide +kernel
theorem dX9_print_9 : decode cX9_print 9 = .ok (.ifCond .ne 9, 3) := by decide +kernel
theorem dX9_print_12 : decode cX9_print 12 = .ok (.aload_n 0, 1) := by decide +kernel
theorem dX9_print_13 : decode cX9_print 13 = .ok (.iconst 1, 1) := by decide +kernel
theorem dX9_print_14 : decode cX9_print 14 = .ok (.invokevirtual 40, 3) := by decide +kernel
theorem dX9_print_17 : decode cX9_print 17 = .ok (.ireturn, 1) := by decide +kernel
theorem dX9_print_18 : decode cX9_print 18 = .ok (.aload_n 0, 1) := by decide +kernel
theorem dX9_print_19 : decode cX9_print 19 = .ok (.invokevirtual 91, 3) := by decide +kernel
theorem dX9_print_22 : decode cX9_print 22 = .ok (.aload_n 0, 1) := by decide +kernel
theorem dX9_print_23 : decode cX9_print 23 = .ok (.getfield 7, 3) := by decide +kernel
theorem dX9_print_26 : decode cX9_print 26 = .ok (.iload_n 1, 1) := by decide +kernel
theorem dX9_print_27 : decode cX9_print 27 = .ok (.invokestatic 69, 3) := by decide +kernel
theorem dX9_print_30 : decode cX9_print 30 = .ok (.ifCond .eq 7, 3) := by decide +kernel
theorem dX9_print_33 : decode cX9_print 33 = .ok (.iconst 1, 1) := by decide +kernel
theorem dX9_print_34 : decode cX9_print 34 = .ok (.goto 4, 3) := by decide +kernel
theorem dX9_print_37 : decode cX9_print 37 = .ok (.iconst 0, 1) := by decide +kernel
theorem dX9_print_38 : decode cX9_print 38 = .ok (.istore_n 2, 1) := by decide +kernel
theorem dX9_print_39 : decode cX9_print 39 = .ok (.bipush 65, 2) := by decide +kernel
theorem dX9_print_41 : decode cX9_print 41 = .ok (.bipush 32, 2) := by decide +kernel
theorem dX9_print_43 : decode cX9_print 43 = .ok (.iload_n 1, 1) := by decide +kernel
theorem dX9_print_44 : decode cX9_print 44 = .ok (.imul, 1) := by decide +kernel
theorem dX9_print_45 : decode cX9_print 45 = .ok (.iadd, 1) := by decide +kernel
theorem dX9_print_46 : decode cX9_print 46 = .ok (.bipush 13, 2) := by decide +kernel
theorem dX9_print_48 : decode cX9_print 48 = .ok (.iadd, 1) := by decide +kernel
theorem dX9_print_49 : decode cX9_print 49 = .ok (.istore_n 3, 1) := by decide +kernel
theorem dX9_print_50 : decode cX9_print 50 = .ok (.aload_n 0, 1) := by decide +kernel
theorem dX9_print_51 : decode cX9_print 51 = .ok (.getfield 7, 3) := by decide +kernel
theorem dX9_print_54 : decode cX9_print 54 = .ok (.iload_n 3, 1) := by decide +kernel
theorem dX9_print_55 : decode cX9_print 55 = .ok (.aload_n 0, 1) := by decide +kernel
theorem dX9_print_56 : decode cX9_print 56 = .ok (.getfield 7, 3) := by decide +kernel
theorem dX9_print_59 : decode cX9_print 59 = .ok (.iload_n 1, 1) := by decide +kernel
theorem dX9_print_60 : decode cX9_print 60 = .ok (.invokestatic 59, 3) := by decide +kernel
theorem dX9_print_63 : decode cX9_print 63 = .ok (.iastore, 1) := by decide +kernel
theorem dX9_print_64 : decode cX9_print 64 = .ok (.iconst 0, 1) := by decide +kernel
theorem dX9_print_65 : decode cX9_print 65 = .ok (.istore 4, 2) := by decide +kernel
theorem dX9_print_67 : decode cX9_print 67 = .ok (.iload 4, 2) := by decide +kernel
theorem dX9_print_69 : decode cX9_print 69 = .ok (.aload_n 0, 1) := by decide +kernel
theorem dX9_print_70 : decode cX9_print 70 = .ok (.getfield 7, 3) := by decide +kernel
theorem dX9_print_73 : decode cX9_print 73 = .ok (.iload_n 3, 1) := by decide +kernel
theorem dX9_print_74 : decode cX9_print 74 = .ok (.iaload, 1) := by decide +kernel
theorem dX9_print_75 : decode cX9_print 75 = .ok (.if_icmp .ge 89, 3) := by decide +kernel
theorem dX9_print_78 : decode cX9_print 78 = .ok (.aload_n 0, 1) := by decide +kernel
theorem dX9_print_79 : decode cX9_print 79 = .ok (.getfield 7, 3) := by decide +kernel
theorem dX9_print_82 : decode cX9_print 82 = .ok (.iload_n 3, 1) := by decide +kernel
theorem dX9_print_83 : decode cX9_print 83 = .ok (.iconst 1, 1) := by decide +kernel
theorem dX9_print_84 : decode cX9_print 84 = .ok (.iadd, 1) := by decide +kernel
theorem dX9_print_85 : decode cX9_print 85 = .ok (.iconst 3, 1) := by decide +kernel
theorem dX9_print_86 : decode cX9_print 86 = .ok (.iload 4, 2) := by decide +kernel
theorem dX9_print_88 : decode cX9_print 88 = .ok (.imul, 1) := by decide +kernel
theorem dX9_print_89 : decode cX9_print 89 = .ok (.iadd, 1) := by decide +kernel
theorem dX9_print_90 : decode cX9_print 90 = .ok (.aload_n 0, 1) := by decide +kernel
theorem dX9_print_91 : decode cX9_print 91 = .ok (.getfield 7, 3) := by decide +kernel
theorem dX9_print_94 : decode cX9_print 94 = .ok (.iload_n 1, 1) := by decide +kernel
theorem dX9_print_95 : decode cX9_print 95 = .ok (.iload 4, 2) := by decide +kernel
theorem dX9_print_97 : decode cX9_print 97 = .ok (.invokestatic 52, 3) := by decide +kernel
theorem dX9_print_100 : decode cX9_print 100 = .ok (.iastore, 1) := by decide +kernel
theorem dX9_print_101 : decode cX9_print 101 = .ok (.aload_n 0, 1) := by decide +kernel
theorem dX9_print_102 : decode cX9_print 102 = .ok (.getfield 7, 3) := by decide +kernel
theorem dX9_print_105 : decode cX9_print 105 = .ok (.iload_n 3, 1) := by decide +kernel
theorem dX9_print_106 : decode cX9_print 106 = .ok (.iconst 2, 1) := by decide +kernel
theorem dX9_print_107 : decode cX9_print 107 = .ok (.iadd, 1) := by decide +kernel
theorem dX9_print_108 : decode cX9_print 108 = .ok (.iconst 3, 1) := by decide +kernel
theorem dX9_print_109 : decode cX9_print 109 = .ok (.iload 4, 2) := by decide +kernel
theorem dX9_print_111 : decode cX9_print 111 = .ok (.imul, 1) := by decide +kernel
theorem dX9_print_112 : decode cX9_print 112 = .ok (.iadd, 1) := by decide +kernel
theorem dX9_print_113 : decode cX9_print 113 = .ok (.aload_n 0, 1) := by decide +kernel
theorem dX9_print_114 : decode cX9_print 114 = .ok (.getfield 7, 3) := by decide +kernel
theorem dX9_print_117 : decode cX9_print 117 = .ok (.iload_n 1, 1) := by decide +kernel
theorem dX9_print_118 : decode cX9_print 118 = .ok (.iload 4, 2) := by decide +kernel
theorem dX9_print_120 : decode cX9_print 120 = .ok (.invokestatic 44, 3) := by decide +kernel
theorem dX9_print_123 : decode cX9_print 123 = .ok (.iconst 1, 1) := by decide +kernel
theorem dX9_print_124 : decode cX9_print 124 = .ok (.iadd, 1) := by decide +kernel
theorem dX9_print_125 : decode cX9_print 125 = .ok (.iaload, 1) := by decide +kernel
theorem dX9_print_126 : decode cX9_print 126 = .ok (.iastore, 1) := by decide +kernel
theorem dX9_print_127 : decode cX9_print 127 = .ok (.aload_n 0, 1) := by decide +kernel
theorem dX9_print_128 : decode cX9_print 128 = .ok (.getfield 7, 3) := by decide +kernel
theorem dX9_print_131 : decode cX9_print 131 = .ok (.iload_n 3, 1) := by decide +kernel
theorem dX9_print_132 : decode cX9_print 132 = .ok (.iconst 3, 1) := by decide +kernel
theorem dX9_print_133 : decode cX9_print 133 = .ok (.iadd, 1) := by decide +kernel
theorem dX9_print_134 : decode cX9_print 134 = .ok (.iconst 3, 1) := by decide +kernel
theorem dX9_print_135 : decode cX9_print 135 = .ok (.iload 4, 2) := by decide +kernel
theorem dX9_print_137 : decode cX9_print 137 = .ok (.imul, 1) := by decide +kernel
theorem dX9_print_138 : decode cX9_print 138 = .ok (.iadd, 1) := by decide +kernel
theorem dX9_print_139 : decode cX9_print 139 = .ok (.aload_n 0, 1) := by decide +kernel
theorem dX9_print_140 : decode cX9_print 140 = .ok (.getfield 7, 3) := by decide +kernel
theorem dX9_print_143 : decode cX9_print 143 = .ok (.iload_n 1, 1) := by decide +kernel
theorem dX9_print_144 : decode cX9_print 144 = .ok (.iload 4, 2) := by decide +kernel
theorem dX9_print_146 : decode cX9_print 146 = .ok (.invokestatic 62, 3) := by decide +kernel
theorem dX9_print_149 : decode cX9_print 149 = .ok (.ifCond .eq 7, 3) := by decide +kernel
theorem dX9_print_152 : decode cX9_print 152 = .ok (.iconst 1, 1) := by decide +kernel
theorem dX9_print_153 : decode cX9_print 153 = .ok (.goto 4, 3) := by decide +kernel
theorem dX9_print_156 : decode cX9_print 156 = .ok (.iconst 0, 1) := by decide +kernel
theorem dX9_print_157 : decode cX9_print 157 = .ok (.iastore, 1) := by decide +kernel
theorem dX9_print_158 : decode cX9_print 158 = .ok (.iinc 4 1, 3) := by decide +kernel
theorem dX9_print_161 : decode cX9_print 161 = .ok (.goto (-94), 3) := by decide +kernel
theorem dX9_print_164 : decode cX9_print 164 = .ok (.iload_n 2, 1) := by decide +kernel
theorem dX9_print_165 : decode cX9_print 165 = .ok (.ireturn, 1) := by decide +kernel
theorem dX9_set_0 : decode cX9_set 0 = .ok (.aload_n 0, 1) := by decide +kernel
theorem dX9_set_1 : decode cX9_set 1 = .ok (.iconst 0, 1) := by decide +kernel
theorem dX9_set_2 : decode cX9_set 2 = .ok (.putfield 25, 3) := by decide +kernel
theorem dX9_set_5 : decode cX9_set 5 = .ok (.iload_n 1, 1) := by decide +kernel
theorem dX9_set_6 : decode cX9_set 6 = .ok (.bipush 10, 2) := by decide +kernel
theorem dX9_set_8 : decode cX9_set 8 = .ok (.sipush 200, 3) := by decide +kernel
theorem dX9_set_11 : decode cX9_set 11 = .ok (.invokestatic 29, 3) := by decide +kernel
theorem dX9_set_14 : decode cX9_set 14 = .ok (.ifCond .ne 9, 3) := by decide +kernel
theorem dX9_set_17 : decode cX9_set 17 = .ok (.aload_n 0, 1) := by decide +kernel
theorem dX9_set_18 : decode cX9_set 18 = .ok (.iconst 1, 1) := by decide +kernel
theorem dX9_set_19 : decode cX9_set 19 = .ok (.invokevirtual 40, 3) := by decide +kernel
theorem dX9_set_22 : decode cX9_set 22 = .ok (.ireturn, 1) := by decide +kernel
theorem dX9_set_23 : decode cX9_set 23 = .ok (.aload_n 0, 1) := by decide +kernel
theorem dX9_set_24 : decode cX9_set 24 = .ok (.invokevirtual 91, 3) := by decide +kernel
theorem dX9_set_27 : decode cX9_set 27 = .ok (.aload_n 0, 1) := by decide +kernel
theorem dX9_set_28 : decode cX9_set 28 = .ok (.iconst 0, 1) := by decide +kernel
theorem dX9_set_29 : decode cX9_set 29 = .ok (.iload_n 1, 1) := by decide +kernel
theorem dX9_set_30 : decode cX9_set 30 = .ok (.invokevirtual 108, 3) := by decide +kernel
theorem dX9_set_33 : decode cX9_set 33 = .ok (.ireturn, 1) := by decide +kernel
theorem dX9_append_0 : decode cX9_append 0 = .ok (.aload_n 0, 1) := by decide +kernel
theorem dX9_append_1 : decode cX9_append 1 = .ok (.iconst 0, 1) := by decide +kernel
theorem dX9_append_2 : decode cX9_append 2 = .ok (.putfield 25, 3) := by decide +kernel
theorem dX9_append_5 : decode cX9_append 5 = .ok (.iload_n 1, 1) := by decide +kernel
theorem dX9_append_6 : decode cX9_append 6 = .ok (.bipush 33, 2) := by decide +kernel
theorem dX9_append_8 : decode cX9_append 8 = .ok (.bipush 126, 2) := by decide +kernel
theorem dX9_append_10 : decode cX9_append 10 = .ok (.invokestatic 29, 3) := by decide +kernel
theorem dX9_append_13 : decode cX9_append 13 = .ok (.ifCond .ne 9, 3) := by decide +kernel
theorem dX9_append_16 : decode cX9_append 16 = .ok (.aload_n 0, 1) := by decide +kernel
theorem dX9_append_17 : decode cX9_append 17 = .ok (.iconst 1, 1) := by decide +kernel
theorem dX9_append_18 : decode cX9_append 18 = .ok (.invokevirtual 40, 3) := by decide +kernel
theorem dX9_append_21 : decode cX9_append 21 = .ok (.ireturn, 1) := by decide +kernel
theorem dX9_append_22 : decode cX9_append 22 = .ok (.aload_n 0, 1) := by decide +kernel
theorem dX9_append_23 : decode cX9_append 23 = .ok (.getfield 122, 3) := by decide +kernel
theorem dX9_append_26 : decode cX9_append 26 = .ok (.bipush 60, 2) := by decide +kernel
theorem dX9_append_28 : decode cX9_append 28 = .ok (.if_icmp .ne 9, 3) := by decide +kernel
theorem dX9_append_31 : decode cX9_append 31 = .ok (.aload_n 0, 1) := by decide +kernel
theorem dX9_append_32 : decode cX9_append 32 = .ok (.iconst 2, 1) := by decide +kernel
theorem dX9_append_33 : decode cX9_append 33 = .ok (.invokevirtual 40, 3) := by decide +kernel
theorem dX9_append_36 : decode cX9_append 36 = .ok (.ireturn, 1) := by decide +kernel
theorem dX9_append_37 : decode cX9_append 37 = .ok (.aload_n 0, 1) := by decide +kernel
theorem dX9_append_38 : decode cX9_append 38 = .ok (.getfield 19, 3) := by decide +kernel
theorem dX9_append_41 : decode cX9_append 41 = .ok (.aload_n 0, 1) := by decide +kernel
theorem dX9_append_42 : decode cX9_append 42 = .ok (.getfield 122, 3) := by decide +kernel
theorem dX9_append_45 : decode cX9_append 45 = .ok (.iload_n 1, 1) := by decide +kernel
theorem dX9_append_46 : decode cX9_append 46 = .ok (.iastore, 1) := by decide +kernel
theorem dX9_append_47 : decode cX9_append 47 = .ok (.aload_n 0, 1) := by decide +kernel
theorem dX9_append_48 : decode cX9_append 48 = .ok (.dup, 1) := by decide +kernel
theorem dX9_append_49 : decode cX9_append 49 = .ok (.getfield 122, 3) := by decide +kernel
theorem dX9_append_52 : decode cX9_append 52 = .ok (.iconst 1, 1) := by decide +kernel
theorem dX9_append_53 : decode cX9_append 53 = .ok (.iadd, 1) := by decide +kernel
theorem dX9_append_54 : decode cX9_append 54 = .ok (.putfield 122, 3) := by decide +kernel
theorem dX9_append_57 : decode cX9_append 57 = .ok (.aload_n 0, 1) := by decide +kernel
theorem dX9_append_58 : decode cX9_append 58 = .ok (.getfield 122, 3) := by decide +kernel
theorem dX9_append_61 : decode cX9_append 61 = .ok (.ireturn, 1) := by decide +kernel
theorem dX9_clearBuffer_0 : decode cX9_clearBuffer 0 = .ok (.aload_n 0, 1) := by decide +kernel
theorem dX9_clearBuffer_1 : decode cX9_clearBuffer 1 = .ok (.iconst 0, 1) := by decide +kernel
theorem dX9_clearBuffer_2 : decode cX9_clearBuffer 2 = .ok (.putfield 25, 3) := by decide +kernel
theorem dX9_clearBuffer_5 : decode cX9_clearBuffer 5 = .ok (.aload_n 0, 1) := by decide +kernel
theorem dX9_clearBuffer_6 : decode cX9_clearBuffer 6 = .ok (.getfield 122, 3) := by decide +kernel
theorem dX9_clearBuffer_9 : decode cX9_clearBuffer 9 = .ok (.istore_n 1, 1) := by decide +kernel
theorem dX9_clearBuffer_10 : decode cX9_clearBuffer 10 = .ok (.aload_n 0, 1) := by decide +kernel
theorem dX9_clearBuffer_11 : decode cX9_clearBuffer 11 = .ok (.iconst 0, 1) := by decide +kernel
theorem dX9_clearBuffer_12 : decode cX9_clearBuffer 12 = .ok (.putfield 122, 3) := by decide +kernel
theorem dX9_clearBuffer_15 : decode cX9_clearBuffer 15 = .ok (.iload_n 1, 1) := by decide +kernel
theorem dX9_clearBuffer_16 : decode cX9_clearBuffer 16 = .ok (.ireturn, 1) := by decide +kernel
theorem dX9_isAt_0 : decode cX9_isAt 0 = .ok (.aload_n 0, 1) := by decide +kernel
theorem dX9_isAt_1 : decode cX9_isAt 1 = .ok (.getfield 125, 3) := by decide +kernel
theorem dX9_isAt_4 : decode cX9_isAt 4 = .ok (.aload_n 0, 1) := by decide +kernel
theorem dX9_isAt_5 : decode cX9_isAt 5 = .ok (.getfield 122, 3) := by decide +kernel
theorem dX9_isAt_8 : decode cX9_isAt 8 = .ok (.if_icmp .ge 24, 3) := by decide +kernel
theorem dX9_isAt_11 : decode cX9_isAt 11 = .ok (.aload_n 0, 1) := by decide +kernel
theorem dX9_isAt_12 : decode cX9_isAt 12 = .ok (.getfield 19, 3) := by decide +kernel
theorem dX9_isAt_15 : decode cX9_isAt 15 = .ok (.aload_n 0, 1) := by decide +kernel
theorem dX9_isAt_16 : decode cX9_isAt 16 = .ok (.getfield 125, 3) := by decide +kernel
theorem dX9_isAt_19 : decode cX9_isAt 19 = .ok (.iaload, 1) := by decide +kernel
theorem dX9_isAt_20 : decode cX9_isAt 20 = .ok (.iload_n 1, 1) := by decide +kernel
theorem dX9_isAt_21 : decode cX9_isAt 21 = .ok (.iload_n 2, 1) := by decide +kernel
theorem dX9_isAt_22 : decode cX9_isAt 22 = .ok (.invokestatic 29, 3) := by decide +kernel
theorem dX9_isAt_25 : decode cX9_isAt 25 = .ok (.ifCond .eq 7, 3) := by decide +kernel
theorem dX9_isAt_28 : decode cX9_isAt 28 = .ok (.iconst 1, 1) := by decide +kernel
theorem dX9_isAt_29 : decode cX9_isAt 29 = .ok (.goto 4, 3) := by decide +kernel
theorem dX9_isAt_32 : decode cX9_isAt 32 = .ok (.iconst 0, 1) := by decide +kernel
theorem dX9_isAt_33 : decode cX9_isAt 33 = .ok (.ireturn, 1) := by decide +kernel
theorem dX9_stops_0 : decode cX9_stops 0 = .ok (.aload_n 0, 1) := by decide +kernel
theorem dX9_stops_1 : decode cX9_stops 1 = .ok (.aload_n 0, 1) := by decide +kernel
theorem dX9_stops_2 : decode cX9_stops 2 = .ok (.getfield 125, 3) := by decide +kernel
theorem dX9_stops_5 : decode cX9_stops 5 = .ok (.aload_n 0, 1) := by decide +kernel
theorem dX9_stops_6 : decode cX9_stops 6 = .ok (.getfield 122, 3) := by decide +kernel
theorem dX9_stops_9 : decode cX9_stops 9 = .ok (.if_icmp .ge 7, 3) := by decide +kernel
theorem dX9_stops_12 : decode cX9_stops 12 = .ok (.iconst 1, 1) := by decide +kernel
theorem dX9_stops_13 : decode cX9_stops 13 = .ok (.goto 4, 3) := by decide +kernel
theorem dX9_stops_16 : decode cX9_stops 16 = .ok (.iconst 0, 1) := by decide +kernel
theorem dX9_stops_17 : decode cX9_stops 17 = .ok (.putfield 128, 3) := by decide +kernel
theorem dX9_stops_20 : decode cX9_stops 20 = .ok (.iconst 0, 1) := by decide +kernel
theorem dX9_stops_21 : decode cX9_stops 21 = .ok (.ireturn, 1) := by decide +kernel
theorem dX9_isCitation_0 : decode cX9_isCitation 0 = .ok (.aload_n 0, 1) := by decide +kernel
theorem dX9_isCitation_1 : decode cX9_isCitation 1 = .ok (.bipush 65, 2) := by decide +kernel
theorem dX9_isCitation_3 : decode cX9_isCitation 3 = .ok (.bipush 90, 2) := by decide +kernel
theorem dX9_isCitation_5 : decode cX9_isCitation 5 = .ok (.invokevirtual 132, 3) := by decide +kernel
theorem dX9_isCitation_8 : decode cX9_isCitation 8 = .ok (.ifCond .ne 8, 3) := by decide +kernel
theorem dX9_isCitation_11 : decode cX9_isCitation 11 = .ok (.aload_n 0, 1) := by decide +kernel
theorem dX9_isCitation_12 : decode cX9_isCitation 12 = .ok (.invokevirtual 136, 3) := by decide +kernel
theorem dX9_isCitation_15 : decode cX9_isCitation 15 = .ok (.ireturn, 1) := by decide +kernel
theorem dX9_isCitation_16 : decode cX9_isCitation 16 = .ok (.aload_n 0, 1) := by decide +kernel
theorem dX9_isCitation_17 : decode cX9_isCitation 17 = .ok (.getfield 19, 3) := by decide +kernel
theorem dX9_isCitation_20 : decode cX9_isCitation 20 = .ok (.aload_n 0, 1) := by decide +kernel
theorem dX9_isCitation_21 : decode cX9_isCitation 21 = .ok (.getfield 125, 3) := by decide +kernel
theorem dX9_isCitation_24 : decode cX9_isCitation 24 = .ok (.iaload, 1) := by decide +kernel
theorem dX9_isCitation_25 : decode cX9_isCitation 25 = .ok (.bipush 65, 2) := by decide +kernel
theorem dX9_isCitation_27 : decode cX9_isCitation 27 = .ok (.isub, 1) := by decide +kernel
theorem dX9_isCitation_28 : decode cX9_isCitation 28 = .ok (.istore_n 1, 1) := by decide +kernel
theorem dX9_isCitation_29 : decode cX9_isCitation 29 = .ok (.aload_n 0, 1) := by decide +kernel
theorem dX9_isCitation_30 : decode cX9_isCitation 30 = .ok (.dup, 1) := by decide +kernel
theorem dX9_isCitation_31 : decode cX9_isCitation 31 = .ok (.getfield 125, 3) := by decide +kernel
theorem dX9_isCitation_34 : decode cX9_isCitation 34 = .ok (.iconst 1, 1) := by decide +kernel
theorem dX9_isCitation_35 : decode cX9_isCitation 35 = .ok (.iadd, 1) := by decide +kernel
theorem dX9_isCitation_36 : decode cX9_isCitation 36 = .ok (.putfield 125, 3) := by decide +kernel
theorem dX9_isCitation_39 : decode cX9_isCitation 39 = .ok (.iload_n 1, 1) := by decide +kernel
theorem dX9_isCitation_40 : decode cX9_isCitation 40 = .ok (.ifCond .ne 40, 3) := by decide +kernel
theorem dX9_isCitation_43 : decode cX9_isCitation 43 = .ok (.aload_n 0, 1) := by decide +kernel
theorem dX9_isCitation_44 : decode cX9_isCitation 44 = .ok (.bipush 65, 2) := by decide +kernel
theorem dX9_isCitation_46 : decode cX9_isCitation 46 = .ok (.bipush 68, 2) := by decide +kernel
theorem dX9_isCitation_48 : decode cX9_isCitation 48 = .ok (.invokevirtual 132, 3) := by decide +kernel
theorem dX9_isCitation_51 : decode cX9_isCitation 51 = .ok (.ifCond .eq 29, 3) := by decide +kernel
theorem dX9_isCitation_54 : decode cX9_isCitation 54 = .ok (.bipush 26, 2) := by decide +kernel
theorem dX9_isCitation_56 : decode cX9_isCitation 56 = .ok (.aload_n 0, 1) := by decide +kernel
theorem dX9_isCitation_57 : decode cX9_isCitation 57 = .ok (.getfield 19, 3) := by decide +kernel
theorem dX9_isCitation_60 : decode cX9_isCitation 60 = .ok (.aload_n 0, 1) := by decide +kernel
theorem dX9_isCitation_61 : decode cX9_isCitation 61 = .ok (.getfield 125, 3) := by decide +kernel
theorem dX9_isCitation_64 : decode cX9_isCitation 64 = .ok (.iaload, 1) := by decide +kernel
theorem dX9_isCitation_65 : decode cX9_isCitation 65 = .ok (.iadd, 1) := by decide +kernel
theorem dX9_isCitation_66 : decode cX9_isCitation 66 = .ok (.bipush 65, 2) := by decide +kernel
theorem dX9_isCitation_68 : decode cX9_isCitation 68 = .ok (.isub, 1) := by decide +kernel
theorem dX9_isCitation_69 : decode cX9_isCitation 69 = .ok (.istore_n 1, 1) := by decide +kernel
theorem dX9_isCitation_70 : decode cX9_isCitation 70 = .ok (.aload_n 0, 1) := by decide +kernel
theorem dX9_isCitation_71 : decode cX9_isCitation 71 = .ok (.dup, 1) := by decide +kernel
theorem dX9_isCitation_72 : decode cX9_isCitation 72 = .ok (.getfield 125, 3) := by decide +kernel
theorem dX9_isCitation_75 : decode cX9_isCitation 75 = .ok (.iconst 1, 1) := by decide +kernel
theorem dX9_isCitation_76 : decode cX9_isCitation 76 = .ok (.iadd, 1) := by decide +kernel
theorem dX9_isCitation_77 : decode cX9_isCitation 77 = .ok (.putfield 125, 3) := by decide +kernel
theorem dX9_isCitation_80 : decode cX9_isCitation 80 = .ok (.aload_n 0, 1) := by decide +kernel
theorem dX9_isCitation_81 : decode cX9_isCitation 81 = .ok (.bipush 46, 2) := by decide +kernel
theorem dX9_isCitation_83 : decode cX9_isCitation 83 = .ok (.bipush 46, 2) := by decide +kernel
theorem dX9_isCitation_85 : decode cX9_isCitation 85 = .ok (.invokevirtual 132, 3) := by decide +kernel
theorem dX9_isCitation_88 : decode cX9_isCitation 88 = .ok (.ifCond .ne 8, 3) := by decide +kernel
theorem dX9_isCitation_91 : decode cX9_isCitation 91 = .ok (.aload_n 0, 1) := by decide +kernel
theorem dX9_isCitation_92 : decode cX9_isCitation 92 = .ok (.invokevirtual 136, 3) := by decide +kernel
theorem dX9_isCitation_95 : decode cX9_isCitation 95 = .ok (.ireturn, 1) := by decide +kernel
theorem dX9_isCitation_96 : decode cX9_isCitation 96 = .ok (.aload_n 0, 1) := by decide +kernel
theorem dX9_isCitation_97 : decode cX9_isCitation 97 = .ok (.dup, 1) := by decide +kernel
theorem dX9_isCitation_98 : decode cX9_isCitation 98 = .ok (.getfield 125, 3) := by decide +kernel
theorem dX9_isCitation_101 : decode cX9_isCitation 101 = .ok (.iconst 1, 1) := by decide +kernel
theorem dX9_isCitation_102 : decode cX9_isCitation 102 = .ok (.iadd, 1) := by decide +kernel
theorem dX9_isCitation_103 : decode cX9_isCitation 103 = .ok (.putfield 125, 3) := by decide +kernel
theorem dX9_isCitation_106 : decode cX9_isCitation 106 = .ok (.aload_n 0, 1) := by decide +kernel
theorem dX9_isCitation_107 : decode cX9_isCitation 107 = .ok (.bipush 49, 2) := by decide +kernel
theorem dX9_isCitation_109 : decode cX9_isCitation 109 = .ok (.bipush 57, 2) := by decide +kernel
theorem dX9_isCitation_111 : decode cX9_isCitation 111 = .ok (.invokevirtual 132, 3) := by decide +kernel
theorem dX9_isCitation_114 : decode cX9_isCitation 114 = .ok (.ifCond .ne 8, 3) := by decide +kernel
theorem dX9_isCitation_117 : decode cX9_isCitation 117 = .ok (.aload_n 0, 1) := by decide +kernel
theorem dX9_isCitation_118 : decode cX9_isCitation 118 = .ok (.invokevirtual 136, 3) := by decide +kernel
theorem dX9_isCitation_121 : decode cX9_isCitation 121 = .ok (.ireturn, 1) := by decide +kernel
theorem dX9_isCitation_122 : decode cX9_isCitation 122 = .ok (.aload_n 0, 1) := by decide +kernel
theorem dX9_isCitation_123 : decode cX9_isCitation 123 = .ok (.getfield 19, 3) := by decide +kernel
theorem dX9_isCitation_126 : decode cX9_isCitation 126 = .ok (.aload_n 0, 1) := by decide +kernel
theorem dX9_isCitation_127 : decode cX9_isCitation 127 = .ok (.getfield 125, 3) := by decide +kernel
theorem dX9_isCitation_130 : decode cX9_isCitation 130 = .ok (.iaload, 1) := by decide +kernel
theorem dX9_isCitation_131 : decode cX9_isCitation 131 = .ok (.bipush 48, 2) := by decide +kernel
theorem dX9_isCitation_133 : decode cX9_isCitation 133 = .ok (.isub, 1) := by decide +kernel
theorem dX9_isCitation_134 : decode cX9_isCitation 134 = .ok (.istore_n 2, 1) := by decide +kernel
theorem dX9_isCitation_135 : decode cX9_isCitation 135 = .ok (.aload_n 0, 1) := by decide +kernel
theorem dX9_isCitation_136 : decode cX9_isCitation 136 = .ok (.dup, 1) := by decide +kernel
theorem dX9_isCitation_137 : decode cX9_isCitation 137 = .ok (.getfield 125, 3) := by decide +kernel
theorem dX9_isCitation_140 : decode cX9_isCitation 140 = .ok (.iconst 1, 1) := by decide +kernel
theorem dX9_isCitation_141 : decode cX9_isCitation 141 = .ok (.iadd, 1) := by decide +kernel
theorem dX9_isCitation_142 : decode cX9_isCitation 142 = .ok (.putfield 125, 3) := by decide +kernel
theorem dX9_isCitation_145 : decode cX9_isCitation 145 = .ok (.aload_n 0, 1) := by decide +kernel
theorem dX9_isCitation_146 : decode cX9_isCitation 146 = .ok (.bipush 48, 2) := by decide +kernel
theorem dX9_isCitation_148 : decode cX9_isCitation 148 = .ok (.bipush 57, 2) := by decide +kernel
theorem dX9_isCitation_150 : decode cX9_isCitation 150 = .ok (.invokevirtual 132, 3) := by decide +kernel
theorem dX9_isCitation_153 : decode cX9_isCitation 153 = .ok (.ifCond .eq 53, 3) := by decide +kernel
theorem dX9_isCitation_156 : decode cX9_isCitation 156 = .ok (.bipush 10, 2) := by decide +kernel
theorem dX9_isCitation_158 : decode cX9_isCitation 158 = .ok (.iload_n 2, 1) := by decide +kernel
theorem dX9_isCitation_159 : decode cX9_isCitation 159 = .ok (.imul, 1) := by decide +kernel
theorem dX9_isCitation_160 : decode cX9_isCitation 160 = .ok (.aload_n 0, 1) := by decide +kernel
theorem dX9_isCitation_161 : decode cX9_isCitation 161 = .ok (.getfield 19, 3) := by decide +kernel
theorem dX9_isCitation_164 : decode cX9_isCitation 164 = .ok (.aload_n 0, 1) := by decide +kernel
theorem dX9_isCitation_165 : decode cX9_isCitation 165 = .ok (.getfield 125, 3) := by decide +kernel
theorem dX9_isCitation_168 : decode cX9_isCitation 168 = .ok (.iaload, 1) := by decide +kernel
theorem dX9_isCitation_169 : decode cX9_isCitation 169 = .ok (.iadd, 1) := by decide +kernel
theorem dX9_isCitation_170 : decode cX9_isCitation 170 = .ok (.bipush 48, 2) := by decide +kernel
theorem dX9_isCitation_172 : decode cX9_isCitation 172 = .ok (.isub, 1) := by decide +kernel
theorem dX9_isCitation_173 : decode cX9_isCitation 173 = .ok (.bipush 60, 2) := by decide +kernel
theorem dX9_isCitation_175 : decode cX9_isCitation 175 = .ok (.if_icmp .gt 31, 3) := by decide +kernel
theorem dX9_isCitation_178 : decode cX9_isCitation 178 = .ok (.bipush 10, 2) := by decide +kernel
theorem dX9_isCitation_180 : decode cX9_isCitation 180 = .ok (.iload_n 2, 1) := by decide +kernel
theorem dX9_isCitation_181 : decode cX9_isCitation 181 = .ok (.imul, 1) := by decide +kernel
theorem dX9_isCitation_182 : decode cX9_isCitation 182 = .ok (.aload_n 0, 1) := by decide +kernel
theorem dX9_isCitation_183 : decode cX9_isCitation 183 = .ok (.getfield 19, 3) := by decide +kernel
theorem dX9_isCitation_186 : decode cX9_isCitation 186 = .ok (.aload_n 0, 1) := by decide +kernel
theorem dX9_isCitation_187 : decode cX9_isCitation 187 = .ok (.getfield 125, 3) := by decide +kernel
theorem dX9_isCitation_190 : decode cX9_isCitation 190 = .ok (.iaload, 1) := by decide +kernel
theorem dX9_isCitation_191 : decode cX9_isCitation 191 = .ok (.iadd, 1) := by decide +kernel
theorem dX9_isCitation_192 : decode cX9_isCitation 192 = .ok (.bipush 48, 2) := by decide +kernel
theorem dX9_isCitation_194 : decode cX9_isCitation 194 = .ok (.isub, 1) := by decide +kernel
theorem dX9_isCitation_195 : decode cX9_isCitation 195 = .ok (.istore_n 2, 1) := by decide +kernel
theorem dX9_isCitation_196 : decode cX9_isCitation 196 = .ok (.aload_n 0, 1) := by decide +kernel
theorem dX9_isCitation_197 : decode cX9_isCitation 197 = .ok (.dup, 1) := by decide +kernel
theorem dX9_isCitation_198 : decode cX9_isCitation 198 = .ok (.getfield 125, 3) := by decide +kernel
theorem dX9_isCitation_201 : decode cX9_isCitation 201 = .ok (.iconst 1, 1) := by decide +kernel
theorem dX9_isCitation_202 : decode cX9_isCitation 202 = .ok (.iadd, 1) := by decide +kernel
theorem dX9_isCitation_203 : decode cX9_isCitation 203 = .ok (.putfield 125, 3) := by decide +kernel
theorem dX9_isCitation_206 : decode cX9_isCitation 206 = .ok (.aload_n 0, 1) := by decide +kernel
theorem dX9_isCitation_207 : decode cX9_isCitation 207 = .ok (.getfield 22, 3) := by decide +kernel
theorem dX9_isCitation_210 : decode cX9_isCitation 210 = .ok (.iconst 2, 1) := by decide +kernel
theorem dX9_isCitation_211 : decode cX9_isCitation 211 = .ok (.aload_n 0, 1) := by decide +kernel
theorem dX9_isCitation_212 : decode cX9_isCitation 212 = .ok (.getfield 140, 3) := by decide +kernel
theorem dX9_isCitation_215 : decode cX9_isCitation 215 = .ok (.imul, 1) := by decide +kernel
theorem dX9_isCitation_216 : decode cX9_isCitation 216 = .ok (.iload_n 1, 1) := by decide +kernel
theorem dX9_isCitation_217 : decode cX9_isCitation 217 = .ok (.iastore, 1) := by decide +kernel
theorem dX9_isCitation_218 : decode cX9_isCitation 218 = .ok (.aload_n 0, 1) := by decide +kernel
theorem dX9_isCitation_219 : decode cX9_isCitation 219 = .ok (.getfield 22, 3) := by decide +kernel
theorem dX9_isCitation_222 : decode cX9_isCitation 222 = .ok (.iconst 2, 1) := by decide +kernel
theorem dX9_isCitation_223 : decode cX9_isCitation 223 = .ok (.aload_n 0, 1) := by decide +kernel
theorem dX9_isCitation_224 : decode cX9_isCitation 224 = .ok (.getfield 140, 3) := by decide +kernel
theorem dX9_isCitation_227 : decode cX9_isCitation 227 = .ok (.imul, 1) := by decide +kernel
theorem dX9_isCitation_228 : decode cX9_isCitation 228 = .ok (.iconst 1, 1) := by decide +kernel
theorem dX9_isCitation_229 : decode cX9_isCitation 229 = .ok (.iadd, 1) := by decide +kernel
theorem dX9_isCitation_230 : decode cX9_isCitation 230 = .ok (.iload_n 2, 1) := by decide +kernel
theorem dX9_isCitation_231 : decode cX9_isCitation 231 = .ok (.iastore, 1) := by decide +kernel
theorem dX9_isCitation_232 : decode cX9_isCitation 232 = .ok (.aload_n 0, 1) := by decide +kernel
theorem dX9_isCitation_233 : decode cX9_isCitation 233 = .ok (.dup, 1) := by decide +kernel
theorem dX9_isCitation_234 : decode cX9_isCitation 234 = .ok (.getfield 140, 3) := by decide +kernel
theorem dX9_isCitation_237 : decode cX9_isCitation 237 = .ok (.iconst 1, 1) := by decide +kernel
theorem dX9_isCitation_238 : decode cX9_isCitation 238 = .ok (.iadd, 1) := by decide +kernel
theorem dX9_isCitation_239 : decode cX9_isCitation 239 = .ok (.putfield 140, 3) := by decide +kernel
theorem dX9_isCitation_242 : decode cX9_isCitation 242 = .ok (.iconst 1, 1) := by decide +kernel
theorem dX9_isCitation_243 : decode cX9_isCitation 243 = .ok (.ireturn, 1) := by decide +kernel
theorem dX9_isText_0 : decode cX9_isText 0 = .ok (.aload_n 0, 1) := by decide +kernel
theorem dX9_isText_1 : decode cX9_isText 1 = .ok (.iconst 0, 1) := by decide +kernel
theorem dX9_isText_2 : decode cX9_isText 2 = .ok (.putfield 125, 3) := by decide +kernel
theorem dX9_isText_5 : decode cX9_isText 5 = .ok (.aload_n 0, 1) := by decide +kernel
theorem dX9_isText_6 : decode cX9_isText 6 = .ok (.iconst 0, 1) := by decide +kernel
theorem dX9_isText_7 : decode cX9_isText 7 = .ok (.putfield 140, 3) := by decide +kernel
theorem dX9_isText_10 : decode cX9_isText 10 = .ok (.aload_n 0, 1) := by decide +kernel
theorem dX9_isText_11 : decode cX9_isText 11 = .ok (.iconst 0, 1) := by decide +kernel
theorem dX9_isText_12 : decode cX9_isText 12 = .ok (.putfield 128, 3) := by decide +kernel
theorem dX9_isText_15 : decode cX9_isText 15 = .ok (.iconst 1, 1) := by decide +kernel
theorem dX9_isText_16 : decode cX9_isText 16 = .ok (.istore_n 1, 1) := by decide +kernel
theorem dX9_isText_17 : decode cX9_isText 17 = .ok (.iload_n 1, 1) := by decide +kernel
theorem dX9_isText_18 : decode cX9_isText 18 = .ok (.ifCond .eq 59, 3) := by decide +kernel
theorem dX9_isText_21 : decode cX9_isText 21 = .ok (.aload_n 0, 1) := by decide +kernel
theorem dX9_isText_22 : decode cX9_isText 22 = .ok (.invokevirtual 143, 3) := by decide +kernel
theorem dX9_isText_25 : decode cX9_isText 25 = .ok (.ifCond .ne 5, 3) := by decide +kernel
theorem dX9_isText_28 : decode cX9_isText 28 = .ok (.iconst 0, 1) := by decide +kernel
theorem dX9_isText_29 : decode cX9_isText 29 = .ok (.ireturn, 1) := by decide +kernel
theorem dX9_isText_30 : decode cX9_isText 30 = .ok (.aload_n 0, 1) := by decide +kernel
theorem dX9_isText_31 : decode cX9_isText 31 = .ok (.getfield 140, 3) := by decide +kernel
theorem dX9_isText_34 : decode cX9_isText 34 = .ok (.bipush 6, 2) := by decide +kernel
theorem dX9_isText_36 : decode cX9_isText 36 = .ok (.if_icmp .ge 18, 3) := by decide +kernel
theorem dX9_isText_39 : decode cX9_isText 39 = .ok (.aload_n 0, 1) := by decide +kernel
theorem dX9_isText_40 : decode cX9_isText 40 = .ok (.bipush 44, 2) := by decide +kernel
theorem dX9_isText_42 : decode cX9_isText 42 = .ok (.bipush 44, 2) := by decide +kernel
theorem dX9_isText_44 : decode cX9_isText 44 = .ok (.invokevirtual 132, 3) := by decide +kernel
theorem dX9_isText_47 : decode cX9_isText 47 = .ok (.ifCond .eq 7, 3) := by decide +kernel
theorem dX9_isText_50 : decode cX9_isText 50 = .ok (.iconst 1, 1) := by decide +kernel
theorem dX9_isText_51 : decode cX9_isText 51 = .ok (.goto 4, 3) := by decide +kernel
theorem dX9_isText_54 : decode cX9_isText 54 = .ok (.iconst 0, 1) := by decide +kernel
theorem dX9_isText_55 : decode cX9_isText 55 = .ok (.istore_n 1, 1) := by decide +kernel
theorem dX9_isText_56 : decode cX9_isText 56 = .ok (.aload_n 0, 1) := by decide +kernel
theorem dX9_isText_57 : decode cX9_isText 57 = .ok (.dup, 1) := by decide +kernel
theorem dX9_isText_58 : decode cX9_isText 58 = .ok (.getfield 125, 3) := by decide +kernel
theorem dX9_isText_61 : decode cX9_isText 61 = .ok (.iload_n 1, 1) := by decide +kernel
theorem dX9_isText_62 : decode cX9_isText 62 = .ok (.ifCond .eq 7, 3) := by decide +kernel
theorem dX9_isText_65 : decode cX9_isText 65 = .ok (.iconst 1, 1) := by decide +kernel
theorem dX9_isText_66 : decode cX9_isText 66 = .ok (.goto 4, 3) := by decide +kernel
theorem dX9_isText_69 : decode cX9_isText 69 = .ok (.iconst 0, 1) := by decide +kernel
theorem dX9_isText_70 : decode cX9_isText 70 = .ok (.iadd, 1) := by decide +kernel
theorem dX9_isText_71 : decode cX9_isText 71 = .ok (.putfield 125, 3) := by decide +kernel
theorem dX9_isText_74 : decode cX9_isText 74 = .ok (.goto (-57), 3) := by decide +kernel
theorem dX9_isText_77 : decode cX9_isText 77 = .ok (.aload_n 0, 1) := by decide +kernel
theorem dX9_isText_78 : decode cX9_isText 78 = .ok (.aload_n 0, 1) := by decide +kernel
theorem dX9_isText_79 : decode cX9_isText 79 = .ok (.getfield 125, 3) := by decide +kernel
theorem dX9_isText_82 : decode cX9_isText 82 = .ok (.aload_n 0, 1) := by decide +kernel
theorem dX9_isText_83 : decode cX9_isText 83 = .ok (.getfield 122, 3) := by decide +kernel
theorem dX9_isText_86 : decode cX9_isText 86 = .ok (.if_icmp .ge 7, 3) := by decide +kernel
theorem dX9_isText_89 : decode cX9_isText 89 = .ok (.iconst 1, 1) := by decide +kernel
theorem dX9_isText_90 : decode cX9_isText 90 = .ok (.goto 4, 3) := by decide +kernel
theorem dX9_isText_93 : decode cX9_isText 93 = .ok (.iconst 0, 1) := by decide +kernel
theorem dX9_isText_94 : decode cX9_isText 94 = .ok (.putfield 128, 3) := by decide +kernel
theorem dX9_isText_97 : decode cX9_isText 97 = .ok (.aload_n 0, 1) := by decide +kernel
theorem dX9_isText_98 : decode cX9_isText 98 = .ok (.getfield 125, 3) := by decide +kernel
theorem dX9_isText_101 : decode cX9_isText 101 = .ok (.aload_n 0, 1) := by decide +kernel
theorem dX9_isText_102 : decode cX9_isText 102 = .ok (.getfield 122, 3) := by decide +kernel
theorem dX9_isText_105 : decode cX9_isText 105 = .ok (.if_icmp .ne 7, 3) := by decide +kernel
theorem dX9_isText_108 : decode cX9_isText 108 = .ok (.iconst 1, 1) := by decide +kernel
theorem dX9_isText_109 : decode cX9_isText 109 = .ok (.goto 4, 3) := by decide +kernel
theorem dX9_isText_112 : decode cX9_isText 112 = .ok (.iconst 0, 1) := by decide +kernel
theorem dX9_isText_113 : decode cX9_isText 113 = .ok (.ireturn, 1) := by decide +kernel
theorem dX9_firstError_0 : decode cX9_firstError 0 = .ok (.aload_n 0, 1) := by decide +kernel
theorem dX9_firstError_1 : decode cX9_firstError 1 = .ok (.iconst 0, 1) := by decide +kernel
theorem dX9_firstError_2 : decode cX9_firstError 2 = .ok (.putfield 25, 3) := by decide +kernel
theorem dX9_firstError_5 : decode cX9_firstError 5 = .ok (.aload_n 0, 1) := by decide +kernel
theorem dX9_firstError_6 : decode cX9_firstError 6 = .ok (.invokevirtual 146, 3) := by decide +kernel
theorem dX9_firstError_9 : decode cX9_firstError 9 = .ok (.istore_n 1, 1) := by decide +kernel
theorem dX9_firstError_10 : decode cX9_firstError 10 = .ok (.iload_n 1, 1) := by decide +kernel
theorem dX9_firstError_11 : decode cX9_firstError 11 = .ok (.ifCond .ne 17, 3) := by decide +kernel
theorem dX9_firstError_14 : decode cX9_firstError 14 = .ok (.aload_n 0, 1) := by decide +kernel
theorem dX9_firstError_15 : decode cX9_firstError 15 = .ok (.getfield 128, 3) := by decide +kernel
theorem dX9_firstError_18 : decode cX9_firstError 18 = .ok (.ifCond .eq 10, 3) := by decide +kernel
theorem dX9_firstError_21 : decode cX9_firstError 21 = .ok (.aload_n 0, 1) := by decide +kernel
theorem dX9_firstError_22 : decode cX9_firstError 22 = .ok (.getfield 125, 3) := by decide +kernel
theorem dX9_firstError_25 : decode cX9_firstError 25 = .ok (.goto 7, 3) := by decide +kernel
theorem dX9_firstError_28 : decode cX9_firstError 28 = .ok (.aload_n 0, 1) := by decide +kernel
theorem dX9_firstError_29 : decode cX9_firstError 29 = .ok (.getfield 122, 3) := by decide +kernel
theorem dX9_firstError_32 : decode cX9_firstError 32 = .ok (.ireturn, 1) := by decide +kernel
theorem dX9_citeAll_0 : decode cX9_citeAll 0 = .ok (.aload_n 0, 1) := by decide +kernel
theorem dX9_citeAll_1 : decode cX9_citeAll 1 = .ok (.iconst 0, 1) := by decide +kernel
theorem dX9_citeAll_2 : decode cX9_citeAll 2 = .ok (.putfield 25, 3) := by decide +kernel
theorem dX9_citeAll_5 : decode cX9_citeAll 5 = .ok (.iload_n 1, 1) := by decide +kernel
theorem dX9_citeAll_6 : decode cX9_citeAll 6 = .ok (.invokestatic 115, 3) := by decide +kernel
theorem dX9_citeAll_9 : decode cX9_citeAll 9 = .ok (.ifCond .ne 9, 3) := by decide +kernel
theorem dX9_citeAll_12 : decode cX9_citeAll 12 = .ok (.aload_n 0, 1) := by decide +kernel
theorem dX9_citeAll_13 : decode cX9_citeAll 13 = .ok (.iconst 1, 1) := by decide +kernel
theorem dX9_citeAll_14 : decode cX9_citeAll 14 = .ok (.invokevirtual 40, 3) := by decide +kernel
theorem dX9_citeAll_17 : decode cX9_citeAll 17 = .ok (.ireturn, 1) := by decide +kernel
theorem dX9_citeAll_18 : decode cX9_citeAll 18 = .ok (.aload_n 0, 1) := by decide +kernel
theorem dX9_citeAll_19 : decode cX9_citeAll 19 = .ok (.invokevirtual 146, 3) := by decide +kernel
theorem dX9_citeAll_22 : decode cX9_citeAll 22 = .ok (.ifCond .ne 9, 3) := by decide +kernel
theorem dX9_citeAll_25 : decode cX9_citeAll 25 = .ok (.aload_n 0, 1) := by decide +kernel
theorem dX9_citeAll_26 : decode cX9_citeAll 26 = .ok (.iconst 2, 1) := by decide +kernel
theorem dX9_citeAll_27 : decode cX9_citeAll 27 = .ok (.invokevirtual 40, 3) := by decide +kernel
theorem dX9_citeAll_30 : decode cX9_citeAll 30 = .ok (.ireturn, 1) := by decide +kernel
theorem dX9_citeAll_31 : decode cX9_citeAll 31 = .ok (.iconst 0, 1) := by decide +kernel
theorem dX9_citeAll_32 : decode cX9_citeAll 32 = .ok (.istore_n 2, 1) := by decide +kernel
theorem dX9_citeAll_33 : decode cX9_citeAll 33 = .ok (.iload_n 2, 1) := by decide +kernel
theorem dX9_citeAll_34 : decode cX9_citeAll 34 = .ok (.aload_n 0, 1) := by decide +kernel
theorem dX9_citeAll_35 : decode cX9_citeAll 35 = .ok (.getfield 140, 3) := by decide +kernel
theorem dX9_citeAll_38 : decode cX9_citeAll 38 = .ok (.if_icmp .ge 30, 3) := by decide +kernel
theorem dX9_citeAll_41 : decode cX9_citeAll 41 = .ok (.aload_n 0, 1) := by decide +kernel
theorem dX9_citeAll_42 : decode cX9_citeAll 42 = .ok (.aload_n 0, 1) := by decide +kernel
theorem dX9_citeAll_43 : decode cX9_citeAll 43 = .ok (.getfield 22, 3) := by decide +kernel
theorem dX9_citeAll_46 : decode cX9_citeAll 46 = .ok (.iconst 2, 1) := by decide +kernel
theorem dX9_citeAll_47 : decode cX9_citeAll 47 = .ok (.iload_n 2, 1) := by decide +kernel
theorem dX9_citeAll_48 : decode cX9_citeAll 48 = .ok (.imul, 1) := by decide +kernel
theorem dX9_citeAll_49 : decode cX9_citeAll 49 = .ok (.iaload, 1) := by decide +kernel
theorem dX9_citeAll_50 : decode cX9_citeAll 50 = .ok (.invokevirtual 98, 3) := by decide +kernel
theorem dX9_citeAll_53 : decode cX9_citeAll 53 = .ok (.ifCond .ne 9, 3) := by decide +kernel
theorem dX9_citeAll_56 : decode cX9_citeAll 56 = .ok (.aload_n 0, 1) := by decide +kernel
theorem dX9_citeAll_57 : decode cX9_citeAll 57 = .ok (.iconst 3, 1) := by decide +kernel
theorem dX9_citeAll_58 : decode cX9_citeAll 58 = .ok (.invokevirtual 40, 3) := by decide +kernel
theorem dX9_citeAll_61 : decode cX9_citeAll 61 = .ok (.ireturn, 1) := by decide +kernel
theorem dX9_citeAll_62 : decode cX9_citeAll 62 = .ok (.iinc 2 1, 3) := by decide +kernel
theorem dX9_citeAll_65 : decode cX9_citeAll 65 = .ok (.goto (-32), 3) := by decide +kernel
theorem dX9_citeAll_68 : decode cX9_citeAll 68 = .ok (.aload_n 0, 1) := by decide +kernel
theorem dX9_citeAll_69 : decode cX9_citeAll 69 = .ok (.invokevirtual 91, 3) := by decide +kernel
theorem dX9_citeAll_72 : decode cX9_citeAll 72 = .ok (.aload_n 0, 1) := by decide +kernel
theorem dX9_citeAll_73 : decode cX9_citeAll 73 = .ok (.iconst 0, 1) := by decide +kernel
theorem dX9_citeAll_74 : decode cX9_citeAll 74 = .ok (.putfield 122, 3) := by decide +kernel
theorem dX9_citeAll_77 : decode cX9_citeAll 77 = .ok (.aload_n 0, 1) := by decide +kernel
theorem dX9_citeAll_78 : decode cX9_citeAll 78 = .ok (.bipush 65, 2) := by decide +kernel
theorem dX9_citeAll_80 : decode cX9_citeAll 80 = .ok (.bipush 32, 2) := by decide +kernel
theorem dX9_citeAll_82 : decode cX9_citeAll 82 = .ok (.iload_n 1, 1) := by decide +kernel
theorem dX9_citeAll_83 : decode cX9_citeAll 83 = .ok (.imul, 1) := by decide +kernel
theorem dX9_citeAll_84 : decode cX9_citeAll 84 = .ok (.iadd, 1) := by decide +kernel
theorem dX9_citeAll_85 : decode cX9_citeAll 85 = .ok (.iconst 0, 1) := by decide +kernel
theorem dX9_citeAll_86 : decode cX9_citeAll 86 = .ok (.invokevirtual 108, 3) := by decide +kernel
theorem dX9_citeAll_89 : decode cX9_citeAll 89 = .ok (.istore_n 2, 1) := by decide +kernel
theorem dX9_citeAll_90 : decode cX9_citeAll 90 = .ok (.iconst 0, 1) := by decide +kernel
theorem dX9_citeAll_91 : decode cX9_citeAll 91 = .ok (.istore_n 3, 1) := by decide +kernel
theorem dX9_citeAll_92 : decode cX9_citeAll 92 = .ok (.iload_n 3, 1) := by decide +kernel
theorem dX9_citeAll_93 : decode cX9_citeAll 93 = .ok (.aload_n 0, 1) := by decide +kernel
theorem dX9_citeAll_94 : decode cX9_citeAll 94 = .ok (.getfield 140, 3) := by decide +kernel
theorem dX9_citeAll_97 : decode cX9_citeAll 97 = .ok (.if_icmp .ge 32, 3) := by decide +kernel
theorem dX9_citeAll_100 : decode cX9_citeAll 100 = .ok (.aload_n 0, 1) := by decide +kernel
theorem dX9_citeAll_101 : decode cX9_citeAll 101 = .ok (.iload_n 1, 1) := by decide +kernel
theorem dX9_citeAll_102 : decode cX9_citeAll 102 = .ok (.aload_n 0, 1) := by decide +kernel
theorem dX9_citeAll_103 : decode cX9_citeAll 103 = .ok (.getfield 22, 3) := by decide +kernel
theorem dX9_citeAll_106 : decode cX9_citeAll 106 = .ok (.iconst 2, 1) := by decide +kernel
theorem dX9_citeAll_107 : decode cX9_citeAll 107 = .ok (.iload_n 3, 1) := by decide +kernel
theorem dX9_citeAll_108 : decode cX9_citeAll 108 = .ok (.imul, 1) := by decide +kernel
theorem dX9_citeAll_109 : decode cX9_citeAll 109 = .ok (.iaload, 1) := by decide +kernel
theorem dX9_citeAll_110 : decode cX9_citeAll 110 = .ok (.aload_n 0, 1) := by decide +kernel
theorem dX9_citeAll_111 : decode cX9_citeAll 111 = .ok (.getfield 22, 3) := by decide +kernel
theorem dX9_citeAll_114 : decode cX9_citeAll 114 = .ok (.iconst 2, 1) := by decide +kernel
theorem dX9_citeAll_115 : decode cX9_citeAll 115 = .ok (.iload_n 3, 1) := by decide +kernel
theorem dX9_citeAll_116 : decode cX9_citeAll 116 = .ok (.imul, 1) := by decide +kernel
theorem dX9_citeAll_117 : decode cX9_citeAll 117 = .ok (.iconst 1, 1) := by decide +kernel
theorem dX9_citeAll_118 : decode cX9_citeAll 118 = .ok (.iadd, 1) := by decide +kernel
theorem dX9_citeAll_119 : decode cX9_citeAll 119 = .ok (.iaload, 1) := by decide +kernel
theorem dX9_citeAll_120 : decode cX9_citeAll 120 = .ok (.invokevirtual 118, 3) := by decide +kernel
theorem dX9_citeAll_123 : decode cX9_citeAll 123 = .ok (.iinc 3 1, 3) := by decide +kernel
theorem dX9_citeAll_126 : decode cX9_citeAll 126 = .ok (.goto (-34), 3) := by decide +kernel
theorem dX9_citeAll_129 : decode cX9_citeAll 129 = .ok (.iload_n 2, 1) := by decide +kernel
theorem dX9_citeAll_130 : decode cX9_citeAll 130 = .ok (.ireturn, 1) := by decide +kernel
theorem dX9_citedBy_0 : decode cX9_citedBy 0 = .ok (.iconst 0, 1) := by decide +kernel
theorem dX9_citedBy_1 : decode cX9_citedBy 1 = .ok (.istore_n 3, 1) := by decide +kernel
theorem dX9_citedBy_2 : decode cX9_citedBy 2 = .ok (.iconst 0, 1) := by decide +kernel
theorem dX9_citedBy_3 : decode cX9_citedBy 3 = .ok (.istore 4, 2) := by decide +kernel
theorem dX9_citedBy_5 : decode cX9_citedBy 5 = .ok (.iload 4, 2) := by decide +kernel
theorem dX9_citedBy_7 : decode cX9_citedBy 7 = .ok (.bipush 12, 2) := by decide +kernel
theorem dX9_citedBy_9 : decode cX9_citedBy 9 = .ok (.if_icmp .ge 64, 3) := by decide +kernel
theorem dX9_citedBy_12 : decode cX9_citedBy 12 = .ok (.iconst 0, 1) := by decide +kernel
theorem dX9_citedBy_13 : decode cX9_citedBy 13 = .ok (.istore 5, 2) := by decide +kernel
theorem dX9_citedBy_15 : decode cX9_citedBy 15 = .ok (.iload 5, 2) := by decide +kernel
theorem dX9_citedBy_17 : decode cX9_citedBy 17 = .ok (.aload_n 0, 1) := by decide +kernel
theorem dX9_citedBy_18 : decode cX9_citedBy 18 = .ok (.iload 4, 2) := by decide +kernel
theorem dX9_citedBy_20 : decode cX9_citedBy 20 = .ok (.invokestatic 59, 3) := by decide +kernel
theorem dX9_citedBy_23 : decode cX9_citedBy 23 = .ok (.if_icmp .ge 44, 3) := by decide +kernel
theorem dX9_citedBy_26 : decode cX9_citedBy 26 = .ok (.iload_n 3, 1) := by decide +kernel
theorem dX9_citedBy_27 : decode cX9_citedBy 27 = .ok (.aload_n 0, 1) := by decide +kernel
theorem dX9_citedBy_28 : decode cX9_citedBy 28 = .ok (.iload 4, 2) := by decide +kernel
theorem dX9_citedBy_30 : decode cX9_citedBy 30 = .ok (.iload 5, 2) := by decide +kernel
theorem dX9_citedBy_32 : decode cX9_citedBy 32 = .ok (.invokestatic 52, 3) := by decide +kernel
theorem dX9_citedBy_35 : decode cX9_citedBy 35 = .ok (.iload_n 1, 1) := by decide +kernel
theorem dX9_citedBy_36 : decode cX9_citedBy 36 = .ok (.if_icmp .ne 22, 3) := by decide +kernel
theorem dX9_citedBy_39 : decode cX9_citedBy 39 = .ok (.iload_n 2, 1) := by decide +kernel
theorem dX9_citedBy_40 : decode cX9_citedBy 40 = .ok (.ifCond .ne 14, 3) := by decide +kernel
theorem dX9_citedBy_43 : decode cX9_citedBy 43 = .ok (.aload_n 0, 1) := by decide +kernel
theorem dX9_citedBy_44 : decode cX9_citedBy 44 = .ok (.iload 4, 2) := by decide +kernel
theorem dX9_citedBy_46 : decode cX9_citedBy 46 = .ok (.iload 5, 2) := by decide +kernel
theorem dX9_citedBy_48 : decode cX9_citedBy 48 = .ok (.invokestatic 62, 3) := by decide +kernel
theorem dX9_citedBy_51 : decode cX9_citedBy 51 = .ok (.ifCond .ne 7, 3) := by decide +kernel
theorem dX9_citedBy_54 : decode cX9_citedBy 54 = .ok (.iconst 1, 1) := by decide +kernel
theorem dX9_citedBy_55 : decode cX9_citedBy 55 = .ok (.goto 4, 3) := by decide +kernel
theorem dX9_citedBy_58 : decode cX9_citedBy 58 = .ok (.iconst 0, 1) := by decide +kernel
theorem dX9_citedBy_59 : decode cX9_citedBy 59 = .ok (.iadd, 1) := by decide +kernel
theorem dX9_citedBy_60 : decode cX9_citedBy 60 = .ok (.istore_n 3, 1) := by decide +kernel
theorem dX9_citedBy_61 : decode cX9_citedBy 61 = .ok (.iinc 5 1, 3) := by decide +kernel
theorem dX9_citedBy_64 : decode cX9_citedBy 64 = .ok (.goto (-49), 3) := by decide +kernel
theorem dX9_citedBy_67 : decode cX9_citedBy 67 = .ok (.iinc 4 1, 3) := by decide +kernel
theorem dX9_citedBy_70 : decode cX9_citedBy 70 = .ok (.goto (-65), 3) := by decide +kernel
theorem dX9_citedBy_73 : decode cX9_citedBy 73 = .ok (.iload_n 3, 1) := by decide +kernel
theorem dX9_citedBy_74 : decode cX9_citedBy 74 = .ok (.ireturn, 1) := by decide +kernel
theorem dX9_ofExhibit_0 : decode cX9_ofExhibit 0 = .ok (.iload_n 2, 1) := by decide +kernel
theorem dX9_ofExhibit_1 : decode cX9_ofExhibit 1 = .ok (.ifCond .ne 14, 3) := by decide +kernel
theorem dX9_ofExhibit_4 : decode cX9_ofExhibit 4 = .ok (.aload_n 0, 1) := by decide +kernel
theorem dX9_ofExhibit_5 : decode cX9_ofExhibit 5 = .ok (.getfield 7, 3) := by decide +kernel
theorem dX9_ofExhibit_8 : decode cX9_ofExhibit 8 = .ok (.iload_n 1, 1) := by decide +kernel
theorem dX9_ofExhibit_9 : decode cX9_ofExhibit 9 = .ok (.invokestatic 76, 3) := by decide +kernel
theorem dX9_ofExhibit_12 : decode cX9_ofExhibit 12 = .ok (.goto 47, 3) := by decide +kernel
theorem dX9_ofExhibit_15 : decode cX9_ofExhibit 15 = .ok (.iload_n 2, 1) := by decide +kernel
theorem dX9_ofExhibit_16 : decode cX9_ofExhibit 16 = .ok (.iconst 1, 1) := by decide +kernel
theorem dX9_ofExhibit_17 : decode cX9_ofExhibit 17 = .ok (.if_icmp .ne 14, 3) := by decide +kernel
theorem dX9_ofExhibit_20 : decode cX9_ofExhibit 20 = .ok (.aload_n 0, 1) := by decide +kernel
theorem dX9_ofExhibit_21 : decode cX9_ofExhibit 21 = .ok (.getfield 7, 3) := by decide +kernel
theorem dX9_ofExhibit_24 : decode cX9_ofExhibit 24 = .ok (.iload_n 1, 1) := by decide +kernel
theorem dX9_ofExhibit_25 : decode cX9_ofExhibit 25 = .ok (.invokestatic 56, 3) := by decide +kernel
theorem dX9_ofExhibit_28 : decode cX9_ofExhibit 28 = .ok (.goto 31, 3) := by decide +kernel
theorem dX9_ofExhibit_31 : decode cX9_ofExhibit 31 = .ok (.iload_n 2, 1) := by decide +kernel
theorem dX9_ofExhibit_32 : decode cX9_ofExhibit 32 = .ok (.iconst 5, 1) := by decide +kernel
theorem dX9_ofExhibit_33 : decode cX9_ofExhibit 33 = .ok (.if_icmp .ge 17, 3) := by decide +kernel
theorem dX9_ofExhibit_36 : decode cX9_ofExhibit 36 = .ok (.aload_n 0, 1) := by decide +kernel
theorem dX9_ofExhibit_37 : decode cX9_ofExhibit 37 = .ok (.getfield 7, 3) := by decide +kernel
theorem dX9_ofExhibit_40 : decode cX9_ofExhibit 40 = .ok (.iload_n 1, 1) := by decide +kernel
theorem dX9_ofExhibit_41 : decode cX9_ofExhibit 41 = .ok (.iload_n 2, 1) := by decide +kernel
theorem dX9_ofExhibit_42 : decode cX9_ofExhibit 42 = .ok (.iconst 2, 1) := by decide +kernel
theorem dX9_ofExhibit_43 : decode cX9_ofExhibit 43 = .ok (.isub, 1) := by decide +kernel
theorem dX9_ofExhibit_44 : decode cX9_ofExhibit 44 = .ok (.invokestatic 73, 3) := by decide +kernel
theorem dX9_ofExhibit_47 : decode cX9_ofExhibit 47 = .ok (.goto 12, 3) := by decide +kernel
theorem dX9_ofExhibit_50 : decode cX9_ofExhibit 50 = .ok (.aload_n 0, 1) := by decide +kernel
theorem dX9_ofExhibit_51 : decode cX9_ofExhibit 51 = .ok (.getfield 7, 3) := by decide +kernel
theorem dX9_ofExhibit_54 : decode cX9_ofExhibit 54 = .ok (.iload_n 1, 1) := by decide +kernel
theorem dX9_ofExhibit_55 : decode cX9_ofExhibit 55 = .ok (.iconst 1, 1) := by decide +kernel
theorem dX9_ofExhibit_56 : decode cX9_ofExhibit 56 = .ok (.invokestatic 149, 3) := by decide +kernel
theorem dX9_ofExhibit_59 : decode cX9_ofExhibit 59 = .ok (.ireturn, 1) := by decide +kernel
theorem dX9_exhibit_0 : decode cX9_exhibit 0 = .ok (.aload_n 0, 1) := by decide +kernel
theorem dX9_exhibit_1 : decode cX9_exhibit 1 = .ok (.iconst 0, 1) := by decide +kernel
theorem dX9_exhibit_2 : decode cX9_exhibit 2 = .ok (.putfield 25, 3) := by decide +kernel
theorem dX9_exhibit_5 : decode cX9_exhibit 5 = .ok (.iload_n 1, 1) := by decide +kernel
theorem dX9_exhibit_6 : decode cX9_exhibit 6 = .ok (.ifCond .lt 12, 3) := by decide +kernel
theorem dX9_exhibit_9 : decode cX9_exhibit 9 = .ok (.iload_n 2, 1) := by decide +kernel
theorem dX9_exhibit_10 : decode cX9_exhibit 10 = .ok (.iconst 0, 1) := by decide +kernel
theorem dX9_exhibit_11 : decode cX9_exhibit 11 = .ok (.iconst 5, 1) := by decide +kernel
theorem dX9_exhibit_12 : decode cX9_exhibit 12 = .ok (.invokestatic 29, 3) := by decide +kernel
theorem dX9_exhibit_15 : decode cX9_exhibit 15 = .ok (.ifCond .ne 9, 3) := by decide +kernel
theorem dX9_exhibit_18 : decode cX9_exhibit 18 = .ok (.aload_n 0, 1) := by decide +kernel
theorem dX9_exhibit_19 : decode cX9_exhibit 19 = .ok (.iconst 1, 1) := by decide +kernel
theorem dX9_exhibit_20 : decode cX9_exhibit 20 = .ok (.invokevirtual 40, 3) := by decide +kernel
theorem dX9_exhibit_23 : decode cX9_exhibit 23 = .ok (.ireturn, 1) := by decide +kernel
theorem dX9_exhibit_24 : decode cX9_exhibit 24 = .ok (.aload_n 0, 1) := by decide +kernel
theorem dX9_exhibit_25 : decode cX9_exhibit 25 = .ok (.iload_n 1, 1) := by decide +kernel
theorem dX9_exhibit_26 : decode cX9_exhibit 26 = .ok (.invokevirtual 98, 3) := by decide +kernel
theorem dX9_exhibit_29 : decode cX9_exhibit 29 = .ok (.ifCond .eq 12, 3) := by decide +kernel
theorem dX9_exhibit_32 : decode cX9_exhibit 32 = .ok (.aload_n 0, 1) := by decide +kernel
theorem dX9_exhibit_33 : decode cX9_exhibit 33 = .ok (.iload_n 1, 1) := by decide +kernel
theorem dX9_exhibit_34 : decode cX9_exhibit 34 = .ok (.iload_n 2, 1) := by decide +kernel
theorem dX9_exhibit_35 : decode cX9_exhibit 35 = .ok (.invokevirtual 153, 3) := by decide +kernel
theorem dX9_exhibit_38 : decode cX9_exhibit 38 = .ok (.goto 4, 3) := by decide +kernel
theorem dX9_exhibit_41 : decode cX9_exhibit 41 = .ok (.iconst (-1), 1) := by decide +kernel
theorem dX9_exhibit_42 : decode cX9_exhibit 42 = .ok (.ireturn, 1) := by decide +kernel
theorem dX9_ofCitation_0 : decode cX9_ofCitation 0 = .ok (.iload_n 3, 1) := by decide +kernel
theorem dX9_ofCitation_1 : decode cX9_ofCitation 1 = .ok (.tableswitch 83 0 3 #[31, 42, 52, 65], 31) := by decide +kernel
theorem dX9_ofCitation_32 : decode cX9_ofCitation 32 = .ok (.aload_n 0, 1) := by decide +kernel
theorem dX9_ofCitation_33 : decode cX9_ofCitation 33 = .ok (.getfield 7, 3) := by decide +kernel
theorem dX9_ofCitation_36 : decode cX9_ofCitation 36 = .ok (.iload_n 1, 1) := by decide +kernel
theorem dX9_ofCitation_37 : decode cX9_ofCitation 37 = .ok (.iload_n 2, 1) := by decide +kernel
theorem dX9_ofCitation_38 : decode cX9_ofCitation 38 = .ok (.invokestatic 44, 3) := by decide +kernel
theorem dX9_ofCitation_41 : decode cX9_ofCitation 41 = .ok (.iaload, 1) := by decide +kernel
theorem dX9_ofCitation_42 : decode cX9_ofCitation 42 = .ok (.ireturn, 1) := by decide +kernel
theorem dX9_ofCitation_43 : decode cX9_ofCitation 43 = .ok (.aload_n 0, 1) := by decide +kernel
theorem dX9_ofCitation_44 : decode cX9_ofCitation 44 = .ok (.getfield 7, 3) := by decide +kernel
theorem dX9_ofCitation_47 : decode cX9_ofCitation 47 = .ok (.iload_n 1, 1) := by decide +kernel
theorem dX9_ofCitation_48 : decode cX9_ofCitation 48 = .ok (.iload_n 2, 1) := by decide +kernel
theorem dX9_ofCitation_49 : decode cX9_ofCitation 49 = .ok (.invokestatic 52, 3) := by decide +kernel
theorem dX9_ofCitation_52 : decode cX9_ofCitation 52 = .ok (.ireturn, 1) := by decide +kernel
theorem dX9_ofCitation_53 : decode cX9_ofCitation 53 = .ok (.aload_n 0, 1) := by decide +kernel
theorem dX9_ofCitation_54 : decode cX9_ofCitation 54 = .ok (.getfield 7, 3) := by decide +kernel
theorem dX9_ofCitation_57 : decode cX9_ofCitation 57 = .ok (.iload_n 1, 1) := by decide +kernel
theorem dX9_ofCitation_58 : decode cX9_ofCitation 58 = .ok (.iload_n 2, 1) := by decide +kernel
theorem dX9_ofCitation_59 : decode cX9_ofCitation 59 = .ok (.invokestatic 44, 3) := by decide +kernel
theorem dX9_ofCitation_62 : decode cX9_ofCitation 62 = .ok (.iconst 1, 1) := by decide +kernel
theorem dX9_ofCitation_63 : decode cX9_ofCitation 63 = .ok (.iadd, 1) := by decide +kernel
theorem dX9_ofCitation_64 : decode cX9_ofCitation 64 = .ok (.iaload, 1) := by decide +kernel
theorem dX9_ofCitation_65 : decode cX9_ofCitation 65 = .ok (.ireturn, 1) := by decide +kernel
theorem dX9_ofCitation_66 : decode cX9_ofCitation 66 = .ok (.aload_n 0, 1) := by decide +kernel
theorem dX9_ofCitation_67 : decode cX9_ofCitation 67 = .ok (.getfield 7, 3) := by decide +kernel
theorem dX9_ofCitation_70 : decode cX9_ofCitation 70 = .ok (.iload_n 1, 1) := by decide +kernel
theorem dX9_ofCitation_71 : decode cX9_ofCitation 71 = .ok (.iload_n 2, 1) := by decide +kernel
theorem dX9_ofCitation_72 : decode cX9_ofCitation 72 = .ok (.invokestatic 62, 3) := by decide +kernel
theorem dX9_ofCitation_75 : decode cX9_ofCitation 75 = .ok (.ifCond .eq 7, 3) := by decide +kernel
theorem dX9_ofCitation_78 : decode cX9_ofCitation 78 = .ok (.iconst 1, 1) := by decide +kernel
theorem dX9_ofCitation_79 : decode cX9_ofCitation 79 = .ok (.goto 4, 3) := by decide +kernel
theorem dX9_ofCitation_82 : decode cX9_ofCitation 82 = .ok (.iconst 0, 1) := by decide +kernel
theorem dX9_ofCitation_83 : decode cX9_ofCitation 83 = .ok (.ireturn, 1) := by decide +kernel
theorem dX9_ofCitation_84 : decode cX9_ofCitation 84 = .ok (.aload_n 0, 1) := by decide +kernel
theorem dX9_ofCitation_85 : decode cX9_ofCitation 85 = .ok (.getfield 7, 3) := by decide +kernel
theorem dX9_ofCitation_88 : decode cX9_ofCitation 88 = .ok (.iload_n 1, 1) := by decide +kernel
theorem dX9_ofCitation_89 : decode cX9_ofCitation 89 = .ok (.iload_n 2, 1) := by decide +kernel
theorem dX9_ofCitation_90 : decode cX9_ofCitation 90 = .ok (.invokestatic 62, 3) := by decide +kernel
theorem dX9_ofCitation_93 : decode cX9_ofCitation 93 = .ok (.ifCond .eq 7, 3) := by decide +kernel
theorem dX9_ofCitation_96 : decode cX9_ofCitation 96 = .ok (.iconst (-1), 1) := by decide +kernel
theorem dX9_ofCitation_97 : decode cX9_ofCitation 97 = .ok (.goto 35, 3) := by decide +kernel
theorem dX9_ofCitation_100 : decode cX9_ofCitation 100 = .ok (.aload_n 0, 1) := by decide +kernel
theorem dX9_ofCitation_101 : decode cX9_ofCitation 101 = .ok (.getfield 7, 3) := by decide +kernel
theorem dX9_ofCitation_104 : decode cX9_ofCitation 104 = .ok (.aload_n 0, 1) := by decide +kernel
theorem dX9_ofCitation_105 : decode cX9_ofCitation 105 = .ok (.getfield 7, 3) := by decide +kernel
theorem dX9_ofCitation_108 : decode cX9_ofCitation 108 = .ok (.iload_n 1, 1) := by decide +kernel
theorem dX9_ofCitation_109 : decode cX9_ofCitation 109 = .ok (.iload_n 2, 1) := by decide +kernel
theorem dX9_ofCitation_110 : decode cX9_ofCitation 110 = .ok (.invokestatic 52, 3) := by decide +kernel
theorem dX9_ofCitation_113 : decode cX9_ofCitation 113 = .ok (.iconst 2, 1) := by decide +kernel
theorem dX9_ofCitation_114 : decode cX9_ofCitation 114 = .ok (.invokestatic 73, 3) := by decide +kernel
theorem dX9_ofCitation_117 : decode cX9_ofCitation 117 = .ok (.aload_n 0, 1) := by decide +kernel
theorem dX9_ofCitation_118 : decode cX9_ofCitation 118 = .ok (.getfield 7, 3) := by decide +kernel
theorem dX9_ofCitation_121 : decode cX9_ofCitation 121 = .ok (.iload_n 1, 1) := by decide +kernel
theorem dX9_ofCitation_122 : decode cX9_ofCitation 122 = .ok (.iload_n 2, 1) := by decide +kernel
theorem dX9_ofCitation_123 : decode cX9_ofCitation 123 = .ok (.invokestatic 44, 3) := by decide +kernel
theorem dX9_ofCitation_126 : decode cX9_ofCitation 126 = .ok (.iconst 1, 1) := by decide +kernel
theorem dX9_ofCitation_127 : decode cX9_ofCitation 127 = .ok (.iadd, 1) := by decide +kernel
theorem dX9_ofCitation_128 : decode cX9_ofCitation 128 = .ok (.iaload, 1) := by decide +kernel
theorem dX9_ofCitation_129 : decode cX9_ofCitation 129 = .ok (.iadd, 1) := by decide +kernel
theorem dX9_ofCitation_130 : decode cX9_ofCitation 130 = .ok (.iconst 1, 1) := by decide +kernel
theorem dX9_ofCitation_131 : decode cX9_ofCitation 131 = .ok (.isub, 1) := by decide +kernel
theorem dX9_ofCitation_132 : decode cX9_ofCitation 132 = .ok (.ireturn, 1) := by decide +kernel
theorem dX9_citation_0 : decode cX9_citation 0 = .ok (.aload_n 0, 1) := by decide +kernel
theorem dX9_citation_1 : decode cX9_citation 1 = .ok (.iconst 0, 1) := by decide +kernel
theorem dX9_citation_2 : decode cX9_citation 2 = .ok (.putfield 25, 3) := by decide +kernel
theorem dX9_citation_5 : decode cX9_citation 5 = .ok (.iload_n 1, 1) := by decide +kernel
theorem dX9_citation_6 : decode cX9_citation 6 = .ok (.invokestatic 115, 3) := by decide +kernel
theorem dX9_citation_9 : decode cX9_citation 9 = .ok (.ifCond .ne 9, 3) := by decide +kernel
theorem dX9_citation_12 : decode cX9_citation 12 = .ok (.aload_n 0, 1) := by decide +kernel
theorem dX9_citation_13 : decode cX9_citation 13 = .ok (.iconst 1, 1) := by decide +kernel
theorem dX9_citation_14 : decode cX9_citation 14 = .ok (.invokevirtual 40, 3) := by decide +kernel
theorem dX9_citation_17 : decode cX9_citation 17 = .ok (.ireturn, 1) := by decide +kernel
theorem dX9_citation_18 : decode cX9_citation 18 = .ok (.iload_n 2, 1) := by decide +kernel
theorem dX9_citation_19 : decode cX9_citation 19 = .ok (.ifCond .lt 12, 3) := by decide +kernel
theorem dX9_citation_22 : decode cX9_citation 22 = .ok (.iload_n 3, 1) := by decide +kernel
theorem dX9_citation_23 : decode cX9_citation 23 = .ok (.iconst 0, 1) := by decide +kernel
theorem dX9_citation_24 : decode cX9_citation 24 = .ok (.iconst 4, 1) := by decide +kernel
theorem dX9_citation_25 : decode cX9_citation 25 = .ok (.invokestatic 29, 3) := by decide +kernel
theorem dX9_citation_28 : decode cX9_citation 28 = .ok (.ifCond .ne 9, 3) := by decide +kernel
theorem dX9_citation_31 : decode cX9_citation 31 = .ok (.aload_n 0, 1) := by decide +kernel
theorem dX9_citation_32 : decode cX9_citation 32 = .ok (.iconst 2, 1) := by decide +kernel
theorem dX9_citation_33 : decode cX9_citation 33 = .ok (.invokevirtual 40, 3) := by decide +kernel
theorem dX9_citation_36 : decode cX9_citation 36 = .ok (.ireturn, 1) := by decide +kernel
theorem dX9_citation_37 : decode cX9_citation 37 = .ok (.iload_n 2, 1) := by decide +kernel
theorem dX9_citation_38 : decode cX9_citation 38 = .ok (.aload_n 0, 1) := by decide +kernel
theorem dX9_citation_39 : decode cX9_citation 39 = .ok (.getfield 7, 3) := by decide +kernel
theorem dX9_citation_42 : decode cX9_citation 42 = .ok (.iload_n 1, 1) := by decide +kernel
theorem dX9_citation_43 : decode cX9_citation 43 = .ok (.invokestatic 59, 3) := by decide +kernel
theorem dX9_citation_46 : decode cX9_citation 46 = .ok (.if_icmp .ge 13, 3) := by decide +kernel
theorem dX9_citation_49 : decode cX9_citation 49 = .ok (.aload_n 0, 1) := by decide +kernel
theorem dX9_citation_50 : decode cX9_citation 50 = .ok (.iload_n 1, 1) := by decide +kernel
theorem dX9_citation_51 : decode cX9_citation 51 = .ok (.iload_n 2, 1) := by decide +kernel
theorem dX9_citation_52 : decode cX9_citation 52 = .ok (.iload_n 3, 1) := by decide +kernel
theorem dX9_citation_53 : decode cX9_citation 53 = .ok (.invokevirtual 156, 3) := by decide +kernel
theorem dX9_citation_56 : decode cX9_citation 56 = .ok (.goto 4, 3) := by decide +kernel
theorem dX9_citation_59 : decode cX9_citation 59 = .ok (.iconst (-1), 1) := by decide +kernel
theorem dX9_citation_60 : decode cX9_citation 60 = .ok (.ireturn, 1) := by decide +kernel
theorem dX9_ofParagraph_0 : decode cX9_ofParagraph 0 = .ok (.iload_n 2, 1) := by decide +kernel
theorem dX9_ofParagraph_1 : decode cX9_ofParagraph 1 = .ok (.ifCond .ne 14, 3) := by decide +kernel
theorem dX9_ofParagraph_4 : decode cX9_ofParagraph 4 = .ok (.aload_n 0, 1) := by decide +kernel
theorem dX9_ofParagraph_5 : decode cX9_ofParagraph 5 = .ok (.getfield 7, 3) := by decide +kernel
theorem dX9_ofParagraph_8 : decode cX9_ofParagraph 8 = .ok (.iload_n 1, 1) := by decide +kernel
theorem dX9_ofParagraph_9 : decode cX9_ofParagraph 9 = .ok (.invokestatic 59, 3) := by decide +kernel
theorem dX9_ofParagraph_12 : decode cX9_ofParagraph 12 = .ok (.goto 58, 3) := by decide +kernel
theorem dX9_ofParagraph_15 : decode cX9_ofParagraph 15 = .ok (.iload_n 2, 1) := by decide +kernel
theorem dX9_ofParagraph_16 : decode cX9_ofParagraph 16 = .ok (.iconst 1, 1) := by decide +kernel
theorem dX9_ofParagraph_17 : decode cX9_ofParagraph 17 = .ok (.if_icmp .ne 14, 3) := by decide +kernel
theorem dX9_ofParagraph_20 : decode cX9_ofParagraph 20 = .ok (.aload_n 0, 1) := by decide +kernel
theorem dX9_ofParagraph_21 : decode cX9_ofParagraph 21 = .ok (.getfield 7, 3) := by decide +kernel
theorem dX9_ofParagraph_24 : decode cX9_ofParagraph 24 = .ok (.iload_n 1, 1) := by decide +kernel
theorem dX9_ofParagraph_25 : decode cX9_ofParagraph 25 = .ok (.invokestatic 66, 3) := by decide +kernel
theorem dX9_ofParagraph_28 : decode cX9_ofParagraph 28 = .ok (.goto 42, 3) := by decide +kernel
theorem dX9_ofParagraph_31 : decode cX9_ofParagraph 31 = .ok (.iload_n 2, 1) := by decide +kernel
theorem dX9_ofParagraph_32 : decode cX9_ofParagraph 32 = .ok (.iconst 2, 1) := by decide +kernel
theorem dX9_ofParagraph_33 : decode cX9_ofParagraph 33 = .ok (.if_icmp .ne 22, 3) := by decide +kernel
theorem dX9_ofParagraph_36 : decode cX9_ofParagraph 36 = .ok (.aload_n 0, 1) := by decide +kernel
theorem dX9_ofParagraph_37 : decode cX9_ofParagraph 37 = .ok (.getfield 7, 3) := by decide +kernel
theorem dX9_ofParagraph_40 : decode cX9_ofParagraph 40 = .ok (.iload_n 1, 1) := by decide +kernel
theorem dX9_ofParagraph_41 : decode cX9_ofParagraph 41 = .ok (.invokestatic 69, 3) := by decide +kernel
theorem dX9_ofParagraph_44 : decode cX9_ofParagraph 44 = .ok (.ifCond .eq 7, 3) := by decide +kernel
theorem dX9_ofParagraph_47 : decode cX9_ofParagraph 47 = .ok (.iconst 1, 1) := by decide +kernel
theorem dX9_ofParagraph_48 : decode cX9_ofParagraph 48 = .ok (.goto 22, 3) := by decide +kernel
theorem dX9_ofParagraph_51 : decode cX9_ofParagraph 51 = .ok (.iconst 0, 1) := by decide +kernel
theorem dX9_ofParagraph_52 : decode cX9_ofParagraph 52 = .ok (.goto 18, 3) := by decide +kernel
theorem dX9_ofParagraph_55 : decode cX9_ofParagraph 55 = .ok (.aload_n 0, 1) := by decide +kernel
theorem dX9_ofParagraph_56 : decode cX9_ofParagraph 56 = .ok (.getfield 7, 3) := by decide +kernel
theorem dX9_ofParagraph_59 : decode cX9_ofParagraph 59 = .ok (.bipush 65, 2) := by decide +kernel
theorem dX9_ofParagraph_61 : decode cX9_ofParagraph 61 = .ok (.bipush 32, 2) := by decide +kernel
theorem dX9_ofParagraph_63 : decode cX9_ofParagraph 63 = .ok (.iload_n 1, 1) := by decide +kernel
theorem dX9_ofParagraph_64 : decode cX9_ofParagraph 64 = .ok (.imul, 1) := by decide +kernel
theorem dX9_ofParagraph_65 : decode cX9_ofParagraph 65 = .ok (.iadd, 1) := by decide +kernel
theorem dX9_ofParagraph_66 : decode cX9_ofParagraph 66 = .ok (.bipush 13, 2) := by decide +kernel
theorem dX9_ofParagraph_68 : decode cX9_ofParagraph 68 = .ok (.iadd, 1) := by decide +kernel
theorem dX9_ofParagraph_69 : decode cX9_ofParagraph 69 = .ok (.iaload, 1) := by decide +kernel
theorem dX9_ofParagraph_70 : decode cX9_ofParagraph 70 = .ok (.ireturn, 1) := by decide +kernel
theorem dX9_paragraph_0 : decode cX9_paragraph 0 = .ok (.aload_n 0, 1) := by decide +kernel
theorem dX9_paragraph_1 : decode cX9_paragraph 1 = .ok (.iconst 0, 1) := by decide +kernel
theorem dX9_paragraph_2 : decode cX9_paragraph 2 = .ok (.putfield 25, 3) := by decide +kernel
theorem dX9_paragraph_5 : decode cX9_paragraph 5 = .ok (.iload_n 1, 1) := by decide +kernel
theorem dX9_paragraph_6 : decode cX9_paragraph 6 = .ok (.invokestatic 115, 3) := by decide +kernel
theorem dX9_paragraph_9 : decode cX9_paragraph 9 = .ok (.ifCond .ne 9, 3) := by decide +kernel
theorem dX9_paragraph_12 : decode cX9_paragraph 12 = .ok (.aload_n 0, 1) := by decide +kernel
theorem dX9_paragraph_13 : decode cX9_paragraph 13 = .ok (.iconst 1, 1) := by decide +kernel
theorem dX9_paragraph_14 : decode cX9_paragraph 14 = .ok (.invokevirtual 40, 3) := by decide +kernel
theorem dX9_paragraph_17 : decode cX9_paragraph 17 = .ok (.ireturn, 1) := by decide +kernel
theorem dX9_paragraph_18 : decode cX9_paragraph 18 = .ok (.iload_n 2, 1) := by decide +kernel
theorem dX9_paragraph_19 : decode cX9_paragraph 19 = .ok (.iconst 0, 1) := by decide +kernel
theorem dX9_paragraph_20 : decode cX9_paragraph 20 = .ok (.iconst 3, 1) := by decide +kernel
theorem dX9_paragraph_21 : decode cX9_paragraph 21 = .ok (.invokestatic 29, 3) := by decide +kernel
theorem dX9_paragraph_24 : decode cX9_paragraph 24 = .ok (.ifCond .eq 12, 3) := by decide +kernel
theorem dX9_paragraph_27 : decode cX9_paragraph 27 = .ok (.aload_n 0, 1) := by decide +kernel
theorem dX9_paragraph_28 : decode cX9_paragraph 28 = .ok (.iload_n 1, 1) := by decide +kernel
theorem dX9_paragraph_29 : decode cX9_paragraph 29 = .ok (.iload_n 2, 1) := by decide +kernel
theorem dX9_paragraph_30 : decode cX9_paragraph 30 = .ok (.invokevirtual 160, 3) := by decide +kernel
theorem dX9_paragraph_33 : decode cX9_paragraph 33 = .ok (.goto 8, 3) := by decide +kernel
theorem dX9_paragraph_36 : decode cX9_paragraph 36 = .ok (.aload_n 0, 1) := by decide +kernel
theorem dX9_paragraph_37 : decode cX9_paragraph 37 = .ok (.iconst 2, 1) := by decide +kernel
theorem dX9_paragraph_38 : decode cX9_paragraph 38 = .ok (.invokevirtual 40, 3) := by decide +kernel
theorem dX9_paragraph_41 : decode cX9_paragraph 41 = .ok (.ireturn, 1) := by decide +kernel
theorem dX9_row_0 : decode cX9_row 0 = .ok (.iconst 0, 1) := by decide +kernel
theorem dX9_row_1 : decode cX9_row 1 = .ok (.istore_n 2, 1) := by decide +kernel
theorem dX9_row_2 : decode cX9_row 2 = .ok (.iconst 0, 1) := by decide +kernel
theorem dX9_row_3 : decode cX9_row 3 = .ok (.istore_n 3, 1) := by decide +kernel
theorem dX9_row_4 : decode cX9_row 4 = .ok (.iload_n 3, 1) := by decide +kernel
theorem dX9_row_5 : decode cX9_row 5 = .ok (.bipush 12, 2) := by decide +kernel
theorem dX9_row_7 : decode cX9_row 7 = .ok (.if_icmp .ge 68, 3) := by decide +kernel
theorem dX9_row_10 : decode cX9_row 10 = .ok (.iconst 0, 1) := by decide +kernel
theorem dX9_row_11 : decode cX9_row 11 = .ok (.istore 4, 2) := by decide +kernel
theorem dX9_row_13 : decode cX9_row 13 = .ok (.iload 4, 2) := by decide +kernel
theorem dX9_row_15 : decode cX9_row 15 = .ok (.aload_n 0, 1) := by decide +kernel
theorem dX9_row_16 : decode cX9_row 16 = .ok (.getfield 7, 3) := by decide +kernel
theorem dX9_row_19 : decode cX9_row 19 = .ok (.iload_n 3, 1) := by decide +kernel
theorem dX9_row_20 : decode cX9_row 20 = .ok (.invokestatic 59, 3) := by decide +kernel
theorem dX9_row_23 : decode cX9_row 23 = .ok (.if_icmp .ge 46, 3) := by decide +kernel
theorem dX9_row_26 : decode cX9_row 26 = .ok (.iload_n 2, 1) := by decide +kernel
theorem dX9_row_27 : decode cX9_row 27 = .ok (.aload_n 0, 1) := by decide +kernel
theorem dX9_row_28 : decode cX9_row 28 = .ok (.getfield 7, 3) := by decide +kernel
theorem dX9_row_31 : decode cX9_row 31 = .ok (.iload_n 3, 1) := by decide +kernel
theorem dX9_row_32 : decode cX9_row 32 = .ok (.iload 4, 2) := by decide +kernel
theorem dX9_row_34 : decode cX9_row 34 = .ok (.invokestatic 52, 3) := by decide +kernel
theorem dX9_row_37 : decode cX9_row 37 = .ok (.iload_n 1, 1) := by decide +kernel
theorem dX9_row_38 : decode cX9_row 38 = .ok (.if_icmp .ne 22, 3) := by decide +kernel
theorem dX9_row_41 : decode cX9_row 41 = .ok (.aload_n 0, 1) := by decide +kernel
theorem dX9_row_42 : decode cX9_row 42 = .ok (.getfield 7, 3) := by decide +kernel
theorem dX9_row_45 : decode cX9_row 45 = .ok (.iload_n 3, 1) := by decide +kernel
theorem dX9_row_46 : decode cX9_row 46 = .ok (.iload 4, 2) := by decide +kernel
theorem dX9_row_48 : decode cX9_row 48 = .ok (.invokestatic 62, 3) := by decide +kernel
theorem dX9_row_51 : decode cX9_row 51 = .ok (.ifCond .ne 9, 3) := by decide +kernel
theorem dX9_row_54 : decode cX9_row 54 = .ok (.iconst 1, 1) := by decide +kernel
theorem dX9_row_55 : decode cX9_row 55 = .ok (.iload_n 3, 1) := by decide +kernel
theorem dX9_row_56 : decode cX9_row 56 = .ok (.ishl, 1) := by decide +kernel
theorem dX9_row_57 : decode cX9_row 57 = .ok (.goto 4, 3) := by decide +kernel
theorem dX9_row_60 : decode cX9_row 60 = .ok (.iconst 0, 1) := by decide +kernel
theorem dX9_row_61 : decode cX9_row 61 = .ok (.ior, 1) := by decide +kernel
theorem dX9_row_62 : decode cX9_row 62 = .ok (.istore_n 2, 1) := by decide +kernel
theorem dX9_row_63 : decode cX9_row 63 = .ok (.iinc 4 1, 3) := by decide +kernel
theorem dX9_row_66 : decode cX9_row 66 = .ok (.goto (-53), 3) := by decide +kernel
theorem dX9_row_69 : decode cX9_row 69 = .ok (.iinc 3 1, 3) := by decide +kernel
theorem dX9_row_72 : decode cX9_row 72 = .ok (.goto (-68), 3) := by decide +kernel
theorem dX9_row_75 : decode cX9_row 75 = .ok (.iload_n 2, 1) := by decide +kernel
theorem dX9_row_76 : decode cX9_row 76 = .ok (.ireturn, 1) := by decide +kernel
theorem dX9_table_0 : decode cX9_table 0 = .ok (.aload_n 0, 1) := by decide +kernel
theorem dX9_table_1 : decode cX9_table 1 = .ok (.iconst 0, 1) := by decide +kernel
theorem dX9_table_2 : decode cX9_table 2 = .ok (.putfield 25, 3) := by decide +kernel
theorem dX9_table_5 : decode cX9_table 5 = .ok (.aload_n 0, 1) := by decide +kernel
theorem dX9_table_6 : decode cX9_table 6 = .ok (.iload_n 1, 1) := by decide +kernel
theorem dX9_table_7 : decode cX9_table 7 = .ok (.invokevirtual 98, 3) := by decide +kernel
theorem dX9_table_10 : decode cX9_table 10 = .ok (.ifCond .eq 11, 3) := by decide +kernel
theorem dX9_table_13 : decode cX9_table 13 = .ok (.aload_n 0, 1) := by decide +kernel
theorem dX9_table_14 : decode cX9_table 14 = .ok (.iload_n 1, 1) := by decide +kernel
theorem dX9_table_15 : decode cX9_table 15 = .ok (.invokevirtual 163, 3) := by decide +kernel
theorem dX9_table_18 : decode cX9_table 18 = .ok (.goto 8, 3) := by decide +kernel
theorem dX9_table_21 : decode cX9_table 21 = .ok (.aload_n 0, 1) := by decide +kernel
theorem dX9_table_22 : decode cX9_table 22 = .ok (.iconst 1, 1) := by decide +kernel
theorem dX9_table_23 : decode cX9_table 23 = .ok (.invokevirtual 40, 3) := by decide +kernel
theorem dX9_table_26 : decode cX9_table 26 = .ok (.ireturn, 1) := by decide +kernel
theorem dX9_uncited_0 : decode cX9_uncited 0 = .ok (.iconst 0, 1) := by decide +kernel
theorem dX9_uncited_1 : decode cX9_uncited 1 = .ok (.istore_n 1, 1) := by decide +kernel
theorem dX9_uncited_2 : decode cX9_uncited 2 = .ok (.iconst 0, 1) := by decide +kernel
theorem dX9_uncited_3 : decode cX9_uncited 3 = .ok (.istore_n 2, 1) := by decide +kernel
theorem dX9_uncited_4 : decode cX9_uncited 4 = .ok (.iload_n 2, 1) := by decide +kernel
theorem dX9_uncited_5 : decode cX9_uncited 5 = .ok (.aload_n 0, 1) := by decide +kernel
theorem dX9_uncited_6 : decode cX9_uncited 6 = .ok (.getfield 7, 3) := by decide +kernel
theorem dX9_uncited_9 : decode cX9_uncited 9 = .ok (.iconst 1, 1) := by decide +kernel
theorem dX9_uncited_10 : decode cX9_uncited 10 = .ok (.iaload, 1) := by decide +kernel
theorem dX9_uncited_11 : decode cX9_uncited 11 = .ok (.if_icmp .ge 29, 3) := by decide +kernel
theorem dX9_uncited_14 : decode cX9_uncited 14 = .ok (.iload_n 1, 1) := by decide +kernel
theorem dX9_uncited_15 : decode cX9_uncited 15 = .ok (.aload_n 0, 1) := by decide +kernel
theorem dX9_uncited_16 : decode cX9_uncited 16 = .ok (.getfield 7, 3) := by decide +kernel
theorem dX9_uncited_19 : decode cX9_uncited 19 = .ok (.iload_n 2, 1) := by decide +kernel
theorem dX9_uncited_20 : decode cX9_uncited 20 = .ok (.iconst 0, 1) := by decide +kernel
theorem dX9_uncited_21 : decode cX9_uncited 21 = .ok (.invokestatic 149, 3) := by decide +kernel
theorem dX9_uncited_24 : decode cX9_uncited 24 = .ok (.ifCond .ne 7, 3) := by decide +kernel
theorem dX9_uncited_27 : decode cX9_uncited 27 = .ok (.iconst 1, 1) := by decide +kernel
theorem dX9_uncited_28 : decode cX9_uncited 28 = .ok (.goto 4, 3) := by decide +kernel
theorem dX9_uncited_31 : decode cX9_uncited 31 = .ok (.iconst 0, 1) := by decide +kernel
theorem dX9_uncited_32 : decode cX9_uncited 32 = .ok (.iadd, 1) := by decide +kernel
theorem dX9_uncited_33 : decode cX9_uncited 33 = .ok (.istore_n 1, 1) := by decide +kernel
theorem dX9_uncited_34 : decode cX9_uncited 34 = .ok (.iinc 2 1, 3) := by decide +kernel
theorem dX9_uncited_37 : decode cX9_uncited 37 = .ok (.goto (-33), 3) := by decide +kernel
theorem dX9_uncited_40 : decode cX9_uncited 40 = .ok (.iload_n 1, 1) := by decide +kernel
theorem dX9_uncited_41 : decode cX9_uncited 41 = .ok (.ireturn, 1) := by decide +kernel
theorem dX9_allPages_0 : decode cX9_allPages 0 = .ok (.iconst 0, 1) := by decide +kernel
theorem dX9_allPages_1 : decode cX9_allPages 1 = .ok (.istore_n 1, 1) := by decide +kernel
theorem dX9_allPages_2 : decode cX9_allPages 2 = .ok (.iconst 0, 1) := by decide +kernel
theorem dX9_allPages_3 : decode cX9_allPages 3 = .ok (.istore_n 2, 1) := by decide +kernel
theorem dX9_allPages_4 : decode cX9_allPages 4 = .ok (.iload_n 2, 1) := by decide +kernel
theorem dX9_allPages_5 : decode cX9_allPages 5 = .ok (.aload_n 0, 1) := by decide +kernel
theorem dX9_allPages_6 : decode cX9_allPages 6 = .ok (.getfield 7, 3) := by decide +kernel
theorem dX9_allPages_9 : decode cX9_allPages 9 = .ok (.iconst 1, 1) := by decide +kernel
theorem dX9_allPages_10 : decode cX9_allPages 10 = .ok (.iaload, 1) := by decide +kernel
theorem dX9_allPages_11 : decode cX9_allPages 11 = .ok (.if_icmp .ge 20, 3) := by decide +kernel
theorem dX9_allPages_14 : decode cX9_allPages 14 = .ok (.iload_n 1, 1) := by decide +kernel
theorem dX9_allPages_15 : decode cX9_allPages 15 = .ok (.aload_n 0, 1) := by decide +kernel
theorem dX9_allPages_16 : decode cX9_allPages 16 = .ok (.getfield 7, 3) := by decide +kernel
theorem dX9_allPages_19 : decode cX9_allPages 19 = .ok (.iload_n 2, 1) := by decide +kernel
theorem dX9_allPages_20 : decode cX9_allPages 20 = .ok (.invokestatic 56, 3) := by decide +kernel
theorem dX9_allPages_23 : decode cX9_allPages 23 = .ok (.iadd, 1) := by decide +kernel
theorem dX9_allPages_24 : decode cX9_allPages 24 = .ok (.istore_n 1, 1) := by decide +kernel
theorem dX9_allPages_25 : decode cX9_allPages 25 = .ok (.iinc 2 1, 3) := by decide +kernel
theorem dX9_allPages_28 : decode cX9_allPages 28 = .ok (.goto (-24), 3) := by decide +kernel
theorem dX9_allPages_31 : decode cX9_allPages 31 = .ok (.iload_n 1, 1) := by decide +kernel
theorem dX9_allPages_32 : decode cX9_allPages 32 = .ok (.ireturn, 1) := by decide +kernel
theorem dX9_allCites_0 : decode cX9_allCites 0 = .ok (.iconst 0, 1) := by decide +kernel
theorem dX9_allCites_1 : decode cX9_allCites 1 = .ok (.istore_n 1, 1) := by decide +kernel
theorem dX9_allCites_2 : decode cX9_allCites 2 = .ok (.iconst 0, 1) := by decide +kernel
theorem dX9_allCites_3 : decode cX9_allCites 3 = .ok (.istore_n 2, 1) := by decide +kernel
theorem dX9_allCites_4 : decode cX9_allCites 4 = .ok (.iload_n 2, 1) := by decide +kernel
theorem dX9_allCites_5 : decode cX9_allCites 5 = .ok (.bipush 12, 2) := by decide +kernel
theorem dX9_allCites_7 : decode cX9_allCites 7 = .ok (.if_icmp .ge 20, 3) := by decide +kernel
theorem dX9_allCites_10 : decode cX9_allCites 10 = .ok (.iload_n 1, 1) := by decide +kernel
theorem dX9_allCites_11 : decode cX9_allCites 11 = .ok (.aload_n 0, 1) := by decide +kernel
theorem dX9_allCites_12 : decode cX9_allCites 12 = .ok (.getfield 7, 3) := by decide +kernel
theorem dX9_allCites_15 : decode cX9_allCites 15 = .ok (.iload_n 2, 1) := by decide +kernel
theorem dX9_allCites_16 : decode cX9_allCites 16 = .ok (.invokestatic 59, 3) := by decide +kernel
theorem dX9_allCites_19 : decode cX9_allCites 19 = .ok (.iadd, 1) := by decide +kernel
theorem dX9_allCites_20 : decode cX9_allCites 20 = .ok (.istore_n 1, 1) := by decide +kernel
theorem dX9_allCites_21 : decode cX9_allCites 21 = .ok (.iinc 2 1, 3) := by decide +kernel
theorem dX9_allCites_24 : decode cX9_allCites 24 = .ok (.goto (-20), 3) := by decide +kernel
theorem dX9_allCites_27 : decode cX9_allCites 27 = .ok (.iload_n 1, 1) := by decide +kernel
theorem dX9_allCites_28 : decode cX9_allCites 28 = .ok (.ireturn, 1) := by decide +kernel
theorem dX9_counted_0 : decode cX9_counted 0 = .ok (.iload_n 1, 1) := by decide +kernel
theorem dX9_counted_1 : decode cX9_counted 1 = .ok (.tableswitch 100 0 7 #[47, 54, 59, 67, 72, 80, 88, 93], 47) := by decide +kernel
theorem dX9_counted_48 : decode cX9_counted 48 = .ok (.aload_n 0, 1) := by decide +kernel
theorem dX9_counted_49 : decode cX9_counted 49 = .ok (.getfield 7, 3) := by decide +kernel
theorem dX9_counted_52 : decode cX9_counted 52 = .ok (.iconst 1, 1) := by decide +kernel
theorem dX9_counted_53 : decode cX9_counted 53 = .ok (.iaload, 1) := by decide +kernel
theorem dX9_counted_54 : decode cX9_counted 54 = .ok (.ireturn, 1) := by decide +kernel
theorem dX9_counted_55 : decode cX9_counted 55 = .ok (.aload_n 0, 1) := by decide +kernel
theorem dX9_counted_56 : decode cX9_counted 56 = .ok (.invokevirtual 166, 3) := by decide +kernel
theorem dX9_counted_59 : decode cX9_counted 59 = .ok (.ireturn, 1) := by decide +kernel
theorem dX9_counted_60 : decode cX9_counted 60 = .ok (.aload_n 0, 1) := by decide +kernel
theorem dX9_counted_61 : decode cX9_counted 61 = .ok (.getfield 7, 3) := by decide +kernel
theorem dX9_counted_64 : decode cX9_counted 64 = .ok (.invokestatic 170, 3) := by decide +kernel
theorem dX9_counted_67 : decode cX9_counted 67 = .ok (.ireturn, 1) := by decide +kernel
theorem dX9_counted_68 : decode cX9_counted 68 = .ok (.aload_n 0, 1) := by decide +kernel
theorem dX9_counted_69 : decode cX9_counted 69 = .ok (.invokevirtual 173, 3) := by decide +kernel
theorem dX9_counted_72 : decode cX9_counted 72 = .ok (.ireturn, 1) := by decide +kernel
theorem dX9_counted_73 : decode cX9_counted 73 = .ok (.aload_n 0, 1) := by decide +kernel
theorem dX9_counted_74 : decode cX9_counted 74 = .ok (.getfield 7, 3) := by decide +kernel
theorem dX9_counted_77 : decode cX9_counted 77 = .ok (.invokestatic 104, 3) := by decide +kernel
theorem dX9_counted_80 : decode cX9_counted 80 = .ok (.ireturn, 1) := by decide +kernel
theorem dX9_counted_81 : decode cX9_counted 81 = .ok (.aload_n 0, 1) := by decide +kernel
theorem dX9_counted_82 : decode cX9_counted 82 = .ok (.getfield 7, 3) := by decide +kernel
theorem dX9_counted_85 : decode cX9_counted 85 = .ok (.invokestatic 176, 3) := by decide +kernel
theorem dX9_counted_88 : decode cX9_counted 88 = .ok (.ireturn, 1) := by decide +kernel
theorem dX9_counted_89 : decode cX9_counted 89 = .ok (.aload_n 0, 1) := by decide +kernel
theorem dX9_counted_90 : decode cX9_counted 90 = .ok (.invokevirtual 179, 3) := by decide +kernel
theorem dX9_counted_93 : decode cX9_counted 93 = .ok (.ireturn, 1) := by decide +kernel
theorem dX9_counted_94 : decode cX9_counted 94 = .ok (.aload_n 0, 1) := by decide +kernel
theorem dX9_counted_95 : decode cX9_counted 95 = .ok (.getfield 7, 3) := by decide +kernel
theorem dX9_counted_98 : decode cX9_counted 98 = .ok (.iconst 0, 1) := by decide +kernel
theorem dX9_counted_99 : decode cX9_counted 99 = .ok (.iaload, 1) := by decide +kernel
theorem dX9_counted_100 : decode cX9_counted 100 = .ok (.ireturn, 1) := by decide +kernel
theorem dX9_counted_101 : decode cX9_counted 101 = .ok (.aload_n 0, 1) := by decide +kernel
theorem dX9_counted_102 : decode cX9_counted 102 = .ok (.getfield 33, 3) := by decide +kernel
theorem dX9_counted_105 : decode cX9_counted 105 = .ok (.ireturn, 1) := by decide +kernel
theorem dX9_count_0 : decode cX9_count 0 = .ok (.aload_n 0, 1) := by decide +kernel
theorem dX9_count_1 : decode cX9_count 1 = .ok (.iconst 0, 1) := by decide +kernel
theorem dX9_count_2 : decode cX9_count 2 = .ok (.putfield 25, 3) := by decide +kernel
theorem dX9_count_5 : decode cX9_count 5 = .ok (.iload_n 1, 1) := by decide +kernel
theorem dX9_count_6 : decode cX9_count 6 = .ok (.iconst 0, 1) := by decide +kernel
theorem dX9_count_7 : decode cX9_count 7 = .ok (.bipush 8, 2) := by decide +kernel
theorem dX9_count_9 : decode cX9_count 9 = .ok (.invokestatic 29, 3) := by decide +kernel
theorem dX9_count_12 : decode cX9_count 12 = .ok (.ifCond .eq 11, 3) := by decide +kernel
theorem dX9_count_15 : decode cX9_count 15 = .ok (.aload_n 0, 1) := by decide +kernel
theorem dX9_count_16 : decode cX9_count 16 = .ok (.iload_n 1, 1) := by decide +kernel
theorem dX9_count_17 : decode cX9_count 17 = .ok (.invokevirtual 182, 3) := by decide +kernel
theorem dX9_count_20 : decode cX9_count 20 = .ok (.goto 8, 3) := by decide +kernel
theorem dX9_count_23 : decode cX9_count 23 = .ok (.aload_n 0, 1) := by decide +kernel
theorem dX9_count_24 : decode cX9_count 24 = .ok (.iconst 1, 1) := by decide +kernel
theorem dX9_count_25 : decode cX9_count 25 = .ok (.invokevirtual 40, 3) := by decide +kernel
theorem dX9_count_28 : decode cX9_count 28 = .ok (.ireturn, 1) := by decide +kernel
theorem dX9_byInserting_0 : decode cX9_byInserting 0 = .ok (.aload_n 0, 1) := by decide +kernel
theorem dX9_byInserting_1 : decode cX9_byInserting 1 = .ok (.getfield 7, 3) := by decide +kernel
theorem dX9_byInserting_4 : decode cX9_byInserting 4 = .ok (.iconst 0, 1) := by decide +kernel
theorem dX9_byInserting_5 : decode cX9_byInserting 5 = .ok (.aload_n 0, 1) := by decide +kernel
theorem dX9_byInserting_6 : decode cX9_byInserting 6 = .ok (.getfield 13, 3) := by decide +kernel
theorem dX9_byInserting_9 : decode cX9_byInserting 9 = .ok (.iconst 0, 1) := by decide +kernel
theorem dX9_byInserting_10 : decode cX9_byInserting 10 = .ok (.invokestatic 36, 3) := by decide +kernel
theorem dX9_byInserting_13 : decode cX9_byInserting 13 = .ok (.aload_n 0, 1) := by decide +kernel
theorem dX9_byInserting_14 : decode cX9_byInserting 14 = .ok (.getfield 13, 3) := by decide +kernel
theorem dX9_byInserting_17 : decode cX9_byInserting 17 = .ok (.iload_n 1, 1) := by decide +kernel
theorem dX9_byInserting_18 : decode cX9_byInserting 18 = .ok (.iload_n 2, 1) := by decide +kernel
theorem dX9_byInserting_19 : decode cX9_byInserting 19 = .ok (.invokestatic 94, 3) := by decide +kernel
theorem dX9_byInserting_22 : decode cX9_byInserting 22 = .ok (.iload_n 3, 1) := by decide +kernel
theorem dX9_byInserting_23 : decode cX9_byInserting 23 = .ok (.ifCond .ne 13, 3) := by decide +kernel
theorem dX9_byInserting_26 : decode cX9_byInserting 26 = .ok (.aload_n 0, 1) := by decide +kernel
theorem dX9_byInserting_27 : decode cX9_byInserting 27 = .ok (.getfield 13, 3) := by decide +kernel
theorem dX9_byInserting_30 : decode cX9_byInserting 30 = .ok (.invokestatic 176, 3) := by decide +kernel
theorem dX9_byInserting_33 : decode cX9_byInserting 33 = .ok (.goto 10, 3) := by decide +kernel
theorem dX9_byInserting_36 : decode cX9_byInserting 36 = .ok (.aload_n 0, 1) := by decide +kernel
theorem dX9_byInserting_37 : decode cX9_byInserting 37 = .ok (.getfield 13, 3) := by decide +kernel
theorem dX9_byInserting_40 : decode cX9_byInserting 40 = .ok (.invokestatic 170, 3) := by decide +kernel
theorem dX9_byInserting_43 : decode cX9_byInserting 43 = .ok (.ireturn, 1) := by decide +kernel
theorem dX9_ifInserted_0 : decode cX9_ifInserted 0 = .ok (.aload_n 0, 1) := by decide +kernel
theorem dX9_ifInserted_1 : decode cX9_ifInserted 1 = .ok (.iconst 0, 1) := by decide +kernel
theorem dX9_ifInserted_2 : decode cX9_ifInserted 2 = .ok (.putfield 25, 3) := by decide +kernel
theorem dX9_ifInserted_5 : decode cX9_ifInserted 5 = .ok (.iload_n 1, 1) := by decide +kernel
theorem dX9_ifInserted_6 : decode cX9_ifInserted 6 = .ok (.iconst 0, 1) := by decide +kernel
theorem dX9_ifInserted_7 : decode cX9_ifInserted 7 = .ok (.aload_n 0, 1) := by decide +kernel
theorem dX9_ifInserted_8 : decode cX9_ifInserted 8 = .ok (.getfield 7, 3) := by decide +kernel
theorem dX9_ifInserted_11 : decode cX9_ifInserted 11 = .ok (.iconst 1, 1) := by decide +kernel
theorem dX9_ifInserted_12 : decode cX9_ifInserted 12 = .ok (.iaload, 1) := by decide +kernel
theorem dX9_ifInserted_13 : decode cX9_ifInserted 13 = .ok (.invokestatic 29, 3) := by decide +kernel
theorem dX9_ifInserted_16 : decode cX9_ifInserted 16 = .ok (.ifCond .ne 9, 3) := by decide +kernel
theorem dX9_ifInserted_19 : decode cX9_ifInserted 19 = .ok (.aload_n 0, 1) := by decide +kernel
theorem dX9_ifInserted_20 : decode cX9_ifInserted 20 = .ok (.iconst 1, 1) := by decide +kernel
theorem dX9_ifInserted_21 : decode cX9_ifInserted 21 = .ok (.invokevirtual 40, 3) := by decide +kernel
theorem dX9_ifInserted_24 : decode cX9_ifInserted 24 = .ok (.ireturn, 1) := by decide +kernel
theorem dX9_ifInserted_25 : decode cX9_ifInserted 25 = .ok (.iload_n 2, 1) := by decide +kernel
theorem dX9_ifInserted_26 : decode cX9_ifInserted 26 = .ok (.invokestatic 87, 3) := by decide +kernel
theorem dX9_ifInserted_29 : decode cX9_ifInserted 29 = .ok (.ifCond .eq 22, 3) := by decide +kernel
theorem dX9_ifInserted_32 : decode cX9_ifInserted 32 = .ok (.iload_n 3, 1) := by decide +kernel
theorem dX9_ifInserted_33 : decode cX9_ifInserted 33 = .ok (.iconst 0, 1) := by decide +kernel
theorem dX9_ifInserted_34 : decode cX9_ifInserted 34 = .ok (.iconst 1, 1) := by decide +kernel
theorem dX9_ifInserted_35 : decode cX9_ifInserted 35 = .ok (.invokestatic 29, 3) := by decide +kernel
theorem dX9_ifInserted_38 : decode cX9_ifInserted 38 = .ok (.ifCond .eq 13, 3) := by decide +kernel
theorem dX9_ifInserted_41 : decode cX9_ifInserted 41 = .ok (.aload_n 0, 1) := by decide +kernel
theorem dX9_ifInserted_42 : decode cX9_ifInserted 42 = .ok (.iload_n 1, 1) := by decide +kernel
theorem dX9_ifInserted_43 : decode cX9_ifInserted 43 = .ok (.iload_n 2, 1) := by decide +kernel
theorem dX9_ifInserted_44 : decode cX9_ifInserted 44 = .ok (.iload_n 3, 1) := by decide +kernel
theorem dX9_ifInserted_45 : decode cX9_ifInserted 45 = .ok (.invokevirtual 185, 3) := by decide +kernel
theorem dX9_ifInserted_48 : decode cX9_ifInserted 48 = .ok (.goto 8, 3) := by decide +kernel
theorem dX9_ifInserted_51 : decode cX9_ifInserted 51 = .ok (.aload_n 0, 1) := by decide +kernel
theorem dX9_ifInserted_52 : decode cX9_ifInserted 52 = .ok (.iconst 2, 1) := by decide +kernel
theorem dX9_ifInserted_53 : decode cX9_ifInserted 53 = .ok (.invokevirtual 40, 3) := by decide +kernel
theorem dX9_ifInserted_56 : decode cX9_ifInserted 56 = .ok (.ireturn, 1) := by decide +kernel
theorem dX9_byDropping_0 : decode cX9_byDropping 0 = .ok (.aload_n 0, 1) := by decide +kernel
theorem dX9_byDropping_1 : decode cX9_byDropping 1 = .ok (.getfield 7, 3) := by decide +kernel
theorem dX9_byDropping_4 : decode cX9_byDropping 4 = .ok (.iconst 0, 1) := by decide +kernel
theorem dX9_byDropping_5 : decode cX9_byDropping 5 = .ok (.aload_n 0, 1) := by decide +kernel
theorem dX9_byDropping_6 : decode cX9_byDropping 6 = .ok (.getfield 13, 3) := by decide +kernel
theorem dX9_byDropping_9 : decode cX9_byDropping 9 = .ok (.iconst 0, 1) := by decide +kernel
theorem dX9_byDropping_10 : decode cX9_byDropping 10 = .ok (.invokestatic 36, 3) := by decide +kernel
theorem dX9_byDropping_13 : decode cX9_byDropping 13 = .ok (.aload_n 0, 1) := by decide +kernel
theorem dX9_byDropping_14 : decode cX9_byDropping 14 = .ok (.getfield 13, 3) := by decide +kernel
theorem dX9_byDropping_17 : decode cX9_byDropping 17 = .ok (.iload_n 1, 1) := by decide +kernel
theorem dX9_byDropping_18 : decode cX9_byDropping 18 = .ok (.invokestatic 79, 3) := by decide +kernel
theorem dX9_byDropping_21 : decode cX9_byDropping 21 = .ok (.iload_n 2, 1) := by decide +kernel
theorem dX9_byDropping_22 : decode cX9_byDropping 22 = .ok (.ifCond .ne 21, 3) := by decide +kernel
theorem dX9_byDropping_25 : decode cX9_byDropping 25 = .ok (.aload_n 0, 1) := by decide +kernel
theorem dX9_byDropping_26 : decode cX9_byDropping 26 = .ok (.getfield 13, 3) := by decide +kernel
theorem dX9_byDropping_29 : decode cX9_byDropping 29 = .ok (.invokestatic 104, 3) := by decide +kernel
theorem dX9_byDropping_32 : decode cX9_byDropping 32 = .ok (.aload_n 0, 1) := by decide +kernel
theorem dX9_byDropping_33 : decode cX9_byDropping 33 = .ok (.getfield 7, 3) := by decide +kernel
theorem dX9_byDropping_36 : decode cX9_byDropping 36 = .ok (.invokestatic 104, 3) := by decide +kernel
theorem dX9_byDropping_39 : decode cX9_byDropping 39 = .ok (.isub, 1) := by decide +kernel
theorem dX9_byDropping_40 : decode cX9_byDropping 40 = .ok (.goto 10, 3) := by decide +kernel
theorem dX9_byDropping_43 : decode cX9_byDropping 43 = .ok (.aload_n 0, 1) := by decide +kernel
theorem dX9_byDropping_44 : decode cX9_byDropping 44 = .ok (.getfield 13, 3) := by decide +kernel
theorem dX9_byDropping_47 : decode cX9_byDropping 47 = .ok (.invokestatic 176, 3) := by decide +kernel
theorem dX9_byDropping_50 : decode cX9_byDropping 50 = .ok (.ireturn, 1) := by decide +kernel
theorem dX9_ifDropped_0 : decode cX9_ifDropped 0 = .ok (.aload_n 0, 1) := by decide +kernel
theorem dX9_ifDropped_1 : decode cX9_ifDropped 1 = .ok (.iconst 0, 1) := by decide +kernel
theorem dX9_ifDropped_2 : decode cX9_ifDropped 2 = .ok (.putfield 25, 3) := by decide +kernel
theorem dX9_ifDropped_5 : decode cX9_ifDropped 5 = .ok (.aload_n 0, 1) := by decide +kernel
theorem dX9_ifDropped_6 : decode cX9_ifDropped 6 = .ok (.iload_n 1, 1) := by decide +kernel
theorem dX9_ifDropped_7 : decode cX9_ifDropped 7 = .ok (.invokevirtual 98, 3) := by decide +kernel
theorem dX9_ifDropped_10 : decode cX9_ifDropped 10 = .ok (.ifCond .ne 9, 3) := by decide +kernel
theorem dX9_ifDropped_13 : decode cX9_ifDropped 13 = .ok (.aload_n 0, 1) := by decide +kernel
theorem dX9_ifDropped_14 : decode cX9_ifDropped 14 = .ok (.iconst 1, 1) := by decide +kernel
theorem dX9_ifDropped_15 : decode cX9_ifDropped 15 = .ok (.invokevirtual 40, 3) := by decide +kernel
theorem dX9_ifDropped_18 : decode cX9_ifDropped 18 = .ok (.ireturn, 1) := by decide +kernel
theorem dX9_ifDropped_19 : decode cX9_ifDropped 19 = .ok (.iload_n 2, 1) := by decide +kernel
theorem dX9_ifDropped_20 : decode cX9_ifDropped 20 = .ok (.iconst 0, 1) := by decide +kernel
theorem dX9_ifDropped_21 : decode cX9_ifDropped 21 = .ok (.iconst 1, 1) := by decide +kernel
theorem dX9_ifDropped_22 : decode cX9_ifDropped 22 = .ok (.invokestatic 29, 3) := by decide +kernel
theorem dX9_ifDropped_25 : decode cX9_ifDropped 25 = .ok (.ifCond .eq 12, 3) := by decide +kernel
theorem dX9_ifDropped_28 : decode cX9_ifDropped 28 = .ok (.aload_n 0, 1) := by decide +kernel
theorem dX9_ifDropped_29 : decode cX9_ifDropped 29 = .ok (.iload_n 1, 1) := by decide +kernel
theorem dX9_ifDropped_30 : decode cX9_ifDropped 30 = .ok (.iload_n 2, 1) := by decide +kernel
theorem dX9_ifDropped_31 : decode cX9_ifDropped 31 = .ok (.invokevirtual 188, 3) := by decide +kernel
theorem dX9_ifDropped_34 : decode cX9_ifDropped 34 = .ok (.goto 8, 3) := by decide +kernel
theorem dX9_ifDropped_37 : decode cX9_ifDropped 37 = .ok (.aload_n 0, 1) := by decide +kernel
theorem dX9_ifDropped_38 : decode cX9_ifDropped 38 = .ok (.iconst 2, 1) := by decide +kernel
theorem dX9_ifDropped_39 : decode cX9_ifDropped 39 = .ok (.invokevirtual 40, 3) := by decide +kernel
theorem dX9_ifDropped_42 : decode cX9_ifDropped 42 = .ok (.ireturn, 1) := by decide +kernel
theorem dX9_best_0 : decode cX9_best 0 = .ok (.iconst (-1), 1) := by decide +kernel
theorem dX9_best_1 : decode cX9_best 1 = .ok (.istore_n 2, 1) := by decide +kernel
theorem dX9_best_2 : decode cX9_best 2 = .ok (.iconst 0, 1) := by decide +kernel
theorem dX9_best_3 : decode cX9_best 3 = .ok (.istore_n 3, 1) := by decide +kernel
theorem dX9_best_4 : decode cX9_best 4 = .ok (.iconst 0, 1) := by decide +kernel
theorem dX9_best_5 : decode cX9_best 5 = .ok (.istore 4, 2) := by decide +kernel
theorem dX9_best_7 : decode cX9_best 7 = .ok (.iload 4, 2) := by decide +kernel
theorem dX9_best_9 : decode cX9_best 9 = .ok (.aload_n 0, 1) := by decide +kernel
theorem dX9_best_10 : decode cX9_best 10 = .ok (.getfield 7, 3) := by decide +kernel
theorem dX9_best_13 : decode cX9_best 13 = .ok (.iconst 1, 1) := by decide +kernel
theorem dX9_best_14 : decode cX9_best 14 = .ok (.iaload, 1) := by decide +kernel
theorem dX9_best_15 : decode cX9_best 15 = .ok (.if_icmp .ge 84, 3) := by decide +kernel
theorem dX9_best_18 : decode cX9_best 18 = .ok (.aload_n 0, 1) := by decide +kernel
theorem dX9_best_19 : decode cX9_best 19 = .ok (.getfield 7, 3) := by decide +kernel
theorem dX9_best_22 : decode cX9_best 22 = .ok (.iconst 0, 1) := by decide +kernel
theorem dX9_best_23 : decode cX9_best 23 = .ok (.aload_n 0, 1) := by decide +kernel
theorem dX9_best_24 : decode cX9_best 24 = .ok (.getfield 13, 3) := by decide +kernel
theorem dX9_best_27 : decode cX9_best 27 = .ok (.iconst 0, 1) := by decide +kernel
theorem dX9_best_28 : decode cX9_best 28 = .ok (.invokestatic 36, 3) := by decide +kernel
theorem dX9_best_31 : decode cX9_best 31 = .ok (.aload_n 0, 1) := by decide +kernel
theorem dX9_best_32 : decode cX9_best 32 = .ok (.getfield 13, 3) := by decide +kernel
theorem dX9_best_35 : decode cX9_best 35 = .ok (.iload_n 1, 1) := by decide +kernel
theorem dX9_best_36 : decode cX9_best 36 = .ok (.iload 4, 2) := by decide +kernel
theorem dX9_best_38 : decode cX9_best 38 = .ok (.invokestatic 101, 3) := by decide +kernel
theorem dX9_best_41 : decode cX9_best 41 = .ok (.pop, 1) := by decide +kernel
theorem dX9_best_42 : decode cX9_best 42 = .ok (.bipush 100, 2) := by decide +kernel
theorem dX9_best_44 : decode cX9_best 44 = .ok (.aload_n 0, 1) := by decide +kernel
theorem dX9_best_45 : decode cX9_best 45 = .ok (.getfield 13, 3) := by decide +kernel
theorem dX9_best_48 : decode cX9_best 48 = .ok (.invokestatic 176, 3) := by decide +kernel
theorem dX9_best_51 : decode cX9_best 51 = .ok (.imul, 1) := by decide +kernel
theorem dX9_best_52 : decode cX9_best 52 = .ok (.aload_n 0, 1) := by decide +kernel
theorem dX9_best_53 : decode cX9_best 53 = .ok (.getfield 13, 3) := by decide +kernel
theorem dX9_best_56 : decode cX9_best 56 = .ok (.invokestatic 170, 3) := by decide +kernel
theorem dX9_best_59 : decode cX9_best 59 = .ok (.iadd, 1) := by decide +kernel
theorem dX9_best_60 : decode cX9_best 60 = .ok (.istore 5, 2) := by decide +kernel
theorem dX9_best_62 : decode cX9_best 62 = .ok (.iload_n 2, 1) := by decide +kernel
theorem dX9_best_63 : decode cX9_best 63 = .ok (.iconst (-1), 1) := by decide +kernel
theorem dX9_best_64 : decode cX9_best 64 = .ok (.if_icmp .eq 9, 3) := by decide +kernel
theorem dX9_best_67 : decode cX9_best 67 = .ok (.iload 5, 2) := by decide +kernel
theorem dX9_best_69 : decode cX9_best 69 = .ok (.iload_n 3, 1) := by decide +kernel
theorem dX9_best_70 : decode cX9_best 70 = .ok (.if_icmp .ge 8, 3) := by decide +kernel
theorem dX9_best_73 : decode cX9_best 73 = .ok (.iload 4, 2) := by decide +kernel
theorem dX9_best_75 : decode cX9_best 75 = .ok (.goto 4, 3) := by decide +kernel
theorem dX9_best_78 : decode cX9_best 78 = .ok (.iload_n 2, 1) := by decide +kernel
theorem dX9_best_79 : decode cX9_best 79 = .ok (.istore_n 2, 1) := by decide +kernel
theorem dX9_best_80 : decode cX9_best 80 = .ok (.iload_n 2, 1) := by decide +kernel
theorem dX9_best_81 : decode cX9_best 81 = .ok (.iload 4, 2) := by decide +kernel
theorem dX9_best_83 : decode cX9_best 83 = .ok (.if_icmp .ne 8, 3) := by decide +kernel
theorem dX9_best_86 : decode cX9_best 86 = .ok (.iload 5, 2) := by decide +kernel
theorem dX9_best_88 : decode cX9_best 88 = .ok (.goto 4, 3) := by decide +kernel
theorem dX9_best_91 : decode cX9_best 91 = .ok (.iload_n 3, 1) := by decide +kernel
theorem dX9_best_92 : decode cX9_best 92 = .ok (.istore_n 3, 1) := by decide +kernel
theorem dX9_best_93 : decode cX9_best 93 = .ok (.iinc 4 1, 3) := by decide +kernel
theorem dX9_best_96 : decode cX9_best 96 = .ok (.goto (-89), 3) := by decide +kernel
theorem dX9_best_99 : decode cX9_best 99 = .ok (.iload_n 2, 1) := by decide +kernel
theorem dX9_best_100 : decode cX9_best 100 = .ok (.ireturn, 1) := by decide +kernel
theorem dX9_bestMove_0 : decode cX9_bestMove 0 = .ok (.aload_n 0, 1) := by decide +kernel
theorem dX9_bestMove_1 : decode cX9_bestMove 1 = .ok (.iconst 0, 1) := by decide +kernel
theorem dX9_bestMove_2 : decode cX9_bestMove 2 = .ok (.putfield 25, 3) := by decide +kernel
theorem dX9_bestMove_5 : decode cX9_bestMove 5 = .ok (.aload_n 0, 1) := by decide +kernel
theorem dX9_bestMove_6 : decode cX9_bestMove 6 = .ok (.iload_n 1, 1) := by decide +kernel
theorem dX9_bestMove_7 : decode cX9_bestMove 7 = .ok (.invokevirtual 98, 3) := by decide +kernel
theorem dX9_bestMove_10 : decode cX9_bestMove 10 = .ok (.ifCond .eq 11, 3) := by decide +kernel
theorem dX9_bestMove_13 : decode cX9_bestMove 13 = .ok (.aload_n 0, 1) := by decide +kernel
theorem dX9_bestMove_14 : decode cX9_bestMove 14 = .ok (.iload_n 1, 1) := by decide +kernel
theorem dX9_bestMove_15 : decode cX9_bestMove 15 = .ok (.invokevirtual 191, 3) := by decide +kernel
theorem dX9_bestMove_18 : decode cX9_bestMove 18 = .ok (.goto 8, 3) := by decide +kernel
theorem dX9_bestMove_21 : decode cX9_bestMove 21 = .ok (.aload_n 0, 1) := by decide +kernel
theorem dX9_bestMove_22 : decode cX9_bestMove 22 = .ok (.iconst 1, 1) := by decide +kernel
theorem dX9_bestMove_23 : decode cX9_bestMove 23 = .ok (.invokevirtual 40, 3) := by decide +kernel
theorem dX9_bestMove_26 : decode cX9_bestMove 26 = .ok (.ireturn, 1) := by decide +kernel
theorem dX9_least_0 : decode cX9_least 0 = .ok (.aload_n 0, 1) := by decide +kernel
theorem dX9_least_1 : decode cX9_least 1 = .ok (.getfield 7, 3) := by decide +kernel
theorem dX9_least_4 : decode cX9_least 4 = .ok (.iconst 0, 1) := by decide +kernel
theorem dX9_least_5 : decode cX9_least 5 = .ok (.aload_n 0, 1) := by decide +kernel
theorem dX9_least_6 : decode cX9_least 6 = .ok (.getfield 13, 3) := by decide +kernel
theorem dX9_least_9 : decode cX9_least 9 = .ok (.iconst 0, 1) := by decide +kernel
theorem dX9_least_10 : decode cX9_least 10 = .ok (.invokestatic 36, 3) := by decide +kernel
theorem dX9_least_13 : decode cX9_least 13 = .ok (.bipush 10, 2) := by decide +kernel
theorem dX9_least_15 : decode cX9_least 15 = .ok (.istore_n 2, 1) := by decide +kernel
theorem dX9_least_16 : decode cX9_least 16 = .ok (.iload_n 2, 1) := by decide +kernel
theorem dX9_least_17 : decode cX9_least 17 = .ok (.sipush 200, 3) := by decide +kernel
theorem dX9_least_20 : decode cX9_least 20 = .ok (.if_icmp .gt 29, 3) := by decide +kernel
theorem dX9_least_23 : decode cX9_least 23 = .ok (.aload_n 0, 1) := by decide +kernel
theorem dX9_least_24 : decode cX9_least 24 = .ok (.getfield 13, 3) := by decide +kernel
theorem dX9_least_27 : decode cX9_least 27 = .ok (.iconst 0, 1) := by decide +kernel
theorem dX9_least_28 : decode cX9_least 28 = .ok (.iload_n 2, 1) := by decide +kernel
theorem dX9_least_29 : decode cX9_least 29 = .ok (.iastore, 1) := by decide +kernel
theorem dX9_least_30 : decode cX9_least 30 = .ok (.aload_n 0, 1) := by decide +kernel
theorem dX9_least_31 : decode cX9_least 31 = .ok (.getfield 13, 3) := by decide +kernel
theorem dX9_least_34 : decode cX9_least 34 = .ok (.invokestatic 170, 3) := by decide +kernel
theorem dX9_least_37 : decode cX9_least 37 = .ok (.iload_n 1, 1) := by decide +kernel
theorem dX9_least_38 : decode cX9_least 38 = .ok (.if_icmp .gt 5, 3) := by decide +kernel
theorem dX9_least_41 : decode cX9_least 41 = .ok (.iload_n 2, 1) := by decide +kernel
theorem dX9_least_42 : decode cX9_least 42 = .ok (.ireturn, 1) := by decide +kernel
theorem dX9_least_43 : decode cX9_least 43 = .ok (.iinc 2 1, 3) := by decide +kernel
theorem dX9_least_46 : decode cX9_least 46 = .ok (.goto (-30), 3) := by decide +kernel
theorem dX9_least_49 : decode cX9_least 49 = .ok (.iconst (-1), 1) := by decide +kernel
theorem dX9_least_50 : decode cX9_least 50 = .ok (.ireturn, 1) := by decide +kernel
theorem dX9_leastPages_0 : decode cX9_leastPages 0 = .ok (.aload_n 0, 1) := by decide +kernel
theorem dX9_leastPages_1 : decode cX9_leastPages 1 = .ok (.iconst 0, 1) := by decide +kernel
theorem dX9_leastPages_2 : decode cX9_leastPages 2 = .ok (.putfield 25, 3) := by decide +kernel
theorem dX9_leastPages_5 : decode cX9_leastPages 5 = .ok (.iload_n 1, 1) := by decide +kernel
theorem dX9_leastPages_6 : decode cX9_leastPages 6 = .ok (.iconst 1, 1) := by decide +kernel
theorem dX9_leastPages_7 : decode cX9_leastPages 7 = .ok (.bipush 30, 2) := by decide +kernel
theorem dX9_leastPages_9 : decode cX9_leastPages 9 = .ok (.invokestatic 29, 3) := by decide +kernel
theorem dX9_leastPages_12 : decode cX9_leastPages 12 = .ok (.ifCond .eq 11, 3) := by decide +kernel
theorem dX9_leastPages_15 : decode cX9_leastPages 15 = .ok (.aload_n 0, 1) := by decide +kernel
theorem dX9_leastPages_16 : decode cX9_leastPages 16 = .ok (.iload_n 1, 1) := by decide +kernel
theorem dX9_leastPages_17 : decode cX9_leastPages 17 = .ok (.invokevirtual 194, 3) := by decide +kernel
theorem dX9_leastPages_20 : decode cX9_leastPages 20 = .ok (.goto 8, 3) := by decide +kernel
theorem dX9_leastPages_23 : decode cX9_leastPages 23 = .ok (.aload_n 0, 1) := by decide +kernel
theorem dX9_leastPages_24 : decode cX9_leastPages 24 = .ok (.iconst 1, 1) := by decide +kernel
theorem dX9_leastPages_25 : decode cX9_leastPages 25 = .ok (.invokevirtual 40, 3) := by decide +kernel
theorem dX9_leastPages_28 : decode cX9_leastPages 28 = .ok (.ireturn, 1) := by decide +kernel
theorem dX9_share_0 : decode cX9_share 0 = .ok (.aload_n 0, 1) := by decide +kernel
theorem dX9_share_1 : decode cX9_share 1 = .ok (.getfield 7, 3) := by decide +kernel
theorem dX9_share_4 : decode cX9_share 4 = .ok (.iconst 1, 1) := by decide +kernel
theorem dX9_share_5 : decode cX9_share 5 = .ok (.iaload, 1) := by decide +kernel
theorem dX9_share_6 : decode cX9_share 6 = .ok (.ifCond .ne 7, 3) := by decide +kernel
theorem dX9_share_9 : decode cX9_share 9 = .ok (.dconst 1, 1) := by decide +kernel
theorem dX9_share_10 : decode cX9_share 10 = .ok (.goto 23, 3) := by decide +kernel
theorem dX9_share_13 : decode cX9_share 13 = .ok (.aload_n 0, 1) := by decide +kernel
theorem dX9_share_14 : decode cX9_share 14 = .ok (.getfield 7, 3) := by decide +kernel
theorem dX9_share_17 : decode cX9_share 17 = .ok (.iconst 1, 1) := by decide +kernel
theorem dX9_share_18 : decode cX9_share 18 = .ok (.iaload, 1) := by decide +kernel
theorem dX9_share_19 : decode cX9_share 19 = .ok (.aload_n 0, 1) := by decide +kernel
theorem dX9_share_20 : decode cX9_share 20 = .ok (.invokevirtual 179, 3) := by decide +kernel
theorem dX9_share_23 : decode cX9_share 23 = .ok (.isub, 1) := by decide +kernel
theorem dX9_share_24 : decode cX9_share 24 = .ok (.i2d, 1) := by decide +kernel
theorem dX9_share_25 : decode cX9_share 25 = .ok (.aload_n 0, 1) := by decide +kernel
theorem dX9_share_26 : decode cX9_share 26 = .ok (.getfield 7, 3) := by decide +kernel
theorem dX9_share_29 : decode cX9_share 29 = .ok (.iconst 1, 1) := by decide +kernel
theorem dX9_share_30 : decode cX9_share 30 = .ok (.iaload, 1) := by decide +kernel
theorem dX9_share_31 : decode cX9_share 31 = .ok (.i2d, 1) := by decide +kernel
theorem dX9_share_32 : decode cX9_share 32 = .ok (.ddiv, 1) := by decide +kernel
theorem dX9_share_33 : decode cX9_share 33 = .ok (.dreturn, 1) := by decide +kernel
theorem dX9_citedShare_0 : decode cX9_citedShare 0 = .ok (.aload_n 0, 1) := by decide +kernel
theorem dX9_citedShare_1 : decode cX9_citedShare 1 = .ok (.iconst 0, 1) := by decide +kernel
theorem dX9_citedShare_2 : decode cX9_citedShare 2 = .ok (.putfield 25, 3) := by decide +kernel
theorem dX9_citedShare_5 : decode cX9_citedShare 5 = .ok (.aload_n 0, 1) := by decide +kernel
theorem dX9_citedShare_6 : decode cX9_citedShare 6 = .ok (.invokevirtual 197, 3) := by decide +kernel
theorem dX9_citedShare_9 : decode cX9_citedShare 9 = .ok (.dreturn, 1) := by decide +kernel
theorem dX9_digest_0 : decode cX9_digest 0 = .ok (.aload_n 0, 1) := by decide +kernel
theorem dX9_digest_1 : decode cX9_digest 1 = .ok (.iconst 0, 1) := by decide +kernel
theorem dX9_digest_2 : decode cX9_digest 2 = .ok (.putfield 25, 3) := by decide +kernel
theorem dX9_digest_5 : decode cX9_digest 5 = .ok (.ldc2_w 201, 3) := by decide +kernel
theorem dX9_digest_8 : decode cX9_digest 8 = .ok (.lstore_n 1, 1) := by decide +kernel
theorem dX9_digest_9 : decode cX9_digest 9 = .ok (.iconst 0, 1) := by decide +kernel
theorem dX9_digest_10 : decode cX9_digest 10 = .ok (.istore_n 3, 1) := by decide +kernel
theorem dX9_digest_11 : decode cX9_digest 11 = .ok (.iload_n 3, 1) := by decide +kernel
theorem dX9_digest_12 : decode cX9_digest 12 = .ok (.bipush 9, 2) := by decide +kernel
