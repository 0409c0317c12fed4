theorem dX8_citationsOf_2 : decode cX8_citationsOf 2 = .ok (.iconst 0, 1) := by decide +kernel
theorem dX8_citationsOf_3 : decode cX8_citationsOf 3 = .ok (.istore_n 3, 1) := by decide +kernel
theorem dX8_citationsOf_4 : decode cX8_citationsOf 4 = .ok (.iload_n 3, 1) := by decide +kernel
theorem dX8_citationsOf_5 : decode cX8_citationsOf 5 = .ok (.bipush 12, 2) := by decide +kernel
theorem dX8_citationsOf_7 : decode cX8_citationsOf 7 = .ok (.if_icmp .ge 56, 3) := by decide +kernel
theorem dX8_citationsOf_10 : decode cX8_citationsOf 10 = .ok (.iconst 0, 1) := by decide +kernel
theorem dX8_citationsOf_11 : decode cX8_citationsOf 11 = .ok (.istore 4, 2) := by decide +kernel
theorem dX8_citationsOf_13 : decode cX8_citationsOf 13 = .ok (.iload 4, 2) := by decide +kernel
theorem dX8_citationsOf_15 : decode cX8_citationsOf 15 = .ok (.aload_n 0, 1) := by decide +kernel
theorem dX8_citationsOf_16 : decode cX8_citationsOf 16 = .ok (.getfield 12, 3) := by decide +kernel
theorem dX8_citationsOf_19 : decode cX8_citationsOf 19 = .ok (.getfield 111, 3) := by decide +kernel
theorem dX8_citationsOf_22 : decode cX8_citationsOf 22 = .ok (.getfield 131, 3) := by decide +kernel
theorem dX8_citationsOf_25 : decode cX8_citationsOf 25 = .ok (.iload_n 3, 1) := by decide +kernel
theorem dX8_citationsOf_26 : decode cX8_citationsOf 26 = .ok (.iaload, 1) := by decide +kernel
theorem dX8_citationsOf_27 : decode cX8_citationsOf 27 = .ok (.if_icmp .ge 30, 3) := by decide +kernel
theorem dX8_citationsOf_30 : decode cX8_citationsOf 30 = .ok (.aload_n 0, 1) := by decide +kernel
theorem dX8_citationsOf_31 : decode cX8_citationsOf 31 = .ok (.getfield 19, 3) := by decide +kernel
theorem dX8_citationsOf_34 : decode cX8_citationsOf 34 = .ok (.getfield 164, 3) := by decide +kernel
theorem dX8_citationsOf_37 : decode cX8_citationsOf 37 = .ok (.iload_n 3, 1) := by decide +kernel
theorem dX8_citationsOf_38 : decode cX8_citationsOf 38 = .ok (.iload 4, 2) := by decide +kernel
theorem dX8_citationsOf_40 : decode cX8_citationsOf 40 = .ok (.invokestatic 158, 3) := by decide +kernel
theorem dX8_citationsOf_43 : decode cX8_citationsOf 43 = .ok (.iaload, 1) := by decide +kernel
theorem dX8_citationsOf_44 : decode cX8_citationsOf 44 = .ok (.iload_n 1, 1) := by decide +kernel
theorem dX8_citationsOf_45 : decode cX8_citationsOf 45 = .ok (.if_icmp .ne 6, 3) := by decide +kernel
theorem dX8_citationsOf_48 : decode cX8_citationsOf 48 = .ok (.iinc 2 1, 3) := by decide +kernel
theorem dX8_citationsOf_51 : decode cX8_citationsOf 51 = .ok (.iinc 4 1, 3) := by decide +kernel
theorem dX8_citationsOf_54 : decode cX8_citationsOf 54 = .ok (.goto (-41), 3) := by decide +kernel
theorem dX8_citationsOf_57 : decode cX8_citationsOf 57 = .ok (.iinc 3 1, 3) := by decide +kernel
theorem dX8_citationsOf_60 : decode cX8_citationsOf 60 = .ok (.goto (-56), 3) := by decide +kernel
theorem dX8_citationsOf_63 : decode cX8_citationsOf 63 = .ok (.iload_n 2, 1) := by decide +kernel
theorem dX8_citationsOf_64 : decode cX8_citationsOf 64 = .ok (.ireturn, 1) := by decide +kernel
theorem dX8_goodCitationsOf_0 : decode cX8_goodCitationsOf 0 = .ok (.iconst 0, 1) := by decide +kernel
theorem dX8_goodCitationsOf_1 : decode cX8_goodCitationsOf 1 = .ok (.istore_n 2, 1) := by decide +kernel
theorem dX8_goodCitationsOf_2 : decode cX8_goodCitationsOf 2 = .ok (.iconst 0, 1) := by decide +kernel
theorem dX8_goodCitationsOf_3 : decode cX8_goodCitationsOf 3 = .ok (.istore_n 3, 1) := by decide +kernel
theorem dX8_goodCitationsOf_4 : decode cX8_goodCitationsOf 4 = .ok (.iload_n 3, 1) := by decide +kernel
theorem dX8_goodCitationsOf_5 : decode cX8_goodCitationsOf 5 = .ok (.bipush 12, 2) := by decide +kernel
theorem dX8_goodCitationsOf_7 : decode cX8_goodCitationsOf 7 = .ok (.if_icmp .ge 18, 3) := by decide +kernel
theorem dX8_goodCitationsOf_10 : decode cX8_goodCitationsOf 10 = .ok (.iload_n 2, 1) := by decide +kernel
theorem dX8_goodCitationsOf_11 : decode cX8_goodCitationsOf 11 = .ok (.aload_n 0, 1) := by decide +kernel
theorem dX8_goodCitationsOf_12 : decode cX8_goodCitationsOf 12 = .ok (.iload_n 3, 1) := by decide +kernel
theorem dX8_goodCitationsOf_13 : decode cX8_goodCitationsOf 13 = .ok (.iload_n 1, 1) := by decide +kernel
theorem dX8_goodCitationsOf_14 : decode cX8_goodCitationsOf 14 = .ok (.invokevirtual 238, 3) := by decide +kernel
theorem dX8_goodCitationsOf_17 : decode cX8_goodCitationsOf 17 = .ok (.iadd, 1) := by decide +kernel
theorem dX8_goodCitationsOf_18 : decode cX8_goodCitationsOf 18 = .ok (.istore_n 2, 1) := by decide +kernel
theorem dX8_goodCitationsOf_19 : decode cX8_goodCitationsOf 19 = .ok (.iinc 3 1, 3) := by decide +kernel
theorem dX8_goodCitationsOf_22 : decode cX8_goodCitationsOf 22 = .ok (.goto (-18), 3) := by decide +kernel
theorem dX8_goodCitationsOf_25 : decode cX8_goodCitationsOf 25 = .ok (.iload_n 2, 1) := by decide +kernel
theorem dX8_goodCitationsOf_26 : decode cX8_goodCitationsOf 26 = .ok (.ireturn, 1) := by decide +kernel
theorem dX8_goodCitationsIn_0 : decode cX8_goodCitationsIn 0 = .ok (.iconst 0, 1) := by decide +kernel
theorem dX8_goodCitationsIn_1 : decode cX8_goodCitationsIn 1 = .ok (.istore_n 3, 1) := by decide +kernel
theorem dX8_goodCitationsIn_2 : decode cX8_goodCitationsIn 2 = .ok (.iconst 0, 1) := by decide +kernel
theorem dX8_goodCitationsIn_3 : decode cX8_goodCitationsIn 3 = .ok (.istore 4, 2) := by decide +kernel
theorem dX8_goodCitationsIn_5 : decode cX8_goodCitationsIn 5 = .ok (.iload 4, 2) := by decide +kernel
theorem dX8_goodCitationsIn_7 : decode cX8_goodCitationsIn 7 = .ok (.aload_n 0, 1) := by decide +kernel
theorem dX8_goodCitationsIn_8 : decode cX8_goodCitationsIn 8 = .ok (.getfield 12, 3) := by decide +kernel
theorem dX8_goodCitationsIn_11 : decode cX8_goodCitationsIn 11 = .ok (.getfield 111, 3) := by decide +kernel
theorem dX8_goodCitationsIn_14 : decode cX8_goodCitationsIn 14 = .ok (.getfield 131, 3) := by decide +kernel
theorem dX8_goodCitationsIn_17 : decode cX8_goodCitationsIn 17 = .ok (.iload_n 1, 1) := by decide +kernel
theorem dX8_goodCitationsIn_18 : decode cX8_goodCitationsIn 18 = .ok (.iaload, 1) := by decide +kernel
theorem dX8_goodCitationsIn_19 : decode cX8_goodCitationsIn 19 = .ok (.if_icmp .ge 47, 3) := by decide +kernel
theorem dX8_goodCitationsIn_22 : decode cX8_goodCitationsIn 22 = .ok (.iload_n 1, 1) := by decide +kernel
theorem dX8_goodCitationsIn_23 : decode cX8_goodCitationsIn 23 = .ok (.iload 4, 2) := by decide +kernel
theorem dX8_goodCitationsIn_25 : decode cX8_goodCitationsIn 25 = .ok (.invokestatic 158, 3) := by decide +kernel
theorem dX8_goodCitationsIn_28 : decode cX8_goodCitationsIn 28 = .ok (.istore 5, 2) := by decide +kernel
theorem dX8_goodCitationsIn_30 : decode cX8_goodCitationsIn 30 = .ok (.aload_n 0, 1) := by decide +kernel
theorem dX8_goodCitationsIn_31 : decode cX8_goodCitationsIn 31 = .ok (.getfield 19, 3) := by decide +kernel
theorem dX8_goodCitationsIn_34 : decode cX8_goodCitationsIn 34 = .ok (.getfield 164, 3) := by decide +kernel
theorem dX8_goodCitationsIn_37 : decode cX8_goodCitationsIn 37 = .ok (.iload 5, 2) := by decide +kernel
theorem dX8_goodCitationsIn_39 : decode cX8_goodCitationsIn 39 = .ok (.iaload, 1) := by decide +kernel
theorem dX8_goodCitationsIn_40 : decode cX8_goodCitationsIn 40 = .ok (.iload_n 2, 1) := by decide +kernel
theorem dX8_goodCitationsIn_41 : decode cX8_goodCitationsIn 41 = .ok (.if_icmp .ne 19, 3) := by decide +kernel
theorem dX8_goodCitationsIn_44 : decode cX8_goodCitationsIn 44 = .ok (.aload_n 0, 1) := by decide +kernel
theorem dX8_goodCitationsIn_45 : decode cX8_goodCitationsIn 45 = .ok (.getfield 19, 3) := by decide +kernel
theorem dX8_goodCitationsIn_48 : decode cX8_goodCitationsIn 48 = .ok (.getfield 139, 3) := by decide +kernel
theorem dX8_goodCitationsIn_51 : decode cX8_goodCitationsIn 51 = .ok (.iload 5, 2) := by decide +kernel
theorem dX8_goodCitationsIn_53 : decode cX8_goodCitationsIn 53 = .ok (.baload, 1) := by decide +kernel
theorem dX8_goodCitationsIn_54 : decode cX8_goodCitationsIn 54 = .ok (.ifCond .ne 6, 3) := by decide +kernel
theorem dX8_goodCitationsIn_57 : decode cX8_goodCitationsIn 57 = .ok (.iinc 3 1, 3) := by decide +kernel
theorem dX8_goodCitationsIn_60 : decode cX8_goodCitationsIn 60 = .ok (.iinc 4 1, 3) := by decide +kernel
theorem dX8_goodCitationsIn_63 : decode cX8_goodCitationsIn 63 = .ok (.goto (-58), 3) := by decide +kernel
theorem dX8_goodCitationsIn_66 : decode cX8_goodCitationsIn 66 = .ok (.iload_n 3, 1) := by decide +kernel
theorem dX8_goodCitationsIn_67 : decode cX8_goodCitationsIn 67 = .ok (.ireturn, 1) := by decide +kernel
theorem dX8_citedExhibits_0 : decode cX8_citedExhibits 0 = .ok (.iconst 0, 1) := by decide +kernel
theorem dX8_citedExhibits_1 : decode cX8_citedExhibits 1 = .ok (.istore_n 1, 1) := by decide +kernel
theorem dX8_citedExhibits_2 : decode cX8_citedExhibits 2 = .ok (.iconst 0, 1) := by decide +kernel
theorem dX8_citedExhibits_3 : decode cX8_citedExhibits 3 = .ok (.istore_n 2, 1) := by decide +kernel
theorem dX8_citedExhibits_4 : decode cX8_citedExhibits 4 = .ok (.iload_n 2, 1) := by decide +kernel
theorem dX8_citedExhibits_5 : decode cX8_citedExhibits 5 = .ok (.aload_n 0, 1) := by decide +kernel
theorem dX8_citedExhibits_6 : decode cX8_citedExhibits 6 = .ok (.getfield 12, 3) := by decide +kernel
theorem dX8_citedExhibits_9 : decode cX8_citedExhibits 9 = .ok (.getfield 48, 3) := by decide +kernel
theorem dX8_citedExhibits_12 : decode cX8_citedExhibits 12 = .ok (.getfield 95, 3) := by decide +kernel
theorem dX8_citedExhibits_15 : decode cX8_citedExhibits 15 = .ok (.if_icmp .ge 20, 3) := by decide +kernel
theorem dX8_citedExhibits_18 : decode cX8_citedExhibits 18 = .ok (.aload_n 0, 1) := by decide +kernel
theorem dX8_citedExhibits_19 : decode cX8_citedExhibits 19 = .ok (.iload_n 2, 1) := by decide +kernel
theorem dX8_citedExhibits_20 : decode cX8_citedExhibits 20 = .ok (.invokevirtual 91, 3) := by decide +kernel
theorem dX8_citedExhibits_23 : decode cX8_citedExhibits 23 = .ok (.ifCond .le 6, 3) := by decide +kernel
theorem dX8_citedExhibits_26 : decode cX8_citedExhibits 26 = .ok (.iinc 1 1, 3) := by decide +kernel
theorem dX8_citedExhibits_29 : decode cX8_citedExhibits 29 = .ok (.iinc 2 1, 3) := by decide +kernel
theorem dX8_citedExhibits_32 : decode cX8_citedExhibits 32 = .ok (.goto (-28), 3) := by decide +kernel
theorem dX8_citedExhibits_35 : decode cX8_citedExhibits 35 = .ok (.iload_n 1, 1) := by decide +kernel
theorem dX8_citedExhibits_36 : decode cX8_citedExhibits 36 = .ok (.ireturn, 1) := by decide +kernel
theorem dX8_allCitations_0 : decode cX8_allCitations 0 = .ok (.iconst 0, 1) := by decide +kernel
theorem dX8_allCitations_1 : decode cX8_allCitations 1 = .ok (.istore_n 1, 1) := by decide +kernel
theorem dX8_allCitations_2 : decode cX8_allCitations 2 = .ok (.iconst 0, 1) := by decide +kernel
theorem dX8_allCitations_3 : decode cX8_allCitations 3 = .ok (.istore_n 2, 1) := by decide +kernel
theorem dX8_allCitations_4 : decode cX8_allCitations 4 = .ok (.iload_n 2, 1) := by decide +kernel
theorem dX8_allCitations_5 : decode cX8_allCitations 5 = .ok (.bipush 12, 2) := by decide +kernel
theorem dX8_allCitations_7 : decode cX8_allCitations 7 = .ok (.if_icmp .ge 24, 3) := by decide +kernel
theorem dX8_allCitations_10 : decode cX8_allCitations 10 = .ok (.iload_n 1, 1) := by decide +kernel
theorem dX8_allCitations_11 : decode cX8_allCitations 11 = .ok (.aload_n 0, 1) := by decide +kernel
theorem dX8_allCitations_12 : decode cX8_allCitations 12 = .ok (.getfield 12, 3) := by decide +kernel
theorem dX8_allCitations_15 : decode cX8_allCitations 15 = .ok (.getfield 111, 3) := by decide +kernel
theorem dX8_allCitations_18 : decode cX8_allCitations 18 = .ok (.getfield 131, 3) := by decide +kernel
theorem dX8_allCitations_21 : decode cX8_allCitations 21 = .ok (.iload_n 2, 1) := by decide +kernel
theorem dX8_allCitations_22 : decode cX8_allCitations 22 = .ok (.iaload, 1) := by decide +kernel
theorem dX8_allCitations_23 : decode cX8_allCitations 23 = .ok (.iadd, 1) := by decide +kernel
theorem dX8_allCitations_24 : decode cX8_allCitations 24 = .ok (.istore_n 1, 1) := by decide +kernel
theorem dX8_allCitations_25 : decode cX8_allCitations 25 = .ok (.iinc 2 1, 3) := by decide +kernel
theorem dX8_allCitations_28 : decode cX8_allCitations 28 = .ok (.goto (-24), 3) := by decide +kernel
theorem dX8_allCitations_31 : decode cX8_allCitations 31 = .ok (.iload_n 1, 1) := by decide +kernel
theorem dX8_allCitations_32 : decode cX8_allCitations 32 = .ok (.ireturn, 1) := by decide +kernel
theorem dX8_allLost_0 : decode cX8_allLost 0 = .ok (.iconst 0, 1) := by decide +kernel
theorem dX8_allLost_1 : decode cX8_allLost 1 = .ok (.istore_n 1, 1) := by decide +kernel
theorem dX8_allLost_2 : decode cX8_allLost 2 = .ok (.iconst 0, 1) := by decide +kernel
theorem dX8_allLost_3 : decode cX8_allLost 3 = .ok (.istore_n 2, 1) := by decide +kernel
theorem dX8_allLost_4 : decode cX8_allLost 4 = .ok (.iload_n 2, 1) := by decide +kernel
theorem dX8_allLost_5 : decode cX8_allLost 5 = .ok (.bipush 12, 2) := by decide +kernel
theorem dX8_allLost_7 : decode cX8_allLost 7 = .ok (.if_icmp .ge 17, 3) := by decide +kernel
theorem dX8_allLost_10 : decode cX8_allLost 10 = .ok (.iload_n 1, 1) := by decide +kernel
theorem dX8_allLost_11 : decode cX8_allLost 11 = .ok (.aload_n 0, 1) := by decide +kernel
theorem dX8_allLost_12 : decode cX8_allLost 12 = .ok (.iload_n 2, 1) := by decide +kernel
theorem dX8_allLost_13 : decode cX8_allLost 13 = .ok (.invokevirtual 235, 3) := by decide +kernel
theorem dX8_allLost_16 : decode cX8_allLost 16 = .ok (.iadd, 1) := by decide +kernel
theorem dX8_allLost_17 : decode cX8_allLost 17 = .ok (.istore_n 1, 1) := by decide +kernel
theorem dX8_allLost_18 : decode cX8_allLost 18 = .ok (.iinc 2 1, 3) := by decide +kernel
theorem dX8_allLost_21 : decode cX8_allLost 21 = .ok (.goto (-17), 3) := by decide +kernel
theorem dX8_allLost_24 : decode cX8_allLost 24 = .ok (.iload_n 1, 1) := by decide +kernel
theorem dX8_allLost_25 : decode cX8_allLost 25 = .ok (.ireturn, 1) := by decide +kernel
theorem dX8_lostIn_0 : decode cX8_lostIn 0 = .ok (.iconst 0, 1) := by decide +kernel
theorem dX8_lostIn_1 : decode cX8_lostIn 1 = .ok (.istore_n 2, 1) := by decide +kernel
theorem dX8_lostIn_2 : decode cX8_lostIn 2 = .ok (.iconst 0, 1) := by decide +kernel
theorem dX8_lostIn_3 : decode cX8_lostIn 3 = .ok (.istore_n 3, 1) := by decide +kernel
theorem dX8_lostIn_4 : decode cX8_lostIn 4 = .ok (.iload_n 3, 1) := by decide +kernel
theorem dX8_lostIn_5 : decode cX8_lostIn 5 = .ok (.aload_n 0, 1) := by decide +kernel
theorem dX8_lostIn_6 : decode cX8_lostIn 6 = .ok (.getfield 12, 3) := by decide +kernel
theorem dX8_lostIn_9 : decode cX8_lostIn 9 = .ok (.getfield 111, 3) := by decide +kernel
theorem dX8_lostIn_12 : decode cX8_lostIn 12 = .ok (.getfield 131, 3) := by decide +kernel
theorem dX8_lostIn_15 : decode cX8_lostIn 15 = .ok (.iload_n 1, 1) := by decide +kernel
theorem dX8_lostIn_16 : decode cX8_lostIn 16 = .ok (.iaload, 1) := by decide +kernel
theorem dX8_lostIn_17 : decode cX8_lostIn 17 = .ok (.if_icmp .ge 28, 3) := by decide +kernel
theorem dX8_lostIn_20 : decode cX8_lostIn 20 = .ok (.aload_n 0, 1) := by decide +kernel
theorem dX8_lostIn_21 : decode cX8_lostIn 21 = .ok (.getfield 19, 3) := by decide +kernel
theorem dX8_lostIn_24 : decode cX8_lostIn 24 = .ok (.getfield 139, 3) := by decide +kernel
theorem dX8_lostIn_27 : decode cX8_lostIn 27 = .ok (.iload_n 1, 1) := by decide +kernel
theorem dX8_lostIn_28 : decode cX8_lostIn 28 = .ok (.iload_n 3, 1) := by decide +kernel
theorem dX8_lostIn_29 : decode cX8_lostIn 29 = .ok (.invokestatic 158, 3) := by decide +kernel
theorem dX8_lostIn_32 : decode cX8_lostIn 32 = .ok (.baload, 1) := by decide +kernel
theorem dX8_lostIn_33 : decode cX8_lostIn 33 = .ok (.ifCond .eq 6, 3) := by decide +kernel
theorem dX8_lostIn_36 : decode cX8_lostIn 36 = .ok (.iinc 2 1, 3) := by decide +kernel
theorem dX8_lostIn_39 : decode cX8_lostIn 39 = .ok (.iinc 3 1, 3) := by decide +kernel
theorem dX8_lostIn_42 : decode cX8_lostIn 42 = .ok (.goto (-38), 3) := by decide +kernel
theorem dX8_lostIn_45 : decode cX8_lostIn 45 = .ok (.iload_n 2, 1) := by decide +kernel
theorem dX8_lostIn_46 : decode cX8_lostIn 46 = .ok (.ireturn, 1) := by decide +kernel
theorem dX8_staleWith_0 : decode cX8_staleWith 0 = .ok (.iconst 0, 1) := by decide +kernel
theorem dX8_staleWith_1 : decode cX8_staleWith 1 = .ok (.istore_n 2, 1) := by decide +kernel
theorem dX8_staleWith_2 : decode cX8_staleWith 2 = .ok (.iconst 0, 1) := by decide +kernel
theorem dX8_staleWith_3 : decode cX8_staleWith 3 = .ok (.istore_n 3, 1) := by decide +kernel
theorem dX8_staleWith_4 : decode cX8_staleWith 4 = .ok (.iload_n 3, 1) := by decide +kernel
theorem dX8_staleWith_5 : decode cX8_staleWith 5 = .ok (.bipush 12, 2) := by decide +kernel
theorem dX8_staleWith_7 : decode cX8_staleWith 7 = .ok (.if_icmp .ge 21, 3) := by decide +kernel
theorem dX8_staleWith_10 : decode cX8_staleWith 10 = .ok (.aload_n 0, 1) := by decide +kernel
theorem dX8_staleWith_11 : decode cX8_staleWith 11 = .ok (.iload_n 3, 1) := by decide +kernel
theorem dX8_staleWith_12 : decode cX8_staleWith 12 = .ok (.aload_n 1, 1) := by decide +kernel
theorem dX8_staleWith_13 : decode cX8_staleWith 13 = .ok (.invokevirtual 147, 3) := by decide +kernel
theorem dX8_staleWith_16 : decode cX8_staleWith 16 = .ok (.ifCond .eq 6, 3) := by decide +kernel
theorem dX8_staleWith_19 : decode cX8_staleWith 19 = .ok (.iinc 2 1, 3) := by decide +kernel
theorem dX8_staleWith_22 : decode cX8_staleWith 22 = .ok (.iinc 3 1, 3) := by decide +kernel
theorem dX8_staleWith_25 : decode cX8_staleWith 25 = .ok (.goto (-21), 3) := by decide +kernel
theorem dX8_staleWith_28 : decode cX8_staleWith 28 = .ok (.iload_n 2, 1) := by decide +kernel
theorem dX8_staleWith_29 : decode cX8_staleWith 29 = .ok (.ireturn, 1) := by decide +kernel
theorem dX8_isStale_0 : decode cX8_isStale 0 = .ok (.aload_n 0, 1) := by decide +kernel
theorem dX8_isStale_1 : decode cX8_isStale 1 = .ok (.getfield 12, 3) := by decide +kernel
theorem dX8_isStale_4 : decode cX8_isStale 4 = .ok (.getfield 111, 3) := by decide +kernel
theorem dX8_isStale_7 : decode cX8_isStale 7 = .ok (.getfield 131, 3) := by decide +kernel
theorem dX8_isStale_10 : decode cX8_isStale 10 = .ok (.iload_n 1, 1) := by decide +kernel
theorem dX8_isStale_11 : decode cX8_isStale 11 = .ok (.iaload, 1) := by decide +kernel
theorem dX8_isStale_12 : decode cX8_isStale 12 = .ok (.istore_n 3, 1) := by decide +kernel
theorem dX8_isStale_13 : decode cX8_isStale 13 = .ok (.aload_n 0, 1) := by decide +kernel
theorem dX8_isStale_14 : decode cX8_isStale 14 = .ok (.getfield 12, 3) := by decide +kernel
theorem dX8_isStale_17 : decode cX8_isStale 17 = .ok (.getfield 151, 3) := by decide +kernel
theorem dX8_isStale_20 : decode cX8_isStale 20 = .ok (.getfield 155, 3) := by decide +kernel
theorem dX8_isStale_23 : decode cX8_isStale 23 = .ok (.iload_n 1, 1) := by decide +kernel
theorem dX8_isStale_24 : decode cX8_isStale 24 = .ok (.iaload, 1) := by decide +kernel
theorem dX8_isStale_25 : decode cX8_isStale 25 = .ok (.iload_n 3, 1) := by decide +kernel
theorem dX8_isStale_26 : decode cX8_isStale 26 = .ok (.if_icmp .eq 5, 3) := by decide +kernel
theorem dX8_isStale_29 : decode cX8_isStale 29 = .ok (.iconst 1, 1) := by decide +kernel
theorem dX8_isStale_30 : decode cX8_isStale 30 = .ok (.ireturn, 1) := by decide +kernel
theorem dX8_isStale_31 : decode cX8_isStale 31 = .ok (.iconst 0, 1) := by decide +kernel
theorem dX8_isStale_32 : decode cX8_isStale 32 = .ok (.istore 4, 2) := by decide +kernel
theorem dX8_isStale_34 : decode cX8_isStale 34 = .ok (.iload 4, 2) := by decide +kernel
theorem dX8_isStale_36 : decode cX8_isStale 36 = .ok (.iload_n 3, 1) := by decide +kernel
theorem dX8_isStale_37 : decode cX8_isStale 37 = .ok (.if_icmp .ge 109, 3) := by decide +kernel
theorem dX8_isStale_40 : decode cX8_isStale 40 = .ok (.iload_n 1, 1) := by decide +kernel
theorem dX8_isStale_41 : decode cX8_isStale 41 = .ok (.iload 4, 2) := by decide +kernel
theorem dX8_isStale_43 : decode cX8_isStale 43 = .ok (.invokestatic 158, 3) := by decide +kernel
theorem dX8_isStale_46 : decode cX8_isStale 46 = .ok (.istore 5, 2) := by decide +kernel
theorem dX8_isStale_48 : decode cX8_isStale 48 = .ok (.aload_n 0, 1) := by decide +kernel
theorem dX8_isStale_49 : decode cX8_isStale 49 = .ok (.getfield 19, 3) := by decide +kernel
theorem dX8_isStale_52 : decode cX8_isStale 52 = .ok (.getfield 164, 3) := by decide +kernel
theorem dX8_isStale_55 : decode cX8_isStale 55 = .ok (.iload 5, 2) := by decide +kernel
theorem dX8_isStale_57 : decode cX8_isStale 57 = .ok (.iaload, 1) := by decide +kernel
theorem dX8_isStale_58 : decode cX8_isStale 58 = .ok (.istore 6, 2) := by decide +kernel
theorem dX8_isStale_60 : decode cX8_isStale 60 = .ok (.iload 6, 2) := by decide +kernel
theorem dX8_isStale_62 : decode cX8_isStale 62 = .ok (.iconst (-1), 1) := by decide +kernel
theorem dX8_isStale_63 : decode cX8_isStale 63 = .ok (.if_icmp .ne 7, 3) := by decide +kernel
theorem dX8_isStale_66 : decode cX8_isStale 66 = .ok (.iconst (-1), 1) := by decide +kernel
theorem dX8_isStale_67 : decode cX8_isStale 67 = .ok (.goto 7, 3) := by decide +kernel
theorem dX8_isStale_70 : decode cX8_isStale 70 = .ok (.aload_n 2, 1) := by decide +kernel
theorem dX8_isStale_71 : decode cX8_isStale 71 = .ok (.iload 6, 2) := by decide +kernel
theorem dX8_isStale_73 : decode cX8_isStale 73 = .ok (.iaload, 1) := by decide +kernel
theorem dX8_isStale_74 : decode cX8_isStale 74 = .ok (.istore 7, 2) := by decide +kernel
theorem dX8_isStale_76 : decode cX8_isStale 76 = .ok (.iload 7, 2) := by decide +kernel
theorem dX8_isStale_78 : decode cX8_isStale 78 = .ok (.iconst (-1), 1) := by decide +kernel
theorem dX8_isStale_79 : decode cX8_isStale 79 = .ok (.if_icmp .eq 16, 3) := by decide +kernel
theorem dX8_isStale_82 : decode cX8_isStale 82 = .ok (.aload_n 0, 1) := by decide +kernel
theorem dX8_isStale_83 : decode cX8_isStale 83 = .ok (.getfield 19, 3) := by decide +kernel
theorem dX8_isStale_86 : decode cX8_isStale 86 = .ok (.getfield 139, 3) := by decide +kernel
theorem dX8_isStale_89 : decode cX8_isStale 89 = .ok (.iload 5, 2) := by decide +kernel
theorem dX8_isStale_91 : decode cX8_isStale 91 = .ok (.baload, 1) := by decide +kernel
theorem dX8_isStale_92 : decode cX8_isStale 92 = .ok (.ifCond .eq 7, 3) := by decide +kernel
theorem dX8_isStale_95 : decode cX8_isStale 95 = .ok (.iconst 1, 1) := by decide +kernel
theorem dX8_isStale_96 : decode cX8_isStale 96 = .ok (.goto 4, 3) := by decide +kernel
theorem dX8_isStale_99 : decode cX8_isStale 99 = .ok (.iconst 0, 1) := by decide +kernel
theorem dX8_isStale_100 : decode cX8_isStale 100 = .ok (.istore 8, 2) := by decide +kernel
theorem dX8_isStale_102 : decode cX8_isStale 102 = .ok (.iload 7, 2) := by decide +kernel
theorem dX8_isStale_104 : decode cX8_isStale 104 = .ok (.aload_n 0, 1) := by decide +kernel
theorem dX8_isStale_105 : decode cX8_isStale 105 = .ok (.getfield 12, 3) := by decide +kernel
theorem dX8_isStale_108 : decode cX8_isStale 108 = .ok (.getfield 111, 3) := by decide +kernel
theorem dX8_isStale_111 : decode cX8_isStale 111 = .ok (.getfield 167, 3) := by decide +kernel
theorem dX8_isStale_114 : decode cX8_isStale 114 = .ok (.iload 5, 2) := by decide +kernel
theorem dX8_isStale_116 : decode cX8_isStale 116 = .ok (.iaload, 1) := by decide +kernel
theorem dX8_isStale_117 : decode cX8_isStale 117 = .ok (.iload 8, 2) := by decide +kernel
theorem dX8_isStale_119 : decode cX8_isStale 119 = .ok (.invokestatic 168, 3) := by decide +kernel
theorem dX8_isStale_122 : decode cX8_isStale 122 = .ok (.aload_n 0, 1) := by decide +kernel
theorem dX8_isStale_123 : decode cX8_isStale 123 = .ok (.getfield 12, 3) := by decide +kernel
theorem dX8_isStale_126 : decode cX8_isStale 126 = .ok (.getfield 151, 3) := by decide +kernel
theorem dX8_isStale_129 : decode cX8_isStale 129 = .ok (.getfield 161, 3) := by decide +kernel
theorem dX8_isStale_132 : decode cX8_isStale 132 = .ok (.iload 5, 2) := by decide +kernel
theorem dX8_isStale_134 : decode cX8_isStale 134 = .ok (.iaload, 1) := by decide +kernel
theorem dX8_isStale_135 : decode cX8_isStale 135 = .ok (.if_icmp .eq 5, 3) := by decide +kernel
theorem dX8_isStale_138 : decode cX8_isStale 138 = .ok (.iconst 1, 1) := by decide +kernel
theorem dX8_isStale_139 : decode cX8_isStale 139 = .ok (.ireturn, 1) := by decide +kernel
theorem dX8_isStale_140 : decode cX8_isStale 140 = .ok (.iinc 4 1, 3) := by decide +kernel
theorem dX8_isStale_143 : decode cX8_isStale 143 = .ok (.goto (-109), 3) := by decide +kernel
theorem dX8_isStale_146 : decode cX8_isStale 146 = .ok (.iconst 0, 1) := by decide +kernel
theorem dX8_isStale_147 : decode cX8_isStale 147 = .ok (.ireturn, 1) := by decide +kernel
theorem dL_low_0 : decode cL_low 0 = .ok (.iload_n 0, 1) := by decide +kernel
theorem dL_low_1 : decode cL_low 1 = .ok (.ldc 7, 2) := by decide +kernel
theorem dL_low_3 : decode cL_low 3 = .ok (.iand, 1) := by decide +kernel
theorem dL_low_4 : decode cL_low 4 = .ok (.iload_n 1, 1) := by decide +kernel
theorem dL_low_5 : decode cL_low 5 = .ok (.irem, 1) := by decide +kernel
theorem dL_low_6 : decode cL_low 6 = .ok (.ireturn, 1) := by decide +kernel
theorem dL_cell_0 : decode cL_cell 0 = .ok (.iload_n 1, 1) := by decide +kernel
theorem dL_cell_1 : decode cL_cell 1 = .ok (.aload_n 0, 1) := by decide +kernel
theorem dL_cell_2 : decode cL_cell 2 = .ok (.arraylength, 1) := by decide +kernel
theorem dL_cell_3 : decode cL_cell 3 = .ok (.if_icmp .ge 9, 3) := by decide +kernel
theorem dL_cell_6 : decode cL_cell 6 = .ok (.aload_n 0, 1) := by decide +kernel
theorem dL_cell_7 : decode cL_cell 7 = .ok (.iload_n 1, 1) := by decide +kernel
theorem dL_cell_8 : decode cL_cell 8 = .ok (.iaload, 1) := by decide +kernel
theorem dL_cell_9 : decode cL_cell 9 = .ok (.goto 11, 3) := by decide +kernel
theorem dL_cell_12 : decode cL_cell 12 = .ok (.ldc 8, 2) := by decide +kernel
theorem dL_cell_14 : decode cL_cell 14 = .ok (.iload_n 1, 1) := by decide +kernel
theorem dL_cell_15 : decode cL_cell 15 = .ok (.imul, 1) := by decide +kernel
theorem dL_cell_16 : decode cL_cell 16 = .ok (.sipush 977, 3) := by decide +kernel
theorem dL_cell_19 : decode cL_cell 19 = .ok (.iadd, 1) := by decide +kernel
theorem dL_cell_20 : decode cL_cell 20 = .ok (.ireturn, 1) := by decide +kernel
theorem dL_insert_0 : decode cL_insert 0 = .ok (.aload_n 0, 1) := by decide +kernel
theorem dL_insert_1 : decode cL_insert 1 = .ok (.iload_n 1, 1) := by decide +kernel
theorem dL_insert_2 : decode cL_insert 2 = .ok (.iload_n 2, 1) := by decide +kernel
theorem dL_insert_3 : decode cL_insert 3 = .ok (.invokevirtual 9, 3) := by decide +kernel
theorem dL_insert_6 : decode cL_insert 6 = .ok (.ireturn, 1) := by decide +kernel
theorem dL_insert_7 : decode cL_insert 7 = .ok (.astore_n 3, 1) := by decide +kernel
theorem dL_insert_8 : decode cL_insert 8 = .ok (.bipush (-3), 2) := by decide +kernel
theorem dL_insert_10 : decode cL_insert 10 = .ok (.ireturn, 1) := by decide +kernel
theorem dL_join_0 : decode cL_join 0 = .ok (.aload_n 0, 1) := by decide +kernel
theorem dL_join_1 : decode cL_join 1 = .ok (.iload_n 1, 1) := by decide +kernel
theorem dL_join_2 : decode cL_join 2 = .ok (.invokevirtual 17, 3) := by decide +kernel
theorem dL_join_5 : decode cL_join 5 = .ok (.ireturn, 1) := by decide +kernel
theorem dL_join_6 : decode cL_join 6 = .ok (.astore_n 2, 1) := by decide +kernel
theorem dL_join_7 : decode cL_join 7 = .ok (.iconst (-1), 1) := by decide +kernel
theorem dL_join_8 : decode cL_join 8 = .ok (.ireturn, 1) := by decide +kernel
theorem dL_join_9 : decode cL_join 9 = .ok (.astore_n 2, 1) := by decide +kernel
theorem dL_join_10 : decode cL_join 10 = .ok (.bipush (-3), 2) := by decide +kernel
theorem dL_join_12 : decode cL_join 12 = .ok (.ireturn, 1) := by decide +kernel
theorem dL_cite_0 : decode cL_cite 0 = .ok (.aload_n 0, 1) := by decide +kernel
theorem dL_cite_1 : decode cL_cite 1 = .ok (.iload_n 1, 1) := by decide +kernel
theorem dL_cite_2 : decode cL_cite 2 = .ok (.iload_n 2, 1) := by decide +kernel
theorem dL_cite_3 : decode cL_cite 3 = .ok (.iload_n 3, 1) := by decide +kernel
theorem dL_cite_4 : decode cL_cite 4 = .ok (.invokevirtual 23, 3) := by decide +kernel
theorem dL_cite_7 : decode cL_cite 7 = .ok (.ireturn, 1) := by decide +kernel
theorem dL_cite_8 : decode cL_cite 8 = .ok (.astore 4, 2) := by decide +kernel
theorem dL_cite_10 : decode cL_cite 10 = .ok (.bipush (-3), 2) := by decide +kernel
theorem dL_cite_12 : decode cL_cite 12 = .ok (.ireturn, 1) := by decide +kernel
theorem dL_undo_0 : decode cL_undo 0 = .ok (.aload_n 0, 1) := by decide +kernel
theorem dL_undo_1 : decode cL_undo 1 = .ok (.invokevirtual 27, 3) := by decide +kernel
theorem dL_undo_4 : decode cL_undo 4 = .ok (.ireturn, 1) := by decide +kernel
theorem dL_undo_5 : decode cL_undo 5 = .ok (.astore_n 1, 1) := by decide +kernel
theorem dL_undo_6 : decode cL_undo 6 = .ok (.bipush (-3), 2) := by decide +kernel
theorem dL_undo_8 : decode cL_undo 8 = .ok (.ireturn, 1) := by decide +kernel
theorem dL_brief_0 : decode cL_brief 0 = .ok (.aload_n 0, 1) := by decide +kernel
theorem dL_brief_1 : decode cL_brief 1 = .ok (.iconst 0, 1) := by decide +kernel
theorem dL_brief_2 : decode cL_brief 2 = .ok (.invokevirtual 31, 3) := by decide +kernel
theorem dL_brief_5 : decode cL_brief 5 = .ok (.istore_n 1, 1) := by decide +kernel
theorem dL_brief_6 : decode cL_brief 6 = .ok (.iconst 0, 1) := by decide +kernel
theorem dL_brief_7 : decode cL_brief 7 = .ok (.istore_n 2, 1) := by decide +kernel
theorem dL_brief_8 : decode cL_brief 8 = .ok (.iconst 0, 1) := by decide +kernel
theorem dL_brief_9 : decode cL_brief 9 = .ok (.istore_n 3, 1) := by decide +kernel
theorem dL_brief_10 : decode cL_brief 10 = .ok (.iload_n 1, 1) := by decide +kernel
theorem dL_brief_11 : decode cL_brief 11 = .ok (.bipush 30, 2) := by decide +kernel
theorem dL_brief_13 : decode cL_brief 13 = .ok (.if_icmp .gt 39, 3) := by decide +kernel
theorem dL_brief_16 : decode cL_brief 16 = .ok (.iload_n 1, 1) := by decide +kernel
theorem dL_brief_17 : decode cL_brief 17 = .ok (.ifCond .eq 31, 3) := by decide +kernel
theorem dL_brief_20 : decode cL_brief 20 = .ok (.aload_n 0, 1) := by decide +kernel
theorem dL_brief_21 : decode cL_brief 21 = .ok (.iconst 0, 1) := by decide +kernel
theorem dL_brief_22 : decode cL_brief 22 = .ok (.iconst 2, 1) := by decide +kernel
theorem dL_brief_23 : decode cL_brief 23 = .ok (.invokevirtual 34, 3) := by decide +kernel
theorem dL_brief_26 : decode cL_brief 26 = .ok (.ifCond .ne 26, 3) := by decide +kernel
theorem dL_brief_29 : decode cL_brief 29 = .ok (.aload_n 0, 1) := by decide +kernel
theorem dL_brief_30 : decode cL_brief 30 = .ok (.iconst 0, 1) := by decide +kernel
theorem dL_brief_31 : decode cL_brief 31 = .ok (.iconst 3, 1) := by decide +kernel
theorem dL_brief_32 : decode cL_brief 32 = .ok (.invokevirtual 34, 3) := by decide +kernel
theorem dL_brief_35 : decode cL_brief 35 = .ok (.ifCond .ne 17, 3) := by decide +kernel
theorem dL_brief_38 : decode cL_brief 38 = .ok (.aload_n 0, 1) := by decide +kernel
theorem dL_brief_39 : decode cL_brief 39 = .ok (.iconst 0, 1) := by decide +kernel
theorem dL_brief_40 : decode cL_brief 40 = .ok (.iconst 4, 1) := by decide +kernel
theorem dL_brief_41 : decode cL_brief 41 = .ok (.invokevirtual 34, 3) := by decide +kernel
theorem dL_brief_44 : decode cL_brief 44 = .ok (.iconst 1, 1) := by decide +kernel
theorem dL_brief_45 : decode cL_brief 45 = .ok (.if_icmp .ne 7, 3) := by decide +kernel
theorem dL_brief_48 : decode cL_brief 48 = .ok (.iconst 1, 1) := by decide +kernel
theorem dL_brief_49 : decode cL_brief 49 = .ok (.goto 4, 3) := by decide +kernel
theorem dL_brief_52 : decode cL_brief 52 = .ok (.iconst 0, 1) := by decide +kernel
theorem dL_brief_53 : decode cL_brief 53 = .ok (.istore 4, 2) := by decide +kernel
theorem dL_brief_55 : decode cL_brief 55 = .ok (.iconst 0, 1) := by decide +kernel
theorem dL_brief_56 : decode cL_brief 56 = .ok (.istore 5, 2) := by decide +kernel
theorem dL_brief_58 : decode cL_brief 58 = .ok (.iload 5, 2) := by decide +kernel
theorem dL_brief_60 : decode cL_brief 60 = .ok (.iload_n 1, 1) := by decide +kernel
theorem dL_brief_61 : decode cL_brief 61 = .ok (.if_icmp .ge 304, 3) := by decide +kernel
theorem dL_brief_64 : decode cL_brief 64 = .ok (.iload 4, 2) := by decide +kernel
theorem dL_brief_66 : decode cL_brief 66 = .ok (.ifCond .eq 299, 3) := by decide +kernel
theorem dL_brief_69 : decode cL_brief 69 = .ok (.iload 5, 2) := by decide +kernel
theorem dL_brief_71 : decode cL_brief 71 = .ok (.ifCond .le 26, 3) := by decide +kernel
theorem dL_brief_74 : decode cL_brief 74 = .ok (.aload_n 0, 1) := by decide +kernel
theorem dL_brief_75 : decode cL_brief 75 = .ok (.iload 5, 2) := by decide +kernel
theorem dL_brief_77 : decode cL_brief 77 = .ok (.iconst 2, 1) := by decide +kernel
theorem dL_brief_78 : decode cL_brief 78 = .ok (.invokevirtual 34, 3) := by decide +kernel
theorem dL_brief_81 : decode cL_brief 81 = .ok (.aload_n 0, 1) := by decide +kernel
theorem dL_brief_82 : decode cL_brief 82 = .ok (.iload 5, 2) := by decide +kernel
theorem dL_brief_84 : decode cL_brief 84 = .ok (.iconst 1, 1) := by decide +kernel
theorem dL_brief_85 : decode cL_brief 85 = .ok (.isub, 1) := by decide +kernel
theorem dL_brief_86 : decode cL_brief 86 = .ok (.iconst 2, 1) := by decide +kernel
theorem dL_brief_87 : decode cL_brief 87 = .ok (.invokevirtual 34, 3) := by decide +kernel
theorem dL_brief_90 : decode cL_brief 90 = .ok (.if_icmp .eq 7, 3) := by decide +kernel
theorem dL_brief_93 : decode cL_brief 93 = .ok (.iconst 1, 1) := by decide +kernel
theorem dL_brief_94 : decode cL_brief 94 = .ok (.goto 4, 3) := by decide +kernel
theorem dL_brief_97 : decode cL_brief 97 = .ok (.iconst 0, 1) := by decide +kernel
theorem dL_brief_98 : decode cL_brief 98 = .ok (.istore 6, 2) := by decide +kernel
theorem dL_brief_100 : decode cL_brief 100 = .ok (.iload_n 2, 1) := by decide +kernel
theorem dL_brief_101 : decode cL_brief 101 = .ok (.aload_n 0, 1) := by decide +kernel
theorem dL_brief_102 : decode cL_brief 102 = .ok (.iload 5, 2) := by decide +kernel
theorem dL_brief_104 : decode cL_brief 104 = .ok (.iconst 1, 1) := by decide +kernel
theorem dL_brief_105 : decode cL_brief 105 = .ok (.invokevirtual 34, 3) := by decide +kernel
theorem dL_brief_108 : decode cL_brief 108 = .ok (.iadd, 1) := by decide +kernel
theorem dL_brief_109 : decode cL_brief 109 = .ok (.istore_n 2, 1) := by decide +kernel
theorem dL_brief_110 : decode cL_brief 110 = .ok (.iload 6, 2) := by decide +kernel
theorem dL_brief_112 : decode cL_brief 112 = .ok (.ifCond .ne 8, 3) := by decide +kernel
theorem dL_brief_115 : decode cL_brief 115 = .ok (.iload 5, 2) := by decide +kernel
theorem dL_brief_117 : decode cL_brief 117 = .ok (.ifCond .ne 13, 3) := by decide +kernel
theorem dL_brief_120 : decode cL_brief 120 = .ok (.aload_n 0, 1) := by decide +kernel
theorem dL_brief_121 : decode cL_brief 121 = .ok (.iload 5, 2) := by decide +kernel
theorem dL_brief_123 : decode cL_brief 123 = .ok (.iconst 1, 1) := by decide +kernel
theorem dL_brief_124 : decode cL_brief 124 = .ok (.invokevirtual 34, 3) := by decide +kernel
theorem dL_brief_127 : decode cL_brief 127 = .ok (.goto 12, 3) := by decide +kernel
theorem dL_brief_130 : decode cL_brief 130 = .ok (.iload_n 3, 1) := by decide +kernel
theorem dL_brief_131 : decode cL_brief 131 = .ok (.aload_n 0, 1) := by decide +kernel
theorem dL_brief_132 : decode cL_brief 132 = .ok (.iload 5, 2) := by decide +kernel
theorem dL_brief_134 : decode cL_brief 134 = .ok (.iconst 1, 1) := by decide +kernel
theorem dL_brief_135 : decode cL_brief 135 = .ok (.invokevirtual 34, 3) := by decide +kernel
theorem dL_brief_138 : decode cL_brief 138 = .ok (.iadd, 1) := by decide +kernel
theorem dL_brief_139 : decode cL_brief 139 = .ok (.istore_n 3, 1) := by decide +kernel
theorem dL_brief_140 : decode cL_brief 140 = .ok (.aload_n 0, 1) := by decide +kernel
theorem dL_brief_141 : decode cL_brief 141 = .ok (.iload 5, 2) := by decide +kernel
theorem dL_brief_143 : decode cL_brief 143 = .ok (.iconst 1, 1) := by decide +kernel
theorem dL_brief_144 : decode cL_brief 144 = .ok (.invokevirtual 34, 3) := by decide +kernel
theorem dL_brief_147 : decode cL_brief 147 = .ok (.iconst 1, 1) := by decide +kernel
theorem dL_brief_148 : decode cL_brief 148 = .ok (.if_icmp .lt 104, 3) := by decide +kernel
theorem dL_brief_151 : decode cL_brief 151 = .ok (.aload_n 0, 1) := by decide +kernel
theorem dL_brief_152 : decode cL_brief 152 = .ok (.iload 5, 2) := by decide +kernel
theorem dL_brief_154 : decode cL_brief 154 = .ok (.iconst 1, 1) := by decide +kernel
theorem dL_brief_155 : decode cL_brief 155 = .ok (.invokevirtual 34, 3) := by decide +kernel
theorem dL_brief_158 : decode cL_brief 158 = .ok (.bipush 60, 2) := by decide +kernel
theorem dL_brief_160 : decode cL_brief 160 = .ok (.if_icmp .gt 92, 3) := by decide +kernel
theorem dL_brief_163 : decode cL_brief 163 = .ok (.iload 5, 2) := by decide +kernel
theorem dL_brief_165 : decode cL_brief 165 = .ok (.ifCond .eq 63, 3) := by decide +kernel
theorem dL_brief_168 : decode cL_brief 168 = .ok (.iload 6, 2) := by decide +kernel
theorem dL_brief_170 : decode cL_brief 170 = .ok (.ifCond .eq 37, 3) := by decide +kernel
theorem dL_brief_173 : decode cL_brief 173 = .ok (.aload_n 0, 1) := by decide +kernel
theorem dL_brief_174 : decode cL_brief 174 = .ok (.iload 5, 2) := by decide +kernel
theorem dL_brief_176 : decode cL_brief 176 = .ok (.iconst 2, 1) := by decide +kernel
theorem dL_brief_177 : decode cL_brief 177 = .ok (.invokevirtual 34, 3) := by decide +kernel
theorem dL_brief_180 : decode cL_brief 180 = .ok (.aload_n 0, 1) := by decide +kernel
theorem dL_brief_181 : decode cL_brief 181 = .ok (.iload 5, 2) := by decide +kernel
theorem dL_brief_183 : decode cL_brief 183 = .ok (.iconst 1, 1) := by decide +kernel
theorem dL_brief_184 : decode cL_brief 184 = .ok (.isub, 1) := by decide +kernel
theorem dL_brief_185 : decode cL_brief 185 = .ok (.iconst 2, 1) := by decide +kernel
theorem dL_brief_186 : decode cL_brief 186 = .ok (.invokevirtual 34, 3) := by decide +kernel
theorem dL_brief_189 : decode cL_brief 189 = .ok (.iconst 1, 1) := by decide +kernel
theorem dL_brief_190 : decode cL_brief 190 = .ok (.iadd, 1) := by decide +kernel
theorem dL_brief_191 : decode cL_brief 191 = .ok (.if_icmp .ne 61, 3) := by decide +kernel
theorem dL_brief_194 : decode cL_brief 194 = .ok (.aload_n 0, 1) := by decide +kernel
theorem dL_brief_195 : decode cL_brief 195 = .ok (.iload 5, 2) := by decide +kernel
theorem dL_brief_197 : decode cL_brief 197 = .ok (.iconst 3, 1) := by decide +kernel
theorem dL_brief_198 : decode cL_brief 198 = .ok (.invokevirtual 34, 3) := by decide +kernel
theorem dL_brief_201 : decode cL_brief 201 = .ok (.ifCond .ne 51, 3) := by decide +kernel
theorem dL_brief_204 : decode cL_brief 204 = .ok (.goto 24, 3) := by decide +kernel
theorem dL_brief_207 : decode cL_brief 207 = .ok (.aload_n 0, 1) := by decide +kernel
theorem dL_brief_208 : decode cL_brief 208 = .ok (.iload 5, 2) := by decide +kernel
theorem dL_brief_210 : decode cL_brief 210 = .ok (.iconst 3, 1) := by decide +kernel
theorem dL_brief_211 : decode cL_brief 211 = .ok (.invokevirtual 34, 3) := by decide +kernel
theorem dL_brief_214 : decode cL_brief 214 = .ok (.aload_n 0, 1) := by decide +kernel
theorem dL_brief_215 : decode cL_brief 215 = .ok (.iload 5, 2) := by decide +kernel
theorem dL_brief_217 : decode cL_brief 217 = .ok (.iconst 1, 1) := by decide +kernel
theorem dL_brief_218 : decode cL_brief 218 = .ok (.isub, 1) := by decide +kernel
theorem dL_brief_219 : decode cL_brief 219 = .ok (.iconst 3, 1) := by decide +kernel
theorem dL_brief_220 : decode cL_brief 220 = .ok (.invokevirtual 34, 3) := by decide +kernel
theorem dL_brief_223 : decode cL_brief 223 = .ok (.iconst 1, 1) := by decide +kernel
theorem dL_brief_224 : decode cL_brief 224 = .ok (.iadd, 1) := by decide +kernel
theorem dL_brief_225 : decode cL_brief 225 = .ok (.if_icmp .ne 27, 3) := by decide +kernel
theorem dL_brief_228 : decode cL_brief 228 = .ok (.iload_n 3, 1) := by decide +kernel
theorem dL_brief_229 : decode cL_brief 229 = .ok (.aload_n 0, 1) := by decide +kernel
theorem dL_brief_230 : decode cL_brief 230 = .ok (.bipush 7, 2) := by decide +kernel
theorem dL_brief_232 : decode cL_brief 232 = .ok (.invokevirtual 31, 3) := by decide +kernel
theorem dL_brief_235 : decode cL_brief 235 = .ok (.if_icmp .le 13, 3) := by decide +kernel
theorem dL_brief_238 : decode cL_brief 238 = .ok (.aload_n 0, 1) := by decide +kernel
theorem dL_brief_239 : decode cL_brief 239 = .ok (.iload 5, 2) := by decide +kernel
theorem dL_brief_241 : decode cL_brief 241 = .ok (.iconst 3, 1) := by decide +kernel
theorem dL_brief_242 : decode cL_brief 242 = .ok (.invokevirtual 34, 3) := by decide +kernel
theorem dL_brief_245 : decode cL_brief 245 = .ok (.ifCond .ne 7, 3) := by decide +kernel
theorem dL_brief_248 : decode cL_brief 248 = .ok (.iconst 1, 1) := by decide +kernel
theorem dL_brief_249 : decode cL_brief 249 = .ok (.goto 4, 3) := by decide +kernel
theorem dL_brief_252 : decode cL_brief 252 = .ok (.iconst 0, 1) := by decide +kernel
theorem dL_brief_253 : decode cL_brief 253 = .ok (.istore 4, 2) := by decide +kernel
theorem dL_brief_255 : decode cL_brief 255 = .ok (.iload 4, 2) := by decide +kernel
theorem dL_brief_257 : decode cL_brief 257 = .ok (.ifCond .eq 54, 3) := by decide +kernel
theorem dL_brief_260 : decode cL_brief 260 = .ok (.iload 5, 2) := by decide +kernel
theorem dL_brief_262 : decode cL_brief 262 = .ok (.ifCond .eq 45, 3) := by decide +kernel
theorem dL_brief_265 : decode cL_brief 265 = .ok (.aload_n 0, 1) := by decide +kernel
theorem dL_brief_266 : decode cL_brief 266 = .ok (.iload 5, 2) := by decide +kernel
theorem dL_brief_268 : decode cL_brief 268 = .ok (.iconst 4, 1) := by decide +kernel
theorem dL_brief_269 : decode cL_brief 269 = .ok (.invokevirtual 34, 3) := by decide +kernel
theorem dL_brief_272 : decode cL_brief 272 = .ok (.aload_n 0, 1) := by decide +kernel
theorem dL_brief_273 : decode cL_brief 273 = .ok (.iload 5, 2) := by decide +kernel
theorem dL_brief_275 : decode cL_brief 275 = .ok (.iconst 1, 1) := by decide +kernel
theorem dL_brief_276 : decode cL_brief 276 = .ok (.isub, 1) := by decide +kernel
theorem dL_brief_277 : decode cL_brief 277 = .ok (.iconst 4, 1) := by decide +kernel
theorem dL_brief_278 : decode cL_brief 278 = .ok (.invokevirtual 34, 3) := by decide +kernel
theorem dL_brief_281 : decode cL_brief 281 = .ok (.aload_n 0, 1) := by decide +kernel
theorem dL_brief_282 : decode cL_brief 282 = .ok (.iload 5, 2) := by decide +kernel
theorem dL_brief_284 : decode cL_brief 284 = .ok (.iconst 1, 1) := by decide +kernel
theorem dL_brief_285 : decode cL_brief 285 = .ok (.isub, 1) := by decide +kernel
theorem dL_brief_286 : decode cL_brief 286 = .ok (.iconst 1, 1) := by decide +kernel
theorem dL_brief_287 : decode cL_brief 287 = .ok (.invokevirtual 34, 3) := by decide +kernel
theorem dL_brief_290 : decode cL_brief 290 = .ok (.iadd, 1) := by decide +kernel
theorem dL_brief_291 : decode cL_brief 291 = .ok (.iconst 1, 1) := by decide +kernel
theorem dL_brief_292 : decode cL_brief 292 = .ok (.iadd, 1) := by decide +kernel
theorem dL_brief_293 : decode cL_brief 293 = .ok (.iload 6, 2) := by decide +kernel
theorem dL_brief_295 : decode cL_brief 295 = .ok (.ifCond .eq 7, 3) := by decide +kernel
theorem dL_brief_298 : decode cL_brief 298 = .ok (.iconst 2, 1) := by decide +kernel
theorem dL_brief_299 : decode cL_brief 299 = .ok (.goto 4, 3) := by decide +kernel
theorem dL_brief_302 : decode cL_brief 302 = .ok (.iconst 0, 1) := by decide +kernel
theorem dL_brief_303 : decode cL_brief 303 = .ok (.iadd, 1) := by decide +kernel
theorem dL_brief_304 : decode cL_brief 304 = .ok (.if_icmp .ne 7, 3) := by decide +kernel
theorem dL_brief_307 : decode cL_brief 307 = .ok (.iconst 1, 1) := by decide +kernel
theorem dL_brief_308 : decode cL_brief 308 = .ok (.goto 4, 3) := by decide +kernel
theorem dL_brief_311 : decode cL_brief 311 = .ok (.iconst 0, 1) := by decide +kernel
theorem dL_brief_312 : decode cL_brief 312 = .ok (.istore 4, 2) := by decide +kernel
theorem dL_brief_314 : decode cL_brief 314 = .ok (.iconst 0, 1) := by decide +kernel
theorem dL_brief_315 : decode cL_brief 315 = .ok (.istore 7, 2) := by decide +kernel
theorem dL_brief_317 : decode cL_brief 317 = .ok (.iload 7, 2) := by decide +kernel
theorem dL_brief_319 : decode cL_brief 319 = .ok (.iload 5, 2) := by decide +kernel
theorem dL_brief_321 : decode cL_brief 321 = .ok (.if_icmp .ge 38, 3) := by decide +kernel
theorem dL_brief_324 : decode cL_brief 324 = .ok (.iload 4, 2) := by decide +kernel
theorem dL_brief_326 : decode cL_brief 326 = .ok (.ifCond .eq 33, 3) := by decide +kernel
theorem dL_brief_329 : decode cL_brief 329 = .ok (.aload_n 0, 1) := by decide +kernel
theorem dL_brief_330 : decode cL_brief 330 = .ok (.iload 7, 2) := by decide +kernel
theorem dL_brief_332 : decode cL_brief 332 = .ok (.iconst 0, 1) := by decide +kernel
theorem dL_brief_333 : decode cL_brief 333 = .ok (.invokevirtual 34, 3) := by decide +kernel
theorem dL_brief_336 : decode cL_brief 336 = .ok (.aload_n 0, 1) := by decide +kernel
theorem dL_brief_337 : decode cL_brief 337 = .ok (.iload 5, 2) := by decide +kernel
theorem dL_brief_339 : decode cL_brief 339 = .ok (.iconst 0, 1) := by decide +kernel
theorem dL_brief_340 : decode cL_brief 340 = .ok (.invokevirtual 34, 3) := by decide +kernel
theorem dL_brief_343 : decode cL_brief 343 = .ok (.if_icmp .eq 7, 3) := by decide +kernel
theorem dL_brief_346 : decode cL_brief 346 = .ok (.iconst 1, 1) := by decide +kernel
theorem dL_brief_347 : decode cL_brief 347 = .ok (.goto 4, 3) := by decide +kernel
theorem dL_brief_350 : decode cL_brief 350 = .ok (.iconst 0, 1) := by decide +kernel
theorem dL_brief_351 : decode cL_brief 351 = .ok (.istore 4, 2) := by decide +kernel
theorem dL_brief_353 : decode cL_brief 353 = .ok (.iinc 7 1, 3) := by decide +kernel
theorem dL_brief_356 : decode cL_brief 356 = .ok (.goto (-39), 3) := by decide +kernel
theorem dL_brief_359 : decode cL_brief 359 = .ok (.iinc 5 1, 3) := by decide +kernel
theorem dL_brief_362 : decode cL_brief 362 = .ok (.goto (-304), 3) := by decide +kernel
theorem dL_brief_365 : decode cL_brief 365 = .ok (.iconst 0, 1) := by decide +kernel
theorem dL_brief_366 : decode cL_brief 366 = .ok (.istore 5, 2) := by decide +kernel
theorem dL_brief_368 : decode cL_brief 368 = .ok (.iconst 0, 1) := by decide +kernel
theorem dL_brief_369 : decode cL_brief 369 = .ok (.istore 6, 2) := by decide +kernel
theorem dL_brief_371 : decode cL_brief 371 = .ok (.iconst 0, 1) := by decide +kernel
theorem dL_brief_372 : decode cL_brief 372 = .ok (.istore 7, 2) := by decide +kernel
theorem dL_brief_374 : decode cL_brief 374 = .ok (.iconst 0, 1) := by decide +kernel
theorem dL_brief_375 : decode cL_brief 375 = .ok (.istore 8, 2) := by decide +kernel
theorem dL_brief_377 : decode cL_brief 377 = .ok (.iload 8, 2) := by decide +kernel
theorem dL_brief_379 : decode cL_brief 379 = .ok (.bipush 12, 2) := by decide +kernel
theorem dL_brief_381 : decode cL_brief 381 = .ok (.if_icmp .ge 262, 3) := by decide +kernel
theorem dL_brief_384 : decode cL_brief 384 = .ok (.iload 4, 2) := by decide +kernel
theorem dL_brief_386 : decode cL_brief 386 = .ok (.ifCond .eq 257, 3) := by decide +kernel
theorem dL_brief_389 : decode cL_brief 389 = .ok (.aload_n 0, 1) := by decide +kernel
theorem dL_brief_390 : decode cL_brief 390 = .ok (.iload 8, 2) := by decide +kernel
theorem dL_brief_392 : decode cL_brief 392 = .ok (.iconst 0, 1) := by decide +kernel
theorem dL_brief_393 : decode cL_brief 393 = .ok (.invokevirtual 37, 3) := by decide +kernel
theorem dL_brief_396 : decode cL_brief 396 = .ok (.istore 9, 2) := by decide +kernel
theorem dL_brief_398 : decode cL_brief 398 = .ok (.iload 5, 2) := by decide +kernel
theorem dL_brief_400 : decode cL_brief 400 = .ok (.iload 9, 2) := by decide +kernel
theorem dL_brief_402 : decode cL_brief 402 = .ok (.iadd, 1) := by decide +kernel
theorem dL_brief_403 : decode cL_brief 403 = .ok (.istore 5, 2) := by decide +kernel
theorem dL_brief_405 : decode cL_brief 405 = .ok (.iload 6, 2) := by decide +kernel
theorem dL_brief_407 : decode cL_brief 407 = .ok (.aload_n 0, 1) := by decide +kernel
theorem dL_brief_408 : decode cL_brief 408 = .ok (.iload 8, 2) := by decide +kernel
theorem dL_brief_410 : decode cL_brief 410 = .ok (.iconst 1, 1) := by decide +kernel
theorem dL_brief_411 : decode cL_brief 411 = .ok (.invokevirtual 37, 3) := by decide +kernel
theorem dL_brief_414 : decode cL_brief 414 = .ok (.iadd, 1) := by decide +kernel
theorem dL_brief_415 : decode cL_brief 415 = .ok (.istore 6, 2) := by decide +kernel
theorem dL_brief_417 : decode cL_brief 417 = .ok (.iload 7, 2) := by decide +kernel
theorem dL_brief_419 : decode cL_brief 419 = .ok (.aload_n 0, 1) := by decide +kernel
theorem dL_brief_420 : decode cL_brief 420 = .ok (.iload 8, 2) := by decide +kernel
theorem dL_brief_422 : decode cL_brief 422 = .ok (.iconst 2, 1) := by decide +kernel
theorem dL_brief_423 : decode cL_brief 423 = .ok (.invokevirtual 37, 3) := by decide +kernel
theorem dL_brief_426 : decode cL_brief 426 = .ok (.iadd, 1) := by decide +kernel
theorem dL_brief_427 : decode cL_brief 427 = .ok (.istore 7, 2) := by decide +kernel
theorem dL_brief_429 : decode cL_brief 429 = .ok (.iload 9, 2) := by decide +kernel
theorem dL_brief_431 : decode cL_brief 431 = .ok (.bipush 6, 2) := by decide +kernel
theorem dL_brief_433 : decode cL_brief 433 = .ok (.if_icmp .gt 40, 3) := by decide +kernel
theorem dL_brief_436 : decode cL_brief 436 = .ok (.aload_n 0, 1) := by decide +kernel
theorem dL_brief_437 : decode cL_brief 437 = .ok (.iload 8, 2) := by decide +kernel
theorem dL_brief_439 : decode cL_brief 439 = .ok (.iconst 1, 1) := by decide +kernel
theorem dL_brief_440 : decode cL_brief 440 = .ok (.invokevirtual 37, 3) := by decide +kernel
theorem dL_brief_443 : decode cL_brief 443 = .ok (.iload 9, 2) := by decide +kernel
theorem dL_brief_445 : decode cL_brief 445 = .ok (.if_icmp .gt 28, 3) := by decide +kernel
theorem dL_brief_448 : decode cL_brief 448 = .ok (.aload_n 0, 1) := by decide +kernel
theorem dL_brief_449 : decode cL_brief 449 = .ok (.iload 8, 2) := by decide +kernel
theorem dL_brief_451 : decode cL_brief 451 = .ok (.iconst 3, 1) := by decide +kernel
theorem dL_brief_452 : decode cL_brief 452 = .ok (.invokevirtual 37, 3) := by decide +kernel
theorem dL_brief_455 : decode cL_brief 455 = .ok (.ifCond .ge 14, 3) := by decide +kernel
theorem dL_brief_458 : decode cL_brief 458 = .ok (.aload_n 0, 1) := by decide +kernel
theorem dL_brief_459 : decode cL_brief 459 = .ok (.iload 8, 2) := by decide +kernel
theorem dL_brief_461 : decode cL_brief 461 = .ok (.iconst 2, 1) := by decide +kernel
theorem dL_brief_462 : decode cL_brief 462 = .ok (.invokevirtual 37, 3) := by decide +kernel
theorem dL_brief_465 : decode cL_brief 465 = .ok (.iconst 1, 1) := by decide +kernel
theorem dL_brief_466 : decode cL_brief 466 = .ok (.if_icmp .ne 7, 3) := by decide +kernel
theorem dL_brief_469 : decode cL_brief 469 = .ok (.iconst 1, 1) := by decide +kernel
theorem dL_brief_470 : decode cL_brief 470 = .ok (.goto 4, 3) := by decide +kernel
theorem dL_brief_473 : decode cL_brief 473 = .ok (.iconst 0, 1) := by decide +kernel
theorem dL_brief_474 : decode cL_brief 474 = .ok (.istore 4, 2) := by decide +kernel
theorem dL_brief_476 : decode cL_brief 476 = .ok (.iconst 0, 1) := by decide +kernel
theorem dL_brief_477 : decode cL_brief 477 = .ok (.istore 10, 2) := by decide +kernel
theorem dL_brief_479 : decode cL_brief 479 = .ok (.iload 10, 2) := by decide +kernel
theorem dL_brief_481 : decode cL_brief 481 = .ok (.iload 9, 2) := by decide +kernel
theorem dL_brief_483 : decode cL_brief 483 = .ok (.if_icmp .ge 154, 3) := by decide +kernel
theorem dL_brief_486 : decode cL_brief 486 = .ok (.iload 4, 2) := by decide +kernel
theorem dL_brief_488 : decode cL_brief 488 = .ok (.ifCond .eq 149, 3) := by decide +kernel
theorem dL_brief_491 : decode cL_brief 491 = .ok (.aload_n 0, 1) := by decide +kernel
theorem dL_brief_492 : decode cL_brief 492 = .ok (.iload 8, 2) := by decide +kernel
theorem dL_brief_494 : decode cL_brief 494 = .ok (.iload 10, 2) := by decide +kernel
theorem dL_brief_496 : decode cL_brief 496 = .ok (.iconst 1, 1) := by decide +kernel
theorem dL_brief_497 : decode cL_brief 497 = .ok (.invokevirtual 40, 3) := by decide +kernel
theorem dL_brief_500 : decode cL_brief 500 = .ok (.istore 11, 2) := by decide +kernel
theorem dL_brief_502 : decode cL_brief 502 = .ok (.iload 11, 2) := by decide +kernel
theorem dL_brief_504 : decode cL_brief 504 = .ok (.iconst (-1), 1) := by decide +kernel
theorem dL_brief_505 : decode cL_brief 505 = .ok (.if_icmp .eq 22, 3) := by decide +kernel
theorem dL_brief_508 : decode cL_brief 508 = .ok (.aload_n 0, 1) := by decide +kernel
theorem dL_brief_509 : decode cL_brief 509 = .ok (.iload 8, 2) := by decide +kernel
theorem dL_brief_511 : decode cL_brief 511 = .ok (.iload 10, 2) := by decide +kernel
theorem dL_brief_513 : decode cL_brief 513 = .ok (.iconst 2, 1) := by decide +kernel
theorem dL_brief_514 : decode cL_brief 514 = .ok (.invokevirtual 40, 3) := by decide +kernel
theorem dL_brief_517 : decode cL_brief 517 = .ok (.aload_n 0, 1) := by decide +kernel
theorem dL_brief_518 : decode cL_brief 518 = .ok (.iload 11, 2) := by decide +kernel
theorem dL_brief_520 : decode cL_brief 520 = .ok (.iconst 1, 1) := by decide +kernel
theorem dL_brief_521 : decode cL_brief 521 = .ok (.invokevirtual 34, 3) := by decide +kernel
theorem dL_brief_524 : decode cL_brief 524 = .ok (.if_icmp .le 7, 3) := by decide +kernel
theorem dL_brief_527 : decode cL_brief 527 = .ok (.iconst 1, 1) := by decide +kernel
theorem dL_brief_528 : decode cL_brief 528 = .ok (.goto 4, 3) := by decide +kernel
theorem dL_brief_531 : decode cL_brief 531 = .ok (.iconst 0, 1) := by decide +kernel
theorem dL_brief_532 : decode cL_brief 532 = .ok (.istore 12, 2) := by decide +kernel
theorem dL_brief_534 : decode cL_brief 534 = .ok (.iload 11, 2) := by decide +kernel
theorem dL_brief_536 : decode cL_brief 536 = .ok (.iconst (-1), 1) := by decide +kernel
theorem dL_brief_537 : decode cL_brief 537 = .ok (.if_icmp .eq 22, 3) := by decide +kernel
theorem dL_brief_540 : decode cL_brief 540 = .ok (.aload_n 0, 1) := by decide +kernel
theorem dL_brief_541 : decode cL_brief 541 = .ok (.iload 11, 2) := by decide +kernel
theorem dL_brief_543 : decode cL_brief 543 = .ok (.iconst 0, 1) := by decide +kernel
theorem dL_brief_544 : decode cL_brief 544 = .ok (.invokevirtual 34, 3) := by decide +kernel
theorem dL_brief_547 : decode cL_brief 547 = .ok (.aload_n 0, 1) := by decide +kernel
theorem dL_brief_548 : decode cL_brief 548 = .ok (.iload 8, 2) := by decide +kernel
theorem dL_brief_550 : decode cL_brief 550 = .ok (.iload 10, 2) := by decide +kernel
theorem dL_brief_552 : decode cL_brief 552 = .ok (.iconst 0, 1) := by decide +kernel
theorem dL_brief_553 : decode cL_brief 553 = .ok (.invokevirtual 40, 3) := by decide +kernel
theorem dL_brief_556 : decode cL_brief 556 = .ok (.if_icmp .ne 72, 3) := by decide +kernel
theorem dL_brief_559 : decode cL_brief 559 = .ok (.aload_n 0, 1) := by decide +kernel
theorem dL_brief_560 : decode cL_brief 560 = .ok (.iload 8, 2) := by decide +kernel
theorem dL_brief_562 : decode cL_brief 562 = .ok (.iload 10, 2) := by decide +kernel
theorem dL_brief_564 : decode cL_brief 564 = .ok (.iconst 3, 1) := by decide +kernel
theorem dL_brief_565 : decode cL_brief 565 = .ok (.invokevirtual 40, 3) := by decide +kernel
theorem dL_brief_568 : decode cL_brief 568 = .ok (.iload 12, 2) := by decide +kernel
theorem dL_brief_570 : decode cL_brief 570 = .ok (.ifCond .eq 7, 3) := by decide +kernel
theorem dL_brief_573 : decode cL_brief 573 = .ok (.iconst 1, 1) := by decide +kernel
theorem dL_brief_574 : decode cL_brief 574 = .ok (.goto 4, 3) := by decide +kernel
theorem dL_brief_577 : decode cL_brief 577 = .ok (.iconst 0, 1) := by decide +kernel
theorem dL_brief_578 : decode cL_brief 578 = .ok (.if_icmp .ne 50, 3) := by decide +kernel
theorem dL_brief_581 : decode cL_brief 581 = .ok (.aload_n 0, 1) := by decide +kernel
theorem dL_brief_582 : decode cL_brief 582 = .ok (.iload 8, 2) := by decide +kernel
theorem dL_brief_584 : decode cL_brief 584 = .ok (.iload 10, 2) := by decide +kernel
theorem dL_brief_586 : decode cL_brief 586 = .ok (.iconst 4, 1) := by decide +kernel
theorem dL_brief_587 : decode cL_brief 587 = .ok (.invokevirtual 40, 3) := by decide +kernel
theorem dL_brief_590 : decode cL_brief 590 = .ok (.iconst (-1), 1) := by decide +kernel
theorem dL_brief_591 : decode cL_brief 591 = .ok (.if_icmp .ne 7, 3) := by decide +kernel
theorem dL_brief_594 : decode cL_brief 594 = .ok (.iconst 1, 1) := by decide +kernel
theorem dL_brief_595 : decode cL_brief 595 = .ok (.goto 4, 3) := by decide +kernel
theorem dL_brief_598 : decode cL_brief 598 = .ok (.iconst 0, 1) := by decide +kernel
theorem dL_brief_599 : decode cL_brief 599 = .ok (.iload 12, 2) := by decide +kernel
theorem dL_brief_601 : decode cL_brief 601 = .ok (.if_icmp .ne 27, 3) := by decide +kernel
theorem dL_brief_604 : decode cL_brief 604 = .ok (.iload 12, 2) := by decide +kernel
theorem dL_brief_606 : decode cL_brief 606 = .ok (.ifCond .ne 18, 3) := by decide +kernel
theorem dL_brief_609 : decode cL_brief 609 = .ok (.aload_n 0, 1) := by decide +kernel
theorem dL_brief_610 : decode cL_brief 610 = .ok (.iload 11, 2) := by decide +kernel
theorem dL_brief_612 : decode cL_brief 612 = .ok (.invokevirtual 43, 3) := by decide +kernel
theorem dL_brief_615 : decode cL_brief 615 = .ok (.iload 8, 2) := by decide +kernel
theorem dL_brief_617 : decode cL_brief 617 = .ok (.ishr, 1) := by decide +kernel
theorem dL_brief_618 : decode cL_brief 618 = .ok (.iconst 1, 1) := by decide +kernel
theorem dL_brief_619 : decode cL_brief 619 = .ok (.iand, 1) := by decide +kernel
theorem dL_brief_620 : decode cL_brief 620 = .ok (.iconst 1, 1) := by decide +kernel
theorem dL_brief_621 : decode cL_brief 621 = .ok (.if_icmp .ne 7, 3) := by decide +kernel
theorem dL_brief_624 : decode cL_brief 624 = .ok (.iconst 1, 1) := by decide +kernel
theorem dL_brief_625 : decode cL_brief 625 = .ok (.goto 4, 3) := by decide +kernel
theorem dL_brief_628 : decode cL_brief 628 = .ok (.iconst 0, 1) := by decide +kernel
theorem dL_brief_629 : decode cL_brief 629 = .ok (.istore 4, 2) := by decide +kernel
theorem dL_brief_631 : decode cL_brief 631 = .ok (.iinc 10 1, 3) := by decide +kernel
theorem dL_brief_634 : decode cL_brief 634 = .ok (.goto (-155), 3) := by decide +kernel
theorem dL_brief_637 : decode cL_brief 637 = .ok (.iinc 8 1, 3) := by decide +kernel
theorem dL_brief_640 : decode cL_brief 640 = .ok (.goto (-263), 3) := by decide +kernel
theorem dL_brief_643 : decode cL_brief 643 = .ok (.iload 4, 2) := by decide +kernel
theorem dL_brief_645 : decode cL_brief 645 = .ok (.ifCond .eq 100, 3) := by decide +kernel
theorem dL_brief_648 : decode cL_brief 648 = .ok (.iload_n 2, 1) := by decide +kernel
theorem dL_brief_649 : decode cL_brief 649 = .ok (.aload_n 0, 1) := by decide +kernel
theorem dL_brief_650 : decode cL_brief 650 = .ok (.iconst 1, 1) := by decide +kernel
theorem dL_brief_651 : decode cL_brief 651 = .ok (.invokevirtual 31, 3) := by decide +kernel
theorem dL_brief_654 : decode cL_brief 654 = .ok (.if_icmp .ne 91, 3) := by decide +kernel
theorem dL_brief_657 : decode cL_brief 657 = .ok (.iload 5, 2) := by decide +kernel
theorem dL_brief_659 : decode cL_brief 659 = .ok (.aload_n 0, 1) := by decide +kernel
theorem dL_brief_660 : decode cL_brief 660 = .ok (.iconst 3, 1) := by decide +kernel
theorem dL_brief_661 : decode cL_brief 661 = .ok (.invokevirtual 31, 3) := by decide +kernel
theorem dL_brief_664 : decode cL_brief 664 = .ok (.if_icmp .ne 81, 3) := by decide +kernel
theorem dL_brief_667 : decode cL_brief 667 = .ok (.iload 6, 2) := by decide +kernel
theorem dL_brief_669 : decode cL_brief 669 = .ok (.aload_n 0, 1) := by decide +kernel
theorem dL_brief_670 : decode cL_brief 670 = .ok (.iconst 4, 1) := by decide +kernel
theorem dL_brief_671 : decode cL_brief 671 = .ok (.invokevirtual 31, 3) := by decide +kernel
theorem dL_brief_674 : decode cL_brief 674 = .ok (.if_icmp .ne 71, 3) := by decide +kernel
theorem dL_brief_677 : decode cL_brief 677 = .ok (.iload 7, 2) := by decide +kernel
theorem dL_brief_679 : decode cL_brief 679 = .ok (.aload_n 0, 1) := by decide +kernel
theorem dL_brief_680 : decode cL_brief 680 = .ok (.iconst 5, 1) := by decide +kernel
theorem dL_brief_681 : decode cL_brief 681 = .ok (.invokevirtual 31, 3) := by decide +kernel
theorem dL_brief_684 : decode cL_brief 684 = .ok (.if_icmp .ne 61, 3) := by decide +kernel
theorem dL_brief_687 : decode cL_brief 687 = .ok (.aload_n 0, 1) := by decide +kernel
theorem dL_brief_688 : decode cL_brief 688 = .ok (.iconst 2, 1) := by decide +kernel
theorem dL_brief_689 : decode cL_brief 689 = .ok (.invokevirtual 31, 3) := by decide +kernel
theorem dL_brief_692 : decode cL_brief 692 = .ok (.iload_n 1, 1) := by decide +kernel
theorem dL_brief_693 : decode cL_brief 693 = .ok (.ifCond .ne 7, 3) := by decide +kernel
theorem dL_brief_696 : decode cL_brief 696 = .ok (.iconst 0, 1) := by decide +kernel
theorem dL_brief_697 : decode cL_brief 697 = .ok (.goto 13, 3) := by decide +kernel
theorem dL_brief_700 : decode cL_brief 700 = .ok (.aload_n 0, 1) := by decide +kernel
theorem dL_brief_701 : decode cL_brief 701 = .ok (.iload_n 1, 1) := by decide +kernel
theorem dL_brief_702 : decode cL_brief 702 = .ok (.iconst 1, 1) := by decide +kernel
theorem dL_brief_703 : decode cL_brief 703 = .ok (.isub, 1) := by decide +kernel
theorem dL_brief_704 : decode cL_brief 704 = .ok (.iconst 2, 1) := by decide +kernel
theorem dL_brief_705 : decode cL_brief 705 = .ok (.invokevirtual 34, 3) := by decide +kernel
theorem dL_brief_708 : decode cL_brief 708 = .ok (.iconst 1, 1) := by decide +kernel
theorem dL_brief_709 : decode cL_brief 709 = .ok (.iadd, 1) := by decide +kernel
theorem dL_brief_710 : decode cL_brief 710 = .ok (.if_icmp .ne 35, 3) := by decide +kernel
theorem dL_brief_713 : decode cL_brief 713 = .ok (.aload_n 0, 1) := by decide +kernel
theorem dL_brief_714 : decode cL_brief 714 = .ok (.bipush 6, 2) := by decide +kernel
theorem dL_brief_716 : decode cL_brief 716 = .ok (.invokevirtual 31, 3) := by decide +kernel
theorem dL_brief_719 : decode cL_brief 719 = .ok (.iload_n 1, 1) := by decide +kernel
theorem dL_brief_720 : decode cL_brief 720 = .ok (.if_icmp .gt 25, 3) := by decide +kernel
theorem dL_brief_723 : decode cL_brief 723 = .ok (.aload_n 0, 1) := by decide +kernel
theorem dL_brief_724 : decode cL_brief 724 = .ok (.invokevirtual 46, 3) := by decide +kernel
theorem dL_brief_727 : decode cL_brief 727 = .ok (.dconst 0, 1) := by decide +kernel
theorem dL_brief_728 : decode cL_brief 728 = .ok (.dcmp .l, 1) := by decide +kernel
theorem dL_brief_729 : decode cL_brief 729 = .ok (.ifCond .lt 16, 3) := by decide +kernel
theorem dL_brief_732 : decode cL_brief 732 = .ok (.aload_n 0, 1) := by decide +kernel
theorem dL_brief_733 : decode cL_brief 733 = .ok (.invokevirtual 46, 3) := by decide +kernel
theorem dL_brief_736 : decode cL_brief 736 = .ok (.dconst 1, 1) := by decide +kernel
theorem dL_brief_737 : decode cL_brief 737 = .ok (.dcmp .g, 1) := by decide +kernel
theorem dL_brief_738 : decode cL_brief 738 = .ok (.ifCond .gt 7, 3) := by decide +kernel
theorem dL_brief_741 : decode cL_brief 741 = .ok (.iconst 1, 1) := by decide +kernel
theorem dL_brief_742 : decode cL_brief 742 = .ok (.goto 4, 3) := by decide +kernel
theorem dL_brief_745 : decode cL_brief 745 = .ok (.iconst 0, 1) := by decide +kernel
theorem dL_brief_746 : decode cL_brief 746 = .ok (.ireturn, 1) := by decide +kernel
theorem dL_act_0 : decode cL_act 0 = .ok (.aload_n 1, 1) := by decide +kernel
theorem dL_act_1 : decode cL_act 1 = .ok (.iload_n 2, 1) := by decide +kernel
theorem dL_act_2 : decode cL_act 2 = .ok (.iconst 1, 1) := by decide +kernel
theorem dL_act_3 : decode cL_act 3 = .ok (.iadd, 1) := by decide +kernel
theorem dL_act_4 : decode cL_act 4 = .ok (.invokestatic 50, 3) := by decide +kernel
theorem dL_act_7 : decode cL_act 7 = .ok (.istore_n 3, 1) := by decide +kernel
theorem dL_act_8 : decode cL_act 8 = .ok (.aload_n 1, 1) := by decide +kernel
theorem dL_act_9 : decode cL_act 9 = .ok (.iload_n 2, 1) := by decide +kernel
theorem dL_act_10 : decode cL_act 10 = .ok (.iconst 2, 1) := by decide +kernel
theorem dL_act_11 : decode cL_act 11 = .ok (.iadd, 1) := by decide +kernel
theorem dL_act_12 : decode cL_act 12 = .ok (.invokestatic 50, 3) := by decide +kernel
theorem dL_act_15 : decode cL_act 15 = .ok (.istore 4, 2) := by decide +kernel
theorem dL_act_17 : decode cL_act 17 = .ok (.aload_n 0, 1) := by decide +kernel
theorem dL_act_18 : decode cL_act 18 = .ok (.iconst 0, 1) := by decide +kernel
theorem dL_act_19 : decode cL_act 19 = .ok (.invokevirtual 31, 3) := by decide +kernel
theorem dL_act_22 : decode cL_act 22 = .ok (.istore 5, 2) := by decide +kernel
theorem dL_act_24 : decode cL_act 24 = .ok (.iload 5, 2) := by decide +kernel
theorem dL_act_26 : decode cL_act 26 = .ok (.ifCond .ne 7, 3) := by decide +kernel
theorem dL_act_29 : decode cL_act 29 = .ok (.iconst 0, 1) := by decide +kernel
theorem dL_act_30 : decode cL_act 30 = .ok (.goto 9, 3) := by decide +kernel
theorem dL_act_33 : decode cL_act 33 = .ok (.iload_n 3, 1) := by decide +kernel
theorem dL_act_34 : decode cL_act 34 = .ok (.iload 5, 2) := by decide +kernel
theorem dL_act_36 : decode cL_act 36 = .ok (.invokestatic 56, 3) := by decide +kernel
theorem dL_act_39 : decode cL_act 39 = .ok (.istore 6, 2) := by decide +kernel
theorem dL_act_41 : decode cL_act 41 = .ok (.aload_n 1, 1) := by decide +kernel
theorem dL_act_42 : decode cL_act 42 = .ok (.iload_n 2, 1) := by decide +kernel
theorem dL_act_43 : decode cL_act 43 = .ok (.invokestatic 50, 3) := by decide +kernel
theorem dL_act_46 : decode cL_act 46 = .ok (.bipush 20, 2) := by decide +kernel
theorem dL_act_48 : decode cL_act 48 = .ok (.invokestatic 56, 3) := by decide +kernel
theorem dL_act_51 : decode cL_act 51 = .ok (.tableswitch 309 0 18 #[89, 89, 89, 89, 89, 111, 135, 152, 178, 185, 185, 236, 236, 236, 236, 270, 281, 281, 293], 89) := by decide +kernel
theorem dL_act_140 : decode cL_act 140 = .ok (.aload_n 0, 1) := by decide +kernel
theorem dL_act_141 : decode cL_act 141 = .ok (.iload_n 3, 1) := by decide +kernel
theorem dL_act_142 : decode cL_act 142 = .ok (.iload 5, 2) := by decide +kernel
theorem dL_act_144 : decode cL_act 144 = .ok (.iconst 1, 1) := by decide +kernel
theorem dL_act_145 : decode cL_act 145 = .ok (.iadd, 1) := by decide +kernel
theorem dL_act_146 : decode cL_act 146 = .ok (.invokestatic 56, 3) := by decide +kernel
theorem dL_act_149 : decode cL_act 149 = .ok (.iconst 1, 1) := by decide +kernel
theorem dL_act_150 : decode cL_act 150 = .ok (.iload 4, 2) := by decide +kernel
theorem dL_act_152 : decode cL_act 152 = .ok (.bipush 60, 2) := by decide +kernel
theorem dL_act_154 : decode cL_act 154 = .ok (.invokestatic 56, 3) := by decide +kernel
theorem dL_act_157 : decode cL_act 157 = .ok (.iadd, 1) := by decide +kernel
theorem dL_act_158 : decode cL_act 158 = .ok (.invokestatic 59, 3) := by decide +kernel
theorem dL_act_161 : decode cL_act 161 = .ok (.ireturn, 1) := by decide +kernel
theorem dL_act_162 : decode cL_act 162 = .ok (.iload 5, 2) := by decide +kernel
theorem dL_act_164 : decode cL_act 164 = .ok (.ifCond .ne 8, 3) := by decide +kernel
theorem dL_act_167 : decode cL_act 167 = .ok (.bipush (-3), 2) := by decide +kernel
theorem dL_act_169 : decode cL_act 169 = .ok (.goto 16, 3) := by decide +kernel
theorem dL_act_172 : decode cL_act 172 = .ok (.aload_n 0, 1) := by decide +kernel
theorem dL_act_173 : decode cL_act 173 = .ok (.iload 6, 2) := by decide +kernel
theorem dL_act_175 : decode cL_act 175 = .ok (.iload 4, 2) := by decide +kernel
theorem dL_act_177 : decode cL_act 177 = .ok (.iload 5, 2) := by decide +kernel
theorem dL_act_179 : decode cL_act 179 = .ok (.invokestatic 56, 3) := by decide +kernel
theorem dL_act_182 : decode cL_act 182 = .ok (.invokevirtual 62, 3) := by decide +kernel
theorem dL_act_185 : decode cL_act 185 = .ok (.ireturn, 1) := by decide +kernel
theorem dL_act_186 : decode cL_act 186 = .ok (.iload 5, 2) := by decide +kernel
theorem dL_act_188 : decode cL_act 188 = .ok (.ifCond .ne 8, 3) := by decide +kernel
theorem dL_act_191 : decode cL_act 191 = .ok (.bipush (-3), 2) := by decide +kernel
theorem dL_act_193 : decode cL_act 193 = .ok (.goto 9, 3) := by decide +kernel
theorem dL_act_196 : decode cL_act 196 = .ok (.aload_n 0, 1) := by decide +kernel
theorem dL_act_197 : decode cL_act 197 = .ok (.iload 6, 2) := by decide +kernel
theorem dL_act_199 : decode cL_act 199 = .ok (.invokevirtual 65, 3) := by decide +kernel
theorem dL_act_202 : decode cL_act 202 = .ok (.ireturn, 1) := by decide +kernel
theorem dL_act_203 : decode cL_act 203 = .ok (.iload 5, 2) := by decide +kernel
theorem dL_act_205 : decode cL_act 205 = .ok (.ifCond .ne 8, 3) := by decide +kernel
theorem dL_act_208 : decode cL_act 208 = .ok (.bipush (-3), 2) := by decide +kernel
theorem dL_act_210 : decode cL_act 210 = .ok (.goto 18, 3) := by decide +kernel
theorem dL_act_213 : decode cL_act 213 = .ok (.aload_n 0, 1) := by decide +kernel
theorem dL_act_214 : decode cL_act 214 = .ok (.iload 6, 2) := by decide +kernel
theorem dL_act_216 : decode cL_act 216 = .ok (.iconst 1, 1) := by decide +kernel
theorem dL_act_217 : decode cL_act 217 = .ok (.iload 4, 2) := by decide +kernel
theorem dL_act_219 : decode cL_act 219 = .ok (.bipush 60, 2) := by decide +kernel
theorem dL_act_221 : decode cL_act 221 = .ok (.invokestatic 56, 3) := by decide +kernel
theorem dL_act_224 : decode cL_act 224 = .ok (.iadd, 1) := by decide +kernel
theorem dL_act_225 : decode cL_act 225 = .ok (.invokevirtual 68, 3) := by decide +kernel
theorem dL_act_228 : decode cL_act 228 = .ok (.ireturn, 1) := by decide +kernel
theorem dL_act_229 : decode cL_act 229 = .ok (.aload_n 0, 1) := by decide +kernel
theorem dL_act_230 : decode cL_act 230 = .ok (.iload 6, 2) := by decide +kernel
theorem dL_act_232 : decode cL_act 232 = .ok (.invokestatic 71, 3) := by decide +kernel
theorem dL_act_235 : decode cL_act 235 = .ok (.ireturn, 1) := by decide +kernel
theorem dL_act_236 : decode cL_act 236 = .ok (.iload 5, 2) := by decide +kernel
theorem dL_act_238 : decode cL_act 238 = .ok (.ifCond .eq 21, 3) := by decide +kernel
theorem dL_act_241 : decode cL_act 241 = .ok (.iload 5, 2) := by decide +kernel
theorem dL_act_243 : decode cL_act 243 = .ok (.bipush 30, 2) := by decide +kernel
theorem dL_act_245 : decode cL_act 245 = .ok (.if_icmp .eq 14, 3) := by decide +kernel
theorem dL_act_248 : decode cL_act 248 = .ok (.aload_n 0, 1) := by decide +kernel
theorem dL_act_249 : decode cL_act 249 = .ok (.iload 6, 2) := by decide +kernel
theorem dL_act_251 : decode cL_act 251 = .ok (.iconst 1, 1) := by decide +kernel
theorem dL_act_252 : decode cL_act 252 = .ok (.invokevirtual 34, 3) := by decide +kernel
theorem dL_act_255 : decode cL_act 255 = .ok (.iconst 1, 1) := by decide +kernel
theorem dL_act_256 : decode cL_act 256 = .ok (.if_icmp .ne 8, 3) := by decide +kernel
theorem dL_act_259 : decode cL_act 259 = .ok (.bipush (-3), 2) := by decide +kernel
theorem dL_act_261 : decode cL_act 261 = .ok (.goto 25, 3) := by decide +kernel
theorem dL_act_264 : decode cL_act 264 = .ok (.aload_n 0, 1) := by decide +kernel
theorem dL_act_265 : decode cL_act 265 = .ok (.iload 6, 2) := by decide +kernel
theorem dL_act_267 : decode cL_act 267 = .ok (.iconst 1, 1) := by decide +kernel
theorem dL_act_268 : decode cL_act 268 = .ok (.iload 4, 2) := by decide +kernel
theorem dL_act_270 : decode cL_act 270 = .ok (.aload_n 0, 1) := by decide +kernel
theorem dL_act_271 : decode cL_act 271 = .ok (.iload 6, 2) := by decide +kernel
theorem dL_act_273 : decode cL_act 273 = .ok (.iconst 1, 1) := by decide +kernel
theorem dL_act_274 : decode cL_act 274 = .ok (.invokevirtual 34, 3) := by decide +kernel
theorem dL_act_277 : decode cL_act 277 = .ok (.iconst 1, 1) := by decide +kernel
theorem dL_act_278 : decode cL_act 278 = .ok (.isub, 1) := by decide +kernel
theorem dL_act_279 : decode cL_act 279 = .ok (.invokestatic 56, 3) := by decide +kernel
theorem dL_act_282 : decode cL_act 282 = .ok (.iadd, 1) := by decide +kernel
theorem dL_act_283 : decode cL_act 283 = .ok (.invokevirtual 74, 3) := by decide +kernel
theorem dL_act_286 : decode cL_act 286 = .ok (.ireturn, 1) := by decide +kernel
theorem dL_act_287 : decode cL_act 287 = .ok (.iload 5, 2) := by decide +kernel
theorem dL_act_289 : decode cL_act 289 = .ok (.ifCond .ne 8, 3) := by decide +kernel
theorem dL_act_292 : decode cL_act 292 = .ok (.bipush (-3), 2) := by decide +kernel
theorem dL_act_294 : decode cL_act 294 = .ok (.goto 26, 3) := by decide +kernel
theorem dL_act_297 : decode cL_act 297 = .ok (.aload_n 0, 1) := by decide +kernel
theorem dL_act_298 : decode cL_act 298 = .ok (.iload 4, 2) := by decide +kernel
theorem dL_act_300 : decode cL_act 300 = .ok (.iconst 4, 1) := by decide +kernel
theorem dL_act_301 : decode cL_act 301 = .ok (.invokestatic 56, 3) := by decide +kernel
theorem dL_act_304 : decode cL_act 304 = .ok (.iload 6, 2) := by decide +kernel
theorem dL_act_306 : decode cL_act 306 = .ok (.iconst 1, 1) := by decide +kernel
theorem dL_act_307 : decode cL_act 307 = .ok (.iload_n 3, 1) := by decide +kernel
theorem dL_act_308 : decode cL_act 308 = .ok (.iload 4, 2) := by decide +kernel
theorem dL_act_310 : decode cL_act 310 = .ok (.iadd, 1) := by decide +kernel
theorem dL_act_311 : decode cL_act 311 = .ok (.bipush 60, 2) := by decide +kernel
theorem dL_act_313 : decode cL_act 313 = .ok (.invokestatic 56, 3) := by decide +kernel
theorem dL_act_316 : decode cL_act 316 = .ok (.iadd, 1) := by decide +kernel
theorem dL_act_317 : decode cL_act 317 = .ok (.invokestatic 77, 3) := by decide +kernel
theorem dL_act_320 : decode cL_act 320 = .ok (.ireturn, 1) := by decide +kernel
theorem dL_act_321 : decode cL_act 321 = .ok (.aload_n 0, 1) := by decide +kernel
theorem dL_act_322 : decode cL_act 322 = .ok (.iload 4, 2) := by decide +kernel
theorem dL_act_324 : decode cL_act 324 = .ok (.iconst 4, 1) := by decide +kernel
theorem dL_act_325 : decode cL_act 325 = .ok (.invokestatic 56, 3) := by decide +kernel
theorem dL_act_328 : decode cL_act 328 = .ok (.invokevirtual 80, 3) := by decide +kernel
theorem dL_act_331 : decode cL_act 331 = .ok (.ireturn, 1) := by decide +kernel
theorem dL_act_332 : decode cL_act 332 = .ok (.aload_n 0, 1) := by decide +kernel
theorem dL_act_333 : decode cL_act 333 = .ok (.iload 4, 2) := by decide +kernel
theorem dL_act_335 : decode cL_act 335 = .ok (.bipush 6, 2) := by decide +kernel
theorem dL_act_337 : decode cL_act 337 = .ok (.invokestatic 56, 3) := by decide +kernel
theorem dL_act_340 : decode cL_act 340 = .ok (.invokevirtual 83, 3) := by decide +kernel
theorem dL_act_343 : decode cL_act 343 = .ok (.ireturn, 1) := by decide +kernel
theorem dL_act_344 : decode cL_act 344 = .ok (.aload_n 0, 1) := by decide +kernel
theorem dL_act_345 : decode cL_act 345 = .ok (.bipush 10, 2) := by decide +kernel
theorem dL_act_347 : decode cL_act 347 = .ok (.iload 4, 2) := by decide +kernel
theorem dL_act_349 : decode cL_act 349 = .ok (.sipush 191, 3) := by decide +kernel
theorem dL_act_352 : decode cL_act 352 = .ok (.invokestatic 56, 3) := by decide +kernel
theorem dL_act_355 : decode cL_act 355 = .ok (.iadd, 1) := by decide +kernel
theorem dL_act_356 : decode cL_act 356 = .ok (.invokevirtual 86, 3) := by decide +kernel
theorem dL_act_359 : decode cL_act 359 = .ok (.ireturn, 1) := by decide +kernel
theorem dL_act_360 : decode cL_act 360 = .ok (.aload_n 0, 1) := by decide +kernel
theorem dL_act_361 : decode cL_act 361 = .ok (.invokestatic 89, 3) := by decide +kernel
theorem dL_act_364 : decode cL_act 364 = .ok (.ireturn, 1) := by decide +kernel
theorem dL_law_0 : decode cL_law 0 = .ok (.new 10, 3) := by decide +kernel
theorem dL_law_3 : decode cL_law 3 = .ok (.dup, 1) := by decide +kernel
theorem dL_law_4 : decode cL_law 4 = .ok (.invokespecial 92, 3) := by decide +kernel
theorem dL_law_7 : decode cL_law 7 = .ok (.astore_n 1, 1) := by decide +kernel
theorem dL_law_8 : decode cL_law 8 = .ok (.iconst 1, 1) := by decide +kernel
theorem dL_law_9 : decode cL_law 9 = .ok (.istore_n 2, 1) := by decide +kernel
theorem dL_law_10 : decode cL_law 10 = .ok (.aload_n 0, 1) := by decide +kernel
theorem dL_law_11 : decode cL_law 11 = .ok (.arraylength, 1) := by decide +kernel
theorem dL_law_12 : decode cL_law 12 = .ok (.iconst 3, 1) := by decide +kernel
theorem dL_law_13 : decode cL_law 13 = .ok (.idiv, 1) := by decide +kernel
theorem dL_law_14 : decode cL_law 14 = .ok (.bipush 44, 2) := by decide +kernel
theorem dL_law_16 : decode cL_law 16 = .ok (.if_icmp .le 8, 3) := by decide +kernel
theorem dL_law_19 : decode cL_law 19 = .ok (.bipush 44, 2) := by decide +kernel
theorem dL_law_21 : decode cL_law 21 = .ok (.goto 7, 3) := by decide +kernel
theorem dL_law_24 : decode cL_law 24 = .ok (.aload_n 0, 1) := by decide +kernel
theorem dL_law_25 : decode cL_law 25 = .ok (.arraylength, 1) := by decide +kernel
theorem dL_law_26 : decode cL_law 26 = .ok (.iconst 3, 1) := by decide +kernel
theorem dL_law_27 : decode cL_law 27 = .ok (.idiv, 1) := by decide +kernel
theorem dL_law_28 : decode cL_law 28 = .ok (.istore_n 3, 1) := by decide +kernel
theorem dL_law_29 : decode cL_law 29 = .ok (.iconst 0, 1) := by decide +kernel
theorem dL_law_30 : decode cL_law 30 = .ok (.istore 4, 2) := by decide +kernel
theorem dL_law_32 : decode cL_law 32 = .ok (.iload 4, 2) := by decide +kernel
theorem dL_law_34 : decode cL_law 34 = .ok (.iload_n 3, 1) := by decide +kernel
theorem dL_law_35 : decode cL_law 35 = .ok (.if_icmp .ge 387, 3) := by decide +kernel
theorem dL_law_38 : decode cL_law 38 = .ok (.iload_n 2, 1) := by decide +kernel
theorem dL_law_39 : decode cL_law 39 = .ok (.ifCond .eq 383, 3) := by decide +kernel
theorem dL_law_42 : decode cL_law 42 = .ok (.aload_n 1, 1) := by decide +kernel
theorem dL_law_43 : decode cL_law 43 = .ok (.bipush 8, 2) := by decide +kernel
theorem dL_law_45 : decode cL_law 45 = .ok (.invokevirtual 31, 3) := by decide +kernel
theorem dL_law_48 : decode cL_law 48 = .ok (.istore 5, 2) := by decide +kernel
theorem dL_law_50 : decode cL_law 50 = .ok (.aload_n 1, 1) := by decide +kernel
theorem dL_law_51 : decode cL_law 51 = .ok (.iconst 0, 1) := by decide +kernel
theorem dL_law_52 : decode cL_law 52 = .ok (.invokevirtual 31, 3) := by decide +kernel
theorem dL_law_55 : decode cL_law 55 = .ok (.istore 6, 2) := by decide +kernel
theorem dL_law_57 : decode cL_law 57 = .ok (.aload_n 1, 1) := by decide +kernel
theorem dL_law_58 : decode cL_law 58 = .ok (.iconst 1, 1) := by decide +kernel
theorem dL_law_59 : decode cL_law 59 = .ok (.invokevirtual 31, 3) := by decide +kernel
theorem dL_law_62 : decode cL_law 62 = .ok (.istore 7, 2) := by decide +kernel
theorem dL_law_64 : decode cL_law 64 = .ok (.aload_n 1, 1) := by decide +kernel
theorem dL_law_65 : decode cL_law 65 = .ok (.iconst 3, 1) := by decide +kernel
theorem dL_law_66 : decode cL_law 66 = .ok (.invokevirtual 31, 3) := by decide +kernel
theorem dL_law_69 : decode cL_law 69 = .ok (.istore 8, 2) := by decide +kernel
theorem dL_law_71 : decode cL_law 71 = .ok (.aload_n 1, 1) := by decide +kernel
theorem dL_law_72 : decode cL_law 72 = .ok (.iconst 4, 1) := by decide +kernel
theorem dL_law_73 : decode cL_law 73 = .ok (.invokevirtual 31, 3) := by decide +kernel
theorem dL_law_76 : decode cL_law 76 = .ok (.istore 9, 2) := by decide +kernel
theorem dL_law_78 : decode cL_law 78 = .ok (.aload_n 1, 1) := by decide +kernel
theorem dL_law_79 : decode cL_law 79 = .ok (.iconst 5, 1) := by decide +kernel
theorem dL_law_80 : decode cL_law 80 = .ok (.invokevirtual 31, 3) := by decide +kernel
theorem dL_law_83 : decode cL_law 83 = .ok (.istore 10, 2) := by decide +kernel
theorem dL_law_85 : decode cL_law 85 = .ok (.aload_n 0, 1) := by decide +kernel
theorem dL_law_86 : decode cL_law 86 = .ok (.iconst 3, 1) := by decide +kernel
theorem dL_law_87 : decode cL_law 87 = .ok (.iload 4, 2) := by decide +kernel
theorem dL_law_89 : decode cL_law 89 = .ok (.imul, 1) := by decide +kernel
theorem dL_law_90 : decode cL_law 90 = .ok (.invokestatic 50, 3) := by decide +kernel
theorem dL_law_93 : decode cL_law 93 = .ok (.bipush 20, 2) := by decide +kernel
theorem dL_law_95 : decode cL_law 95 = .ok (.invokestatic 56, 3) := by decide +kernel
theorem dL_law_98 : decode cL_law 98 = .ok (.istore 11, 2) := by decide +kernel
theorem dL_law_100 : decode cL_law 100 = .ok (.aload_n 0, 1) := by decide +kernel
theorem dL_law_101 : decode cL_law 101 = .ok (.iconst 3, 1) := by decide +kernel
theorem dL_law_102 : decode cL_law 102 = .ok (.iload 4, 2) := by decide +kernel
theorem dL_law_104 : decode cL_law 104 = .ok (.imul, 1) := by decide +kernel
theorem dL_law_105 : decode cL_law 105 = .ok (.iconst 1, 1) := by decide +kernel
theorem dL_law_106 : decode cL_law 106 = .ok (.iadd, 1) := by decide +kernel
theorem dL_law_107 : decode cL_law 107 = .ok (.invokestatic 50, 3) := by decide +kernel
theorem dL_law_110 : decode cL_law 110 = .ok (.istore 12, 2) := by decide +kernel
theorem dL_law_112 : decode cL_law 112 = .ok (.iload 6, 2) := by decide +kernel
theorem dL_law_114 : decode cL_law 114 = .ok (.ifCond .ne 7, 3) := by decide +kernel
theorem dL_law_117 : decode cL_law 117 = .ok (.iconst 0, 1) := by decide +kernel
theorem dL_law_118 : decode cL_law 118 = .ok (.goto 10, 3) := by decide +kernel
theorem dL_law_121 : decode cL_law 121 = .ok (.iload 12, 2) := by decide +kernel
theorem dL_law_123 : decode cL_law 123 = .ok (.iload 6, 2) := by decide +kernel
theorem dL_law_125 : decode cL_law 125 = .ok (.invokestatic 56, 3) := by decide +kernel
theorem dL_law_128 : decode cL_law 128 = .ok (.istore 13, 2) := by decide +kernel
theorem dL_law_130 : decode cL_law 130 = .ok (.iload 6, 2) := by decide +kernel
theorem dL_law_132 : decode cL_law 132 = .ok (.ifCond .ne 7, 3) := by decide +kernel
theorem dL_law_135 : decode cL_law 135 = .ok (.iconst 0, 1) := by decide +kernel
theorem dL_law_136 : decode cL_law 136 = .ok (.goto 10, 3) := by decide +kernel
theorem dL_law_139 : decode cL_law 139 = .ok (.aload_n 1, 1) := by decide +kernel
theorem dL_law_140 : decode cL_law 140 = .ok (.iload 13, 2) := by decide +kernel
theorem dL_law_142 : decode cL_law 142 = .ok (.iconst 0, 1) := by decide +kernel
theorem dL_law_143 : decode cL_law 143 = .ok (.invokevirtual 93, 3) := by decide +kernel
theorem dL_law_146 : decode cL_law 146 = .ok (.istore 14, 2) := by decide +kernel
theorem dL_law_148 : decode cL_law 148 = .ok (.iload 6, 2) := by decide +kernel
theorem dL_law_150 : decode cL_law 150 = .ok (.ifCond .ne 7, 3) := by decide +kernel
theorem dL_law_153 : decode cL_law 153 = .ok (.iconst 0, 1) := by decide +kernel
theorem dL_law_154 : decode cL_law 154 = .ok (.goto 10, 3) := by decide +kernel
theorem dL_law_157 : decode cL_law 157 = .ok (.aload_n 1, 1) := by decide +kernel
theorem dL_law_158 : decode cL_law 158 = .ok (.iload 13, 2) := by decide +kernel
theorem dL_law_160 : decode cL_law 160 = .ok (.iconst 1, 1) := by decide +kernel
theorem dL_law_161 : decode cL_law 161 = .ok (.invokevirtual 93, 3) := by decide +kernel
theorem dL_law_164 : decode cL_law 164 = .ok (.istore 15, 2) := by decide +kernel
theorem dL_law_166 : decode cL_law 166 = .ok (.aload_n 1, 1) := by decide +kernel
theorem dL_law_167 : decode cL_law 167 = .ok (.aload_n 0, 1) := by decide +kernel
theorem dL_law_168 : decode cL_law 168 = .ok (.iconst 3, 1) := by decide +kernel
theorem dL_law_169 : decode cL_law 169 = .ok (.iload 4, 2) := by decide +kernel
theorem dL_law_171 : decode cL_law 171 = .ok (.imul, 1) := by decide +kernel
theorem dL_law_172 : decode cL_law 172 = .ok (.invokestatic 96, 3) := by decide +kernel
theorem dL_law_175 : decode cL_law 175 = .ok (.istore 16, 2) := by decide +kernel
theorem dL_law_177 : decode cL_law 177 = .ok (.iload 16, 2) := by decide +kernel
theorem dL_law_179 : decode cL_law 179 = .ok (.ifCond .ge 54, 3) := by decide +kernel
theorem dL_law_182 : decode cL_law 182 = .ok (.aload_n 1, 1) := by decide +kernel
theorem dL_law_183 : decode cL_law 183 = .ok (.bipush 8, 2) := by decide +kernel
theorem dL_law_185 : decode cL_law 185 = .ok (.invokevirtual 31, 3) := by decide +kernel
theorem dL_law_188 : decode cL_law 188 = .ok (.iload 5, 2) := by decide +kernel
theorem dL_law_190 : decode cL_law 190 = .ok (.if_icmp .ne 47, 3) := by decide +kernel
theorem dL_law_193 : decode cL_law 193 = .ok (.aload_n 1, 1) := by decide +kernel
theorem dL_law_194 : decode cL_law 194 = .ok (.iconst 0, 1) := by decide +kernel
theorem dL_law_195 : decode cL_law 195 = .ok (.invokevirtual 31, 3) := by decide +kernel
theorem dL_law_198 : decode cL_law 198 = .ok (.iload 6, 2) := by decide +kernel
theorem dL_law_200 : decode cL_law 200 = .ok (.if_icmp .ne 37, 3) := by decide +kernel
theorem dL_law_203 : decode cL_law 203 = .ok (.aload_n 1, 1) := by decide +kernel
theorem dL_law_204 : decode cL_law 204 = .ok (.iconst 3, 1) := by decide +kernel
theorem dL_law_205 : decode cL_law 205 = .ok (.invokevirtual 31, 3) := by decide +kernel
theorem dL_law_208 : decode cL_law 208 = .ok (.iload 8, 2) := by decide +kernel
theorem dL_law_210 : decode cL_law 210 = .ok (.if_icmp .ne 27, 3) := by decide +kernel
theorem dL_law_213 : decode cL_law 213 = .ok (.aload_n 1, 1) := by decide +kernel
theorem dL_law_214 : decode cL_law 214 = .ok (.iconst 4, 1) := by decide +kernel
theorem dL_law_215 : decode cL_law 215 = .ok (.invokevirtual 31, 3) := by decide +kernel
theorem dL_law_218 : decode cL_law 218 = .ok (.iload 9, 2) := by decide +kernel
theorem dL_law_220 : decode cL_law 220 = .ok (.if_icmp .ne 17, 3) := by decide +kernel
theorem dL_law_223 : decode cL_law 223 = .ok (.aload_n 1, 1) := by decide +kernel
theorem dL_law_224 : decode cL_law 224 = .ok (.iconst 5, 1) := by decide +kernel
theorem dL_law_225 : decode cL_law 225 = .ok (.invokevirtual 31, 3) := by decide +kernel
theorem dL_law_228 : decode cL_law 228 = .ok (.iload 10, 2) := by decide +kernel
theorem dL_law_230 : decode cL_law 230 = .ok (.if_icmp .ne 7, 3) := by decide +kernel
theorem dL_law_233 : decode cL_law 233 = .ok (.iconst 1, 1) := by decide +kernel
theorem dL_law_234 : decode cL_law 234 = .ok (.goto 4, 3) := by decide +kernel
theorem dL_law_237 : decode cL_law 237 = .ok (.iconst 0, 1) := by decide +kernel
theorem dL_law_238 : decode cL_law 238 = .ok (.istore_n 2, 1) := by decide +kernel
theorem dL_law_239 : decode cL_law 239 = .ok (.iload_n 2, 1) := by decide +kernel
theorem dL_law_240 : decode cL_law 240 = .ok (.ifCond .eq 174, 3) := by decide +kernel
theorem dL_law_243 : decode cL_law 243 = .ok (.iload 11, 2) := by decide +kernel
theorem dL_law_245 : decode cL_law 245 = .ok (.bipush 8, 2) := by decide +kernel
theorem dL_law_247 : decode cL_law 247 = .ok (.if_icmp .lt 30, 3) := by decide +kernel
theorem dL_law_250 : decode cL_law 250 = .ok (.iload 11, 2) := by decide +kernel
theorem dL_law_252 : decode cL_law 252 = .ok (.bipush 10, 2) := by decide +kernel
theorem dL_law_254 : decode cL_law 254 = .ok (.if_icmp .gt 23, 3) := by decide +kernel
theorem dL_law_257 : decode cL_law 257 = .ok (.aload_n 1, 1) := by decide +kernel
theorem dL_law_258 : decode cL_law 258 = .ok (.iconst 1, 1) := by decide +kernel
theorem dL_law_259 : decode cL_law 259 = .ok (.invokevirtual 31, 3) := by decide +kernel
theorem dL_law_262 : decode cL_law 262 = .ok (.iload 7, 2) := by decide +kernel
theorem dL_law_264 : decode cL_law 264 = .ok (.if_icmp .ne 150, 3) := by decide +kernel
theorem dL_law_267 : decode cL_law 267 = .ok (.aload_n 1, 1) := by decide +kernel
theorem dL_law_268 : decode cL_law 268 = .ok (.iconst 3, 1) := by decide +kernel
theorem dL_law_269 : decode cL_law 269 = .ok (.invokevirtual 31, 3) := by decide +kernel
theorem dL_law_272 : decode cL_law 272 = .ok (.iload 8, 2) := by decide +kernel
theorem dL_law_274 : decode cL_law 274 = .ok (.if_icmp .ne 140, 3) := by decide +kernel
theorem dL_law_277 : decode cL_law 277 = .ok (.iload 11, 2) := by decide +kernel
theorem dL_law_279 : decode cL_law 279 = .ok (.bipush 9, 2) := by decide +kernel
theorem dL_law_281 : decode cL_law 281 = .ok (.if_icmp .eq 10, 3) := by decide +kernel
theorem dL_law_284 : decode cL_law 284 = .ok (.iload 11, 2) := by decide +kernel
theorem dL_law_286 : decode cL_law 286 = .ok (.bipush 10, 2) := by decide +kernel
theorem dL_law_288 : decode cL_law 288 = .ok (.if_icmp .ne 13, 3) := by decide +kernel
theorem dL_law_291 : decode cL_law 291 = .ok (.aload_n 1, 1) := by decide +kernel
theorem dL_law_292 : decode cL_law 292 = .ok (.iconst 4, 1) := by decide +kernel
theorem dL_law_293 : decode cL_law 293 = .ok (.invokevirtual 31, 3) := by decide +kernel
theorem dL_law_296 : decode cL_law 296 = .ok (.iload 9, 2) := by decide +kernel
theorem dL_law_298 : decode cL_law 298 = .ok (.if_icmp .ne 116, 3) := by decide +kernel
theorem dL_law_301 : decode cL_law 301 = .ok (.iload 11, 2) := by decide +kernel
theorem dL_law_303 : decode cL_law 303 = .ok (.bipush 6, 2) := by decide +kernel
theorem dL_law_305 : decode cL_law 305 = .ok (.if_icmp .ne 38, 3) := by decide +kernel
theorem dL_law_308 : decode cL_law 308 = .ok (.iload 16, 2) := by decide +kernel
theorem dL_law_310 : decode cL_law 310 = .ok (.ifCond .lt 33, 3) := by decide +kernel
theorem dL_law_313 : decode cL_law 313 = .ok (.iload 16, 2) := by decide +kernel
theorem dL_law_315 : decode cL_law 315 = .ok (.iload 14, 2) := by decide +kernel
theorem dL_law_317 : decode cL_law 317 = .ok (.if_icmp .ne 97, 3) := by decide +kernel
theorem dL_law_320 : decode cL_law 320 = .ok (.aload_n 1, 1) := by decide +kernel
theorem dL_law_321 : decode cL_law 321 = .ok (.iconst 4, 1) := by decide +kernel
theorem dL_law_322 : decode cL_law 322 = .ok (.invokevirtual 31, 3) := by decide +kernel
theorem dL_law_325 : decode cL_law 325 = .ok (.iload 9, 2) := by decide +kernel
theorem dL_law_327 : decode cL_law 327 = .ok (.iload 16, 2) := by decide +kernel
theorem dL_law_329 : decode cL_law 329 = .ok (.iadd, 1) := by decide +kernel
theorem dL_law_330 : decode cL_law 330 = .ok (.if_icmp .ne 84, 3) := by decide +kernel
theorem dL_law_333 : decode cL_law 333 = .ok (.aload_n 1, 1) := by decide +kernel
theorem dL_law_334 : decode cL_law 334 = .ok (.iconst 5, 1) := by decide +kernel
theorem dL_law_335 : decode cL_law 335 = .ok (.invokevirtual 31, 3) := by decide +kernel
theorem dL_law_338 : decode cL_law 338 = .ok (.iload 15, 2) := by decide +kernel
theorem dL_law_340 : decode cL_law 340 = .ok (.if_icmp .ne 74, 3) := by decide +kernel
theorem dL_law_343 : decode cL_law 343 = .ok (.iload 11, 2) := by decide +kernel
theorem dL_law_345 : decode cL_law 345 = .ok (.bipush 15, 2) := by decide +kernel
theorem dL_law_347 : decode cL_law 347 = .ok (.if_icmp .ne 29, 3) := by decide +kernel
theorem dL_law_350 : decode cL_law 350 = .ok (.aload_n 1, 1) := by decide +kernel
theorem dL_law_351 : decode cL_law 351 = .ok (.iconst 3, 1) := by decide +kernel
theorem dL_law_352 : decode cL_law 352 = .ok (.invokevirtual 31, 3) := by decide +kernel
theorem dL_law_355 : decode cL_law 355 = .ok (.iload 8, 2) := by decide +kernel
theorem dL_law_357 : decode cL_law 357 = .ok (.iload 16, 2) := by decide +kernel
theorem dL_law_359 : decode cL_law 359 = .ok (.isub, 1) := by decide +kernel
theorem dL_law_360 : decode cL_law 360 = .ok (.if_icmp .ne 54, 3) := by decide +kernel
theorem dL_law_363 : decode cL_law 363 = .ok (.aload_n 1, 1) := by decide +kernel
theorem dL_law_364 : decode cL_law 364 = .ok (.iconst 4, 1) := by decide +kernel
theorem dL_law_365 : decode cL_law 365 = .ok (.invokevirtual 31, 3) := by decide +kernel
theorem dL_law_368 : decode cL_law 368 = .ok (.iload 9, 2) := by decide +kernel
theorem dL_law_370 : decode cL_law 370 = .ok (.iload 16, 2) := by decide +kernel
theorem dL_law_372 : decode cL_law 372 = .ok (.isub, 1) := by decide +kernel
theorem dL_law_373 : decode cL_law 373 = .ok (.if_icmp .ne 41, 3) := by decide +kernel
theorem dL_law_376 : decode cL_law 376 = .ok (.iload 11, 2) := by decide +kernel
theorem dL_law_378 : decode cL_law 378 = .ok (.bipush 16, 2) := by decide +kernel
theorem dL_law_380 : decode cL_law 380 = .ok (.if_icmp .eq 10, 3) := by decide +kernel
theorem dL_law_383 : decode cL_law 383 = .ok (.iload 11, 2) := by decide +kernel
theorem dL_law_385 : decode cL_law 385 = .ok (.bipush 17, 2) := by decide +kernel
theorem dL_law_387 : decode cL_law 387 = .ok (.if_icmp .ne 16, 3) := by decide +kernel
theorem dL_law_390 : decode cL_law 390 = .ok (.aload_n 1, 1) := by decide +kernel
theorem dL_law_391 : decode cL_law 391 = .ok (.iconst 5, 1) := by decide +kernel
theorem dL_law_392 : decode cL_law 392 = .ok (.invokevirtual 31, 3) := by decide +kernel
theorem dL_law_395 : decode cL_law 395 = .ok (.iload 10, 2) := by decide +kernel
theorem dL_law_397 : decode cL_law 397 = .ok (.iload 16, 2) := by decide +kernel
theorem dL_law_399 : decode cL_law 399 = .ok (.isub, 1) := by decide +kernel
theorem dL_law_400 : decode cL_law 400 = .ok (.if_icmp .ne 14, 3) := by decide +kernel
theorem dL_law_403 : decode cL_law 403 = .ok (.aload_n 1, 1) := by decide +kernel
theorem dL_law_404 : decode cL_law 404 = .ok (.invokestatic 100, 3) := by decide +kernel
theorem dL_law_407 : decode cL_law 407 = .ok (.ifCond .eq 7, 3) := by decide +kernel
theorem dL_law_410 : decode cL_law 410 = .ok (.iconst 1, 1) := by decide +kernel
theorem dL_law_411 : decode cL_law 411 = .ok (.goto 4, 3) := by decide +kernel
theorem dL_law_414 : decode cL_law 414 = .ok (.iconst 0, 1) := by decide +kernel
theorem dL_law_415 : decode cL_law 415 = .ok (.istore_n 2, 1) := by decide +kernel
theorem dL_law_416 : decode cL_law 416 = .ok (.iinc 4 1, 3) := by decide +kernel
theorem dL_law_419 : decode cL_law 419 = .ok (.goto (-387), 3) := by decide +kernel
theorem dL_law_422 : decode cL_law 422 = .ok (.iload_n 2, 1) := by decide +kernel
theorem dL_law_423 : decode cL_law 423 = .ok (.ireturn, 1) := by decide +kernel
