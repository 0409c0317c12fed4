theorem dX8_citeAll_199 : decode cX8_citeAll 199 = .ok (.ireturn, 1) := by decide +kernel
theorem dX8_undo_0 : decode cX8_undo 0 = .ok (.aload_n 0, 1) := by decide +kernel
theorem dX8_undo_1 : decode cX8_undo 1 = .ok (.getfield 33, 3) := by decide +kernel
theorem dX8_undo_4 : decode cX8_undo 4 = .ok (.getfield 205, 3) := by decide +kernel
theorem dX8_undo_7 : decode cX8_undo 7 = .ok (.ifCond .ne 13, 3) := by decide +kernel
theorem dX8_undo_10 : decode cX8_undo 10 = .ok (.new 106, 3) := by decide +kernel
theorem dX8_undo_13 : decode cX8_undo 13 = .ok (.dup, 1) := by decide +kernel
theorem dX8_undo_14 : decode cX8_undo 14 = .ok (.ldc 206, 2) := by decide +kernel
theorem dX8_undo_16 : decode cX8_undo 16 = .ok (.invokespecial 110, 3) := by decide +kernel
theorem dX8_undo_19 : decode cX8_undo 19 = .ok (.athrow, 1) := by decide +kernel
theorem dX8_undo_20 : decode cX8_undo 20 = .ok (.aload_n 0, 1) := by decide +kernel
theorem dX8_undo_21 : decode cX8_undo 21 = .ok (.getfield 33, 3) := by decide +kernel
theorem dX8_undo_24 : decode cX8_undo 24 = .ok (.aload_n 0, 1) := by decide +kernel
theorem dX8_undo_25 : decode cX8_undo 25 = .ok (.getfield 12, 3) := by decide +kernel
theorem dX8_undo_28 : decode cX8_undo 28 = .ok (.invokevirtual 208, 3) := by decide +kernel
theorem dX8_undo_31 : decode cX8_undo 31 = .ok (.aload_n 0, 1) := by decide +kernel
theorem dX8_undo_32 : decode cX8_undo 32 = .ok (.getfield 19, 3) := by decide +kernel
theorem dX8_undo_35 : decode cX8_undo 35 = .ok (.aload_n 0, 1) := by decide +kernel
theorem dX8_undo_36 : decode cX8_undo 36 = .ok (.getfield 12, 3) := by decide +kernel
theorem dX8_undo_39 : decode cX8_undo 39 = .ok (.invokevirtual 72, 3) := by decide +kernel
theorem dX8_undo_42 : decode cX8_undo 42 = .ok (.aload_n 0, 1) := by decide +kernel
theorem dX8_undo_43 : decode cX8_undo 43 = .ok (.getfield 33, 3) := by decide +kernel
theorem dX8_undo_46 : decode cX8_undo 46 = .ok (.getfield 205, 3) := by decide +kernel
theorem dX8_undo_49 : decode cX8_undo 49 = .ok (.ireturn, 1) := by decide +kernel
theorem dX8_exhibit_0 : decode cX8_exhibit 0 = .ok (.iload_n 1, 1) := by decide +kernel
theorem dX8_exhibit_1 : decode cX8_exhibit 1 = .ok (.ifCond .ge 13, 3) := by decide +kernel
theorem dX8_exhibit_4 : decode cX8_exhibit 4 = .ok (.new 120, 3) := by decide +kernel
theorem dX8_exhibit_7 : decode cX8_exhibit 7 = .ok (.dup, 1) := by decide +kernel
theorem dX8_exhibit_8 : decode cX8_exhibit 8 = .ok (.ldc 211, 2) := by decide +kernel
theorem dX8_exhibit_10 : decode cX8_exhibit 10 = .ok (.invokespecial 124, 3) := by decide +kernel
theorem dX8_exhibit_13 : decode cX8_exhibit 13 = .ok (.athrow, 1) := by decide +kernel
theorem dX8_exhibit_14 : decode cX8_exhibit 14 = .ok (.iload_n 2, 1) := by decide +kernel
theorem dX8_exhibit_15 : decode cX8_exhibit 15 = .ok (.iconst 5, 1) := by decide +kernel
theorem dX8_exhibit_16 : decode cX8_exhibit 16 = .ok (.invokestatic 213, 3) := by decide +kernel
theorem dX8_exhibit_19 : decode cX8_exhibit 19 = .ok (.iload_n 1, 1) := by decide +kernel
theorem dX8_exhibit_20 : decode cX8_exhibit 20 = .ok (.aload_n 0, 1) := by decide +kernel
theorem dX8_exhibit_21 : decode cX8_exhibit 21 = .ok (.getfield 12, 3) := by decide +kernel
theorem dX8_exhibit_24 : decode cX8_exhibit 24 = .ok (.getfield 48, 3) := by decide +kernel
theorem dX8_exhibit_27 : decode cX8_exhibit 27 = .ok (.getfield 95, 3) := by decide +kernel
theorem dX8_exhibit_30 : decode cX8_exhibit 30 = .ok (.if_icmp .lt 5, 3) := by decide +kernel
theorem dX8_exhibit_33 : decode cX8_exhibit 33 = .ok (.iconst (-1), 1) := by decide +kernel
theorem dX8_exhibit_34 : decode cX8_exhibit 34 = .ok (.ireturn, 1) := by decide +kernel
theorem dX8_exhibit_35 : decode cX8_exhibit 35 = .ok (.iload_n 2, 1) := by decide +kernel
theorem dX8_exhibit_36 : decode cX8_exhibit 36 = .ok (.tableswitch 92 0 4 #[36, 49, 62, 72, 82], 36) := by decide +kernel
theorem dX8_exhibit_72 : decode cX8_exhibit 72 = .ok (.aload_n 0, 1) := by decide +kernel
theorem dX8_exhibit_73 : decode cX8_exhibit 73 = .ok (.getfield 12, 3) := by decide +kernel
theorem dX8_exhibit_76 : decode cX8_exhibit 76 = .ok (.getfield 48, 3) := by decide +kernel
theorem dX8_exhibit_79 : decode cX8_exhibit 79 = .ok (.getfield 78, 3) := by decide +kernel
theorem dX8_exhibit_82 : decode cX8_exhibit 82 = .ok (.iload_n 1, 1) := by decide +kernel
theorem dX8_exhibit_83 : decode cX8_exhibit 83 = .ok (.iaload, 1) := by decide +kernel
theorem dX8_exhibit_84 : decode cX8_exhibit 84 = .ok (.ireturn, 1) := by decide +kernel
theorem dX8_exhibit_85 : decode cX8_exhibit 85 = .ok (.aload_n 0, 1) := by decide +kernel
theorem dX8_exhibit_86 : decode cX8_exhibit 86 = .ok (.getfield 12, 3) := by decide +kernel
theorem dX8_exhibit_89 : decode cX8_exhibit 89 = .ok (.getfield 48, 3) := by decide +kernel
theorem dX8_exhibit_92 : decode cX8_exhibit 92 = .ok (.getfield 81, 3) := by decide +kernel
theorem dX8_exhibit_95 : decode cX8_exhibit 95 = .ok (.iload_n 1, 1) := by decide +kernel
theorem dX8_exhibit_96 : decode cX8_exhibit 96 = .ok (.iaload, 1) := by decide +kernel
theorem dX8_exhibit_97 : decode cX8_exhibit 97 = .ok (.ireturn, 1) := by decide +kernel
theorem dX8_exhibit_98 : decode cX8_exhibit 98 = .ok (.aload_n 0, 1) := by decide +kernel
theorem dX8_exhibit_99 : decode cX8_exhibit 99 = .ok (.getfield 19, 3) := by decide +kernel
theorem dX8_exhibit_102 : decode cX8_exhibit 102 = .ok (.getfield 217, 3) := by decide +kernel
theorem dX8_exhibit_105 : decode cX8_exhibit 105 = .ok (.iload_n 1, 1) := by decide +kernel
theorem dX8_exhibit_106 : decode cX8_exhibit 106 = .ok (.iaload, 1) := by decide +kernel
theorem dX8_exhibit_107 : decode cX8_exhibit 107 = .ok (.ireturn, 1) := by decide +kernel
theorem dX8_exhibit_108 : decode cX8_exhibit 108 = .ok (.aload_n 0, 1) := by decide +kernel
theorem dX8_exhibit_109 : decode cX8_exhibit 109 = .ok (.getfield 19, 3) := by decide +kernel
theorem dX8_exhibit_112 : decode cX8_exhibit 112 = .ok (.getfield 220, 3) := by decide +kernel
theorem dX8_exhibit_115 : decode cX8_exhibit 115 = .ok (.iload_n 1, 1) := by decide +kernel
theorem dX8_exhibit_116 : decode cX8_exhibit 116 = .ok (.iaload, 1) := by decide +kernel
theorem dX8_exhibit_117 : decode cX8_exhibit 117 = .ok (.ireturn, 1) := by decide +kernel
theorem dX8_exhibit_118 : decode cX8_exhibit 118 = .ok (.aload_n 0, 1) := by decide +kernel
theorem dX8_exhibit_119 : decode cX8_exhibit 119 = .ok (.getfield 19, 3) := by decide +kernel
theorem dX8_exhibit_122 : decode cX8_exhibit 122 = .ok (.getfield 223, 3) := by decide +kernel
theorem dX8_exhibit_125 : decode cX8_exhibit 125 = .ok (.iload_n 1, 1) := by decide +kernel
theorem dX8_exhibit_126 : decode cX8_exhibit 126 = .ok (.iaload, 1) := by decide +kernel
theorem dX8_exhibit_127 : decode cX8_exhibit 127 = .ok (.ireturn, 1) := by decide +kernel
theorem dX8_exhibit_128 : decode cX8_exhibit 128 = .ok (.aload_n 0, 1) := by decide +kernel
theorem dX8_exhibit_129 : decode cX8_exhibit 129 = .ok (.iload_n 1, 1) := by decide +kernel
theorem dX8_exhibit_130 : decode cX8_exhibit 130 = .ok (.invokevirtual 226, 3) := by decide +kernel
theorem dX8_exhibit_133 : decode cX8_exhibit 133 = .ok (.ireturn, 1) := by decide +kernel
theorem dX8_citation_0 : decode cX8_citation 0 = .ok (.iload_n 1, 1) := by decide +kernel
theorem dX8_citation_1 : decode cX8_citation 1 = .ok (.invokestatic 128, 3) := by decide +kernel
theorem dX8_citation_4 : decode cX8_citation 4 = .ok (.iload_n 2, 1) := by decide +kernel
theorem dX8_citation_5 : decode cX8_citation 5 = .ok (.ifCond .ge 13, 3) := by decide +kernel
theorem dX8_citation_8 : decode cX8_citation 8 = .ok (.new 120, 3) := by decide +kernel
theorem dX8_citation_11 : decode cX8_citation 11 = .ok (.dup, 1) := by decide +kernel
theorem dX8_citation_12 : decode cX8_citation 12 = .ok (.ldc 229, 2) := by decide +kernel
theorem dX8_citation_14 : decode cX8_citation 14 = .ok (.invokespecial 124, 3) := by decide +kernel
theorem dX8_citation_17 : decode cX8_citation 17 = .ok (.athrow, 1) := by decide +kernel
theorem dX8_citation_18 : decode cX8_citation 18 = .ok (.iload_n 3, 1) := by decide +kernel
theorem dX8_citation_19 : decode cX8_citation 19 = .ok (.iconst 4, 1) := by decide +kernel
theorem dX8_citation_20 : decode cX8_citation 20 = .ok (.invokestatic 213, 3) := by decide +kernel
theorem dX8_citation_23 : decode cX8_citation 23 = .ok (.iload_n 2, 1) := by decide +kernel
theorem dX8_citation_24 : decode cX8_citation 24 = .ok (.aload_n 0, 1) := by decide +kernel
theorem dX8_citation_25 : decode cX8_citation 25 = .ok (.getfield 12, 3) := by decide +kernel
theorem dX8_citation_28 : decode cX8_citation 28 = .ok (.getfield 111, 3) := by decide +kernel
theorem dX8_citation_31 : decode cX8_citation 31 = .ok (.getfield 131, 3) := by decide +kernel
theorem dX8_citation_34 : decode cX8_citation 34 = .ok (.iload_n 1, 1) := by decide +kernel
theorem dX8_citation_35 : decode cX8_citation 35 = .ok (.iaload, 1) := by decide +kernel
theorem dX8_citation_36 : decode cX8_citation 36 = .ok (.if_icmp .lt 5, 3) := by decide +kernel
theorem dX8_citation_39 : decode cX8_citation 39 = .ok (.iconst (-1), 1) := by decide +kernel
theorem dX8_citation_40 : decode cX8_citation 40 = .ok (.ireturn, 1) := by decide +kernel
theorem dX8_citation_41 : decode cX8_citation 41 = .ok (.iload_n 1, 1) := by decide +kernel
theorem dX8_citation_42 : decode cX8_citation 42 = .ok (.iload_n 2, 1) := by decide +kernel
theorem dX8_citation_43 : decode cX8_citation 43 = .ok (.invokestatic 158, 3) := by decide +kernel
theorem dX8_citation_46 : decode cX8_citation 46 = .ok (.istore 4, 2) := by decide +kernel
theorem dX8_citation_48 : decode cX8_citation 48 = .ok (.iload_n 3, 1) := by decide +kernel
theorem dX8_citation_49 : decode cX8_citation 49 = .ok (.tableswitch 89 0 3 #[31, 45, 56, 70], 31) := by decide +kernel
theorem dX8_citation_80 : decode cX8_citation 80 = .ok (.aload_n 0, 1) := by decide +kernel
theorem dX8_citation_81 : decode cX8_citation 81 = .ok (.getfield 12, 3) := by decide +kernel
theorem dX8_citation_84 : decode cX8_citation 84 = .ok (.getfield 111, 3) := by decide +kernel
theorem dX8_citation_87 : decode cX8_citation 87 = .ok (.getfield 231, 3) := by decide +kernel
theorem dX8_citation_90 : decode cX8_citation 90 = .ok (.iload 4, 2) := by decide +kernel
theorem dX8_citation_92 : decode cX8_citation 92 = .ok (.iaload, 1) := by decide +kernel
theorem dX8_citation_93 : decode cX8_citation 93 = .ok (.ireturn, 1) := by decide +kernel
theorem dX8_citation_94 : decode cX8_citation 94 = .ok (.aload_n 0, 1) := by decide +kernel
theorem dX8_citation_95 : decode cX8_citation 95 = .ok (.getfield 19, 3) := by decide +kernel
theorem dX8_citation_98 : decode cX8_citation 98 = .ok (.getfield 164, 3) := by decide +kernel
theorem dX8_citation_101 : decode cX8_citation 101 = .ok (.iload 4, 2) := by decide +kernel
theorem dX8_citation_103 : decode cX8_citation 103 = .ok (.iaload, 1) := by decide +kernel
theorem dX8_citation_104 : decode cX8_citation 104 = .ok (.ireturn, 1) := by decide +kernel
theorem dX8_citation_105 : decode cX8_citation 105 = .ok (.aload_n 0, 1) := by decide +kernel
theorem dX8_citation_106 : decode cX8_citation 106 = .ok (.getfield 12, 3) := by decide +kernel
theorem dX8_citation_109 : decode cX8_citation 109 = .ok (.getfield 111, 3) := by decide +kernel
theorem dX8_citation_112 : decode cX8_citation 112 = .ok (.getfield 167, 3) := by decide +kernel
theorem dX8_citation_115 : decode cX8_citation 115 = .ok (.iload 4, 2) := by decide +kernel
theorem dX8_citation_117 : decode cX8_citation 117 = .ok (.iaload, 1) := by decide +kernel
theorem dX8_citation_118 : decode cX8_citation 118 = .ok (.ireturn, 1) := by decide +kernel
theorem dX8_citation_119 : decode cX8_citation 119 = .ok (.aload_n 0, 1) := by decide +kernel
theorem dX8_citation_120 : decode cX8_citation 120 = .ok (.getfield 19, 3) := by decide +kernel
theorem dX8_citation_123 : decode cX8_citation 123 = .ok (.getfield 139, 3) := by decide +kernel
theorem dX8_citation_126 : decode cX8_citation 126 = .ok (.iload 4, 2) := by decide +kernel
theorem dX8_citation_128 : decode cX8_citation 128 = .ok (.baload, 1) := by decide +kernel
theorem dX8_citation_129 : decode cX8_citation 129 = .ok (.ifCond .eq 7, 3) := by decide +kernel
theorem dX8_citation_132 : decode cX8_citation 132 = .ok (.iconst 1, 1) := by decide +kernel
theorem dX8_citation_133 : decode cX8_citation 133 = .ok (.goto 4, 3) := by decide +kernel
theorem dX8_citation_136 : decode cX8_citation 136 = .ok (.iconst 0, 1) := by decide +kernel
theorem dX8_citation_137 : decode cX8_citation 137 = .ok (.ireturn, 1) := by decide +kernel
theorem dX8_citation_138 : decode cX8_citation 138 = .ok (.aload_n 0, 1) := by decide +kernel
theorem dX8_citation_139 : decode cX8_citation 139 = .ok (.iload 4, 2) := by decide +kernel
theorem dX8_citation_141 : decode cX8_citation 141 = .ok (.invokevirtual 232, 3) := by decide +kernel
theorem dX8_citation_144 : decode cX8_citation 144 = .ok (.ireturn, 1) := by decide +kernel
theorem dX8_paragraph_0 : decode cX8_paragraph 0 = .ok (.iload_n 1, 1) := by decide +kernel
theorem dX8_paragraph_1 : decode cX8_paragraph 1 = .ok (.invokestatic 128, 3) := by decide +kernel
theorem dX8_paragraph_4 : decode cX8_paragraph 4 = .ok (.iload_n 2, 1) := by decide +kernel
theorem dX8_paragraph_5 : decode cX8_paragraph 5 = .ok (.iconst 3, 1) := by decide +kernel
theorem dX8_paragraph_6 : decode cX8_paragraph 6 = .ok (.invokestatic 213, 3) := by decide +kernel
theorem dX8_paragraph_9 : decode cX8_paragraph 9 = .ok (.iload_n 2, 1) := by decide +kernel
theorem dX8_paragraph_10 : decode cX8_paragraph 10 = .ok (.tableswitch 63 0 2 #[26, 39, 45], 26) := by decide +kernel
theorem dX8_paragraph_36 : decode cX8_paragraph 36 = .ok (.aload_n 0, 1) := by decide +kernel
theorem dX8_paragraph_37 : decode cX8_paragraph 37 = .ok (.getfield 12, 3) := by decide +kernel
theorem dX8_paragraph_40 : decode cX8_paragraph 40 = .ok (.getfield 111, 3) := by decide +kernel
theorem dX8_paragraph_43 : decode cX8_paragraph 43 = .ok (.getfield 131, 3) := by decide +kernel
theorem dX8_paragraph_46 : decode cX8_paragraph 46 = .ok (.iload_n 1, 1) := by decide +kernel
theorem dX8_paragraph_47 : decode cX8_paragraph 47 = .ok (.iaload, 1) := by decide +kernel
theorem dX8_paragraph_48 : decode cX8_paragraph 48 = .ok (.ireturn, 1) := by decide +kernel
theorem dX8_paragraph_49 : decode cX8_paragraph 49 = .ok (.aload_n 0, 1) := by decide +kernel
theorem dX8_paragraph_50 : decode cX8_paragraph 50 = .ok (.iload_n 1, 1) := by decide +kernel
theorem dX8_paragraph_51 : decode cX8_paragraph 51 = .ok (.invokevirtual 235, 3) := by decide +kernel
theorem dX8_paragraph_54 : decode cX8_paragraph 54 = .ok (.ireturn, 1) := by decide +kernel
theorem dX8_paragraph_55 : decode cX8_paragraph 55 = .ok (.aload_n 0, 1) := by decide +kernel
theorem dX8_paragraph_56 : decode cX8_paragraph 56 = .ok (.iload_n 1, 1) := by decide +kernel
theorem dX8_paragraph_57 : decode cX8_paragraph 57 = .ok (.aload_n 0, 1) := by decide +kernel
theorem dX8_paragraph_58 : decode cX8_paragraph 58 = .ok (.getfield 44, 3) := by decide +kernel
theorem dX8_paragraph_61 : decode cX8_paragraph 61 = .ok (.invokevirtual 147, 3) := by decide +kernel
theorem dX8_paragraph_64 : decode cX8_paragraph 64 = .ok (.ifCond .eq 7, 3) := by decide +kernel
theorem dX8_paragraph_67 : decode cX8_paragraph 67 = .ok (.iconst 1, 1) := by decide +kernel
theorem dX8_paragraph_68 : decode cX8_paragraph 68 = .ok (.goto 4, 3) := by decide +kernel
theorem dX8_paragraph_71 : decode cX8_paragraph 71 = .ok (.iconst 0, 1) := by decide +kernel
theorem dX8_paragraph_72 : decode cX8_paragraph 72 = .ok (.ireturn, 1) := by decide +kernel
theorem dX8_paragraph_73 : decode cX8_paragraph 73 = .ok (.aload_n 0, 1) := by decide +kernel
theorem dX8_paragraph_74 : decode cX8_paragraph 74 = .ok (.getfield 12, 3) := by decide +kernel
theorem dX8_paragraph_77 : decode cX8_paragraph 77 = .ok (.getfield 151, 3) := by decide +kernel
theorem dX8_paragraph_80 : decode cX8_paragraph 80 = .ok (.getfield 155, 3) := by decide +kernel
theorem dX8_paragraph_83 : decode cX8_paragraph 83 = .ok (.iload_n 1, 1) := by decide +kernel
theorem dX8_paragraph_84 : decode cX8_paragraph 84 = .ok (.iaload, 1) := by decide +kernel
theorem dX8_paragraph_85 : decode cX8_paragraph 85 = .ok (.ireturn, 1) := by decide +kernel
theorem dX8_table_0 : decode cX8_table 0 = .ok (.aload_n 0, 1) := by decide +kernel
theorem dX8_table_1 : decode cX8_table 1 = .ok (.iload_n 1, 1) := by decide +kernel
theorem dX8_table_2 : decode cX8_table 2 = .ok (.invokevirtual 75, 3) := by decide +kernel
theorem dX8_table_5 : decode cX8_table 5 = .ok (.iconst 0, 1) := by decide +kernel
theorem dX8_table_6 : decode cX8_table 6 = .ok (.istore_n 2, 1) := by decide +kernel
theorem dX8_table_7 : decode cX8_table 7 = .ok (.iconst 0, 1) := by decide +kernel
theorem dX8_table_8 : decode cX8_table 8 = .ok (.istore_n 3, 1) := by decide +kernel
theorem dX8_table_9 : decode cX8_table 9 = .ok (.iload_n 3, 1) := by decide +kernel
theorem dX8_table_10 : decode cX8_table 10 = .ok (.bipush 12, 2) := by decide +kernel
theorem dX8_table_12 : decode cX8_table 12 = .ok (.if_icmp .ge 24, 3) := by decide +kernel
theorem dX8_table_15 : decode cX8_table 15 = .ok (.aload_n 0, 1) := by decide +kernel
theorem dX8_table_16 : decode cX8_table 16 = .ok (.iload_n 3, 1) := by decide +kernel
theorem dX8_table_17 : decode cX8_table 17 = .ok (.iload_n 1, 1) := by decide +kernel
theorem dX8_table_18 : decode cX8_table 18 = .ok (.invokevirtual 238, 3) := by decide +kernel
theorem dX8_table_21 : decode cX8_table 21 = .ok (.ifCond .le 9, 3) := by decide +kernel
theorem dX8_table_24 : decode cX8_table 24 = .ok (.iload_n 2, 1) := by decide +kernel
theorem dX8_table_25 : decode cX8_table 25 = .ok (.iconst 1, 1) := by decide +kernel
theorem dX8_table_26 : decode cX8_table 26 = .ok (.iload_n 3, 1) := by decide +kernel
theorem dX8_table_27 : decode cX8_table 27 = .ok (.ishl, 1) := by decide +kernel
theorem dX8_table_28 : decode cX8_table 28 = .ok (.ior, 1) := by decide +kernel
theorem dX8_table_29 : decode cX8_table 29 = .ok (.istore_n 2, 1) := by decide +kernel
theorem dX8_table_30 : decode cX8_table 30 = .ok (.iinc 3 1, 3) := by decide +kernel
theorem dX8_table_33 : decode cX8_table 33 = .ok (.goto (-24), 3) := by decide +kernel
theorem dX8_table_36 : decode cX8_table 36 = .ok (.iload_n 2, 1) := by decide +kernel
theorem dX8_table_37 : decode cX8_table 37 = .ok (.ireturn, 1) := by decide +kernel
theorem dX8_count_0 : decode cX8_count 0 = .ok (.iload_n 1, 1) := by decide +kernel
theorem dX8_count_1 : decode cX8_count 1 = .ok (.bipush 8, 2) := by decide +kernel
theorem dX8_count_3 : decode cX8_count 3 = .ok (.invokestatic 213, 3) := by decide +kernel
theorem dX8_count_6 : decode cX8_count 6 = .ok (.iload_n 1, 1) := by decide +kernel
theorem dX8_count_7 : decode cX8_count 7 = .ok (.tableswitch 121 0 7 #[45, 56, 67, 75, 80, 85, 94, 110], 45) := by decide +kernel
theorem dX8_count_52 : decode cX8_count 52 = .ok (.aload_n 0, 1) := by decide +kernel
theorem dX8_count_53 : decode cX8_count 53 = .ok (.getfield 12, 3) := by decide +kernel
theorem dX8_count_56 : decode cX8_count 56 = .ok (.getfield 48, 3) := by decide +kernel
theorem dX8_count_59 : decode cX8_count 59 = .ok (.getfield 95, 3) := by decide +kernel
theorem dX8_count_62 : decode cX8_count 62 = .ok (.ireturn, 1) := by decide +kernel
theorem dX8_count_63 : decode cX8_count 63 = .ok (.aload_n 0, 1) := by decide +kernel
theorem dX8_count_64 : decode cX8_count 64 = .ok (.getfield 12, 3) := by decide +kernel
theorem dX8_count_67 : decode cX8_count 67 = .ok (.getfield 48, 3) := by decide +kernel
theorem dX8_count_70 : decode cX8_count 70 = .ok (.invokevirtual 241, 3) := by decide +kernel
theorem dX8_count_73 : decode cX8_count 73 = .ok (.ireturn, 1) := by decide +kernel
theorem dX8_count_74 : decode cX8_count 74 = .ok (.aload_n 0, 1) := by decide +kernel
theorem dX8_count_75 : decode cX8_count 75 = .ok (.getfield 19, 3) := by decide +kernel
theorem dX8_count_78 : decode cX8_count 78 = .ok (.getfield 244, 3) := by decide +kernel
theorem dX8_count_81 : decode cX8_count 81 = .ok (.ireturn, 1) := by decide +kernel
theorem dX8_count_82 : decode cX8_count 82 = .ok (.aload_n 0, 1) := by decide +kernel
theorem dX8_count_83 : decode cX8_count 83 = .ok (.invokevirtual 247, 3) := by decide +kernel
theorem dX8_count_86 : decode cX8_count 86 = .ok (.ireturn, 1) := by decide +kernel
theorem dX8_count_87 : decode cX8_count 87 = .ok (.aload_n 0, 1) := by decide +kernel
theorem dX8_count_88 : decode cX8_count 88 = .ok (.invokevirtual 250, 3) := by decide +kernel
theorem dX8_count_91 : decode cX8_count 91 = .ok (.ireturn, 1) := by decide +kernel
theorem dX8_count_92 : decode cX8_count 92 = .ok (.aload_n 0, 1) := by decide +kernel
theorem dX8_count_93 : decode cX8_count 93 = .ok (.aload_n 0, 1) := by decide +kernel
theorem dX8_count_94 : decode cX8_count 94 = .ok (.getfield 44, 3) := by decide +kernel
theorem dX8_count_97 : decode cX8_count 97 = .ok (.invokevirtual 253, 3) := by decide +kernel
theorem dX8_count_100 : decode cX8_count 100 = .ok (.ireturn, 1) := by decide +kernel
theorem dX8_count_101 : decode cX8_count 101 = .ok (.aload_n 0, 1) := by decide +kernel
theorem dX8_count_102 : decode cX8_count 102 = .ok (.getfield 12, 3) := by decide +kernel
theorem dX8_count_105 : decode cX8_count 105 = .ok (.getfield 48, 3) := by decide +kernel
theorem dX8_count_108 : decode cX8_count 108 = .ok (.getfield 95, 3) := by decide +kernel
theorem dX8_count_111 : decode cX8_count 111 = .ok (.aload_n 0, 1) := by decide +kernel
theorem dX8_count_112 : decode cX8_count 112 = .ok (.invokevirtual 257, 3) := by decide +kernel
theorem dX8_count_115 : decode cX8_count 115 = .ok (.isub, 1) := by decide +kernel
theorem dX8_count_116 : decode cX8_count 116 = .ok (.ireturn, 1) := by decide +kernel
theorem dX8_count_117 : decode cX8_count 117 = .ok (.aload_n 0, 1) := by decide +kernel
theorem dX8_count_118 : decode cX8_count 118 = .ok (.getfield 12, 3) := by decide +kernel
theorem dX8_count_121 : decode cX8_count 121 = .ok (.getfield 48, 3) := by decide +kernel
theorem dX8_count_124 : decode cX8_count 124 = .ok (.getfield 174, 3) := by decide +kernel
theorem dX8_count_127 : decode cX8_count 127 = .ok (.ireturn, 1) := by decide +kernel
theorem dX8_count_128 : decode cX8_count 128 = .ok (.aload_n 0, 1) := by decide +kernel
theorem dX8_count_129 : decode cX8_count 129 = .ok (.getfield 33, 3) := by decide +kernel
theorem dX8_count_132 : decode cX8_count 132 = .ok (.getfield 205, 3) := by decide +kernel
theorem dX8_count_135 : decode cX8_count 135 = .ok (.ireturn, 1) := by decide +kernel
theorem dX8_ifInserted_0 : decode cX8_ifInserted 0 = .ok (.aload_n 0, 1) := by decide +kernel
theorem dX8_ifInserted_1 : decode cX8_ifInserted 1 = .ok (.iload_n 1, 1) := by decide +kernel
theorem dX8_ifInserted_2 : decode cX8_ifInserted 2 = .ok (.invokevirtual 52, 3) := by decide +kernel
theorem dX8_ifInserted_5 : decode cX8_ifInserted 5 = .ok (.iload_n 2, 1) := by decide +kernel
theorem dX8_ifInserted_6 : decode cX8_ifInserted 6 = .ok (.invokestatic 56, 3) := by decide +kernel
theorem dX8_ifInserted_9 : decode cX8_ifInserted 9 = .ok (.iload_n 3, 1) := by decide +kernel
theorem dX8_ifInserted_10 : decode cX8_ifInserted 10 = .ok (.iconst 1, 1) := by decide +kernel
theorem dX8_ifInserted_11 : decode cX8_ifInserted 11 = .ok (.invokestatic 213, 3) := by decide +kernel
theorem dX8_ifInserted_14 : decode cX8_ifInserted 14 = .ok (.aload_n 0, 1) := by decide +kernel
theorem dX8_ifInserted_15 : decode cX8_ifInserted 15 = .ok (.getfield 26, 3) := by decide +kernel
theorem dX8_ifInserted_18 : decode cX8_ifInserted 18 = .ok (.aload_n 0, 1) := by decide +kernel
theorem dX8_ifInserted_19 : decode cX8_ifInserted 19 = .ok (.getfield 12, 3) := by decide +kernel
theorem dX8_ifInserted_22 : decode cX8_ifInserted 22 = .ok (.getfield 48, 3) := by decide +kernel
theorem dX8_ifInserted_25 : decode cX8_ifInserted 25 = .ok (.iload_n 1, 1) := by decide +kernel
theorem dX8_ifInserted_26 : decode cX8_ifInserted 26 = .ok (.iload_n 2, 1) := by decide +kernel
theorem dX8_ifInserted_27 : decode cX8_ifInserted 27 = .ok (.invokevirtual 260, 3) := by decide +kernel
theorem dX8_ifInserted_30 : decode cX8_ifInserted 30 = .ok (.iload_n 3, 1) := by decide +kernel
theorem dX8_ifInserted_31 : decode cX8_ifInserted 31 = .ok (.ifCond .ne 17, 3) := by decide +kernel
theorem dX8_ifInserted_34 : decode cX8_ifInserted 34 = .ok (.aload_n 0, 1) := by decide +kernel
theorem dX8_ifInserted_35 : decode cX8_ifInserted 35 = .ok (.aload_n 0, 1) := by decide +kernel
theorem dX8_ifInserted_36 : decode cX8_ifInserted 36 = .ok (.getfield 26, 3) := by decide +kernel
theorem dX8_ifInserted_39 : decode cX8_ifInserted 39 = .ok (.getfield 264, 3) := by decide +kernel
theorem dX8_ifInserted_42 : decode cX8_ifInserted 42 = .ok (.invokevirtual 253, 3) := by decide +kernel
theorem dX8_ifInserted_45 : decode cX8_ifInserted 45 = .ok (.goto 7, 3) := by decide +kernel
theorem dX8_ifInserted_48 : decode cX8_ifInserted 48 = .ok (.aload_n 0, 1) := by decide +kernel
theorem dX8_ifInserted_49 : decode cX8_ifInserted 49 = .ok (.invokevirtual 267, 3) := by decide +kernel
theorem dX8_ifInserted_52 : decode cX8_ifInserted 52 = .ok (.ireturn, 1) := by decide +kernel
theorem dX8_ifDropped_0 : decode cX8_ifDropped 0 = .ok (.aload_n 0, 1) := by decide +kernel
theorem dX8_ifDropped_1 : decode cX8_ifDropped 1 = .ok (.iload_n 1, 1) := by decide +kernel
theorem dX8_ifDropped_2 : decode cX8_ifDropped 2 = .ok (.invokevirtual 75, 3) := by decide +kernel
theorem dX8_ifDropped_5 : decode cX8_ifDropped 5 = .ok (.iload_n 2, 1) := by decide +kernel
theorem dX8_ifDropped_6 : decode cX8_ifDropped 6 = .ok (.iconst 1, 1) := by decide +kernel
theorem dX8_ifDropped_7 : decode cX8_ifDropped 7 = .ok (.invokestatic 213, 3) := by decide +kernel
theorem dX8_ifDropped_10 : decode cX8_ifDropped 10 = .ok (.iload_n 2, 1) := by decide +kernel
theorem dX8_ifDropped_11 : decode cX8_ifDropped 11 = .ok (.ifCond .ne 9, 3) := by decide +kernel
theorem dX8_ifDropped_14 : decode cX8_ifDropped 14 = .ok (.aload_n 0, 1) := by decide +kernel
theorem dX8_ifDropped_15 : decode cX8_ifDropped 15 = .ok (.iload_n 1, 1) := by decide +kernel
theorem dX8_ifDropped_16 : decode cX8_ifDropped 16 = .ok (.invokevirtual 91, 3) := by decide +kernel
theorem dX8_ifDropped_19 : decode cX8_ifDropped 19 = .ok (.ireturn, 1) := by decide +kernel
theorem dX8_ifDropped_20 : decode cX8_ifDropped 20 = .ok (.aload_n 0, 1) := by decide +kernel
theorem dX8_ifDropped_21 : decode cX8_ifDropped 21 = .ok (.getfield 26, 3) := by decide +kernel
theorem dX8_ifDropped_24 : decode cX8_ifDropped 24 = .ok (.aload_n 0, 1) := by decide +kernel
theorem dX8_ifDropped_25 : decode cX8_ifDropped 25 = .ok (.getfield 12, 3) := by decide +kernel
theorem dX8_ifDropped_28 : decode cX8_ifDropped 28 = .ok (.getfield 48, 3) := by decide +kernel
theorem dX8_ifDropped_31 : decode cX8_ifDropped 31 = .ok (.iload_n 1, 1) := by decide +kernel
theorem dX8_ifDropped_32 : decode cX8_ifDropped 32 = .ok (.invokevirtual 270, 3) := by decide +kernel
theorem dX8_ifDropped_35 : decode cX8_ifDropped 35 = .ok (.aload_n 0, 1) := by decide +kernel
theorem dX8_ifDropped_36 : decode cX8_ifDropped 36 = .ok (.aload_n 0, 1) := by decide +kernel
theorem dX8_ifDropped_37 : decode cX8_ifDropped 37 = .ok (.getfield 26, 3) := by decide +kernel
theorem dX8_ifDropped_40 : decode cX8_ifDropped 40 = .ok (.getfield 264, 3) := by decide +kernel
theorem dX8_ifDropped_43 : decode cX8_ifDropped 43 = .ok (.invokevirtual 253, 3) := by decide +kernel
theorem dX8_ifDropped_46 : decode cX8_ifDropped 46 = .ok (.ireturn, 1) := by decide +kernel
theorem dX8_bestMove_0 : decode cX8_bestMove 0 = .ok (.aload_n 0, 1) := by decide +kernel
theorem dX8_bestMove_1 : decode cX8_bestMove 1 = .ok (.iload_n 1, 1) := by decide +kernel
theorem dX8_bestMove_2 : decode cX8_bestMove 2 = .ok (.invokevirtual 75, 3) := by decide +kernel
theorem dX8_bestMove_5 : decode cX8_bestMove 5 = .ok (.iconst (-1), 1) := by decide +kernel
theorem dX8_bestMove_6 : decode cX8_bestMove 6 = .ok (.istore_n 2, 1) := by decide +kernel
theorem dX8_bestMove_7 : decode cX8_bestMove 7 = .ok (.bipush 13, 2) := by decide +kernel
theorem dX8_bestMove_9 : decode cX8_bestMove 9 = .ok (.istore_n 3, 1) := by decide +kernel
theorem dX8_bestMove_10 : decode cX8_bestMove 10 = .ok (.bipush 31, 2) := by decide +kernel
theorem dX8_bestMove_12 : decode cX8_bestMove 12 = .ok (.istore 4, 2) := by decide +kernel
theorem dX8_bestMove_14 : decode cX8_bestMove 14 = .ok (.iconst 0, 1) := by decide +kernel
theorem dX8_bestMove_15 : decode cX8_bestMove 15 = .ok (.istore 5, 2) := by decide +kernel
theorem dX8_bestMove_17 : decode cX8_bestMove 17 = .ok (.iload 5, 2) := by decide +kernel
theorem dX8_bestMove_19 : decode cX8_bestMove 19 = .ok (.aload_n 0, 1) := by decide +kernel
theorem dX8_bestMove_20 : decode cX8_bestMove 20 = .ok (.getfield 12, 3) := by decide +kernel
theorem dX8_bestMove_23 : decode cX8_bestMove 23 = .ok (.getfield 48, 3) := by decide +kernel
theorem dX8_bestMove_26 : decode cX8_bestMove 26 = .ok (.getfield 95, 3) := by decide +kernel
theorem dX8_bestMove_29 : decode cX8_bestMove 29 = .ok (.if_icmp .ge 77, 3) := by decide +kernel
theorem dX8_bestMove_32 : decode cX8_bestMove 32 = .ok (.aload_n 0, 1) := by decide +kernel
theorem dX8_bestMove_33 : decode cX8_bestMove 33 = .ok (.getfield 26, 3) := by decide +kernel
theorem dX8_bestMove_36 : decode cX8_bestMove 36 = .ok (.aload_n 0, 1) := by decide +kernel
theorem dX8_bestMove_37 : decode cX8_bestMove 37 = .ok (.getfield 12, 3) := by decide +kernel
theorem dX8_bestMove_40 : decode cX8_bestMove 40 = .ok (.getfield 48, 3) := by decide +kernel
theorem dX8_bestMove_43 : decode cX8_bestMove 43 = .ok (.iload_n 1, 1) := by decide +kernel
theorem dX8_bestMove_44 : decode cX8_bestMove 44 = .ok (.iload 5, 2) := by decide +kernel
theorem dX8_bestMove_46 : decode cX8_bestMove 46 = .ok (.invokevirtual 274, 3) := by decide +kernel
theorem dX8_bestMove_49 : decode cX8_bestMove 49 = .ok (.aload_n 0, 1) := by decide +kernel
theorem dX8_bestMove_50 : decode cX8_bestMove 50 = .ok (.aload_n 0, 1) := by decide +kernel
theorem dX8_bestMove_51 : decode cX8_bestMove 51 = .ok (.getfield 26, 3) := by decide +kernel
theorem dX8_bestMove_54 : decode cX8_bestMove 54 = .ok (.getfield 264, 3) := by decide +kernel
theorem dX8_bestMove_57 : decode cX8_bestMove 57 = .ok (.invokevirtual 253, 3) := by decide +kernel
theorem dX8_bestMove_60 : decode cX8_bestMove 60 = .ok (.istore 6, 2) := by decide +kernel
theorem dX8_bestMove_62 : decode cX8_bestMove 62 = .ok (.iload 6, 2) := by decide +kernel
theorem dX8_bestMove_64 : decode cX8_bestMove 64 = .ok (.iload_n 3, 1) := by decide +kernel
theorem dX8_bestMove_65 : decode cX8_bestMove 65 = .ok (.if_icmp .le 6, 3) := by decide +kernel
theorem dX8_bestMove_68 : decode cX8_bestMove 68 = .ok (.goto 32, 3) := by decide +kernel
theorem dX8_bestMove_71 : decode cX8_bestMove 71 = .ok (.aload_n 0, 1) := by decide +kernel
theorem dX8_bestMove_72 : decode cX8_bestMove 72 = .ok (.invokevirtual 267, 3) := by decide +kernel
theorem dX8_bestMove_75 : decode cX8_bestMove 75 = .ok (.istore 7, 2) := by decide +kernel
theorem dX8_bestMove_77 : decode cX8_bestMove 77 = .ok (.iload 6, 2) := by decide +kernel
theorem dX8_bestMove_79 : decode cX8_bestMove 79 = .ok (.iload_n 3, 1) := by decide +kernel
theorem dX8_bestMove_80 : decode cX8_bestMove 80 = .ok (.if_icmp .lt 10, 3) := by decide +kernel
theorem dX8_bestMove_83 : decode cX8_bestMove 83 = .ok (.iload 7, 2) := by decide +kernel
theorem dX8_bestMove_85 : decode cX8_bestMove 85 = .ok (.iload 4, 2) := by decide +kernel
theorem dX8_bestMove_87 : decode cX8_bestMove 87 = .ok (.if_icmp .ge 13, 3) := by decide +kernel
theorem dX8_bestMove_90 : decode cX8_bestMove 90 = .ok (.iload 5, 2) := by decide +kernel
theorem dX8_bestMove_92 : decode cX8_bestMove 92 = .ok (.istore_n 2, 1) := by decide +kernel
theorem dX8_bestMove_93 : decode cX8_bestMove 93 = .ok (.iload 6, 2) := by decide +kernel
theorem dX8_bestMove_95 : decode cX8_bestMove 95 = .ok (.istore_n 3, 1) := by decide +kernel
theorem dX8_bestMove_96 : decode cX8_bestMove 96 = .ok (.iload 7, 2) := by decide +kernel
theorem dX8_bestMove_98 : decode cX8_bestMove 98 = .ok (.istore 4, 2) := by decide +kernel
theorem dX8_bestMove_100 : decode cX8_bestMove 100 = .ok (.iinc 5 1, 3) := by decide +kernel
theorem dX8_bestMove_103 : decode cX8_bestMove 103 = .ok (.goto (-86), 3) := by decide +kernel
theorem dX8_bestMove_106 : decode cX8_bestMove 106 = .ok (.iload_n 2, 1) := by decide +kernel
theorem dX8_bestMove_107 : decode cX8_bestMove 107 = .ok (.ireturn, 1) := by decide +kernel
theorem dX8_leastPages_0 : decode cX8_leastPages 0 = .ok (.iload_n 1, 1) := by decide +kernel
theorem dX8_leastPages_1 : decode cX8_leastPages 1 = .ok (.iconst 1, 1) := by decide +kernel
theorem dX8_leastPages_2 : decode cX8_leastPages 2 = .ok (.if_icmp .lt 9, 3) := by decide +kernel
theorem dX8_leastPages_5 : decode cX8_leastPages 5 = .ok (.iload_n 1, 1) := by decide +kernel
theorem dX8_leastPages_6 : decode cX8_leastPages 6 = .ok (.bipush 30, 2) := by decide +kernel
theorem dX8_leastPages_8 : decode cX8_leastPages 8 = .ok (.if_icmp .le 14, 3) := by decide +kernel
theorem dX8_leastPages_11 : decode cX8_leastPages 11 = .ok (.new 120, 3) := by decide +kernel
theorem dX8_leastPages_14 : decode cX8_leastPages 14 = .ok (.dup, 1) := by decide +kernel
theorem dX8_leastPages_15 : decode cX8_leastPages 15 = .ok (.ldc_w 277, 3) := by decide +kernel
theorem dX8_leastPages_18 : decode cX8_leastPages 18 = .ok (.invokespecial 124, 3) := by decide +kernel
theorem dX8_leastPages_21 : decode cX8_leastPages 21 = .ok (.athrow, 1) := by decide +kernel
theorem dX8_leastPages_22 : decode cX8_leastPages 22 = .ok (.aload_n 0, 1) := by decide +kernel
theorem dX8_leastPages_23 : decode cX8_leastPages 23 = .ok (.getfield 12, 3) := by decide +kernel
theorem dX8_leastPages_26 : decode cX8_leastPages 26 = .ok (.getfield 48, 3) := by decide +kernel
theorem dX8_leastPages_29 : decode cX8_leastPages 29 = .ok (.astore_n 2, 1) := by decide +kernel
theorem dX8_leastPages_30 : decode cX8_leastPages 30 = .ok (.bipush 10, 2) := by decide +kernel
theorem dX8_leastPages_32 : decode cX8_leastPages 32 = .ok (.istore_n 3, 1) := by decide +kernel
theorem dX8_leastPages_33 : decode cX8_leastPages 33 = .ok (.iload_n 3, 1) := by decide +kernel
theorem dX8_leastPages_34 : decode cX8_leastPages 34 = .ok (.sipush 200, 3) := by decide +kernel
theorem dX8_leastPages_37 : decode cX8_leastPages 37 = .ok (.if_icmp .gt 27, 3) := by decide +kernel
theorem dX8_leastPages_40 : decode cX8_leastPages 40 = .ok (.aload_n 2, 1) := by decide +kernel
theorem dX8_leastPages_41 : decode cX8_leastPages 41 = .ok (.getfield 81, 3) := by decide +kernel
theorem dX8_leastPages_44 : decode cX8_leastPages 44 = .ok (.aload_n 2, 1) := by decide +kernel
theorem dX8_leastPages_45 : decode cX8_leastPages 45 = .ok (.getfield 95, 3) := by decide +kernel
theorem dX8_leastPages_48 : decode cX8_leastPages 48 = .ok (.iload_n 3, 1) := by decide +kernel
theorem dX8_leastPages_49 : decode cX8_leastPages 49 = .ok (.invokestatic 279, 3) := by decide +kernel
theorem dX8_leastPages_52 : decode cX8_leastPages 52 = .ok (.iload_n 1, 1) := by decide +kernel
theorem dX8_leastPages_53 : decode cX8_leastPages 53 = .ok (.if_icmp .gt 5, 3) := by decide +kernel
theorem dX8_leastPages_56 : decode cX8_leastPages 56 = .ok (.iload_n 3, 1) := by decide +kernel
theorem dX8_leastPages_57 : decode cX8_leastPages 57 = .ok (.ireturn, 1) := by decide +kernel
theorem dX8_leastPages_58 : decode cX8_leastPages 58 = .ok (.iinc 3 1, 3) := by decide +kernel
theorem dX8_leastPages_61 : decode cX8_leastPages 61 = .ok (.goto (-28), 3) := by decide +kernel
theorem dX8_leastPages_64 : decode cX8_leastPages 64 = .ok (.iconst (-1), 1) := by decide +kernel
theorem dX8_leastPages_65 : decode cX8_leastPages 65 = .ok (.ireturn, 1) := by decide +kernel
theorem dX8_citedShare_0 : decode cX8_citedShare 0 = .ok (.aload_n 0, 1) := by decide +kernel
theorem dX8_citedShare_1 : decode cX8_citedShare 1 = .ok (.getfield 12, 3) := by decide +kernel
theorem dX8_citedShare_4 : decode cX8_citedShare 4 = .ok (.getfield 48, 3) := by decide +kernel
theorem dX8_citedShare_7 : decode cX8_citedShare 7 = .ok (.getfield 95, 3) := by decide +kernel
theorem dX8_citedShare_10 : decode cX8_citedShare 10 = .ok (.ifCond .ne 5, 3) := by decide +kernel
theorem dX8_citedShare_13 : decode cX8_citedShare 13 = .ok (.dconst 1, 1) := by decide +kernel
theorem dX8_citedShare_14 : decode cX8_citedShare 14 = .ok (.dreturn, 1) := by decide +kernel
theorem dX8_citedShare_15 : decode cX8_citedShare 15 = .ok (.aload_n 0, 1) := by decide +kernel
theorem dX8_citedShare_16 : decode cX8_citedShare 16 = .ok (.invokevirtual 257, 3) := by decide +kernel
theorem dX8_citedShare_19 : decode cX8_citedShare 19 = .ok (.i2d, 1) := by decide +kernel
theorem dX8_citedShare_20 : decode cX8_citedShare 20 = .ok (.aload_n 0, 1) := by decide +kernel
theorem dX8_citedShare_21 : decode cX8_citedShare 21 = .ok (.getfield 12, 3) := by decide +kernel
theorem dX8_citedShare_24 : decode cX8_citedShare 24 = .ok (.getfield 48, 3) := by decide +kernel
theorem dX8_citedShare_27 : decode cX8_citedShare 27 = .ok (.getfield 95, 3) := by decide +kernel
theorem dX8_citedShare_30 : decode cX8_citedShare 30 = .ok (.i2d, 1) := by decide +kernel
theorem dX8_citedShare_31 : decode cX8_citedShare 31 = .ok (.ddiv, 1) := by decide +kernel
theorem dX8_citedShare_32 : decode cX8_citedShare 32 = .ok (.dreturn, 1) := by decide +kernel
theorem dX8_digest_0 : decode cX8_digest 0 = .ok (.ldc2_w 283, 3) := by decide +kernel
theorem dX8_digest_3 : decode cX8_digest 3 = .ok (.lstore_n 1, 1) := by decide +kernel
theorem dX8_digest_4 : decode cX8_digest 4 = .ok (.iconst 0, 1) := by decide +kernel
theorem dX8_digest_5 : decode cX8_digest 5 = .ok (.istore_n 3, 1) := by decide +kernel
theorem dX8_digest_6 : decode cX8_digest 6 = .ok (.iload_n 3, 1) := by decide +kernel
theorem dX8_digest_7 : decode cX8_digest 7 = .ok (.bipush 8, 2) := by decide +kernel
theorem dX8_digest_9 : decode cX8_digest 9 = .ok (.if_icmp .gt 20, 3) := by decide +kernel
theorem dX8_digest_12 : decode cX8_digest 12 = .ok (.lload_n 1, 1) := by decide +kernel
theorem dX8_digest_13 : decode cX8_digest 13 = .ok (.aload_n 0, 1) := by decide +kernel
theorem dX8_digest_14 : decode cX8_digest 14 = .ok (.iload_n 3, 1) := by decide +kernel
theorem dX8_digest_15 : decode cX8_digest 15 = .ok (.invokevirtual 285, 3) := by decide +kernel
theorem dX8_digest_18 : decode cX8_digest 18 = .ok (.i2l, 1) := by decide +kernel
theorem dX8_digest_19 : decode cX8_digest 19 = .ok (.invokestatic 287, 3) := by decide +kernel
theorem dX8_digest_22 : decode cX8_digest 22 = .ok (.lstore_n 1, 1) := by decide +kernel
theorem dX8_digest_23 : decode cX8_digest 23 = .ok (.iinc 3 1, 3) := by decide +kernel
theorem dX8_digest_26 : decode cX8_digest 26 = .ok (.goto (-20), 3) := by decide +kernel
theorem dX8_digest_29 : decode cX8_digest 29 = .ok (.iconst 0, 1) := by decide +kernel
theorem dX8_digest_30 : decode cX8_digest 30 = .ok (.istore_n 3, 1) := by decide +kernel
theorem dX8_digest_31 : decode cX8_digest 31 = .ok (.iload_n 3, 1) := by decide +kernel
theorem dX8_digest_32 : decode cX8_digest 32 = .ok (.aload_n 0, 1) := by decide +kernel
theorem dX8_digest_33 : decode cX8_digest 33 = .ok (.getfield 12, 3) := by decide +kernel
theorem dX8_digest_36 : decode cX8_digest 36 = .ok (.getfield 48, 3) := by decide +kernel
theorem dX8_digest_39 : decode cX8_digest 39 = .ok (.getfield 95, 3) := by decide +kernel
theorem dX8_digest_42 : decode cX8_digest 42 = .ok (.if_icmp .ge 16, 3) := by decide +kernel
theorem dX8_digest_45 : decode cX8_digest 45 = .ok (.aload_n 0, 1) := by decide +kernel
theorem dX8_digest_46 : decode cX8_digest 46 = .ok (.lload_n 1, 1) := by decide +kernel
theorem dX8_digest_47 : decode cX8_digest 47 = .ok (.iload_n 3, 1) := by decide +kernel
theorem dX8_digest_48 : decode cX8_digest 48 = .ok (.invokevirtual 291, 3) := by decide +kernel
theorem dX8_digest_51 : decode cX8_digest 51 = .ok (.lstore_n 1, 1) := by decide +kernel
theorem dX8_digest_52 : decode cX8_digest 52 = .ok (.iinc 3 1, 3) := by decide +kernel
theorem dX8_digest_55 : decode cX8_digest 55 = .ok (.goto (-24), 3) := by decide +kernel
theorem dX8_digest_58 : decode cX8_digest 58 = .ok (.iconst 0, 1) := by decide +kernel
theorem dX8_digest_59 : decode cX8_digest 59 = .ok (.istore_n 3, 1) := by decide +kernel
theorem dX8_digest_60 : decode cX8_digest 60 = .ok (.iload_n 3, 1) := by decide +kernel
theorem dX8_digest_61 : decode cX8_digest 61 = .ok (.bipush 12, 2) := by decide +kernel
theorem dX8_digest_63 : decode cX8_digest 63 = .ok (.if_icmp .ge 16, 3) := by decide +kernel
theorem dX8_digest_66 : decode cX8_digest 66 = .ok (.aload_n 0, 1) := by decide +kernel
theorem dX8_digest_67 : decode cX8_digest 67 = .ok (.lload_n 1, 1) := by decide +kernel
theorem dX8_digest_68 : decode cX8_digest 68 = .ok (.iload_n 3, 1) := by decide +kernel
theorem dX8_digest_69 : decode cX8_digest 69 = .ok (.invokevirtual 295, 3) := by decide +kernel
theorem dX8_digest_72 : decode cX8_digest 72 = .ok (.lstore_n 1, 1) := by decide +kernel
theorem dX8_digest_73 : decode cX8_digest 73 = .ok (.iinc 3 1, 3) := by decide +kernel
theorem dX8_digest_76 : decode cX8_digest 76 = .ok (.goto (-16), 3) := by decide +kernel
theorem dX8_digest_79 : decode cX8_digest 79 = .ok (.lload_n 1, 1) := by decide +kernel
theorem dX8_digest_80 : decode cX8_digest 80 = .ok (.aload_n 0, 1) := by decide +kernel
theorem dX8_digest_81 : decode cX8_digest 81 = .ok (.iconst 0, 1) := by decide +kernel
theorem dX8_digest_82 : decode cX8_digest 82 = .ok (.iconst 5, 1) := by decide +kernel
theorem dX8_digest_83 : decode cX8_digest 83 = .ok (.iconst 0, 1) := by decide +kernel
theorem dX8_digest_84 : decode cX8_digest 84 = .ok (.invokevirtual 298, 3) := by decide +kernel
theorem dX8_digest_87 : decode cX8_digest 87 = .ok (.i2l, 1) := by decide +kernel
theorem dX8_digest_88 : decode cX8_digest 88 = .ok (.invokestatic 287, 3) := by decide +kernel
theorem dX8_digest_91 : decode cX8_digest 91 = .ok (.lstore_n 1, 1) := by decide +kernel
theorem dX8_digest_92 : decode cX8_digest 92 = .ok (.lload_n 1, 1) := by decide +kernel
theorem dX8_digest_93 : decode cX8_digest 93 = .ok (.aload_n 0, 1) := by decide +kernel
theorem dX8_digest_94 : decode cX8_digest 94 = .ok (.iconst 0, 1) := by decide +kernel
theorem dX8_digest_95 : decode cX8_digest 95 = .ok (.iconst 5, 1) := by decide +kernel
theorem dX8_digest_96 : decode cX8_digest 96 = .ok (.iconst 1, 1) := by decide +kernel
theorem dX8_digest_97 : decode cX8_digest 97 = .ok (.invokevirtual 298, 3) := by decide +kernel
theorem dX8_digest_100 : decode cX8_digest 100 = .ok (.i2l, 1) := by decide +kernel
theorem dX8_digest_101 : decode cX8_digest 101 = .ok (.invokestatic 287, 3) := by decide +kernel
theorem dX8_digest_104 : decode cX8_digest 104 = .ok (.lstore_n 1, 1) := by decide +kernel
theorem dX8_digest_105 : decode cX8_digest 105 = .ok (.lload_n 1, 1) := by decide +kernel
theorem dX8_digest_106 : decode cX8_digest 106 = .ok (.aload_n 0, 1) := by decide +kernel
theorem dX8_digest_107 : decode cX8_digest 107 = .ok (.iconst 2, 1) := by decide +kernel
theorem dX8_digest_108 : decode cX8_digest 108 = .ok (.invokevirtual 302, 3) := by decide +kernel
theorem dX8_digest_111 : decode cX8_digest 111 = .ok (.i2l, 1) := by decide +kernel
theorem dX8_digest_112 : decode cX8_digest 112 = .ok (.invokestatic 287, 3) := by decide +kernel
theorem dX8_digest_115 : decode cX8_digest 115 = .ok (.lstore_n 1, 1) := by decide +kernel
theorem dX8_digest_116 : decode cX8_digest 116 = .ok (.lload_n 1, 1) := by decide +kernel
theorem dX8_digest_117 : decode cX8_digest 117 = .ok (.aload_n 0, 1) := by decide +kernel
theorem dX8_digest_118 : decode cX8_digest 118 = .ok (.invokevirtual 305, 3) := by decide +kernel
theorem dX8_digest_121 : decode cX8_digest 121 = .ok (.invokestatic 309, 3) := by decide +kernel
theorem dX8_digest_124 : decode cX8_digest 124 = .ok (.invokestatic 287, 3) := by decide +kernel
theorem dX8_digest_127 : decode cX8_digest 127 = .ok (.lstore_n 1, 1) := by decide +kernel
theorem dX8_digest_128 : decode cX8_digest 128 = .ok (.lload_n 1, 1) := by decide +kernel
theorem dX8_digest_129 : decode cX8_digest 129 = .ok (.aload_n 0, 1) := by decide +kernel
theorem dX8_digest_130 : decode cX8_digest 130 = .ok (.getfield 40, 3) := by decide +kernel
theorem dX8_digest_133 : decode cX8_digest 133 = .ok (.getfield 179, 3) := by decide +kernel
theorem dX8_digest_136 : decode cX8_digest 136 = .ok (.i2l, 1) := by decide +kernel
theorem dX8_digest_137 : decode cX8_digest 137 = .ok (.invokestatic 287, 3) := by decide +kernel
theorem dX8_digest_140 : decode cX8_digest 140 = .ok (.lstore_n 1, 1) := by decide +kernel
theorem dX8_digest_141 : decode cX8_digest 141 = .ok (.iconst 0, 1) := by decide +kernel
theorem dX8_digest_142 : decode cX8_digest 142 = .ok (.istore_n 3, 1) := by decide +kernel
theorem dX8_digest_143 : decode cX8_digest 143 = .ok (.iload_n 3, 1) := by decide +kernel
theorem dX8_digest_144 : decode cX8_digest 144 = .ok (.aload_n 0, 1) := by decide +kernel
theorem dX8_digest_145 : decode cX8_digest 145 = .ok (.getfield 40, 3) := by decide +kernel
theorem dX8_digest_148 : decode cX8_digest 148 = .ok (.getfield 179, 3) := by decide +kernel
theorem dX8_digest_151 : decode cX8_digest 151 = .ok (.if_icmp .ge 24, 3) := by decide +kernel
theorem dX8_digest_154 : decode cX8_digest 154 = .ok (.lload_n 1, 1) := by decide +kernel
theorem dX8_digest_155 : decode cX8_digest 155 = .ok (.aload_n 0, 1) := by decide +kernel
theorem dX8_digest_156 : decode cX8_digest 156 = .ok (.getfield 40, 3) := by decide +kernel
theorem dX8_digest_159 : decode cX8_digest 159 = .ok (.getfield 313, 3) := by decide +kernel
theorem dX8_digest_162 : decode cX8_digest 162 = .ok (.iload_n 3, 1) := by decide +kernel
theorem dX8_digest_163 : decode cX8_digest 163 = .ok (.iaload, 1) := by decide +kernel
theorem dX8_digest_164 : decode cX8_digest 164 = .ok (.i2l, 1) := by decide +kernel
theorem dX8_digest_165 : decode cX8_digest 165 = .ok (.invokestatic 287, 3) := by decide +kernel
theorem dX8_digest_168 : decode cX8_digest 168 = .ok (.lstore_n 1, 1) := by decide +kernel
theorem dX8_digest_169 : decode cX8_digest 169 = .ok (.iinc 3 1, 3) := by decide +kernel
theorem dX8_digest_172 : decode cX8_digest 172 = .ok (.goto (-29), 3) := by decide +kernel
theorem dX8_digest_175 : decode cX8_digest 175 = .ok (.lload_n 1, 1) := by decide +kernel
theorem dX8_digest_176 : decode cX8_digest 176 = .ok (.lreturn, 1) := by decide +kernel
theorem dX8_mixedWithExhibit_0 : decode cX8_mixedWithExhibit 0 = .ok (.lload_n 1, 1) := by decide +kernel
theorem dX8_mixedWithExhibit_1 : decode cX8_mixedWithExhibit 1 = .ok (.lstore 4, 2) := by decide +kernel
theorem dX8_mixedWithExhibit_3 : decode cX8_mixedWithExhibit 3 = .ok (.iconst 0, 1) := by decide +kernel
theorem dX8_mixedWithExhibit_4 : decode cX8_mixedWithExhibit 4 = .ok (.istore 6, 2) := by decide +kernel
theorem dX8_mixedWithExhibit_6 : decode cX8_mixedWithExhibit 6 = .ok (.iload 6, 2) := by decide +kernel
theorem dX8_mixedWithExhibit_8 : decode cX8_mixedWithExhibit 8 = .ok (.iconst 5, 1) := by decide +kernel
theorem dX8_mixedWithExhibit_9 : decode cX8_mixedWithExhibit 9 = .ok (.if_icmp .gt 24, 3) := by decide +kernel
theorem dX8_mixedWithExhibit_12 : decode cX8_mixedWithExhibit 12 = .ok (.lload 4, 2) := by decide +kernel
theorem dX8_mixedWithExhibit_14 : decode cX8_mixedWithExhibit 14 = .ok (.aload_n 0, 1) := by decide +kernel
theorem dX8_mixedWithExhibit_15 : decode cX8_mixedWithExhibit 15 = .ok (.iload_n 3, 1) := by decide +kernel
theorem dX8_mixedWithExhibit_16 : decode cX8_mixedWithExhibit 16 = .ok (.iload 6, 2) := by decide +kernel
theorem dX8_mixedWithExhibit_18 : decode cX8_mixedWithExhibit 18 = .ok (.invokevirtual 316, 3) := by decide +kernel
theorem dX8_mixedWithExhibit_21 : decode cX8_mixedWithExhibit 21 = .ok (.i2l, 1) := by decide +kernel
theorem dX8_mixedWithExhibit_22 : decode cX8_mixedWithExhibit 22 = .ok (.invokestatic 287, 3) := by decide +kernel
theorem dX8_mixedWithExhibit_25 : decode cX8_mixedWithExhibit 25 = .ok (.lstore 4, 2) := by decide +kernel
theorem dX8_mixedWithExhibit_27 : decode cX8_mixedWithExhibit 27 = .ok (.iinc 6 1, 3) := by decide +kernel
theorem dX8_mixedWithExhibit_30 : decode cX8_mixedWithExhibit 30 = .ok (.goto (-24), 3) := by decide +kernel
theorem dX8_mixedWithExhibit_33 : decode cX8_mixedWithExhibit 33 = .ok (.lload 4, 2) := by decide +kernel
theorem dX8_mixedWithExhibit_35 : decode cX8_mixedWithExhibit 35 = .ok (.aload_n 0, 1) := by decide +kernel
theorem dX8_mixedWithExhibit_36 : decode cX8_mixedWithExhibit 36 = .ok (.iload_n 3, 1) := by decide +kernel
theorem dX8_mixedWithExhibit_37 : decode cX8_mixedWithExhibit 37 = .ok (.invokevirtual 319, 3) := by decide +kernel
theorem dX8_mixedWithExhibit_40 : decode cX8_mixedWithExhibit 40 = .ok (.i2l, 1) := by decide +kernel
theorem dX8_mixedWithExhibit_41 : decode cX8_mixedWithExhibit 41 = .ok (.invokestatic 287, 3) := by decide +kernel
theorem dX8_mixedWithExhibit_44 : decode cX8_mixedWithExhibit 44 = .ok (.lstore 4, 2) := by decide +kernel
theorem dX8_mixedWithExhibit_46 : decode cX8_mixedWithExhibit 46 = .ok (.lload 4, 2) := by decide +kernel
theorem dX8_mixedWithExhibit_48 : decode cX8_mixedWithExhibit 48 = .ok (.aload_n 0, 1) := by decide +kernel
theorem dX8_mixedWithExhibit_49 : decode cX8_mixedWithExhibit 49 = .ok (.iload_n 3, 1) := by decide +kernel
theorem dX8_mixedWithExhibit_50 : decode cX8_mixedWithExhibit 50 = .ok (.iconst 0, 1) := by decide +kernel
theorem dX8_mixedWithExhibit_51 : decode cX8_mixedWithExhibit 51 = .ok (.invokevirtual 322, 3) := by decide +kernel
theorem dX8_mixedWithExhibit_54 : decode cX8_mixedWithExhibit 54 = .ok (.i2l, 1) := by decide +kernel
theorem dX8_mixedWithExhibit_55 : decode cX8_mixedWithExhibit 55 = .ok (.invokestatic 287, 3) := by decide +kernel
theorem dX8_mixedWithExhibit_58 : decode cX8_mixedWithExhibit 58 = .ok (.lstore 4, 2) := by decide +kernel
theorem dX8_mixedWithExhibit_60 : decode cX8_mixedWithExhibit 60 = .ok (.lload 4, 2) := by decide +kernel
theorem dX8_mixedWithExhibit_62 : decode cX8_mixedWithExhibit 62 = .ok (.aload_n 0, 1) := by decide +kernel
theorem dX8_mixedWithExhibit_63 : decode cX8_mixedWithExhibit 63 = .ok (.iload_n 3, 1) := by decide +kernel
theorem dX8_mixedWithExhibit_64 : decode cX8_mixedWithExhibit 64 = .ok (.iconst 1, 1) := by decide +kernel
theorem dX8_mixedWithExhibit_65 : decode cX8_mixedWithExhibit 65 = .ok (.invokevirtual 322, 3) := by decide +kernel
theorem dX8_mixedWithExhibit_68 : decode cX8_mixedWithExhibit 68 = .ok (.i2l, 1) := by decide +kernel
theorem dX8_mixedWithExhibit_69 : decode cX8_mixedWithExhibit 69 = .ok (.invokestatic 287, 3) := by decide +kernel
theorem dX8_mixedWithExhibit_72 : decode cX8_mixedWithExhibit 72 = .ok (.lstore 4, 2) := by decide +kernel
theorem dX8_mixedWithExhibit_74 : decode cX8_mixedWithExhibit 74 = .ok (.lload 4, 2) := by decide +kernel
theorem dX8_mixedWithExhibit_76 : decode cX8_mixedWithExhibit 76 = .ok (.aload_n 0, 1) := by decide +kernel
theorem dX8_mixedWithExhibit_77 : decode cX8_mixedWithExhibit 77 = .ok (.iload_n 3, 1) := by decide +kernel
theorem dX8_mixedWithExhibit_78 : decode cX8_mixedWithExhibit 78 = .ok (.invokevirtual 325, 3) := by decide +kernel
theorem dX8_mixedWithExhibit_81 : decode cX8_mixedWithExhibit 81 = .ok (.i2l, 1) := by decide +kernel
theorem dX8_mixedWithExhibit_82 : decode cX8_mixedWithExhibit 82 = .ok (.invokestatic 287, 3) := by decide +kernel
theorem dX8_mixedWithExhibit_85 : decode cX8_mixedWithExhibit 85 = .ok (.lreturn, 1) := by decide +kernel
theorem dX8_mixedWithParagraph_0 : decode cX8_mixedWithParagraph 0 = .ok (.lload_n 1, 1) := by decide +kernel
theorem dX8_mixedWithParagraph_1 : decode cX8_mixedWithParagraph 1 = .ok (.lstore 4, 2) := by decide +kernel
theorem dX8_mixedWithParagraph_3 : decode cX8_mixedWithParagraph 3 = .ok (.iconst 0, 1) := by decide +kernel
theorem dX8_mixedWithParagraph_4 : decode cX8_mixedWithParagraph 4 = .ok (.istore 6, 2) := by decide +kernel
theorem dX8_mixedWithParagraph_6 : decode cX8_mixedWithParagraph 6 = .ok (.iload 6, 2) := by decide +kernel
theorem dX8_mixedWithParagraph_8 : decode cX8_mixedWithParagraph 8 = .ok (.iconst 3, 1) := by decide +kernel
theorem dX8_mixedWithParagraph_9 : decode cX8_mixedWithParagraph 9 = .ok (.if_icmp .gt 24, 3) := by decide +kernel
theorem dX8_mixedWithParagraph_12 : decode cX8_mixedWithParagraph 12 = .ok (.lload 4, 2) := by decide +kernel
theorem dX8_mixedWithParagraph_14 : decode cX8_mixedWithParagraph 14 = .ok (.aload_n 0, 1) := by decide +kernel
theorem dX8_mixedWithParagraph_15 : decode cX8_mixedWithParagraph 15 = .ok (.iload_n 3, 1) := by decide +kernel
theorem dX8_mixedWithParagraph_16 : decode cX8_mixedWithParagraph 16 = .ok (.iload 6, 2) := by decide +kernel
theorem dX8_mixedWithParagraph_18 : decode cX8_mixedWithParagraph 18 = .ok (.invokevirtual 328, 3) := by decide +kernel
theorem dX8_mixedWithParagraph_21 : decode cX8_mixedWithParagraph 21 = .ok (.i2l, 1) := by decide +kernel
theorem dX8_mixedWithParagraph_22 : decode cX8_mixedWithParagraph 22 = .ok (.invokestatic 287, 3) := by decide +kernel
theorem dX8_mixedWithParagraph_25 : decode cX8_mixedWithParagraph 25 = .ok (.lstore 4, 2) := by decide +kernel
theorem dX8_mixedWithParagraph_27 : decode cX8_mixedWithParagraph 27 = .ok (.iinc 6 1, 3) := by decide +kernel
theorem dX8_mixedWithParagraph_30 : decode cX8_mixedWithParagraph 30 = .ok (.goto (-24), 3) := by decide +kernel
theorem dX8_mixedWithParagraph_33 : decode cX8_mixedWithParagraph 33 = .ok (.iconst 0, 1) := by decide +kernel
theorem dX8_mixedWithParagraph_34 : decode cX8_mixedWithParagraph 34 = .ok (.istore 6, 2) := by decide +kernel
theorem dX8_mixedWithParagraph_36 : decode cX8_mixedWithParagraph 36 = .ok (.iload 6, 2) := by decide +kernel
theorem dX8_mixedWithParagraph_38 : decode cX8_mixedWithParagraph 38 = .ok (.aload_n 0, 1) := by decide +kernel
theorem dX8_mixedWithParagraph_39 : decode cX8_mixedWithParagraph 39 = .ok (.getfield 12, 3) := by decide +kernel
theorem dX8_mixedWithParagraph_42 : decode cX8_mixedWithParagraph 42 = .ok (.getfield 111, 3) := by decide +kernel
theorem dX8_mixedWithParagraph_45 : decode cX8_mixedWithParagraph 45 = .ok (.getfield 131, 3) := by decide +kernel
theorem dX8_mixedWithParagraph_48 : decode cX8_mixedWithParagraph 48 = .ok (.iload_n 3, 1) := by decide +kernel
theorem dX8_mixedWithParagraph_49 : decode cX8_mixedWithParagraph 49 = .ok (.iaload, 1) := by decide +kernel
theorem dX8_mixedWithParagraph_50 : decode cX8_mixedWithParagraph 50 = .ok (.if_icmp .ge 41, 3) := by decide +kernel
theorem dX8_mixedWithParagraph_53 : decode cX8_mixedWithParagraph 53 = .ok (.iconst 0, 1) := by decide +kernel
theorem dX8_mixedWithParagraph_54 : decode cX8_mixedWithParagraph 54 = .ok (.istore 7, 2) := by decide +kernel
theorem dX8_mixedWithParagraph_56 : decode cX8_mixedWithParagraph 56 = .ok (.iload 7, 2) := by decide +kernel
theorem dX8_mixedWithParagraph_58 : decode cX8_mixedWithParagraph 58 = .ok (.iconst 4, 1) := by decide +kernel
theorem dX8_mixedWithParagraph_59 : decode cX8_mixedWithParagraph 59 = .ok (.if_icmp .gt 26, 3) := by decide +kernel
theorem dX8_mixedWithParagraph_62 : decode cX8_mixedWithParagraph 62 = .ok (.lload 4, 2) := by decide +kernel
theorem dX8_mixedWithParagraph_64 : decode cX8_mixedWithParagraph 64 = .ok (.aload_n 0, 1) := by decide +kernel
theorem dX8_mixedWithParagraph_65 : decode cX8_mixedWithParagraph 65 = .ok (.iload_n 3, 1) := by decide +kernel
theorem dX8_mixedWithParagraph_66 : decode cX8_mixedWithParagraph 66 = .ok (.iload 6, 2) := by decide +kernel
theorem dX8_mixedWithParagraph_68 : decode cX8_mixedWithParagraph 68 = .ok (.iload 7, 2) := by decide +kernel
theorem dX8_mixedWithParagraph_70 : decode cX8_mixedWithParagraph 70 = .ok (.invokevirtual 331, 3) := by decide +kernel
theorem dX8_mixedWithParagraph_73 : decode cX8_mixedWithParagraph 73 = .ok (.i2l, 1) := by decide +kernel
theorem dX8_mixedWithParagraph_74 : decode cX8_mixedWithParagraph 74 = .ok (.invokestatic 287, 3) := by decide +kernel
theorem dX8_mixedWithParagraph_77 : decode cX8_mixedWithParagraph 77 = .ok (.lstore 4, 2) := by decide +kernel
theorem dX8_mixedWithParagraph_79 : decode cX8_mixedWithParagraph 79 = .ok (.iinc 7 1, 3) := by decide +kernel
theorem dX8_mixedWithParagraph_82 : decode cX8_mixedWithParagraph 82 = .ok (.goto (-26), 3) := by decide +kernel
theorem dX8_mixedWithParagraph_85 : decode cX8_mixedWithParagraph 85 = .ok (.iinc 6 1, 3) := by decide +kernel
theorem dX8_mixedWithParagraph_88 : decode cX8_mixedWithParagraph 88 = .ok (.goto (-52), 3) := by decide +kernel
theorem dX8_mixedWithParagraph_91 : decode cX8_mixedWithParagraph 91 = .ok (.lload 4, 2) := by decide +kernel
theorem dX8_mixedWithParagraph_93 : decode cX8_mixedWithParagraph 93 = .ok (.lreturn, 1) := by decide +kernel
theorem dX8_mixed_0 : decode cX8_mixed 0 = .ok (.ldc2_w 334, 3) := by decide +kernel
theorem dX8_mixed_3 : decode cX8_mixed 3 = .ok (.lload_n 0, 1) := by decide +kernel
theorem dX8_mixed_4 : decode cX8_mixed 4 = .ok (.lmul, 1) := by decide +kernel
theorem dX8_mixed_5 : decode cX8_mixed 5 = .ok (.lload_n 2, 1) := by decide +kernel
theorem dX8_mixed_6 : decode cX8_mixed 6 = .ok (.ladd, 1) := by decide +kernel
theorem dX8_mixed_7 : decode cX8_mixed 7 = .ok (.lreturn, 1) := by decide +kernel
theorem dX8_bitsOfShare_0 : decode cX8_bitsOfShare 0 = .ok (.dload_n 0, 1) := by decide +kernel
theorem dX8_bitsOfShare_1 : decode cX8_bitsOfShare 1 = .ok (.dconst 0, 1) := by decide +kernel
theorem dX8_bitsOfShare_2 : decode cX8_bitsOfShare 2 = .ok (.dcmp .g, 1) := by decide +kernel
theorem dX8_bitsOfShare_3 : decode cX8_bitsOfShare 3 = .ok (.ifCond .gt 5, 3) := by decide +kernel
theorem dX8_bitsOfShare_6 : decode cX8_bitsOfShare 6 = .ok (.lconst 0, 1) := by decide +kernel
theorem dX8_bitsOfShare_7 : decode cX8_bitsOfShare 7 = .ok (.lreturn, 1) := by decide +kernel
theorem dX8_bitsOfShare_8 : decode cX8_bitsOfShare 8 = .ok (.dload_n 0, 1) := by decide +kernel
theorem dX8_bitsOfShare_9 : decode cX8_bitsOfShare 9 = .ok (.dstore_n 2, 1) := by decide +kernel
theorem dX8_bitsOfShare_10 : decode cX8_bitsOfShare 10 = .ok (.ldc2_w 336, 3) := by decide +kernel
theorem dX8_bitsOfShare_13 : decode cX8_bitsOfShare 13 = .ok (.lstore 4, 2) := by decide +kernel
theorem dX8_bitsOfShare_15 : decode cX8_bitsOfShare 15 = .ok (.iconst 0, 1) := by decide +kernel
theorem dX8_bitsOfShare_16 : decode cX8_bitsOfShare 16 = .ok (.istore 6, 2) := by decide +kernel
theorem dX8_bitsOfShare_18 : decode cX8_bitsOfShare 18 = .ok (.iload 6, 2) := by decide +kernel
theorem dX8_bitsOfShare_20 : decode cX8_bitsOfShare 20 = .ok (.bipush 63, 2) := by decide +kernel
theorem dX8_bitsOfShare_22 : decode cX8_bitsOfShare 22 = .ok (.if_icmp .ge 27, 3) := by decide +kernel
theorem dX8_bitsOfShare_25 : decode cX8_bitsOfShare 25 = .ok (.dload_n 2, 1) := by decide +kernel
theorem dX8_bitsOfShare_26 : decode cX8_bitsOfShare 26 = .ok (.dconst 1, 1) := by decide +kernel
theorem dX8_bitsOfShare_27 : decode cX8_bitsOfShare 27 = .ok (.dcmp .g, 1) := by decide +kernel
theorem dX8_bitsOfShare_28 : decode cX8_bitsOfShare 28 = .ok (.ifCond .ge 21, 3) := by decide +kernel
theorem dX8_bitsOfShare_31 : decode cX8_bitsOfShare 31 = .ok (.dload_n 2, 1) := by decide +kernel
theorem dX8_bitsOfShare_32 : decode cX8_bitsOfShare 32 = .ok (.ldc2_w 338, 3) := by decide +kernel
theorem dX8_bitsOfShare_35 : decode cX8_bitsOfShare 35 = .ok (.dmul, 1) := by decide +kernel
theorem dX8_bitsOfShare_36 : decode cX8_bitsOfShare 36 = .ok (.dstore_n 2, 1) := by decide +kernel
theorem dX8_bitsOfShare_37 : decode cX8_bitsOfShare 37 = .ok (.lload 4, 2) := by decide +kernel
theorem dX8_bitsOfShare_39 : decode cX8_bitsOfShare 39 = .ok (.lconst 1, 1) := by decide +kernel
theorem dX8_bitsOfShare_40 : decode cX8_bitsOfShare 40 = .ok (.lsub, 1) := by decide +kernel
theorem dX8_bitsOfShare_41 : decode cX8_bitsOfShare 41 = .ok (.lstore 4, 2) := by decide +kernel
theorem dX8_bitsOfShare_43 : decode cX8_bitsOfShare 43 = .ok (.iinc 6 1, 3) := by decide +kernel
theorem dX8_bitsOfShare_46 : decode cX8_bitsOfShare 46 = .ok (.goto (-28), 3) := by decide +kernel
theorem dX8_bitsOfShare_49 : decode cX8_bitsOfShare 49 = .ok (.dload_n 2, 1) := by decide +kernel
theorem dX8_bitsOfShare_50 : decode cX8_bitsOfShare 50 = .ok (.dconst 1, 1) := by decide +kernel
theorem dX8_bitsOfShare_51 : decode cX8_bitsOfShare 51 = .ok (.dsub, 1) := by decide +kernel
theorem dX8_bitsOfShare_52 : decode cX8_bitsOfShare 52 = .ok (.ldc2_w 340, 3) := by decide +kernel
theorem dX8_bitsOfShare_55 : decode cX8_bitsOfShare 55 = .ok (.dmul, 1) := by decide +kernel
theorem dX8_bitsOfShare_56 : decode cX8_bitsOfShare 56 = .ok (.d2l, 1) := by decide +kernel
theorem dX8_bitsOfShare_57 : decode cX8_bitsOfShare 57 = .ok (.lstore 6, 2) := by decide +kernel
theorem dX8_bitsOfShare_59 : decode cX8_bitsOfShare 59 = .ok (.lload 4, 2) := by decide +kernel
theorem dX8_bitsOfShare_61 : decode cX8_bitsOfShare 61 = .ok (.bipush 52, 2) := by decide +kernel
theorem dX8_bitsOfShare_63 : decode cX8_bitsOfShare 63 = .ok (.lshl, 1) := by decide +kernel
theorem dX8_bitsOfShare_64 : decode cX8_bitsOfShare 64 = .ok (.lload 6, 2) := by decide +kernel
theorem dX8_bitsOfShare_66 : decode cX8_bitsOfShare 66 = .ok (.lor, 1) := by decide +kernel
theorem dX8_bitsOfShare_67 : decode cX8_bitsOfShare 67 = .ok (.lreturn, 1) := by decide +kernel
theorem dX8_checkPlace_0 : decode cX8_checkPlace 0 = .ok (.iload_n 1, 1) := by decide +kernel
theorem dX8_checkPlace_1 : decode cX8_checkPlace 1 = .ok (.ifCond .lt 17, 3) := by decide +kernel
theorem dX8_checkPlace_4 : decode cX8_checkPlace 4 = .ok (.iload_n 1, 1) := by decide +kernel
theorem dX8_checkPlace_5 : decode cX8_checkPlace 5 = .ok (.aload_n 0, 1) := by decide +kernel
theorem dX8_checkPlace_6 : decode cX8_checkPlace 6 = .ok (.getfield 12, 3) := by decide +kernel
theorem dX8_checkPlace_9 : decode cX8_checkPlace 9 = .ok (.getfield 48, 3) := by decide +kernel
theorem dX8_checkPlace_12 : decode cX8_checkPlace 12 = .ok (.getfield 95, 3) := by decide +kernel
theorem dX8_checkPlace_15 : decode cX8_checkPlace 15 = .ok (.if_icmp .lt 14, 3) := by decide +kernel
theorem dX8_checkPlace_18 : decode cX8_checkPlace 18 = .ok (.new 99, 3) := by decide +kernel
theorem dX8_checkPlace_21 : decode cX8_checkPlace 21 = .ok (.dup, 1) := by decide +kernel
theorem dX8_checkPlace_22 : decode cX8_checkPlace 22 = .ok (.ldc_w 342, 3) := by decide +kernel
theorem dX8_checkPlace_25 : decode cX8_checkPlace 25 = .ok (.invokespecial 103, 3) := by decide +kernel
theorem dX8_checkPlace_28 : decode cX8_checkPlace 28 = .ok (.athrow, 1) := by decide +kernel
theorem dX8_checkPlace_29 : decode cX8_checkPlace 29 = .ok (.return_, 1) := by decide +kernel
theorem dX8_checkGap_0 : decode cX8_checkGap 0 = .ok (.iload_n 1, 1) := by decide +kernel
theorem dX8_checkGap_1 : decode cX8_checkGap 1 = .ok (.ifCond .lt 17, 3) := by decide +kernel
theorem dX8_checkGap_4 : decode cX8_checkGap 4 = .ok (.iload_n 1, 1) := by decide +kernel
theorem dX8_checkGap_5 : decode cX8_checkGap 5 = .ok (.aload_n 0, 1) := by decide +kernel
theorem dX8_checkGap_6 : decode cX8_checkGap 6 = .ok (.getfield 12, 3) := by decide +kernel
theorem dX8_checkGap_9 : decode cX8_checkGap 9 = .ok (.getfield 48, 3) := by decide +kernel
theorem dX8_checkGap_12 : decode cX8_checkGap 12 = .ok (.getfield 95, 3) := by decide +kernel
theorem dX8_checkGap_15 : decode cX8_checkGap 15 = .ok (.if_icmp .le 14, 3) := by decide +kernel
theorem dX8_checkGap_18 : decode cX8_checkGap 18 = .ok (.new 99, 3) := by decide +kernel
theorem dX8_checkGap_21 : decode cX8_checkGap 21 = .ok (.dup, 1) := by decide +kernel
theorem dX8_checkGap_22 : decode cX8_checkGap 22 = .ok (.ldc_w 344, 3) := by decide +kernel
theorem dX8_checkGap_25 : decode cX8_checkGap 25 = .ok (.invokespecial 103, 3) := by decide +kernel
theorem dX8_checkGap_28 : decode cX8_checkGap 28 = .ok (.athrow, 1) := by decide +kernel
theorem dX8_checkGap_29 : decode cX8_checkGap 29 = .ok (.return_, 1) := by decide +kernel
theorem dX8_checkRoomForExhibit_0 : decode cX8_checkRoomForExhibit 0 = .ok (.aload_n 0, 1) := by decide +kernel
theorem dX8_checkRoomForExhibit_1 : decode cX8_checkRoomForExhibit 1 = .ok (.getfield 12, 3) := by decide +kernel
theorem dX8_checkRoomForExhibit_4 : decode cX8_checkRoomForExhibit 4 = .ok (.getfield 48, 3) := by decide +kernel
theorem dX8_checkRoomForExhibit_7 : decode cX8_checkRoomForExhibit 7 = .ok (.getfield 95, 3) := by decide +kernel
theorem dX8_checkRoomForExhibit_10 : decode cX8_checkRoomForExhibit 10 = .ok (.bipush 30, 2) := by decide +kernel
theorem dX8_checkRoomForExhibit_12 : decode cX8_checkRoomForExhibit 12 = .ok (.if_icmp .lt 14, 3) := by decide +kernel
theorem dX8_checkRoomForExhibit_15 : decode cX8_checkRoomForExhibit 15 = .ok (.new 106, 3) := by decide +kernel
theorem dX8_checkRoomForExhibit_18 : decode cX8_checkRoomForExhibit 18 = .ok (.dup, 1) := by decide +kernel
theorem dX8_checkRoomForExhibit_19 : decode cX8_checkRoomForExhibit 19 = .ok (.ldc_w 346, 3) := by decide +kernel
theorem dX8_checkRoomForExhibit_22 : decode cX8_checkRoomForExhibit 22 = .ok (.invokespecial 110, 3) := by decide +kernel
theorem dX8_checkRoomForExhibit_25 : decode cX8_checkRoomForExhibit 25 = .ok (.athrow, 1) := by decide +kernel
theorem dX8_checkRoomForExhibit_26 : decode cX8_checkRoomForExhibit 26 = .ok (.return_, 1) := by decide +kernel
theorem dX8_checkParagraph_0 : decode cX8_checkParagraph 0 = .ok (.iload_n 0, 1) := by decide +kernel
theorem dX8_checkParagraph_1 : decode cX8_checkParagraph 1 = .ok (.ifCond .lt 9, 3) := by decide +kernel
theorem dX8_checkParagraph_4 : decode cX8_checkParagraph 4 = .ok (.iload_n 0, 1) := by decide +kernel
theorem dX8_checkParagraph_5 : decode cX8_checkParagraph 5 = .ok (.bipush 12, 2) := by decide +kernel
theorem dX8_checkParagraph_7 : decode cX8_checkParagraph 7 = .ok (.if_icmp .lt 14, 3) := by decide +kernel
theorem dX8_checkParagraph_10 : decode cX8_checkParagraph 10 = .ok (.new 99, 3) := by decide +kernel
theorem dX8_checkParagraph_13 : decode cX8_checkParagraph 13 = .ok (.dup, 1) := by decide +kernel
theorem dX8_checkParagraph_14 : decode cX8_checkParagraph 14 = .ok (.ldc_w 348, 3) := by decide +kernel
theorem dX8_checkParagraph_17 : decode cX8_checkParagraph 17 = .ok (.invokespecial 103, 3) := by decide +kernel
theorem dX8_checkParagraph_20 : decode cX8_checkParagraph 20 = .ok (.athrow, 1) := by decide +kernel
theorem dX8_checkParagraph_21 : decode cX8_checkParagraph 21 = .ok (.return_, 1) := by decide +kernel
theorem dX8_checkPages_0 : decode cX8_checkPages 0 = .ok (.iload_n 0, 1) := by decide +kernel
theorem dX8_checkPages_1 : decode cX8_checkPages 1 = .ok (.iconst 1, 1) := by decide +kernel
theorem dX8_checkPages_2 : decode cX8_checkPages 2 = .ok (.if_icmp .lt 9, 3) := by decide +kernel
theorem dX8_checkPages_5 : decode cX8_checkPages 5 = .ok (.iload_n 0, 1) := by decide +kernel
theorem dX8_checkPages_6 : decode cX8_checkPages 6 = .ok (.bipush 60, 2) := by decide +kernel
theorem dX8_checkPages_8 : decode cX8_checkPages 8 = .ok (.if_icmp .le 14, 3) := by decide +kernel
theorem dX8_checkPages_11 : decode cX8_checkPages 11 = .ok (.new 120, 3) := by decide +kernel
theorem dX8_checkPages_14 : decode cX8_checkPages 14 = .ok (.dup, 1) := by decide +kernel
theorem dX8_checkPages_15 : decode cX8_checkPages 15 = .ok (.ldc_w 350, 3) := by decide +kernel
theorem dX8_checkPages_18 : decode cX8_checkPages 18 = .ok (.invokespecial 124, 3) := by decide +kernel
theorem dX8_checkPages_21 : decode cX8_checkPages 21 = .ok (.athrow, 1) := by decide +kernel
theorem dX8_checkPages_22 : decode cX8_checkPages 22 = .ok (.return_, 1) := by decide +kernel
theorem dX8_checkWhat_0 : decode cX8_checkWhat 0 = .ok (.iload_n 0, 1) := by decide +kernel
theorem dX8_checkWhat_1 : decode cX8_checkWhat 1 = .ok (.ifCond .lt 8, 3) := by decide +kernel
theorem dX8_checkWhat_4 : decode cX8_checkWhat 4 = .ok (.iload_n 0, 1) := by decide +kernel
theorem dX8_checkWhat_5 : decode cX8_checkWhat 5 = .ok (.iload_n 1, 1) := by decide +kernel
theorem dX8_checkWhat_6 : decode cX8_checkWhat 6 = .ok (.if_icmp .le 14, 3) := by decide +kernel
theorem dX8_checkWhat_9 : decode cX8_checkWhat 9 = .ok (.new 120, 3) := by decide +kernel
theorem dX8_checkWhat_12 : decode cX8_checkWhat 12 = .ok (.dup, 1) := by decide +kernel
theorem dX8_checkWhat_13 : decode cX8_checkWhat 13 = .ok (.ldc_w 352, 3) := by decide +kernel
theorem dX8_checkWhat_16 : decode cX8_checkWhat 16 = .ok (.invokespecial 124, 3) := by decide +kernel
theorem dX8_checkWhat_19 : decode cX8_checkWhat 19 = .ok (.athrow, 1) := by decide +kernel
theorem dX8_checkWhat_20 : decode cX8_checkWhat 20 = .ok (.return_, 1) := by decide +kernel
theorem dX8_cellOf_0 : decode cX8_cellOf 0 = .ok (.iload_n 0, 1) := by decide +kernel
theorem dX8_cellOf_1 : decode cX8_cellOf 1 = .ok (.bipush 6, 2) := by decide +kernel
theorem dX8_cellOf_3 : decode cX8_cellOf 3 = .ok (.imul, 1) := by decide +kernel
theorem dX8_cellOf_4 : decode cX8_cellOf 4 = .ok (.iload_n 1, 1) := by decide +kernel
theorem dX8_cellOf_5 : decode cX8_cellOf 5 = .ok (.iadd, 1) := by decide +kernel
theorem dX8_cellOf_6 : decode cX8_cellOf 6 = .ok (.ireturn, 1) := by decide +kernel
theorem dX8_markOf_0 : decode cX8_markOf 0 = .ok (.iload_n 0, 1) := by decide +kernel
theorem dX8_markOf_1 : decode cX8_markOf 1 = .ok (.iconst 1, 1) := by decide +kernel
theorem dX8_markOf_2 : decode cX8_markOf 2 = .ok (.iadd, 1) := by decide +kernel
theorem dX8_markOf_3 : decode cX8_markOf 3 = .ok (.bipush 61, 2) := by decide +kernel
theorem dX8_markOf_5 : decode cX8_markOf 5 = .ok (.imul, 1) := by decide +kernel
theorem dX8_markOf_6 : decode cX8_markOf 6 = .ok (.iload_n 1, 1) := by decide +kernel
theorem dX8_markOf_7 : decode cX8_markOf 7 = .ok (.iadd, 1) := by decide +kernel
theorem dX8_markOf_8 : decode cX8_markOf 8 = .ok (.iconst 2, 1) := by decide +kernel
theorem dX8_markOf_9 : decode cX8_markOf 9 = .ok (.imul, 1) := by decide +kernel
theorem dX8_markOf_10 : decode cX8_markOf 10 = .ok (.iload_n 2, 1) := by decide +kernel
theorem dX8_markOf_11 : decode cX8_markOf 11 = .ok (.ifCond .eq 7, 3) := by decide +kernel
theorem dX8_markOf_14 : decode cX8_markOf 14 = .ok (.iconst 1, 1) := by decide +kernel
theorem dX8_markOf_15 : decode cX8_markOf 15 = .ok (.goto 4, 3) := by decide +kernel
theorem dX8_markOf_18 : decode cX8_markOf 18 = .ok (.iconst 0, 1) := by decide +kernel
theorem dX8_markOf_19 : decode cX8_markOf 19 = .ok (.iadd, 1) := by decide +kernel
theorem dX8_markOf_20 : decode cX8_markOf 20 = .ok (.ireturn, 1) := by decide +kernel
theorem dX8_pageInBrief_0 : decode cX8_pageInBrief 0 = .ok (.aload_n 0, 1) := by decide +kernel
theorem dX8_pageInBrief_1 : decode cX8_pageInBrief 1 = .ok (.getfield 19, 3) := by decide +kernel
theorem dX8_pageInBrief_4 : decode cX8_pageInBrief 4 = .ok (.getfield 164, 3) := by decide +kernel
theorem dX8_pageInBrief_7 : decode cX8_pageInBrief 7 = .ok (.iload_n 1, 1) := by decide +kernel
theorem dX8_pageInBrief_8 : decode cX8_pageInBrief 8 = .ok (.iaload, 1) := by decide +kernel
theorem dX8_pageInBrief_9 : decode cX8_pageInBrief 9 = .ok (.istore_n 2, 1) := by decide +kernel
theorem dX8_pageInBrief_10 : decode cX8_pageInBrief 10 = .ok (.iload_n 2, 1) := by decide +kernel
theorem dX8_pageInBrief_11 : decode cX8_pageInBrief 11 = .ok (.iconst (-1), 1) := by decide +kernel
theorem dX8_pageInBrief_12 : decode cX8_pageInBrief 12 = .ok (.if_icmp .eq 15, 3) := by decide +kernel
theorem dX8_pageInBrief_15 : decode cX8_pageInBrief 15 = .ok (.aload_n 0, 1) := by decide +kernel
theorem dX8_pageInBrief_16 : decode cX8_pageInBrief 16 = .ok (.getfield 19, 3) := by decide +kernel
theorem dX8_pageInBrief_19 : decode cX8_pageInBrief 19 = .ok (.getfield 139, 3) := by decide +kernel
theorem dX8_pageInBrief_22 : decode cX8_pageInBrief 22 = .ok (.iload_n 1, 1) := by decide +kernel
theorem dX8_pageInBrief_23 : decode cX8_pageInBrief 23 = .ok (.baload, 1) := by decide +kernel
theorem dX8_pageInBrief_24 : decode cX8_pageInBrief 24 = .ok (.ifCond .eq 5, 3) := by decide +kernel
theorem dX8_pageInBrief_27 : decode cX8_pageInBrief 27 = .ok (.iconst (-1), 1) := by decide +kernel
theorem dX8_pageInBrief_28 : decode cX8_pageInBrief 28 = .ok (.ireturn, 1) := by decide +kernel
theorem dX8_pageInBrief_29 : decode cX8_pageInBrief 29 = .ok (.aload_n 0, 1) := by decide +kernel
theorem dX8_pageInBrief_30 : decode cX8_pageInBrief 30 = .ok (.getfield 19, 3) := by decide +kernel
theorem dX8_pageInBrief_33 : decode cX8_pageInBrief 33 = .ok (.getfield 223, 3) := by decide +kernel
theorem dX8_pageInBrief_36 : decode cX8_pageInBrief 36 = .ok (.iload_n 2, 1) := by decide +kernel
theorem dX8_pageInBrief_37 : decode cX8_pageInBrief 37 = .ok (.iaload, 1) := by decide +kernel
theorem dX8_pageInBrief_38 : decode cX8_pageInBrief 38 = .ok (.aload_n 0, 1) := by decide +kernel
theorem dX8_pageInBrief_39 : decode cX8_pageInBrief 39 = .ok (.getfield 12, 3) := by decide +kernel
theorem dX8_pageInBrief_42 : decode cX8_pageInBrief 42 = .ok (.getfield 111, 3) := by decide +kernel
theorem dX8_pageInBrief_45 : decode cX8_pageInBrief 45 = .ok (.getfield 167, 3) := by decide +kernel
theorem dX8_pageInBrief_48 : decode cX8_pageInBrief 48 = .ok (.iload_n 1, 1) := by decide +kernel
theorem dX8_pageInBrief_49 : decode cX8_pageInBrief 49 = .ok (.iaload, 1) := by decide +kernel
theorem dX8_pageInBrief_50 : decode cX8_pageInBrief 50 = .ok (.iadd, 1) := by decide +kernel
theorem dX8_pageInBrief_51 : decode cX8_pageInBrief 51 = .ok (.iconst 1, 1) := by decide +kernel
theorem dX8_pageInBrief_52 : decode cX8_pageInBrief 52 = .ok (.isub, 1) := by decide +kernel
theorem dX8_pageInBrief_53 : decode cX8_pageInBrief 53 = .ok (.ireturn, 1) := by decide +kernel
theorem dX8_citationsOf_0 : decode cX8_citationsOf 0 = .ok (.iconst 0, 1) := by decide +kernel
theorem dX8_citationsOf_1 : decode cX8_citationsOf 1 = .ok (.istore_n 2, 1) := by decide +kernel
theorem dX8_citationsOf_2 : decode cX8_citationsOf 2 = .ok (.iconst 0, 1) := by decide +kernel
theorem dX8_citationsOf_3 : decode cX8_citationsOf 3 = .ok (.istore_n 3, 1) := by decide +kernel
theorem dX8_citationsOf_4 : decode cX8_citationsOf 4 = .ok (.iload_n 3, 1) := by decide +kernel
theorem dX8_citationsOf_5 : decode cX8_citationsOf 5 = .ok (.bipush 12, 2) := by decide +kernel
theorem dX8_citationsOf_7 : decode cX8_citationsOf 7 = .ok (.if_icmp .ge 56, 3) := by decide +kernel
theorem dX8_citationsOf_10 : decode cX8_citationsOf 10 = .ok (.iconst 0, 1) := by decide +kernel
theorem dX8_citationsOf_11 : decode cX8_citationsOf 11 = .ok (.istore 4, 2) := by decide +kernel
theorem dX8_citationsOf_13 : decode cX8_citationsOf 13 = .ok (.iload 4, 2) := by decide +kernel
theorem dX8_citationsOf_15 : decode cX8_citationsOf 15 = .ok (.aload_n 0, 1) := by decide +kernel
theorem dX8_citationsOf_16 : decode cX8_citationsOf 16 = .ok (.getfield 12, 3) := by decide +kernel
theorem dX8_citationsOf_19 : decode cX8_citationsOf 19 = .ok (.getfield 111, 3) := by decide +kernel
theorem dX8_citationsOf_22 : decode cX8_citationsOf 22 = .ok (.getfield 131, 3) := by decide +kernel
theorem dX8_citationsOf_25 : decode cX8_citationsOf 25 = .ok (.iload_n 3, 1) := by decide +kernel
theorem dX8_citationsOf_26 : decode cX8_citationsOf 26 = .ok (.iaload, 1) := by decide +kernel
theorem dX8_citationsOf_27 : decode cX8_citationsOf 27 = .ok (.if_icmp .ge 30, 3) := by decide +kernel
theorem dX8_citationsOf_30 : decode cX8_citationsOf 30 = .ok (.aload_n 0, 1) := by decide +kernel
theorem dX8_citationsOf_31 : decode cX8_citationsOf 31 = .ok (.getfield 19, 3) := by decide +kernel
theorem dX8_citationsOf_34 : decode cX8_citationsOf 34 = .ok (.getfield 164, 3) := by decide +kernel
theorem dX8_citationsOf_37 : decode cX8_citationsOf 37 = .ok (.iload_n 3, 1) := by decide +kernel
theorem dX8_citationsOf_38 : decode cX8_citationsOf 38 = .ok (.iload 4, 2) := by decide +kernel
theorem dX8_citationsOf_40 : decode cX8_citationsOf 40 = .ok (.invokestatic 158, 3) := by decide +kernel
theorem dX8_citationsOf_43 : decode cX8_citationsOf 43 = .ok (.iaload, 1) := by decide +kernel
theorem dX8_citationsOf_44 : decode cX8_citationsOf 44 = .ok (.iload_n 1, 1) := by decide +kernel
theorem dX8_citationsOf_45 : decode cX8_citationsOf 45 = .ok (.if_icmp .ne 6, 3) := by decide +kernel
theorem dX8_citationsOf_48 : decode cX8_citationsOf 48 = .ok (.iinc 2 1, 3) := by decide +kernel
theorem dX8_citationsOf_51 : decode cX8_citationsOf 51 = .ok (.iinc 4 1, 3) := by decide +kernel
theorem dX8_citationsOf_54 : decode cX8_citationsOf 54 = .ok (.goto (-41), 3) := by decide +kernel
theorem dX8_citationsOf_57 : decode cX8_citationsOf 57 = .ok (.iinc 3 1, 3) := by decide +kernel
theorem dX8_citationsOf_60 : decode cX8_citationsOf 60 = .ok (.goto (-56), 3) := by decide +kernel
theorem dX8_citationsOf_63 : decode cX8_citationsOf 63 = .ok (.iload_n 2, 1) := by decide +kernel
theorem dX8_citationsOf_64 : decode cX8_citationsOf 64 = .ok (.ireturn, 1) := by decide +kernel
theorem dX8_goodCitationsOf_0 : decode cX8_goodCitationsOf 0 = .ok (.iconst 0, 1) := by decide +kernel
theorem dX8_goodCitationsOf_1 : decode cX8_goodCitationsOf 1 = .ok (.istore_n 2, 1) := by decide +kernel
theorem dX8_goodCitationsOf_2 : decode cX8_goodCitationsOf 2 = .ok (.iconst 0, 1) := by decide +kernel
theorem dX8_goodCitationsOf_3 : decode cX8_goodCitationsOf 3 = .ok (.istore_n 3, 1) := by decide +kernel
theorem dX8_goodCitationsOf_4 : decode cX8_goodCitationsOf 4 = .ok (.iload_n 3, 1) := by decide +kernel
theorem dX8_goodCitationsOf_5 : decode cX8_goodCitationsOf 5 = .ok (.bipush 12, 2) := by decide +kernel
theorem dX8_goodCitationsOf_7 : decode cX8_goodCitationsOf 7 = .ok (.if_icmp .ge 18, 3) := by decide +kernel
theorem dX8_goodCitationsOf_10 : decode cX8_goodCitationsOf 10 = .ok (.iload_n 2, 1) := by decide +kernel
theorem dX8_goodCitationsOf_11 : decode cX8_goodCitationsOf 11 = .ok (.aload_n 0, 1) := by decide +kernel
theorem dX8_goodCitationsOf_12 : decode cX8_goodCitationsOf 12 = .ok (.iload_n 3, 1) := by decide +kernel
theorem dX8_goodCitationsOf_13 : decode cX8_goodCitationsOf 13 = .ok (.iload_n 1, 1) := by decide +kernel
theorem dX8_goodCitationsOf_14 : decode cX8_goodCitationsOf 14 = .ok (.invokevirtual 238, 3) := by decide +kernel
theorem dX8_goodCitationsOf_17 : decode cX8_goodCitationsOf 17 = .ok (.iadd, 1) := by decide +kernel
theorem dX8_goodCitationsOf_18 : decode cX8_goodCitationsOf 18 = .ok (.istore_n 2, 1) := by decide +kernel
theorem dX8_goodCitationsOf_19 : decode cX8_goodCitationsOf 19 = .ok (.iinc 3 1, 3) := by decide +kernel
theorem dX8_goodCitationsOf_22 : decode cX8_goodCitationsOf 22 = .ok (.goto (-18), 3) := by decide +kernel
theorem dX8_goodCitationsOf_25 : decode cX8_goodCitationsOf 25 = .ok (.iload_n 2, 1) := by decide +kernel
theorem dX8_goodCitationsOf_26 : decode cX8_goodCitationsOf 26 = .ok (.ireturn, 1) := by decide +kernel
theorem dX8_goodCitationsIn_0 : decode cX8_goodCitationsIn 0 = .ok (.iconst 0, 1) := by decide +kernel
theorem dX8_goodCitationsIn_1 : decode cX8_goodCitationsIn 1 = .ok (.istore_n 3, 1) := by decide +kernel
theorem dX8_goodCitationsIn_2 : decode cX8_goodCitationsIn 2 = .ok (.iconst 0, 1) := by decide +kernel
theorem dX8_goodCitationsIn_3 : decode cX8_goodCitationsIn 3 = .ok (.istore 4, 2) := by decide +kernel
theorem dX8_goodCitationsIn_5 : decode cX8_goodCitationsIn 5 = .ok (.iload 4, 2) := by decide +kernel
theorem dX8_goodCitationsIn_7 : decode cX8_goodCitationsIn 7 = .ok (.aload_n 0, 1) := by decide +kernel
theorem dX8_goodCitationsIn_8 : decode cX8_goodCitationsIn 8 = .ok (.getfield 12, 3) := by decide +kernel
theorem dX8_goodCitationsIn_11 : decode cX8_goodCitationsIn 11 = .ok (.getfield 111, 3) := by decide +kernel
theorem dX8_goodCitationsIn_14 : decode cX8_goodCitationsIn 14 = .ok (.getfield 131, 3) := by decide +kernel
theorem dX8_goodCitationsIn_17 : decode cX8_goodCitationsIn 17 = .ok (.iload_n 1, 1) := by decide +kernel
theorem dX8_goodCitationsIn_18 : decode cX8_goodCitationsIn 18 = .ok (.iaload, 1) := by decide +kernel
theorem dX8_goodCitationsIn_19 : decode cX8_goodCitationsIn 19 = .ok (.if_icmp .ge 47, 3) := by decide +kernel
theorem dX8_goodCitationsIn_22 : decode cX8_goodCitationsIn 22 = .ok (.iload_n 1, 1) := by decide +kernel
theorem dX8_goodCitationsIn_23 : decode cX8_goodCitationsIn 23 = .ok (.iload 4, 2) := by decide +kernel
theorem dX8_goodCitationsIn_25 : decode cX8_goodCitationsIn 25 = .ok (.invokestatic 158, 3) := by decide +kernel
theorem dX8_goodCitationsIn_28 : decode cX8_goodCitationsIn 28 = .ok (.istore 5, 2) := by decide +kernel
theorem dX8_goodCitationsIn_30 : decode cX8_goodCitationsIn 30 = .ok (.aload_n 0, 1) := by decide +kernel
theorem dX8_goodCitationsIn_31 : decode cX8_goodCitationsIn 31 = .ok (.getfield 19, 3) := by decide +kernel
theorem dX8_goodCitationsIn_34 : decode cX8_goodCitationsIn 34 = .ok (.getfield 164, 3) := by decide +kernel
theorem dX8_goodCitationsIn_37 : decode cX8_goodCitationsIn 37 = .ok (.iload 5, 2) := by decide +kernel
theorem dX8_goodCitationsIn_39 : decode cX8_goodCitationsIn 39 = .ok (.iaload, 1) := by decide +kernel
theorem dX8_goodCitationsIn_40 : decode cX8_goodCitationsIn 40 = .ok (.iload_n 2, 1) := by decide +kernel
theorem dX8_goodCitationsIn_41 : decode cX8_goodCitationsIn 41 = .ok (.if_icmp .ne 19, 3) := by decide +kernel
theorem dX8_goodCitationsIn_44 : decode cX8_goodCitationsIn 44 = .ok (.aload_n 0, 1) := by decide +kernel
theorem dX8_goodCitationsIn_45 : decode cX8_goodCitationsIn 45 = .ok (.getfield 19, 3) := by decide +kernel
theorem dX8_goodCitationsIn_48 : decode cX8_goodCitationsIn 48 = .ok (.getfield 139, 3) := by decide +kernel
theorem dX8_goodCitationsIn_51 : decode cX8_goodCitationsIn 51 = .ok (.iload 5, 2) := by decide +kernel
theorem dX8_goodCitationsIn_53 : decode cX8_goodCitationsIn 53 = .ok (.baload, 1) := by decide +kernel
theorem dX8_goodCitationsIn_54 : decode cX8_goodCitationsIn 54 = .ok (.ifCond .ne 6, 3) := by decide +kernel
theorem dX8_goodCitationsIn_57 : decode cX8_goodCitationsIn 57 = .ok (.iinc 3 1, 3) := by decide +kernel
theorem dX8_goodCitationsIn_60 : decode cX8_goodCitationsIn 60 = .ok (.iinc 4 1, 3) := by decide +kernel
theorem dX8_goodCitationsIn_63 : decode cX8_goodCitationsIn 63 = .ok (.goto (-58), 3) := by decide +kernel
theorem dX8_goodCitationsIn_66 : decode cX8_goodCitationsIn 66 = .ok (.iload_n 3, 1) := by decide +kernel
theorem dX8_goodCitationsIn_67 : decode cX8_goodCitationsIn 67 = .ok (.ireturn, 1) := by decide +kernel
theorem dX8_citedExhibits_0 : decode cX8_citedExhibits 0 = .ok (.iconst 0, 1) := by decide +kernel
theorem dX8_citedExhibits_1 : decode cX8_citedExhibits 1 = .ok (.istore_n 1, 1) := by decide +kernel
theorem dX8_citedExhibits_2 : decode cX8_citedExhibits 2 = .ok (.iconst 0, 1) := by decide +kernel
theorem dX8_citedExhibits_3 : decode cX8_citedExhibits 3 = .ok (.istore_n 2, 1) := by decide +kernel
theorem dX8_citedExhibits_4 : decode cX8_citedExhibits 4 = .ok (.iload_n 2, 1) := by decide +kernel
theorem dX8_citedExhibits_5 : decode cX8_citedExhibits 5 = .ok (.aload_n 0, 1) := by decide +kernel
theorem dX8_citedExhibits_6 : decode cX8_citedExhibits 6 = .ok (.getfield 12, 3) := by decide +kernel
theorem dX8_citedExhibits_9 : decode cX8_citedExhibits 9 = .ok (.getfield 48, 3) := by decide +kernel
theorem dX8_citedExhibits_12 : decode cX8_citedExhibits 12 = .ok (.getfield 95, 3) := by decide +kernel
theorem dX8_citedExhibits_15 : decode cX8_citedExhibits 15 = .ok (.if_icmp .ge 20, 3) := by decide +kernel
theorem dX8_citedExhibits_18 : decode cX8_citedExhibits 18 = .ok (.aload_n 0, 1) := by decide +kernel
theorem dX8_citedExhibits_19 : decode cX8_citedExhibits 19 = .ok (.iload_n 2, 1) := by decide +kernel
theorem dX8_citedExhibits_20 : decode cX8_citedExhibits 20 = .ok (.invokevirtual 91, 3) := by decide +kernel
theorem dX8_citedExhibits_23 : decode cX8_citedExhibits 23 = .ok (.ifCond .le 6, 3) := by decide +kernel
theorem dX8_citedExhibits_26 : decode cX8_citedExhibits 26 = .ok (.iinc 1 1, 3) := by decide +kernel
theorem dX8_citedExhibits_29 : decode cX8_citedExhibits 29 = .ok (.iinc 2 1, 3) := by decide +kernel
theorem dX8_citedExhibits_32 : decode cX8_citedExhibits 32 = .ok (.goto (-28), 3) := by decide +kernel
theorem dX8_citedExhibits_35 : decode cX8_citedExhibits 35 = .ok (.iload_n 1, 1) := by decide +kernel
theorem dX8_citedExhibits_36 : decode cX8_citedExhibits 36 = .ok (.ireturn, 1) := by decide +kernel
theorem dX8_allCitations_0 : decode cX8_allCitations 0 = .ok (.iconst 0, 1) := by decide +kernel
theorem dX8_allCitations_1 : decode cX8_allCitations 1 = .ok (.istore_n 1, 1) := by decide +kernel
theorem dX8_allCitations_2 : decode cX8_allCitations 2 = .ok (.iconst 0, 1) := by decide +kernel
theorem dX8_allCitations_3 : decode cX8_allCitations 3 = .ok (.istore_n 2, 1) := by decide +kernel
theorem dX8_allCitations_4 : decode cX8_allCitations 4 = .ok (.iload_n 2, 1) := by decide +kernel
theorem dX8_allCitations_5 : decode cX8_allCitations 5 = .ok (.bipush 12, 2) := by decide +kernel
theorem dX8_allCitations_7 : decode cX8_allCitations 7 = .ok (.if_icmp .ge 24, 3) := by decide +kernel
theorem dX8_allCitations_10 : decode cX8_allCitations 10 = .ok (.iload_n 1, 1) := by decide +kernel
theorem dX8_allCitations_11 : decode cX8_allCitations 11 = .ok (.aload_n 0, 1) := by decide +kernel
theorem dX8_allCitations_12 : decode cX8_allCitations 12 = .ok (.getfield 12, 3) := by decide +kernel
theorem dX8_allCitations_15 : decode cX8_allCitations 15 = .ok (.getfield 111, 3) := by decide +kernel
theorem dX8_allCitations_18 : decode cX8_allCitations 18 = .ok (.getfield 131, 3) := by decide +kernel
theorem dX8_allCitations_21 : decode cX8_allCitations 21 = .ok (.iload_n 2, 1) := by decide +kernel
theorem dX8_allCitations_22 : decode cX8_allCitations 22 = .ok (.iaload, 1) := by decide +kernel
theorem dX8_allCitations_23 : decode cX8_allCitations 23 = .ok (.iadd, 1) := by decide +kernel
theorem dX8_allCitations_24 : decode cX8_allCitations 24 = .ok (.istore_n 1, 1) := by decide +kernel
theorem dX8_allCitations_25 : decode cX8_allCitations 25 = .ok (.iinc 2 1, 3) := by decide +kernel
theorem dX8_allCitations_28 : decode cX8_allCitations 28 = .ok (.goto (-24), 3) := by decide +kernel
theorem dX8_allCitations_31 : decode cX8_allCitations 31 = .ok (.iload_n 1, 1) := by decide +kernel
theorem dX8_allCitations_32 : decode cX8_allCitations 32 = .ok (.ireturn, 1) := by decide +kernel
theorem dX8_allLost_0 : decode cX8_allLost 0 = .ok (.iconst 0, 1) := by decide +kernel
theorem dX8_allLost_1 : decode cX8_allLost 1 = .ok (.istore_n 1, 1) := by decide +kernel
theorem dX8_allLost_2 : decode cX8_allLost 2 = .ok (.iconst 0, 1) := by decide +kernel
theorem dX8_allLost_3 : decode cX8_allLost 3 = .ok (.istore_n 2, 1) := by decide +kernel
theorem dX8_allLost_4 : decode cX8_allLost 4 = .ok (.iload_n 2, 1) := by decide +kernel
theorem dX8_allLost_5 : decode cX8_allLost 5 = .ok (.bipush 12, 2) := by decide +kernel
theorem dX8_allLost_7 : decode cX8_allLost 7 = .ok (.if_icmp .ge 17, 3) := by decide +kernel
theorem dX8_allLost_10 : decode cX8_allLost 10 = .ok (.iload_n 1, 1) := by decide +kernel
theorem dX8_allLost_11 : decode cX8_allLost 11 = .ok (.aload_n 0, 1) := by decide +kernel
theorem dX8_allLost_12 : decode cX8_allLost 12 = .ok (.iload_n 2, 1) := by decide +kernel
theorem dX8_allLost_13 : decode cX8_allLost 13 = .ok (.invokevirtual 235, 3) := by decide +kernel
theorem dX8_allLost_16 : decode cX8_allLost 16 = .ok (.iadd, 1) := by decide +kernel
theorem dX8_allLost_17 : decode cX8_allLost 17 = .ok (.istore_n 1, 1) := by decide +kernel
theorem dX8_allLost_18 : decode cX8_allLost 18 = .ok (.iinc 2 1, 3) := by decide +kernel
theorem dX8_allLost_21 : decode cX8_allLost 21 = .ok (.goto (-17), 3) := by decide +kernel
theorem dX8_allLost_24 : decode cX8_allLost 24 = .ok (.iload_n 1, 1) := by decide +kernel
theorem dX8_allLost_25 : decode cX8_allLost 25 = .ok (.ireturn, 1) := by decide +kernel
theorem dX8_lostIn_0 : decode cX8_lostIn 0 = .ok (.iconst 0, 1) := by decide +kernel
theorem dX8_lostIn_1 : decode cX8_lostIn 1 = .ok (.istore_n 2, 1) := by decide +kernel
theorem dX8_lostIn_2 : decode cX8_lostIn 2 = .ok (.iconst 0, 1) := by decide +kernel
theorem dX8_lostIn_3 : decode cX8_lostIn 3 = .ok (.istore_n 3, 1) := by decide +kernel
theorem dX8_lostIn_4 : decode cX8_lostIn 4 = .ok (.iload_n 3, 1) := by decide +kernel
theorem dX8_lostIn_5 : decode cX8_lostIn 5 = .ok (.aload_n 0, 1) := by decide +kernel
theorem dX8_lostIn_6 : decode cX8_lostIn 6 = .ok (.getfield 12, 3) := by decide +kernel
theorem dX8_lostIn_9 : decode cX8_lostIn 9 = .ok (.getfield 111, 3) := by decide +kernel
theorem dX8_lostIn_12 : decode cX8_lostIn 12 = .ok (.getfield 131, 3) := by decide +kernel
theorem dX8_lostIn_15 : decode cX8_lostIn 15 = .ok (.iload_n 1, 1) := by decide +kernel
theorem dX8_lostIn_16 : decode cX8_lostIn 16 = .ok (.iaload, 1) := by decide +kernel
theorem dX8_lostIn_17 : decode cX8_lostIn 17 = .ok (.if_icmp .ge 28, 3) := by decide +kernel
theorem dX8_lostIn_20 : decode cX8_lostIn 20 = .ok (.aload_n 0, 1) := by decide +kernel
theorem dX8_lostIn_21 : decode cX8_lostIn 21 = .ok (.getfield 19, 3) := by decide +kernel
theorem dX8_lostIn_24 : decode cX8_lostIn 24 = .ok (.getfield 139, 3) := by decide +kernel
theorem dX8_lostIn_27 : decode cX8_lostIn 27 = .ok (.iload_n 1, 1) := by decide +kernel
theorem dX8_lostIn_28 : decode cX8_lostIn 28 = .ok (.iload_n 3, 1) := by decide +kernel
theorem dX8_lostIn_29 : decode cX8_lostIn 29 = .ok (.invokestatic 158, 3) := by decide +kernel
theorem dX8_lostIn_32 : decode cX8_lostIn 32 = .ok (.baload, 1) := by decide +kernel
theorem dX8_lostIn_33 : decode cX8_lostIn 33 = .ok (.ifCond .eq 6, 3) := by decide +kernel
theorem dX8_lostIn_36 : decode cX8_lostIn 36 = .ok (.iinc 2 1, 3) := by decide +kernel
theorem dX8_lostIn_39 : decode cX8_lostIn 39 = .ok (.iinc 3 1, 3) := by decide +kernel
theorem dX8_lostIn_42 : decode cX8_lostIn 42 = .ok (.goto (-38), 3) := by decide +kernel
theorem dX8_lostIn_45 : decode cX8_lostIn 45 = .ok (.iload_n 2, 1) := by decide +kernel
theorem dX8_lostIn_46 : decode cX8_lostIn 46 = .ok (.ireturn, 1) := by decide +kernel
theorem dX8_staleWith_0 : decode cX8_staleWith 0 = .ok (.iconst 0, 1) := by decide +kernel
theorem dX8_staleWith_1 : decode cX8_staleWith 1 = .ok (.istore_n 2, 1) := by decide +kernel
theorem dX8_staleWith_2 : decode cX8_staleWith 2 = .ok (.iconst 0, 1) := by decide +kernel
theorem dX8_staleWith_3 : decode cX8_staleWith 3 = .ok (.istore_n 3, 1) := by decide +kernel
theorem dX8_staleWith_4 : decode cX8_staleWith 4 = .ok (.iload_n 3, 1) := by decide +kernel
theorem dX8_staleWith_5 : decode cX8_staleWith 5 = .ok (.bipush 12, 2) := by decide +kernel
theorem dX8_staleWith_7 : decode cX8_staleWith 7 = .ok (.if_icmp .ge 21, 3) := by decide +kernel
theorem dX8_staleWith_10 : decode cX8_staleWith 10 = .ok (.aload_n 0, 1) := by decide +kernel
theorem dX8_staleWith_11 : decode cX8_staleWith 11 = .ok (.iload_n 3, 1) := by decide +kernel
theorem dX8_staleWith_12 : decode cX8_staleWith 12 = .ok (.aload_n 1, 1) := by decide +kernel
theorem dX8_staleWith_13 : decode cX8_staleWith 13 = .ok (.invokevirtual 147, 3) := by decide +kernel
theorem dX8_staleWith_16 : decode cX8_staleWith 16 = .ok (.ifCond .eq 6, 3) := by decide +kernel
theorem dX8_staleWith_19 : decode cX8_staleWith 19 = .ok (.iinc 2 1, 3) := by decide +kernel
theorem dX8_staleWith_22 : decode cX8_staleWith 22 = .ok (.iinc 3 1, 3) := by decide +kernel
theorem dX8_staleWith_25 : decode cX8_staleWith 25 = .ok (.goto (-21), 3) := by decide +kernel
theorem dX8_staleWith_28 : decode cX8_staleWith 28 = .ok (.iload_n 2, 1) := by decide +kernel
theorem dX8_staleWith_29 : decode cX8_staleWith 29 = .ok (.ireturn, 1) := by decide +kernel
theorem dX8_isStale_0 : decode cX8_isStale 0 = .ok (.aload_n 0, 1) := by decide +kernel
theorem dX8_isStale_1 : decode cX8_isStale 1 = .ok (.getfield 12, 3) := by decide +kernel
theorem dX8_isStale_4 : decode cX8_isStale 4 = .ok (.getfield 111, 3) := by decide +kernel
theorem dX8_isStale_7 : decode cX8_isStale 7 = .ok (.getfield 131, 3) := by decide +kernel
theorem dX8_isStale_10 : decode cX8_isStale 10 = .ok (.iload_n 1, 1) := by decide +kernel
theorem dX8_isStale_11 : decode cX8_isStale 11 = .ok (.iaload, 1) := by decide +kernel
theorem dX8_isStale_12 : decode cX8_isStale 12 = .ok (.istore_n 3, 1) := by decide +kernel
theorem dX8_isStale_13 : decode cX8_isStale 13 = .ok (.aload_n 0, 1) := by decide +kernel
theorem dX8_isStale_14 : decode cX8_isStale 14 = .ok (.getfield 12, 3) := by decide +kernel
theorem dX8_isStale_17 : decode cX8_isStale 17 = .ok (.getfield 151, 3) := by decide +kernel
theorem dX8_isStale_20 : decode cX8_isStale 20 = .ok (.getfield 155, 3) := by decide +kernel
theorem dX8_isStale_23 : decode cX8_isStale 23 = .ok (.iload_n 1, 1) := by decide +kernel
theorem dX8_isStale_24 : decode cX8_isStale 24 = .ok (.iaload, 1) := by decide +kernel
theorem dX8_isStale_25 : decode cX8_isStale 25 = .ok (.iload_n 3, 1) := by decide +kernel
theorem dX8_isStale_26 : decode cX8_isStale 26 = .ok (.if_icmp .eq 5, 3) := by decide +kernel
theorem dX8_isStale_29 : decode cX8_isStale 29 = .ok (.iconst 1, 1) := by decide +kernel
theorem dX8_isStale_30 : decode cX8_isStale 30 = .ok (.ireturn, 1) := by decide +kernel
theorem dX8_isStale_31 : decode cX8_isStale 31 = .ok (.iconst 0, 1) := by decide +kernel
theorem dX8_isStale_32 : decode cX8_isStale 32 = .ok (.istore 4, 2) := by decide +kernel
theorem dX8_isStale_34 : decode cX8_isStale 34 = .ok (.iload 4, 2) := by decide +kernel
theorem dX8_isStale_36 : decode cX8_isStale 36 = .ok (.iload_n 3, 1) := by decide +kernel
theorem dX8_isStale_37 : decode cX8_isStale 37 = .ok (.if_icmp .ge 109, 3) := by decide +kernel
theorem dX8_isStale_40 : decode cX8_isStale 40 = .ok (.iload_n 1, 1) := by decide +kernel
theorem dX8_isStale_41 : decode cX8_isStale 41 = .ok (.iload 4, 2) := by decide +kernel
theorem dX8_isStale_43 : decode cX8_isStale 43 = .ok (.invokestatic 158, 3) := by decide +kernel
theorem dX8_isStale_46 : decode cX8_isStale 46 = .ok (.istore 5, 2) := by decide +kernel
theorem dX8_isStale_48 : decode cX8_isStale 48 = .ok (.aload_n 0, 1) := by decide +kernel
theorem dX8_isStale_49 : decode cX8_isStale 49 = .ok (.getfield 19, 3) := by decide +kernel
theorem dX8_isStale_52 : decode cX8_isStale 52 = .ok (.getfield 164, 3) := by decide +kernel
theorem dX8_isStale_55 : decode cX8_isStale 55 = .ok (.iload 5, 2) := by decide +kernel
theorem dX8_isStale_57 : decode cX8_isStale 57 = .ok (.iaload, 1) := by decide +kernel
theorem dX8_isStale_58 : decode cX8_isStale 58 = .ok (.istore 6, 2) := by decide +kernel
theorem dX8_isStale_60 : decode cX8_isStale 60 = .ok (.iload 6, 2) := by decide +kernel
theorem dX8_isStale_62 : decode cX8_isStale 62 = .ok (.iconst (-1), 1) := by decide +kernel
theorem dX8_isStale_63 : decode cX8_isStale 63 = .ok (.if_icmp .ne 7, 3) := by decide +kernel
theorem dX8_isStale_66 : decode cX8_isStale 66 = .ok (.iconst (-1), 1) := by decide +kernel
theorem dX8_isStale_67 : decode cX8_isStale 67 = .ok (.goto 7, 3) := by decide +kernel
theorem dX8_isStale_70 : decode cX8_isStale 70 = .ok (.aload_n 2, 1) := by decide +kernel
theorem dX8_isStale_71 : decode cX8_isStale 71 = .ok (.iload 6, 2) := by decide +kernel
theorem dX8_isStale_73 : decode cX8_isStale 73 = .ok (.iaload, 1) := by decide +kernel
theorem dX8_isStale_74 : decode cX8_isStale 74 = .ok (.istore 7, 2) := by decide +kernel
theorem dX8_isStale_76 : decode cX8_isStale 76 = .ok (.iload 7, 2) := by decide +kernel
theorem dX8_isStale_78 : decode cX8_isStale 78 = .ok (.iconst (-1), 1) := by decide +kernel
theorem dX8_isStale_79 : decode cX8_isStale 79 = .ok (.if_icmp .eq 16, 3) := by decide +kernel
theorem dX8_isStale_82 : decode cX8_isStale 82 = .ok (.aload_n 0, 1) := by decide +kernel
theorem dX8_isStale_83 : decode cX8_isStale 83 = .ok (.getfield 19, 3) := by decide +kernel
theorem dX8_isStale_86 : decode cX8_isStale 86 = .ok (.getfield 139, 3) := by decide +kernel
theorem dX8_isStale_89 : decode cX8_isStale 89 = .ok (.iload 5, 2) := by decide +kernel
theorem dX8_isStale_91 : decode cX8_isStale 91 = .ok (.baload, 1) := by decide +kernel
theorem dX8_isStale_92 : decode cX8_isStale 92 = .ok (.ifCond .eq 7, 3) := by decide +kernel
theorem dX8_isStale_95 : decode cX8_isStale 95 = .ok (.iconst 1, 1) := by decide +kernel
theorem dX8_isStale_96 : decode cX8_isStale 96 = .ok (.goto 4, 3) := by decide +kernel
theorem dX8_isStale_99 : decode cX8_isStale 99 = .ok (.iconst 0, 1) := by decide +kernel
theorem dX8_isStale_100 : decode cX8_isStale 100 = .ok (.istore 8, 2) := by decide +kernel
theorem dX8_isStale_102 : decode cX8_isStale 102 = .ok (.iload 7, 2) := by decide +kernel
theorem dX8_isStale_104 : decode cX8_isStale 104 = .ok (.aload_n 0, 1) := by decide +kernel
theorem dX8_isStale_105 : decode cX8_isStale 105 = .ok (.getfield 12, 3) := by decide +kernel
theorem dX8_isStale_108 : decode cX8_isStale 108 = .ok (.getfield 111, 3) := by decide +kernel
theorem dX8_isStale_111 : decode cX8_isStale 111 = .ok (.getfield 167, 3) := by decide +kernel
theorem dX8_isStale_114 : decode cX8_isStale 114 = .ok (.iload 5, 2) := by decide +kernel
theorem dX8_isStale_116 : decode cX8_isStale 116 = .ok (.iaload, 1) := by decide +kernel
theorem dX8_isStale_117 : decode cX8_isStale 117 = .ok (.iload 8, 2) := by decide +kernel
theorem dX8_isStale_119 : decode cX8_isStale 119 = .ok (.invokestatic 168, 3) := by decide +kernel
theorem dX8_isStale_122 : decode cX8_isStale 122 = .ok (.aload_n 0, 1) := by decide +kernel
theorem dX8_isStale_123 : decode cX8_isStale 123 = .ok (.getfield 12, 3) := by decide +kernel
theorem dX8_isStale_126 : decode cX8_isStale 126 = .ok (.getfield 151, 3) := by decide +kernel
theorem dX8_isStale_129 : decode cX8_isStale 129 = .ok (.getfield 161, 3) := by decide +kernel
theorem dX8_isStale_132 : decode cX8_isStale 132 = .ok (.iload 5, 2) := by decide +kernel
theorem dX8_isStale_134 : decode cX8_isStale 134 = .ok (.iaload, 1) := by decide +kernel
theorem dX8_isStale_135 : decode cX8_isStale 135 = .ok (.if_icmp .eq 5, 3) := by decide +kernel
theorem dX8_isStale_138 : decode cX8_isStale 138 = .ok (.iconst 1, 1) := by decide +kernel
theorem dX8_isStale_139 : decode cX8_isStale 139 = .ok (.ireturn, 1) := by decide +kernel
theorem dX8_isStale_140 : decode cX8_isStale 140 = .ok (.iinc 4 1, 3) := by decide +kernel
theorem dX8_isStale_143 : decode cX8_isStale 143 = .ok (.goto (-109), 3) := by decide +kernel
theorem dX8_isStale_146 : decode cX8_isStale 146 = .ok (.iconst 0, 1) := by decide +kernel
theorem dX8_isStale_147 : decode cX8_isStale 147 = .ok (.ireturn, 1) := by decide +kernel
theorem dX8_trialBinders_0 : decode cX8_trialBinders 0 = .ok (.aload_n 0, 1) := by decide +kernel
theorem dX8_trialBinders_1 : decode cX8_trialBinders 1 = .ok (.getfield 26, 3) := by decide +kernel
theorem dX8_trialBinders_4 : decode cX8_trialBinders 4 = .ok (.getfield 354, 3) := by decide +kernel
theorem dX8_trialBinders_7 : decode cX8_trialBinders 7 = .ok (.aload_n 0, 1) := by decide +kernel
theorem dX8_trialBinders_8 : decode cX8_trialBinders 8 = .ok (.getfield 26, 3) := by decide +kernel
theorem dX8_trialBinders_11 : decode cX8_trialBinders 11 = .ok (.getfield 355, 3) := by decide +kernel
theorem dX8_trialBinders_14 : decode cX8_trialBinders 14 = .ok (.aload_n 0, 1) := by decide +kernel
theorem dX8_trialBinders_15 : decode cX8_trialBinders 15 = .ok (.getfield 12, 3) := by decide +kernel
theorem dX8_trialBinders_18 : decode cX8_trialBinders 18 = .ok (.getfield 48, 3) := by decide +kernel
theorem dX8_trialBinders_21 : decode cX8_trialBinders 21 = .ok (.getfield 174, 3) := by decide +kernel
theorem dX8_trialBinders_24 : decode cX8_trialBinders 24 = .ok (.invokestatic 279, 3) := by decide +kernel
theorem dX8_trialBinders_27 : decode cX8_trialBinders 27 = .ok (.ireturn, 1) := by decide +kernel
theorem dX8_bindersFor_0 : decode cX8_bindersFor 0 = .ok (.iconst 0, 1) := by decide +kernel
theorem dX8_bindersFor_1 : decode cX8_bindersFor 1 = .ok (.istore_n 3, 1) := by decide +kernel
theorem dX8_bindersFor_2 : decode cX8_bindersFor 2 = .ok (.iconst 0, 1) := by decide +kernel
theorem dX8_bindersFor_3 : decode cX8_bindersFor 3 = .ok (.istore 4, 2) := by decide +kernel
theorem dX8_bindersFor_5 : decode cX8_bindersFor 5 = .ok (.iconst 0, 1) := by decide +kernel
theorem dX8_bindersFor_6 : decode cX8_bindersFor 6 = .ok (.istore 5, 2) := by decide +kernel
theorem dX8_bindersFor_8 : decode cX8_bindersFor 8 = .ok (.iload 5, 2) := by decide +kernel
theorem dX8_bindersFor_10 : decode cX8_bindersFor 10 = .ok (.iload_n 1, 1) := by decide +kernel
theorem dX8_bindersFor_11 : decode cX8_bindersFor 11 = .ok (.if_icmp .ge 40, 3) := by decide +kernel
theorem dX8_bindersFor_14 : decode cX8_bindersFor 14 = .ok (.iload 5, 2) := by decide +kernel
theorem dX8_bindersFor_16 : decode cX8_bindersFor 16 = .ok (.ifCond .eq 14, 3) := by decide +kernel
theorem dX8_bindersFor_19 : decode cX8_bindersFor 19 = .ok (.iload 4, 2) := by decide +kernel
theorem dX8_bindersFor_21 : decode cX8_bindersFor 21 = .ok (.aload_n 0, 1) := by decide +kernel
theorem dX8_bindersFor_22 : decode cX8_bindersFor 22 = .ok (.iload 5, 2) := by decide +kernel
theorem dX8_bindersFor_24 : decode cX8_bindersFor 24 = .ok (.iaload, 1) := by decide +kernel
theorem dX8_bindersFor_25 : decode cX8_bindersFor 25 = .ok (.iadd, 1) := by decide +kernel
theorem dX8_bindersFor_26 : decode cX8_bindersFor 26 = .ok (.iload_n 2, 1) := by decide +kernel
theorem dX8_bindersFor_27 : decode cX8_bindersFor 27 = .ok (.if_icmp .le 9, 3) := by decide +kernel
theorem dX8_bindersFor_30 : decode cX8_bindersFor 30 = .ok (.iinc 3 1, 3) := by decide +kernel
theorem dX8_bindersFor_33 : decode cX8_bindersFor 33 = .ok (.iconst 0, 1) := by decide +kernel
theorem dX8_bindersFor_34 : decode cX8_bindersFor 34 = .ok (.istore 4, 2) := by decide +kernel
theorem dX8_bindersFor_36 : decode cX8_bindersFor 36 = .ok (.iload 4, 2) := by decide +kernel
theorem dX8_bindersFor_38 : decode cX8_bindersFor 38 = .ok (.aload_n 0, 1) := by decide +kernel
theorem dX8_bindersFor_39 : decode cX8_bindersFor 39 = .ok (.iload 5, 2) := by decide +kernel
theorem dX8_bindersFor_41 : decode cX8_bindersFor 41 = .ok (.iaload, 1) := by decide +kernel
theorem dX8_bindersFor_42 : decode cX8_bindersFor 42 = .ok (.iadd, 1) := by decide +kernel
theorem dX8_bindersFor_43 : decode cX8_bindersFor 43 = .ok (.istore 4, 2) := by decide +kernel
theorem dX8_bindersFor_45 : decode cX8_bindersFor 45 = .ok (.iinc 5 1, 3) := by decide +kernel
theorem dX8_bindersFor_48 : decode cX8_bindersFor 48 = .ok (.goto (-40), 3) := by decide +kernel
theorem dX8_bindersFor_51 : decode cX8_bindersFor 51 = .ok (.iload_n 3, 1) := by decide +kernel
theorem dX8_bindersFor_52 : decode cX8_bindersFor 52 = .ok (.ireturn, 1) := by decide +kernel
theorem dX9_init_0 : decode cX9_init 0 = .ok (.aload_n 0, 1) := by decide +kernel
theorem dX9_init_1 : decode cX9_init 1 = .ok (.invokespecial 1, 3) := by decide +kernel
theorem dX9_init_4 : decode cX9_init 4 = .ok (.aload_n 0, 1) := by decide +kernel
theorem dX9_init_5 : decode cX9_init 5 = .ok (.sipush 449, 3) := by decide +kernel
theorem dX9_init_8 : decode cX9_init 8 = .ok (.newarray .int, 2) := by decide +kernel
theorem dX9_init_10 : decode cX9_init 10 = .ok (.putfield 7, 3) := by decide +kernel
theorem dX9_init_13 : decode cX9_init 13 = .ok (.aload_n 0, 1) := by decide +kernel
theorem dX9_init_14 : decode cX9_init 14 = .ok (.sipush 449, 3) := by decide +kernel
theorem dX9_init_17 : decode cX9_init 17 = .ok (.newarray .int, 2) := by decide +kernel
theorem dX9_init_19 : decode cX9_init 19 = .ok (.putfield 13, 3) := by decide +kernel
theorem dX9_init_22 : decode cX9_init 22 = .ok (.aload_n 0, 1) := by decide +kernel
theorem dX9_init_23 : decode cX9_init 23 = .ok (.sipush 2694, 3) := by decide +kernel
theorem dX9_init_26 : decode cX9_init 26 = .ok (.newarray .int, 2) := by decide +kernel
theorem dX9_init_28 : decode cX9_init 28 = .ok (.putfield 16, 3) := by decide +kernel
theorem dX9_init_31 : decode cX9_init 31 = .ok (.aload_n 0, 1) := by decide +kernel
theorem dX9_init_32 : decode cX9_init 32 = .ok (.bipush 60, 2) := by decide +kernel
theorem dX9_init_34 : decode cX9_init 34 = .ok (.newarray .int, 2) := by decide +kernel
theorem dX9_init_36 : decode cX9_init 36 = .ok (.putfield 19, 3) := by decide +kernel
theorem dX9_init_39 : decode cX9_init 39 = .ok (.aload_n 0, 1) := by decide +kernel
theorem dX9_init_40 : decode cX9_init 40 = .ok (.bipush 12, 2) := by decide +kernel
theorem dX9_init_42 : decode cX9_init 42 = .ok (.newarray .int, 2) := by decide +kernel
theorem dX9_init_44 : decode cX9_init 44 = .ok (.putfield 22, 3) := by decide +kernel
theorem dX9_init_47 : decode cX9_init 47 = .ok (.aload_n 0, 1) := by decide +kernel
theorem dX9_init_48 : decode cX9_init 48 = .ok (.getfield 7, 3) := by decide +kernel
theorem dX9_init_51 : decode cX9_init 51 = .ok (.iconst 0, 1) := by decide +kernel
theorem dX9_init_52 : decode cX9_init 52 = .ok (.bipush 60, 2) := by decide +kernel
theorem dX9_init_54 : decode cX9_init 54 = .ok (.iastore, 1) := by decide +kernel
theorem dX9_init_55 : decode cX9_init 55 = .ok (.iconst 0, 1) := by decide +kernel
theorem dX9_init_56 : decode cX9_init 56 = .ok (.istore_n 1, 1) := by decide +kernel
theorem dX9_init_57 : decode cX9_init 57 = .ok (.iload_n 1, 1) := by decide +kernel
theorem dX9_init_58 : decode cX9_init 58 = .ok (.bipush 12, 2) := by decide +kernel
theorem dX9_init_60 : decode cX9_init 60 = .ok (.if_icmp .ge 25, 3) := by decide +kernel
theorem dX9_init_63 : decode cX9_init 63 = .ok (.aload_n 0, 1) := by decide +kernel
theorem dX9_init_64 : decode cX9_init 64 = .ok (.getfield 7, 3) := by decide +kernel
theorem dX9_init_67 : decode cX9_init 67 = .ok (.bipush 65, 2) := by decide +kernel
theorem dX9_init_69 : decode cX9_init 69 = .ok (.bipush 32, 2) := by decide +kernel
theorem dX9_init_71 : decode cX9_init 71 = .ok (.iload_n 1, 1) := by decide +kernel
theorem dX9_init_72 : decode cX9_init 72 = .ok (.imul, 1) := by decide +kernel
theorem dX9_init_73 : decode cX9_init 73 = .ok (.iadd, 1) := by decide +kernel
theorem dX9_init_74 : decode cX9_init 74 = .ok (.bipush 13, 2) := by decide +kernel
theorem dX9_init_76 : decode cX9_init 76 = .ok (.iadd, 1) := by decide +kernel
theorem dX9_init_77 : decode cX9_init 77 = .ok (.iconst (-1), 1) := by decide +kernel
theorem dX9_init_78 : decode cX9_init 78 = .ok (.iastore, 1) := by decide +kernel
theorem dX9_init_79 : decode cX9_init 79 = .ok (.iinc 1 1, 3) := by decide +kernel
theorem dX9_init_82 : decode cX9_init 82 = .ok (.goto (-25), 3) := by decide +kernel
theorem dX9_init_85 : decode cX9_init 85 = .ok (.return_, 1) := by decide +kernel
theorem dX9_thrown_0 : decode cX9_thrown 0 = .ok (.aload_n 0, 1) := by decide +kernel
theorem dX9_thrown_1 : decode cX9_thrown 1 = .ok (.getfield 25, 3) := by decide +kernel
theorem dX9_thrown_4 : decode cX9_thrown 4 = .ok (.ireturn, 1) := by decide +kernel
theorem dX9_fails_0 : decode cX9_fails 0 = .ok (.aload_n 0, 1) := by decide +kernel
theorem dX9_fails_1 : decode cX9_fails 1 = .ok (.iload_n 1, 1) := by decide +kernel
theorem dX9_fails_2 : decode cX9_fails 2 = .ok (.putfield 25, 3) := by decide +kernel
theorem dX9_fails_5 : decode cX9_fails 5 = .ok (.iconst 0, 1) := by decide +kernel
theorem dX9_fails_6 : decode cX9_fails 6 = .ok (.ireturn, 1) := by decide +kernel
theorem dX9_in_0 : decode cX9_in 0 = .ok (.iload_n 0, 1) := by decide +kernel
theorem dX9_in_1 : decode cX9_in 1 = .ok (.iload_n 1, 1) := by decide +kernel
theorem dX9_in_2 : decode cX9_in 2 = .ok (.if_icmp .lt 12, 3) := by decide +kernel
theorem dX9_in_5 : decode cX9_in 5 = .ok (.iload_n 0, 1) := by decide +kernel
theorem dX9_in_6 : decode cX9_in 6 = .ok (.iload_n 2, 1) := by decide +kernel
theorem dX9_in_7 : decode cX9_in 7 = .ok (.if_icmp .gt 7, 3) := by decide +kernel
theorem dX9_in_10 : decode cX9_in 10 = .ok (.iconst 1, 1) := by decide +kernel
theorem dX9_in_11 : decode cX9_in 11 = .ok (.goto 4, 3) := by decide +kernel
theorem dX9_in_14 : decode cX9_in 14 = .ok (.iconst 0, 1) := by decide +kernel
theorem dX9_in_15 : decode cX9_in 15 = .ok (.ireturn, 1) := by decide +kernel
theorem dX9_isPlace_0 : decode cX9_isPlace 0 = .ok (.iload_n 1, 1) := by decide +kernel
theorem dX9_isPlace_1 : decode cX9_isPlace 1 = .ok (.iconst 0, 1) := by decide +kernel
theorem dX9_isPlace_2 : decode cX9_isPlace 2 = .ok (.aload_n 0, 1) := by decide +kernel
theorem dX9_isPlace_3 : decode cX9_isPlace 3 = .ok (.getfield 7, 3) := by decide +kernel
theorem dX9_isPlace_6 : decode cX9_isPlace 6 = .ok (.iconst 1, 1) := by decide +kernel
theorem dX9_isPlace_7 : decode cX9_isPlace 7 = .ok (.iaload, 1) := by decide +kernel
theorem dX9_isPlace_8 : decode cX9_isPlace 8 = .ok (.iconst 1, 1) := by decide +kernel
theorem dX9_isPlace_9 : decode cX9_isPlace 9 = .ok (.isub, 1) := by decide +kernel
theorem dX9_isPlace_10 : decode cX9_isPlace 10 = .ok (.invokestatic 29, 3) := by decide +kernel
theorem dX9_isPlace_13 : decode cX9_isPlace 13 = .ok (.ireturn, 1) := by decide +kernel
theorem dX9_arePages_0 : decode cX9_arePages 0 = .ok (.iload_n 0, 1) := by decide +kernel
theorem dX9_arePages_1 : decode cX9_arePages 1 = .ok (.iconst 1, 1) := by decide +kernel
theorem dX9_arePages_2 : decode cX9_arePages 2 = .ok (.bipush 60, 2) := by decide +kernel
theorem dX9_arePages_4 : decode cX9_arePages 4 = .ok (.invokestatic 29, 3) := by decide +kernel
theorem dX9_arePages_7 : decode cX9_arePages 7 = .ok (.ireturn, 1) := by decide +kernel
theorem dX9_isParagraph_0 : decode cX9_isParagraph 0 = .ok (.iload_n 0, 1) := by decide +kernel
theorem dX9_isParagraph_1 : decode cX9_isParagraph 1 = .ok (.iconst 0, 1) := by decide +kernel
theorem dX9_isParagraph_2 : decode cX9_isParagraph 2 = .ok (.bipush 11, 2) := by decide +kernel
theorem dX9_isParagraph_4 : decode cX9_isParagraph 4 = .ok (.invokestatic 29, 3) := by decide +kernel
theorem dX9_isParagraph_7 : decode cX9_isParagraph 7 = .ok (.ireturn, 1) := by decide +kernel
theorem dX9_number_0 : decode cX9_number 0 = .ok (.aload_n 0, 1) := by decide +kernel
theorem dX9_number_1 : decode cX9_number 1 = .ok (.iconst 3, 1) := by decide +kernel
theorem dX9_number_2 : decode cX9_number 2 = .ok (.iconst 2, 1) := by decide +kernel
theorem dX9_number_3 : decode cX9_number 3 = .ok (.iload_n 1, 1) := by decide +kernel
theorem dX9_number_4 : decode cX9_number 4 = .ok (.imul, 1) := by decide +kernel
theorem dX9_number_5 : decode cX9_number 5 = .ok (.iadd, 1) := by decide +kernel
theorem dX9_number_6 : decode cX9_number 6 = .ok (.iaload, 1) := by decide +kernel
theorem dX9_number_7 : decode cX9_number 7 = .ok (.ireturn, 1) := by decide +kernel
theorem dX9_pagesOf_0 : decode cX9_pagesOf 0 = .ok (.aload_n 0, 1) := by decide +kernel
theorem dX9_pagesOf_1 : decode cX9_pagesOf 1 = .ok (.iconst 3, 1) := by decide +kernel
theorem dX9_pagesOf_2 : decode cX9_pagesOf 2 = .ok (.iconst 2, 1) := by decide +kernel
theorem dX9_pagesOf_3 : decode cX9_pagesOf 3 = .ok (.iload_n 1, 1) := by decide +kernel
theorem dX9_pagesOf_4 : decode cX9_pagesOf 4 = .ok (.imul, 1) := by decide +kernel
theorem dX9_pagesOf_5 : decode cX9_pagesOf 5 = .ok (.iadd, 1) := by decide +kernel
theorem dX9_pagesOf_6 : decode cX9_pagesOf 6 = .ok (.iconst 1, 1) := by decide +kernel
theorem dX9_pagesOf_7 : decode cX9_pagesOf 7 = .ok (.iadd, 1) := by decide +kernel
theorem dX9_pagesOf_8 : decode cX9_pagesOf 8 = .ok (.iaload, 1) := by decide +kernel
theorem dX9_pagesOf_9 : decode cX9_pagesOf 9 = .ok (.ireturn, 1) := by decide +kernel
theorem dX9_placeOf_0 : decode cX9_placeOf 0 = .ok (.iconst 0, 1) := by decide +kernel
theorem dX9_placeOf_1 : decode cX9_placeOf 1 = .ok (.istore_n 2, 1) := by decide +kernel
theorem dX9_placeOf_2 : decode cX9_placeOf 2 = .ok (.iload_n 2, 1) := by decide +kernel
theorem dX9_placeOf_3 : decode cX9_placeOf 3 = .ok (.aload_n 0, 1) := by decide +kernel
theorem dX9_placeOf_4 : decode cX9_placeOf 4 = .ok (.iconst 1, 1) := by decide +kernel
theorem dX9_placeOf_5 : decode cX9_placeOf 5 = .ok (.iaload, 1) := by decide +kernel
theorem dX9_placeOf_6 : decode cX9_placeOf 6 = .ok (.if_icmp .ge 22, 3) := by decide +kernel
theorem dX9_placeOf_9 : decode cX9_placeOf 9 = .ok (.aload_n 0, 1) := by decide +kernel
theorem dX9_placeOf_10 : decode cX9_placeOf 10 = .ok (.iconst 3, 1) := by decide +kernel
theorem dX9_placeOf_11 : decode cX9_placeOf 11 = .ok (.iconst 2, 1) := by decide +kernel
theorem dX9_placeOf_12 : decode cX9_placeOf 12 = .ok (.iload_n 2, 1) := by decide +kernel
theorem dX9_placeOf_13 : decode cX9_placeOf 13 = .ok (.imul, 1) := by decide +kernel
theorem dX9_placeOf_14 : decode cX9_placeOf 14 = .ok (.iadd, 1) := by decide +kernel
theorem dX9_placeOf_15 : decode cX9_placeOf 15 = .ok (.iaload, 1) := by decide +kernel
theorem dX9_placeOf_16 : decode cX9_placeOf 16 = .ok (.iload_n 1, 1) := by decide +kernel
theorem dX9_placeOf_17 : decode cX9_placeOf 17 = .ok (.if_icmp .ne 5, 3) := by decide +kernel
theorem dX9_placeOf_20 : decode cX9_placeOf 20 = .ok (.iload_n 2, 1) := by decide +kernel
theorem dX9_placeOf_21 : decode cX9_placeOf 21 = .ok (.ireturn, 1) := by decide +kernel
theorem dX9_placeOf_22 : decode cX9_placeOf 22 = .ok (.iinc 2 1, 3) := by decide +kernel
theorem dX9_placeOf_25 : decode cX9_placeOf 25 = .ok (.goto (-23), 3) := by decide +kernel
theorem dX9_placeOf_28 : decode cX9_placeOf 28 = .ok (.iconst (-1), 1) := by decide +kernel
theorem dX9_placeOf_29 : decode cX9_placeOf 29 = .ok (.ireturn, 1) := by decide +kernel
theorem dX9_copies_0 : decode cX9_copies 0 = .ok (.iconst 0, 1) := by decide +kernel
theorem dX9_copies_1 : decode cX9_copies 1 = .ok (.istore 4, 2) := by decide +kernel
theorem dX9_copies_3 : decode cX9_copies 3 = .ok (.iload 4, 2) := by decide +kernel
theorem dX9_copies_5 : decode cX9_copies 5 = .ok (.sipush 449, 3) := by decide +kernel
theorem dX9_copies_8 : decode cX9_copies 8 = .ok (.if_icmp .ge 21, 3) := by decide +kernel
theorem dX9_copies_11 : decode cX9_copies 11 = .ok (.aload_n 2, 1) := by decide +kernel
theorem dX9_copies_12 : decode cX9_copies 12 = .ok (.iload_n 3, 1) := by decide +kernel
theorem dX9_copies_13 : decode cX9_copies 13 = .ok (.iload 4, 2) := by decide +kernel
theorem dX9_copies_15 : decode cX9_copies 15 = .ok (.iadd, 1) := by decide +kernel
theorem dX9_copies_16 : decode cX9_copies 16 = .ok (.aload_n 0, 1) := by decide +kernel
theorem dX9_copies_17 : decode cX9_copies 17 = .ok (.iload_n 1, 1) := by decide +kernel
theorem dX9_copies_18 : decode cX9_copies 18 = .ok (.iload 4, 2) := by decide +kernel
theorem dX9_copies_20 : decode cX9_copies 20 = .ok (.iadd, 1) := by decide +kernel
theorem dX9_copies_21 : decode cX9_copies 21 = .ok (.iaload, 1) := by decide +kernel
theorem dX9_copies_22 : decode cX9_copies 22 = .ok (.iastore, 1) := by decide +kernel
theorem dX9_copies_23 : decode cX9_copies 23 = .ok (.iinc 4 1, 3) := by decide +kernel
theorem dX9_copies_26 : decode cX9_copies 26 = .ok (.goto (-23), 3) := by decide +kernel
theorem dX9_copies_29 : decode cX9_copies 29 = .ok (.return_, 1) := by decide +kernel
theorem dX9_saves_0 : decode cX9_saves 0 = .ok (.aload_n 0, 1) := by decide +kernel
theorem dX9_saves_1 : decode cX9_saves 1 = .ok (.getfield 33, 3) := by decide +kernel
theorem dX9_saves_4 : decode cX9_saves 4 = .ok (.bipush 6, 2) := by decide +kernel
theorem dX9_saves_6 : decode cX9_saves 6 = .ok (.if_icmp .ne 44, 3) := by decide +kernel
theorem dX9_saves_9 : decode cX9_saves 9 = .ok (.iconst 0, 1) := by decide +kernel
theorem dX9_saves_10 : decode cX9_saves 10 = .ok (.istore_n 1, 1) := by decide +kernel
theorem dX9_saves_11 : decode cX9_saves 11 = .ok (.iload_n 1, 1) := by decide +kernel
theorem dX9_saves_12 : decode cX9_saves 12 = .ok (.sipush 2245, 3) := by decide +kernel
theorem dX9_saves_15 : decode cX9_saves 15 = .ok (.if_icmp .ge 25, 3) := by decide +kernel
theorem dX9_saves_18 : decode cX9_saves 18 = .ok (.aload_n 0, 1) := by decide +kernel
theorem dX9_saves_19 : decode cX9_saves 19 = .ok (.getfield 16, 3) := by decide +kernel
theorem dX9_saves_22 : decode cX9_saves 22 = .ok (.iload_n 1, 1) := by decide +kernel
theorem dX9_saves_23 : decode cX9_saves 23 = .ok (.aload_n 0, 1) := by decide +kernel
theorem dX9_saves_24 : decode cX9_saves 24 = .ok (.getfield 16, 3) := by decide +kernel
theorem dX9_saves_27 : decode cX9_saves 27 = .ok (.iload_n 1, 1) := by decide +kernel
theorem dX9_saves_28 : decode cX9_saves 28 = .ok (.sipush 449, 3) := by decide +kernel
theorem dX9_saves_31 : decode cX9_saves 31 = .ok (.iadd, 1) := by decide +kernel
theorem dX9_saves_32 : decode cX9_saves 32 = .ok (.iaload, 1) := by decide +kernel
theorem dX9_saves_33 : decode cX9_saves 33 = .ok (.iastore, 1) := by decide +kernel
theorem dX9_saves_34 : decode cX9_saves 34 = .ok (.iinc 1 1, 3) := by decide +kernel
theorem dX9_saves_37 : decode cX9_saves 37 = .ok (.goto (-26), 3) := by decide +kernel
theorem dX9_saves_40 : decode cX9_saves 40 = .ok (.aload_n 0, 1) := by decide +kernel
theorem dX9_saves_41 : decode cX9_saves 41 = .ok (.dup, 1) := by decide +kernel
theorem dX9_saves_42 : decode cX9_saves 42 = .ok (.getfield 33, 3) := by decide +kernel
theorem dX9_saves_45 : decode cX9_saves 45 = .ok (.iconst 1, 1) := by decide +kernel
theorem dX9_saves_46 : decode cX9_saves 46 = .ok (.isub, 1) := by decide +kernel
theorem dX9_saves_47 : decode cX9_saves 47 = .ok (.putfield 33, 3) := by decide +kernel
theorem dX9_saves_50 : decode cX9_saves 50 = .ok (.aload_n 0, 1) := by decide +kernel
theorem dX9_saves_51 : decode cX9_saves 51 = .ok (.getfield 7, 3) := by decide +kernel
theorem dX9_saves_54 : decode cX9_saves 54 = .ok (.iconst 0, 1) := by decide +kernel
theorem dX9_saves_55 : decode cX9_saves 55 = .ok (.aload_n 0, 1) := by decide +kernel
theorem dX9_saves_56 : decode cX9_saves 56 = .ok (.getfield 16, 3) := by decide +kernel
theorem dX9_saves_59 : decode cX9_saves 59 = .ok (.sipush 449, 3) := by decide +kernel
theorem dX9_saves_62 : decode cX9_saves 62 = .ok (.aload_n 0, 1) := by decide +kernel
theorem dX9_saves_63 : decode cX9_saves 63 = .ok (.getfield 33, 3) := by decide +kernel
theorem dX9_saves_66 : decode cX9_saves 66 = .ok (.imul, 1) := by decide +kernel
theorem dX9_saves_67 : decode cX9_saves 67 = .ok (.invokestatic 36, 3) := by decide +kernel
theorem dX9_saves_70 : decode cX9_saves 70 = .ok (.aload_n 0, 1) := by decide +kernel
theorem dX9_saves_71 : decode cX9_saves 71 = .ok (.dup, 1) := by decide +kernel
theorem dX9_saves_72 : decode cX9_saves 72 = .ok (.getfield 33, 3) := by decide +kernel
theorem dX9_saves_75 : decode cX9_saves 75 = .ok (.iconst 1, 1) := by decide +kernel
theorem dX9_saves_76 : decode cX9_saves 76 = .ok (.iadd, 1) := by decide +kernel
theorem dX9_saves_77 : decode cX9_saves 77 = .ok (.putfield 33, 3) := by decide +kernel
theorem dX9_saves_80 : decode cX9_saves 80 = .ok (.return_, 1) := by decide +kernel
theorem dX9_undo_0 : decode cX9_undo 0 = .ok (.aload_n 0, 1) := by decide +kernel
theorem dX9_undo_1 : decode cX9_undo 1 = .ok (.iconst 0, 1) := by decide +kernel
theorem dX9_undo_2 : decode cX9_undo 2 = .ok (.putfield 25, 3) := by decide +kernel
theorem dX9_undo_5 : decode cX9_undo 5 = .ok (.aload_n 0, 1) := by decide +kernel
theorem dX9_undo_6 : decode cX9_undo 6 = .ok (.getfield 33, 3) := by decide +kernel
theorem dX9_undo_9 : decode cX9_undo 9 = .ok (.ifCond .ne 9, 3) := by decide +kernel
theorem dX9_undo_12 : decode cX9_undo 12 = .ok (.aload_n 0, 1) := by decide +kernel
theorem dX9_undo_13 : decode cX9_undo 13 = .ok (.iconst 1, 1) := by decide +kernel
theorem dX9_undo_14 : decode cX9_undo 14 = .ok (.invokevirtual 40, 3) := by decide +kernel
theorem dX9_undo_17 : decode cX9_undo 17 = .ok (.ireturn, 1) := by decide +kernel
theorem dX9_undo_18 : decode cX9_undo 18 = .ok (.aload_n 0, 1) := by decide +kernel
theorem dX9_undo_19 : decode cX9_undo 19 = .ok (.dup, 1) := by decide +kernel
theorem dX9_undo_20 : decode cX9_undo 20 = .ok (.getfield 33, 3) := by decide +kernel
theorem dX9_undo_23 : decode cX9_undo 23 = .ok (.iconst 1, 1) := by decide +kernel
theorem dX9_undo_24 : decode cX9_undo 24 = .ok (.isub, 1) := by decide +kernel
theorem dX9_undo_25 : decode cX9_undo 25 = .ok (.putfield 33, 3) := by decide +kernel
theorem dX9_undo_28 : decode cX9_undo 28 = .ok (.aload_n 0, 1) := by decide +kernel
theorem dX9_undo_29 : decode cX9_undo 29 = .ok (.getfield 16, 3) := by decide +kernel
theorem dX9_undo_32 : decode cX9_undo 32 = .ok (.sipush 449, 3) := by decide +kernel
theorem dX9_undo_35 : decode cX9_undo 35 = .ok (.aload_n 0, 1) := by decide +kernel
theorem dX9_undo_36 : decode cX9_undo 36 = .ok (.getfield 33, 3) := by decide +kernel
theorem dX9_undo_39 : decode cX9_undo 39 = .ok (.imul, 1) := by decide +kernel
theorem dX9_undo_40 : decode cX9_undo 40 = .ok (.aload_n 0, 1) := by decide +kernel
theorem dX9_undo_41 : decode cX9_undo 41 = .ok (.getfield 7, 3) := by decide +kernel
theorem dX9_undo_44 : decode cX9_undo 44 = .ok (.iconst 0, 1) := by decide +kernel
theorem dX9_undo_45 : decode cX9_undo 45 = .ok (.invokestatic 36, 3) := by decide +kernel
theorem dX9_undo_48 : decode cX9_undo 48 = .ok (.aload_n 0, 1) := by decide +kernel
theorem dX9_undo_49 : decode cX9_undo 49 = .ok (.getfield 33, 3) := by decide +kernel
theorem dX9_undo_52 : decode cX9_undo 52 = .ok (.ireturn, 1) := by decide +kernel
theorem dX9_index_0 : decode cX9_index 0 = .ok (.bipush 65, 2) := by decide +kernel
theorem dX9_index_2 : decode cX9_index 2 = .ok (.bipush 32, 2) := by decide +kernel
theorem dX9_index_4 : decode cX9_index 4 = .ok (.iload_n 0, 1) := by decide +kernel
theorem dX9_index_5 : decode cX9_index 5 = .ok (.imul, 1) := by decide +kernel
theorem dX9_index_6 : decode cX9_index 6 = .ok (.iadd, 1) := by decide +kernel
theorem dX9_index_7 : decode cX9_index 7 = .ok (.iconst 1, 1) := by decide +kernel
theorem dX9_index_8 : decode cX9_index 8 = .ok (.iadd, 1) := by decide +kernel
theorem dX9_index_9 : decode cX9_index 9 = .ok (.iconst 2, 1) := by decide +kernel
theorem dX9_index_10 : decode cX9_index 10 = .ok (.iload_n 1, 1) := by decide +kernel
theorem dX9_index_11 : decode cX9_index 11 = .ok (.imul, 1) := by decide +kernel
theorem dX9_index_12 : decode cX9_index 12 = .ok (.iadd, 1) := by decide +kernel
theorem dX9_index_13 : decode cX9_index 13 = .ok (.ireturn, 1) := by decide +kernel
theorem dX9_cites_0 : decode cX9_cites 0 = .ok (.aload_n 0, 1) := by decide +kernel
theorem dX9_cites_1 : decode cX9_cites 1 = .ok (.bipush 65, 2) := by decide +kernel
theorem dX9_cites_3 : decode cX9_cites 3 = .ok (.bipush 32, 2) := by decide +kernel
theorem dX9_cites_5 : decode cX9_cites 5 = .ok (.iload_n 1, 1) := by decide +kernel
theorem dX9_cites_6 : decode cX9_cites 6 = .ok (.imul, 1) := by decide +kernel
theorem dX9_cites_7 : decode cX9_cites 7 = .ok (.iadd, 1) := by decide +kernel
theorem dX9_cites_8 : decode cX9_cites 8 = .ok (.iaload, 1) := by decide +kernel
theorem dX9_cites_9 : decode cX9_cites 9 = .ok (.ireturn, 1) := by decide +kernel
theorem dX9_letter_0 : decode cX9_letter 0 = .ok (.aload_n 0, 1) := by decide +kernel
theorem dX9_letter_1 : decode cX9_letter 1 = .ok (.aload_n 0, 1) := by decide +kernel
theorem dX9_letter_2 : decode cX9_letter 2 = .ok (.iload_n 1, 1) := by decide +kernel
theorem dX9_letter_3 : decode cX9_letter 3 = .ok (.iload_n 2, 1) := by decide +kernel
theorem dX9_letter_4 : decode cX9_letter 4 = .ok (.invokestatic 44, 3) := by decide +kernel
theorem dX9_letter_7 : decode cX9_letter 7 = .ok (.iaload, 1) := by decide +kernel
theorem dX9_letter_8 : decode cX9_letter 8 = .ok (.invokestatic 48, 3) := by decide +kernel
theorem dX9_letter_11 : decode cX9_letter 11 = .ok (.ireturn, 1) := by decide +kernel
theorem dX9_isLost_0 : decode cX9_isLost 0 = .ok (.aload_n 0, 1) := by decide +kernel
theorem dX9_isLost_1 : decode cX9_isLost 1 = .ok (.iload_n 1, 1) := by decide +kernel
theorem dX9_isLost_2 : decode cX9_isLost 2 = .ok (.iload_n 2, 1) := by decide +kernel
theorem dX9_isLost_3 : decode cX9_isLost 3 = .ok (.invokestatic 52, 3) := by decide +kernel
theorem dX9_isLost_6 : decode cX9_isLost 6 = .ok (.istore_n 3, 1) := by decide +kernel
theorem dX9_isLost_7 : decode cX9_isLost 7 = .ok (.iload_n 3, 1) := by decide +kernel
theorem dX9_isLost_8 : decode cX9_isLost 8 = .ok (.iconst (-1), 1) := by decide +kernel
theorem dX9_isLost_9 : decode cX9_isLost 9 = .ok (.if_icmp .eq 20, 3) := by decide +kernel
theorem dX9_isLost_12 : decode cX9_isLost 12 = .ok (.aload_n 0, 1) := by decide +kernel
theorem dX9_isLost_13 : decode cX9_isLost 13 = .ok (.iload_n 1, 1) := by decide +kernel
theorem dX9_isLost_14 : decode cX9_isLost 14 = .ok (.iload_n 2, 1) := by decide +kernel
theorem dX9_isLost_15 : decode cX9_isLost 15 = .ok (.invokestatic 44, 3) := by decide +kernel
theorem dX9_isLost_18 : decode cX9_isLost 18 = .ok (.iconst 1, 1) := by decide +kernel
theorem dX9_isLost_19 : decode cX9_isLost 19 = .ok (.iadd, 1) := by decide +kernel
theorem dX9_isLost_20 : decode cX9_isLost 20 = .ok (.iaload, 1) := by decide +kernel
theorem dX9_isLost_21 : decode cX9_isLost 21 = .ok (.aload_n 0, 1) := by decide +kernel
theorem dX9_isLost_22 : decode cX9_isLost 22 = .ok (.iload_n 3, 1) := by decide +kernel
theorem dX9_isLost_23 : decode cX9_isLost 23 = .ok (.invokestatic 56, 3) := by decide +kernel
theorem dX9_isLost_26 : decode cX9_isLost 26 = .ok (.if_icmp .le 7, 3) := by decide +kernel
theorem dX9_isLost_29 : decode cX9_isLost 29 = .ok (.iconst 1, 1) := by decide +kernel
theorem dX9_isLost_30 : decode cX9_isLost 30 = .ok (.goto 4, 3) := by decide +kernel
theorem dX9_isLost_33 : decode cX9_isLost 33 = .ok (.iconst 0, 1) := by decide +kernel
theorem dX9_isLost_34 : decode cX9_isLost 34 = .ok (.ireturn, 1) := by decide +kernel
theorem dX9_lost_0 : decode cX9_lost 0 = .ok (.iconst 0, 1) := by decide +kernel
theorem dX9_lost_1 : decode cX9_lost 1 = .ok (.istore_n 2, 1) := by decide +kernel
theorem dX9_lost_2 : decode cX9_lost 2 = .ok (.iconst 0, 1) := by decide +kernel
theorem dX9_lost_3 : decode cX9_lost 3 = .ok (.istore_n 3, 1) := by decide +kernel
theorem dX9_lost_4 : decode cX9_lost 4 = .ok (.iload_n 3, 1) := by decide +kernel
theorem dX9_lost_5 : decode cX9_lost 5 = .ok (.aload_n 0, 1) := by decide +kernel
theorem dX9_lost_6 : decode cX9_lost 6 = .ok (.iload_n 1, 1) := by decide +kernel
theorem dX9_lost_7 : decode cX9_lost 7 = .ok (.invokestatic 59, 3) := by decide +kernel
theorem dX9_lost_10 : decode cX9_lost 10 = .ok (.if_icmp .ge 26, 3) := by decide +kernel
theorem dX9_lost_13 : decode cX9_lost 13 = .ok (.iload_n 2, 1) := by decide +kernel
theorem dX9_lost_14 : decode cX9_lost 14 = .ok (.aload_n 0, 1) := by decide +kernel
theorem dX9_lost_15 : decode cX9_lost 15 = .ok (.iload_n 1, 1) := by decide +kernel
theorem dX9_lost_16 : decode cX9_lost 16 = .ok (.iload_n 3, 1) := by decide +kernel
theorem dX9_lost_17 : decode cX9_lost 17 = .ok (.invokestatic 62, 3) := by decide +kernel
theorem dX9_lost_20 : decode cX9_lost 20 = .ok (.ifCond .eq 7, 3) := by decide +kernel
theorem dX9_lost_23 : decode cX9_lost 23 = .ok (.iconst 1, 1) := by decide +kernel
theorem dX9_lost_24 : decode cX9_lost 24 = .ok (.goto 4, 3) := by decide +kernel
theorem dX9_lost_27 : decode cX9_lost 27 = .ok (.iconst 0, 1) := by decide +kernel
theorem dX9_lost_28 : decode cX9_lost 28 = .ok (.iadd, 1) := by decide +kernel
theorem dX9_lost_29 : decode cX9_lost 29 = .ok (.istore_n 2, 1) := by decide +kernel
theorem dX9_lost_30 : decode cX9_lost 30 = .ok (.iinc 3 1, 3) := by decide +kernel
theorem dX9_lost_33 : decode cX9_lost 33 = .ok (.goto (-29), 3) := by decide +kernel
theorem dX9_lost_36 : decode cX9_lost 36 = .ok (.iload_n 2, 1) := by decide +kernel
theorem dX9_lost_37 : decode cX9_lost 37 = .ok (.ireturn, 1) := by decide +kernel
theorem dX9_allLost_0 : decode cX9_allLost 0 = .ok (.iconst 0, 1) := by decide +kernel
theorem dX9_allLost_1 : decode cX9_allLost 1 = .ok (.istore_n 1, 1) := by decide +kernel
theorem dX9_allLost_2 : decode cX9_allLost 2 = .ok (.iconst 0, 1) := by decide +kernel
theorem dX9_allLost_3 : decode cX9_allLost 3 = .ok (.istore_n 2, 1) := by decide +kernel
theorem dX9_allLost_4 : decode cX9_allLost 4 = .ok (.iload_n 2, 1) := by decide +kernel
theorem dX9_allLost_5 : decode cX9_allLost 5 = .ok (.bipush 12, 2) := by decide +kernel
theorem dX9_allLost_7 : decode cX9_allLost 7 = .ok (.if_icmp .ge 17, 3) := by decide +kernel
theorem dX9_allLost_10 : decode cX9_allLost 10 = .ok (.iload_n 1, 1) := by decide +kernel
theorem dX9_allLost_11 : decode cX9_allLost 11 = .ok (.aload_n 0, 1) := by decide +kernel
theorem dX9_allLost_12 : decode cX9_allLost 12 = .ok (.iload_n 2, 1) := by decide +kernel
theorem dX9_allLost_13 : decode cX9_allLost 13 = .ok (.invokestatic 66, 3) := by decide +kernel
theorem dX9_allLost_16 : decode cX9_allLost 16 = .ok (.iadd, 1) := by decide +kernel
theorem dX9_allLost_17 : decode cX9_allLost 17 = .ok (.istore_n 1, 1) := by decide +kernel
theorem dX9_allLost_18 : decode cX9_allLost 18 = .ok (.iinc 2 1, 3) := by decide +kernel
theorem dX9_allLost_21 : decode cX9_allLost 21 = .ok (.goto (-17), 3) := by decide +kernel
theorem dX9_allLost_24 : decode cX9_allLost 24 = .ok (.iload_n 1, 1) := by decide +kernel
theorem dX9_allLost_25 : decode cX9_allLost 25 = .ok (.ireturn, 1) := by decide +kernel
theorem dX9_isStale_0 : decode cX9_isStale 0 = .ok (.bipush 65, 2) := by decide +kernel
theorem dX9_isStale_2 : decode cX9_isStale 2 = .ok (.bipush 32, 2) := by decide +kernel
theorem dX9_isStale_4 : decode cX9_isStale 4 = .ok (.iload_n 1, 1) := by decide +kernel
theorem dX9_isStale_5 : decode cX9_isStale 5 = .ok (.imul, 1) := by decide +kernel
theorem dX9_isStale_6 : decode cX9_isStale 6 = .ok (.iadd, 1) := by decide +kernel
theorem dX9_isStale_7 : decode cX9_isStale 7 = .ok (.bipush 13, 2) := by decide +kernel
theorem dX9_isStale_9 : decode cX9_isStale 9 = .ok (.iadd, 1) := by decide +kernel
theorem dX9_isStale_10 : decode cX9_isStale 10 = .ok (.istore_n 2, 1) := by decide +kernel
theorem dX9_isStale_11 : decode cX9_isStale 11 = .ok (.aload_n 0, 1) := by decide +kernel
theorem dX9_isStale_12 : decode cX9_isStale 12 = .ok (.iload_n 2, 1) := by decide +kernel
theorem dX9_isStale_13 : decode cX9_isStale 13 = .ok (.iaload, 1) := by decide +kernel
theorem dX9_isStale_14 : decode cX9_isStale 14 = .ok (.aload_n 0, 1) := by decide +kernel
theorem dX9_isStale_15 : decode cX9_isStale 15 = .ok (.iload_n 1, 1) := by decide +kernel
theorem dX9_isStale_16 : decode cX9_isStale 16 = .ok (.invokestatic 59, 3) := by decide +kernel
theorem dX9_isStale_19 : decode cX9_isStale 19 = .ok (.if_icmp .eq 7, 3) := by decide +kernel
theorem dX9_isStale_22 : decode cX9_isStale 22 = .ok (.iconst 1, 1) := by decide +kernel
theorem dX9_isStale_23 : decode cX9_isStale 23 = .ok (.goto 4, 3) := by decide +kernel
theorem dX9_isStale_26 : decode cX9_isStale 26 = .ok (.iconst 0, 1) := by decide +kernel
theorem dX9_isStale_27 : decode cX9_isStale 27 = .ok (.istore_n 3, 1) := by decide +kernel
theorem dX9_isStale_28 : decode cX9_isStale 28 = .ok (.iconst 0, 1) := by decide +kernel
theorem dX9_isStale_29 : decode cX9_isStale 29 = .ok (.istore 4, 2) := by decide +kernel
theorem dX9_isStale_31 : decode cX9_isStale 31 = .ok (.iload 4, 2) := by decide +kernel
theorem dX9_isStale_33 : decode cX9_isStale 33 = .ok (.aload_n 0, 1) := by decide +kernel
theorem dX9_isStale_34 : decode cX9_isStale 34 = .ok (.iload_n 1, 1) := by decide +kernel
theorem dX9_isStale_35 : decode cX9_isStale 35 = .ok (.invokestatic 59, 3) := by decide +kernel
theorem dX9_isStale_38 : decode cX9_isStale 38 = .ok (.if_icmp .ge 86, 3) := by decide +kernel
theorem dX9_isStale_41 : decode cX9_isStale 41 = .ok (.iload_n 3, 1) := by decide +kernel
theorem dX9_isStale_42 : decode cX9_isStale 42 = .ok (.ifCond .ne 82, 3) := by decide +kernel
theorem dX9_isStale_45 : decode cX9_isStale 45 = .ok (.iload_n 2, 1) := by decide +kernel
theorem dX9_isStale_46 : decode cX9_isStale 46 = .ok (.iconst 1, 1) := by decide +kernel
theorem dX9_isStale_47 : decode cX9_isStale 47 = .ok (.iadd, 1) := by decide +kernel
theorem dX9_isStale_48 : decode cX9_isStale 48 = .ok (.iconst 3, 1) := by decide +kernel
theorem dX9_isStale_49 : decode cX9_isStale 49 = .ok (.iload 4, 2) := by decide +kernel
theorem dX9_isStale_51 : decode cX9_isStale 51 = .ok (.imul, 1) := by decide +kernel
theorem dX9_isStale_52 : decode cX9_isStale 52 = .ok (.iadd, 1) := by decide +kernel
theorem dX9_isStale_53 : decode cX9_isStale 53 = .ok (.istore 5, 2) := by decide +kernel
theorem dX9_isStale_55 : decode cX9_isStale 55 = .ok (.aload_n 0, 1) := by decide +kernel
theorem dX9_isStale_56 : decode cX9_isStale 56 = .ok (.iload 5, 2) := by decide +kernel
theorem dX9_isStale_58 : decode cX9_isStale 58 = .ok (.iaload, 1) := by decide +kernel
theorem dX9_isStale_59 : decode cX9_isStale 59 = .ok (.aload_n 0, 1) := by decide +kernel
theorem dX9_isStale_60 : decode cX9_isStale 60 = .ok (.iload_n 1, 1) := by decide +kernel
theorem dX9_isStale_61 : decode cX9_isStale 61 = .ok (.iload 4, 2) := by decide +kernel
theorem dX9_isStale_63 : decode cX9_isStale 63 = .ok (.invokestatic 52, 3) := by decide +kernel
theorem dX9_isStale_66 : decode cX9_isStale 66 = .ok (.if_icmp .ne 46, 3) := by decide +kernel
theorem dX9_isStale_69 : decode cX9_isStale 69 = .ok (.aload_n 0, 1) := by decide +kernel
theorem dX9_isStale_70 : decode cX9_isStale 70 = .ok (.iload 5, 2) := by decide +kernel
theorem dX9_isStale_72 : decode cX9_isStale 72 = .ok (.iconst 1, 1) := by decide +kernel
theorem dX9_isStale_73 : decode cX9_isStale 73 = .ok (.iadd, 1) := by decide +kernel
theorem dX9_isStale_74 : decode cX9_isStale 74 = .ok (.iaload, 1) := by decide +kernel
theorem dX9_isStale_75 : decode cX9_isStale 75 = .ok (.aload_n 0, 1) := by decide +kernel
theorem dX9_isStale_76 : decode cX9_isStale 76 = .ok (.iload_n 1, 1) := by decide +kernel
theorem dX9_isStale_77 : decode cX9_isStale 77 = .ok (.iload 4, 2) := by decide +kernel
theorem dX9_isStale_79 : decode cX9_isStale 79 = .ok (.invokestatic 44, 3) := by decide +kernel
theorem dX9_isStale_82 : decode cX9_isStale 82 = .ok (.iconst 1, 1) := by decide +kernel
theorem dX9_isStale_83 : decode cX9_isStale 83 = .ok (.iadd, 1) := by decide +kernel
theorem dX9_isStale_84 : decode cX9_isStale 84 = .ok (.iaload, 1) := by decide +kernel
theorem dX9_isStale_85 : decode cX9_isStale 85 = .ok (.if_icmp .ne 27, 3) := by decide +kernel
theorem dX9_isStale_88 : decode cX9_isStale 88 = .ok (.aload_n 0, 1) := by decide +kernel
theorem dX9_isStale_89 : decode cX9_isStale 89 = .ok (.iload 5, 2) := by decide +kernel
theorem dX9_isStale_91 : decode cX9_isStale 91 = .ok (.iconst 2, 1) := by decide +kernel
theorem dX9_isStale_92 : decode cX9_isStale 92 = .ok (.iadd, 1) := by decide +kernel
theorem dX9_isStale_93 : decode cX9_isStale 93 = .ok (.iaload, 1) := by decide +kernel
theorem dX9_isStale_94 : decode cX9_isStale 94 = .ok (.aload_n 0, 1) := by decide +kernel
theorem dX9_isStale_95 : decode cX9_isStale 95 = .ok (.iload_n 1, 1) := by decide +kernel
theorem dX9_isStale_96 : decode cX9_isStale 96 = .ok (.iload 4, 2) := by decide +kernel
theorem dX9_isStale_98 : decode cX9_isStale 98 = .ok (.invokestatic 62, 3) := by decide +kernel
theorem dX9_isStale_101 : decode cX9_isStale 101 = .ok (.ifCond .eq 7, 3) := by decide +kernel
theorem dX9_isStale_104 : decode cX9_isStale 104 = .ok (.iconst 1, 1) := by decide +kernel
theorem dX9_isStale_105 : decode cX9_isStale 105 = .ok (.goto 4, 3) := by decide +kernel
theorem dX9_isStale_108 : decode cX9_isStale 108 = .ok (.iconst 0, 1) := by decide +kernel
theorem dX9_isStale_109 : decode cX9_isStale 109 = .ok (.if_icmp .eq 7, 3) := by decide +kernel
theorem dX9_isStale_112 : decode cX9_isStale 112 = .ok (.iconst 1, 1) := by decide +kernel
theorem dX9_isStale_113 : decode cX9_isStale 113 = .ok (.goto 4, 3) := by decide +kernel
theorem dX9_isStale_116 : decode cX9_isStale 116 = .ok (.iconst 0, 1) := by decide +kernel
theorem dX9_isStale_117 : decode cX9_isStale 117 = .ok (.istore_n 3, 1) := by decide +kernel
theorem dX9_isStale_118 : decode cX9_isStale 118 = .ok (.iinc 4 1, 3) := by decide +kernel
theorem dX9_isStale_121 : decode cX9_isStale 121 = .ok (.goto (-90), 3) := by decide +kernel
theorem dX9_isStale_124 : decode cX9_isStale 124 = .ok (.iload_n 3, 1) := by decide +kernel
theorem dX9_isStale_125 : decode cX9_isStale 125 = .ok (.ireturn, 1) := by decide +kernel
theorem dX9_stale_0 : decode cX9_stale 0 = .ok (.iconst 0, 1) := by decide +kernel
theorem dX9_stale_1 : decode cX9_stale 1 = .ok (.istore_n 1, 1) := by decide +kernel
theorem dX9_stale_2 : decode cX9_stale 2 = .ok (.iconst 0, 1) := by decide +kernel
theorem dX9_stale_3 : decode cX9_stale 3 = .ok (.istore_n 2, 1) := by decide +kernel
theorem dX9_stale_4 : decode cX9_stale 4 = .ok (.iload_n 2, 1) := by decide +kernel
theorem dX9_stale_5 : decode cX9_stale 5 = .ok (.bipush 12, 2) := by decide +kernel
theorem dX9_stale_7 : decode cX9_stale 7 = .ok (.if_icmp .ge 25, 3) := by decide +kernel
theorem dX9_stale_10 : decode cX9_stale 10 = .ok (.iload_n 1, 1) := by decide +kernel
theorem dX9_stale_11 : decode cX9_stale 11 = .ok (.aload_n 0, 1) := by decide +kernel
theorem dX9_stale_12 : decode cX9_stale 12 = .ok (.iload_n 2, 1) := by decide +kernel
theorem dX9_stale_13 : decode cX9_stale 13 = .ok (.invokestatic 69, 3) := by decide +kernel
theorem dX9_stale_16 : decode cX9_stale 16 = .ok (.ifCond .eq 7, 3) := by decide +kernel
theorem dX9_stale_19 : decode cX9_stale 19 = .ok (.iconst 1, 1) := by decide +kernel
theorem dX9_stale_20 : decode cX9_stale 20 = .ok (.goto 4, 3) := by decide +kernel
theorem dX9_stale_23 : decode cX9_stale 23 = .ok (.iconst 0, 1) := by decide +kernel
theorem dX9_stale_24 : decode cX9_stale 24 = .ok (.iadd, 1) := by decide +kernel
theorem dX9_stale_25 : decode cX9_stale 25 = .ok (.istore_n 1, 1) := by decide +kernel
theorem dX9_stale_26 : decode cX9_stale 26 = .ok (.iinc 2 1, 3) := by decide +kernel
theorem dX9_stale_29 : decode cX9_stale 29 = .ok (.goto (-25), 3) := by decide +kernel
theorem dX9_stale_32 : decode cX9_stale 32 = .ok (.iload_n 1, 1) := by decide +kernel
theorem dX9_stale_33 : decode cX9_stale 33 = .ok (.ireturn, 1) := by decide +kernel
theorem dX9_lies_0 : decode cX9_lies 0 = .ok (.iconst 0, 1) := by decide +kernel
theorem dX9_lies_1 : decode cX9_lies 1 = .ok (.istore_n 3, 1) := by decide +kernel
theorem dX9_lies_2 : decode cX9_lies 2 = .ok (.iconst 0, 1) := by decide +kernel
theorem dX9_lies_3 : decode cX9_lies 3 = .ok (.istore 4, 2) := by decide +kernel
theorem dX9_lies_5 : decode cX9_lies 5 = .ok (.aload_n 0, 1) := by decide +kernel
theorem dX9_lies_6 : decode cX9_lies 6 = .ok (.iconst 1, 1) := by decide +kernel
theorem dX9_lies_7 : decode cX9_lies 7 = .ok (.iaload, 1) := by decide +kernel
theorem dX9_lies_8 : decode cX9_lies 8 = .ok (.ifCond .ne 7, 3) := by decide +kernel
theorem dX9_lies_11 : decode cX9_lies 11 = .ok (.iconst 0, 1) := by decide +kernel
theorem dX9_lies_12 : decode cX9_lies 12 = .ok (.goto 8, 3) := by decide +kernel
theorem dX9_lies_15 : decode cX9_lies 15 = .ok (.aload_n 0, 1) := by decide +kernel
theorem dX9_lies_16 : decode cX9_lies 16 = .ok (.iconst 0, 1) := by decide +kernel
theorem dX9_lies_17 : decode cX9_lies 17 = .ok (.invokestatic 56, 3) := by decide +kernel
theorem dX9_lies_20 : decode cX9_lies 20 = .ok (.istore 5, 2) := by decide +kernel
theorem dX9_lies_22 : decode cX9_lies 22 = .ok (.iconst 0, 1) := by decide +kernel
theorem dX9_lies_23 : decode cX9_lies 23 = .ok (.istore 6, 2) := by decide +kernel
theorem dX9_lies_25 : decode cX9_lies 25 = .ok (.iconst 1, 1) := by decide +kernel
theorem dX9_lies_26 : decode cX9_lies 26 = .ok (.istore 7, 2) := by decide +kernel
theorem dX9_lies_28 : decode cX9_lies 28 = .ok (.iload 7, 2) := by decide +kernel
theorem dX9_lies_30 : decode cX9_lies 30 = .ok (.iload_n 1, 1) := by decide +kernel
theorem dX9_lies_31 : decode cX9_lies 31 = .ok (.if_icmp .gt 97, 3) := by decide +kernel
theorem dX9_lies_34 : decode cX9_lies 34 = .ok (.iload 5, 2) := by decide +kernel
theorem dX9_lies_36 : decode cX9_lies 36 = .ok (.aload_n 0, 1) := by decide +kernel
theorem dX9_lies_37 : decode cX9_lies 37 = .ok (.iload 7, 2) := by decide +kernel
theorem dX9_lies_39 : decode cX9_lies 39 = .ok (.invokestatic 56, 3) := by decide +kernel
theorem dX9_lies_42 : decode cX9_lies 42 = .ok (.iadd, 1) := by decide +kernel
theorem dX9_lies_43 : decode cX9_lies 43 = .ok (.aload_n 0, 1) := by decide +kernel
theorem dX9_lies_44 : decode cX9_lies 44 = .ok (.iconst 0, 1) := by decide +kernel
theorem dX9_lies_45 : decode cX9_lies 45 = .ok (.iaload, 1) := by decide +kernel
theorem dX9_lies_46 : decode cX9_lies 46 = .ok (.if_icmp .le 7, 3) := by decide +kernel
theorem dX9_lies_49 : decode cX9_lies 49 = .ok (.iconst 1, 1) := by decide +kernel
theorem dX9_lies_50 : decode cX9_lies 50 = .ok (.goto 4, 3) := by decide +kernel
theorem dX9_lies_53 : decode cX9_lies 53 = .ok (.iconst 0, 1) := by decide +kernel
theorem dX9_lies_54 : decode cX9_lies 54 = .ok (.istore 8, 2) := by decide +kernel
theorem dX9_lies_56 : decode cX9_lies 56 = .ok (.iload 6, 2) := by decide +kernel
theorem dX9_lies_58 : decode cX9_lies 58 = .ok (.aload_n 0, 1) := by decide +kernel
theorem dX9_lies_59 : decode cX9_lies 59 = .ok (.iload 7, 2) := by decide +kernel
theorem dX9_lies_61 : decode cX9_lies 61 = .ok (.iconst 1, 1) := by decide +kernel
theorem dX9_lies_62 : decode cX9_lies 62 = .ok (.isub, 1) := by decide +kernel
theorem dX9_lies_63 : decode cX9_lies 63 = .ok (.invokestatic 56, 3) := by decide +kernel
theorem dX9_lies_66 : decode cX9_lies 66 = .ok (.iadd, 1) := by decide +kernel
theorem dX9_lies_67 : decode cX9_lies 67 = .ok (.istore 6, 2) := by decide +kernel
theorem dX9_lies_69 : decode cX9_lies 69 = .ok (.iload_n 3, 1) := by decide +kernel
theorem dX9_lies_70 : decode cX9_lies 70 = .ok (.iload 8, 2) := by decide +kernel
theorem dX9_lies_72 : decode cX9_lies 72 = .ok (.ifCond .eq 7, 3) := by decide +kernel
theorem dX9_lies_75 : decode cX9_lies 75 = .ok (.iconst 1, 1) := by decide +kernel
theorem dX9_lies_76 : decode cX9_lies 76 = .ok (.goto 4, 3) := by decide +kernel
theorem dX9_lies_79 : decode cX9_lies 79 = .ok (.iconst 0, 1) := by decide +kernel
theorem dX9_lies_80 : decode cX9_lies 80 = .ok (.iadd, 1) := by decide +kernel
theorem dX9_lies_81 : decode cX9_lies 81 = .ok (.istore_n 3, 1) := by decide +kernel
theorem dX9_lies_82 : decode cX9_lies 82 = .ok (.iload 8, 2) := by decide +kernel
theorem dX9_lies_84 : decode cX9_lies 84 = .ok (.ifCond .eq 7, 3) := by decide +kernel
theorem dX9_lies_87 : decode cX9_lies 87 = .ok (.iconst 0, 1) := by decide +kernel
theorem dX9_lies_88 : decode cX9_lies 88 = .ok (.goto 7, 3) := by decide +kernel
theorem dX9_lies_91 : decode cX9_lies 91 = .ok (.iload 4, 2) := by decide +kernel
theorem dX9_lies_93 : decode cX9_lies 93 = .ok (.iconst 1, 1) := by decide +kernel
theorem dX9_lies_94 : decode cX9_lies 94 = .ok (.iadd, 1) := by decide +kernel
theorem dX9_lies_95 : decode cX9_lies 95 = .ok (.istore 4, 2) := by decide +kernel
theorem dX9_lies_97 : decode cX9_lies 97 = .ok (.iload 8, 2) := by decide +kernel
theorem dX9_lies_99 : decode cX9_lies 99 = .ok (.ifCond .eq 12, 3) := by decide +kernel
theorem dX9_lies_102 : decode cX9_lies 102 = .ok (.aload_n 0, 1) := by decide +kernel
theorem dX9_lies_103 : decode cX9_lies 103 = .ok (.iload 7, 2) := by decide +kernel
theorem dX9_lies_105 : decode cX9_lies 105 = .ok (.invokestatic 56, 3) := by decide +kernel
theorem dX9_lies_108 : decode cX9_lies 108 = .ok (.goto 12, 3) := by decide +kernel
theorem dX9_lies_111 : decode cX9_lies 111 = .ok (.iload 5, 2) := by decide +kernel
theorem dX9_lies_113 : decode cX9_lies 113 = .ok (.aload_n 0, 1) := by decide +kernel
theorem dX9_lies_114 : decode cX9_lies 114 = .ok (.iload 7, 2) := by decide +kernel
theorem dX9_lies_116 : decode cX9_lies 116 = .ok (.invokestatic 56, 3) := by decide +kernel
theorem dX9_lies_119 : decode cX9_lies 119 = .ok (.iadd, 1) := by decide +kernel
theorem dX9_lies_120 : decode cX9_lies 120 = .ok (.istore 5, 2) := by decide +kernel
theorem dX9_lies_122 : decode cX9_lies 122 = .ok (.iinc 7 1, 3) := by decide +kernel
theorem dX9_lies_125 : decode cX9_lies 125 = .ok (.goto (-97), 3) := by decide +kernel
theorem dX9_lies_128 : decode cX9_lies 128 = .ok (.iload_n 2, 1) := by decide +kernel
theorem dX9_lies_129 : decode cX9_lies 129 = .ok (.ifCond .ne 7, 3) := by decide +kernel
theorem dX9_lies_132 : decode cX9_lies 132 = .ok (.iload_n 3, 1) := by decide +kernel
theorem dX9_lies_133 : decode cX9_lies 133 = .ok (.goto 23, 3) := by decide +kernel
theorem dX9_lies_136 : decode cX9_lies 136 = .ok (.iload_n 2, 1) := by decide +kernel
theorem dX9_lies_137 : decode cX9_lies 137 = .ok (.iconst 1, 1) := by decide +kernel
theorem dX9_lies_138 : decode cX9_lies 138 = .ok (.if_icmp .ne 8, 3) := by decide +kernel
theorem dX9_lies_141 : decode cX9_lies 141 = .ok (.iload 4, 2) := by decide +kernel
theorem dX9_lies_143 : decode cX9_lies 143 = .ok (.goto 13, 3) := by decide +kernel
theorem dX9_lies_146 : decode cX9_lies 146 = .ok (.iload 6, 2) := by decide +kernel
theorem dX9_lies_148 : decode cX9_lies 148 = .ok (.iload_n 1, 1) := by decide +kernel
theorem dX9_lies_149 : decode cX9_lies 149 = .ok (.iadd, 1) := by decide +kernel
theorem dX9_lies_150 : decode cX9_lies 150 = .ok (.iconst 1, 1) := by decide +kernel
theorem dX9_lies_151 : decode cX9_lies 151 = .ok (.iadd, 1) := by decide +kernel
theorem dX9_lies_152 : decode cX9_lies 152 = .ok (.iconst 2, 1) := by decide +kernel
theorem dX9_lies_153 : decode cX9_lies 153 = .ok (.iload_n 3, 1) := by decide +kernel
theorem dX9_lies_154 : decode cX9_lies 154 = .ok (.imul, 1) := by decide +kernel
theorem dX9_lies_155 : decode cX9_lies 155 = .ok (.iadd, 1) := by decide +kernel
theorem dX9_lies_156 : decode cX9_lies 156 = .ok (.ireturn, 1) := by decide +kernel
theorem dX9_binders_0 : decode cX9_binders 0 = .ok (.aload_n 0, 1) := by decide +kernel
theorem dX9_binders_1 : decode cX9_binders 1 = .ok (.iconst 1, 1) := by decide +kernel
theorem dX9_binders_2 : decode cX9_binders 2 = .ok (.iaload, 1) := by decide +kernel
theorem dX9_binders_3 : decode cX9_binders 3 = .ok (.ifCond .ne 7, 3) := by decide +kernel
theorem dX9_binders_6 : decode cX9_binders 6 = .ok (.iconst 0, 1) := by decide +kernel
theorem dX9_binders_7 : decode cX9_binders 7 = .ok (.goto 15, 3) := by decide +kernel
theorem dX9_binders_10 : decode cX9_binders 10 = .ok (.aload_n 0, 1) := by decide +kernel
theorem dX9_binders_11 : decode cX9_binders 11 = .ok (.aload_n 0, 1) := by decide +kernel
theorem dX9_binders_12 : decode cX9_binders 12 = .ok (.iconst 1, 1) := by decide +kernel
theorem dX9_binders_13 : decode cX9_binders 13 = .ok (.iaload, 1) := by decide +kernel
theorem dX9_binders_14 : decode cX9_binders 14 = .ok (.iconst 1, 1) := by decide +kernel
theorem dX9_binders_15 : decode cX9_binders 15 = .ok (.isub, 1) := by decide +kernel
theorem dX9_binders_16 : decode cX9_binders 16 = .ok (.iconst 0, 1) := by decide +kernel
theorem dX9_binders_17 : decode cX9_binders 17 = .ok (.invokestatic 73, 3) := by decide +kernel
theorem dX9_binders_20 : decode cX9_binders 20 = .ok (.iconst 1, 1) := by decide +kernel
theorem dX9_binders_21 : decode cX9_binders 21 = .ok (.iadd, 1) := by decide +kernel
theorem dX9_binders_22 : decode cX9_binders 22 = .ok (.ireturn, 1) := by decide +kernel
theorem dX9_puts_0 : decode cX9_puts 0 = .ok (.iconst 3, 1) := by decide +kernel
theorem dX9_puts_1 : decode cX9_puts 1 = .ok (.iconst 2, 1) := by decide +kernel
theorem dX9_puts_2 : decode cX9_puts 2 = .ok (.aload_n 0, 1) := by decide +kernel
theorem dX9_puts_3 : decode cX9_puts 3 = .ok (.iconst 1, 1) := by decide +kernel
theorem dX9_puts_4 : decode cX9_puts 4 = .ok (.iaload, 1) := by decide +kernel
theorem dX9_puts_5 : decode cX9_puts 5 = .ok (.imul, 1) := by decide +kernel
theorem dX9_puts_6 : decode cX9_puts 6 = .ok (.iadd, 1) := by decide +kernel
theorem dX9_puts_7 : decode cX9_puts 7 = .ok (.iconst 1, 1) := by decide +kernel
theorem dX9_puts_8 : decode cX9_puts 8 = .ok (.isub, 1) := by decide +kernel
theorem dX9_puts_9 : decode cX9_puts 9 = .ok (.istore 4, 2) := by decide +kernel
theorem dX9_puts_11 : decode cX9_puts 11 = .ok (.iload 4, 2) := by decide +kernel
theorem dX9_puts_13 : decode cX9_puts 13 = .ok (.iconst 3, 1) := by decide +kernel
theorem dX9_puts_14 : decode cX9_puts 14 = .ok (.iconst 2, 1) := by decide +kernel
theorem dX9_puts_15 : decode cX9_puts 15 = .ok (.iload_n 1, 1) := by decide +kernel
theorem dX9_puts_16 : decode cX9_puts 16 = .ok (.imul, 1) := by decide +kernel
theorem dX9_puts_17 : decode cX9_puts 17 = .ok (.iadd, 1) := by decide +kernel
theorem dX9_puts_18 : decode cX9_puts 18 = .ok (.if_icmp .lt 19, 3) := by decide +kernel
theorem dX9_puts_21 : decode cX9_puts 21 = .ok (.aload_n 0, 1) := by decide +kernel
theorem dX9_puts_22 : decode cX9_puts 22 = .ok (.iload 4, 2) := by decide +kernel
theorem dX9_puts_24 : decode cX9_puts 24 = .ok (.iconst 2, 1) := by decide +kernel
theorem dX9_puts_25 : decode cX9_puts 25 = .ok (.iadd, 1) := by decide +kernel
theorem dX9_puts_26 : decode cX9_puts 26 = .ok (.aload_n 0, 1) := by decide +kernel
theorem dX9_puts_27 : decode cX9_puts 27 = .ok (.iload 4, 2) := by decide +kernel
theorem dX9_puts_29 : decode cX9_puts 29 = .ok (.iaload, 1) := by decide +kernel
theorem dX9_puts_30 : decode cX9_puts 30 = .ok (.iastore, 1) := by decide +kernel
theorem dX9_puts_31 : decode cX9_puts 31 = .ok (.iinc 4 (-1), 3) := by decide +kernel
theorem dX9_puts_34 : decode cX9_puts 34 = .ok (.goto (-23), 3) := by decide +kernel
theorem dX9_puts_37 : decode cX9_puts 37 = .ok (.aload_n 0, 1) := by decide +kernel
theorem dX9_puts_38 : decode cX9_puts 38 = .ok (.iconst 3, 1) := by decide +kernel
theorem dX9_puts_39 : decode cX9_puts 39 = .ok (.iconst 2, 1) := by decide +kernel
theorem dX9_puts_40 : decode cX9_puts 40 = .ok (.iload_n 1, 1) := by decide +kernel
theorem dX9_puts_41 : decode cX9_puts 41 = .ok (.imul, 1) := by decide +kernel
theorem dX9_puts_42 : decode cX9_puts 42 = .ok (.iadd, 1) := by decide +kernel
theorem dX9_puts_43 : decode cX9_puts 43 = .ok (.iload_n 2, 1) := by decide +kernel
theorem dX9_puts_44 : decode cX9_puts 44 = .ok (.iastore, 1) := by decide +kernel
theorem dX9_puts_45 : decode cX9_puts 45 = .ok (.aload_n 0, 1) := by decide +kernel
theorem dX9_puts_46 : decode cX9_puts 46 = .ok (.iconst 3, 1) := by decide +kernel
theorem dX9_puts_47 : decode cX9_puts 47 = .ok (.iconst 2, 1) := by decide +kernel
theorem dX9_puts_48 : decode cX9_puts 48 = .ok (.iload_n 1, 1) := by decide +kernel
theorem dX9_puts_49 : decode cX9_puts 49 = .ok (.imul, 1) := by decide +kernel
theorem dX9_puts_50 : decode cX9_puts 50 = .ok (.iadd, 1) := by decide +kernel
theorem dX9_puts_51 : decode cX9_puts 51 = .ok (.iconst 1, 1) := by decide +kernel
theorem dX9_puts_52 : decode cX9_puts 52 = .ok (.iadd, 1) := by decide +kernel
theorem dX9_puts_53 : decode cX9_puts 53 = .ok (.iload_n 3, 1) := by decide +kernel
theorem dX9_puts_54 : decode cX9_puts 54 = .ok (.iastore, 1) := by decide +kernel
theorem dX9_puts_55 : decode cX9_puts 55 = .ok (.aload_n 0, 1) := by decide +kernel
theorem dX9_puts_56 : decode cX9_puts 56 = .ok (.iconst 1, 1) := by decide +kernel
theorem dX9_puts_57 : decode cX9_puts 57 = .ok (.dup2, 1) := by decide +kernel
theorem dX9_puts_58 : decode cX9_puts 58 = .ok (.iaload, 1) := by decide +kernel
theorem dX9_puts_59 : decode cX9_puts 59 = .ok (.iconst 1, 1) := by decide +kernel
theorem dX9_puts_60 : decode cX9_puts 60 = .ok (.iadd, 1) := by decide +kernel
theorem dX9_puts_61 : decode cX9_puts 61 = .ok (.iastore, 1) := by decide +kernel
theorem dX9_puts_62 : decode cX9_puts 62 = .ok (.return_, 1) := by decide +kernel
theorem dX9_goesOut_0 : decode cX9_goesOut 0 = .ok (.aload_n 0, 1) := by decide +kernel
theorem dX9_goesOut_1 : decode cX9_goesOut 1 = .ok (.iconst 1, 1) := by decide +kernel
theorem dX9_goesOut_2 : decode cX9_goesOut 2 = .ok (.dup2, 1) := by decide +kernel
theorem dX9_goesOut_3 : decode cX9_goesOut 3 = .ok (.iaload, 1) := by decide +kernel
theorem dX9_goesOut_4 : decode cX9_goesOut 4 = .ok (.iconst 1, 1) := by decide +kernel
theorem dX9_goesOut_5 : decode cX9_goesOut 5 = .ok (.isub, 1) := by decide +kernel
theorem dX9_goesOut_6 : decode cX9_goesOut 6 = .ok (.iastore, 1) := by decide +kernel
theorem dX9_goesOut_7 : decode cX9_goesOut 7 = .ok (.iconst 3, 1) := by decide +kernel
theorem dX9_goesOut_8 : decode cX9_goesOut 8 = .ok (.iconst 2, 1) := by decide +kernel
theorem dX9_goesOut_9 : decode cX9_goesOut 9 = .ok (.iload_n 1, 1) := by decide +kernel
theorem dX9_goesOut_10 : decode cX9_goesOut 10 = .ok (.imul, 1) := by decide +kernel
theorem dX9_goesOut_11 : decode cX9_goesOut 11 = .ok (.iadd, 1) := by decide +kernel
theorem dX9_goesOut_12 : decode cX9_goesOut 12 = .ok (.istore_n 2, 1) := by decide +kernel
theorem dX9_goesOut_13 : decode cX9_goesOut 13 = .ok (.iload_n 2, 1) := by decide +kernel
theorem dX9_goesOut_14 : decode cX9_goesOut 14 = .ok (.iconst 3, 1) := by decide +kernel
theorem dX9_goesOut_15 : decode cX9_goesOut 15 = .ok (.iconst 2, 1) := by decide +kernel
theorem dX9_goesOut_16 : decode cX9_goesOut 16 = .ok (.aload_n 0, 1) := by decide +kernel
theorem dX9_goesOut_17 : decode cX9_goesOut 17 = .ok (.iconst 1, 1) := by decide +kernel
theorem dX9_goesOut_18 : decode cX9_goesOut 18 = .ok (.iaload, 1) := by decide +kernel
theorem dX9_goesOut_19 : decode cX9_goesOut 19 = .ok (.imul, 1) := by decide +kernel
theorem dX9_goesOut_20 : decode cX9_goesOut 20 = .ok (.iadd, 1) := by decide +kernel
theorem dX9_goesOut_21 : decode cX9_goesOut 21 = .ok (.if_icmp .ge 17, 3) := by decide +kernel
theorem dX9_goesOut_24 : decode cX9_goesOut 24 = .ok (.aload_n 0, 1) := by decide +kernel
theorem dX9_goesOut_25 : decode cX9_goesOut 25 = .ok (.iload_n 2, 1) := by decide +kernel
theorem dX9_goesOut_26 : decode cX9_goesOut 26 = .ok (.aload_n 0, 1) := by decide +kernel
theorem dX9_goesOut_27 : decode cX9_goesOut 27 = .ok (.iload_n 2, 1) := by decide +kernel
theorem dX9_goesOut_28 : decode cX9_goesOut 28 = .ok (.iconst 2, 1) := by decide +kernel
theorem dX9_goesOut_29 : decode cX9_goesOut 29 = .ok (.iadd, 1) := by decide +kernel
theorem dX9_goesOut_30 : decode cX9_goesOut 30 = .ok (.iaload, 1) := by decide +kernel
theorem dX9_goesOut_31 : decode cX9_goesOut 31 = .ok (.iastore, 1) := by decide +kernel
theorem dX9_goesOut_32 : decode cX9_goesOut 32 = .ok (.iinc 2 1, 3) := by decide +kernel
theorem dX9_goesOut_35 : decode cX9_goesOut 35 = .ok (.goto (-22), 3) := by decide +kernel
theorem dX9_goesOut_38 : decode cX9_goesOut 38 = .ok (.return_, 1) := by decide +kernel
theorem dX9_moves_0 : decode cX9_moves 0 = .ok (.aload_n 0, 1) := by decide +kernel
theorem dX9_moves_1 : decode cX9_moves 1 = .ok (.iload_n 1, 1) := by decide +kernel
theorem dX9_moves_2 : decode cX9_moves 2 = .ok (.invokestatic 76, 3) := by decide +kernel
theorem dX9_moves_5 : decode cX9_moves 5 = .ok (.istore_n 3, 1) := by decide +kernel
theorem dX9_moves_6 : decode cX9_moves 6 = .ok (.aload_n 0, 1) := by decide +kernel
theorem dX9_moves_7 : decode cX9_moves 7 = .ok (.iload_n 1, 1) := by decide +kernel
theorem dX9_moves_8 : decode cX9_moves 8 = .ok (.invokestatic 56, 3) := by decide +kernel
theorem dX9_moves_11 : decode cX9_moves 11 = .ok (.istore 4, 2) := by decide +kernel
theorem dX9_moves_13 : decode cX9_moves 13 = .ok (.aload_n 0, 1) := by decide +kernel
theorem dX9_moves_14 : decode cX9_moves 14 = .ok (.iload_n 1, 1) := by decide +kernel
theorem dX9_moves_15 : decode cX9_moves 15 = .ok (.invokestatic 79, 3) := by decide +kernel
theorem dX9_moves_18 : decode cX9_moves 18 = .ok (.aload_n 0, 1) := by decide +kernel
theorem dX9_moves_19 : decode cX9_moves 19 = .ok (.iload_n 2, 1) := by decide +kernel
theorem dX9_moves_20 : decode cX9_moves 20 = .ok (.iload_n 3, 1) := by decide +kernel
theorem dX9_moves_21 : decode cX9_moves 21 = .ok (.iload 4, 2) := by decide +kernel
theorem dX9_moves_23 : decode cX9_moves 23 = .ok (.invokestatic 83, 3) := by decide +kernel
theorem dX9_moves_26 : decode cX9_moves 26 = .ok (.iload_n 3, 1) := by decide +kernel
theorem dX9_moves_27 : decode cX9_moves 27 = .ok (.ireturn, 1) := by decide +kernel
theorem dX9_comes_0 : decode cX9_comes 0 = .ok (.aload_n 0, 1) := by decide +kernel
theorem dX9_comes_1 : decode cX9_comes 1 = .ok (.iload_n 1, 1) := by decide +kernel
