theorem dMD_meets_0 : decode cMD_meets 0 = .ok (.iload_n 1, 1) := by decide +kernel
theorem dMD_meets_1 : decode cMD_meets 1 = .ok (.iconst 1, 1) := by decide +kernel
theorem dMD_meets_2 : decode cMD_meets 2 = .ok (.isub, 1) := by decide +kernel
theorem dMD_meets_3 : decode cMD_meets 3 = .ok (.istore_n 3, 1) := by decide +kernel
theorem dMD_meets_4 : decode cMD_meets 4 = .ok (.iload_n 3, 1) := by decide +kernel
theorem dMD_meets_5 : decode cMD_meets 5 = .ok (.ifCond .lt 21, 3) := by decide +kernel
theorem dMD_meets_8 : decode cMD_meets 8 = .ok (.aload_n 0, 1) := by decide +kernel
theorem dMD_meets_9 : decode cMD_meets 9 = .ok (.iload_n 3, 1) := by decide +kernel
theorem dMD_meets_10 : decode cMD_meets 10 = .ok (.iload_n 1, 1) := by decide +kernel
theorem dMD_meets_11 : decode cMD_meets 11 = .ok (.iload_n 2, 1) := by decide +kernel
theorem dMD_meets_12 : decode cMD_meets 12 = .ok (.invokevirtual 130, 3) := by decide +kernel
theorem dMD_meets_15 : decode cMD_meets 15 = .ok (.ifCond .eq 5, 3) := by decide +kernel
theorem dMD_meets_18 : decode cMD_meets 18 = .ok (.iconst 1, 1) := by decide +kernel
theorem dMD_meets_19 : decode cMD_meets 19 = .ok (.ireturn, 1) := by decide +kernel
theorem dMD_meets_20 : decode cMD_meets 20 = .ok (.iinc 3 (-1), 3) := by decide +kernel
theorem dMD_meets_23 : decode cMD_meets 23 = .ok (.goto (-19), 3) := by decide +kernel
theorem dMD_meets_26 : decode cMD_meets 26 = .ok (.iconst 0, 1) := by decide +kernel
theorem dMD_meets_27 : decode cMD_meets 27 = .ok (.ireturn, 1) := by decide +kernel
theorem dMD_partnerOf_0 : decode cMD_partnerOf 0 = .ok (.iload_n 1, 1) := by decide +kernel
theorem dMD_partnerOf_1 : decode cMD_partnerOf 1 = .ok (.iconst 1, 1) := by decide +kernel
theorem dMD_partnerOf_2 : decode cMD_partnerOf 2 = .ok (.isub, 1) := by decide +kernel
theorem dMD_partnerOf_3 : decode cMD_partnerOf 3 = .ok (.istore_n 3, 1) := by decide +kernel
theorem dMD_partnerOf_4 : decode cMD_partnerOf 4 = .ok (.iload_n 3, 1) := by decide +kernel
theorem dMD_partnerOf_5 : decode cMD_partnerOf 5 = .ok (.ifCond .lt 40, 3) := by decide +kernel
theorem dMD_partnerOf_8 : decode cMD_partnerOf 8 = .ok (.aload_n 0, 1) := by decide +kernel
theorem dMD_partnerOf_9 : decode cMD_partnerOf 9 = .ok (.iload_n 3, 1) := by decide +kernel
theorem dMD_partnerOf_10 : decode cMD_partnerOf 10 = .ok (.invokevirtual 120, 3) := by decide +kernel
theorem dMD_partnerOf_13 : decode cMD_partnerOf 13 = .ok (.ifCond .eq 26, 3) := by decide +kernel
theorem dMD_partnerOf_16 : decode cMD_partnerOf 16 = .ok (.aload_n 0, 1) := by decide +kernel
theorem dMD_partnerOf_17 : decode cMD_partnerOf 17 = .ok (.iload_n 3, 1) := by decide +kernel
theorem dMD_partnerOf_18 : decode cMD_partnerOf 18 = .ok (.invokevirtual 124, 3) := by decide +kernel
theorem dMD_partnerOf_21 : decode cMD_partnerOf 21 = .ok (.ifCond .eq 18, 3) := by decide +kernel
theorem dMD_partnerOf_24 : decode cMD_partnerOf 24 = .ok (.aload_n 0, 1) := by decide +kernel
theorem dMD_partnerOf_25 : decode cMD_partnerOf 25 = .ok (.iload_n 3, 1) := by decide +kernel
theorem dMD_partnerOf_26 : decode cMD_partnerOf 26 = .ok (.iload_n 2, 1) := by decide +kernel
theorem dMD_partnerOf_27 : decode cMD_partnerOf 27 = .ok (.invokevirtual 109, 3) := by decide +kernel
theorem dMD_partnerOf_30 : decode cMD_partnerOf 30 = .ok (.aload_n 0, 1) := by decide +kernel
theorem dMD_partnerOf_31 : decode cMD_partnerOf 31 = .ok (.iload_n 1, 1) := by decide +kernel
theorem dMD_partnerOf_32 : decode cMD_partnerOf 32 = .ok (.iload_n 2, 1) := by decide +kernel
theorem dMD_partnerOf_33 : decode cMD_partnerOf 33 = .ok (.invokevirtual 109, 3) := by decide +kernel
theorem dMD_partnerOf_36 : decode cMD_partnerOf 36 = .ok (.if_icmp .eq 9, 3) := by decide +kernel
theorem dMD_partnerOf_39 : decode cMD_partnerOf 39 = .ok (.iinc 3 (-1), 3) := by decide +kernel
theorem dMD_partnerOf_42 : decode cMD_partnerOf 42 = .ok (.goto (-38), 3) := by decide +kernel
theorem dMD_partnerOf_45 : decode cMD_partnerOf 45 = .ok (.iload_n 3, 1) := by decide +kernel
theorem dMD_partnerOf_46 : decode cMD_partnerOf 46 = .ok (.ifCond .lt 29, 3) := by decide +kernel
theorem dMD_partnerOf_49 : decode cMD_partnerOf 49 = .ok (.aload_n 0, 1) := by decide +kernel
theorem dMD_partnerOf_50 : decode cMD_partnerOf 50 = .ok (.getfield 37, 3) := by decide +kernel
theorem dMD_partnerOf_53 : decode cMD_partnerOf 53 = .ok (.iload_n 3, 1) := by decide +kernel
theorem dMD_partnerOf_54 : decode cMD_partnerOf 54 = .ok (.iaload, 1) := by decide +kernel
theorem dMD_partnerOf_55 : decode cMD_partnerOf 55 = .ok (.aload_n 0, 1) := by decide +kernel
theorem dMD_partnerOf_56 : decode cMD_partnerOf 56 = .ok (.getfield 37, 3) := by decide +kernel
theorem dMD_partnerOf_59 : decode cMD_partnerOf 59 = .ok (.iload_n 1, 1) := by decide +kernel
theorem dMD_partnerOf_60 : decode cMD_partnerOf 60 = .ok (.iaload, 1) := by decide +kernel
theorem dMD_partnerOf_61 : decode cMD_partnerOf 61 = .ok (.if_icmp .eq 14, 3) := by decide +kernel
theorem dMD_partnerOf_64 : decode cMD_partnerOf 64 = .ok (.aload_n 0, 1) := by decide +kernel
theorem dMD_partnerOf_65 : decode cMD_partnerOf 65 = .ok (.iload_n 3, 1) := by decide +kernel
theorem dMD_partnerOf_66 : decode cMD_partnerOf 66 = .ok (.iload_n 1, 1) := by decide +kernel
theorem dMD_partnerOf_67 : decode cMD_partnerOf 67 = .ok (.invokevirtual 127, 3) := by decide +kernel
theorem dMD_partnerOf_70 : decode cMD_partnerOf 70 = .ok (.ifCond .ne 5, 3) := by decide +kernel
theorem dMD_partnerOf_73 : decode cMD_partnerOf 73 = .ok (.iload_n 3, 1) := by decide +kernel
theorem dMD_partnerOf_74 : decode cMD_partnerOf 74 = .ok (.ireturn, 1) := by decide +kernel
theorem dMD_partnerOf_75 : decode cMD_partnerOf 75 = .ok (.iload_n 1, 1) := by decide +kernel
theorem dMD_partnerOf_76 : decode cMD_partnerOf 76 = .ok (.iconst 1, 1) := by decide +kernel
theorem dMD_partnerOf_77 : decode cMD_partnerOf 77 = .ok (.isub, 1) := by decide +kernel
theorem dMD_partnerOf_78 : decode cMD_partnerOf 78 = .ok (.istore 4, 2) := by decide +kernel
theorem dMD_partnerOf_80 : decode cMD_partnerOf 80 = .ok (.iload 4, 2) := by decide +kernel
theorem dMD_partnerOf_82 : decode cMD_partnerOf 82 = .ok (.ifCond .lt 56, 3) := by decide +kernel
theorem dMD_partnerOf_85 : decode cMD_partnerOf 85 = .ok (.aload_n 0, 1) := by decide +kernel
theorem dMD_partnerOf_86 : decode cMD_partnerOf 86 = .ok (.iload 4, 2) := by decide +kernel
theorem dMD_partnerOf_88 : decode cMD_partnerOf 88 = .ok (.invokevirtual 120, 3) := by decide +kernel
theorem dMD_partnerOf_91 : decode cMD_partnerOf 91 = .ok (.ifCond .eq 41, 3) := by decide +kernel
theorem dMD_partnerOf_94 : decode cMD_partnerOf 94 = .ok (.aload_n 0, 1) := by decide +kernel
theorem dMD_partnerOf_95 : decode cMD_partnerOf 95 = .ok (.iload 4, 2) := by decide +kernel
theorem dMD_partnerOf_97 : decode cMD_partnerOf 97 = .ok (.invokevirtual 124, 3) := by decide +kernel
theorem dMD_partnerOf_100 : decode cMD_partnerOf 100 = .ok (.ifCond .ne 32, 3) := by decide +kernel
theorem dMD_partnerOf_103 : decode cMD_partnerOf 103 = .ok (.aload_n 0, 1) := by decide +kernel
theorem dMD_partnerOf_104 : decode cMD_partnerOf 104 = .ok (.iload 4, 2) := by decide +kernel
theorem dMD_partnerOf_106 : decode cMD_partnerOf 106 = .ok (.iload_n 2, 1) := by decide +kernel
theorem dMD_partnerOf_107 : decode cMD_partnerOf 107 = .ok (.invokevirtual 109, 3) := by decide +kernel
theorem dMD_partnerOf_110 : decode cMD_partnerOf 110 = .ok (.aload_n 0, 1) := by decide +kernel
theorem dMD_partnerOf_111 : decode cMD_partnerOf 111 = .ok (.iload_n 1, 1) := by decide +kernel
theorem dMD_partnerOf_112 : decode cMD_partnerOf 112 = .ok (.iload_n 2, 1) := by decide +kernel
theorem dMD_partnerOf_113 : decode cMD_partnerOf 113 = .ok (.invokevirtual 109, 3) := by decide +kernel
theorem dMD_partnerOf_116 : decode cMD_partnerOf 116 = .ok (.if_icmp .ne 16, 3) := by decide +kernel
theorem dMD_partnerOf_119 : decode cMD_partnerOf 119 = .ok (.aload_n 0, 1) := by decide +kernel
theorem dMD_partnerOf_120 : decode cMD_partnerOf 120 = .ok (.iload 4, 2) := by decide +kernel
theorem dMD_partnerOf_122 : decode cMD_partnerOf 122 = .ok (.iload_n 1, 1) := by decide +kernel
theorem dMD_partnerOf_123 : decode cMD_partnerOf 123 = .ok (.invokevirtual 127, 3) := by decide +kernel
theorem dMD_partnerOf_126 : decode cMD_partnerOf 126 = .ok (.ifCond .ne 6, 3) := by decide +kernel
theorem dMD_partnerOf_129 : decode cMD_partnerOf 129 = .ok (.iload 4, 2) := by decide +kernel
theorem dMD_partnerOf_131 : decode cMD_partnerOf 131 = .ok (.ireturn, 1) := by decide +kernel
theorem dMD_partnerOf_132 : decode cMD_partnerOf 132 = .ok (.iinc 4 (-1), 3) := by decide +kernel
theorem dMD_partnerOf_135 : decode cMD_partnerOf 135 = .ok (.goto (-55), 3) := by decide +kernel
theorem dMD_partnerOf_138 : decode cMD_partnerOf 138 = .ok (.iconst (-1), 1) := by decide +kernel
theorem dMD_partnerOf_139 : decode cMD_partnerOf 139 = .ok (.ireturn, 1) := by decide +kernel
theorem dMD_leads_0 : decode cMD_leads 0 = .ok (.aload_n 0, 1) := by decide +kernel
theorem dMD_leads_1 : decode cMD_leads 1 = .ok (.getfield 37, 3) := by decide +kernel
theorem dMD_leads_4 : decode cMD_leads 4 = .ok (.iload_n 1, 1) := by decide +kernel
theorem dMD_leads_5 : decode cMD_leads 5 = .ok (.iaload, 1) := by decide +kernel
theorem dMD_leads_6 : decode cMD_leads 6 = .ok (.aload_n 0, 1) := by decide +kernel
theorem dMD_leads_7 : decode cMD_leads 7 = .ok (.getfield 37, 3) := by decide +kernel
theorem dMD_leads_10 : decode cMD_leads 10 = .ok (.iload_n 2, 1) := by decide +kernel
theorem dMD_leads_11 : decode cMD_leads 11 = .ok (.iaload, 1) := by decide +kernel
theorem dMD_leads_12 : decode cMD_leads 12 = .ok (.if_icmp .ne 7, 3) := by decide +kernel
theorem dMD_leads_15 : decode cMD_leads 15 = .ok (.iconst 1, 1) := by decide +kernel
theorem dMD_leads_16 : decode cMD_leads 16 = .ok (.goto 4, 3) := by decide +kernel
theorem dMD_leads_19 : decode cMD_leads 19 = .ok (.iconst 0, 1) := by decide +kernel
theorem dMD_leads_20 : decode cMD_leads 20 = .ok (.istore_n 3, 1) := by decide +kernel
theorem dMD_leads_21 : decode cMD_leads 21 = .ok (.aload_n 0, 1) := by decide +kernel
theorem dMD_leads_22 : decode cMD_leads 22 = .ok (.getfield 40, 3) := by decide +kernel
theorem dMD_leads_25 : decode cMD_leads 25 = .ok (.iload_n 2, 1) := by decide +kernel
theorem dMD_leads_26 : decode cMD_leads 26 = .ok (.iaload, 1) := by decide +kernel
theorem dMD_leads_27 : decode cMD_leads 27 = .ok (.iconst 2, 1) := by decide +kernel
theorem dMD_leads_28 : decode cMD_leads 28 = .ok (.if_icmp .ne 50, 3) := by decide +kernel
theorem dMD_leads_31 : decode cMD_leads 31 = .ok (.aload_n 0, 1) := by decide +kernel
theorem dMD_leads_32 : decode cMD_leads 32 = .ok (.getfield 40, 3) := by decide +kernel
theorem dMD_leads_35 : decode cMD_leads 35 = .ok (.iload_n 1, 1) := by decide +kernel
theorem dMD_leads_36 : decode cMD_leads 36 = .ok (.iaload, 1) := by decide +kernel
theorem dMD_leads_37 : decode cMD_leads 37 = .ok (.iconst 3, 1) := by decide +kernel
theorem dMD_leads_38 : decode cMD_leads 38 = .ok (.if_icmp .ne 40, 3) := by decide +kernel
theorem dMD_leads_41 : decode cMD_leads 41 = .ok (.aload_n 0, 1) := by decide +kernel
theorem dMD_leads_42 : decode cMD_leads 42 = .ok (.getfield 43, 3) := by decide +kernel
theorem dMD_leads_45 : decode cMD_leads 45 = .ok (.iload_n 1, 1) := by decide +kernel
theorem dMD_leads_46 : decode cMD_leads 46 = .ok (.iaload, 1) := by decide +kernel
theorem dMD_leads_47 : decode cMD_leads 47 = .ok (.aload_n 0, 1) := by decide +kernel
theorem dMD_leads_48 : decode cMD_leads 48 = .ok (.getfield 43, 3) := by decide +kernel
theorem dMD_leads_51 : decode cMD_leads 51 = .ok (.iload_n 2, 1) := by decide +kernel
theorem dMD_leads_52 : decode cMD_leads 52 = .ok (.iaload, 1) := by decide +kernel
theorem dMD_leads_53 : decode cMD_leads 53 = .ok (.if_icmp .ne 25, 3) := by decide +kernel
theorem dMD_leads_56 : decode cMD_leads 56 = .ok (.aload_n 0, 1) := by decide +kernel
theorem dMD_leads_57 : decode cMD_leads 57 = .ok (.getfield 46, 3) := by decide +kernel
theorem dMD_leads_60 : decode cMD_leads 60 = .ok (.iload_n 1, 1) := by decide +kernel
theorem dMD_leads_61 : decode cMD_leads 61 = .ok (.baload, 1) := by decide +kernel
theorem dMD_leads_62 : decode cMD_leads 62 = .ok (.ifCond .eq 16, 3) := by decide +kernel
theorem dMD_leads_65 : decode cMD_leads 65 = .ok (.aload_n 0, 1) := by decide +kernel
theorem dMD_leads_66 : decode cMD_leads 66 = .ok (.getfield 46, 3) := by decide +kernel
theorem dMD_leads_69 : decode cMD_leads 69 = .ok (.iload_n 2, 1) := by decide +kernel
theorem dMD_leads_70 : decode cMD_leads 70 = .ok (.baload, 1) := by decide +kernel
theorem dMD_leads_71 : decode cMD_leads 71 = .ok (.ifCond .eq 7, 3) := by decide +kernel
theorem dMD_leads_74 : decode cMD_leads 74 = .ok (.iconst 1, 1) := by decide +kernel
theorem dMD_leads_75 : decode cMD_leads 75 = .ok (.goto 4, 3) := by decide +kernel
theorem dMD_leads_78 : decode cMD_leads 78 = .ok (.iconst 0, 1) := by decide +kernel
theorem dMD_leads_79 : decode cMD_leads 79 = .ok (.istore 4, 2) := by decide +kernel
theorem dMD_leads_81 : decode cMD_leads 81 = .ok (.aload_n 0, 1) := by decide +kernel
theorem dMD_leads_82 : decode cMD_leads 82 = .ok (.getfield 40, 3) := by decide +kernel
theorem dMD_leads_85 : decode cMD_leads 85 = .ok (.iload_n 2, 1) := by decide +kernel
theorem dMD_leads_86 : decode cMD_leads 86 = .ok (.iaload, 1) := by decide +kernel
theorem dMD_leads_87 : decode cMD_leads 87 = .ok (.iconst 4, 1) := by decide +kernel
theorem dMD_leads_88 : decode cMD_leads 88 = .ok (.if_icmp .ne 32, 3) := by decide +kernel
theorem dMD_leads_91 : decode cMD_leads 91 = .ok (.aload_n 0, 1) := by decide +kernel
theorem dMD_leads_92 : decode cMD_leads 92 = .ok (.getfield 40, 3) := by decide +kernel
theorem dMD_leads_95 : decode cMD_leads 95 = .ok (.iload_n 1, 1) := by decide +kernel
theorem dMD_leads_96 : decode cMD_leads 96 = .ok (.iaload, 1) := by decide +kernel
theorem dMD_leads_97 : decode cMD_leads 97 = .ok (.iconst 5, 1) := by decide +kernel
theorem dMD_leads_98 : decode cMD_leads 98 = .ok (.if_icmp .ne 22, 3) := by decide +kernel
theorem dMD_leads_101 : decode cMD_leads 101 = .ok (.aload_n 0, 1) := by decide +kernel
theorem dMD_leads_102 : decode cMD_leads 102 = .ok (.getfield 43, 3) := by decide +kernel
theorem dMD_leads_105 : decode cMD_leads 105 = .ok (.iload_n 1, 1) := by decide +kernel
theorem dMD_leads_106 : decode cMD_leads 106 = .ok (.iaload, 1) := by decide +kernel
theorem dMD_leads_107 : decode cMD_leads 107 = .ok (.aload_n 0, 1) := by decide +kernel
theorem dMD_leads_108 : decode cMD_leads 108 = .ok (.getfield 43, 3) := by decide +kernel
theorem dMD_leads_111 : decode cMD_leads 111 = .ok (.iload_n 2, 1) := by decide +kernel
theorem dMD_leads_112 : decode cMD_leads 112 = .ok (.iaload, 1) := by decide +kernel
theorem dMD_leads_113 : decode cMD_leads 113 = .ok (.if_icmp .ne 7, 3) := by decide +kernel
theorem dMD_leads_116 : decode cMD_leads 116 = .ok (.iconst 1, 1) := by decide +kernel
theorem dMD_leads_117 : decode cMD_leads 117 = .ok (.goto 4, 3) := by decide +kernel
theorem dMD_leads_120 : decode cMD_leads 120 = .ok (.iconst 0, 1) := by decide +kernel
theorem dMD_leads_121 : decode cMD_leads 121 = .ok (.istore 5, 2) := by decide +kernel
theorem dMD_leads_123 : decode cMD_leads 123 = .ok (.aload_n 0, 1) := by decide +kernel
theorem dMD_leads_124 : decode cMD_leads 124 = .ok (.getfield 40, 3) := by decide +kernel
theorem dMD_leads_127 : decode cMD_leads 127 = .ok (.iload_n 1, 1) := by decide +kernel
theorem dMD_leads_128 : decode cMD_leads 128 = .ok (.iaload, 1) := by decide +kernel
theorem dMD_leads_129 : decode cMD_leads 129 = .ok (.bipush 6, 2) := by decide +kernel
theorem dMD_leads_131 : decode cMD_leads 131 = .ok (.if_icmp .ne 22, 3) := by decide +kernel
theorem dMD_leads_134 : decode cMD_leads 134 = .ok (.aload_n 0, 1) := by decide +kernel
theorem dMD_leads_135 : decode cMD_leads 135 = .ok (.getfield 43, 3) := by decide +kernel
theorem dMD_leads_138 : decode cMD_leads 138 = .ok (.iload_n 1, 1) := by decide +kernel
theorem dMD_leads_139 : decode cMD_leads 139 = .ok (.iaload, 1) := by decide +kernel
theorem dMD_leads_140 : decode cMD_leads 140 = .ok (.aload_n 0, 1) := by decide +kernel
theorem dMD_leads_141 : decode cMD_leads 141 = .ok (.getfield 37, 3) := by decide +kernel
theorem dMD_leads_144 : decode cMD_leads 144 = .ok (.iload_n 2, 1) := by decide +kernel
theorem dMD_leads_145 : decode cMD_leads 145 = .ok (.iaload, 1) := by decide +kernel
theorem dMD_leads_146 : decode cMD_leads 146 = .ok (.if_icmp .ne 7, 3) := by decide +kernel
theorem dMD_leads_149 : decode cMD_leads 149 = .ok (.iconst 1, 1) := by decide +kernel
theorem dMD_leads_150 : decode cMD_leads 150 = .ok (.goto 4, 3) := by decide +kernel
theorem dMD_leads_153 : decode cMD_leads 153 = .ok (.iconst 0, 1) := by decide +kernel
theorem dMD_leads_154 : decode cMD_leads 154 = .ok (.istore 6, 2) := by decide +kernel
theorem dMD_leads_156 : decode cMD_leads 156 = .ok (.aload_n 0, 1) := by decide +kernel
theorem dMD_leads_157 : decode cMD_leads 157 = .ok (.getfield 40, 3) := by decide +kernel
theorem dMD_leads_160 : decode cMD_leads 160 = .ok (.iload_n 2, 1) := by decide +kernel
theorem dMD_leads_161 : decode cMD_leads 161 = .ok (.iaload, 1) := by decide +kernel
theorem dMD_leads_162 : decode cMD_leads 162 = .ok (.bipush 7, 2) := by decide +kernel
theorem dMD_leads_164 : decode cMD_leads 164 = .ok (.if_icmp .ne 48, 3) := by decide +kernel
theorem dMD_leads_167 : decode cMD_leads 167 = .ok (.aload_n 0, 1) := by decide +kernel
theorem dMD_leads_168 : decode cMD_leads 168 = .ok (.getfield 43, 3) := by decide +kernel
theorem dMD_leads_171 : decode cMD_leads 171 = .ok (.iload_n 2, 1) := by decide +kernel
theorem dMD_leads_172 : decode cMD_leads 172 = .ok (.iaload, 1) := by decide +kernel
theorem dMD_leads_173 : decode cMD_leads 173 = .ok (.aload_n 0, 1) := by decide +kernel
theorem dMD_leads_174 : decode cMD_leads 174 = .ok (.getfield 37, 3) := by decide +kernel
theorem dMD_leads_177 : decode cMD_leads 177 = .ok (.iload_n 1, 1) := by decide +kernel
theorem dMD_leads_178 : decode cMD_leads 178 = .ok (.iaload, 1) := by decide +kernel
theorem dMD_leads_179 : decode cMD_leads 179 = .ok (.if_icmp .eq 29, 3) := by decide +kernel
theorem dMD_leads_182 : decode cMD_leads 182 = .ok (.aload_n 0, 1) := by decide +kernel
theorem dMD_leads_183 : decode cMD_leads 183 = .ok (.getfield 40, 3) := by decide +kernel
theorem dMD_leads_186 : decode cMD_leads 186 = .ok (.iload_n 1, 1) := by decide +kernel
theorem dMD_leads_187 : decode cMD_leads 187 = .ok (.iaload, 1) := by decide +kernel
theorem dMD_leads_188 : decode cMD_leads 188 = .ok (.bipush 6, 2) := by decide +kernel
theorem dMD_leads_190 : decode cMD_leads 190 = .ok (.if_icmp .ne 22, 3) := by decide +kernel
theorem dMD_leads_193 : decode cMD_leads 193 = .ok (.aload_n 0, 1) := by decide +kernel
theorem dMD_leads_194 : decode cMD_leads 194 = .ok (.getfield 43, 3) := by decide +kernel
theorem dMD_leads_197 : decode cMD_leads 197 = .ok (.iload_n 1, 1) := by decide +kernel
theorem dMD_leads_198 : decode cMD_leads 198 = .ok (.iaload, 1) := by decide +kernel
theorem dMD_leads_199 : decode cMD_leads 199 = .ok (.aload_n 0, 1) := by decide +kernel
theorem dMD_leads_200 : decode cMD_leads 200 = .ok (.getfield 43, 3) := by decide +kernel
theorem dMD_leads_203 : decode cMD_leads 203 = .ok (.iload_n 2, 1) := by decide +kernel
theorem dMD_leads_204 : decode cMD_leads 204 = .ok (.iaload, 1) := by decide +kernel
theorem dMD_leads_205 : decode cMD_leads 205 = .ok (.if_icmp .ne 7, 3) := by decide +kernel
theorem dMD_leads_208 : decode cMD_leads 208 = .ok (.iconst 1, 1) := by decide +kernel
theorem dMD_leads_209 : decode cMD_leads 209 = .ok (.goto 4, 3) := by decide +kernel
theorem dMD_leads_212 : decode cMD_leads 212 = .ok (.iconst 0, 1) := by decide +kernel
theorem dMD_leads_213 : decode cMD_leads 213 = .ok (.istore 7, 2) := by decide +kernel
theorem dMD_leads_215 : decode cMD_leads 215 = .ok (.iload_n 3, 1) := by decide +kernel
theorem dMD_leads_216 : decode cMD_leads 216 = .ok (.ifCond .ne 23, 3) := by decide +kernel
theorem dMD_leads_219 : decode cMD_leads 219 = .ok (.iload 4, 2) := by decide +kernel
theorem dMD_leads_221 : decode cMD_leads 221 = .ok (.ifCond .ne 18, 3) := by decide +kernel
theorem dMD_leads_224 : decode cMD_leads 224 = .ok (.iload 5, 2) := by decide +kernel
theorem dMD_leads_226 : decode cMD_leads 226 = .ok (.ifCond .ne 13, 3) := by decide +kernel
theorem dMD_leads_229 : decode cMD_leads 229 = .ok (.iload 6, 2) := by decide +kernel
theorem dMD_leads_231 : decode cMD_leads 231 = .ok (.ifCond .ne 8, 3) := by decide +kernel
theorem dMD_leads_234 : decode cMD_leads 234 = .ok (.iload 7, 2) := by decide +kernel
theorem dMD_leads_236 : decode cMD_leads 236 = .ok (.ifCond .eq 7, 3) := by decide +kernel
theorem dMD_leads_239 : decode cMD_leads 239 = .ok (.iconst 1, 1) := by decide +kernel
theorem dMD_leads_240 : decode cMD_leads 240 = .ok (.goto 4, 3) := by decide +kernel
theorem dMD_leads_243 : decode cMD_leads 243 = .ok (.iconst 0, 1) := by decide +kernel
theorem dMD_leads_244 : decode cMD_leads 244 = .ok (.ireturn, 1) := by decide +kernel
set_option maxHeartbeats 4000000 in
set_option maxRecDepth 100000 in
theorem g_MD_meets (l : Launch) (D : va_G) (tc : Nat → ClassId) (ad : Nat → Nat) (E : Nat → va_E) (th st ic : Int32) (cn : Nat) (A : Nat → Nat → Int32) (J : Nat → Int64) (e1 : Nat) (cb : Int32) (hM : isMD tc ad E th st ic (nI cn) A J) (he : e1 < 200) : Ct l D tc yMD_meets 2 17 ad E [.ref (ad 0), .int (nI e1), .int cb] (fun o E2 => ∃ r : Int32, o = .returned (some (.int r)) ∧ E2 = E ∧ True) := by
  refine Ct.ofW (cc := cMD_meets) (maxL := 4) (ret := (some .boolean)) (own := R_MD) (by decide) rfl w_599 (Nat.le_of_ble_eq_true rfl) ?_
  intro p e s m args below meth c ls X hlk hr hD hP hS hl
  have hx := X.1
  have hb := X.2.1
  have hl : lv_has ls 4 [(0, .ref (ad 0)), (1, .int (nI e1)), (2, .int cb)] := hl
  have hM0 := hM
  obtain ⟨m0, m1, m2, m3, m4, m5, m6, m7, m8, m9, m10, m11, m12, m13, m14, m15, m16⟩ := hM
  refine lv_iload_n hx hb dMD_meets_0 rfl (lv_at hl 1 rfl) ?_
  refine lv_iconst (v := 1) hx hb dMD_meets_1 (by decide) ?_
  refine lv_isub hx hb dMD_meets_2 ?_
  refine lv_istore_n hx hb dMD_meets_3 rfl hl (by decide) rfl (fun ls hl => ?_)
  have hl : lv_has ls 4 [(3, .int ((nI e1) - 1)), (0, .ref (ad 0)), (1, .int (nI e1)), (2, .int cb)] := hl
  have loop : ∀ (r : Nat) (x : Int32) (H : Heap) (locs : List Loc) (ls : Array Slot), r ≤ e1 → x + 1 = nI r → va_D (Aw 17 ad) (wW 17 ad E) → va_P D vwCl (wW 17 ad E) H → va_S (Aw 17 ad) s.heap H locs → lv_has ls 4 [(3, .int x), (0, .ref (ad 0)), (1, .int (nI e1)), (2, .int cb)] → W p l e (rmD 2) s m args below meth c H locs 0 0 (XQ below (CtQ D 17 ad (fun o E2 => ∃ r : Int32, o = .returned (some (.int r)) ∧ E2 = E ∧ True)) args s 0 0 (Aw 17 ad)) (F0 m 4 ls []) := by
    intro r
    induction r with
    | zero =>
      intro x H locs ls hr9 hx9 hD hP hS hl
      refine lv_iload_n hx hb dMD_meets_4 rfl (lv_at hl 0 rfl) ?_
      refine lv_if_lt (tgt := 26) hx hb dMD_meets_5 rfl (fun h5 => ?_) (fun h5 => absurd (dnx hx9) h5)
      refine lv_iconst (v := 0) hx hb dMD_meets_26 (by decide) ?_
      exact q_zret X hlk hr (by decide) hP hS dMD_meets_27 (⟨_, rfl, rfl, trivial⟩)
    | succ r ih =>
      intro x H locs ls hr9 hx9 hD hP hS hl
      have hxr := dn1 hx9
      subst hxr
      have hr8 : r < 200 := by omega
      refine lv_iload_n hx hb dMD_meets_4 rfl (lv_at hl 0 rfl) ?_
      refine lv_if_lt (tgt := 26) hx hb dMD_meets_5 rfl (fun h5 => absurd h5 (nI_pos (by omega))) (fun h5 => ?_)
      refine lv_aload_n hx hb dMD_meets_8 rfl (lv_at hl 1 rfl) ?_
      refine lv_iload_n hx hb dMD_meets_9 rfl (lv_at hl 0 rfl) ?_
      refine lv_iload_n hx hb dMD_meets_10 rfl (lv_at hl 2 rfl) ?_
      refine lv_iload_n hx hb dMD_meets_11 rfl (lv_at hl 3 rfl) ?_
      refine x_iX (f := fun k => 0 + k) (x_runV (C := R_MD) (As := [.int (nI r), .int (nI e1), .int cb]) (rest := []) X (g_MD_raceWith l D tc (fun k => ad (0 + k)) (fun k => E (0 + k)) th st ic cn A J r e1 cb (by simpa only [Nat.zero_add] using hM0) hr8 he) rfl rfl (by decide) (by decide) w_603 w_9 w_600 w_602 sel_MD_raceWith ry_MD_raceWith (x_recv X hP (by omega) (m0) rfl) (ct_pre X hP hD (fr_lt 17 17 0 (by omega)) (fr_inj 17 0)) ct_blind hl.1 (Nat.le_of_ble_eq_true rfl) dMD_meets_12 ⟨Nat.zero_le _, Nat.zero_le _⟩) hD hP hS (fr_lt 17 17 0 (by omega)) (fr_inj 17 0) (fun y H locs hy hD hP hS => ?_)
      refine lv_if_eq (tgt := 20) hx hb dMD_meets_15 rfl (fun h15 => ?_) (fun h15 => ?_)
      · refine lv_iinc (k := 0) (v := nI r + (-1)) hx hb dMD_meets_20 hl rfl (rfl) (by decide) rfl (fun ls hl => ?_)
        have hl : lv_has ls 4 [(3, .int (nI r + (-1))), (0, .ref (ad 0)), (1, .int (nI e1)), (2, .int cb)] := hl
        refine lv_goto (tgt := 4) hx hb dMD_meets_23 rfl ?_
        exact ih _ _ _ _ (by omega) (dn2 r) hD hP hS hl
      · refine lv_iconst (v := 1) hx hb dMD_meets_18 (by decide) ?_
        exact q_zret X hlk hr (by decide) hP hS dMD_meets_19 (⟨_, rfl, rfl, trivial⟩)
  exact loop e1 _ _ _ _ (Nat.le_refl _) (dn0 e1) hD hP hS hl
set_option maxHeartbeats 4000000 in
set_option maxRecDepth 100000 in
theorem g_MD_partnerOf (l : Launch) (D : va_G) (tc : Nat → ClassId) (ad : Nat → Nat) (E : Nat → va_E) (th st ic : Int32) (cn : Nat) (A : Nat → Nat → Int32) (J : Nat → Int64) (e1 : Nat) (cb : Int32) (hM : isMD tc ad E th st ic (nI cn) A J) (he : e1 < 200) : Ct l D tc yMD_partnerOf 1 17 ad E [.ref (ad 0), .int (nI e1), .int cb] (fun o E2 => ∃ r : Int32, o = .returned (some (.int r)) ∧ E2 = E ∧ True) := by
  refine Ct.ofW (cc := cMD_partnerOf) (maxL := 5) (ret := (some .int)) (own := R_MD) (by decide) rfl w_619 (Nat.le_of_ble_eq_true rfl) ?_
  intro p e s m args below meth c ls X hlk hr hD hP hS hl
  have hx := X.1
  have hb := X.2.1
  have hl : lv_has ls 5 [(0, .ref (ad 0)), (1, .int (nI e1)), (2, .int cb)] := hl
  have hM0 := hM
  obtain ⟨m0, m1, m2, m3, m4, m5, m6, m7, m8, m9, m10, m11, m12, m13, m14, m15, m16⟩ := hM
  refine lv_iload_n hx hb dMD_partnerOf_0 rfl (lv_at hl 1 rfl) ?_
  refine lv_iconst (v := 1) hx hb dMD_partnerOf_1 (by decide) ?_
  refine lv_isub hx hb dMD_partnerOf_2 ?_
  refine lv_istore_n hx hb dMD_partnerOf_3 rfl hl (by decide) rfl (fun ls hl => ?_)
  have hl : lv_has ls 5 [(3, .int ((nI e1) - 1)), (0, .ref (ad 0)), (1, .int (nI e1)), (2, .int cb)] := hl
  have two : ∀ x3 : Int32, ∀ (r : Nat) (x : Int32) (H : Heap) (locs : List Loc) (ls : Array Slot), r ≤ e1 → x + 1 = nI r → va_D (Aw 17 ad) (wW 17 ad E) → va_P D vwCl (wW 17 ad E) H → va_S (Aw 17 ad) s.heap H locs → lv_has ls 5 [(4, .int x), (3, .int x3), (0, .ref (ad 0)), (1, .int (nI e1)), (2, .int cb)] → W p l e (rmD 1) s m args below meth c H locs 0 0 (XQ below (CtQ D 17 ad (fun o E2 => ∃ r : Int32, o = .returned (some (.int r)) ∧ E2 = E ∧ True)) args s 0 0 (Aw 17 ad)) (F0 m 80 ls []) := by
    intro x3
    have loop2 : ∀ (r : Nat) (x : Int32) (H : Heap) (locs : List Loc) (ls : Array Slot), r ≤ e1 → x + 1 = nI r → va_D (Aw 17 ad) (wW 17 ad E) → va_P D vwCl (wW 17 ad E) H → va_S (Aw 17 ad) s.heap H locs → lv_has ls 5 [(4, .int x), (3, .int x3), (0, .ref (ad 0)), (1, .int (nI e1)), (2, .int cb)] → W p l e (rmD 1) s m args below meth c H locs 0 0 (XQ below (CtQ D 17 ad (fun o E2 => ∃ r : Int32, o = .returned (some (.int r)) ∧ E2 = E ∧ True)) args s 0 0 (Aw 17 ad)) (F0 m 80 ls []) := by
      intro r
      induction r with
      | zero =>
        intro x H locs ls hr9 hx9 hD hP hS hl
        refine lv_iload hx hb dMD_partnerOf_80 (lv_at hl 0 rfl) ?_
        refine lv_if_lt (tgt := 138) hx hb dMD_partnerOf_82 rfl (fun h82 => ?_) (fun h82 => absurd (dnx hx9) h82)
        refine lv_iconst (v := (-1)) hx hb dMD_partnerOf_138 (by decide) ?_
        exact q_iret X hlk hr hP hS dMD_partnerOf_139 (⟨_, rfl, rfl, trivial⟩)
      | succ r ih =>
        intro x H locs ls hr9 hx9 hD hP hS hl
        have hxr := dn1 hx9
        subst hxr
        have hr8 : r < 200 := by omega
        refine lv_iload hx hb dMD_partnerOf_80 (lv_at hl 0 rfl) ?_
        refine lv_if_lt (tgt := 138) hx hb dMD_partnerOf_82 rfl (fun h82 => absurd h82 (nI_pos (by omega))) (fun h82 => ?_)
        refine lv_aload_n hx hb dMD_partnerOf_85 rfl (lv_at hl 2 rfl) ?_
        refine lv_iload hx hb dMD_partnerOf_86 (lv_at hl 0 rfl) ?_
        refine x_iX (f := fun k => 0 + k) (x_runV (C := R_MD) (As := [.int (nI r)]) (rest := []) X (g_MD_isAccess l D tc (fun k => ad (0 + k)) (fun k => E (0 + k)) th st ic cn A J r (by simpa only [Nat.zero_add] using hM0) hr8) rfl rfl (by decide) (by decide) w_607 w_9 w_604 w_606 sel_MD_isAccess ry_MD_isAccess (x_recv X hP (by omega) (m0) rfl) (ct_pre X hP hD (fr_lt 17 17 0 (by omega)) (fr_inj 17 0)) ct_blind hl.1 (Nat.le_of_ble_eq_true rfl) dMD_partnerOf_88 ⟨Nat.zero_le _, Nat.zero_le _⟩) hD hP hS (fr_lt 17 17 0 (by omega)) (fr_inj 17 0) (fun y1 H locs hy1 hD hP hS => ?_)
        refine lv_if_eq (tgt := 132) hx hb dMD_partnerOf_91 rfl (fun h91 => ?_) (fun h91 => ?_)
        · refine lv_iinc (k := 0) (v := nI r + (-1)) hx hb dMD_partnerOf_132 hl rfl (rfl) (by decide) rfl (fun ls hl => ?_)
          have hl : lv_has ls 5 [(4, .int (nI r + (-1))), (3, .int x3), (0, .ref (ad 0)), (1, .int (nI e1)), (2, .int cb)] := hl
          refine lv_goto (tgt := 80) hx hb dMD_partnerOf_135 rfl ?_
          exact ih _ _ _ _ (by omega) (dn2 r) hD hP hS hl
        · refine lv_aload_n hx hb dMD_partnerOf_94 rfl (lv_at hl 2 rfl) ?_
          refine lv_iload hx hb dMD_partnerOf_95 (lv_at hl 0 rfl) ?_
          refine x_iX (f := fun k => 0 + k) (x_runV (C := R_MD) (As := [.int (nI r)]) (rest := []) X (g_MD_isWrite l D tc (fun k => ad (0 + k)) (fun k => E (0 + k)) th st ic cn A J r (by simpa only [Nat.zero_add] using hM0) hr8) rfl rfl (by decide) (by decide) w_611 w_9 w_608 w_610 sel_MD_isWrite ry_MD_isWrite (x_recv X hP (by omega) (m0) rfl) (ct_pre X hP hD (fr_lt 17 17 0 (by omega)) (fr_inj 17 0)) ct_blind hl.1 (Nat.le_of_ble_eq_true rfl) dMD_partnerOf_97 ⟨Nat.zero_le _, Nat.zero_le _⟩) hD hP hS (fr_lt 17 17 0 (by omega)) (fr_inj 17 0) (fun y2 H locs hy2 hD hP hS => ?_)
          refine lv_if_ne (tgt := 132) hx hb dMD_partnerOf_100 rfl (fun h100 => ?_) (fun h100 => ?_)
          · refine lv_iinc (k := 0) (v := nI r + (-1)) hx hb dMD_partnerOf_132 hl rfl (rfl) (by decide) rfl (fun ls hl => ?_)
            have hl : lv_has ls 5 [(4, .int (nI r + (-1))), (3, .int x3), (0, .ref (ad 0)), (1, .int (nI e1)), (2, .int cb)] := hl
            refine lv_goto (tgt := 80) hx hb dMD_partnerOf_135 rfl ?_
            exact ih _ _ _ _ (by omega) (dn2 r) hD hP hS hl
          · refine lv_aload_n hx hb dMD_partnerOf_103 rfl (lv_at hl 2 rfl) ?_
            refine lv_iload hx hb dMD_partnerOf_104 (lv_at hl 0 rfl) ?_
            refine lv_iload_n hx hb dMD_partnerOf_106 rfl (lv_at hl 4 rfl) ?_
            refine x_iX (f := fun k => 0 + k) (x_runV (C := R_MD) (As := [.int (nI r), .int cb]) (rest := []) X (g_MD_spot l D tc (fun k => ad (0 + k)) (fun k => E (0 + k)) th st ic cn A J r cb (by simpa only [Nat.zero_add] using hM0) hr8) rfl rfl (by decide) (by decide) w_595 w_9 w_592 w_594 sel_MD_spot ry_MD_spot (x_recv X hP (by omega) (m0) rfl) (ct_pre X hP hD (fr_lt 17 17 0 (by omega)) (fr_inj 17 0)) ct_blind hl.1 (Nat.le_of_ble_eq_true rfl) dMD_partnerOf_107 ⟨Nat.zero_le _, Nat.zero_le _⟩) hD hP hS (fr_lt 17 17 0 (by omega)) (fr_inj 17 0) (fun y3 H locs hy3 hD hP hS => ?_)
            refine lv_aload_n hx hb dMD_partnerOf_110 rfl (lv_at hl 2 rfl) ?_
            refine lv_iload_n hx hb dMD_partnerOf_111 rfl (lv_at hl 3 rfl) ?_
            refine lv_iload_n hx hb dMD_partnerOf_112 rfl (lv_at hl 4 rfl) ?_
            refine x_iX (f := fun k => 0 + k) (x_runV (C := R_MD) (As := [.int (nI e1), .int cb]) (rest := [.int y3]) X (g_MD_spot l D tc (fun k => ad (0 + k)) (fun k => E (0 + k)) th st ic cn A J e1 cb (by simpa only [Nat.zero_add] using hM0) he) rfl rfl (by decide) (by decide) w_595 w_9 w_592 w_594 sel_MD_spot ry_MD_spot (x_recv X hP (by omega) (m0) rfl) (ct_pre X hP hD (fr_lt 17 17 0 (by omega)) (fr_inj 17 0)) ct_blind hl.1 (Nat.le_of_ble_eq_true rfl) dMD_partnerOf_113 ⟨Nat.zero_le _, Nat.zero_le _⟩) hD hP hS (fr_lt 17 17 0 (by omega)) (fr_inj 17 0) (fun y4 H locs hy4 hD hP hS => ?_)
            refine lv_icmp_ne (tgt := 132) hx hb dMD_partnerOf_116 rfl (fun h116 => ?_) (fun h116 => ?_)
            · refine lv_iinc (k := 0) (v := nI r + (-1)) hx hb dMD_partnerOf_132 hl rfl (rfl) (by decide) rfl (fun ls hl => ?_)
              have hl : lv_has ls 5 [(4, .int (nI r + (-1))), (3, .int x3), (0, .ref (ad 0)), (1, .int (nI e1)), (2, .int cb)] := hl
              refine lv_goto (tgt := 80) hx hb dMD_partnerOf_135 rfl ?_
              exact ih _ _ _ _ (by omega) (dn2 r) hD hP hS hl
            · refine lv_aload_n hx hb dMD_partnerOf_119 rfl (lv_at hl 2 rfl) ?_
              refine lv_iload hx hb dMD_partnerOf_120 (lv_at hl 0 rfl) ?_
              refine lv_iload_n hx hb dMD_partnerOf_122 rfl (lv_at hl 3 rfl) ?_
              refine x_iX (f := fun k => 0 + k) (x_runV (C := R_MD) (As := [.int (nI r), .int (nI e1)]) (rest := []) X (g_MD_isBefore l D tc (fun k => ad (0 + k)) (fun k => E (0 + k)) th st ic cn A J r e1 (by simpa only [Nat.zero_add] using hM0) hr8 he) rfl rfl (by decide) (by decide) w_615 w_9 w_612 w_614 sel_MD_isBefore ry_MD_isBefore (x_recv X hP (by omega) (m0) rfl) (ct_pre X hP hD (fr_lt 17 17 0 (by omega)) (fr_inj 17 0)) ct_blind hl.1 (Nat.le_of_ble_eq_true rfl) dMD_partnerOf_123 ⟨Nat.zero_le _, Nat.zero_le _⟩) hD hP hS (fr_lt 17 17 0 (by omega)) (fr_inj 17 0) (fun y5 H locs hy5 hD hP hS => ?_)
              refine lv_if_ne (tgt := 132) hx hb dMD_partnerOf_126 rfl (fun h126 => ?_) (fun h126 => ?_)
              · refine lv_iinc (k := 0) (v := nI r + (-1)) hx hb dMD_partnerOf_132 hl rfl (rfl) (by decide) rfl (fun ls hl => ?_)
                have hl : lv_has ls 5 [(4, .int (nI r + (-1))), (3, .int x3), (0, .ref (ad 0)), (1, .int (nI e1)), (2, .int cb)] := hl
                refine lv_goto (tgt := 80) hx hb dMD_partnerOf_135 rfl ?_
                exact ih _ _ _ _ (by omega) (dn2 r) hD hP hS hl
              · refine lv_iload hx hb dMD_partnerOf_129 (lv_at hl 0 rfl) ?_
                exact q_iret X hlk hr hP hS dMD_partnerOf_131 (⟨_, rfl, rfl, trivial⟩)
    exact loop2
  have mid : ∀ (r : Nat) (x : Int32) (H : Heap) (locs : List Loc) (ls : Array Slot), r ≤ e1 → x + 1 = nI r → va_D (Aw 17 ad) (wW 17 ad E) → va_P D vwCl (wW 17 ad E) H → va_S (Aw 17 ad) s.heap H locs → lv_has ls 5 [(3, .int x), (0, .ref (ad 0)), (1, .int (nI e1)), (2, .int cb)] → W p l e (rmD 1) s m args below meth c H locs 0 0 (XQ below (CtQ D 17 ad (fun o E2 => ∃ r : Int32, o = .returned (some (.int r)) ∧ E2 = E ∧ True)) args s 0 0 (Aw 17 ad)) (F0 m 45 ls []) := by
    intro r x H locs ls hr9 hx9 hD hP hS hl
    rcases r with _ | r
    · refine lv_iload_n hx hb dMD_partnerOf_45 rfl (lv_at hl 0 rfl) ?_
      refine lv_if_lt (tgt := 75) hx hb dMD_partnerOf_46 rfl (fun h46 => ?_) (fun h46 => absurd (dnx hx9) h46)
      refine lv_iload_n hx hb dMD_partnerOf_75 rfl (lv_at hl 2 rfl) ?_
      refine lv_iconst (v := 1) hx hb dMD_partnerOf_76 (by decide) ?_
      refine lv_isub hx hb dMD_partnerOf_77 ?_
      refine lv_istore hx hb dMD_partnerOf_78 hl (by decide) rfl (fun ls hl => ?_)
      have hl : lv_has ls 5 [(4, .int ((nI e1) - 1)), (3, .int x), (0, .ref (ad 0)), (1, .int (nI e1)), (2, .int cb)] := hl
      exact two x e1 _ _ _ _ (Nat.le_refl _) (dn0 e1) hD hP hS hl
    · have hxr := dn1 hx9
      subst hxr
      have hr8 : r < 200 := by omega
      refine lv_iload_n hx hb dMD_partnerOf_45 rfl (lv_at hl 0 rfl) ?_
      refine lv_if_lt (tgt := 75) hx hb dMD_partnerOf_46 rfl (fun h46 => absurd h46 (nI_pos (by omega))) (fun h46 => ?_)
      refine lv_aload_n hx hb dMD_partnerOf_49 rfl (lv_at hl 1 rfl) ?_
      refine g_MD_37 X hP (by omega) (m0) rfl dMD_partnerOf_50 ?_
      refine lv_iload_n hx hb dMD_partnerOf_53 rfl (lv_at hl 0 rfl) ?_
      refine q_iald r X hP (by omega) (m10) (rfl) (by omega) (by decide) dMD_partnerOf_54 ?_
      refine lv_aload_n hx hb dMD_partnerOf_55 rfl (lv_at hl 1 rfl) ?_
      refine g_MD_37 X hP (by omega) (m0) rfl dMD_partnerOf_56 ?_
      refine lv_iload_n hx hb dMD_partnerOf_59 rfl (lv_at hl 2 rfl) ?_
      refine q_iald e1 X hP (by omega) (m10) (rfl) (by omega) (by decide) dMD_partnerOf_60 ?_
      refine lv_icmp_eq (tgt := 75) hx hb dMD_partnerOf_61 rfl (fun h61 => ?_) (fun h61 => ?_)
      · refine lv_iload_n hx hb dMD_partnerOf_75 rfl (lv_at hl 2 rfl) ?_
        refine lv_iconst (v := 1) hx hb dMD_partnerOf_76 (by decide) ?_
        refine lv_isub hx hb dMD_partnerOf_77 ?_
        refine lv_istore hx hb dMD_partnerOf_78 hl (by decide) rfl (fun ls hl => ?_)
        have hl : lv_has ls 5 [(4, .int ((nI e1) - 1)), (3, .int (nI r)), (0, .ref (ad 0)), (1, .int (nI e1)), (2, .int cb)] := hl
        exact two (nI r) e1 _ _ _ _ (Nat.le_refl _) (dn0 e1) hD hP hS hl
      · refine lv_aload_n hx hb dMD_partnerOf_64 rfl (lv_at hl 1 rfl) ?_
        refine lv_iload_n hx hb dMD_partnerOf_65 rfl (lv_at hl 0 rfl) ?_
        refine lv_iload_n hx hb dMD_partnerOf_66 rfl (lv_at hl 2 rfl) ?_
        refine x_iX (f := fun k => 0 + k) (x_runV (C := R_MD) (As := [.int (nI r), .int (nI e1)]) (rest := []) X (g_MD_isBefore l D tc (fun k => ad (0 + k)) (fun k => E (0 + k)) th st ic cn A J r e1 (by simpa only [Nat.zero_add] using hM0) hr8 he) rfl rfl (by decide) (by decide) w_615 w_9 w_612 w_614 sel_MD_isBefore ry_MD_isBefore (x_recv X hP (by omega) (m0) rfl) (ct_pre X hP hD (fr_lt 17 17 0 (by omega)) (fr_inj 17 0)) ct_blind hl.1 (Nat.le_of_ble_eq_true rfl) dMD_partnerOf_67 ⟨Nat.zero_le _, Nat.zero_le _⟩) hD hP hS (fr_lt 17 17 0 (by omega)) (fr_inj 17 0) (fun y5 H locs hy5 hD hP hS => ?_)
        refine lv_if_ne (tgt := 75) hx hb dMD_partnerOf_70 rfl (fun h70 => ?_) (fun h70 => ?_)
        · refine lv_iload_n hx hb dMD_partnerOf_75 rfl (lv_at hl 2 rfl) ?_
          refine lv_iconst (v := 1) hx hb dMD_partnerOf_76 (by decide) ?_
          refine lv_isub hx hb dMD_partnerOf_77 ?_
          refine lv_istore hx hb dMD_partnerOf_78 hl (by decide) rfl (fun ls hl => ?_)
          have hl : lv_has ls 5 [(4, .int ((nI e1) - 1)), (3, .int (nI r)), (0, .ref (ad 0)), (1, .int (nI e1)), (2, .int cb)] := hl
          exact two (nI r) e1 _ _ _ _ (Nat.le_refl _) (dn0 e1) hD hP hS hl
        · refine lv_iload_n hx hb dMD_partnerOf_73 rfl (lv_at hl 0 rfl) ?_
          exact q_iret X hlk hr hP hS dMD_partnerOf_74 (⟨_, rfl, rfl, trivial⟩)
  have loop : ∀ (r : Nat) (x : Int32) (H : Heap) (locs : List Loc) (ls : Array Slot), r ≤ e1 → x + 1 = nI r → va_D (Aw 17 ad) (wW 17 ad E) → va_P D vwCl (wW 17 ad E) H → va_S (Aw 17 ad) s.heap H locs → lv_has ls 5 [(3, .int x), (0, .ref (ad 0)), (1, .int (nI e1)), (2, .int cb)] → W p l e (rmD 1) s m args below meth c H locs 0 0 (XQ below (CtQ D 17 ad (fun o E2 => ∃ r : Int32, o = .returned (some (.int r)) ∧ E2 = E ∧ True)) args s 0 0 (Aw 17 ad)) (F0 m 4 ls []) := by
    intro r
    induction r with
    | zero =>
      intro x H locs ls hr9 hx9 hD hP hS hl
      refine lv_iload_n hx hb dMD_partnerOf_4 rfl (lv_at hl 0 rfl) ?_
      refine lv_if_lt (tgt := 45) hx hb dMD_partnerOf_5 rfl (fun h5 => ?_) (fun h5 => absurd (dnx hx9) h5)
      exact mid 0 _ _ _ _ (by omega) hx9 hD hP hS hl
    | succ r ih =>
      intro x H locs ls hr9 hx9 hD hP hS hl
      have hxr := dn1 hx9
      subst hxr
      have hr8 : r < 200 := by omega
      refine lv_iload_n hx hb dMD_partnerOf_4 rfl (lv_at hl 0 rfl) ?_
      refine lv_if_lt (tgt := 45) hx hb dMD_partnerOf_5 rfl (fun h5 => absurd h5 (nI_pos (by omega))) (fun h5 => ?_)
      refine lv_aload_n hx hb dMD_partnerOf_8 rfl (lv_at hl 1 rfl) ?_
      refine lv_iload_n hx hb dMD_partnerOf_9 rfl (lv_at hl 0 rfl) ?_
      refine x_iX (f := fun k => 0 + k) (x_runV (C := R_MD) (As := [.int (nI r)]) (rest := []) X (g_MD_isAccess l D tc (fun k => ad (0 + k)) (fun k => E (0 + k)) th st ic cn A J r (by simpa only [Nat.zero_add] using hM0) hr8) rfl rfl (by decide) (by decide) w_607 w_9 w_604 w_606 sel_MD_isAccess ry_MD_isAccess (x_recv X hP (by omega) (m0) rfl) (ct_pre X hP hD (fr_lt 17 17 0 (by omega)) (fr_inj 17 0)) ct_blind hl.1 (Nat.le_of_ble_eq_true rfl) dMD_partnerOf_10 ⟨Nat.zero_le _, Nat.zero_le _⟩) hD hP hS (fr_lt 17 17 0 (by omega)) (fr_inj 17 0) (fun y1 H locs hy1 hD hP hS => ?_)
      refine lv_if_eq (tgt := 39) hx hb dMD_partnerOf_13 rfl (fun h13 => ?_) (fun h13 => ?_)
      · refine lv_iinc (k := 0) (v := nI r + (-1)) hx hb dMD_partnerOf_39 hl rfl (rfl) (by decide) rfl (fun ls hl => ?_)
        have hl : lv_has ls 5 [(3, .int (nI r + (-1))), (0, .ref (ad 0)), (1, .int (nI e1)), (2, .int cb)] := hl
        refine lv_goto (tgt := 4) hx hb dMD_partnerOf_42 rfl ?_
        exact ih _ _ _ _ (by omega) (dn2 r) hD hP hS hl
      · refine lv_aload_n hx hb dMD_partnerOf_16 rfl (lv_at hl 1 rfl) ?_
        refine lv_iload_n hx hb dMD_partnerOf_17 rfl (lv_at hl 0 rfl) ?_
        refine x_iX (f := fun k => 0 + k) (x_runV (C := R_MD) (As := [.int (nI r)]) (rest := []) X (g_MD_isWrite l D tc (fun k => ad (0 + k)) (fun k => E (0 + k)) th st ic cn A J r (by simpa only [Nat.zero_add] using hM0) hr8) rfl rfl (by decide) (by decide) w_611 w_9 w_608 w_610 sel_MD_isWrite ry_MD_isWrite (x_recv X hP (by omega) (m0) rfl) (ct_pre X hP hD (fr_lt 17 17 0 (by omega)) (fr_inj 17 0)) ct_blind hl.1 (Nat.le_of_ble_eq_true rfl) dMD_partnerOf_18 ⟨Nat.zero_le _, Nat.zero_le _⟩) hD hP hS (fr_lt 17 17 0 (by omega)) (fr_inj 17 0) (fun y2 H locs hy2 hD hP hS => ?_)
        refine lv_if_eq (tgt := 39) hx hb dMD_partnerOf_21 rfl (fun h21 => ?_) (fun h21 => ?_)
        · refine lv_iinc (k := 0) (v := nI r + (-1)) hx hb dMD_partnerOf_39 hl rfl (rfl) (by decide) rfl (fun ls hl => ?_)
          have hl : lv_has ls 5 [(3, .int (nI r + (-1))), (0, .ref (ad 0)), (1, .int (nI e1)), (2, .int cb)] := hl
          refine lv_goto (tgt := 4) hx hb dMD_partnerOf_42 rfl ?_
          exact ih _ _ _ _ (by omega) (dn2 r) hD hP hS hl
        · refine lv_aload_n hx hb dMD_partnerOf_24 rfl (lv_at hl 1 rfl) ?_
          refine lv_iload_n hx hb dMD_partnerOf_25 rfl (lv_at hl 0 rfl) ?_
          refine lv_iload_n hx hb dMD_partnerOf_26 rfl (lv_at hl 3 rfl) ?_
          refine x_iX (f := fun k => 0 + k) (x_runV (C := R_MD) (As := [.int (nI r), .int cb]) (rest := []) X (g_MD_spot l D tc (fun k => ad (0 + k)) (fun k => E (0 + k)) th st ic cn A J r cb (by simpa only [Nat.zero_add] using hM0) hr8) rfl rfl (by decide) (by decide) w_595 w_9 w_592 w_594 sel_MD_spot ry_MD_spot (x_recv X hP (by omega) (m0) rfl) (ct_pre X hP hD (fr_lt 17 17 0 (by omega)) (fr_inj 17 0)) ct_blind hl.1 (Nat.le_of_ble_eq_true rfl) dMD_partnerOf_27 ⟨Nat.zero_le _, Nat.zero_le _⟩) hD hP hS (fr_lt 17 17 0 (by omega)) (fr_inj 17 0) (fun y3 H locs hy3 hD hP hS => ?_)
          refine lv_aload_n hx hb dMD_partnerOf_30 rfl (lv_at hl 1 rfl) ?_
          refine lv_iload_n hx hb dMD_partnerOf_31 rfl (lv_at hl 2 rfl) ?_
          refine lv_iload_n hx hb dMD_partnerOf_32 rfl (lv_at hl 3 rfl) ?_
          refine x_iX (f := fun k => 0 + k) (x_runV (C := R_MD) (As := [.int (nI e1), .int cb]) (rest := [.int y3]) X (g_MD_spot l D tc (fun k => ad (0 + k)) (fun k => E (0 + k)) th st ic cn A J e1 cb (by simpa only [Nat.zero_add] using hM0) he) rfl rfl (by decide) (by decide) w_595 w_9 w_592 w_594 sel_MD_spot ry_MD_spot (x_recv X hP (by omega) (m0) rfl) (ct_pre X hP hD (fr_lt 17 17 0 (by omega)) (fr_inj 17 0)) ct_blind hl.1 (Nat.le_of_ble_eq_true rfl) dMD_partnerOf_33 ⟨Nat.zero_le _, Nat.zero_le _⟩) hD hP hS (fr_lt 17 17 0 (by omega)) (fr_inj 17 0) (fun y4 H locs hy4 hD hP hS => ?_)
          refine lv_icmp_eq (tgt := 45) hx hb dMD_partnerOf_36 rfl (fun h36 => ?_) (fun h36 => ?_)
          · exact mid (r + 1) _ _ _ _ (by omega) (nI_1 r) hD hP hS hl
          · refine lv_iinc (k := 0) (v := nI r + (-1)) hx hb dMD_partnerOf_39 hl rfl (rfl) (by decide) rfl (fun ls hl => ?_)
            have hl : lv_has ls 5 [(3, .int (nI r + (-1))), (0, .ref (ad 0)), (1, .int (nI e1)), (2, .int cb)] := hl
            refine lv_goto (tgt := 4) hx hb dMD_partnerOf_42 rfl ?_
            exact ih _ _ _ _ (by omega) (dn2 r) hD hP hS hl
  exact loop e1 _ _ _ _ (Nat.le_refl _) (dn0 e1) hD hP hS hl
set_option maxHeartbeats 4000000 in
set_option maxRecDepth 100000 in
theorem g_MD_leads (l : Launch) (D : va_G) (tc : Nat → ClassId) (ad : Nat → Nat) (E : Nat → va_E) (th st ic : Int32) (cn : Nat) (A : Nat → Nat → Int32) (J : Nat → Int64) (i j : Nat) (hM : isMD tc ad E th st ic (nI cn) A J) (hi : i < 200) (hj : j < 200) : Ct l D tc yMD_leads 0 17 ad E [.ref (ad 0), .int (nI i), .int (nI j)] (fun o E2 => ∃ r : Int32, o = .returned (some (.int r)) ∧ E2 = E ∧ True) := by
  refine Ct.ofW (cc := cMD_leads) (maxL := 8) (ret := (some .boolean)) (own := R_MD) (by decide) rfl w_587 (Nat.le_of_ble_eq_true rfl) ?_
  intro p e s m args below meth c ls X hlk hr hD hP hS hl
  have hx := X.1
  have hb := X.2.1
  have hl : lv_has ls 8 [(0, .ref (ad 0)), (1, .int (nI i)), (2, .int (nI j))] := hl
  have hM0 := hM
  obtain ⟨m0, m1, m2, m3, m4, m5, m6, m7, m8, m9, m10, m11, m12, m13, m14, m15, m16⟩ := hM
  have J213 : ∀ (v v3 v4 v5 v6 : Int32) (ls : Array Slot), lv_has ls 8 [(6, .int v6), (5, .int v5), (4, .int v4), (3, .int v3), (0, .ref (ad 0)), (1, .int (nI i)), (2, .int (nI j))] → W p l e (rmD 0) s m args below meth c s.heap [] 0 0 (XQ below (CtQ D 17 ad (fun o E2 => ∃ r : Int32, o = .returned (some (.int r)) ∧ E2 = E ∧ True)) args s 0 0 (Aw 17 ad)) (F0 m 213 ls [.int v]) := by
    intro v v3 v4 v5 v6 ls hl
    refine lv_istore hx hb dMD_leads_213 hl (by decide) rfl (fun ls hl => ?_)
    have hl : lv_has ls 8 [(7, .int v), (6, .int v6), (5, .int v5), (4, .int v4), (3, .int v3), (0, .ref (ad 0)), (1, .int (nI i)), (2, .int (nI j))] := hl
    refine lv_iload_n hx hb dMD_leads_215 rfl (lv_at hl 4 rfl) ?_
    refine lv_if_ne (tgt := 239) hx hb dMD_leads_216 rfl (fun h216 => ?_) (fun h216 => ?_)
    · refine lv_iconst (v := 1) hx hb dMD_leads_239 (by decide) ?_
      refine lv_goto (tgt := 244) hx hb dMD_leads_240 rfl ?_
      exact q_zret X hlk hr (by decide) hP hS dMD_leads_244 (⟨_, rfl, rfl, trivial⟩)
    · refine lv_iload hx hb dMD_leads_219 (lv_at hl 3 rfl) ?_
      refine lv_if_ne (tgt := 239) hx hb dMD_leads_221 rfl (fun h221 => ?_) (fun h221 => ?_)
      · refine lv_iconst (v := 1) hx hb dMD_leads_239 (by decide) ?_
        refine lv_goto (tgt := 244) hx hb dMD_leads_240 rfl ?_
        exact q_zret X hlk hr (by decide) hP hS dMD_leads_244 (⟨_, rfl, rfl, trivial⟩)
      · refine lv_iload hx hb dMD_leads_224 (lv_at hl 2 rfl) ?_
        refine lv_if_ne (tgt := 239) hx hb dMD_leads_226 rfl (fun h226 => ?_) (fun h226 => ?_)
        · refine lv_iconst (v := 1) hx hb dMD_leads_239 (by decide) ?_
          refine lv_goto (tgt := 244) hx hb dMD_leads_240 rfl ?_
          exact q_zret X hlk hr (by decide) hP hS dMD_leads_244 (⟨_, rfl, rfl, trivial⟩)
        · refine lv_iload hx hb dMD_leads_229 (lv_at hl 1 rfl) ?_
          refine lv_if_ne (tgt := 239) hx hb dMD_leads_231 rfl (fun h231 => ?_) (fun h231 => ?_)
          · refine lv_iconst (v := 1) hx hb dMD_leads_239 (by decide) ?_
            refine lv_goto (tgt := 244) hx hb dMD_leads_240 rfl ?_
            exact q_zret X hlk hr (by decide) hP hS dMD_leads_244 (⟨_, rfl, rfl, trivial⟩)
          · refine lv_iload hx hb dMD_leads_234 (lv_at hl 0 rfl) ?_
            refine lv_if_eq (tgt := 243) hx hb dMD_leads_236 rfl (fun h236 => ?_) (fun h236 => ?_)
            · refine lv_iconst (v := 0) hx hb dMD_leads_243 (by decide) ?_
              exact q_zret X hlk hr (by decide) hP hS dMD_leads_244 (⟨_, rfl, rfl, trivial⟩)
            · refine lv_iconst (v := 1) hx hb dMD_leads_239 (by decide) ?_
              refine lv_goto (tgt := 244) hx hb dMD_leads_240 rfl ?_
              exact q_zret X hlk hr (by decide) hP hS dMD_leads_244 (⟨_, rfl, rfl, trivial⟩)
  have J154 : ∀ (v v3 v4 v5 : Int32) (ls : Array Slot), lv_has ls 8 [(5, .int v5), (4, .int v4), (3, .int v3), (0, .ref (ad 0)), (1, .int (nI i)), (2, .int (nI j))] → W p l e (rmD 0) s m args below meth c s.heap [] 0 0 (XQ below (CtQ D 17 ad (fun o E2 => ∃ r : Int32, o = .returned (some (.int r)) ∧ E2 = E ∧ True)) args s 0 0 (Aw 17 ad)) (F0 m 154 ls [.int v]) := by
    intro v v3 v4 v5 ls hl
    refine lv_istore hx hb dMD_leads_154 hl (by decide) rfl (fun ls hl => ?_)
    have hl : lv_has ls 8 [(6, .int v), (5, .int v5), (4, .int v4), (3, .int v3), (0, .ref (ad 0)), (1, .int (nI i)), (2, .int (nI j))] := hl
    refine lv_aload_n hx hb dMD_leads_156 rfl (lv_at hl 4 rfl) ?_
    refine g_MD_40 X hP (by omega) (m0) rfl dMD_leads_157 ?_
    refine lv_iload_n hx hb dMD_leads_160 rfl (lv_at hl 6 rfl) ?_
    refine q_iald j X hP (by omega) (m11) (rfl) (by omega) (by decide) dMD_leads_161 ?_
    refine lv_bipush (v := 7) hx hb dMD_leads_162 (by decide) ?_
    refine lv_icmp_ne (tgt := 212) hx hb dMD_leads_164 rfl (fun h164 => ?_) (fun h164 => ?_)
    · refine lv_iconst (v := 0) hx hb dMD_leads_212 (by decide) ?_
      exact J213 0 v3 v4 v5 v _ hl
    · refine lv_aload_n hx hb dMD_leads_167 rfl (lv_at hl 4 rfl) ?_
      refine g_MD_43 X hP (by omega) (m0) rfl dMD_leads_168 ?_
      refine lv_iload_n hx hb dMD_leads_171 rfl (lv_at hl 6 rfl) ?_
      refine q_iald j X hP (by omega) (m12) (rfl) (by omega) (by decide) dMD_leads_172 ?_
      refine lv_aload_n hx hb dMD_leads_173 rfl (lv_at hl 4 rfl) ?_
      refine g_MD_37 X hP (by omega) (m0) rfl dMD_leads_174 ?_
      refine lv_iload_n hx hb dMD_leads_177 rfl (lv_at hl 5 rfl) ?_
      refine q_iald i X hP (by omega) (m10) (rfl) (by omega) (by decide) dMD_leads_178 ?_
      refine lv_icmp_eq (tgt := 208) hx hb dMD_leads_179 rfl (fun h179 => ?_) (fun h179 => ?_)
      · refine lv_iconst (v := 1) hx hb dMD_leads_208 (by decide) ?_
        refine lv_goto (tgt := 213) hx hb dMD_leads_209 rfl ?_
        exact J213 1 v3 v4 v5 v _ hl
      · refine lv_aload_n hx hb dMD_leads_182 rfl (lv_at hl 4 rfl) ?_
        refine g_MD_40 X hP (by omega) (m0) rfl dMD_leads_183 ?_
        refine lv_iload_n hx hb dMD_leads_186 rfl (lv_at hl 5 rfl) ?_
        refine q_iald i X hP (by omega) (m11) (rfl) (by omega) (by decide) dMD_leads_187 ?_
        refine lv_bipush (v := 6) hx hb dMD_leads_188 (by decide) ?_
        refine lv_icmp_ne (tgt := 212) hx hb dMD_leads_190 rfl (fun h190 => ?_) (fun h190 => ?_)
        · refine lv_iconst (v := 0) hx hb dMD_leads_212 (by decide) ?_
          exact J213 0 v3 v4 v5 v _ hl
        · refine lv_aload_n hx hb dMD_leads_193 rfl (lv_at hl 4 rfl) ?_
          refine g_MD_43 X hP (by omega) (m0) rfl dMD_leads_194 ?_
          refine lv_iload_n hx hb dMD_leads_197 rfl (lv_at hl 5 rfl) ?_
          refine q_iald i X hP (by omega) (m12) (rfl) (by omega) (by decide) dMD_leads_198 ?_
          refine lv_aload_n hx hb dMD_leads_199 rfl (lv_at hl 4 rfl) ?_
          refine g_MD_43 X hP (by omega) (m0) rfl dMD_leads_200 ?_
          refine lv_iload_n hx hb dMD_leads_203 rfl (lv_at hl 6 rfl) ?_
          refine q_iald j X hP (by omega) (m12) (rfl) (by omega) (by decide) dMD_leads_204 ?_
          refine lv_icmp_ne (tgt := 212) hx hb dMD_leads_205 rfl (fun h205 => ?_) (fun h205 => ?_)
          · refine lv_iconst (v := 0) hx hb dMD_leads_212 (by decide) ?_
            exact J213 0 v3 v4 v5 v _ hl
          · refine lv_iconst (v := 1) hx hb dMD_leads_208 (by decide) ?_
            refine lv_goto (tgt := 213) hx hb dMD_leads_209 rfl ?_
            exact J213 1 v3 v4 v5 v _ hl
  have J121 : ∀ (v v3 v4 : Int32) (ls : Array Slot), lv_has ls 8 [(4, .int v4), (3, .int v3), (0, .ref (ad 0)), (1, .int (nI i)), (2, .int (nI j))] → W p l e (rmD 0) s m args below meth c s.heap [] 0 0 (XQ below (CtQ D 17 ad (fun o E2 => ∃ r : Int32, o = .returned (some (.int r)) ∧ E2 = E ∧ True)) args s 0 0 (Aw 17 ad)) (F0 m 121 ls [.int v]) := by
    intro v v3 v4 ls hl
    refine lv_istore hx hb dMD_leads_121 hl (by decide) rfl (fun ls hl => ?_)
    have hl : lv_has ls 8 [(5, .int v), (4, .int v4), (3, .int v3), (0, .ref (ad 0)), (1, .int (nI i)), (2, .int (nI j))] := hl
    refine lv_aload_n hx hb dMD_leads_123 rfl (lv_at hl 3 rfl) ?_
    refine g_MD_40 X hP (by omega) (m0) rfl dMD_leads_124 ?_
    refine lv_iload_n hx hb dMD_leads_127 rfl (lv_at hl 4 rfl) ?_
    refine q_iald i X hP (by omega) (m11) (rfl) (by omega) (by decide) dMD_leads_128 ?_
    refine lv_bipush (v := 6) hx hb dMD_leads_129 (by decide) ?_
    refine lv_icmp_ne (tgt := 153) hx hb dMD_leads_131 rfl (fun h131 => ?_) (fun h131 => ?_)
    · refine lv_iconst (v := 0) hx hb dMD_leads_153 (by decide) ?_
      exact J154 0 v3 v4 v _ hl
    · refine lv_aload_n hx hb dMD_leads_134 rfl (lv_at hl 3 rfl) ?_
      refine g_MD_43 X hP (by omega) (m0) rfl dMD_leads_135 ?_
      refine lv_iload_n hx hb dMD_leads_138 rfl (lv_at hl 4 rfl) ?_
      refine q_iald i X hP (by omega) (m12) (rfl) (by omega) (by decide) dMD_leads_139 ?_
      refine lv_aload_n hx hb dMD_leads_140 rfl (lv_at hl 3 rfl) ?_
      refine g_MD_37 X hP (by omega) (m0) rfl dMD_leads_141 ?_
      refine lv_iload_n hx hb dMD_leads_144 rfl (lv_at hl 5 rfl) ?_
      refine q_iald j X hP (by omega) (m10) (rfl) (by omega) (by decide) dMD_leads_145 ?_
      refine lv_icmp_ne (tgt := 153) hx hb dMD_leads_146 rfl (fun h146 => ?_) (fun h146 => ?_)
      · refine lv_iconst (v := 0) hx hb dMD_leads_153 (by decide) ?_
        exact J154 0 v3 v4 v _ hl
      · refine lv_iconst (v := 1) hx hb dMD_leads_149 (by decide) ?_
        refine lv_goto (tgt := 154) hx hb dMD_leads_150 rfl ?_
        exact J154 1 v3 v4 v _ hl
  have J79 : ∀ (v v3 : Int32) (ls : Array Slot), lv_has ls 8 [(3, .int v3), (0, .ref (ad 0)), (1, .int (nI i)), (2, .int (nI j))] → W p l e (rmD 0) s m args below meth c s.heap [] 0 0 (XQ below (CtQ D 17 ad (fun o E2 => ∃ r : Int32, o = .returned (some (.int r)) ∧ E2 = E ∧ True)) args s 0 0 (Aw 17 ad)) (F0 m 79 ls [.int v]) := by
    intro v v3 ls hl
    refine lv_istore hx hb dMD_leads_79 hl (by decide) rfl (fun ls hl => ?_)
    have hl : lv_has ls 8 [(4, .int v), (3, .int v3), (0, .ref (ad 0)), (1, .int (nI i)), (2, .int (nI j))] := hl
    refine lv_aload_n hx hb dMD_leads_81 rfl (lv_at hl 2 rfl) ?_
    refine g_MD_40 X hP (by omega) (m0) rfl dMD_leads_82 ?_
    refine lv_iload_n hx hb dMD_leads_85 rfl (lv_at hl 4 rfl) ?_
    refine q_iald j X hP (by omega) (m11) (rfl) (by omega) (by decide) dMD_leads_86 ?_
    refine lv_iconst (v := 4) hx hb dMD_leads_87 (by decide) ?_
    refine lv_icmp_ne (tgt := 120) hx hb dMD_leads_88 rfl (fun h88 => ?_) (fun h88 => ?_)
    · refine lv_iconst (v := 0) hx hb dMD_leads_120 (by decide) ?_
      exact J121 0 v3 v _ hl
    · refine lv_aload_n hx hb dMD_leads_91 rfl (lv_at hl 2 rfl) ?_
      refine g_MD_40 X hP (by omega) (m0) rfl dMD_leads_92 ?_
      refine lv_iload_n hx hb dMD_leads_95 rfl (lv_at hl 3 rfl) ?_
      refine q_iald i X hP (by omega) (m11) (rfl) (by omega) (by decide) dMD_leads_96 ?_
      refine lv_iconst (v := 5) hx hb dMD_leads_97 (by decide) ?_
      refine lv_icmp_ne (tgt := 120) hx hb dMD_leads_98 rfl (fun h98 => ?_) (fun h98 => ?_)
      · refine lv_iconst (v := 0) hx hb dMD_leads_120 (by decide) ?_
        exact J121 0 v3 v _ hl
      · refine lv_aload_n hx hb dMD_leads_101 rfl (lv_at hl 2 rfl) ?_
        refine g_MD_43 X hP (by omega) (m0) rfl dMD_leads_102 ?_
        refine lv_iload_n hx hb dMD_leads_105 rfl (lv_at hl 3 rfl) ?_
        refine q_iald i X hP (by omega) (m12) (rfl) (by omega) (by decide) dMD_leads_106 ?_
        refine lv_aload_n hx hb dMD_leads_107 rfl (lv_at hl 2 rfl) ?_
        refine g_MD_43 X hP (by omega) (m0) rfl dMD_leads_108 ?_
        refine lv_iload_n hx hb dMD_leads_111 rfl (lv_at hl 4 rfl) ?_
        refine q_iald j X hP (by omega) (m12) (rfl) (by omega) (by decide) dMD_leads_112 ?_
        refine lv_icmp_ne (tgt := 120) hx hb dMD_leads_113 rfl (fun h113 => ?_) (fun h113 => ?_)
        · refine lv_iconst (v := 0) hx hb dMD_leads_120 (by decide) ?_
          exact J121 0 v3 v _ hl
        · refine lv_iconst (v := 1) hx hb dMD_leads_116 (by decide) ?_
          refine lv_goto (tgt := 121) hx hb dMD_leads_117 rfl ?_
          exact J121 1 v3 v _ hl
  have J20 : ∀ (v  : Int32) (ls : Array Slot), lv_has ls 8 [(0, .ref (ad 0)), (1, .int (nI i)), (2, .int (nI j))] → W p l e (rmD 0) s m args below meth c s.heap [] 0 0 (XQ below (CtQ D 17 ad (fun o E2 => ∃ r : Int32, o = .returned (some (.int r)) ∧ E2 = E ∧ True)) args s 0 0 (Aw 17 ad)) (F0 m 20 ls [.int v]) := by
    intro v  ls hl
    refine lv_istore_n hx hb dMD_leads_20 rfl hl (by decide) rfl (fun ls hl => ?_)
    have hl : lv_has ls 8 [(3, .int v), (0, .ref (ad 0)), (1, .int (nI i)), (2, .int (nI j))] := hl
    refine lv_aload_n hx hb dMD_leads_21 rfl (lv_at hl 1 rfl) ?_
    refine g_MD_40 X hP (by omega) (m0) rfl dMD_leads_22 ?_
    refine lv_iload_n hx hb dMD_leads_25 rfl (lv_at hl 3 rfl) ?_
    refine q_iald j X hP (by omega) (m11) (rfl) (by omega) (by decide) dMD_leads_26 ?_
    refine lv_iconst (v := 2) hx hb dMD_leads_27 (by decide) ?_
    refine lv_icmp_ne (tgt := 78) hx hb dMD_leads_28 rfl (fun h28 => ?_) (fun h28 => ?_)
    · refine lv_iconst (v := 0) hx hb dMD_leads_78 (by decide) ?_
      exact J79 0 v _ hl
    · refine lv_aload_n hx hb dMD_leads_31 rfl (lv_at hl 1 rfl) ?_
      refine g_MD_40 X hP (by omega) (m0) rfl dMD_leads_32 ?_
      refine lv_iload_n hx hb dMD_leads_35 rfl (lv_at hl 2 rfl) ?_
      refine q_iald i X hP (by omega) (m11) (rfl) (by omega) (by decide) dMD_leads_36 ?_
      refine lv_iconst (v := 3) hx hb dMD_leads_37 (by decide) ?_
      refine lv_icmp_ne (tgt := 78) hx hb dMD_leads_38 rfl (fun h38 => ?_) (fun h38 => ?_)
      · refine lv_iconst (v := 0) hx hb dMD_leads_78 (by decide) ?_
        exact J79 0 v _ hl
      · refine lv_aload_n hx hb dMD_leads_41 rfl (lv_at hl 1 rfl) ?_
        refine g_MD_43 X hP (by omega) (m0) rfl dMD_leads_42 ?_
        refine lv_iload_n hx hb dMD_leads_45 rfl (lv_at hl 2 rfl) ?_
        refine q_iald i X hP (by omega) (m12) (rfl) (by omega) (by decide) dMD_leads_46 ?_
        refine lv_aload_n hx hb dMD_leads_47 rfl (lv_at hl 1 rfl) ?_
        refine g_MD_43 X hP (by omega) (m0) rfl dMD_leads_48 ?_
        refine lv_iload_n hx hb dMD_leads_51 rfl (lv_at hl 3 rfl) ?_
        refine q_iald j X hP (by omega) (m12) (rfl) (by omega) (by decide) dMD_leads_52 ?_
        refine lv_icmp_ne (tgt := 78) hx hb dMD_leads_53 rfl (fun h53 => ?_) (fun h53 => ?_)
        · refine lv_iconst (v := 0) hx hb dMD_leads_78 (by decide) ?_
          exact J79 0 v _ hl
        · refine lv_aload_n hx hb dMD_leads_56 rfl (lv_at hl 1 rfl) ?_
          refine g_MD_46 X hP (by omega) (m0) rfl dMD_leads_57 ?_
          refine lv_iload_n hx hb dMD_leads_60 rfl (lv_at hl 2 rfl) ?_
          refine q_zald i X hP (by omega) (m13) (rfl) (by omega) (by decide) dMD_leads_61 ?_
          refine lv_if_eq (tgt := 78) hx hb dMD_leads_62 rfl (fun h62 => ?_) (fun h62 => ?_)
          · refine lv_iconst (v := 0) hx hb dMD_leads_78 (by decide) ?_
            exact J79 0 v _ hl
          · refine lv_aload_n hx hb dMD_leads_65 rfl (lv_at hl 1 rfl) ?_
            refine g_MD_46 X hP (by omega) (m0) rfl dMD_leads_66 ?_
            refine lv_iload_n hx hb dMD_leads_69 rfl (lv_at hl 3 rfl) ?_
            refine q_zald j X hP (by omega) (m13) (rfl) (by omega) (by decide) dMD_leads_70 ?_
            refine lv_if_eq (tgt := 78) hx hb dMD_leads_71 rfl (fun h71 => ?_) (fun h71 => ?_)
            · refine lv_iconst (v := 0) hx hb dMD_leads_78 (by decide) ?_
              exact J79 0 v _ hl
            · refine lv_iconst (v := 1) hx hb dMD_leads_74 (by decide) ?_
              refine lv_goto (tgt := 79) hx hb dMD_leads_75 rfl ?_
              exact J79 1 v _ hl
  refine lv_aload_n hx hb dMD_leads_0 rfl (lv_at hl 0 rfl) ?_
  refine g_MD_37 X hP (by omega) (m0) rfl dMD_leads_1 ?_
  refine lv_iload_n hx hb dMD_leads_4 rfl (lv_at hl 1 rfl) ?_
  refine q_iald i X hP (by omega) (m10) (rfl) (by omega) (by decide) dMD_leads_5 ?_
  refine lv_aload_n hx hb dMD_leads_6 rfl (lv_at hl 0 rfl) ?_
  refine g_MD_37 X hP (by omega) (m0) rfl dMD_leads_7 ?_
  refine lv_iload_n hx hb dMD_leads_10 rfl (lv_at hl 2 rfl) ?_
  refine q_iald j X hP (by omega) (m10) (rfl) (by omega) (by decide) dMD_leads_11 ?_
  refine lv_icmp_ne (tgt := 19) hx hb dMD_leads_12 rfl (fun h12 => ?_) (fun h12 => ?_)
  · refine lv_iconst (v := 0) hx hb dMD_leads_19 (by decide) ?_
    exact J20 0 _ hl
  · refine lv_iconst (v := 1) hx hb dMD_leads_15 (by decide) ?_
    refine lv_goto (tgt := 20) hx hb dMD_leads_16 rfl ?_
    exact J20 1 _ hl
