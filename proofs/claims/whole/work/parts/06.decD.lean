theorem d_X12_baleTold_0 : decode cX12_baleTold 0 = .ok (.aload_n 0, 1) := by decide +kernel
theorem d_X12_baleTold_1 : decode cX12_baleTold 1 = .ok (.iload_n 1, 1) := by decide +kernel
theorem d_X12_baleTold_2 : decode cX12_baleTold 2 = .ok (.invokevirtual 235, 3) := by decide +kernel
theorem d_X12_baleTold_5 : decode cX12_baleTold 5 = .ok (.ifCond .eq 12, 3) := by decide +kernel
theorem d_X12_baleTold_8 : decode cX12_baleTold 8 = .ok (.iload_n 2, 1) := by decide +kernel
theorem d_X12_baleTold_9 : decode cX12_baleTold 9 = .ok (.iconst 0, 1) := by decide +kernel
theorem d_X12_baleTold_10 : decode cX12_baleTold 10 = .ok (.iconst 4, 1) := by decide +kernel
theorem d_X12_baleTold_11 : decode cX12_baleTold 11 = .ok (.invokestatic 174, 3) := by decide +kernel
theorem d_X12_baleTold_14 : decode cX12_baleTold 14 = .ok (.ifCond .ne 5, 3) := by decide +kernel
theorem d_X12_baleTold_17 : decode cX12_baleTold 17 = .ok (.iconst (-1), 1) := by decide +kernel
theorem d_X12_baleTold_18 : decode cX12_baleTold 18 = .ok (.ireturn, 1) := by decide +kernel
theorem d_X12_baleTold_19 : decode cX12_baleTold 19 = .ok (.iload_n 2, 1) := by decide +kernel
theorem d_X12_baleTold_20 : decode cX12_baleTold 20 = .ok (.ifCond .ne 12, 3) := by decide +kernel
theorem d_X12_baleTold_23 : decode cX12_baleTold 23 = .ok (.aload_n 0, 1) := by decide +kernel
theorem d_X12_baleTold_24 : decode cX12_baleTold 24 = .ok (.getfield 80, 3) := by decide +kernel
theorem d_X12_baleTold_27 : decode cX12_baleTold 27 = .ok (.iload_n 1, 1) := by decide +kernel
theorem d_X12_baleTold_28 : decode cX12_baleTold 28 = .ok (.iaload, 1) := by decide +kernel
theorem d_X12_baleTold_29 : decode cX12_baleTold 29 = .ok (.goto 51, 3) := by decide +kernel
theorem d_X12_baleTold_32 : decode cX12_baleTold 32 = .ok (.iload_n 2, 1) := by decide +kernel
theorem d_X12_baleTold_33 : decode cX12_baleTold 33 = .ok (.iconst 1, 1) := by decide +kernel
theorem d_X12_baleTold_34 : decode cX12_baleTold 34 = .ok (.if_icmp .ne 12, 3) := by decide +kernel
theorem d_X12_baleTold_37 : decode cX12_baleTold 37 = .ok (.aload_n 0, 1) := by decide +kernel
theorem d_X12_baleTold_38 : decode cX12_baleTold 38 = .ok (.getfield 83, 3) := by decide +kernel
theorem d_X12_baleTold_41 : decode cX12_baleTold 41 = .ok (.iload_n 1, 1) := by decide +kernel
theorem d_X12_baleTold_42 : decode cX12_baleTold 42 = .ok (.iaload, 1) := by decide +kernel
theorem d_X12_baleTold_43 : decode cX12_baleTold 43 = .ok (.goto 37, 3) := by decide +kernel
theorem d_X12_baleTold_46 : decode cX12_baleTold 46 = .ok (.iload_n 2, 1) := by decide +kernel
theorem d_X12_baleTold_47 : decode cX12_baleTold 47 = .ok (.iconst 2, 1) := by decide +kernel
theorem d_X12_baleTold_48 : decode cX12_baleTold 48 = .ok (.if_icmp .ne 12, 3) := by decide +kernel
theorem d_X12_baleTold_51 : decode cX12_baleTold 51 = .ok (.aload_n 0, 1) := by decide +kernel
theorem d_X12_baleTold_52 : decode cX12_baleTold 52 = .ok (.getfield 71, 3) := by decide +kernel
theorem d_X12_baleTold_55 : decode cX12_baleTold 55 = .ok (.iload_n 1, 1) := by decide +kernel
theorem d_X12_baleTold_56 : decode cX12_baleTold 56 = .ok (.iaload, 1) := by decide +kernel
theorem d_X12_baleTold_57 : decode cX12_baleTold 57 = .ok (.goto 23, 3) := by decide +kernel
theorem d_X12_baleTold_60 : decode cX12_baleTold 60 = .ok (.iload_n 2, 1) := by decide +kernel
theorem d_X12_baleTold_61 : decode cX12_baleTold 61 = .ok (.iconst 3, 1) := by decide +kernel
theorem d_X12_baleTold_62 : decode cX12_baleTold 62 = .ok (.if_icmp .ne 12, 3) := by decide +kernel
theorem d_X12_baleTold_65 : decode cX12_baleTold 65 = .ok (.aload_n 0, 1) := by decide +kernel
theorem d_X12_baleTold_66 : decode cX12_baleTold 66 = .ok (.getfield 74, 3) := by decide +kernel
theorem d_X12_baleTold_69 : decode cX12_baleTold 69 = .ok (.iload_n 1, 1) := by decide +kernel
theorem d_X12_baleTold_70 : decode cX12_baleTold 70 = .ok (.iaload, 1) := by decide +kernel
theorem d_X12_baleTold_71 : decode cX12_baleTold 71 = .ok (.goto 9, 3) := by decide +kernel
theorem d_X12_baleTold_74 : decode cX12_baleTold 74 = .ok (.aload_n 0, 1) := by decide +kernel
theorem d_X12_baleTold_75 : decode cX12_baleTold 75 = .ok (.getfield 77, 3) := by decide +kernel
theorem d_X12_baleTold_78 : decode cX12_baleTold 78 = .ok (.iload_n 1, 1) := by decide +kernel
theorem d_X12_baleTold_79 : decode cX12_baleTold 79 = .ok (.iaload, 1) := by decide +kernel
theorem d_X12_baleTold_80 : decode cX12_baleTold 80 = .ok (.ireturn, 1) := by decide +kernel
theorem d_X12_sumOf_0 : decode cX12_sumOf 0 = .ok (.iconst 0, 1) := by decide +kernel
theorem d_X12_sumOf_1 : decode cX12_sumOf 1 = .ok (.istore_n 3, 1) := by decide +kernel
theorem d_X12_sumOf_2 : decode cX12_sumOf 2 = .ok (.iconst 0, 1) := by decide +kernel
theorem d_X12_sumOf_3 : decode cX12_sumOf 3 = .ok (.istore 4, 2) := by decide +kernel
theorem d_X12_sumOf_5 : decode cX12_sumOf 5 = .ok (.iload 4, 2) := by decide +kernel
theorem d_X12_sumOf_7 : decode cX12_sumOf 7 = .ok (.aload_n 0, 1) := by decide +kernel
theorem d_X12_sumOf_8 : decode cX12_sumOf 8 = .ok (.getfield 181, 3) := by decide +kernel
theorem d_X12_sumOf_11 : decode cX12_sumOf 11 = .ok (.if_icmp .ge 46, 3) := by decide +kernel
theorem d_X12_sumOf_14 : decode cX12_sumOf 14 = .ok (.iload_n 3, 1) := by decide +kernel
theorem d_X12_sumOf_15 : decode cX12_sumOf 15 = .ok (.iload_n 1, 1) := by decide +kernel
theorem d_X12_sumOf_16 : decode cX12_sumOf 16 = .ok (.iload 4, 2) := by decide +kernel
theorem d_X12_sumOf_18 : decode cX12_sumOf 18 = .ok (.ishr, 1) := by decide +kernel
theorem d_X12_sumOf_19 : decode cX12_sumOf 19 = .ok (.iconst 1, 1) := by decide +kernel
theorem d_X12_sumOf_20 : decode cX12_sumOf 20 = .ok (.iand, 1) := by decide +kernel
theorem d_X12_sumOf_21 : decode cX12_sumOf 21 = .ok (.ifCond .ne 7, 3) := by decide +kernel
theorem d_X12_sumOf_24 : decode cX12_sumOf 24 = .ok (.iconst 0, 1) := by decide +kernel
theorem d_X12_sumOf_25 : decode cX12_sumOf 25 = .ok (.goto 24, 3) := by decide +kernel
theorem d_X12_sumOf_28 : decode cX12_sumOf 28 = .ok (.iload_n 2, 1) := by decide +kernel
theorem d_X12_sumOf_29 : decode cX12_sumOf 29 = .ok (.ifCond .eq 13, 3) := by decide +kernel
theorem d_X12_sumOf_32 : decode cX12_sumOf 32 = .ok (.aload_n 0, 1) := by decide +kernel
theorem d_X12_sumOf_33 : decode cX12_sumOf 33 = .ok (.getfield 77, 3) := by decide +kernel
theorem d_X12_sumOf_36 : decode cX12_sumOf 36 = .ok (.iload 4, 2) := by decide +kernel
theorem d_X12_sumOf_38 : decode cX12_sumOf 38 = .ok (.iaload, 1) := by decide +kernel
theorem d_X12_sumOf_39 : decode cX12_sumOf 39 = .ok (.goto 10, 3) := by decide +kernel
theorem d_X12_sumOf_42 : decode cX12_sumOf 42 = .ok (.aload_n 0, 1) := by decide +kernel
theorem d_X12_sumOf_43 : decode cX12_sumOf 43 = .ok (.getfield 74, 3) := by decide +kernel
theorem d_X12_sumOf_46 : decode cX12_sumOf 46 = .ok (.iload 4, 2) := by decide +kernel
theorem d_X12_sumOf_48 : decode cX12_sumOf 48 = .ok (.iaload, 1) := by decide +kernel
theorem d_X12_sumOf_49 : decode cX12_sumOf 49 = .ok (.iadd, 1) := by decide +kernel
theorem d_X12_sumOf_50 : decode cX12_sumOf 50 = .ok (.istore_n 3, 1) := by decide +kernel
theorem d_X12_sumOf_51 : decode cX12_sumOf 51 = .ok (.iinc 4 1, 3) := by decide +kernel
theorem d_X12_sumOf_54 : decode cX12_sumOf 54 = .ok (.goto (-49), 3) := by decide +kernel
theorem d_X12_sumOf_57 : decode cX12_sumOf 57 = .ok (.iload_n 3, 1) := by decide +kernel
theorem d_X12_sumOf_58 : decode cX12_sumOf 58 = .ok (.ireturn, 1) := by decide +kernel
theorem d_X12_lading_0 : decode cX12_lading 0 = .ok (.aload_n 0, 1) := by decide +kernel
theorem d_X12_lading_1 : decode cX12_lading 1 = .ok (.iload_n 1, 1) := by decide +kernel
theorem d_X12_lading_2 : decode cX12_lading 2 = .ok (.invokevirtual 238, 3) := by decide +kernel
theorem d_X12_lading_5 : decode cX12_lading 5 = .ok (.ifCond .eq 21, 3) := by decide +kernel
theorem d_X12_lading_8 : decode cX12_lading 8 = .ok (.aload_n 0, 1) := by decide +kernel
theorem d_X12_lading_9 : decode cX12_lading 9 = .ok (.getfield 47, 3) := by decide +kernel
theorem d_X12_lading_12 : decode cX12_lading 12 = .ok (.iload_n 1, 1) := by decide +kernel
theorem d_X12_lading_13 : decode cX12_lading 13 = .ok (.iaload, 1) := by decide +kernel
theorem d_X12_lading_14 : decode cX12_lading 14 = .ok (.ifCond .ne 12, 3) := by decide +kernel
theorem d_X12_lading_17 : decode cX12_lading 17 = .ok (.aload_n 0, 1) := by decide +kernel
theorem d_X12_lading_18 : decode cX12_lading 18 = .ok (.iload_n 1, 1) := by decide +kernel
theorem d_X12_lading_19 : decode cX12_lading 19 = .ok (.invokevirtual 241, 3) := by decide +kernel
theorem d_X12_lading_22 : decode cX12_lading 22 = .ok (.iload_n 2, 1) := by decide +kernel
theorem d_X12_lading_23 : decode cX12_lading 23 = .ok (.if_icmp .le 5, 3) := by decide +kernel
theorem d_X12_lading_26 : decode cX12_lading 26 = .ok (.iconst (-1), 1) := by decide +kernel
theorem d_X12_lading_27 : decode cX12_lading 27 = .ok (.ireturn, 1) := by decide +kernel
theorem d_X12_lading_28 : decode cX12_lading 28 = .ok (.iconst 0, 1) := by decide +kernel
theorem d_X12_lading_29 : decode cX12_lading 29 = .ok (.istore_n 3, 1) := by decide +kernel
theorem d_X12_lading_30 : decode cX12_lading 30 = .ok (.iconst 0, 1) := by decide +kernel
theorem d_X12_lading_31 : decode cX12_lading 31 = .ok (.istore 4, 2) := by decide +kernel
theorem d_X12_lading_33 : decode cX12_lading 33 = .ok (.iload 4, 2) := by decide +kernel
theorem d_X12_lading_35 : decode cX12_lading 35 = .ok (.aload_n 0, 1) := by decide +kernel
theorem d_X12_lading_36 : decode cX12_lading 36 = .ok (.getfield 181, 3) := by decide +kernel
theorem d_X12_lading_39 : decode cX12_lading 39 = .ok (.if_icmp .ge 62, 3) := by decide +kernel
theorem d_X12_lading_42 : decode cX12_lading 42 = .ok (.iload_n 3, 1) := by decide +kernel
theorem d_X12_lading_43 : decode cX12_lading 43 = .ok (.aload_n 0, 1) := by decide +kernel
theorem d_X12_lading_44 : decode cX12_lading 44 = .ok (.getfield 80, 3) := by decide +kernel
theorem d_X12_lading_47 : decode cX12_lading 47 = .ok (.iload 4, 2) := by decide +kernel
theorem d_X12_lading_49 : decode cX12_lading 49 = .ok (.iaload, 1) := by decide +kernel
theorem d_X12_lading_50 : decode cX12_lading 50 = .ok (.ifCond .ne 42, 3) := by decide +kernel
theorem d_X12_lading_53 : decode cX12_lading 53 = .ok (.aload_n 0, 1) := by decide +kernel
theorem d_X12_lading_54 : decode cX12_lading 54 = .ok (.getfield 83, 3) := by decide +kernel
theorem d_X12_lading_57 : decode cX12_lading 57 = .ok (.iload 4, 2) := by decide +kernel
theorem d_X12_lading_59 : decode cX12_lading 59 = .ok (.iaload, 1) := by decide +kernel
theorem d_X12_lading_60 : decode cX12_lading 60 = .ok (.aload_n 0, 1) := by decide +kernel
theorem d_X12_lading_61 : decode cX12_lading 61 = .ok (.getfield 50, 3) := by decide +kernel
theorem d_X12_lading_64 : decode cX12_lading 64 = .ok (.iload_n 1, 1) := by decide +kernel
theorem d_X12_lading_65 : decode cX12_lading 65 = .ok (.iaload, 1) := by decide +kernel
theorem d_X12_lading_66 : decode cX12_lading 66 = .ok (.if_icmp .ne 26, 3) := by decide +kernel
theorem d_X12_lading_69 : decode cX12_lading 69 = .ok (.aload_n 0, 1) := by decide +kernel
theorem d_X12_lading_70 : decode cX12_lading 70 = .ok (.getfield 71, 3) := by decide +kernel
theorem d_X12_lading_73 : decode cX12_lading 73 = .ok (.iload 4, 2) := by decide +kernel
theorem d_X12_lading_75 : decode cX12_lading 75 = .ok (.iaload, 1) := by decide +kernel
theorem d_X12_lading_76 : decode cX12_lading 76 = .ok (.aload_n 0, 1) := by decide +kernel
theorem d_X12_lading_77 : decode cX12_lading 77 = .ok (.getfield 50, 3) := by decide +kernel
theorem d_X12_lading_80 : decode cX12_lading 80 = .ok (.iload_n 1, 1) := by decide +kernel
theorem d_X12_lading_81 : decode cX12_lading 81 = .ok (.iaload, 1) := by decide +kernel
theorem d_X12_lading_82 : decode cX12_lading 82 = .ok (.if_icmp .eq 10, 3) := by decide +kernel
theorem d_X12_lading_85 : decode cX12_lading 85 = .ok (.iconst 1, 1) := by decide +kernel
theorem d_X12_lading_86 : decode cX12_lading 86 = .ok (.iload 4, 2) := by decide +kernel
theorem d_X12_lading_88 : decode cX12_lading 88 = .ok (.ishl, 1) := by decide +kernel
theorem d_X12_lading_89 : decode cX12_lading 89 = .ok (.goto 4, 3) := by decide +kernel
theorem d_X12_lading_92 : decode cX12_lading 92 = .ok (.iconst 0, 1) := by decide +kernel
theorem d_X12_lading_93 : decode cX12_lading 93 = .ok (.ior, 1) := by decide +kernel
theorem d_X12_lading_94 : decode cX12_lading 94 = .ok (.istore_n 3, 1) := by decide +kernel
theorem d_X12_lading_95 : decode cX12_lading 95 = .ok (.iinc 4 1, 3) := by decide +kernel
theorem d_X12_lading_98 : decode cX12_lading 98 = .ok (.goto (-65), 3) := by decide +kernel
theorem d_X12_lading_101 : decode cX12_lading 101 = .ok (.aload_n 0, 1) := by decide +kernel
theorem d_X12_lading_102 : decode cX12_lading 102 = .ok (.iload_n 1, 1) := by decide +kernel
theorem d_X12_lading_103 : decode cX12_lading 103 = .ok (.invokevirtual 232, 3) := by decide +kernel
theorem d_X12_lading_106 : decode cX12_lading 106 = .ok (.istore 4, 2) := by decide +kernel
theorem d_X12_lading_108 : decode cX12_lading 108 = .ok (.iconst 0, 1) := by decide +kernel
theorem d_X12_lading_109 : decode cX12_lading 109 = .ok (.istore 5, 2) := by decide +kernel
theorem d_X12_lading_111 : decode cX12_lading 111 = .ok (.iconst 1, 1) := by decide +kernel
theorem d_X12_lading_112 : decode cX12_lading 112 = .ok (.istore 6, 2) := by decide +kernel
theorem d_X12_lading_114 : decode cX12_lading 114 = .ok (.iload 6, 2) := by decide +kernel
theorem d_X12_lading_116 : decode cX12_lading 116 = .ok (.iconst 1, 1) := by decide +kernel
theorem d_X12_lading_117 : decode cX12_lading 117 = .ok (.aload_n 0, 1) := by decide +kernel
theorem d_X12_lading_118 : decode cX12_lading 118 = .ok (.getfield 181, 3) := by decide +kernel
theorem d_X12_lading_121 : decode cX12_lading 121 = .ok (.ishl, 1) := by decide +kernel
theorem d_X12_lading_122 : decode cX12_lading 122 = .ok (.if_icmp .ge 108, 3) := by decide +kernel
theorem d_X12_lading_125 : decode cX12_lading 125 = .ok (.iload 6, 2) := by decide +kernel
theorem d_X12_lading_127 : decode cX12_lading 127 = .ok (.iload_n 3, 1) := by decide +kernel
theorem d_X12_lading_128 : decode cX12_lading 128 = .ok (.iconst (-1), 1) := by decide +kernel
theorem d_X12_lading_129 : decode cX12_lading 129 = .ok (.ixor, 1) := by decide +kernel
theorem d_X12_lading_130 : decode cX12_lading 130 = .ok (.iand, 1) := by decide +kernel
theorem d_X12_lading_131 : decode cX12_lading 131 = .ok (.ifCond .ne 93, 3) := by decide +kernel
theorem d_X12_lading_134 : decode cX12_lading 134 = .ok (.iload 4, 2) := by decide +kernel
theorem d_X12_lading_136 : decode cX12_lading 136 = .ok (.aload_n 0, 1) := by decide +kernel
theorem d_X12_lading_137 : decode cX12_lading 137 = .ok (.iload 6, 2) := by decide +kernel
theorem d_X12_lading_139 : decode cX12_lading 139 = .ok (.iconst 0, 1) := by decide +kernel
theorem d_X12_lading_140 : decode cX12_lading 140 = .ok (.invokevirtual 263, 3) := by decide +kernel
theorem d_X12_lading_143 : decode cX12_lading 143 = .ok (.iadd, 1) := by decide +kernel
theorem d_X12_lading_144 : decode cX12_lading 144 = .ok (.istore 7, 2) := by decide +kernel
theorem d_X12_lading_146 : decode cX12_lading 146 = .ok (.iload 7, 2) := by decide +kernel
theorem d_X12_lading_148 : decode cX12_lading 148 = .ok (.aload_n 0, 1) := by decide +kernel
theorem d_X12_lading_149 : decode cX12_lading 149 = .ok (.getfield 41, 3) := by decide +kernel
theorem d_X12_lading_152 : decode cX12_lading 152 = .ok (.iload_n 1, 1) := by decide +kernel
theorem d_X12_lading_153 : decode cX12_lading 153 = .ok (.iaload, 1) := by decide +kernel
theorem d_X12_lading_154 : decode cX12_lading 154 = .ok (.if_icmp .gt 70, 3) := by decide +kernel
theorem d_X12_lading_157 : decode cX12_lading 157 = .ok (.aload_n 0, 1) := by decide +kernel
theorem d_X12_lading_158 : decode cX12_lading 158 = .ok (.getfield 38, 3) := by decide +kernel
theorem d_X12_lading_161 : decode cX12_lading 161 = .ok (.iload_n 1, 1) := by decide +kernel
theorem d_X12_lading_162 : decode cX12_lading 162 = .ok (.iaload, 1) := by decide +kernel
theorem d_X12_lading_163 : decode cX12_lading 163 = .ok (.iload 7, 2) := by decide +kernel
theorem d_X12_lading_165 : decode cX12_lading 165 = .ok (.bipush 10, 2) := by decide +kernel
theorem d_X12_lading_167 : decode cX12_lading 167 = .ok (.idiv, 1) := by decide +kernel
theorem d_X12_lading_168 : decode cX12_lading 168 = .ok (.iadd, 1) := by decide +kernel
theorem d_X12_lading_169 : decode cX12_lading 169 = .ok (.iload_n 2, 1) := by decide +kernel
theorem d_X12_lading_170 : decode cX12_lading 170 = .ok (.if_icmp .gt 54, 3) := by decide +kernel
theorem d_X12_lading_173 : decode cX12_lading 173 = .ok (.aload_n 0, 1) := by decide +kernel
theorem d_X12_lading_174 : decode cX12_lading 174 = .ok (.iload 6, 2) := by decide +kernel
theorem d_X12_lading_176 : decode cX12_lading 176 = .ok (.iconst 1, 1) := by decide +kernel
theorem d_X12_lading_177 : decode cX12_lading 177 = .ok (.invokevirtual 263, 3) := by decide +kernel
theorem d_X12_lading_180 : decode cX12_lading 180 = .ok (.aload_n 0, 1) := by decide +kernel
theorem d_X12_lading_181 : decode cX12_lading 181 = .ok (.iload 5, 2) := by decide +kernel
theorem d_X12_lading_183 : decode cX12_lading 183 = .ok (.iconst 1, 1) := by decide +kernel
theorem d_X12_lading_184 : decode cX12_lading 184 = .ok (.invokevirtual 263, 3) := by decide +kernel
theorem d_X12_lading_187 : decode cX12_lading 187 = .ok (.isub, 1) := by decide +kernel
theorem d_X12_lading_188 : decode cX12_lading 188 = .ok (.istore 8, 2) := by decide +kernel
theorem d_X12_lading_190 : decode cX12_lading 190 = .ok (.iload 8, 2) := by decide +kernel
theorem d_X12_lading_192 : decode cX12_lading 192 = .ok (.ifCond .gt 23, 3) := by decide +kernel
theorem d_X12_lading_195 : decode cX12_lading 195 = .ok (.iload 8, 2) := by decide +kernel
theorem d_X12_lading_197 : decode cX12_lading 197 = .ok (.ifCond .ne 23, 3) := by decide +kernel
theorem d_X12_lading_200 : decode cX12_lading 200 = .ok (.iload 7, 2) := by decide +kernel
theorem d_X12_lading_202 : decode cX12_lading 202 = .ok (.iload 4, 2) := by decide +kernel
theorem d_X12_lading_204 : decode cX12_lading 204 = .ok (.isub, 1) := by decide +kernel
theorem d_X12_lading_205 : decode cX12_lading 205 = .ok (.aload_n 0, 1) := by decide +kernel
theorem d_X12_lading_206 : decode cX12_lading 206 = .ok (.iload 5, 2) := by decide +kernel
theorem d_X12_lading_208 : decode cX12_lading 208 = .ok (.iconst 0, 1) := by decide +kernel
theorem d_X12_lading_209 : decode cX12_lading 209 = .ok (.invokevirtual 263, 3) := by decide +kernel
theorem d_X12_lading_212 : decode cX12_lading 212 = .ok (.if_icmp .ge 8, 3) := by decide +kernel
theorem d_X12_lading_215 : decode cX12_lading 215 = .ok (.iload 6, 2) := by decide +kernel
theorem d_X12_lading_217 : decode cX12_lading 217 = .ok (.goto 5, 3) := by decide +kernel
theorem d_X12_lading_220 : decode cX12_lading 220 = .ok (.iload 5, 2) := by decide +kernel
theorem d_X12_lading_222 : decode cX12_lading 222 = .ok (.istore 5, 2) := by decide +kernel
theorem d_X12_lading_224 : decode cX12_lading 224 = .ok (.iinc 6 1, 3) := by decide +kernel
theorem d_X12_lading_227 : decode cX12_lading 227 = .ok (.goto (-113), 3) := by decide +kernel
theorem d_X12_lading_230 : decode cX12_lading 230 = .ok (.iload 5, 2) := by decide +kernel
theorem d_X12_lading_232 : decode cX12_lading 232 = .ok (.ireturn, 1) := by decide +kernel
theorem d_X12_yard_0 : decode cX12_yard 0 = .ok (.aload_n 0, 1) := by decide +kernel
theorem d_X12_yard_1 : decode cX12_yard 1 = .ok (.iload_n 1, 1) := by decide +kernel
theorem d_X12_yard_2 : decode cX12_yard 2 = .ok (.invokevirtual 229, 3) := by decide +kernel
theorem d_X12_yard_5 : decode cX12_yard 5 = .ok (.ifCond .eq 13, 3) := by decide +kernel
theorem d_X12_yard_8 : decode cX12_yard 8 = .ok (.iload_n 2, 1) := by decide +kernel
theorem d_X12_yard_9 : decode cX12_yard 9 = .ok (.iconst 0, 1) := by decide +kernel
theorem d_X12_yard_10 : decode cX12_yard 10 = .ok (.bipush 99, 2) := by decide +kernel
theorem d_X12_yard_12 : decode cX12_yard 12 = .ok (.invokestatic 174, 3) := by decide +kernel
theorem d_X12_yard_15 : decode cX12_yard 15 = .ok (.ifCond .ne 9, 3) := by decide +kernel
theorem d_X12_yard_18 : decode cX12_yard 18 = .ok (.aload_n 0, 1) := by decide +kernel
theorem d_X12_yard_19 : decode cX12_yard 19 = .ok (.iconst 1, 1) := by decide +kernel
theorem d_X12_yard_20 : decode cX12_yard 20 = .ok (.invokevirtual 187, 3) := by decide +kernel
theorem d_X12_yard_23 : decode cX12_yard 23 = .ok (.ireturn, 1) := by decide +kernel
theorem d_X12_yard_24 : decode cX12_yard 24 = .ok (.aload_n 0, 1) := by decide +kernel
theorem d_X12_yard_25 : decode cX12_yard 25 = .ok (.getfield 68, 3) := by decide +kernel
theorem d_X12_yard_28 : decode cX12_yard 28 = .ok (.iload_n 1, 1) := by decide +kernel
theorem d_X12_yard_29 : decode cX12_yard 29 = .ok (.iaload, 1) := by decide +kernel
theorem d_X12_yard_30 : decode cX12_yard 30 = .ok (.istore_n 3, 1) := by decide +kernel
theorem d_X12_yard_31 : decode cX12_yard 31 = .ok (.aload_n 0, 1) := by decide +kernel
theorem d_X12_yard_32 : decode cX12_yard 32 = .ok (.getfield 68, 3) := by decide +kernel
theorem d_X12_yard_35 : decode cX12_yard 35 = .ok (.iload_n 1, 1) := by decide +kernel
theorem d_X12_yard_36 : decode cX12_yard 36 = .ok (.iload_n 2, 1) := by decide +kernel
theorem d_X12_yard_37 : decode cX12_yard 37 = .ok (.iastore, 1) := by decide +kernel
theorem d_X12_yard_38 : decode cX12_yard 38 = .ok (.aload_n 0, 1) := by decide +kernel
theorem d_X12_yard_39 : decode cX12_yard 39 = .ok (.iload_n 3, 1) := by decide +kernel
theorem d_X12_yard_40 : decode cX12_yard 40 = .ok (.invokevirtual 191, 3) := by decide +kernel
theorem d_X12_yard_43 : decode cX12_yard 43 = .ok (.ireturn, 1) := by decide +kernel
theorem d_X12_wood_0 : decode cX12_wood 0 = .ok (.aload_n 0, 1) := by decide +kernel
theorem d_X12_wood_1 : decode cX12_wood 1 = .ok (.iload_n 1, 1) := by decide +kernel
theorem d_X12_wood_2 : decode cX12_wood 2 = .ok (.invokevirtual 238, 3) := by decide +kernel
theorem d_X12_wood_5 : decode cX12_wood 5 = .ok (.ifCond .eq 13, 3) := by decide +kernel
theorem d_X12_wood_8 : decode cX12_wood 8 = .ok (.iload_n 2, 1) := by decide +kernel
theorem d_X12_wood_9 : decode cX12_wood 9 = .ok (.iconst 1, 1) := by decide +kernel
theorem d_X12_wood_10 : decode cX12_wood 10 = .ok (.bipush 99, 2) := by decide +kernel
theorem d_X12_wood_12 : decode cX12_wood 12 = .ok (.invokestatic 174, 3) := by decide +kernel
theorem d_X12_wood_15 : decode cX12_wood 15 = .ok (.ifCond .ne 9, 3) := by decide +kernel
theorem d_X12_wood_18 : decode cX12_wood 18 = .ok (.aload_n 0, 1) := by decide +kernel
theorem d_X12_wood_19 : decode cX12_wood 19 = .ok (.iconst 1, 1) := by decide +kernel
theorem d_X12_wood_20 : decode cX12_wood 20 = .ok (.invokevirtual 187, 3) := by decide +kernel
theorem d_X12_wood_23 : decode cX12_wood 23 = .ok (.ireturn, 1) := by decide +kernel
theorem d_X12_wood_24 : decode cX12_wood 24 = .ok (.aload_n 0, 1) := by decide +kernel
theorem d_X12_wood_25 : decode cX12_wood 25 = .ok (.getfield 47, 3) := by decide +kernel
theorem d_X12_wood_28 : decode cX12_wood 28 = .ok (.iload_n 1, 1) := by decide +kernel
theorem d_X12_wood_29 : decode cX12_wood 29 = .ok (.iaload, 1) := by decide +kernel
theorem d_X12_wood_30 : decode cX12_wood 30 = .ok (.ifCond .ne 34, 3) := by decide +kernel
theorem d_X12_wood_33 : decode cX12_wood 33 = .ok (.aload_n 0, 1) := by decide +kernel
theorem d_X12_wood_34 : decode cX12_wood 34 = .ok (.getfield 68, 3) := by decide +kernel
theorem d_X12_wood_37 : decode cX12_wood 37 = .ok (.aload_n 0, 1) := by decide +kernel
theorem d_X12_wood_38 : decode cX12_wood 38 = .ok (.getfield 50, 3) := by decide +kernel
theorem d_X12_wood_41 : decode cX12_wood 41 = .ok (.iload_n 1, 1) := by decide +kernel
theorem d_X12_wood_42 : decode cX12_wood 42 = .ok (.iaload, 1) := by decide +kernel
theorem d_X12_wood_43 : decode cX12_wood 43 = .ok (.iaload, 1) := by decide +kernel
theorem d_X12_wood_44 : decode cX12_wood 44 = .ok (.ifCond .eq 20, 3) := by decide +kernel
theorem d_X12_wood_47 : decode cX12_wood 47 = .ok (.iload_n 2, 1) := by decide +kernel
theorem d_X12_wood_48 : decode cX12_wood 48 = .ok (.aload_n 0, 1) := by decide +kernel
theorem d_X12_wood_49 : decode cX12_wood 49 = .ok (.getfield 44, 3) := by decide +kernel
theorem d_X12_wood_52 : decode cX12_wood 52 = .ok (.iload_n 1, 1) := by decide +kernel
theorem d_X12_wood_53 : decode cX12_wood 53 = .ok (.iaload, 1) := by decide +kernel
theorem d_X12_wood_54 : decode cX12_wood 54 = .ok (.aload_n 0, 1) := by decide +kernel
theorem d_X12_wood_55 : decode cX12_wood 55 = .ok (.getfield 59, 3) := by decide +kernel
theorem d_X12_wood_58 : decode cX12_wood 58 = .ok (.iload_n 1, 1) := by decide +kernel
theorem d_X12_wood_59 : decode cX12_wood 59 = .ok (.iaload, 1) := by decide +kernel
theorem d_X12_wood_60 : decode cX12_wood 60 = .ok (.isub, 1) := by decide +kernel
theorem d_X12_wood_61 : decode cX12_wood 61 = .ok (.if_icmp .le 9, 3) := by decide +kernel
theorem d_X12_wood_64 : decode cX12_wood 64 = .ok (.aload_n 0, 1) := by decide +kernel
theorem d_X12_wood_65 : decode cX12_wood 65 = .ok (.iconst 3, 1) := by decide +kernel
theorem d_X12_wood_66 : decode cX12_wood 66 = .ok (.invokevirtual 187, 3) := by decide +kernel
theorem d_X12_wood_69 : decode cX12_wood 69 = .ok (.ireturn, 1) := by decide +kernel
theorem d_X12_wood_70 : decode cX12_wood 70 = .ok (.aload_n 0, 1) := by decide +kernel
theorem d_X12_wood_71 : decode cX12_wood 71 = .ok (.getfield 59, 3) := by decide +kernel
theorem d_X12_wood_74 : decode cX12_wood 74 = .ok (.iload_n 1, 1) := by decide +kernel
theorem d_X12_wood_75 : decode cX12_wood 75 = .ok (.dup2, 1) := by decide +kernel
theorem d_X12_wood_76 : decode cX12_wood 76 = .ok (.iaload, 1) := by decide +kernel
theorem d_X12_wood_77 : decode cX12_wood 77 = .ok (.iload_n 2, 1) := by decide +kernel
theorem d_X12_wood_78 : decode cX12_wood 78 = .ok (.iadd, 1) := by decide +kernel
theorem d_X12_wood_79 : decode cX12_wood 79 = .ok (.iastore, 1) := by decide +kernel
theorem d_X12_wood_80 : decode cX12_wood 80 = .ok (.aload_n 0, 1) := by decide +kernel
theorem d_X12_wood_81 : decode cX12_wood 81 = .ok (.aload_n 0, 1) := by decide +kernel
theorem d_X12_wood_82 : decode cX12_wood 82 = .ok (.getfield 59, 3) := by decide +kernel
theorem d_X12_wood_85 : decode cX12_wood 85 = .ok (.iload_n 1, 1) := by decide +kernel
theorem d_X12_wood_86 : decode cX12_wood 86 = .ok (.iaload, 1) := by decide +kernel
theorem d_X12_wood_87 : decode cX12_wood 87 = .ok (.invokevirtual 191, 3) := by decide +kernel
theorem d_X12_wood_90 : decode cX12_wood 90 = .ok (.ireturn, 1) := by decide +kernel
theorem d_X12_landingOf_0 : decode cX12_landingOf 0 = .ok (.iload_n 0, 1) := by decide +kernel
theorem d_X12_landingOf_1 : decode cX12_landingOf 1 = .ok (.iload_n 1, 1) := by decide +kernel
theorem d_X12_landingOf_2 : decode cX12_landingOf 2 = .ok (.if_icmp .ge 9, 3) := by decide +kernel
theorem d_X12_landingOf_5 : decode cX12_landingOf 5 = .ok (.iload_n 0, 1) := by decide +kernel
theorem d_X12_landingOf_6 : decode cX12_landingOf 6 = .ok (.iload_n 2, 1) := by decide +kernel
theorem d_X12_landingOf_7 : decode cX12_landingOf 7 = .ok (.iadd, 1) := by decide +kernel
theorem d_X12_landingOf_8 : decode cX12_landingOf 8 = .ok (.goto 6, 3) := by decide +kernel
theorem d_X12_landingOf_11 : decode cX12_landingOf 11 = .ok (.iload_n 0, 1) := by decide +kernel
theorem d_X12_landingOf_12 : decode cX12_landingOf 12 = .ok (.iload_n 2, 1) := by decide +kernel
theorem d_X12_landingOf_13 : decode cX12_landingOf 13 = .ok (.isub, 1) := by decide +kernel
theorem d_X12_landingOf_14 : decode cX12_landingOf 14 = .ok (.ireturn, 1) := by decide +kernel
theorem d_X12_stretchOf_0 : decode cX12_stretchOf 0 = .ok (.iload_n 0, 1) := by decide +kernel
theorem d_X12_stretchOf_1 : decode cX12_stretchOf 1 = .ok (.iload_n 1, 1) := by decide +kernel
theorem d_X12_stretchOf_2 : decode cX12_stretchOf 2 = .ok (.if_icmp .ge 9, 3) := by decide +kernel
theorem d_X12_stretchOf_5 : decode cX12_stretchOf 5 = .ok (.iload_n 0, 1) := by decide +kernel
theorem d_X12_stretchOf_6 : decode cX12_stretchOf 6 = .ok (.iload_n 2, 1) := by decide +kernel
theorem d_X12_stretchOf_7 : decode cX12_stretchOf 7 = .ok (.iadd, 1) := by decide +kernel
theorem d_X12_stretchOf_8 : decode cX12_stretchOf 8 = .ok (.goto 8, 3) := by decide +kernel
theorem d_X12_stretchOf_11 : decode cX12_stretchOf 11 = .ok (.iload_n 0, 1) := by decide +kernel
theorem d_X12_stretchOf_12 : decode cX12_stretchOf 12 = .ok (.iload_n 2, 1) := by decide +kernel
theorem d_X12_stretchOf_13 : decode cX12_stretchOf 13 = .ok (.isub, 1) := by decide +kernel
theorem d_X12_stretchOf_14 : decode cX12_stretchOf 14 = .ok (.iconst 1, 1) := by decide +kernel
theorem d_X12_stretchOf_15 : decode cX12_stretchOf 15 = .ok (.isub, 1) := by decide +kernel
theorem d_X12_stretchOf_16 : decode cX12_stretchOf 16 = .ok (.ireturn, 1) := by decide +kernel
theorem d_X12_buysAt_0 : decode cX12_buysAt 0 = .ok (.aload_n 0, 1) := by decide +kernel
theorem d_X12_buysAt_1 : decode cX12_buysAt 1 = .ok (.getfield 68, 3) := by decide +kernel
theorem d_X12_buysAt_4 : decode cX12_buysAt 4 = .ok (.iload 4, 2) := by decide +kernel
theorem d_X12_buysAt_6 : decode cX12_buysAt 6 = .ok (.iload 5, 2) := by decide +kernel
theorem d_X12_buysAt_8 : decode cX12_buysAt 8 = .ok (.iload_n 2, 1) := by decide +kernel
theorem d_X12_buysAt_9 : decode cX12_buysAt 9 = .ok (.invokestatic 266, 3) := by decide +kernel
theorem d_X12_buysAt_12 : decode cX12_buysAt 12 = .ok (.iaload, 1) := by decide +kernel
theorem d_X12_buysAt_13 : decode cX12_buysAt 13 = .ok (.istore 6, 2) := by decide +kernel
theorem d_X12_buysAt_15 : decode cX12_buysAt 15 = .ok (.aload_n 0, 1) := by decide +kernel
theorem d_X12_buysAt_16 : decode cX12_buysAt 16 = .ok (.iload 4, 2) := by decide +kernel
theorem d_X12_buysAt_18 : decode cX12_buysAt 18 = .ok (.iload 5, 2) := by decide +kernel
theorem d_X12_buysAt_20 : decode cX12_buysAt 20 = .ok (.iload_n 2, 1) := by decide +kernel
theorem d_X12_buysAt_21 : decode cX12_buysAt 21 = .ok (.invokestatic 270, 3) := by decide +kernel
theorem d_X12_buysAt_24 : decode cX12_buysAt 24 = .ok (.iconst 0, 1) := by decide +kernel
theorem d_X12_buysAt_25 : decode cX12_buysAt 25 = .ok (.invokevirtual 225, 3) := by decide +kernel
theorem d_X12_buysAt_28 : decode cX12_buysAt 28 = .ok (.istore 7, 2) := by decide +kernel
theorem d_X12_buysAt_30 : decode cX12_buysAt 30 = .ok (.ldc_w 273, 3) := by decide +kernel
theorem d_X12_buysAt_33 : decode cX12_buysAt 33 = .ok (.istore 8, 2) := by decide +kernel
theorem d_X12_buysAt_35 : decode cX12_buysAt 35 = .ok (.iconst 0, 1) := by decide +kernel
theorem d_X12_buysAt_36 : decode cX12_buysAt 36 = .ok (.istore 9, 2) := by decide +kernel
theorem d_X12_buysAt_38 : decode cX12_buysAt 38 = .ok (.iconst 0, 1) := by decide +kernel
theorem d_X12_buysAt_39 : decode cX12_buysAt 39 = .ok (.istore 10, 2) := by decide +kernel
theorem d_X12_buysAt_41 : decode cX12_buysAt 41 = .ok (.iload_n 3, 1) := by decide +kernel
theorem d_X12_buysAt_42 : decode cX12_buysAt 42 = .ok (.iload 10, 2) := by decide +kernel
theorem d_X12_buysAt_44 : decode cX12_buysAt 44 = .ok (.iadd, 1) := by decide +kernel
theorem d_X12_buysAt_45 : decode cX12_buysAt 45 = .ok (.aload_n 0, 1) := by decide +kernel
theorem d_X12_buysAt_46 : decode cX12_buysAt 46 = .ok (.getfield 44, 3) := by decide +kernel
theorem d_X12_buysAt_49 : decode cX12_buysAt 49 = .ok (.iload_n 1, 1) := by decide +kernel
theorem d_X12_buysAt_50 : decode cX12_buysAt 50 = .ok (.iaload, 1) := by decide +kernel
theorem d_X12_buysAt_51 : decode cX12_buysAt 51 = .ok (.if_icmp .gt 90, 3) := by decide +kernel
theorem d_X12_buysAt_54 : decode cX12_buysAt 54 = .ok (.iload 10, 2) := by decide +kernel
theorem d_X12_buysAt_56 : decode cX12_buysAt 56 = .ok (.ifCond .eq 8, 3) := by decide +kernel
theorem d_X12_buysAt_59 : decode cX12_buysAt 59 = .ok (.iload 6, 2) := by decide +kernel
theorem d_X12_buysAt_61 : decode cX12_buysAt 61 = .ok (.ifCond .le 80, 3) := by decide +kernel
theorem d_X12_buysAt_64 : decode cX12_buysAt 64 = .ok (.iload_n 3, 1) := by decide +kernel
theorem d_X12_buysAt_65 : decode cX12_buysAt 65 = .ok (.iload 10, 2) := by decide +kernel
theorem d_X12_buysAt_67 : decode cX12_buysAt 67 = .ok (.iadd, 1) := by decide +kernel
theorem d_X12_buysAt_68 : decode cX12_buysAt 68 = .ok (.iload 7, 2) := by decide +kernel
theorem d_X12_buysAt_70 : decode cX12_buysAt 70 = .ok (.if_icmp .ge 9, 3) := by decide +kernel
theorem d_X12_buysAt_73 : decode cX12_buysAt 73 = .ok (.ldc_w 273, 3) := by decide +kernel
theorem d_X12_buysAt_76 : decode cX12_buysAt 76 = .ok (.goto 22, 3) := by decide +kernel
theorem d_X12_buysAt_79 : decode cX12_buysAt 79 = .ok (.aload_n 0, 1) := by decide +kernel
theorem d_X12_buysAt_80 : decode cX12_buysAt 80 = .ok (.getfield 107, 3) := by decide +kernel
theorem d_X12_buysAt_83 : decode cX12_buysAt 83 = .ok (.bipush 100, 2) := by decide +kernel
theorem d_X12_buysAt_85 : decode cX12_buysAt 85 = .ok (.iload_n 2, 1) := by decide +kernel
theorem d_X12_buysAt_86 : decode cX12_buysAt 86 = .ok (.iconst 1, 1) := by decide +kernel
theorem d_X12_buysAt_87 : decode cX12_buysAt 87 = .ok (.iadd, 1) := by decide +kernel
theorem d_X12_buysAt_88 : decode cX12_buysAt 88 = .ok (.imul, 1) := by decide +kernel
theorem d_X12_buysAt_89 : decode cX12_buysAt 89 = .ok (.iload_n 3, 1) := by decide +kernel
theorem d_X12_buysAt_90 : decode cX12_buysAt 90 = .ok (.iadd, 1) := by decide +kernel
theorem d_X12_buysAt_91 : decode cX12_buysAt 91 = .ok (.iload 10, 2) := by decide +kernel
theorem d_X12_buysAt_93 : decode cX12_buysAt 93 = .ok (.iadd, 1) := by decide +kernel
theorem d_X12_buysAt_94 : decode cX12_buysAt 94 = .ok (.iload 7, 2) := by decide +kernel
theorem d_X12_buysAt_96 : decode cX12_buysAt 96 = .ok (.isub, 1) := by decide +kernel
theorem d_X12_buysAt_97 : decode cX12_buysAt 97 = .ok (.iaload, 1) := by decide +kernel
theorem d_X12_buysAt_98 : decode cX12_buysAt 98 = .ok (.istore 11, 2) := by decide +kernel
theorem d_X12_buysAt_100 : decode cX12_buysAt 100 = .ok (.iload 11, 2) := by decide +kernel
theorem d_X12_buysAt_102 : decode cX12_buysAt 102 = .ok (.ldc_w 273, 3) := by decide +kernel
theorem d_X12_buysAt_105 : decode cX12_buysAt 105 = .ok (.if_icmp .ge 30, 3) := by decide +kernel
theorem d_X12_buysAt_108 : decode cX12_buysAt 108 = .ok (.iload 11, 2) := by decide +kernel
theorem d_X12_buysAt_110 : decode cX12_buysAt 110 = .ok (.iload 10, 2) := by decide +kernel
theorem d_X12_buysAt_112 : decode cX12_buysAt 112 = .ok (.iload 6, 2) := by decide +kernel
theorem d_X12_buysAt_114 : decode cX12_buysAt 114 = .ok (.imul, 1) := by decide +kernel
theorem d_X12_buysAt_115 : decode cX12_buysAt 115 = .ok (.iadd, 1) := by decide +kernel
theorem d_X12_buysAt_116 : decode cX12_buysAt 116 = .ok (.iload 8, 2) := by decide +kernel
theorem d_X12_buysAt_118 : decode cX12_buysAt 118 = .ok (.if_icmp .ge 17, 3) := by decide +kernel
theorem d_X12_buysAt_121 : decode cX12_buysAt 121 = .ok (.iload 11, 2) := by decide +kernel
theorem d_X12_buysAt_123 : decode cX12_buysAt 123 = .ok (.iload 10, 2) := by decide +kernel
theorem d_X12_buysAt_125 : decode cX12_buysAt 125 = .ok (.iload 6, 2) := by decide +kernel
theorem d_X12_buysAt_127 : decode cX12_buysAt 127 = .ok (.imul, 1) := by decide +kernel
theorem d_X12_buysAt_128 : decode cX12_buysAt 128 = .ok (.iadd, 1) := by decide +kernel
theorem d_X12_buysAt_129 : decode cX12_buysAt 129 = .ok (.istore 8, 2) := by decide +kernel
theorem d_X12_buysAt_131 : decode cX12_buysAt 131 = .ok (.iload 10, 2) := by decide +kernel
theorem d_X12_buysAt_133 : decode cX12_buysAt 133 = .ok (.istore 9, 2) := by decide +kernel
theorem d_X12_buysAt_135 : decode cX12_buysAt 135 = .ok (.iinc 10 1, 3) := by decide +kernel
theorem d_X12_buysAt_138 : decode cX12_buysAt 138 = .ok (.goto (-97), 3) := by decide +kernel
theorem d_X12_buysAt_141 : decode cX12_buysAt 141 = .ok (.aload_n 0, 1) := by decide +kernel
theorem d_X12_buysAt_142 : decode cX12_buysAt 142 = .ok (.getfield 107, 3) := by decide +kernel
theorem d_X12_buysAt_145 : decode cX12_buysAt 145 = .ok (.bipush 100, 2) := by decide +kernel
theorem d_X12_buysAt_147 : decode cX12_buysAt 147 = .ok (.iload_n 2, 1) := by decide +kernel
theorem d_X12_buysAt_148 : decode cX12_buysAt 148 = .ok (.imul, 1) := by decide +kernel
theorem d_X12_buysAt_149 : decode cX12_buysAt 149 = .ok (.iload_n 3, 1) := by decide +kernel
theorem d_X12_buysAt_150 : decode cX12_buysAt 150 = .ok (.iadd, 1) := by decide +kernel
theorem d_X12_buysAt_151 : decode cX12_buysAt 151 = .ok (.iload 8, 2) := by decide +kernel
theorem d_X12_buysAt_153 : decode cX12_buysAt 153 = .ok (.iastore, 1) := by decide +kernel
theorem d_X12_buysAt_154 : decode cX12_buysAt 154 = .ok (.aload_n 0, 1) := by decide +kernel
theorem d_X12_buysAt_155 : decode cX12_buysAt 155 = .ok (.getfield 110, 3) := by decide +kernel
theorem d_X12_buysAt_158 : decode cX12_buysAt 158 = .ok (.bipush 100, 2) := by decide +kernel
theorem d_X12_buysAt_160 : decode cX12_buysAt 160 = .ok (.iload_n 2, 1) := by decide +kernel
theorem d_X12_buysAt_161 : decode cX12_buysAt 161 = .ok (.imul, 1) := by decide +kernel
theorem d_X12_buysAt_162 : decode cX12_buysAt 162 = .ok (.iload_n 3, 1) := by decide +kernel
theorem d_X12_buysAt_163 : decode cX12_buysAt 163 = .ok (.iadd, 1) := by decide +kernel
theorem d_X12_buysAt_164 : decode cX12_buysAt 164 = .ok (.iload 9, 2) := by decide +kernel
theorem d_X12_buysAt_166 : decode cX12_buysAt 166 = .ok (.iastore, 1) := by decide +kernel
theorem d_X12_buysAt_167 : decode cX12_buysAt 167 = .ok (.return_, 1) := by decide +kernel
theorem d_X12_findWood_0 : decode cX12_findWood 0 = .ok (.aload_n 0, 1) := by decide +kernel
theorem d_X12_findWood_1 : decode cX12_findWood 1 = .ok (.iload_n 2, 1) := by decide +kernel
theorem d_X12_findWood_2 : decode cX12_findWood 2 = .ok (.iload_n 3, 1) := by decide +kernel
theorem d_X12_findWood_3 : decode cX12_findWood 3 = .ok (.if_icmp .ge 9, 3) := by decide +kernel
theorem d_X12_findWood_6 : decode cX12_findWood 6 = .ok (.iload_n 3, 1) := by decide +kernel
theorem d_X12_findWood_7 : decode cX12_findWood 7 = .ok (.iload_n 2, 1) := by decide +kernel
theorem d_X12_findWood_8 : decode cX12_findWood 8 = .ok (.isub, 1) := by decide +kernel
theorem d_X12_findWood_9 : decode cX12_findWood 9 = .ok (.goto 6, 3) := by decide +kernel
theorem d_X12_findWood_12 : decode cX12_findWood 12 = .ok (.iload_n 2, 1) := by decide +kernel
theorem d_X12_findWood_13 : decode cX12_findWood 13 = .ok (.iload_n 3, 1) := by decide +kernel
theorem d_X12_findWood_14 : decode cX12_findWood 14 = .ok (.isub, 1) := by decide +kernel
theorem d_X12_findWood_15 : decode cX12_findWood 15 = .ok (.putfield 274, 3) := by decide +kernel
theorem d_X12_findWood_18 : decode cX12_findWood 18 = .ok (.iconst 0, 1) := by decide +kernel
theorem d_X12_findWood_19 : decode cX12_findWood 19 = .ok (.istore 4, 2) := by decide +kernel
theorem d_X12_findWood_21 : decode cX12_findWood 21 = .ok (.iload 4, 2) := by decide +kernel
theorem d_X12_findWood_23 : decode cX12_findWood 23 = .ok (.bipush 100, 2) := by decide +kernel
theorem d_X12_findWood_25 : decode cX12_findWood 25 = .ok (.if_icmp .ge 25, 3) := by decide +kernel
theorem d_X12_findWood_28 : decode cX12_findWood 28 = .ok (.aload_n 0, 1) := by decide +kernel
theorem d_X12_findWood_29 : decode cX12_findWood 29 = .ok (.getfield 107, 3) := by decide +kernel
theorem d_X12_findWood_32 : decode cX12_findWood 32 = .ok (.bipush 100, 2) := by decide +kernel
theorem d_X12_findWood_34 : decode cX12_findWood 34 = .ok (.aload_n 0, 1) := by decide +kernel
theorem d_X12_findWood_35 : decode cX12_findWood 35 = .ok (.getfield 274, 3) := by decide +kernel
theorem d_X12_findWood_38 : decode cX12_findWood 38 = .ok (.imul, 1) := by decide +kernel
theorem d_X12_findWood_39 : decode cX12_findWood 39 = .ok (.iload 4, 2) := by decide +kernel
theorem d_X12_findWood_41 : decode cX12_findWood 41 = .ok (.iadd, 1) := by decide +kernel
theorem d_X12_findWood_42 : decode cX12_findWood 42 = .ok (.iconst 0, 1) := by decide +kernel
theorem d_X12_findWood_43 : decode cX12_findWood 43 = .ok (.iastore, 1) := by decide +kernel
theorem d_X12_findWood_44 : decode cX12_findWood 44 = .ok (.iinc 4 1, 3) := by decide +kernel
theorem d_X12_findWood_47 : decode cX12_findWood 47 = .ok (.goto (-26), 3) := by decide +kernel
theorem d_X12_findWood_50 : decode cX12_findWood 50 = .ok (.aload_n 0, 1) := by decide +kernel
theorem d_X12_findWood_51 : decode cX12_findWood 51 = .ok (.getfield 274, 3) := by decide +kernel
theorem d_X12_findWood_54 : decode cX12_findWood 54 = .ok (.iconst 1, 1) := by decide +kernel
theorem d_X12_findWood_55 : decode cX12_findWood 55 = .ok (.isub, 1) := by decide +kernel
theorem d_X12_findWood_56 : decode cX12_findWood 56 = .ok (.istore 4, 2) := by decide +kernel
theorem d_X12_findWood_58 : decode cX12_findWood 58 = .ok (.iload 4, 2) := by decide +kernel
theorem d_X12_findWood_60 : decode cX12_findWood 60 = .ok (.ifCond .lt 40, 3) := by decide +kernel
theorem d_X12_findWood_63 : decode cX12_findWood 63 = .ok (.iconst 0, 1) := by decide +kernel
theorem d_X12_findWood_64 : decode cX12_findWood 64 = .ok (.istore 5, 2) := by decide +kernel
theorem d_X12_findWood_66 : decode cX12_findWood 66 = .ok (.iload 5, 2) := by decide +kernel
theorem d_X12_findWood_68 : decode cX12_findWood 68 = .ok (.aload_n 0, 1) := by decide +kernel
theorem d_X12_findWood_69 : decode cX12_findWood 69 = .ok (.getfield 44, 3) := by decide +kernel
theorem d_X12_findWood_72 : decode cX12_findWood 72 = .ok (.iload_n 1, 1) := by decide +kernel
theorem d_X12_findWood_73 : decode cX12_findWood 73 = .ok (.iaload, 1) := by decide +kernel
theorem d_X12_findWood_74 : decode cX12_findWood 74 = .ok (.if_icmp .gt 20, 3) := by decide +kernel
theorem d_X12_findWood_77 : decode cX12_findWood 77 = .ok (.aload_n 0, 1) := by decide +kernel
theorem d_X12_findWood_78 : decode cX12_findWood 78 = .ok (.iload_n 1, 1) := by decide +kernel
theorem d_X12_findWood_79 : decode cX12_findWood 79 = .ok (.iload 4, 2) := by decide +kernel
theorem d_X12_findWood_81 : decode cX12_findWood 81 = .ok (.iload 5, 2) := by decide +kernel
theorem d_X12_findWood_83 : decode cX12_findWood 83 = .ok (.iload_n 2, 1) := by decide +kernel
theorem d_X12_findWood_84 : decode cX12_findWood 84 = .ok (.iload_n 3, 1) := by decide +kernel
theorem d_X12_findWood_85 : decode cX12_findWood 85 = .ok (.invokevirtual 277, 3) := by decide +kernel
theorem d_X12_findWood_88 : decode cX12_findWood 88 = .ok (.iinc 5 1, 3) := by decide +kernel
theorem d_X12_findWood_91 : decode cX12_findWood 91 = .ok (.goto (-25), 3) := by decide +kernel
theorem d_X12_findWood_94 : decode cX12_findWood 94 = .ok (.iinc 4 (-1), 3) := by decide +kernel
theorem d_X12_findWood_97 : decode cX12_findWood 97 = .ok (.goto (-39), 3) := by decide +kernel
theorem d_X12_findWood_100 : decode cX12_findWood 100 = .ok (.iconst 0, 1) := by decide +kernel
theorem d_X12_findWood_101 : decode cX12_findWood 101 = .ok (.istore 4, 2) := by decide +kernel
theorem d_X12_findWood_103 : decode cX12_findWood 103 = .ok (.iconst 0, 1) := by decide +kernel
theorem d_X12_findWood_104 : decode cX12_findWood 104 = .ok (.istore 5, 2) := by decide +kernel
theorem d_X12_findWood_106 : decode cX12_findWood 106 = .ok (.iload 5, 2) := by decide +kernel
theorem d_X12_findWood_108 : decode cX12_findWood 108 = .ok (.aload_n 0, 1) := by decide +kernel
theorem d_X12_findWood_109 : decode cX12_findWood 109 = .ok (.getfield 274, 3) := by decide +kernel
theorem d_X12_findWood_112 : decode cX12_findWood 112 = .ok (.if_icmp .ge 66, 3) := by decide +kernel
theorem d_X12_findWood_115 : decode cX12_findWood 115 = .ok (.aload_n 0, 1) := by decide +kernel
theorem d_X12_findWood_116 : decode cX12_findWood 116 = .ok (.getfield 107, 3) := by decide +kernel
theorem d_X12_findWood_119 : decode cX12_findWood 119 = .ok (.iconst 0, 1) := by decide +kernel
theorem d_X12_findWood_120 : decode cX12_findWood 120 = .ok (.iaload, 1) := by decide +kernel
theorem d_X12_findWood_121 : decode cX12_findWood 121 = .ok (.ldc_w 273, 3) := by decide +kernel
theorem d_X12_findWood_124 : decode cX12_findWood 124 = .ok (.if_icmp .ge 54, 3) := by decide +kernel
theorem d_X12_findWood_127 : decode cX12_findWood 127 = .ok (.aload_n 0, 1) := by decide +kernel
theorem d_X12_findWood_128 : decode cX12_findWood 128 = .ok (.getfield 113, 3) := by decide +kernel
theorem d_X12_findWood_131 : decode cX12_findWood 131 = .ok (.iload 5, 2) := by decide +kernel
theorem d_X12_findWood_133 : decode cX12_findWood 133 = .ok (.aload_n 0, 1) := by decide +kernel
theorem d_X12_findWood_134 : decode cX12_findWood 134 = .ok (.getfield 110, 3) := by decide +kernel
theorem d_X12_findWood_137 : decode cX12_findWood 137 = .ok (.bipush 100, 2) := by decide +kernel
theorem d_X12_findWood_139 : decode cX12_findWood 139 = .ok (.iload 5, 2) := by decide +kernel
theorem d_X12_findWood_141 : decode cX12_findWood 141 = .ok (.imul, 1) := by decide +kernel
theorem d_X12_findWood_142 : decode cX12_findWood 142 = .ok (.iload 4, 2) := by decide +kernel
theorem d_X12_findWood_144 : decode cX12_findWood 144 = .ok (.iadd, 1) := by decide +kernel
theorem d_X12_findWood_145 : decode cX12_findWood 145 = .ok (.iaload, 1) := by decide +kernel
theorem d_X12_findWood_146 : decode cX12_findWood 146 = .ok (.iastore, 1) := by decide +kernel
theorem d_X12_findWood_147 : decode cX12_findWood 147 = .ok (.iload 4, 2) := by decide +kernel
theorem d_X12_findWood_149 : decode cX12_findWood 149 = .ok (.aload_n 0, 1) := by decide +kernel
theorem d_X12_findWood_150 : decode cX12_findWood 150 = .ok (.getfield 113, 3) := by decide +kernel
theorem d_X12_findWood_153 : decode cX12_findWood 153 = .ok (.iload 5, 2) := by decide +kernel
theorem d_X12_findWood_155 : decode cX12_findWood 155 = .ok (.iaload, 1) := by decide +kernel
theorem d_X12_findWood_156 : decode cX12_findWood 156 = .ok (.aload_n 0, 1) := by decide +kernel
theorem d_X12_findWood_157 : decode cX12_findWood 157 = .ok (.iload_n 2, 1) := by decide +kernel
theorem d_X12_findWood_158 : decode cX12_findWood 158 = .ok (.iload_n 3, 1) := by decide +kernel
theorem d_X12_findWood_159 : decode cX12_findWood 159 = .ok (.iload 5, 2) := by decide +kernel
theorem d_X12_findWood_161 : decode cX12_findWood 161 = .ok (.invokestatic 270, 3) := by decide +kernel
theorem d_X12_findWood_164 : decode cX12_findWood 164 = .ok (.iconst 0, 1) := by decide +kernel
theorem d_X12_findWood_165 : decode cX12_findWood 165 = .ok (.invokevirtual 225, 3) := by decide +kernel
theorem d_X12_findWood_168 : decode cX12_findWood 168 = .ok (.isub, 1) := by decide +kernel
theorem d_X12_findWood_169 : decode cX12_findWood 169 = .ok (.iadd, 1) := by decide +kernel
theorem d_X12_findWood_170 : decode cX12_findWood 170 = .ok (.istore 4, 2) := by decide +kernel
theorem d_X12_findWood_172 : decode cX12_findWood 172 = .ok (.iinc 5 1, 3) := by decide +kernel
theorem d_X12_findWood_175 : decode cX12_findWood 175 = .ok (.goto (-69), 3) := by decide +kernel
theorem d_X12_findWood_178 : decode cX12_findWood 178 = .ok (.aload_n 0, 1) := by decide +kernel
theorem d_X12_findWood_179 : decode cX12_findWood 179 = .ok (.getfield 107, 3) := by decide +kernel
theorem d_X12_findWood_182 : decode cX12_findWood 182 = .ok (.iconst 0, 1) := by decide +kernel
theorem d_X12_findWood_183 : decode cX12_findWood 183 = .ok (.iaload, 1) := by decide +kernel
theorem d_X12_findWood_184 : decode cX12_findWood 184 = .ok (.ireturn, 1) := by decide +kernel
theorem d_X12_wooding_0 : decode cX12_wooding 0 = .ok (.aload_n 0, 1) := by decide +kernel
theorem d_X12_wooding_1 : decode cX12_wooding 1 = .ok (.iload_n 1, 1) := by decide +kernel
theorem d_X12_wooding_2 : decode cX12_wooding 2 = .ok (.invokevirtual 238, 3) := by decide +kernel
theorem d_X12_wooding_5 : decode cX12_wooding 5 = .ok (.ifCond .eq 19, 3) := by decide +kernel
theorem d_X12_wooding_8 : decode cX12_wooding 8 = .ok (.aload_n 0, 1) := by decide +kernel
theorem d_X12_wooding_9 : decode cX12_wooding 9 = .ok (.iload_n 2, 1) := by decide +kernel
theorem d_X12_wooding_10 : decode cX12_wooding 10 = .ok (.invokevirtual 229, 3) := by decide +kernel
theorem d_X12_wooding_13 : decode cX12_wooding 13 = .ok (.ifCond .eq 11, 3) := by decide +kernel
theorem d_X12_wooding_16 : decode cX12_wooding 16 = .ok (.aload_n 0, 1) := by decide +kernel
theorem d_X12_wooding_17 : decode cX12_wooding 17 = .ok (.iload_n 3, 1) := by decide +kernel
theorem d_X12_wooding_18 : decode cX12_wooding 18 = .ok (.invokevirtual 229, 3) := by decide +kernel
theorem d_X12_wooding_21 : decode cX12_wooding 21 = .ok (.ifCond .ne 5, 3) := by decide +kernel
theorem d_X12_wooding_24 : decode cX12_wooding 24 = .ok (.iconst (-1), 1) := by decide +kernel
theorem d_X12_wooding_25 : decode cX12_wooding 25 = .ok (.ireturn, 1) := by decide +kernel
theorem d_X12_wooding_26 : decode cX12_wooding 26 = .ok (.aload_n 0, 1) := by decide +kernel
theorem d_X12_wooding_27 : decode cX12_wooding 27 = .ok (.iload_n 1, 1) := by decide +kernel
theorem d_X12_wooding_28 : decode cX12_wooding 28 = .ok (.iload_n 2, 1) := by decide +kernel
theorem d_X12_wooding_29 : decode cX12_wooding 29 = .ok (.iload_n 3, 1) := by decide +kernel
theorem d_X12_wooding_30 : decode cX12_wooding 30 = .ok (.invokevirtual 281, 3) := by decide +kernel
theorem d_X12_wooding_33 : decode cX12_wooding 33 = .ok (.istore 4, 2) := by decide +kernel
theorem d_X12_wooding_35 : decode cX12_wooding 35 = .ok (.iload 4, 2) := by decide +kernel
theorem d_X12_wooding_37 : decode cX12_wooding 37 = .ok (.ldc_w 273, 3) := by decide +kernel
theorem d_X12_wooding_40 : decode cX12_wooding 40 = .ok (.if_icmp .ne 7, 3) := by decide +kernel
theorem d_X12_wooding_43 : decode cX12_wooding 43 = .ok (.iconst (-1), 1) := by decide +kernel
theorem d_X12_wooding_44 : decode cX12_wooding 44 = .ok (.goto 5, 3) := by decide +kernel
theorem d_X12_wooding_47 : decode cX12_wooding 47 = .ok (.iload 4, 2) := by decide +kernel
theorem d_X12_wooding_49 : decode cX12_wooding 49 = .ok (.ireturn, 1) := by decide +kernel
theorem d_X12_bought_0 : decode cX12_bought 0 = .ok (.aload_n 0, 1) := by decide +kernel
theorem d_X12_bought_1 : decode cX12_bought 1 = .ok (.iload_n 1, 1) := by decide +kernel
theorem d_X12_bought_2 : decode cX12_bought 2 = .ok (.iload_n 2, 1) := by decide +kernel
theorem d_X12_bought_3 : decode cX12_bought 3 = .ok (.iload_n 3, 1) := by decide +kernel
theorem d_X12_bought_4 : decode cX12_bought 4 = .ok (.invokevirtual 284, 3) := by decide +kernel
theorem d_X12_bought_7 : decode cX12_bought 7 = .ok (.iconst (-1), 1) := by decide +kernel
theorem d_X12_bought_8 : decode cX12_bought 8 = .ok (.if_icmp .eq 28, 3) := by decide +kernel
theorem d_X12_bought_11 : decode cX12_bought 11 = .ok (.iload 4, 2) := by decide +kernel
theorem d_X12_bought_13 : decode cX12_bought 13 = .ok (.iconst 0, 1) := by decide +kernel
theorem d_X12_bought_14 : decode cX12_bought 14 = .ok (.aload_n 0, 1) := by decide +kernel
theorem d_X12_bought_15 : decode cX12_bought 15 = .ok (.getfield 274, 3) := by decide +kernel
theorem d_X12_bought_18 : decode cX12_bought 18 = .ok (.iconst 1, 1) := by decide +kernel
theorem d_X12_bought_19 : decode cX12_bought 19 = .ok (.isub, 1) := by decide +kernel
theorem d_X12_bought_20 : decode cX12_bought 20 = .ok (.invokestatic 174, 3) := by decide +kernel
theorem d_X12_bought_23 : decode cX12_bought 23 = .ok (.ifCond .eq 13, 3) := by decide +kernel
theorem d_X12_bought_26 : decode cX12_bought 26 = .ok (.aload_n 0, 1) := by decide +kernel
theorem d_X12_bought_27 : decode cX12_bought 27 = .ok (.getfield 113, 3) := by decide +kernel
theorem d_X12_bought_30 : decode cX12_bought 30 = .ok (.iload 4, 2) := by decide +kernel
theorem d_X12_bought_32 : decode cX12_bought 32 = .ok (.iaload, 1) := by decide +kernel
theorem d_X12_bought_33 : decode cX12_bought 33 = .ok (.goto 4, 3) := by decide +kernel
theorem d_X12_bought_36 : decode cX12_bought 36 = .ok (.iconst (-1), 1) := by decide +kernel
theorem d_X12_bought_37 : decode cX12_bought 37 = .ok (.ireturn, 1) := by decide +kernel
theorem d_X12_trip_0 : decode cX12_trip 0 = .ok (.aload_n 0, 1) := by decide +kernel
theorem d_X12_trip_1 : decode cX12_trip 1 = .ok (.iload_n 1, 1) := by decide +kernel
theorem d_X12_trip_2 : decode cX12_trip 2 = .ok (.invokevirtual 229, 3) := by decide +kernel
theorem d_X12_trip_5 : decode cX12_trip 5 = .ok (.ifCond .eq 26, 3) := by decide +kernel
theorem d_X12_trip_8 : decode cX12_trip 8 = .ok (.aload_n 0, 1) := by decide +kernel
theorem d_X12_trip_9 : decode cX12_trip 9 = .ok (.iload_n 2, 1) := by decide +kernel
theorem d_X12_trip_10 : decode cX12_trip 10 = .ok (.invokevirtual 229, 3) := by decide +kernel
theorem d_X12_trip_13 : decode cX12_trip 13 = .ok (.ifCond .eq 18, 3) := by decide +kernel
theorem d_X12_trip_16 : decode cX12_trip 16 = .ok (.iload_n 1, 1) := by decide +kernel
theorem d_X12_trip_17 : decode cX12_trip 17 = .ok (.iload_n 2, 1) := by decide +kernel
theorem d_X12_trip_18 : decode cX12_trip 18 = .ok (.if_icmp .eq 13, 3) := by decide +kernel
theorem d_X12_trip_21 : decode cX12_trip 21 = .ok (.iload_n 3, 1) := by decide +kernel
theorem d_X12_trip_22 : decode cX12_trip 22 = .ok (.iconst 0, 1) := by decide +kernel
theorem d_X12_trip_23 : decode cX12_trip 23 = .ok (.bipush 9, 2) := by decide +kernel
theorem d_X12_trip_25 : decode cX12_trip 25 = .ok (.invokestatic 174, 3) := by decide +kernel
theorem d_X12_trip_28 : decode cX12_trip 28 = .ok (.ifCond .ne 9, 3) := by decide +kernel
theorem d_X12_trip_31 : decode cX12_trip 31 = .ok (.aload_n 0, 1) := by decide +kernel
theorem d_X12_trip_32 : decode cX12_trip 32 = .ok (.iconst 1, 1) := by decide +kernel
theorem d_X12_trip_33 : decode cX12_trip 33 = .ok (.invokevirtual 187, 3) := by decide +kernel
theorem d_X12_trip_36 : decode cX12_trip 36 = .ok (.ireturn, 1) := by decide +kernel
theorem d_X12_trip_37 : decode cX12_trip 37 = .ok (.aload_n 0, 1) := by decide +kernel
theorem d_X12_trip_38 : decode cX12_trip 38 = .ok (.getfield 287, 3) := by decide +kernel
theorem d_X12_trip_41 : decode cX12_trip 41 = .ok (.bipush 6, 2) := by decide +kernel
theorem d_X12_trip_43 : decode cX12_trip 43 = .ok (.if_icmp .ne 9, 3) := by decide +kernel
theorem d_X12_trip_46 : decode cX12_trip 46 = .ok (.aload_n 0, 1) := by decide +kernel
theorem d_X12_trip_47 : decode cX12_trip 47 = .ok (.iconst 2, 1) := by decide +kernel
theorem d_X12_trip_48 : decode cX12_trip 48 = .ok (.invokevirtual 187, 3) := by decide +kernel
theorem d_X12_trip_51 : decode cX12_trip 51 = .ok (.ireturn, 1) := by decide +kernel
theorem d_X12_trip_52 : decode cX12_trip 52 = .ok (.aload_n 0, 1) := by decide +kernel
theorem d_X12_trip_53 : decode cX12_trip 53 = .ok (.getfield 86, 3) := by decide +kernel
theorem d_X12_trip_56 : decode cX12_trip 56 = .ok (.aload_n 0, 1) := by decide +kernel
theorem d_X12_trip_57 : decode cX12_trip 57 = .ok (.getfield 287, 3) := by decide +kernel
theorem d_X12_trip_60 : decode cX12_trip 60 = .ok (.iload_n 1, 1) := by decide +kernel
theorem d_X12_trip_61 : decode cX12_trip 61 = .ok (.iastore, 1) := by decide +kernel
theorem d_X12_trip_62 : decode cX12_trip 62 = .ok (.aload_n 0, 1) := by decide +kernel
theorem d_X12_trip_63 : decode cX12_trip 63 = .ok (.getfield 89, 3) := by decide +kernel
theorem d_X12_trip_66 : decode cX12_trip 66 = .ok (.aload_n 0, 1) := by decide +kernel
theorem d_X12_trip_67 : decode cX12_trip 67 = .ok (.getfield 287, 3) := by decide +kernel
theorem d_X12_trip_70 : decode cX12_trip 70 = .ok (.iload_n 2, 1) := by decide +kernel
theorem d_X12_trip_71 : decode cX12_trip 71 = .ok (.iastore, 1) := by decide +kernel
theorem d_X12_trip_72 : decode cX12_trip 72 = .ok (.aload_n 0, 1) := by decide +kernel
theorem d_X12_trip_73 : decode cX12_trip 73 = .ok (.getfield 92, 3) := by decide +kernel
theorem d_X12_trip_76 : decode cX12_trip 76 = .ok (.aload_n 0, 1) := by decide +kernel
theorem d_X12_trip_77 : decode cX12_trip 77 = .ok (.getfield 287, 3) := by decide +kernel
theorem d_X12_trip_80 : decode cX12_trip 80 = .ok (.iload_n 3, 1) := by decide +kernel
theorem d_X12_trip_81 : decode cX12_trip 81 = .ok (.iastore, 1) := by decide +kernel
theorem d_X12_trip_82 : decode cX12_trip 82 = .ok (.aload_n 0, 1) := by decide +kernel
theorem d_X12_trip_83 : decode cX12_trip 83 = .ok (.dup, 1) := by decide +kernel
theorem d_X12_trip_84 : decode cX12_trip 84 = .ok (.getfield 287, 3) := by decide +kernel
theorem d_X12_trip_87 : decode cX12_trip 87 = .ok (.iconst 1, 1) := by decide +kernel
theorem d_X12_trip_88 : decode cX12_trip 88 = .ok (.iadd, 1) := by decide +kernel
theorem d_X12_trip_89 : decode cX12_trip 89 = .ok (.putfield 287, 3) := by decide +kernel
theorem d_X12_trip_92 : decode cX12_trip 92 = .ok (.aload_n 0, 1) := by decide +kernel
theorem d_X12_trip_93 : decode cX12_trip 93 = .ok (.aload_n 0, 1) := by decide +kernel
theorem d_X12_trip_94 : decode cX12_trip 94 = .ok (.getfield 287, 3) := by decide +kernel
theorem d_X12_trip_97 : decode cX12_trip 97 = .ok (.iconst 1, 1) := by decide +kernel
theorem d_X12_trip_98 : decode cX12_trip 98 = .ok (.isub, 1) := by decide +kernel
theorem d_X12_trip_99 : decode cX12_trip 99 = .ok (.invokevirtual 191, 3) := by decide +kernel
theorem d_X12_trip_102 : decode cX12_trip 102 = .ok (.ireturn, 1) := by decide +kernel
theorem d_X12_helps_0 : decode cX12_helps 0 = .ok (.iconst 0, 1) := by decide +kernel
theorem d_X12_helps_1 : decode cX12_helps 1 = .ok (.istore_n 2, 1) := by decide +kernel
theorem d_X12_helps_2 : decode cX12_helps 2 = .ok (.iload_n 2, 1) := by decide +kernel
theorem d_X12_helps_3 : decode cX12_helps 3 = .ok (.aload_n 0, 1) := by decide +kernel
theorem d_X12_helps_4 : decode cX12_helps 4 = .ok (.getfield 287, 3) := by decide +kernel
theorem d_X12_helps_7 : decode cX12_helps 7 = .ok (.if_icmp .ge 128, 3) := by decide +kernel
theorem d_X12_helps_10 : decode cX12_helps 10 = .ok (.iconst 0, 1) := by decide +kernel
theorem d_X12_helps_11 : decode cX12_helps 11 = .ok (.istore_n 3, 1) := by decide +kernel
theorem d_X12_helps_12 : decode cX12_helps 12 = .ok (.aload_n 0, 1) := by decide +kernel
theorem d_X12_helps_13 : decode cX12_helps 13 = .ok (.getfield 86, 3) := by decide +kernel
theorem d_X12_helps_16 : decode cX12_helps 16 = .ok (.iload_n 2, 1) := by decide +kernel
theorem d_X12_helps_17 : decode cX12_helps 17 = .ok (.iaload, 1) := by decide +kernel
theorem d_X12_helps_18 : decode cX12_helps 18 = .ok (.aload_n 0, 1) := by decide +kernel
theorem d_X12_helps_19 : decode cX12_helps 19 = .ok (.getfield 89, 3) := by decide +kernel
theorem d_X12_helps_22 : decode cX12_helps 22 = .ok (.iload_n 2, 1) := by decide +kernel
theorem d_X12_helps_23 : decode cX12_helps 23 = .ok (.iaload, 1) := by decide +kernel
theorem d_X12_helps_24 : decode cX12_helps 24 = .ok (.if_icmp .ge 12, 3) := by decide +kernel
theorem d_X12_helps_27 : decode cX12_helps 27 = .ok (.aload_n 0, 1) := by decide +kernel
theorem d_X12_helps_28 : decode cX12_helps 28 = .ok (.getfield 86, 3) := by decide +kernel
theorem d_X12_helps_31 : decode cX12_helps 31 = .ok (.iload_n 2, 1) := by decide +kernel
theorem d_X12_helps_32 : decode cX12_helps 32 = .ok (.iaload, 1) := by decide +kernel
theorem d_X12_helps_33 : decode cX12_helps 33 = .ok (.goto 9, 3) := by decide +kernel
theorem d_X12_helps_36 : decode cX12_helps 36 = .ok (.aload_n 0, 1) := by decide +kernel
theorem d_X12_helps_37 : decode cX12_helps 37 = .ok (.getfield 89, 3) := by decide +kernel
theorem d_X12_helps_40 : decode cX12_helps 40 = .ok (.iload_n 2, 1) := by decide +kernel
theorem d_X12_helps_41 : decode cX12_helps 41 = .ok (.iaload, 1) := by decide +kernel
theorem d_X12_helps_42 : decode cX12_helps 42 = .ok (.istore 4, 2) := by decide +kernel
theorem d_X12_helps_44 : decode cX12_helps 44 = .ok (.aload_n 0, 1) := by decide +kernel
theorem d_X12_helps_45 : decode cX12_helps 45 = .ok (.getfield 86, 3) := by decide +kernel
theorem d_X12_helps_48 : decode cX12_helps 48 = .ok (.iload_n 2, 1) := by decide +kernel
theorem d_X12_helps_49 : decode cX12_helps 49 = .ok (.iaload, 1) := by decide +kernel
theorem d_X12_helps_50 : decode cX12_helps 50 = .ok (.aload_n 0, 1) := by decide +kernel
theorem d_X12_helps_51 : decode cX12_helps 51 = .ok (.getfield 89, 3) := by decide +kernel
theorem d_X12_helps_54 : decode cX12_helps 54 = .ok (.iload_n 2, 1) := by decide +kernel
theorem d_X12_helps_55 : decode cX12_helps 55 = .ok (.iaload, 1) := by decide +kernel
theorem d_X12_helps_56 : decode cX12_helps 56 = .ok (.iadd, 1) := by decide +kernel
theorem d_X12_helps_57 : decode cX12_helps 57 = .ok (.iload 4, 2) := by decide +kernel
theorem d_X12_helps_59 : decode cX12_helps 59 = .ok (.isub, 1) := by decide +kernel
theorem d_X12_helps_60 : decode cX12_helps 60 = .ok (.istore 5, 2) := by decide +kernel
theorem d_X12_helps_62 : decode cX12_helps 62 = .ok (.iload 4, 2) := by decide +kernel
theorem d_X12_helps_64 : decode cX12_helps 64 = .ok (.istore 6, 2) := by decide +kernel
theorem d_X12_helps_66 : decode cX12_helps 66 = .ok (.iload 6, 2) := by decide +kernel
theorem d_X12_helps_68 : decode cX12_helps 68 = .ok (.iload 5, 2) := by decide +kernel
theorem d_X12_helps_70 : decode cX12_helps 70 = .ok (.if_icmp .ge 47, 3) := by decide +kernel
theorem d_X12_helps_73 : decode cX12_helps 73 = .ok (.iload_n 3, 1) := by decide +kernel
theorem d_X12_helps_74 : decode cX12_helps 74 = .ok (.aload_n 0, 1) := by decide +kernel
theorem d_X12_helps_75 : decode cX12_helps 75 = .ok (.getfield 7, 3) := by decide +kernel
theorem d_X12_helps_78 : decode cX12_helps 78 = .ok (.iload 6, 2) := by decide +kernel
theorem d_X12_helps_80 : decode cX12_helps 80 = .ok (.iaload, 1) := by decide +kernel
theorem d_X12_helps_81 : decode cX12_helps 81 = .ok (.iconst 3, 1) := by decide +kernel
theorem d_X12_helps_82 : decode cX12_helps 82 = .ok (.if_icmp .ne 26, 3) := by decide +kernel
theorem d_X12_helps_85 : decode cX12_helps 85 = .ok (.aload_n 0, 1) := by decide +kernel
theorem d_X12_helps_86 : decode cX12_helps 86 = .ok (.getfield 19, 3) := by decide +kernel
theorem d_X12_helps_89 : decode cX12_helps 89 = .ok (.iload 6, 2) := by decide +kernel
theorem d_X12_helps_91 : decode cX12_helps 91 = .ok (.baload, 1) := by decide +kernel
theorem d_X12_helps_92 : decode cX12_helps 92 = .ok (.ifCond .ne 16, 3) := by decide +kernel
theorem d_X12_helps_95 : decode cX12_helps 95 = .ok (.iload_n 1, 1) := by decide +kernel
theorem d_X12_helps_96 : decode cX12_helps 96 = .ok (.iload 6, 2) := by decide +kernel
theorem d_X12_helps_98 : decode cX12_helps 98 = .ok (.ishr, 1) := by decide +kernel
theorem d_X12_helps_99 : decode cX12_helps 99 = .ok (.iconst 1, 1) := by decide +kernel
theorem d_X12_helps_100 : decode cX12_helps 100 = .ok (.iand, 1) := by decide +kernel
theorem d_X12_helps_101 : decode cX12_helps 101 = .ok (.ifCond .ne 7, 3) := by decide +kernel
theorem d_X12_helps_104 : decode cX12_helps 104 = .ok (.iconst 1, 1) := by decide +kernel
theorem d_X12_helps_105 : decode cX12_helps 105 = .ok (.goto 4, 3) := by decide +kernel
theorem d_X12_helps_108 : decode cX12_helps 108 = .ok (.iconst 0, 1) := by decide +kernel
theorem d_X12_helps_109 : decode cX12_helps 109 = .ok (.iadd, 1) := by decide +kernel
theorem d_X12_helps_110 : decode cX12_helps 110 = .ok (.istore_n 3, 1) := by decide +kernel
theorem d_X12_helps_111 : decode cX12_helps 111 = .ok (.iinc 6 1, 3) := by decide +kernel
theorem d_X12_helps_114 : decode cX12_helps 114 = .ok (.goto (-48), 3) := by decide +kernel
theorem d_X12_helps_117 : decode cX12_helps 117 = .ok (.iload_n 3, 1) := by decide +kernel
theorem d_X12_helps_118 : decode cX12_helps 118 = .ok (.aload_n 0, 1) := by decide +kernel
theorem d_X12_helps_119 : decode cX12_helps 119 = .ok (.getfield 92, 3) := by decide +kernel
theorem d_X12_helps_122 : decode cX12_helps 122 = .ok (.iload_n 2, 1) := by decide +kernel
theorem d_X12_helps_123 : decode cX12_helps 123 = .ok (.iaload, 1) := by decide +kernel
theorem d_X12_helps_124 : decode cX12_helps 124 = .ok (.if_icmp .le 5, 3) := by decide +kernel
theorem d_X12_helps_127 : decode cX12_helps 127 = .ok (.iconst 0, 1) := by decide +kernel
theorem d_X12_helps_128 : decode cX12_helps 128 = .ok (.ireturn, 1) := by decide +kernel
theorem d_X12_helps_129 : decode cX12_helps 129 = .ok (.iinc 2 1, 3) := by decide +kernel
theorem d_X12_helps_132 : decode cX12_helps 132 = .ok (.goto (-130), 3) := by decide +kernel
theorem d_X12_helps_135 : decode cX12_helps 135 = .ok (.iconst 1, 1) := by decide +kernel
theorem d_X12_helps_136 : decode cX12_helps 136 = .ok (.ireturn, 1) := by decide +kernel
theorem d_X12_many_0 : decode cX12_many 0 = .ok (.iconst 0, 1) := by decide +kernel
theorem d_X12_many_1 : decode cX12_many 1 = .ok (.istore_n 1, 1) := by decide +kernel
theorem d_X12_many_2 : decode cX12_many 2 = .ok (.iconst 0, 1) := by decide +kernel
theorem d_X12_many_3 : decode cX12_many 3 = .ok (.istore_n 2, 1) := by decide +kernel
theorem d_X12_many_4 : decode cX12_many 4 = .ok (.iload_n 2, 1) := by decide +kernel
theorem d_X12_many_5 : decode cX12_many 5 = .ok (.bipush 12, 2) := by decide +kernel
theorem d_X12_many_7 : decode cX12_many 7 = .ok (.if_icmp .ge 17, 3) := by decide +kernel
theorem d_X12_many_10 : decode cX12_many 10 = .ok (.iload_n 1, 1) := by decide +kernel
theorem d_X12_many_11 : decode cX12_many 11 = .ok (.iload_n 0, 1) := by decide +kernel
theorem d_X12_many_12 : decode cX12_many 12 = .ok (.iload_n 2, 1) := by decide +kernel
theorem d_X12_many_13 : decode cX12_many 13 = .ok (.ishr, 1) := by decide +kernel
theorem d_X12_many_14 : decode cX12_many 14 = .ok (.iconst 1, 1) := by decide +kernel
theorem d_X12_many_15 : decode cX12_many 15 = .ok (.iand, 1) := by decide +kernel
theorem d_X12_many_16 : decode cX12_many 16 = .ok (.iadd, 1) := by decide +kernel
theorem d_X12_many_17 : decode cX12_many 17 = .ok (.istore_n 1, 1) := by decide +kernel
theorem d_X12_many_18 : decode cX12_many 18 = .ok (.iinc 2 1, 3) := by decide +kernel
theorem d_X12_many_21 : decode cX12_many 21 = .ok (.goto (-17), 3) := by decide +kernel
theorem d_X12_many_24 : decode cX12_many 24 = .ok (.iload_n 1, 1) := by decide +kernel
theorem d_X12_many_25 : decode cX12_many 25 = .ok (.ireturn, 1) := by decide +kernel
theorem d_X12_lights_0 : decode cX12_lights 0 = .ok (.iconst 0, 1) := by decide +kernel
theorem d_X12_lights_1 : decode cX12_lights 1 = .ok (.istore_n 1, 1) := by decide +kernel
theorem d_X12_lights_2 : decode cX12_lights 2 = .ok (.iconst 0, 1) := by decide +kernel
theorem d_X12_lights_3 : decode cX12_lights 3 = .ok (.istore_n 2, 1) := by decide +kernel
theorem d_X12_lights_4 : decode cX12_lights 4 = .ok (.iload_n 2, 1) := by decide +kernel
theorem d_X12_lights_5 : decode cX12_lights 5 = .ok (.aload_n 0, 1) := by decide +kernel
theorem d_X12_lights_6 : decode cX12_lights 6 = .ok (.getfield 171, 3) := by decide +kernel
theorem d_X12_lights_9 : decode cX12_lights 9 = .ok (.if_icmp .ge 38, 3) := by decide +kernel
theorem d_X12_lights_12 : decode cX12_lights 12 = .ok (.iload_n 1, 1) := by decide +kernel
theorem d_X12_lights_13 : decode cX12_lights 13 = .ok (.aload_n 0, 1) := by decide +kernel
theorem d_X12_lights_14 : decode cX12_lights 14 = .ok (.getfield 7, 3) := by decide +kernel
theorem d_X12_lights_17 : decode cX12_lights 17 = .ok (.iload_n 2, 1) := by decide +kernel
theorem d_X12_lights_18 : decode cX12_lights 18 = .ok (.iaload, 1) := by decide +kernel
theorem d_X12_lights_19 : decode cX12_lights 19 = .ok (.iconst 3, 1) := by decide +kernel
theorem d_X12_lights_20 : decode cX12_lights 20 = .ok (.if_icmp .ne 18, 3) := by decide +kernel
theorem d_X12_lights_23 : decode cX12_lights 23 = .ok (.aload_n 0, 1) := by decide +kernel
theorem d_X12_lights_24 : decode cX12_lights 24 = .ok (.getfield 19, 3) := by decide +kernel
theorem d_X12_lights_27 : decode cX12_lights 27 = .ok (.iload_n 2, 1) := by decide +kernel
theorem d_X12_lights_28 : decode cX12_lights 28 = .ok (.baload, 1) := by decide +kernel
theorem d_X12_lights_29 : decode cX12_lights 29 = .ok (.ifCond .ne 9, 3) := by decide +kernel
theorem d_X12_lights_32 : decode cX12_lights 32 = .ok (.iconst 1, 1) := by decide +kernel
theorem d_X12_lights_33 : decode cX12_lights 33 = .ok (.iload_n 2, 1) := by decide +kernel
theorem d_X12_lights_34 : decode cX12_lights 34 = .ok (.ishl, 1) := by decide +kernel
theorem d_X12_lights_35 : decode cX12_lights 35 = .ok (.goto 4, 3) := by decide +kernel
theorem d_X12_lights_38 : decode cX12_lights 38 = .ok (.iconst 0, 1) := by decide +kernel
theorem d_X12_lights_39 : decode cX12_lights 39 = .ok (.ior, 1) := by decide +kernel
theorem d_X12_lights_40 : decode cX12_lights 40 = .ok (.istore_n 1, 1) := by decide +kernel
theorem d_X12_lights_41 : decode cX12_lights 41 = .ok (.iinc 2 1, 3) := by decide +kernel
theorem d_X12_lights_44 : decode cX12_lights 44 = .ok (.goto (-40), 3) := by decide +kernel
theorem d_X12_lights_47 : decode cX12_lights 47 = .ok (.iconst (-1), 1) := by decide +kernel
theorem d_X12_lights_48 : decode cX12_lights 48 = .ok (.istore_n 2, 1) := by decide +kernel
theorem d_X12_lights_49 : decode cX12_lights 49 = .ok (.iconst 0, 1) := by decide +kernel
theorem d_X12_lights_50 : decode cX12_lights 50 = .ok (.istore_n 3, 1) := by decide +kernel
theorem d_X12_lights_51 : decode cX12_lights 51 = .ok (.iload_n 3, 1) := by decide +kernel
theorem d_X12_lights_52 : decode cX12_lights 52 = .ok (.iconst 1, 1) := by decide +kernel
theorem d_X12_lights_53 : decode cX12_lights 53 = .ok (.aload_n 0, 1) := by decide +kernel
theorem d_X12_lights_54 : decode cX12_lights 54 = .ok (.getfield 171, 3) := by decide +kernel
theorem d_X12_lights_57 : decode cX12_lights 57 = .ok (.ishl, 1) := by decide +kernel
theorem d_X12_lights_58 : decode cX12_lights 58 = .ok (.if_icmp .ge 43, 3) := by decide +kernel
theorem d_X12_lights_61 : decode cX12_lights 61 = .ok (.iload_n 3, 1) := by decide +kernel
theorem d_X12_lights_62 : decode cX12_lights 62 = .ok (.iload_n 1, 1) := by decide +kernel
theorem d_X12_lights_63 : decode cX12_lights 63 = .ok (.iconst (-1), 1) := by decide +kernel
theorem d_X12_lights_64 : decode cX12_lights 64 = .ok (.ixor, 1) := by decide +kernel
theorem d_X12_lights_65 : decode cX12_lights 65 = .ok (.iand, 1) := by decide +kernel
theorem d_X12_lights_66 : decode cX12_lights 66 = .ok (.ifCond .ne 29, 3) := by decide +kernel
theorem d_X12_lights_69 : decode cX12_lights 69 = .ok (.iload_n 2, 1) := by decide +kernel
theorem d_X12_lights_70 : decode cX12_lights 70 = .ok (.iconst (-1), 1) := by decide +kernel
theorem d_X12_lights_71 : decode cX12_lights 71 = .ok (.if_icmp .eq 14, 3) := by decide +kernel
theorem d_X12_lights_74 : decode cX12_lights 74 = .ok (.iload_n 3, 1) := by decide +kernel
theorem d_X12_lights_75 : decode cX12_lights 75 = .ok (.invokestatic 290, 3) := by decide +kernel
theorem d_X12_lights_78 : decode cX12_lights 78 = .ok (.iload_n 2, 1) := by decide +kernel
theorem d_X12_lights_79 : decode cX12_lights 79 = .ok (.invokestatic 290, 3) := by decide +kernel
theorem d_X12_lights_82 : decode cX12_lights 82 = .ok (.if_icmp .ge 13, 3) := by decide +kernel
theorem d_X12_lights_85 : decode cX12_lights 85 = .ok (.aload_n 0, 1) := by decide +kernel
theorem d_X12_lights_86 : decode cX12_lights 86 = .ok (.iload_n 3, 1) := by decide +kernel
theorem d_X12_lights_87 : decode cX12_lights 87 = .ok (.invokevirtual 293, 3) := by decide +kernel
theorem d_X12_lights_90 : decode cX12_lights 90 = .ok (.ifCond .eq 5, 3) := by decide +kernel
theorem d_X12_lights_93 : decode cX12_lights 93 = .ok (.iload_n 3, 1) := by decide +kernel
theorem d_X12_lights_94 : decode cX12_lights 94 = .ok (.istore_n 2, 1) := by decide +kernel
theorem d_X12_lights_95 : decode cX12_lights 95 = .ok (.iinc 3 1, 3) := by decide +kernel
theorem d_X12_lights_98 : decode cX12_lights 98 = .ok (.goto (-47), 3) := by decide +kernel
theorem d_X12_lights_101 : decode cX12_lights 101 = .ok (.iload_n 2, 1) := by decide +kernel
theorem d_X12_lights_102 : decode cX12_lights 102 = .ok (.ireturn, 1) := by decide +kernel
theorem d_X12_rule_0 : decode cX12_rule 0 = .ok (.iload_n 1, 1) := by decide +kernel
theorem d_X12_rule_1 : decode cX12_rule 1 = .ok (.iconst 0, 1) := by decide +kernel
theorem d_X12_rule_2 : decode cX12_rule 2 = .ok (.iconst 5, 1) := by decide +kernel
theorem d_X12_rule_3 : decode cX12_rule 3 = .ok (.invokestatic 174, 3) := by decide +kernel
theorem d_X12_rule_6 : decode cX12_rule 6 = .ok (.ifCond .eq 42, 3) := by decide +kernel
theorem d_X12_rule_9 : decode cX12_rule 9 = .ok (.iload_n 2, 1) := by decide +kernel
theorem d_X12_rule_10 : decode cX12_rule 10 = .ok (.iconst 0, 1) := by decide +kernel
theorem d_X12_rule_11 : decode cX12_rule 11 = .ok (.iconst 2, 1) := by decide +kernel
theorem d_X12_rule_12 : decode cX12_rule 12 = .ok (.invokestatic 174, 3) := by decide +kernel
theorem d_X12_rule_15 : decode cX12_rule 15 = .ok (.ifCond .eq 33, 3) := by decide +kernel
theorem d_X12_rule_18 : decode cX12_rule 18 = .ok (.iload_n 3, 1) := by decide +kernel
theorem d_X12_rule_19 : decode cX12_rule 19 = .ok (.ifCond .lt 29, 3) := by decide +kernel
theorem d_X12_rule_22 : decode cX12_rule 22 = .ok (.iload_n 3, 1) := by decide +kernel
theorem d_X12_rule_23 : decode cX12_rule 23 = .ok (.bipush 100, 2) := by decide +kernel
theorem d_X12_rule_25 : decode cX12_rule 25 = .ok (.idiv, 1) := by decide +kernel
theorem d_X12_rule_26 : decode cX12_rule 26 = .ok (.invokestatic 194, 3) := by decide +kernel
theorem d_X12_rule_29 : decode cX12_rule 29 = .ok (.ifCond .eq 19, 3) := by decide +kernel
theorem d_X12_rule_32 : decode cX12_rule 32 = .ok (.iload_n 3, 1) := by decide +kernel
theorem d_X12_rule_33 : decode cX12_rule 33 = .ok (.bipush 100, 2) := by decide +kernel
theorem d_X12_rule_35 : decode cX12_rule 35 = .ok (.irem, 1) := by decide +kernel
theorem d_X12_rule_36 : decode cX12_rule 36 = .ok (.iload_n 3, 1) := by decide +kernel
theorem d_X12_rule_37 : decode cX12_rule 37 = .ok (.bipush 100, 2) := by decide +kernel
theorem d_X12_rule_39 : decode cX12_rule 39 = .ok (.idiv, 1) := by decide +kernel
theorem d_X12_rule_40 : decode cX12_rule 40 = .ok (.bipush 99, 2) := by decide +kernel
theorem d_X12_rule_42 : decode cX12_rule 42 = .ok (.invokestatic 174, 3) := by decide +kernel
theorem d_X12_rule_45 : decode cX12_rule 45 = .ok (.ifCond .ne 9, 3) := by decide +kernel
theorem d_X12_rule_48 : decode cX12_rule 48 = .ok (.aload_n 0, 1) := by decide +kernel
theorem d_X12_rule_49 : decode cX12_rule 49 = .ok (.iconst 1, 1) := by decide +kernel
theorem d_X12_rule_50 : decode cX12_rule 50 = .ok (.invokevirtual 187, 3) := by decide +kernel
theorem d_X12_rule_53 : decode cX12_rule 53 = .ok (.ireturn, 1) := by decide +kernel
theorem d_X12_rule_54 : decode cX12_rule 54 = .ok (.aload_n 0, 1) := by decide +kernel
theorem d_X12_rule_55 : decode cX12_rule 55 = .ok (.getfield 296, 3) := by decide +kernel
theorem d_X12_rule_58 : decode cX12_rule 58 = .ok (.bipush 8, 2) := by decide +kernel
theorem d_X12_rule_60 : decode cX12_rule 60 = .ok (.if_icmp .ne 9, 3) := by decide +kernel
theorem d_X12_rule_63 : decode cX12_rule 63 = .ok (.aload_n 0, 1) := by decide +kernel
theorem d_X12_rule_64 : decode cX12_rule 64 = .ok (.iconst 2, 1) := by decide +kernel
theorem d_X12_rule_65 : decode cX12_rule 65 = .ok (.invokevirtual 187, 3) := by decide +kernel
theorem d_X12_rule_68 : decode cX12_rule 68 = .ok (.ireturn, 1) := by decide +kernel
theorem d_X12_rule_69 : decode cX12_rule 69 = .ok (.aload_n 0, 1) := by decide +kernel
theorem d_X12_rule_70 : decode cX12_rule 70 = .ok (.getfield 95, 3) := by decide +kernel
theorem d_X12_rule_73 : decode cX12_rule 73 = .ok (.aload_n 0, 1) := by decide +kernel
theorem d_X12_rule_74 : decode cX12_rule 74 = .ok (.getfield 296, 3) := by decide +kernel
theorem d_X12_rule_77 : decode cX12_rule 77 = .ok (.iload_n 1, 1) := by decide +kernel
theorem d_X12_rule_78 : decode cX12_rule 78 = .ok (.iastore, 1) := by decide +kernel
theorem d_X12_rule_79 : decode cX12_rule 79 = .ok (.aload_n 0, 1) := by decide +kernel
theorem d_X12_rule_80 : decode cX12_rule 80 = .ok (.getfield 98, 3) := by decide +kernel
theorem d_X12_rule_83 : decode cX12_rule 83 = .ok (.aload_n 0, 1) := by decide +kernel
theorem d_X12_rule_84 : decode cX12_rule 84 = .ok (.getfield 296, 3) := by decide +kernel
theorem d_X12_rule_87 : decode cX12_rule 87 = .ok (.iload_n 2, 1) := by decide +kernel
theorem d_X12_rule_88 : decode cX12_rule 88 = .ok (.iastore, 1) := by decide +kernel
theorem d_X12_rule_89 : decode cX12_rule 89 = .ok (.aload_n 0, 1) := by decide +kernel
theorem d_X12_rule_90 : decode cX12_rule 90 = .ok (.getfield 101, 3) := by decide +kernel
theorem d_X12_rule_93 : decode cX12_rule 93 = .ok (.aload_n 0, 1) := by decide +kernel
theorem d_X12_rule_94 : decode cX12_rule 94 = .ok (.getfield 296, 3) := by decide +kernel
theorem d_X12_rule_97 : decode cX12_rule 97 = .ok (.iload_n 3, 1) := by decide +kernel
theorem d_X12_rule_98 : decode cX12_rule 98 = .ok (.bipush 100, 2) := by decide +kernel
theorem d_X12_rule_100 : decode cX12_rule 100 = .ok (.idiv, 1) := by decide +kernel
theorem d_X12_rule_101 : decode cX12_rule 101 = .ok (.iastore, 1) := by decide +kernel
theorem d_X12_rule_102 : decode cX12_rule 102 = .ok (.aload_n 0, 1) := by decide +kernel
theorem d_X12_rule_103 : decode cX12_rule 103 = .ok (.getfield 104, 3) := by decide +kernel
theorem d_X12_rule_106 : decode cX12_rule 106 = .ok (.aload_n 0, 1) := by decide +kernel
theorem d_X12_rule_107 : decode cX12_rule 107 = .ok (.getfield 296, 3) := by decide +kernel
theorem d_X12_rule_110 : decode cX12_rule 110 = .ok (.iload_n 3, 1) := by decide +kernel
theorem d_X12_rule_111 : decode cX12_rule 111 = .ok (.bipush 100, 2) := by decide +kernel
theorem d_X12_rule_113 : decode cX12_rule 113 = .ok (.irem, 1) := by decide +kernel
theorem d_X12_rule_114 : decode cX12_rule 114 = .ok (.iastore, 1) := by decide +kernel
theorem d_X12_rule_115 : decode cX12_rule 115 = .ok (.aload_n 0, 1) := by decide +kernel
theorem d_X12_rule_116 : decode cX12_rule 116 = .ok (.dup, 1) := by decide +kernel
theorem d_X12_rule_117 : decode cX12_rule 117 = .ok (.getfield 296, 3) := by decide +kernel
theorem d_X12_rule_120 : decode cX12_rule 120 = .ok (.iconst 1, 1) := by decide +kernel
theorem d_X12_rule_121 : decode cX12_rule 121 = .ok (.iadd, 1) := by decide +kernel
theorem d_X12_rule_122 : decode cX12_rule 122 = .ok (.putfield 296, 3) := by decide +kernel
theorem d_X12_rule_125 : decode cX12_rule 125 = .ok (.aload_n 0, 1) := by decide +kernel
theorem d_X12_rule_126 : decode cX12_rule 126 = .ok (.aload_n 0, 1) := by decide +kernel
theorem d_X12_rule_127 : decode cX12_rule 127 = .ok (.getfield 296, 3) := by decide +kernel
theorem d_X12_rule_130 : decode cX12_rule 130 = .ok (.iconst 1, 1) := by decide +kernel
theorem d_X12_rule_131 : decode cX12_rule 131 = .ok (.isub, 1) := by decide +kernel
theorem d_X12_rule_132 : decode cX12_rule 132 = .ok (.invokevirtual 191, 3) := by decide +kernel
theorem d_X12_rule_135 : decode cX12_rule 135 = .ok (.ireturn, 1) := by decide +kernel
theorem d_X12_isUnder_0 : decode cX12_isUnder 0 = .ok (.iload_n 1, 1) := by decide +kernel
theorem d_X12_isUnder_1 : decode cX12_isUnder 1 = .ok (.ifCond .eq 18, 3) := by decide +kernel
theorem d_X12_isUnder_4 : decode cX12_isUnder 4 = .ok (.iload_n 0, 1) := by decide +kernel
theorem d_X12_isUnder_5 : decode cX12_isUnder 5 = .ok (.iload_n 1, 1) := by decide +kernel
theorem d_X12_isUnder_6 : decode cX12_isUnder 6 = .ok (.if_icmp .eq 13, 3) := by decide +kernel
theorem d_X12_isUnder_9 : decode cX12_isUnder 9 = .ok (.iload_n 1, 1) := by decide +kernel
theorem d_X12_isUnder_10 : decode cX12_isUnder 10 = .ok (.iconst 1, 1) := by decide +kernel
theorem d_X12_isUnder_11 : decode cX12_isUnder 11 = .ok (.if_icmp .ne 12, 3) := by decide +kernel
theorem d_X12_isUnder_14 : decode cX12_isUnder 14 = .ok (.iload_n 0, 1) := by decide +kernel
theorem d_X12_isUnder_15 : decode cX12_isUnder 15 = .ok (.iconst 3, 1) := by decide +kernel
theorem d_X12_isUnder_16 : decode cX12_isUnder 16 = .ok (.if_icmp .ne 7, 3) := by decide +kernel
theorem d_X12_isUnder_19 : decode cX12_isUnder 19 = .ok (.iconst 1, 1) := by decide +kernel
theorem d_X12_isUnder_20 : decode cX12_isUnder 20 = .ok (.goto 4, 3) := by decide +kernel
theorem d_X12_isUnder_23 : decode cX12_isUnder 23 = .ok (.iconst 0, 1) := by decide +kernel
theorem d_X12_isUnder_24 : decode cX12_isUnder 24 = .ok (.ireturn, 1) := by decide +kernel
theorem d_X12_tells_0 : decode cX12_tells 0 = .ok (.aload_n 0, 1) := by decide +kernel
theorem d_X12_tells_1 : decode cX12_tells 1 = .ok (.getfield 98, 3) := by decide +kernel
theorem d_X12_tells_4 : decode cX12_tells 4 = .ok (.iload_n 1, 1) := by decide +kernel
theorem d_X12_tells_5 : decode cX12_tells 5 = .ok (.iaload, 1) := by decide +kernel
theorem d_X12_tells_6 : decode cX12_tells 6 = .ok (.ifCond .ne 25, 3) := by decide +kernel
theorem d_X12_tells_9 : decode cX12_tells 9 = .ok (.iload 4, 2) := by decide +kernel
theorem d_X12_tells_11 : decode cX12_tells 11 = .ok (.iload 5, 2) := by decide +kernel
theorem d_X12_tells_13 : decode cX12_tells 13 = .ok (.if_icmp .ne 7, 3) := by decide +kernel
theorem d_X12_tells_16 : decode cX12_tells 16 = .ok (.iconst (-1), 1) := by decide +kernel
theorem d_X12_tells_17 : decode cX12_tells 17 = .ok (.goto 13, 3) := by decide +kernel
theorem d_X12_tells_20 : decode cX12_tells 20 = .ok (.iload 4, 2) := by decide +kernel
theorem d_X12_tells_22 : decode cX12_tells 22 = .ok (.ifCond .eq 7, 3) := by decide +kernel
theorem d_X12_tells_25 : decode cX12_tells 25 = .ok (.iload_n 2, 1) := by decide +kernel
theorem d_X12_tells_26 : decode cX12_tells 26 = .ok (.goto 4, 3) := by decide +kernel
theorem d_X12_tells_29 : decode cX12_tells 29 = .ok (.iload_n 3, 1) := by decide +kernel
theorem d_X12_tells_30 : decode cX12_tells 30 = .ok (.ireturn, 1) := by decide +kernel
theorem d_X12_tells_31 : decode cX12_tells 31 = .ok (.aload_n 0, 1) := by decide +kernel
theorem d_X12_tells_32 : decode cX12_tells 32 = .ok (.getfield 98, 3) := by decide +kernel
theorem d_X12_tells_35 : decode cX12_tells 35 = .ok (.iload_n 1, 1) := by decide +kernel
theorem d_X12_tells_36 : decode cX12_tells 36 = .ok (.iaload, 1) := by decide +kernel
theorem d_X12_tells_37 : decode cX12_tells 37 = .ok (.iconst 1, 1) := by decide +kernel
theorem d_X12_tells_38 : decode cX12_tells 38 = .ok (.if_icmp .ne 36, 3) := by decide +kernel
theorem d_X12_tells_41 : decode cX12_tells 41 = .ok (.aload_n 0, 1) := by decide +kernel
theorem d_X12_tells_42 : decode cX12_tells 42 = .ok (.iload_n 2, 1) := by decide +kernel
theorem d_X12_tells_43 : decode cX12_tells 43 = .ok (.invokevirtual 241, 3) := by decide +kernel
theorem d_X12_tells_46 : decode cX12_tells 46 = .ok (.aload_n 0, 1) := by decide +kernel
theorem d_X12_tells_47 : decode cX12_tells 47 = .ok (.iload_n 3, 1) := by decide +kernel
theorem d_X12_tells_48 : decode cX12_tells 48 = .ok (.invokevirtual 241, 3) := by decide +kernel
theorem d_X12_tells_51 : decode cX12_tells 51 = .ok (.isub, 1) := by decide +kernel
theorem d_X12_tells_52 : decode cX12_tells 52 = .ok (.istore 6, 2) := by decide +kernel
theorem d_X12_tells_54 : decode cX12_tells 54 = .ok (.iload 6, 2) := by decide +kernel
theorem d_X12_tells_56 : decode cX12_tells 56 = .ok (.ifCond .ne 7, 3) := by decide +kernel
theorem d_X12_tells_59 : decode cX12_tells 59 = .ok (.iconst (-1), 1) := by decide +kernel
theorem d_X12_tells_60 : decode cX12_tells 60 = .ok (.goto 13, 3) := by decide +kernel
theorem d_X12_tells_63 : decode cX12_tells 63 = .ok (.iload 6, 2) := by decide +kernel
theorem d_X12_tells_65 : decode cX12_tells 65 = .ok (.ifCond .ge 7, 3) := by decide +kernel
theorem d_X12_tells_68 : decode cX12_tells 68 = .ok (.iload_n 2, 1) := by decide +kernel
theorem d_X12_tells_69 : decode cX12_tells 69 = .ok (.goto 4, 3) := by decide +kernel
theorem d_X12_tells_72 : decode cX12_tells 72 = .ok (.iload_n 3, 1) := by decide +kernel
theorem d_X12_tells_73 : decode cX12_tells 73 = .ok (.ireturn, 1) := by decide +kernel
theorem d_X12_tells_74 : decode cX12_tells 74 = .ok (.iload_n 2, 1) := by decide +kernel
theorem d_X12_tells_75 : decode cX12_tells 75 = .ok (.iload_n 3, 1) := by decide +kernel
theorem d_X12_tells_76 : decode cX12_tells 76 = .ok (.if_icmp .le 7, 3) := by decide +kernel
theorem d_X12_tells_79 : decode cX12_tells 79 = .ok (.iload_n 2, 1) := by decide +kernel
theorem d_X12_tells_80 : decode cX12_tells 80 = .ok (.goto 4, 3) := by decide +kernel
theorem d_X12_tells_83 : decode cX12_tells 83 = .ok (.iload_n 3, 1) := by decide +kernel
theorem d_X12_tells_84 : decode cX12_tells 84 = .ok (.ireturn, 1) := by decide +kernel
theorem d_X12_gives_0 : decode cX12_gives 0 = .ok (.aload_n 0, 1) := by decide +kernel
theorem d_X12_gives_1 : decode cX12_gives 1 = .ok (.iload_n 1, 1) := by decide +kernel
theorem d_X12_gives_2 : decode cX12_gives 2 = .ok (.invokevirtual 238, 3) := by decide +kernel
theorem d_X12_gives_5 : decode cX12_gives 5 = .ok (.ifCond .eq 24, 3) := by decide +kernel
theorem d_X12_gives_8 : decode cX12_gives 8 = .ok (.aload_n 0, 1) := by decide +kernel
theorem d_X12_gives_9 : decode cX12_gives 9 = .ok (.iload_n 2, 1) := by decide +kernel
theorem d_X12_gives_10 : decode cX12_gives 10 = .ok (.invokevirtual 238, 3) := by decide +kernel
theorem d_X12_gives_13 : decode cX12_gives 13 = .ok (.ifCond .eq 16, 3) := by decide +kernel
theorem d_X12_gives_16 : decode cX12_gives 16 = .ok (.iload_n 1, 1) := by decide +kernel
theorem d_X12_gives_17 : decode cX12_gives 17 = .ok (.iload_n 2, 1) := by decide +kernel
theorem d_X12_gives_18 : decode cX12_gives 18 = .ok (.if_icmp .eq 11, 3) := by decide +kernel
theorem d_X12_gives_21 : decode cX12_gives 21 = .ok (.aload_n 0, 1) := by decide +kernel
theorem d_X12_gives_22 : decode cX12_gives 22 = .ok (.iload_n 3, 1) := by decide +kernel
theorem d_X12_gives_23 : decode cX12_gives 23 = .ok (.invokevirtual 202, 3) := by decide +kernel
theorem d_X12_gives_26 : decode cX12_gives 26 = .ok (.ifCond .ne 5, 3) := by decide +kernel
theorem d_X12_gives_29 : decode cX12_gives 29 = .ok (.iconst (-1), 1) := by decide +kernel
theorem d_X12_gives_30 : decode cX12_gives 30 = .ok (.ireturn, 1) := by decide +kernel
theorem d_X12_gives_31 : decode cX12_gives 31 = .ok (.iconst 0, 1) := by decide +kernel
theorem d_X12_gives_32 : decode cX12_gives 32 = .ok (.istore 6, 2) := by decide +kernel
theorem d_X12_gives_34 : decode cX12_gives 34 = .ok (.iload 6, 2) := by decide +kernel
theorem d_X12_gives_36 : decode cX12_gives 36 = .ok (.aload_n 0, 1) := by decide +kernel
theorem d_X12_gives_37 : decode cX12_gives 37 = .ok (.getfield 296, 3) := by decide +kernel
theorem d_X12_gives_40 : decode cX12_gives 40 = .ok (.if_icmp .ge 75, 3) := by decide +kernel
theorem d_X12_gives_43 : decode cX12_gives 43 = .ok (.aload_n 0, 1) := by decide +kernel
theorem d_X12_gives_44 : decode cX12_gives 44 = .ok (.invokevirtual 218, 3) := by decide +kernel
theorem d_X12_gives_47 : decode cX12_gives 47 = .ok (.aload_n 0, 1) := by decide +kernel
theorem d_X12_gives_48 : decode cX12_gives 48 = .ok (.getfield 101, 3) := by decide +kernel
theorem d_X12_gives_51 : decode cX12_gives 51 = .ok (.iload 6, 2) := by decide +kernel
theorem d_X12_gives_53 : decode cX12_gives 53 = .ok (.iaload, 1) := by decide +kernel
theorem d_X12_gives_54 : decode cX12_gives 54 = .ok (.aload_n 0, 1) := by decide +kernel
theorem d_X12_gives_55 : decode cX12_gives 55 = .ok (.getfield 104, 3) := by decide +kernel
theorem d_X12_gives_58 : decode cX12_gives 58 = .ok (.iload 6, 2) := by decide +kernel
theorem d_X12_gives_60 : decode cX12_gives 60 = .ok (.iaload, 1) := by decide +kernel
theorem d_X12_gives_61 : decode cX12_gives 61 = .ok (.invokestatic 174, 3) := by decide +kernel
theorem d_X12_gives_64 : decode cX12_gives 64 = .ok (.ifCond .eq 45, 3) := by decide +kernel
theorem d_X12_gives_67 : decode cX12_gives 67 = .ok (.aload_n 0, 1) := by decide +kernel
theorem d_X12_gives_68 : decode cX12_gives 68 = .ok (.getfield 7, 3) := by decide +kernel
theorem d_X12_gives_71 : decode cX12_gives 71 = .ok (.iload_n 3, 1) := by decide +kernel
theorem d_X12_gives_72 : decode cX12_gives 72 = .ok (.iaload, 1) := by decide +kernel
theorem d_X12_gives_73 : decode cX12_gives 73 = .ok (.aload_n 0, 1) := by decide +kernel
theorem d_X12_gives_74 : decode cX12_gives 74 = .ok (.getfield 95, 3) := by decide +kernel
theorem d_X12_gives_77 : decode cX12_gives 77 = .ok (.iload 6, 2) := by decide +kernel
theorem d_X12_gives_79 : decode cX12_gives 79 = .ok (.iaload, 1) := by decide +kernel
theorem d_X12_gives_80 : decode cX12_gives 80 = .ok (.invokestatic 299, 3) := by decide +kernel
theorem d_X12_gives_83 : decode cX12_gives 83 = .ok (.ifCond .eq 26, 3) := by decide +kernel
theorem d_X12_gives_86 : decode cX12_gives 86 = .ok (.aload_n 0, 1) := by decide +kernel
theorem d_X12_gives_87 : decode cX12_gives 87 = .ok (.iload 6, 2) := by decide +kernel
theorem d_X12_gives_89 : decode cX12_gives 89 = .ok (.iload_n 1, 1) := by decide +kernel
theorem d_X12_gives_90 : decode cX12_gives 90 = .ok (.iload_n 2, 1) := by decide +kernel
theorem d_X12_gives_91 : decode cX12_gives 91 = .ok (.iload 4, 2) := by decide +kernel
theorem d_X12_gives_93 : decode cX12_gives 93 = .ok (.iload 5, 2) := by decide +kernel
theorem d_X12_gives_95 : decode cX12_gives 95 = .ok (.invokevirtual 303, 3) := by decide +kernel
theorem d_X12_gives_98 : decode cX12_gives 98 = .ok (.istore 7, 2) := by decide +kernel
theorem d_X12_gives_100 : decode cX12_gives 100 = .ok (.iload 7, 2) := by decide +kernel
theorem d_X12_gives_102 : decode cX12_gives 102 = .ok (.iconst (-1), 1) := by decide +kernel
theorem d_X12_gives_103 : decode cX12_gives 103 = .ok (.if_icmp .eq 6, 3) := by decide +kernel
theorem d_X12_gives_106 : decode cX12_gives 106 = .ok (.iload 7, 2) := by decide +kernel
theorem d_X12_gives_108 : decode cX12_gives 108 = .ok (.ireturn, 1) := by decide +kernel
theorem d_X12_gives_109 : decode cX12_gives 109 = .ok (.iinc 6 1, 3) := by decide +kernel
theorem d_X12_gives_112 : decode cX12_gives 112 = .ok (.goto (-78), 3) := by decide +kernel
theorem d_X12_gives_115 : decode cX12_gives 115 = .ok (.iconst (-1), 1) := by decide +kernel
theorem d_X12_gives_116 : decode cX12_gives 116 = .ok (.ireturn, 1) := by decide +kernel
theorem d_X12_image_0 : decode cX12_image 0 = .ok (.aload_n 0, 1) := by decide +kernel
theorem d_X12_image_1 : decode cX12_image 1 = .ok (.getfield 116, 3) := by decide +kernel
theorem d_X12_image_4 : decode cX12_image 4 = .ok (.iconst 0, 1) := by decide +kernel
theorem d_X12_image_5 : decode cX12_image 5 = .ok (.aload_n 0, 1) := by decide +kernel
theorem d_X12_image_6 : decode cX12_image 6 = .ok (.getfield 171, 3) := by decide +kernel
theorem d_X12_image_9 : decode cX12_image 9 = .ok (.iastore, 1) := by decide +kernel
theorem d_X12_image_10 : decode cX12_image 10 = .ok (.aload_n 0, 1) := by decide +kernel
theorem d_X12_image_11 : decode cX12_image 11 = .ok (.getfield 116, 3) := by decide +kernel
theorem d_X12_image_14 : decode cX12_image 14 = .ok (.iconst 1, 1) := by decide +kernel
theorem d_X12_image_15 : decode cX12_image 15 = .ok (.aload_n 0, 1) := by decide +kernel
theorem d_X12_image_16 : decode cX12_image 16 = .ok (.getfield 178, 3) := by decide +kernel
theorem d_X12_image_19 : decode cX12_image 19 = .ok (.iastore, 1) := by decide +kernel
theorem d_X12_image_20 : decode cX12_image 20 = .ok (.aload_n 0, 1) := by decide +kernel
theorem d_X12_image_21 : decode cX12_image 21 = .ok (.getfield 116, 3) := by decide +kernel
theorem d_X12_image_24 : decode cX12_image 24 = .ok (.iconst 2, 1) := by decide +kernel
theorem d_X12_image_25 : decode cX12_image 25 = .ok (.aload_n 0, 1) := by decide +kernel
theorem d_X12_image_26 : decode cX12_image 26 = .ok (.getfield 181, 3) := by decide +kernel
theorem d_X12_image_29 : decode cX12_image 29 = .ok (.iastore, 1) := by decide +kernel
theorem d_X12_image_30 : decode cX12_image 30 = .ok (.aload_n 0, 1) := by decide +kernel
theorem d_X12_image_31 : decode cX12_image 31 = .ok (.getfield 116, 3) := by decide +kernel
theorem d_X12_image_34 : decode cX12_image 34 = .ok (.iconst 3, 1) := by decide +kernel
theorem d_X12_image_35 : decode cX12_image 35 = .ok (.aload_n 0, 1) := by decide +kernel
theorem d_X12_image_36 : decode cX12_image 36 = .ok (.getfield 287, 3) := by decide +kernel
theorem d_X12_image_39 : decode cX12_image 39 = .ok (.iastore, 1) := by decide +kernel
theorem d_X12_image_40 : decode cX12_image 40 = .ok (.aload_n 0, 1) := by decide +kernel
theorem d_X12_image_41 : decode cX12_image 41 = .ok (.getfield 116, 3) := by decide +kernel
theorem d_X12_image_44 : decode cX12_image 44 = .ok (.iconst 4, 1) := by decide +kernel
theorem d_X12_image_45 : decode cX12_image 45 = .ok (.aload_n 0, 1) := by decide +kernel
theorem d_X12_image_46 : decode cX12_image 46 = .ok (.getfield 296, 3) := by decide +kernel
theorem d_X12_image_49 : decode cX12_image 49 = .ok (.iastore, 1) := by decide +kernel
theorem d_X12_image_50 : decode cX12_image 50 = .ok (.aload_n 0, 1) := by decide +kernel
theorem d_X12_image_51 : decode cX12_image 51 = .ok (.getfield 116, 3) := by decide +kernel
theorem d_X12_image_54 : decode cX12_image 54 = .ok (.iconst 5, 1) := by decide +kernel
theorem d_X12_image_55 : decode cX12_image 55 = .ok (.aload_n 0, 1) := by decide +kernel
theorem d_X12_image_56 : decode cX12_image 56 = .ok (.getfield 184, 3) := by decide +kernel
theorem d_X12_image_59 : decode cX12_image 59 = .ok (.iastore, 1) := by decide +kernel
theorem d_X12_image_60 : decode cX12_image 60 = .ok (.aload_n 0, 1) := by decide +kernel
theorem d_X12_image_61 : decode cX12_image 61 = .ok (.getfield 116, 3) := by decide +kernel
theorem d_X12_image_64 : decode cX12_image 64 = .ok (.bipush 6, 2) := by decide +kernel
theorem d_X12_image_66 : decode cX12_image 66 = .ok (.aload_n 0, 1) := by decide +kernel
theorem d_X12_image_67 : decode cX12_image 67 = .ok (.getfield 244, 3) := by decide +kernel
theorem d_X12_image_70 : decode cX12_image 70 = .ok (.iastore, 1) := by decide +kernel
theorem d_X12_image_71 : decode cX12_image 71 = .ok (.iconst 0, 1) := by decide +kernel
theorem d_X12_image_72 : decode cX12_image 72 = .ok (.istore_n 1, 1) := by decide +kernel
theorem d_X12_image_73 : decode cX12_image 73 = .ok (.iload_n 1, 1) := by decide +kernel
theorem d_X12_image_74 : decode cX12_image 74 = .ok (.sipush 1000, 3) := by decide +kernel
theorem d_X12_image_77 : decode cX12_image 77 = .ok (.if_icmp .ge 33, 3) := by decide +kernel
theorem d_X12_image_80 : decode cX12_image 80 = .ok (.aload_n 0, 1) := by decide +kernel
theorem d_X12_image_81 : decode cX12_image 81 = .ok (.getfield 122, 3) := by decide +kernel
theorem d_X12_image_84 : decode cX12_image 84 = .ok (.iload_n 1, 1) := by decide +kernel
theorem d_X12_image_85 : decode cX12_image 85 = .ok (.aload_n 0, 1) := by decide +kernel
theorem d_X12_image_86 : decode cX12_image 86 = .ok (.getfield 23, 3) := by decide +kernel
theorem d_X12_image_89 : decode cX12_image 89 = .ok (.iload_n 1, 1) := by decide +kernel
theorem d_X12_image_90 : decode cX12_image 90 = .ok (.iaload, 1) := by decide +kernel
theorem d_X12_image_91 : decode cX12_image 91 = .ok (.iastore, 1) := by decide +kernel
theorem d_X12_image_92 : decode cX12_image 92 = .ok (.aload_n 0, 1) := by decide +kernel
theorem d_X12_image_93 : decode cX12_image 93 = .ok (.getfield 125, 3) := by decide +kernel
theorem d_X12_image_96 : decode cX12_image 96 = .ok (.iload_n 1, 1) := by decide +kernel
theorem d_X12_image_97 : decode cX12_image 97 = .ok (.aload_n 0, 1) := by decide +kernel
theorem d_X12_image_98 : decode cX12_image 98 = .ok (.getfield 26, 3) := by decide +kernel
theorem d_X12_image_101 : decode cX12_image 101 = .ok (.iload_n 1, 1) := by decide +kernel
theorem d_X12_image_102 : decode cX12_image 102 = .ok (.baload, 1) := by decide +kernel
theorem d_X12_image_103 : decode cX12_image 103 = .ok (.bastore, 1) := by decide +kernel
theorem d_X12_image_104 : decode cX12_image 104 = .ok (.iinc 1 1, 3) := by decide +kernel
theorem d_X12_image_107 : decode cX12_image 107 = .ok (.goto (-34), 3) := by decide +kernel
theorem d_X12_image_110 : decode cX12_image 110 = .ok (.iconst 0, 1) := by decide +kernel
theorem d_X12_image_111 : decode cX12_image 111 = .ok (.istore_n 1, 1) := by decide +kernel
theorem d_X12_image_112 : decode cX12_image 112 = .ok (.iload_n 1, 1) := by decide +kernel
theorem d_X12_image_113 : decode cX12_image 113 = .ok (.bipush 100, 2) := by decide +kernel
theorem d_X12_image_115 : decode cX12_image 115 = .ok (.if_icmp .ge 45, 3) := by decide +kernel
theorem d_X12_image_118 : decode cX12_image 118 = .ok (.aload_n 0, 1) := by decide +kernel
theorem d_X12_image_119 : decode cX12_image 119 = .ok (.getfield 128, 3) := by decide +kernel
theorem d_X12_image_122 : decode cX12_image 122 = .ok (.iload_n 1, 1) := by decide +kernel
theorem d_X12_image_123 : decode cX12_image 123 = .ok (.aload_n 0, 1) := by decide +kernel
theorem d_X12_image_124 : decode cX12_image 124 = .ok (.getfield 29, 3) := by decide +kernel
theorem d_X12_image_127 : decode cX12_image 127 = .ok (.iload_n 1, 1) := by decide +kernel
theorem d_X12_image_128 : decode cX12_image 128 = .ok (.iaload, 1) := by decide +kernel
theorem d_X12_image_129 : decode cX12_image 129 = .ok (.iastore, 1) := by decide +kernel
theorem d_X12_image_130 : decode cX12_image 130 = .ok (.aload_n 0, 1) := by decide +kernel
theorem d_X12_image_131 : decode cX12_image 131 = .ok (.getfield 131, 3) := by decide +kernel
theorem d_X12_image_134 : decode cX12_image 134 = .ok (.iload_n 1, 1) := by decide +kernel
theorem d_X12_image_135 : decode cX12_image 135 = .ok (.aload_n 0, 1) := by decide +kernel
theorem d_X12_image_136 : decode cX12_image 136 = .ok (.getfield 32, 3) := by decide +kernel
theorem d_X12_image_139 : decode cX12_image 139 = .ok (.iload_n 1, 1) := by decide +kernel
theorem d_X12_image_140 : decode cX12_image 140 = .ok (.baload, 1) := by decide +kernel
theorem d_X12_image_141 : decode cX12_image 141 = .ok (.bastore, 1) := by decide +kernel
theorem d_X12_image_142 : decode cX12_image 142 = .ok (.aload_n 0, 1) := by decide +kernel
theorem d_X12_image_143 : decode cX12_image 143 = .ok (.getfield 134, 3) := by decide +kernel
theorem d_X12_image_146 : decode cX12_image 146 = .ok (.iload_n 1, 1) := by decide +kernel
theorem d_X12_image_147 : decode cX12_image 147 = .ok (.aload_n 0, 1) := by decide +kernel
theorem d_X12_image_148 : decode cX12_image 148 = .ok (.getfield 35, 3) := by decide +kernel
theorem d_X12_image_151 : decode cX12_image 151 = .ok (.iload_n 1, 1) := by decide +kernel
theorem d_X12_image_152 : decode cX12_image 152 = .ok (.baload, 1) := by decide +kernel
theorem d_X12_image_153 : decode cX12_image 153 = .ok (.bastore, 1) := by decide +kernel
theorem d_X12_image_154 : decode cX12_image 154 = .ok (.iinc 1 1, 3) := by decide +kernel
theorem d_X12_image_157 : decode cX12_image 157 = .ok (.goto (-45), 3) := by decide +kernel
theorem d_X12_image_160 : decode cX12_image 160 = .ok (.iconst 0, 1) := by decide +kernel
theorem d_X12_image_161 : decode cX12_image 161 = .ok (.istore_n 1, 1) := by decide +kernel
theorem d_X12_image_162 : decode cX12_image 162 = .ok (.iload_n 1, 1) := by decide +kernel
theorem d_X12_image_163 : decode cX12_image 163 = .ok (.sipush 160, 3) := by decide +kernel
theorem d_X12_image_166 : decode cX12_image 166 = .ok (.if_icmp .ge 33, 3) := by decide +kernel
theorem d_X12_image_169 : decode cX12_image 169 = .ok (.aload_n 0, 1) := by decide +kernel
theorem d_X12_image_170 : decode cX12_image 170 = .ok (.getfield 140, 3) := by decide +kernel
theorem d_X12_image_173 : decode cX12_image 173 = .ok (.iload_n 1, 1) := by decide +kernel
theorem d_X12_image_174 : decode cX12_image 174 = .ok (.aload_n 0, 1) := by decide +kernel
theorem d_X12_image_175 : decode cX12_image 175 = .ok (.getfield 62, 3) := by decide +kernel
theorem d_X12_image_178 : decode cX12_image 178 = .ok (.iload_n 1, 1) := by decide +kernel
theorem d_X12_image_179 : decode cX12_image 179 = .ok (.iaload, 1) := by decide +kernel
theorem d_X12_image_180 : decode cX12_image 180 = .ok (.iastore, 1) := by decide +kernel
theorem d_X12_image_181 : decode cX12_image 181 = .ok (.aload_n 0, 1) := by decide +kernel
theorem d_X12_image_182 : decode cX12_image 182 = .ok (.getfield 143, 3) := by decide +kernel
theorem d_X12_image_185 : decode cX12_image 185 = .ok (.iload_n 1, 1) := by decide +kernel
theorem d_X12_image_186 : decode cX12_image 186 = .ok (.aload_n 0, 1) := by decide +kernel
theorem d_X12_image_187 : decode cX12_image 187 = .ok (.getfield 65, 3) := by decide +kernel
theorem d_X12_image_190 : decode cX12_image 190 = .ok (.iload_n 1, 1) := by decide +kernel
theorem d_X12_image_191 : decode cX12_image 191 = .ok (.iaload, 1) := by decide +kernel
theorem d_X12_image_192 : decode cX12_image 192 = .ok (.iastore, 1) := by decide +kernel
theorem d_X12_image_193 : decode cX12_image 193 = .ok (.iinc 1 1, 3) := by decide +kernel
theorem d_X12_image_196 : decode cX12_image 196 = .ok (.goto (-34), 3) := by decide +kernel
theorem d_X12_image_199 : decode cX12_image 199 = .ok (.iconst 0, 1) := by decide +kernel
theorem d_X12_image_200 : decode cX12_image 200 = .ok (.istore_n 1, 1) := by decide +kernel
theorem d_X12_image_201 : decode cX12_image 201 = .ok (.iload_n 1, 1) := by decide +kernel
theorem d_X12_image_202 : decode cX12_image 202 = .ok (.bipush 12, 2) := by decide +kernel
theorem d_X12_image_204 : decode cX12_image 204 = .ok (.if_icmp .ge 36, 3) := by decide +kernel
theorem d_X12_image_207 : decode cX12_image 207 = .ok (.aload_n 0, 1) := by decide +kernel
theorem d_X12_image_208 : decode cX12_image 208 = .ok (.getfield 149, 3) := by decide +kernel
theorem d_X12_image_211 : decode cX12_image 211 = .ok (.iload_n 1, 1) := by decide +kernel
theorem d_X12_image_212 : decode cX12_image 212 = .ok (.aload_n 0, 1) := by decide +kernel
theorem d_X12_image_213 : decode cX12_image 213 = .ok (.getfield 80, 3) := by decide +kernel
theorem d_X12_image_216 : decode cX12_image 216 = .ok (.iload_n 1, 1) := by decide +kernel
theorem d_X12_image_217 : decode cX12_image 217 = .ok (.iaload, 1) := by decide +kernel
theorem d_X12_image_218 : decode cX12_image 218 = .ok (.iastore, 1) := by decide +kernel
theorem d_X12_image_219 : decode cX12_image 219 = .ok (.aload_n 0, 1) := by decide +kernel
theorem d_X12_image_220 : decode cX12_image 220 = .ok (.getfield 149, 3) := by decide +kernel
theorem d_X12_image_223 : decode cX12_image 223 = .ok (.bipush 12, 2) := by decide +kernel
theorem d_X12_image_225 : decode cX12_image 225 = .ok (.iload_n 1, 1) := by decide +kernel
theorem d_X12_image_226 : decode cX12_image 226 = .ok (.iadd, 1) := by decide +kernel
theorem d_X12_image_227 : decode cX12_image 227 = .ok (.aload_n 0, 1) := by decide +kernel
theorem d_X12_image_228 : decode cX12_image 228 = .ok (.getfield 83, 3) := by decide +kernel
theorem d_X12_image_231 : decode cX12_image 231 = .ok (.iload_n 1, 1) := by decide +kernel
theorem d_X12_image_232 : decode cX12_image 232 = .ok (.iaload, 1) := by decide +kernel
theorem d_X12_image_233 : decode cX12_image 233 = .ok (.iastore, 1) := by decide +kernel
theorem d_X12_image_234 : decode cX12_image 234 = .ok (.iinc 1 1, 3) := by decide +kernel
theorem d_X12_image_237 : decode cX12_image 237 = .ok (.goto (-36), 3) := by decide +kernel
theorem d_X12_image_240 : decode cX12_image 240 = .ok (.iconst 0, 1) := by decide +kernel
theorem d_X12_image_241 : decode cX12_image 241 = .ok (.istore_n 1, 1) := by decide +kernel
theorem d_X12_image_242 : decode cX12_image 242 = .ok (.iload_n 1, 1) := by decide +kernel
theorem d_X12_image_243 : decode cX12_image 243 = .ok (.bipush 11, 2) := by decide +kernel
theorem d_X12_image_245 : decode cX12_image 245 = .ok (.if_icmp .ge 21, 3) := by decide +kernel
theorem d_X12_image_248 : decode cX12_image 248 = .ok (.aload_n 0, 1) := by decide +kernel
theorem d_X12_image_249 : decode cX12_image 249 = .ok (.getfield 146, 3) := by decide +kernel
theorem d_X12_image_252 : decode cX12_image 252 = .ok (.iload_n 1, 1) := by decide +kernel
theorem d_X12_image_253 : decode cX12_image 253 = .ok (.aload_n 0, 1) := by decide +kernel
theorem d_X12_image_254 : decode cX12_image 254 = .ok (.getfield 68, 3) := by decide +kernel
theorem d_X12_image_257 : decode cX12_image 257 = .ok (.iload_n 1, 1) := by decide +kernel
theorem d_X12_image_258 : decode cX12_image 258 = .ok (.iaload, 1) := by decide +kernel
theorem d_X12_image_259 : decode cX12_image 259 = .ok (.iastore, 1) := by decide +kernel
theorem d_X12_image_260 : decode cX12_image 260 = .ok (.iinc 1 1, 3) := by decide +kernel
theorem d_X12_image_263 : decode cX12_image 263 = .ok (.goto (-21), 3) := by decide +kernel
theorem d_X12_image_266 : decode cX12_image 266 = .ok (.iconst 0, 1) := by decide +kernel
theorem d_X12_image_267 : decode cX12_image 267 = .ok (.istore_n 1, 1) := by decide +kernel
theorem d_X12_image_268 : decode cX12_image 268 = .ok (.iload_n 1, 1) := by decide +kernel
theorem d_X12_image_269 : decode cX12_image 269 = .ok (.bipush 10, 2) := by decide +kernel
theorem d_X12_image_271 : decode cX12_image 271 = .ok (.if_icmp .ge 21, 3) := by decide +kernel
theorem d_X12_image_274 : decode cX12_image 274 = .ok (.aload_n 0, 1) := by decide +kernel
theorem d_X12_image_275 : decode cX12_image 275 = .ok (.getfield 119, 3) := by decide +kernel
theorem d_X12_image_278 : decode cX12_image 278 = .ok (.iload_n 1, 1) := by decide +kernel
theorem d_X12_image_279 : decode cX12_image 279 = .ok (.aload_n 0, 1) := by decide +kernel
theorem d_X12_image_280 : decode cX12_image 280 = .ok (.getfield 19, 3) := by decide +kernel
theorem d_X12_image_283 : decode cX12_image 283 = .ok (.iload_n 1, 1) := by decide +kernel
theorem d_X12_image_284 : decode cX12_image 284 = .ok (.baload, 1) := by decide +kernel
theorem d_X12_image_285 : decode cX12_image 285 = .ok (.bastore, 1) := by decide +kernel
theorem d_X12_image_286 : decode cX12_image 286 = .ok (.iinc 1 1, 3) := by decide +kernel
theorem d_X12_image_289 : decode cX12_image 289 = .ok (.goto (-21), 3) := by decide +kernel
theorem d_X12_image_292 : decode cX12_image 292 = .ok (.iconst 0, 1) := by decide +kernel
theorem d_X12_image_293 : decode cX12_image 293 = .ok (.istore_n 1, 1) := by decide +kernel
theorem d_X12_image_294 : decode cX12_image 294 = .ok (.iload_n 1, 1) := by decide +kernel
theorem d_X12_image_295 : decode cX12_image 295 = .ok (.iconst 5, 1) := by decide +kernel
theorem d_X12_image_296 : decode cX12_image 296 = .ok (.if_icmp .ge 87, 3) := by decide +kernel
theorem d_X12_image_299 : decode cX12_image 299 = .ok (.aload_n 0, 1) := by decide +kernel
theorem d_X12_image_300 : decode cX12_image 300 = .ok (.getfield 137, 3) := by decide +kernel
theorem d_X12_image_303 : decode cX12_image 303 = .ok (.iconst 5, 1) := by decide +kernel
theorem d_X12_image_304 : decode cX12_image 304 = .ok (.iload_n 1, 1) := by decide +kernel
theorem d_X12_image_305 : decode cX12_image 305 = .ok (.imul, 1) := by decide +kernel
theorem d_X12_image_306 : decode cX12_image 306 = .ok (.aload_n 0, 1) := by decide +kernel
theorem d_X12_image_307 : decode cX12_image 307 = .ok (.getfield 47, 3) := by decide +kernel
theorem d_X12_image_310 : decode cX12_image 310 = .ok (.iload_n 1, 1) := by decide +kernel
theorem d_X12_image_311 : decode cX12_image 311 = .ok (.iaload, 1) := by decide +kernel
theorem d_X12_image_312 : decode cX12_image 312 = .ok (.iastore, 1) := by decide +kernel
theorem d_X12_image_313 : decode cX12_image 313 = .ok (.aload_n 0, 1) := by decide +kernel
theorem d_X12_image_314 : decode cX12_image 314 = .ok (.getfield 137, 3) := by decide +kernel
theorem d_X12_image_317 : decode cX12_image 317 = .ok (.iconst 5, 1) := by decide +kernel
theorem d_X12_image_318 : decode cX12_image 318 = .ok (.iload_n 1, 1) := by decide +kernel
theorem d_X12_image_319 : decode cX12_image 319 = .ok (.imul, 1) := by decide +kernel
theorem d_X12_image_320 : decode cX12_image 320 = .ok (.iconst 1, 1) := by decide +kernel
theorem d_X12_image_321 : decode cX12_image 321 = .ok (.iadd, 1) := by decide +kernel
theorem d_X12_image_322 : decode cX12_image 322 = .ok (.aload_n 0, 1) := by decide +kernel
theorem d_X12_image_323 : decode cX12_image 323 = .ok (.getfield 50, 3) := by decide +kernel
theorem d_X12_image_326 : decode cX12_image 326 = .ok (.iload_n 1, 1) := by decide +kernel
theorem d_X12_image_327 : decode cX12_image 327 = .ok (.iaload, 1) := by decide +kernel
theorem d_X12_image_328 : decode cX12_image 328 = .ok (.iastore, 1) := by decide +kernel
theorem d_X12_image_329 : decode cX12_image 329 = .ok (.aload_n 0, 1) := by decide +kernel
theorem d_X12_image_330 : decode cX12_image 330 = .ok (.getfield 137, 3) := by decide +kernel
theorem d_X12_image_333 : decode cX12_image 333 = .ok (.iconst 5, 1) := by decide +kernel
theorem d_X12_image_334 : decode cX12_image 334 = .ok (.iload_n 1, 1) := by decide +kernel
theorem d_X12_image_335 : decode cX12_image 335 = .ok (.imul, 1) := by decide +kernel
theorem d_X12_image_336 : decode cX12_image 336 = .ok (.iconst 2, 1) := by decide +kernel
theorem d_X12_image_337 : decode cX12_image 337 = .ok (.iadd, 1) := by decide +kernel
theorem d_X12_image_338 : decode cX12_image 338 = .ok (.aload_n 0, 1) := by decide +kernel
theorem d_X12_image_339 : decode cX12_image 339 = .ok (.getfield 53, 3) := by decide +kernel
theorem d_X12_image_342 : decode cX12_image 342 = .ok (.iload_n 1, 1) := by decide +kernel
theorem d_X12_image_343 : decode cX12_image 343 = .ok (.iaload, 1) := by decide +kernel
theorem d_X12_image_344 : decode cX12_image 344 = .ok (.iastore, 1) := by decide +kernel
theorem d_X12_image_345 : decode cX12_image 345 = .ok (.aload_n 0, 1) := by decide +kernel
theorem d_X12_image_346 : decode cX12_image 346 = .ok (.getfield 137, 3) := by decide +kernel
theorem d_X12_image_349 : decode cX12_image 349 = .ok (.iconst 5, 1) := by decide +kernel
theorem d_X12_image_350 : decode cX12_image 350 = .ok (.iload_n 1, 1) := by decide +kernel
theorem d_X12_image_351 : decode cX12_image 351 = .ok (.imul, 1) := by decide +kernel
theorem d_X12_image_352 : decode cX12_image 352 = .ok (.iconst 3, 1) := by decide +kernel
theorem d_X12_image_353 : decode cX12_image 353 = .ok (.iadd, 1) := by decide +kernel
theorem d_X12_image_354 : decode cX12_image 354 = .ok (.aload_n 0, 1) := by decide +kernel
theorem d_X12_image_355 : decode cX12_image 355 = .ok (.getfield 56, 3) := by decide +kernel
theorem d_X12_image_358 : decode cX12_image 358 = .ok (.iload_n 1, 1) := by decide +kernel
theorem d_X12_image_359 : decode cX12_image 359 = .ok (.iaload, 1) := by decide +kernel
theorem d_X12_image_360 : decode cX12_image 360 = .ok (.iastore, 1) := by decide +kernel
theorem d_X12_image_361 : decode cX12_image 361 = .ok (.aload_n 0, 1) := by decide +kernel
theorem d_X12_image_362 : decode cX12_image 362 = .ok (.getfield 137, 3) := by decide +kernel
theorem d_X12_image_365 : decode cX12_image 365 = .ok (.iconst 5, 1) := by decide +kernel
theorem d_X12_image_366 : decode cX12_image 366 = .ok (.iload_n 1, 1) := by decide +kernel
theorem d_X12_image_367 : decode cX12_image 367 = .ok (.imul, 1) := by decide +kernel
theorem d_X12_image_368 : decode cX12_image 368 = .ok (.iconst 4, 1) := by decide +kernel
theorem d_X12_image_369 : decode cX12_image 369 = .ok (.iadd, 1) := by decide +kernel
theorem d_X12_image_370 : decode cX12_image 370 = .ok (.aload_n 0, 1) := by decide +kernel
theorem d_X12_image_371 : decode cX12_image 371 = .ok (.getfield 59, 3) := by decide +kernel
theorem d_X12_image_374 : decode cX12_image 374 = .ok (.iload_n 1, 1) := by decide +kernel
theorem d_X12_image_375 : decode cX12_image 375 = .ok (.iaload, 1) := by decide +kernel
theorem d_X12_image_376 : decode cX12_image 376 = .ok (.iastore, 1) := by decide +kernel
theorem d_X12_image_377 : decode cX12_image 377 = .ok (.iinc 1 1, 3) := by decide +kernel
theorem d_X12_image_380 : decode cX12_image 380 = .ok (.goto (-86), 3) := by decide +kernel
theorem d_X12_image_383 : decode cX12_image 383 = .ok (.aload_n 0, 1) := by decide +kernel
theorem d_X12_image_384 : decode cX12_image 384 = .ok (.iconst 1, 1) := by decide +kernel
theorem d_X12_image_385 : decode cX12_image 385 = .ok (.putfield 307, 3) := by decide +kernel
theorem d_X12_image_388 : decode cX12_image 388 = .ok (.aload_n 0, 1) := by decide +kernel
theorem d_X12_image_389 : decode cX12_image 389 = .ok (.iconst 1, 1) := by decide +kernel
theorem d_X12_image_390 : decode cX12_image 390 = .ok (.invokevirtual 191, 3) := by decide +kernel
theorem d_X12_image_393 : decode cX12_image 393 = .ok (.ireturn, 1) := by decide +kernel
theorem d_X12_lay_0 : decode cX12_lay 0 = .ok (.iconst 0, 1) := by decide +kernel
theorem d_X12_lay_1 : decode cX12_lay 1 = .ok (.istore_n 1, 1) := by decide +kernel
theorem d_X12_lay_2 : decode cX12_lay 2 = .ok (.iload_n 1, 1) := by decide +kernel
theorem d_X12_lay_3 : decode cX12_lay 3 = .ok (.sipush 1000, 3) := by decide +kernel
theorem d_X12_lay_6 : decode cX12_lay 6 = .ok (.if_icmp .ge 33, 3) := by decide +kernel
theorem d_X12_lay_9 : decode cX12_lay 9 = .ok (.aload_n 0, 1) := by decide +kernel
theorem d_X12_lay_10 : decode cX12_lay 10 = .ok (.getfield 23, 3) := by decide +kernel
theorem d_X12_lay_13 : decode cX12_lay 13 = .ok (.iload_n 1, 1) := by decide +kernel
theorem d_X12_lay_14 : decode cX12_lay 14 = .ok (.aload_n 0, 1) := by decide +kernel
theorem d_X12_lay_15 : decode cX12_lay 15 = .ok (.getfield 122, 3) := by decide +kernel
theorem d_X12_lay_18 : decode cX12_lay 18 = .ok (.iload_n 1, 1) := by decide +kernel
theorem d_X12_lay_19 : decode cX12_lay 19 = .ok (.iaload, 1) := by decide +kernel
theorem d_X12_lay_20 : decode cX12_lay 20 = .ok (.iastore, 1) := by decide +kernel
theorem d_X12_lay_21 : decode cX12_lay 21 = .ok (.aload_n 0, 1) := by decide +kernel
theorem d_X12_lay_22 : decode cX12_lay 22 = .ok (.getfield 26, 3) := by decide +kernel
theorem d_X12_lay_25 : decode cX12_lay 25 = .ok (.iload_n 1, 1) := by decide +kernel
theorem d_X12_lay_26 : decode cX12_lay 26 = .ok (.aload_n 0, 1) := by decide +kernel
theorem d_X12_lay_27 : decode cX12_lay 27 = .ok (.getfield 125, 3) := by decide +kernel
theorem d_X12_lay_30 : decode cX12_lay 30 = .ok (.iload_n 1, 1) := by decide +kernel
theorem d_X12_lay_31 : decode cX12_lay 31 = .ok (.baload, 1) := by decide +kernel
theorem d_X12_lay_32 : decode cX12_lay 32 = .ok (.bastore, 1) := by decide +kernel
theorem d_X12_lay_33 : decode cX12_lay 33 = .ok (.iinc 1 1, 3) := by decide +kernel
theorem d_X12_lay_36 : decode cX12_lay 36 = .ok (.goto (-34), 3) := by decide +kernel
theorem d_X12_lay_39 : decode cX12_lay 39 = .ok (.iconst 0, 1) := by decide +kernel
theorem d_X12_lay_40 : decode cX12_lay 40 = .ok (.istore_n 1, 1) := by decide +kernel
theorem d_X12_lay_41 : decode cX12_lay 41 = .ok (.iload_n 1, 1) := by decide +kernel
theorem d_X12_lay_42 : decode cX12_lay 42 = .ok (.bipush 100, 2) := by decide +kernel
theorem d_X12_lay_44 : decode cX12_lay 44 = .ok (.if_icmp .ge 45, 3) := by decide +kernel
theorem d_X12_lay_47 : decode cX12_lay 47 = .ok (.aload_n 0, 1) := by decide +kernel
theorem d_X12_lay_48 : decode cX12_lay 48 = .ok (.getfield 29, 3) := by decide +kernel
theorem d_X12_lay_51 : decode cX12_lay 51 = .ok (.iload_n 1, 1) := by decide +kernel
theorem d_X12_lay_52 : decode cX12_lay 52 = .ok (.aload_n 0, 1) := by decide +kernel
theorem d_X12_lay_53 : decode cX12_lay 53 = .ok (.getfield 128, 3) := by decide +kernel
theorem d_X12_lay_56 : decode cX12_lay 56 = .ok (.iload_n 1, 1) := by decide +kernel
theorem d_X12_lay_57 : decode cX12_lay 57 = .ok (.iaload, 1) := by decide +kernel
theorem d_X12_lay_58 : decode cX12_lay 58 = .ok (.iastore, 1) := by decide +kernel
theorem d_X12_lay_59 : decode cX12_lay 59 = .ok (.aload_n 0, 1) := by decide +kernel
theorem d_X12_lay_60 : decode cX12_lay 60 = .ok (.getfield 32, 3) := by decide +kernel
theorem d_X12_lay_63 : decode cX12_lay 63 = .ok (.iload_n 1, 1) := by decide +kernel
theorem d_X12_lay_64 : decode cX12_lay 64 = .ok (.aload_n 0, 1) := by decide +kernel
theorem d_X12_lay_65 : decode cX12_lay 65 = .ok (.getfield 131, 3) := by decide +kernel
theorem d_X12_lay_68 : decode cX12_lay 68 = .ok (.iload_n 1, 1) := by decide +kernel
theorem d_X12_lay_69 : decode cX12_lay 69 = .ok (.baload, 1) := by decide +kernel
theorem d_X12_lay_70 : decode cX12_lay 70 = .ok (.bastore, 1) := by decide +kernel
theorem d_X12_lay_71 : decode cX12_lay 71 = .ok (.aload_n 0, 1) := by decide +kernel
theorem d_X12_lay_72 : decode cX12_lay 72 = .ok (.getfield 35, 3) := by decide +kernel
theorem d_X12_lay_75 : decode cX12_lay 75 = .ok (.iload_n 1, 1) := by decide +kernel
theorem d_X12_lay_76 : decode cX12_lay 76 = .ok (.aload_n 0, 1) := by decide +kernel
theorem d_X12_lay_77 : decode cX12_lay 77 = .ok (.getfield 134, 3) := by decide +kernel
theorem d_X12_lay_80 : decode cX12_lay 80 = .ok (.iload_n 1, 1) := by decide +kernel
theorem d_X12_lay_81 : decode cX12_lay 81 = .ok (.baload, 1) := by decide +kernel
theorem d_X12_lay_82 : decode cX12_lay 82 = .ok (.bastore, 1) := by decide +kernel
theorem d_X12_lay_83 : decode cX12_lay 83 = .ok (.iinc 1 1, 3) := by decide +kernel
theorem d_X12_lay_86 : decode cX12_lay 86 = .ok (.goto (-45), 3) := by decide +kernel
theorem d_X12_lay_89 : decode cX12_lay 89 = .ok (.iconst 0, 1) := by decide +kernel
theorem d_X12_lay_90 : decode cX12_lay 90 = .ok (.istore_n 1, 1) := by decide +kernel
theorem d_X12_lay_91 : decode cX12_lay 91 = .ok (.iload_n 1, 1) := by decide +kernel
theorem d_X12_lay_92 : decode cX12_lay 92 = .ok (.sipush 160, 3) := by decide +kernel
theorem d_X12_lay_95 : decode cX12_lay 95 = .ok (.if_icmp .ge 33, 3) := by decide +kernel
theorem d_X12_lay_98 : decode cX12_lay 98 = .ok (.aload_n 0, 1) := by decide +kernel
theorem d_X12_lay_99 : decode cX12_lay 99 = .ok (.getfield 62, 3) := by decide +kernel
theorem d_X12_lay_102 : decode cX12_lay 102 = .ok (.iload_n 1, 1) := by decide +kernel
theorem d_X12_lay_103 : decode cX12_lay 103 = .ok (.aload_n 0, 1) := by decide +kernel
theorem d_X12_lay_104 : decode cX12_lay 104 = .ok (.getfield 140, 3) := by decide +kernel
theorem d_X12_lay_107 : decode cX12_lay 107 = .ok (.iload_n 1, 1) := by decide +kernel
theorem d_X12_lay_108 : decode cX12_lay 108 = .ok (.iaload, 1) := by decide +kernel
theorem d_X12_lay_109 : decode cX12_lay 109 = .ok (.iastore, 1) := by decide +kernel
theorem d_X12_lay_110 : decode cX12_lay 110 = .ok (.aload_n 0, 1) := by decide +kernel
theorem d_X12_lay_111 : decode cX12_lay 111 = .ok (.getfield 65, 3) := by decide +kernel
theorem d_X12_lay_114 : decode cX12_lay 114 = .ok (.iload_n 1, 1) := by decide +kernel
theorem d_X12_lay_115 : decode cX12_lay 115 = .ok (.aload_n 0, 1) := by decide +kernel
theorem d_X12_lay_116 : decode cX12_lay 116 = .ok (.getfield 143, 3) := by decide +kernel
theorem d_X12_lay_119 : decode cX12_lay 119 = .ok (.iload_n 1, 1) := by decide +kernel
theorem d_X12_lay_120 : decode cX12_lay 120 = .ok (.iaload, 1) := by decide +kernel
theorem d_X12_lay_121 : decode cX12_lay 121 = .ok (.iastore, 1) := by decide +kernel
theorem d_X12_lay_122 : decode cX12_lay 122 = .ok (.iinc 1 1, 3) := by decide +kernel
theorem d_X12_lay_125 : decode cX12_lay 125 = .ok (.goto (-34), 3) := by decide +kernel
theorem d_X12_lay_128 : decode cX12_lay 128 = .ok (.iconst 0, 1) := by decide +kernel
theorem d_X12_lay_129 : decode cX12_lay 129 = .ok (.istore_n 1, 1) := by decide +kernel
theorem d_X12_lay_130 : decode cX12_lay 130 = .ok (.iload_n 1, 1) := by decide +kernel
theorem d_X12_lay_131 : decode cX12_lay 131 = .ok (.bipush 12, 2) := by decide +kernel
theorem d_X12_lay_133 : decode cX12_lay 133 = .ok (.if_icmp .ge 36, 3) := by decide +kernel
theorem d_X12_lay_136 : decode cX12_lay 136 = .ok (.aload_n 0, 1) := by decide +kernel
theorem d_X12_lay_137 : decode cX12_lay 137 = .ok (.getfield 80, 3) := by decide +kernel
theorem d_X12_lay_140 : decode cX12_lay 140 = .ok (.iload_n 1, 1) := by decide +kernel
theorem d_X12_lay_141 : decode cX12_lay 141 = .ok (.aload_n 0, 1) := by decide +kernel
theorem d_X12_lay_142 : decode cX12_lay 142 = .ok (.getfield 149, 3) := by decide +kernel
theorem d_X12_lay_145 : decode cX12_lay 145 = .ok (.iload_n 1, 1) := by decide +kernel
theorem d_X12_lay_146 : decode cX12_lay 146 = .ok (.iaload, 1) := by decide +kernel
theorem d_X12_lay_147 : decode cX12_lay 147 = .ok (.iastore, 1) := by decide +kernel
theorem d_X12_lay_148 : decode cX12_lay 148 = .ok (.aload_n 0, 1) := by decide +kernel
theorem d_X12_lay_149 : decode cX12_lay 149 = .ok (.getfield 83, 3) := by decide +kernel
theorem d_X12_lay_152 : decode cX12_lay 152 = .ok (.iload_n 1, 1) := by decide +kernel
theorem d_X12_lay_153 : decode cX12_lay 153 = .ok (.aload_n 0, 1) := by decide +kernel
theorem d_X12_lay_154 : decode cX12_lay 154 = .ok (.getfield 149, 3) := by decide +kernel
theorem d_X12_lay_157 : decode cX12_lay 157 = .ok (.bipush 12, 2) := by decide +kernel
theorem d_X12_lay_159 : decode cX12_lay 159 = .ok (.iload_n 1, 1) := by decide +kernel
theorem d_X12_lay_160 : decode cX12_lay 160 = .ok (.iadd, 1) := by decide +kernel
theorem d_X12_lay_161 : decode cX12_lay 161 = .ok (.iaload, 1) := by decide +kernel
theorem d_X12_lay_162 : decode cX12_lay 162 = .ok (.iastore, 1) := by decide +kernel
theorem d_X12_lay_163 : decode cX12_lay 163 = .ok (.iinc 1 1, 3) := by decide +kernel
theorem d_X12_lay_166 : decode cX12_lay 166 = .ok (.goto (-36), 3) := by decide +kernel
theorem d_X12_lay_169 : decode cX12_lay 169 = .ok (.iconst 0, 1) := by decide +kernel
theorem d_X12_lay_170 : decode cX12_lay 170 = .ok (.istore_n 1, 1) := by decide +kernel
theorem d_X12_lay_171 : decode cX12_lay 171 = .ok (.iload_n 1, 1) := by decide +kernel
theorem d_X12_lay_172 : decode cX12_lay 172 = .ok (.bipush 11, 2) := by decide +kernel
theorem d_X12_lay_174 : decode cX12_lay 174 = .ok (.if_icmp .ge 21, 3) := by decide +kernel
theorem d_X12_lay_177 : decode cX12_lay 177 = .ok (.aload_n 0, 1) := by decide +kernel
theorem d_X12_lay_178 : decode cX12_lay 178 = .ok (.getfield 68, 3) := by decide +kernel
theorem d_X12_lay_181 : decode cX12_lay 181 = .ok (.iload_n 1, 1) := by decide +kernel
theorem d_X12_lay_182 : decode cX12_lay 182 = .ok (.aload_n 0, 1) := by decide +kernel
theorem d_X12_lay_183 : decode cX12_lay 183 = .ok (.getfield 146, 3) := by decide +kernel
theorem d_X12_lay_186 : decode cX12_lay 186 = .ok (.iload_n 1, 1) := by decide +kernel
theorem d_X12_lay_187 : decode cX12_lay 187 = .ok (.iaload, 1) := by decide +kernel
theorem d_X12_lay_188 : decode cX12_lay 188 = .ok (.iastore, 1) := by decide +kernel
theorem d_X12_lay_189 : decode cX12_lay 189 = .ok (.iinc 1 1, 3) := by decide +kernel
theorem d_X12_lay_192 : decode cX12_lay 192 = .ok (.goto (-21), 3) := by decide +kernel
theorem d_X12_lay_195 : decode cX12_lay 195 = .ok (.iconst 0, 1) := by decide +kernel
theorem d_X12_lay_196 : decode cX12_lay 196 = .ok (.istore_n 1, 1) := by decide +kernel
theorem d_X12_lay_197 : decode cX12_lay 197 = .ok (.iload_n 1, 1) := by decide +kernel
theorem d_X12_lay_198 : decode cX12_lay 198 = .ok (.bipush 10, 2) := by decide +kernel
theorem d_X12_lay_200 : decode cX12_lay 200 = .ok (.if_icmp .ge 21, 3) := by decide +kernel
theorem d_X12_lay_203 : decode cX12_lay 203 = .ok (.aload_n 0, 1) := by decide +kernel
theorem d_X12_lay_204 : decode cX12_lay 204 = .ok (.getfield 19, 3) := by decide +kernel
theorem d_X12_lay_207 : decode cX12_lay 207 = .ok (.iload_n 1, 1) := by decide +kernel
theorem d_X12_lay_208 : decode cX12_lay 208 = .ok (.aload_n 0, 1) := by decide +kernel
theorem d_X12_lay_209 : decode cX12_lay 209 = .ok (.getfield 119, 3) := by decide +kernel
theorem d_X12_lay_212 : decode cX12_lay 212 = .ok (.iload_n 1, 1) := by decide +kernel
theorem d_X12_lay_213 : decode cX12_lay 213 = .ok (.baload, 1) := by decide +kernel
theorem d_X12_lay_214 : decode cX12_lay 214 = .ok (.bastore, 1) := by decide +kernel
theorem d_X12_lay_215 : decode cX12_lay 215 = .ok (.iinc 1 1, 3) := by decide +kernel
theorem d_X12_lay_218 : decode cX12_lay 218 = .ok (.goto (-21), 3) := by decide +kernel
theorem d_X12_lay_221 : decode cX12_lay 221 = .ok (.iconst 0, 1) := by decide +kernel
theorem d_X12_lay_222 : decode cX12_lay 222 = .ok (.istore_n 1, 1) := by decide +kernel
theorem d_X12_lay_223 : decode cX12_lay 223 = .ok (.iload_n 1, 1) := by decide +kernel
theorem d_X12_lay_224 : decode cX12_lay 224 = .ok (.iconst 5, 1) := by decide +kernel
theorem d_X12_lay_225 : decode cX12_lay 225 = .ok (.if_icmp .ge 87, 3) := by decide +kernel
theorem d_X12_lay_228 : decode cX12_lay 228 = .ok (.aload_n 0, 1) := by decide +kernel
theorem d_X12_lay_229 : decode cX12_lay 229 = .ok (.getfield 47, 3) := by decide +kernel
theorem d_X12_lay_232 : decode cX12_lay 232 = .ok (.iload_n 1, 1) := by decide +kernel
theorem d_X12_lay_233 : decode cX12_lay 233 = .ok (.aload_n 0, 1) := by decide +kernel
theorem d_X12_lay_234 : decode cX12_lay 234 = .ok (.getfield 137, 3) := by decide +kernel
theorem d_X12_lay_237 : decode cX12_lay 237 = .ok (.iconst 5, 1) := by decide +kernel
theorem d_X12_lay_238 : decode cX12_lay 238 = .ok (.iload_n 1, 1) := by decide +kernel
theorem d_X12_lay_239 : decode cX12_lay 239 = .ok (.imul, 1) := by decide +kernel
theorem d_X12_lay_240 : decode cX12_lay 240 = .ok (.iaload, 1) := by decide +kernel
theorem d_X12_lay_241 : decode cX12_lay 241 = .ok (.iastore, 1) := by decide +kernel
theorem d_X12_lay_242 : decode cX12_lay 242 = .ok (.aload_n 0, 1) := by decide +kernel
theorem d_X12_lay_243 : decode cX12_lay 243 = .ok (.getfield 50, 3) := by decide +kernel
theorem d_X12_lay_246 : decode cX12_lay 246 = .ok (.iload_n 1, 1) := by decide +kernel
theorem d_X12_lay_247 : decode cX12_lay 247 = .ok (.aload_n 0, 1) := by decide +kernel
theorem d_X12_lay_248 : decode cX12_lay 248 = .ok (.getfield 137, 3) := by decide +kernel
theorem d_X12_lay_251 : decode cX12_lay 251 = .ok (.iconst 5, 1) := by decide +kernel
theorem d_X12_lay_252 : decode cX12_lay 252 = .ok (.iload_n 1, 1) := by decide +kernel
theorem d_X12_lay_253 : decode cX12_lay 253 = .ok (.imul, 1) := by decide +kernel
theorem d_X12_lay_254 : decode cX12_lay 254 = .ok (.iconst 1, 1) := by decide +kernel
theorem d_X12_lay_255 : decode cX12_lay 255 = .ok (.iadd, 1) := by decide +kernel
theorem d_X12_lay_256 : decode cX12_lay 256 = .ok (.iaload, 1) := by decide +kernel
theorem d_X12_lay_257 : decode cX12_lay 257 = .ok (.iastore, 1) := by decide +kernel
theorem d_X12_lay_258 : decode cX12_lay 258 = .ok (.aload_n 0, 1) := by decide +kernel
theorem d_X12_lay_259 : decode cX12_lay 259 = .ok (.getfield 53, 3) := by decide +kernel
theorem d_X12_lay_262 : decode cX12_lay 262 = .ok (.iload_n 1, 1) := by decide +kernel
theorem d_X12_lay_263 : decode cX12_lay 263 = .ok (.aload_n 0, 1) := by decide +kernel
theorem d_X12_lay_264 : decode cX12_lay 264 = .ok (.getfield 137, 3) := by decide +kernel
theorem d_X12_lay_267 : decode cX12_lay 267 = .ok (.iconst 5, 1) := by decide +kernel
theorem d_X12_lay_268 : decode cX12_lay 268 = .ok (.iload_n 1, 1) := by decide +kernel
theorem d_X12_lay_269 : decode cX12_lay 269 = .ok (.imul, 1) := by decide +kernel
theorem d_X12_lay_270 : decode cX12_lay 270 = .ok (.iconst 2, 1) := by decide +kernel
theorem d_X12_lay_271 : decode cX12_lay 271 = .ok (.iadd, 1) := by decide +kernel
theorem d_X12_lay_272 : decode cX12_lay 272 = .ok (.iaload, 1) := by decide +kernel
theorem d_X12_lay_273 : decode cX12_lay 273 = .ok (.iastore, 1) := by decide +kernel
theorem d_X12_lay_274 : decode cX12_lay 274 = .ok (.aload_n 0, 1) := by decide +kernel
theorem d_X12_lay_275 : decode cX12_lay 275 = .ok (.getfield 56, 3) := by decide +kernel
theorem d_X12_lay_278 : decode cX12_lay 278 = .ok (.iload_n 1, 1) := by decide +kernel
theorem d_X12_lay_279 : decode cX12_lay 279 = .ok (.aload_n 0, 1) := by decide +kernel
theorem d_X12_lay_280 : decode cX12_lay 280 = .ok (.getfield 137, 3) := by decide +kernel
theorem d_X12_lay_283 : decode cX12_lay 283 = .ok (.iconst 5, 1) := by decide +kernel
theorem d_X12_lay_284 : decode cX12_lay 284 = .ok (.iload_n 1, 1) := by decide +kernel
theorem d_X12_lay_285 : decode cX12_lay 285 = .ok (.imul, 1) := by decide +kernel
theorem d_X12_lay_286 : decode cX12_lay 286 = .ok (.iconst 3, 1) := by decide +kernel
theorem d_X12_lay_287 : decode cX12_lay 287 = .ok (.iadd, 1) := by decide +kernel
theorem d_X12_lay_288 : decode cX12_lay 288 = .ok (.iaload, 1) := by decide +kernel
theorem d_X12_lay_289 : decode cX12_lay 289 = .ok (.iastore, 1) := by decide +kernel
theorem d_X12_lay_290 : decode cX12_lay 290 = .ok (.aload_n 0, 1) := by decide +kernel
theorem d_X12_lay_291 : decode cX12_lay 291 = .ok (.getfield 59, 3) := by decide +kernel
theorem d_X12_lay_294 : decode cX12_lay 294 = .ok (.iload_n 1, 1) := by decide +kernel
theorem d_X12_lay_295 : decode cX12_lay 295 = .ok (.aload_n 0, 1) := by decide +kernel
theorem d_X12_lay_296 : decode cX12_lay 296 = .ok (.getfield 137, 3) := by decide +kernel
theorem d_X12_lay_299 : decode cX12_lay 299 = .ok (.iconst 5, 1) := by decide +kernel
theorem d_X12_lay_300 : decode cX12_lay 300 = .ok (.iload_n 1, 1) := by decide +kernel
theorem d_X12_lay_301 : decode cX12_lay 301 = .ok (.imul, 1) := by decide +kernel
theorem d_X12_lay_302 : decode cX12_lay 302 = .ok (.iconst 4, 1) := by decide +kernel
theorem d_X12_lay_303 : decode cX12_lay 303 = .ok (.iadd, 1) := by decide +kernel
theorem d_X12_lay_304 : decode cX12_lay 304 = .ok (.iaload, 1) := by decide +kernel
theorem d_X12_lay_305 : decode cX12_lay 305 = .ok (.iastore, 1) := by decide +kernel
theorem d_X12_lay_306 : decode cX12_lay 306 = .ok (.iinc 1 1, 3) := by decide +kernel
theorem d_X12_lay_309 : decode cX12_lay 309 = .ok (.goto (-86), 3) := by decide +kernel
theorem d_X12_lay_312 : decode cX12_lay 312 = .ok (.return_, 1) := by decide +kernel
theorem d_X12_back_0 : decode cX12_back 0 = .ok (.aload_n 0, 1) := by decide +kernel
theorem d_X12_back_1 : decode cX12_back 1 = .ok (.getfield 311, 3) := by decide +kernel
theorem d_X12_back_4 : decode cX12_back 4 = .ok (.bipush 10, 2) := by decide +kernel
theorem d_X12_back_6 : decode cX12_back 6 = .ok (.if_icmp .ne 9, 3) := by decide +kernel
theorem d_X12_back_9 : decode cX12_back 9 = .ok (.aload_n 0, 1) := by decide +kernel
theorem d_X12_back_10 : decode cX12_back 10 = .ok (.iconst 2, 1) := by decide +kernel
theorem d_X12_back_11 : decode cX12_back 11 = .ok (.invokevirtual 187, 3) := by decide +kernel
theorem d_X12_back_14 : decode cX12_back 14 = .ok (.ireturn, 1) := by decide +kernel
theorem d_X12_back_15 : decode cX12_back 15 = .ok (.aload_n 0, 1) := by decide +kernel
theorem d_X12_back_16 : decode cX12_back 16 = .ok (.getfield 307, 3) := by decide +kernel
theorem d_X12_back_19 : decode cX12_back 19 = .ok (.ifCond .ne 9, 3) := by decide +kernel
theorem d_X12_back_22 : decode cX12_back 22 = .ok (.aload_n 0, 1) := by decide +kernel
theorem d_X12_back_23 : decode cX12_back 23 = .ok (.iconst 3, 1) := by decide +kernel
theorem d_X12_back_24 : decode cX12_back 24 = .ok (.invokevirtual 187, 3) := by decide +kernel
theorem d_X12_back_27 : decode cX12_back 27 = .ok (.ireturn, 1) := by decide +kernel
theorem d_X12_back_28 : decode cX12_back 28 = .ok (.aload_n 0, 1) := by decide +kernel
theorem d_X12_back_29 : decode cX12_back 29 = .ok (.dup, 1) := by decide +kernel
theorem d_X12_back_30 : decode cX12_back 30 = .ok (.getfield 311, 3) := by decide +kernel
theorem d_X12_back_33 : decode cX12_back 33 = .ok (.iconst 1, 1) := by decide +kernel
theorem d_X12_back_34 : decode cX12_back 34 = .ok (.iadd, 1) := by decide +kernel
theorem d_X12_back_35 : decode cX12_back 35 = .ok (.putfield 311, 3) := by decide +kernel
theorem d_X12_back_38 : decode cX12_back 38 = .ok (.aload_n 0, 1) := by decide +kernel
theorem d_X12_back_39 : decode cX12_back 39 = .ok (.aload_n 0, 1) := by decide +kernel
theorem d_X12_back_40 : decode cX12_back 40 = .ok (.getfield 116, 3) := by decide +kernel
theorem d_X12_back_43 : decode cX12_back 43 = .ok (.iconst 0, 1) := by decide +kernel
theorem d_X12_back_44 : decode cX12_back 44 = .ok (.iaload, 1) := by decide +kernel
theorem d_X12_back_45 : decode cX12_back 45 = .ok (.putfield 171, 3) := by decide +kernel
theorem d_X12_back_48 : decode cX12_back 48 = .ok (.aload_n 0, 1) := by decide +kernel
theorem d_X12_back_49 : decode cX12_back 49 = .ok (.aload_n 0, 1) := by decide +kernel
theorem d_X12_back_50 : decode cX12_back 50 = .ok (.getfield 116, 3) := by decide +kernel
theorem d_X12_back_53 : decode cX12_back 53 = .ok (.iconst 1, 1) := by decide +kernel
theorem d_X12_back_54 : decode cX12_back 54 = .ok (.iaload, 1) := by decide +kernel
theorem d_X12_back_55 : decode cX12_back 55 = .ok (.putfield 178, 3) := by decide +kernel
theorem d_X12_back_58 : decode cX12_back 58 = .ok (.aload_n 0, 1) := by decide +kernel
theorem d_X12_back_59 : decode cX12_back 59 = .ok (.aload_n 0, 1) := by decide +kernel
theorem d_X12_back_60 : decode cX12_back 60 = .ok (.getfield 116, 3) := by decide +kernel
theorem d_X12_back_63 : decode cX12_back 63 = .ok (.iconst 2, 1) := by decide +kernel
theorem d_X12_back_64 : decode cX12_back 64 = .ok (.iaload, 1) := by decide +kernel
theorem d_X12_back_65 : decode cX12_back 65 = .ok (.putfield 181, 3) := by decide +kernel
theorem d_X12_back_68 : decode cX12_back 68 = .ok (.aload_n 0, 1) := by decide +kernel
theorem d_X12_back_69 : decode cX12_back 69 = .ok (.aload_n 0, 1) := by decide +kernel
theorem d_X12_back_70 : decode cX12_back 70 = .ok (.getfield 116, 3) := by decide +kernel
theorem d_X12_back_73 : decode cX12_back 73 = .ok (.iconst 3, 1) := by decide +kernel
theorem d_X12_back_74 : decode cX12_back 74 = .ok (.iaload, 1) := by decide +kernel
theorem d_X12_back_75 : decode cX12_back 75 = .ok (.putfield 287, 3) := by decide +kernel
theorem d_X12_back_78 : decode cX12_back 78 = .ok (.aload_n 0, 1) := by decide +kernel
theorem d_X12_back_79 : decode cX12_back 79 = .ok (.aload_n 0, 1) := by decide +kernel
theorem d_X12_back_80 : decode cX12_back 80 = .ok (.getfield 116, 3) := by decide +kernel
theorem d_X12_back_83 : decode cX12_back 83 = .ok (.iconst 4, 1) := by decide +kernel
theorem d_X12_back_84 : decode cX12_back 84 = .ok (.iaload, 1) := by decide +kernel
theorem d_X12_back_85 : decode cX12_back 85 = .ok (.putfield 296, 3) := by decide +kernel
theorem d_X12_back_88 : decode cX12_back 88 = .ok (.aload_n 0, 1) := by decide +kernel
theorem d_X12_back_89 : decode cX12_back 89 = .ok (.aload_n 0, 1) := by decide +kernel
theorem d_X12_back_90 : decode cX12_back 90 = .ok (.getfield 116, 3) := by decide +kernel
theorem d_X12_back_93 : decode cX12_back 93 = .ok (.iconst 5, 1) := by decide +kernel
theorem d_X12_back_94 : decode cX12_back 94 = .ok (.iaload, 1) := by decide +kernel
theorem d_X12_back_95 : decode cX12_back 95 = .ok (.putfield 184, 3) := by decide +kernel
theorem d_X12_back_98 : decode cX12_back 98 = .ok (.aload_n 0, 1) := by decide +kernel
theorem d_X12_back_99 : decode cX12_back 99 = .ok (.aload_n 0, 1) := by decide +kernel
theorem d_X12_back_100 : decode cX12_back 100 = .ok (.getfield 116, 3) := by decide +kernel
theorem d_X12_back_103 : decode cX12_back 103 = .ok (.bipush 6, 2) := by decide +kernel
theorem d_X12_back_105 : decode cX12_back 105 = .ok (.iaload, 1) := by decide +kernel
theorem d_X12_back_106 : decode cX12_back 106 = .ok (.putfield 244, 3) := by decide +kernel
theorem d_X12_back_109 : decode cX12_back 109 = .ok (.aload_n 0, 1) := by decide +kernel
theorem d_X12_back_110 : decode cX12_back 110 = .ok (.invokevirtual 314, 3) := by decide +kernel
theorem d_X12_back_113 : decode cX12_back 113 = .ok (.aload_n 0, 1) := by decide +kernel
theorem d_X12_back_114 : decode cX12_back 114 = .ok (.aload_n 0, 1) := by decide +kernel
theorem d_X12_back_115 : decode cX12_back 115 = .ok (.getfield 184, 3) := by decide +kernel
theorem d_X12_back_118 : decode cX12_back 118 = .ok (.invokevirtual 191, 3) := by decide +kernel
theorem d_X12_back_121 : decode cX12_back 121 = .ok (.ireturn, 1) := by decide +kernel
theorem d_X12_count_0 : decode cX12_count 0 = .ok (.iconst 0, 1) := by decide +kernel
theorem d_X12_count_1 : decode cX12_count 1 = .ok (.istore_n 2, 1) := by decide +kernel
theorem d_X12_count_2 : decode cX12_count 2 = .ok (.iload_n 1, 1) := by decide +kernel
theorem d_X12_count_3 : decode cX12_count 3 = .ok (.tableswitch 142 0 9 #[53, 58, 63, 68, 73, 78, 83, 88, 124, 137], 53) := by decide +kernel
theorem d_X12_count_56 : decode cX12_count 56 = .ok (.aload_n 0, 1) := by decide +kernel
theorem d_X12_count_57 : decode cX12_count 57 = .ok (.getfield 171, 3) := by decide +kernel
theorem d_X12_count_60 : decode cX12_count 60 = .ok (.ireturn, 1) := by decide +kernel
theorem d_X12_count_61 : decode cX12_count 61 = .ok (.aload_n 0, 1) := by decide +kernel
theorem d_X12_count_62 : decode cX12_count 62 = .ok (.getfield 178, 3) := by decide +kernel
theorem d_X12_count_65 : decode cX12_count 65 = .ok (.ireturn, 1) := by decide +kernel
theorem d_X12_count_66 : decode cX12_count 66 = .ok (.aload_n 0, 1) := by decide +kernel
theorem d_X12_count_67 : decode cX12_count 67 = .ok (.getfield 181, 3) := by decide +kernel
theorem d_X12_count_70 : decode cX12_count 70 = .ok (.ireturn, 1) := by decide +kernel
theorem d_X12_count_71 : decode cX12_count 71 = .ok (.aload_n 0, 1) := by decide +kernel
theorem d_X12_count_72 : decode cX12_count 72 = .ok (.getfield 287, 3) := by decide +kernel
theorem d_X12_count_75 : decode cX12_count 75 = .ok (.ireturn, 1) := by decide +kernel
theorem d_X12_count_76 : decode cX12_count 76 = .ok (.aload_n 0, 1) := by decide +kernel
theorem d_X12_count_77 : decode cX12_count 77 = .ok (.getfield 296, 3) := by decide +kernel
theorem d_X12_count_80 : decode cX12_count 80 = .ok (.ireturn, 1) := by decide +kernel
theorem d_X12_count_81 : decode cX12_count 81 = .ok (.aload_n 0, 1) := by decide +kernel
theorem d_X12_count_82 : decode cX12_count 82 = .ok (.getfield 184, 3) := by decide +kernel
theorem d_X12_count_85 : decode cX12_count 85 = .ok (.ireturn, 1) := by decide +kernel
theorem d_X12_count_86 : decode cX12_count 86 = .ok (.aload_n 0, 1) := by decide +kernel
theorem d_X12_count_87 : decode cX12_count 87 = .ok (.getfield 244, 3) := by decide +kernel
theorem d_X12_count_90 : decode cX12_count 90 = .ok (.ireturn, 1) := by decide +kernel
theorem d_X12_count_91 : decode cX12_count 91 = .ok (.iconst 0, 1) := by decide +kernel
theorem d_X12_count_92 : decode cX12_count 92 = .ok (.istore_n 3, 1) := by decide +kernel
theorem d_X12_count_93 : decode cX12_count 93 = .ok (.iload_n 3, 1) := by decide +kernel
theorem d_X12_count_94 : decode cX12_count 94 = .ok (.aload_n 0, 1) := by decide +kernel
theorem d_X12_count_95 : decode cX12_count 95 = .ok (.getfield 178, 3) := by decide +kernel
theorem d_X12_count_98 : decode cX12_count 98 = .ok (.if_icmp .ge 27, 3) := by decide +kernel
theorem d_X12_count_101 : decode cX12_count 101 = .ok (.iload_n 2, 1) := by decide +kernel
theorem d_X12_count_102 : decode cX12_count 102 = .ok (.aload_n 0, 1) := by decide +kernel
theorem d_X12_count_103 : decode cX12_count 103 = .ok (.getfield 47, 3) := by decide +kernel
theorem d_X12_count_106 : decode cX12_count 106 = .ok (.iload_n 3, 1) := by decide +kernel
theorem d_X12_count_107 : decode cX12_count 107 = .ok (.iaload, 1) := by decide +kernel
theorem d_X12_count_108 : decode cX12_count 108 = .ok (.iconst 3, 1) := by decide +kernel
theorem d_X12_count_109 : decode cX12_count 109 = .ok (.if_icmp .ne 7, 3) := by decide +kernel
theorem d_X12_count_112 : decode cX12_count 112 = .ok (.iconst 1, 1) := by decide +kernel
theorem d_X12_count_113 : decode cX12_count 113 = .ok (.goto 4, 3) := by decide +kernel
theorem d_X12_count_116 : decode cX12_count 116 = .ok (.iconst 0, 1) := by decide +kernel
theorem d_X12_count_117 : decode cX12_count 117 = .ok (.iadd, 1) := by decide +kernel
theorem d_X12_count_118 : decode cX12_count 118 = .ok (.istore_n 2, 1) := by decide +kernel
theorem d_X12_count_119 : decode cX12_count 119 = .ok (.iinc 3 1, 3) := by decide +kernel
theorem d_X12_count_122 : decode cX12_count 122 = .ok (.goto (-29), 3) := by decide +kernel
theorem d_X12_count_125 : decode cX12_count 125 = .ok (.iload_n 2, 1) := by decide +kernel
theorem d_X12_count_126 : decode cX12_count 126 = .ok (.ireturn, 1) := by decide +kernel
theorem d_X12_count_127 : decode cX12_count 127 = .ok (.aload_n 0, 1) := by decide +kernel
theorem d_X12_count_128 : decode cX12_count 128 = .ok (.invokevirtual 221, 3) := by decide +kernel
theorem d_X12_count_131 : decode cX12_count 131 = .ok (.ifCond .eq 7, 3) := by decide +kernel
theorem d_X12_count_134 : decode cX12_count 134 = .ok (.iconst 1, 1) := by decide +kernel
theorem d_X12_count_135 : decode cX12_count 135 = .ok (.goto 4, 3) := by decide +kernel
theorem d_X12_count_138 : decode cX12_count 138 = .ok (.iconst 0, 1) := by decide +kernel
theorem d_X12_count_139 : decode cX12_count 139 = .ok (.ireturn, 1) := by decide +kernel
theorem d_X12_count_140 : decode cX12_count 140 = .ok (.aload_n 0, 1) := by decide +kernel
theorem d_X12_count_141 : decode cX12_count 141 = .ok (.getfield 317, 3) := by decide +kernel
theorem d_X12_count_144 : decode cX12_count 144 = .ok (.ireturn, 1) := by decide +kernel
theorem d_X12_count_145 : decode cX12_count 145 = .ok (.iconst (-1), 1) := by decide +kernel
theorem d_X12_count_146 : decode cX12_count 146 = .ok (.ireturn, 1) := by decide +kernel
theorem d_X12_ran_0 : decode cX12_ran 0 = .ok (.aload_n 0, 1) := by decide +kernel
theorem d_X12_ran_1 : decode cX12_ran 1 = .ok (.getfield 317, 3) := by decide +kernel
theorem d_X12_ran_4 : decode cX12_ran 4 = .ok (.bipush 50, 2) := by decide +kernel
theorem d_X12_ran_6 : decode cX12_ran 6 = .ok (.if_icmp .ge 13, 3) := by decide +kernel
theorem d_X12_ran_9 : decode cX12_ran 9 = .ok (.aload_n 0, 1) := by decide +kernel
theorem d_X12_ran_10 : decode cX12_ran 10 = .ok (.getfield 152, 3) := by decide +kernel
theorem d_X12_ran_13 : decode cX12_ran 13 = .ok (.aload_n 0, 1) := by decide +kernel
theorem d_X12_ran_14 : decode cX12_ran 14 = .ok (.getfield 317, 3) := by decide +kernel
theorem d_X12_ran_17 : decode cX12_ran 17 = .ok (.iload_n 1, 1) := by decide +kernel
theorem d_X12_ran_18 : decode cX12_ran 18 = .ok (.iastore, 1) := by decide +kernel
theorem d_X12_ran_19 : decode cX12_ran 19 = .ok (.aload_n 0, 1) := by decide +kernel
theorem d_X12_ran_20 : decode cX12_ran 20 = .ok (.dup, 1) := by decide +kernel
theorem d_X12_ran_21 : decode cX12_ran 21 = .ok (.getfield 317, 3) := by decide +kernel
theorem d_X12_ran_24 : decode cX12_ran 24 = .ok (.iconst 1, 1) := by decide +kernel
theorem d_X12_ran_25 : decode cX12_ran 25 = .ok (.iadd, 1) := by decide +kernel
theorem d_X12_ran_26 : decode cX12_ran 26 = .ok (.putfield 317, 3) := by decide +kernel
theorem d_X12_ran_29 : decode cX12_ran 29 = .ok (.return_, 1) := by decide +kernel
theorem d_X12_bear10_0 : decode cX12_bear10 0 = .ok (.aload_n 0, 1) := by decide +kernel
theorem d_X12_bear10_1 : decode cX12_bear10 1 = .ok (.bipush 10, 2) := by decide +kernel
theorem d_X12_bear10_3 : decode cX12_bear10 3 = .ok (.invokevirtual 320, 3) := by decide +kernel
theorem d_X12_bear10_6 : decode cX12_bear10 6 = .ok (.iload_n 2, 1) := by decide +kernel
theorem d_X12_bear10_7 : decode cX12_bear10 7 = .ok (.aload_n 0, 1) := by decide +kernel
theorem d_X12_bear10_8 : decode cX12_bear10 8 = .ok (.getfield 16, 3) := by decide +kernel
theorem d_X12_bear10_11 : decode cX12_bear10 11 = .ok (.iload_n 1, 1) := by decide +kernel
theorem d_X12_bear10_12 : decode cX12_bear10 12 = .ok (.iaload, 1) := by decide +kernel
theorem d_X12_bear10_13 : decode cX12_bear10 13 = .ok (.iadd, 1) := by decide +kernel
theorem d_X12_bear10_14 : decode cX12_bear10 14 = .ok (.ireturn, 1) := by decide +kernel
theorem d_X12_bear20_0 : decode cX12_bear20 0 = .ok (.aload_n 0, 1) := by decide +kernel
theorem d_X12_bear20_1 : decode cX12_bear20 1 = .ok (.bipush 20, 2) := by decide +kernel
theorem d_X12_bear20_3 : decode cX12_bear20 3 = .ok (.invokevirtual 320, 3) := by decide +kernel
theorem d_X12_bear20_6 : decode cX12_bear20 6 = .ok (.aload_n 0, 1) := by decide +kernel
theorem d_X12_bear20_7 : decode cX12_bear20 7 = .ok (.iload_n 1, 1) := by decide +kernel
theorem d_X12_bear20_8 : decode cX12_bear20 8 = .ok (.iload_n 2, 1) := by decide +kernel
theorem d_X12_bear20_9 : decode cX12_bear20 9 = .ok (.invokevirtual 324, 3) := by decide +kernel
theorem d_X12_bear20_12 : decode cX12_bear20 12 = .ok (.aload_n 0, 1) := by decide +kernel
theorem d_X12_bear20_13 : decode cX12_bear20 13 = .ok (.getfield 13, 3) := by decide +kernel
theorem d_X12_bear20_16 : decode cX12_bear20 16 = .ok (.iload_n 1, 1) := by decide +kernel
theorem d_X12_bear20_17 : decode cX12_bear20 17 = .ok (.iaload, 1) := by decide +kernel
theorem d_X12_bear20_18 : decode cX12_bear20 18 = .ok (.isub, 1) := by decide +kernel
theorem d_X12_bear20_19 : decode cX12_bear20 19 = .ok (.ireturn, 1) := by decide +kernel
theorem d_X12_bearOf_0 : decode cX12_bearOf 0 = .ok (.aload_n 0, 1) := by decide +kernel
theorem d_X12_bearOf_1 : decode cX12_bearOf 1 = .ok (.getfield 7, 3) := by decide +kernel
theorem d_X12_bearOf_4 : decode cX12_bearOf 4 = .ok (.iload_n 1, 1) := by decide +kernel
theorem d_X12_bearOf_5 : decode cX12_bearOf 5 = .ok (.iaload, 1) := by decide +kernel
theorem d_X12_bearOf_6 : decode cX12_bearOf 6 = .ok (.iconst 3, 1) := by decide +kernel
theorem d_X12_bearOf_7 : decode cX12_bearOf 7 = .ok (.if_icmp .ne 18, 3) := by decide +kernel
theorem d_X12_bearOf_10 : decode cX12_bearOf 10 = .ok (.aload_n 0, 1) := by decide +kernel
theorem d_X12_bearOf_11 : decode cX12_bearOf 11 = .ok (.bipush 41, 2) := by decide +kernel
theorem d_X12_bearOf_13 : decode cX12_bearOf 13 = .ok (.invokevirtual 320, 3) := by decide +kernel
theorem d_X12_bearOf_16 : decode cX12_bearOf 16 = .ok (.aload_n 0, 1) := by decide +kernel
theorem d_X12_bearOf_17 : decode cX12_bearOf 17 = .ok (.iload_n 1, 1) := by decide +kernel
theorem d_X12_bearOf_18 : decode cX12_bearOf 18 = .ok (.iload_n 2, 1) := by decide +kernel
theorem d_X12_bearOf_19 : decode cX12_bearOf 19 = .ok (.iload_n 1, 1) := by decide +kernel
theorem d_X12_bearOf_20 : decode cX12_bearOf 20 = .ok (.iadd, 1) := by decide +kernel
theorem d_X12_bearOf_21 : decode cX12_bearOf 21 = .ok (.invokevirtual 327, 3) := by decide +kernel
theorem d_X12_bearOf_24 : decode cX12_bearOf 24 = .ok (.ireturn, 1) := by decide +kernel
theorem d_X12_bearOf_25 : decode cX12_bearOf 25 = .ok (.aload_n 0, 1) := by decide +kernel
theorem d_X12_bearOf_26 : decode cX12_bearOf 26 = .ok (.getfield 7, 3) := by decide +kernel
theorem d_X12_bearOf_29 : decode cX12_bearOf 29 = .ok (.iload_n 1, 1) := by decide +kernel
theorem d_X12_bearOf_30 : decode cX12_bearOf 30 = .ok (.iaload, 1) := by decide +kernel
theorem d_X12_bearOf_31 : decode cX12_bearOf 31 = .ok (.iconst 1, 1) := by decide +kernel
theorem d_X12_bearOf_32 : decode cX12_bearOf 32 = .ok (.if_icmp .ne 12, 3) := by decide +kernel
theorem d_X12_bearOf_35 : decode cX12_bearOf 35 = .ok (.aload_n 0, 1) := by decide +kernel
theorem d_X12_bearOf_36 : decode cX12_bearOf 36 = .ok (.iload_n 1, 1) := by decide +kernel
theorem d_X12_bearOf_37 : decode cX12_bearOf 37 = .ok (.iload_n 2, 1) := by decide +kernel
theorem d_X12_bearOf_38 : decode cX12_bearOf 38 = .ok (.invokevirtual 327, 3) := by decide +kernel
theorem d_X12_bearOf_41 : decode cX12_bearOf 41 = .ok (.goto 9, 3) := by decide +kernel
theorem d_X12_bearOf_44 : decode cX12_bearOf 44 = .ok (.aload_n 0, 1) := by decide +kernel
theorem d_X12_bearOf_45 : decode cX12_bearOf 45 = .ok (.iload_n 1, 1) := by decide +kernel
theorem d_X12_bearOf_46 : decode cX12_bearOf 46 = .ok (.iload_n 2, 1) := by decide +kernel
theorem d_X12_bearOf_47 : decode cX12_bearOf 47 = .ok (.invokevirtual 324, 3) := by decide +kernel
theorem d_X12_bearOf_50 : decode cX12_bearOf 50 = .ok (.ireturn, 1) := by decide +kernel
theorem d_X12_bar12_0 : decode cX12_bar12 0 = .ok (.aload_n 0, 1) := by decide +kernel
theorem d_X12_bar12_1 : decode cX12_bar12 1 = .ok (.bipush 12, 2) := by decide +kernel
theorem d_X12_bar12_3 : decode cX12_bar12 3 = .ok (.invokevirtual 320, 3) := by decide +kernel
theorem d_X12_bar12_6 : decode cX12_bar12 6 = .ok (.iload_n 2, 1) := by decide +kernel
theorem d_X12_bar12_7 : decode cX12_bar12 7 = .ok (.iload_n 1, 1) := by decide +kernel
theorem d_X12_bar12_8 : decode cX12_bar12 8 = .ok (.isub, 1) := by decide +kernel
theorem d_X12_bar12_9 : decode cX12_bar12 9 = .ok (.ireturn, 1) := by decide +kernel
theorem d_X12_barOf_0 : decode cX12_barOf 0 = .ok (.aload_n 0, 1) := by decide +kernel
theorem d_X12_barOf_1 : decode cX12_barOf 1 = .ok (.getfield 7, 3) := by decide +kernel
theorem d_X12_barOf_4 : decode cX12_barOf 4 = .ok (.iload_n 1, 1) := by decide +kernel
theorem d_X12_barOf_5 : decode cX12_barOf 5 = .ok (.iaload, 1) := by decide +kernel
theorem d_X12_barOf_6 : decode cX12_barOf 6 = .ok (.iconst 3, 1) := by decide +kernel
theorem d_X12_barOf_7 : decode cX12_barOf 7 = .ok (.if_icmp .ne 18, 3) := by decide +kernel
theorem d_X12_barOf_10 : decode cX12_barOf 10 = .ok (.aload_n 0, 1) := by decide +kernel
theorem d_X12_barOf_11 : decode cX12_barOf 11 = .ok (.bipush 40, 2) := by decide +kernel
theorem d_X12_barOf_13 : decode cX12_barOf 13 = .ok (.invokevirtual 320, 3) := by decide +kernel
theorem d_X12_barOf_16 : decode cX12_barOf 16 = .ok (.aload_n 0, 1) := by decide +kernel
theorem d_X12_barOf_17 : decode cX12_barOf 17 = .ok (.iload_n 1, 1) := by decide +kernel
theorem d_X12_barOf_18 : decode cX12_barOf 18 = .ok (.iload_n 2, 1) := by decide +kernel
theorem d_X12_barOf_19 : decode cX12_barOf 19 = .ok (.invokevirtual 330, 3) := by decide +kernel
theorem d_X12_barOf_22 : decode cX12_barOf 22 = .ok (.iconst 3, 1) := by decide +kernel
theorem d_X12_barOf_23 : decode cX12_barOf 23 = .ok (.imul, 1) := by decide +kernel
theorem d_X12_barOf_24 : decode cX12_barOf 24 = .ok (.ireturn, 1) := by decide +kernel
theorem d_X12_barOf_25 : decode cX12_barOf 25 = .ok (.aload_n 0, 1) := by decide +kernel
theorem d_X12_barOf_26 : decode cX12_barOf 26 = .ok (.getfield 7, 3) := by decide +kernel
theorem d_X12_barOf_29 : decode cX12_barOf 29 = .ok (.iload_n 1, 1) := by decide +kernel
theorem d_X12_barOf_30 : decode cX12_barOf 30 = .ok (.iaload, 1) := by decide +kernel
theorem d_X12_barOf_31 : decode cX12_barOf 31 = .ok (.iconst 4, 1) := by decide +kernel
theorem d_X12_barOf_32 : decode cX12_barOf 32 = .ok (.if_icmp .ne 23, 3) := by decide +kernel
theorem d_X12_barOf_35 : decode cX12_barOf 35 = .ok (.aload_n 0, 1) := by decide +kernel
theorem d_X12_barOf_36 : decode cX12_barOf 36 = .ok (.bipush 51, 2) := by decide +kernel
theorem d_X12_barOf_38 : decode cX12_barOf 38 = .ok (.invokevirtual 320, 3) := by decide +kernel
theorem d_X12_barOf_41 : decode cX12_barOf 41 = .ok (.aload_n 0, 1) := by decide +kernel
theorem d_X12_barOf_42 : decode cX12_barOf 42 = .ok (.iload_n 1, 1) := by decide +kernel
theorem d_X12_barOf_43 : decode cX12_barOf 43 = .ok (.iload_n 2, 1) := by decide +kernel
theorem d_X12_barOf_44 : decode cX12_barOf 44 = .ok (.aload_n 0, 1) := by decide +kernel
theorem d_X12_barOf_45 : decode cX12_barOf 45 = .ok (.getfield 13, 3) := by decide +kernel
theorem d_X12_barOf_48 : decode cX12_barOf 48 = .ok (.iload_n 1, 1) := by decide +kernel
theorem d_X12_barOf_49 : decode cX12_barOf 49 = .ok (.iaload, 1) := by decide +kernel
theorem d_X12_barOf_50 : decode cX12_barOf 50 = .ok (.iadd, 1) := by decide +kernel
theorem d_X12_barOf_51 : decode cX12_barOf 51 = .ok (.invokevirtual 330, 3) := by decide +kernel
theorem d_X12_barOf_54 : decode cX12_barOf 54 = .ok (.ireturn, 1) := by decide +kernel
theorem d_X12_barOf_55 : decode cX12_barOf 55 = .ok (.aload_n 0, 1) := by decide +kernel
theorem d_X12_barOf_56 : decode cX12_barOf 56 = .ok (.iload_n 1, 1) := by decide +kernel
theorem d_X12_barOf_57 : decode cX12_barOf 57 = .ok (.iload_n 2, 1) := by decide +kernel
theorem d_X12_barOf_58 : decode cX12_barOf 58 = .ok (.invokevirtual 330, 3) := by decide +kernel
theorem d_X12_barOf_61 : decode cX12_barOf 61 = .ok (.ireturn, 1) := by decide +kernel
theorem d_X12_move11_0 : decode cX12_move11 0 = .ok (.aload_n 0, 1) := by decide +kernel
theorem d_X12_move11_1 : decode cX12_move11 1 = .ok (.bipush 11, 2) := by decide +kernel
theorem d_X12_move11_3 : decode cX12_move11 3 = .ok (.invokevirtual 320, 3) := by decide +kernel
theorem d_X12_move11_6 : decode cX12_move11 6 = .ok (.aload_n 0, 1) := by decide +kernel
theorem d_X12_move11_7 : decode cX12_move11 7 = .ok (.iload_n 1, 1) := by decide +kernel
theorem d_X12_move11_8 : decode cX12_move11 8 = .ok (.iload_n 2, 1) := by decide +kernel
theorem d_X12_move11_9 : decode cX12_move11 9 = .ok (.invokevirtual 333, 3) := by decide +kernel
theorem d_X12_move11_12 : decode cX12_move11 12 = .ok (.iconst 2, 1) := by decide +kernel
theorem d_X12_move11_13 : decode cX12_move11 13 = .ok (.imul, 1) := by decide +kernel
theorem d_X12_move11_14 : decode cX12_move11 14 = .ok (.ireturn, 1) := by decide +kernel
theorem d_X12_moveOf_0 : decode cX12_moveOf 0 = .ok (.aload_n 0, 1) := by decide +kernel
theorem d_X12_moveOf_1 : decode cX12_moveOf 1 = .ok (.getfield 7, 3) := by decide +kernel
theorem d_X12_moveOf_4 : decode cX12_moveOf 4 = .ok (.iload_n 1, 1) := by decide +kernel
theorem d_X12_moveOf_5 : decode cX12_moveOf 5 = .ok (.iaload, 1) := by decide +kernel
theorem d_X12_moveOf_6 : decode cX12_moveOf 6 = .ok (.iconst 2, 1) := by decide +kernel
theorem d_X12_moveOf_7 : decode cX12_moveOf 7 = .ok (.if_icmp .ne 30, 3) := by decide +kernel
theorem d_X12_moveOf_10 : decode cX12_moveOf 10 = .ok (.aload_n 0, 1) := by decide +kernel
theorem d_X12_moveOf_11 : decode cX12_moveOf 11 = .ok (.bipush 30, 2) := by decide +kernel
theorem d_X12_moveOf_13 : decode cX12_moveOf 13 = .ok (.invokevirtual 320, 3) := by decide +kernel
theorem d_X12_moveOf_16 : decode cX12_moveOf 16 = .ok (.aload_n 0, 1) := by decide +kernel
theorem d_X12_moveOf_17 : decode cX12_moveOf 17 = .ok (.iload_n 1, 1) := by decide +kernel
theorem d_X12_moveOf_18 : decode cX12_moveOf 18 = .ok (.iload_n 2, 1) := by decide +kernel
theorem d_X12_moveOf_19 : decode cX12_moveOf 19 = .ok (.invokevirtual 336, 3) := by decide +kernel
theorem d_X12_moveOf_22 : decode cX12_moveOf 22 = .ok (.istore_n 3, 1) := by decide +kernel
theorem d_X12_moveOf_23 : decode cX12_moveOf 23 = .ok (.iload_n 3, 1) := by decide +kernel
theorem d_X12_moveOf_24 : decode cX12_moveOf 24 = .ok (.aload_n 0, 1) := by decide +kernel
theorem d_X12_moveOf_25 : decode cX12_moveOf 25 = .ok (.iload_n 1, 1) := by decide +kernel
theorem d_X12_moveOf_26 : decode cX12_moveOf 26 = .ok (.aload_n 0, 1) := by decide +kernel
theorem d_X12_moveOf_27 : decode cX12_moveOf 27 = .ok (.getfield 13, 3) := by decide +kernel
theorem d_X12_moveOf_30 : decode cX12_moveOf 30 = .ok (.iload_n 1, 1) := by decide +kernel
theorem d_X12_moveOf_31 : decode cX12_moveOf 31 = .ok (.iaload, 1) := by decide +kernel
theorem d_X12_moveOf_32 : decode cX12_moveOf 32 = .ok (.invokevirtual 339, 3) := by decide +kernel
theorem d_X12_moveOf_35 : decode cX12_moveOf 35 = .ok (.iadd, 1) := by decide +kernel
theorem d_X12_moveOf_36 : decode cX12_moveOf 36 = .ok (.ireturn, 1) := by decide +kernel
theorem d_X12_moveOf_37 : decode cX12_moveOf 37 = .ok (.aload_n 0, 1) := by decide +kernel
theorem d_X12_moveOf_38 : decode cX12_moveOf 38 = .ok (.getfield 7, 3) := by decide +kernel
theorem d_X12_moveOf_41 : decode cX12_moveOf 41 = .ok (.iload_n 1, 1) := by decide +kernel
theorem d_X12_moveOf_42 : decode cX12_moveOf 42 = .ok (.iaload, 1) := by decide +kernel
theorem d_X12_moveOf_43 : decode cX12_moveOf 43 = .ok (.iconst 4, 1) := by decide +kernel
theorem d_X12_moveOf_44 : decode cX12_moveOf 44 = .ok (.if_icmp .ne 23, 3) := by decide +kernel
theorem d_X12_moveOf_47 : decode cX12_moveOf 47 = .ok (.aload_n 0, 1) := by decide +kernel
theorem d_X12_moveOf_48 : decode cX12_moveOf 48 = .ok (.bipush 50, 2) := by decide +kernel
theorem d_X12_moveOf_50 : decode cX12_moveOf 50 = .ok (.invokevirtual 320, 3) := by decide +kernel
theorem d_X12_moveOf_53 : decode cX12_moveOf 53 = .ok (.aload_n 0, 1) := by decide +kernel
theorem d_X12_moveOf_54 : decode cX12_moveOf 54 = .ok (.iload_n 1, 1) := by decide +kernel
theorem d_X12_moveOf_55 : decode cX12_moveOf 55 = .ok (.iload_n 2, 1) := by decide +kernel
theorem d_X12_moveOf_56 : decode cX12_moveOf 56 = .ok (.invokevirtual 336, 3) := by decide +kernel
theorem d_X12_moveOf_59 : decode cX12_moveOf 59 = .ok (.aload_n 0, 1) := by decide +kernel
theorem d_X12_moveOf_60 : decode cX12_moveOf 60 = .ok (.getfield 16, 3) := by decide +kernel
theorem d_X12_moveOf_63 : decode cX12_moveOf 63 = .ok (.iload_n 1, 1) := by decide +kernel
theorem d_X12_moveOf_64 : decode cX12_moveOf 64 = .ok (.iaload, 1) := by decide +kernel
theorem d_X12_moveOf_65 : decode cX12_moveOf 65 = .ok (.ixor, 1) := by decide +kernel
theorem d_X12_moveOf_66 : decode cX12_moveOf 66 = .ok (.ireturn, 1) := by decide +kernel
theorem d_X12_moveOf_67 : decode cX12_moveOf 67 = .ok (.aload_n 0, 1) := by decide +kernel
theorem d_X12_moveOf_68 : decode cX12_moveOf 68 = .ok (.iload_n 1, 1) := by decide +kernel
theorem d_X12_moveOf_69 : decode cX12_moveOf 69 = .ok (.iload_n 2, 1) := by decide +kernel
theorem d_X12_moveOf_70 : decode cX12_moveOf 70 = .ok (.invokevirtual 336, 3) := by decide +kernel
theorem d_X12_moveOf_73 : decode cX12_moveOf 73 = .ok (.ireturn, 1) := by decide +kernel
theorem d_X12_tell13_0 : decode cX12_tell13 0 = .ok (.aload_n 0, 1) := by decide +kernel
theorem d_X12_tell13_1 : decode cX12_tell13 1 = .ok (.bipush 13, 2) := by decide +kernel
theorem d_X12_tell13_3 : decode cX12_tell13 3 = .ok (.invokevirtual 320, 3) := by decide +kernel
theorem d_X12_tell13_6 : decode cX12_tell13 6 = .ok (.aload_n 0, 1) := by decide +kernel
theorem d_X12_tell13_7 : decode cX12_tell13 7 = .ok (.iload_n 1, 1) := by decide +kernel
theorem d_X12_tell13_8 : decode cX12_tell13 8 = .ok (.iload_n 2, 1) := by decide +kernel
theorem d_X12_tell13_9 : decode cX12_tell13 9 = .ok (.invokevirtual 342, 3) := by decide +kernel
theorem d_X12_tell13_12 : decode cX12_tell13 12 = .ok (.istore_n 3, 1) := by decide +kernel
theorem d_X12_tell13_13 : decode cX12_tell13 13 = .ok (.iload_n 3, 1) := by decide +kernel
theorem d_X12_tell13_14 : decode cX12_tell13 14 = .ok (.aload_n 0, 1) := by decide +kernel
theorem d_X12_tell13_15 : decode cX12_tell13 15 = .ok (.iload_n 1, 1) := by decide +kernel
theorem d_X12_tell13_16 : decode cX12_tell13 16 = .ok (.iload_n 2, 1) := by decide +kernel
theorem d_X12_tell13_17 : decode cX12_tell13 17 = .ok (.invokevirtual 339, 3) := by decide +kernel
theorem d_X12_tell13_20 : decode cX12_tell13 20 = .ok (.ixor, 1) := by decide +kernel
theorem d_X12_tell13_21 : decode cX12_tell13 21 = .ok (.ireturn, 1) := by decide +kernel
theorem d_X12_tellOf_0 : decode cX12_tellOf 0 = .ok (.aload_n 0, 1) := by decide +kernel
theorem d_X12_tellOf_1 : decode cX12_tellOf 1 = .ok (.iload_n 1, 1) := by decide +kernel
theorem d_X12_tellOf_2 : decode cX12_tellOf 2 = .ok (.invokevirtual 205, 3) := by decide +kernel
theorem d_X12_tellOf_5 : decode cX12_tellOf 5 = .ok (.ifCond .eq 18, 3) := by decide +kernel
theorem d_X12_tellOf_8 : decode cX12_tellOf 8 = .ok (.aload_n 0, 1) := by decide +kernel
theorem d_X12_tellOf_9 : decode cX12_tellOf 9 = .ok (.bipush 21, 2) := by decide +kernel
theorem d_X12_tellOf_11 : decode cX12_tellOf 11 = .ok (.invokevirtual 320, 3) := by decide +kernel
theorem d_X12_tellOf_14 : decode cX12_tellOf 14 = .ok (.aload_n 0, 1) := by decide +kernel
theorem d_X12_tellOf_15 : decode cX12_tellOf 15 = .ok (.iload_n 1, 1) := by decide +kernel
theorem d_X12_tellOf_16 : decode cX12_tellOf 16 = .ok (.iload_n 2, 1) := by decide +kernel
theorem d_X12_tellOf_17 : decode cX12_tellOf 17 = .ok (.iconst 1, 1) := by decide +kernel
theorem d_X12_tellOf_18 : decode cX12_tellOf 18 = .ok (.iadd, 1) := by decide +kernel
theorem d_X12_tellOf_19 : decode cX12_tellOf 19 = .ok (.invokevirtual 345, 3) := by decide +kernel
theorem d_X12_tellOf_22 : decode cX12_tellOf 22 = .ok (.ireturn, 1) := by decide +kernel
theorem d_X12_tellOf_23 : decode cX12_tellOf 23 = .ok (.aload_n 0, 1) := by decide +kernel
theorem d_X12_tellOf_24 : decode cX12_tellOf 24 = .ok (.getfield 7, 3) := by decide +kernel
theorem d_X12_tellOf_27 : decode cX12_tellOf 27 = .ok (.iload_n 1, 1) := by decide +kernel
theorem d_X12_tellOf_28 : decode cX12_tellOf 28 = .ok (.iaload, 1) := by decide +kernel
theorem d_X12_tellOf_29 : decode cX12_tellOf 29 = .ok (.iconst 5, 1) := by decide +kernel
theorem d_X12_tellOf_30 : decode cX12_tellOf 30 = .ok (.if_icmp .ne 25, 3) := by decide +kernel
theorem d_X12_tellOf_33 : decode cX12_tellOf 33 = .ok (.aload_n 0, 1) := by decide +kernel
theorem d_X12_tellOf_34 : decode cX12_tellOf 34 = .ok (.bipush 60, 2) := by decide +kernel
theorem d_X12_tellOf_36 : decode cX12_tellOf 36 = .ok (.invokevirtual 320, 3) := by decide +kernel
theorem d_X12_tellOf_39 : decode cX12_tellOf 39 = .ok (.aload_n 0, 1) := by decide +kernel
theorem d_X12_tellOf_40 : decode cX12_tellOf 40 = .ok (.iload_n 1, 1) := by decide +kernel
theorem d_X12_tellOf_41 : decode cX12_tellOf 41 = .ok (.iload_n 2, 1) := by decide +kernel
theorem d_X12_tellOf_42 : decode cX12_tellOf 42 = .ok (.invokevirtual 339, 3) := by decide +kernel
theorem d_X12_tellOf_45 : decode cX12_tellOf 45 = .ok (.istore_n 3, 1) := by decide +kernel
theorem d_X12_tellOf_46 : decode cX12_tellOf 46 = .ok (.iload_n 3, 1) := by decide +kernel
theorem d_X12_tellOf_47 : decode cX12_tellOf 47 = .ok (.aload_n 0, 1) := by decide +kernel
theorem d_X12_tellOf_48 : decode cX12_tellOf 48 = .ok (.iload_n 1, 1) := by decide +kernel
theorem d_X12_tellOf_49 : decode cX12_tellOf 49 = .ok (.iload_n 2, 1) := by decide +kernel
theorem d_X12_tellOf_50 : decode cX12_tellOf 50 = .ok (.invokevirtual 345, 3) := by decide +kernel
theorem d_X12_tellOf_53 : decode cX12_tellOf 53 = .ok (.isub, 1) := by decide +kernel
theorem d_X12_tellOf_54 : decode cX12_tellOf 54 = .ok (.ireturn, 1) := by decide +kernel
theorem d_X12_tellOf_55 : decode cX12_tellOf 55 = .ok (.aload_n 0, 1) := by decide +kernel
theorem d_X12_tellOf_56 : decode cX12_tellOf 56 = .ok (.iload_n 1, 1) := by decide +kernel
theorem d_X12_tellOf_57 : decode cX12_tellOf 57 = .ok (.iload_n 2, 1) := by decide +kernel
theorem d_X12_tellOf_58 : decode cX12_tellOf 58 = .ok (.invokevirtual 345, 3) := by decide +kernel
theorem d_X12_tellOf_61 : decode cX12_tellOf 61 = .ok (.ireturn, 1) := by decide +kernel
theorem d_X12_act_0 : decode cX12_act 0 = .ok (.aload_n 0, 1) := by decide +kernel
theorem d_X12_act_1 : decode cX12_act 1 = .ok (.iload_n 1, 1) := by decide +kernel
theorem d_X12_act_2 : decode cX12_act 2 = .ok (.invokevirtual 202, 3) := by decide +kernel
theorem d_X12_act_5 : decode cX12_act 5 = .ok (.ifCond .eq 12, 3) := by decide +kernel
theorem d_X12_act_8 : decode cX12_act 8 = .ok (.iload_n 2, 1) := by decide +kernel
theorem d_X12_act_9 : decode cX12_act 9 = .ok (.iconst 0, 1) := by decide +kernel
theorem d_X12_act_10 : decode cX12_act 10 = .ok (.iconst 3, 1) := by decide +kernel
theorem d_X12_act_11 : decode cX12_act 11 = .ok (.invokestatic 174, 3) := by decide +kernel
theorem d_X12_act_14 : decode cX12_act 14 = .ok (.ifCond .ne 9, 3) := by decide +kernel
theorem d_X12_act_17 : decode cX12_act 17 = .ok (.aload_n 0, 1) := by decide +kernel
theorem d_X12_act_18 : decode cX12_act 18 = .ok (.iconst 1, 1) := by decide +kernel
theorem d_X12_act_19 : decode cX12_act 19 = .ok (.invokevirtual 187, 3) := by decide +kernel
theorem d_X12_act_22 : decode cX12_act 22 = .ok (.ireturn, 1) := by decide +kernel
theorem d_X12_act_23 : decode cX12_act 23 = .ok (.aload_n 0, 1) := by decide +kernel
theorem d_X12_act_24 : decode cX12_act 24 = .ok (.iconst 0, 1) := by decide +kernel
theorem d_X12_act_25 : decode cX12_act 25 = .ok (.putfield 317, 3) := by decide +kernel
theorem d_X12_act_28 : decode cX12_act 28 = .ok (.aload_n 0, 1) := by decide +kernel
theorem d_X12_act_29 : decode cX12_act 29 = .ok (.iconst 0, 1) := by decide +kernel
theorem d_X12_act_30 : decode cX12_act 30 = .ok (.putfield 167, 3) := by decide +kernel
theorem d_X12_act_33 : decode cX12_act 33 = .ok (.iload_n 2, 1) := by decide +kernel
theorem d_X12_act_34 : decode cX12_act 34 = .ok (.ifCond .ne 12, 3) := by decide +kernel
theorem d_X12_act_37 : decode cX12_act 37 = .ok (.aload_n 0, 1) := by decide +kernel
theorem d_X12_act_38 : decode cX12_act 38 = .ok (.iload_n 1, 1) := by decide +kernel
theorem d_X12_act_39 : decode cX12_act 39 = .ok (.iload_n 3, 1) := by decide +kernel
theorem d_X12_act_40 : decode cX12_act 40 = .ok (.invokevirtual 333, 3) := by decide +kernel
theorem d_X12_act_43 : decode cX12_act 43 = .ok (.goto 37, 3) := by decide +kernel
theorem d_X12_act_46 : decode cX12_act 46 = .ok (.iload_n 2, 1) := by decide +kernel
theorem d_X12_act_47 : decode cX12_act 47 = .ok (.iconst 1, 1) := by decide +kernel
theorem d_X12_act_48 : decode cX12_act 48 = .ok (.if_icmp .ne 12, 3) := by decide +kernel
theorem d_X12_act_51 : decode cX12_act 51 = .ok (.aload_n 0, 1) := by decide +kernel
theorem d_X12_act_52 : decode cX12_act 52 = .ok (.iload_n 1, 1) := by decide +kernel
theorem d_X12_act_53 : decode cX12_act 53 = .ok (.iload_n 3, 1) := by decide +kernel
theorem d_X12_act_54 : decode cX12_act 54 = .ok (.invokevirtual 342, 3) := by decide +kernel
theorem d_X12_act_57 : decode cX12_act 57 = .ok (.goto 23, 3) := by decide +kernel
theorem d_X12_act_60 : decode cX12_act 60 = .ok (.iload_n 2, 1) := by decide +kernel
theorem d_X12_act_61 : decode cX12_act 61 = .ok (.iconst 2, 1) := by decide +kernel
theorem d_X12_act_62 : decode cX12_act 62 = .ok (.if_icmp .ne 12, 3) := by decide +kernel
theorem d_X12_act_65 : decode cX12_act 65 = .ok (.aload_n 0, 1) := by decide +kernel
theorem d_X12_act_66 : decode cX12_act 66 = .ok (.iload_n 1, 1) := by decide +kernel
theorem d_X12_act_67 : decode cX12_act 67 = .ok (.iload_n 3, 1) := by decide +kernel
theorem d_X12_act_68 : decode cX12_act 68 = .ok (.invokevirtual 339, 3) := by decide +kernel
theorem d_X12_act_71 : decode cX12_act 71 = .ok (.goto 9, 3) := by decide +kernel
theorem d_X12_act_74 : decode cX12_act 74 = .ok (.aload_n 0, 1) := by decide +kernel
theorem d_X12_act_75 : decode cX12_act 75 = .ok (.iload_n 1, 1) := by decide +kernel
theorem d_X12_act_76 : decode cX12_act 76 = .ok (.iload_n 3, 1) := by decide +kernel
theorem d_X12_act_77 : decode cX12_act 77 = .ok (.invokevirtual 348, 3) := by decide +kernel
theorem d_X12_act_80 : decode cX12_act 80 = .ok (.ireturn, 1) := by decide +kernel
theorem d_X12_trace_0 : decode cX12_trace 0 = .ok (.iload_n 1, 1) := by decide +kernel
theorem d_X12_trace_1 : decode cX12_trace 1 = .ok (.iconst 0, 1) := by decide +kernel
theorem d_X12_trace_2 : decode cX12_trace 2 = .ok (.aload_n 0, 1) := by decide +kernel
theorem d_X12_trace_3 : decode cX12_trace 3 = .ok (.getfield 317, 3) := by decide +kernel
theorem d_X12_trace_6 : decode cX12_trace 6 = .ok (.bipush 50, 2) := by decide +kernel
theorem d_X12_trace_8 : decode cX12_trace 8 = .ok (.if_icmp .ge 10, 3) := by decide +kernel
theorem d_X12_trace_11 : decode cX12_trace 11 = .ok (.aload_n 0, 1) := by decide +kernel
theorem d_X12_trace_12 : decode cX12_trace 12 = .ok (.getfield 317, 3) := by decide +kernel
theorem d_X12_trace_15 : decode cX12_trace 15 = .ok (.goto 5, 3) := by decide +kernel
theorem d_X12_trace_18 : decode cX12_trace 18 = .ok (.bipush 50, 2) := by decide +kernel
theorem d_X12_trace_20 : decode cX12_trace 20 = .ok (.iconst 1, 1) := by decide +kernel
theorem d_X12_trace_21 : decode cX12_trace 21 = .ok (.isub, 1) := by decide +kernel
theorem d_X12_trace_22 : decode cX12_trace 22 = .ok (.invokestatic 174, 3) := by decide +kernel
theorem d_X12_trace_25 : decode cX12_trace 25 = .ok (.ifCond .eq 12, 3) := by decide +kernel
theorem d_X12_trace_28 : decode cX12_trace 28 = .ok (.aload_n 0, 1) := by decide +kernel
theorem d_X12_trace_29 : decode cX12_trace 29 = .ok (.getfield 152, 3) := by decide +kernel
theorem d_X12_trace_32 : decode cX12_trace 32 = .ok (.iload_n 1, 1) := by decide +kernel
theorem d_X12_trace_33 : decode cX12_trace 33 = .ok (.iaload, 1) := by decide +kernel
theorem d_X12_trace_34 : decode cX12_trace 34 = .ok (.goto 4, 3) := by decide +kernel
theorem d_X12_trace_37 : decode cX12_trace 37 = .ok (.iconst (-1), 1) := by decide +kernel
theorem d_X12_trace_38 : decode cX12_trace 38 = .ok (.ireturn, 1) := by decide +kernel
theorem d_X12_sheet_0 : decode cX12_sheet 0 = .ok (.iload_n 1, 1) := by decide +kernel
theorem d_X12_sheet_1 : decode cX12_sheet 1 = .ok (.iconst 0, 1) := by decide +kernel
theorem d_X12_sheet_2 : decode cX12_sheet 2 = .ok (.iconst 3, 1) := by decide +kernel
theorem d_X12_sheet_3 : decode cX12_sheet 3 = .ok (.invokestatic 174, 3) := by decide +kernel
theorem d_X12_sheet_6 : decode cX12_sheet 6 = .ok (.ifCond .eq 27, 3) := by decide +kernel
theorem d_X12_sheet_9 : decode cX12_sheet 9 = .ok (.iload_n 2, 1) := by decide +kernel
theorem d_X12_sheet_10 : decode cX12_sheet 10 = .ok (.iconst (-1), 1) := by decide +kernel
theorem d_X12_sheet_11 : decode cX12_sheet 11 = .ok (.iconst 2, 1) := by decide +kernel
theorem d_X12_sheet_12 : decode cX12_sheet 12 = .ok (.invokestatic 174, 3) := by decide +kernel
theorem d_X12_sheet_15 : decode cX12_sheet 15 = .ok (.ifCond .eq 18, 3) := by decide +kernel
theorem d_X12_sheet_18 : decode cX12_sheet 18 = .ok (.iload_n 2, 1) := by decide +kernel
theorem d_X12_sheet_19 : decode cX12_sheet 19 = .ok (.iconst (-1), 1) := by decide +kernel
theorem d_X12_sheet_20 : decode cX12_sheet 20 = .ok (.if_icmp .eq 19, 3) := by decide +kernel
theorem d_X12_sheet_23 : decode cX12_sheet 23 = .ok (.iload_n 3, 1) := by decide +kernel
theorem d_X12_sheet_24 : decode cX12_sheet 24 = .ok (.iconst 0, 1) := by decide +kernel
theorem d_X12_sheet_25 : decode cX12_sheet 25 = .ok (.bipush 40, 2) := by decide +kernel
theorem d_X12_sheet_27 : decode cX12_sheet 27 = .ok (.invokestatic 174, 3) := by decide +kernel
theorem d_X12_sheet_30 : decode cX12_sheet 30 = .ok (.ifCond .ne 9, 3) := by decide +kernel
theorem d_X12_sheet_33 : decode cX12_sheet 33 = .ok (.aload_n 0, 1) := by decide +kernel
theorem d_X12_sheet_34 : decode cX12_sheet 34 = .ok (.iconst 1, 1) := by decide +kernel
theorem d_X12_sheet_35 : decode cX12_sheet 35 = .ok (.invokevirtual 187, 3) := by decide +kernel
theorem d_X12_sheet_38 : decode cX12_sheet 38 = .ok (.ireturn, 1) := by decide +kernel
theorem d_X12_sheet_39 : decode cX12_sheet 39 = .ok (.aload_n 0, 1) := by decide +kernel
theorem d_X12_sheet_40 : decode cX12_sheet 40 = .ok (.getfield 155, 3) := by decide +kernel
theorem d_X12_sheet_43 : decode cX12_sheet 43 = .ok (.iload_n 1, 1) := by decide +kernel
theorem d_X12_sheet_44 : decode cX12_sheet 44 = .ok (.iload_n 2, 1) := by decide +kernel
theorem d_X12_sheet_45 : decode cX12_sheet 45 = .ok (.iastore, 1) := by decide +kernel
theorem d_X12_sheet_46 : decode cX12_sheet 46 = .ok (.aload_n 0, 1) := by decide +kernel
theorem d_X12_sheet_47 : decode cX12_sheet 47 = .ok (.getfield 158, 3) := by decide +kernel
theorem d_X12_sheet_50 : decode cX12_sheet 50 = .ok (.iload_n 1, 1) := by decide +kernel
theorem d_X12_sheet_51 : decode cX12_sheet 51 = .ok (.iload_n 2, 1) := by decide +kernel
theorem d_X12_sheet_52 : decode cX12_sheet 52 = .ok (.iconst (-1), 1) := by decide +kernel
theorem d_X12_sheet_53 : decode cX12_sheet 53 = .ok (.if_icmp .ne 7, 3) := by decide +kernel
theorem d_X12_sheet_56 : decode cX12_sheet 56 = .ok (.iconst 0, 1) := by decide +kernel
theorem d_X12_sheet_57 : decode cX12_sheet 57 = .ok (.goto 4, 3) := by decide +kernel
theorem d_X12_sheet_60 : decode cX12_sheet 60 = .ok (.iload_n 3, 1) := by decide +kernel
theorem d_X12_sheet_61 : decode cX12_sheet 61 = .ok (.iastore, 1) := by decide +kernel
theorem d_X12_sheet_62 : decode cX12_sheet 62 = .ok (.iconst 0, 1) := by decide +kernel
theorem d_X12_sheet_63 : decode cX12_sheet 63 = .ok (.istore 4, 2) := by decide +kernel
theorem d_X12_sheet_65 : decode cX12_sheet 65 = .ok (.iload 4, 2) := by decide +kernel
theorem d_X12_sheet_67 : decode cX12_sheet 67 = .ok (.bipush 40, 2) := by decide +kernel
theorem d_X12_sheet_69 : decode cX12_sheet 69 = .ok (.if_icmp .ge 35, 3) := by decide +kernel
theorem d_X12_sheet_72 : decode cX12_sheet 72 = .ok (.aload_n 0, 1) := by decide +kernel
theorem d_X12_sheet_73 : decode cX12_sheet 73 = .ok (.getfield 161, 3) := by decide +kernel
theorem d_X12_sheet_76 : decode cX12_sheet 76 = .ok (.bipush 40, 2) := by decide +kernel
theorem d_X12_sheet_78 : decode cX12_sheet 78 = .ok (.iload_n 1, 1) := by decide +kernel
theorem d_X12_sheet_79 : decode cX12_sheet 79 = .ok (.imul, 1) := by decide +kernel
theorem d_X12_sheet_80 : decode cX12_sheet 80 = .ok (.iload 4, 2) := by decide +kernel
theorem d_X12_sheet_82 : decode cX12_sheet 82 = .ok (.iadd, 1) := by decide +kernel
theorem d_X12_sheet_83 : decode cX12_sheet 83 = .ok (.iconst 0, 1) := by decide +kernel
theorem d_X12_sheet_84 : decode cX12_sheet 84 = .ok (.iastore, 1) := by decide +kernel
theorem d_X12_sheet_85 : decode cX12_sheet 85 = .ok (.aload_n 0, 1) := by decide +kernel
theorem d_X12_sheet_86 : decode cX12_sheet 86 = .ok (.getfield 164, 3) := by decide +kernel
theorem d_X12_sheet_89 : decode cX12_sheet 89 = .ok (.bipush 40, 2) := by decide +kernel
theorem d_X12_sheet_91 : decode cX12_sheet 91 = .ok (.iload_n 1, 1) := by decide +kernel
theorem d_X12_sheet_92 : decode cX12_sheet 92 = .ok (.imul, 1) := by decide +kernel
theorem d_X12_sheet_93 : decode cX12_sheet 93 = .ok (.iload 4, 2) := by decide +kernel
theorem d_X12_sheet_95 : decode cX12_sheet 95 = .ok (.iadd, 1) := by decide +kernel
theorem d_X12_sheet_96 : decode cX12_sheet 96 = .ok (.iconst 0, 1) := by decide +kernel
theorem d_X12_sheet_97 : decode cX12_sheet 97 = .ok (.bastore, 1) := by decide +kernel
theorem d_X12_sheet_98 : decode cX12_sheet 98 = .ok (.iinc 4 1, 3) := by decide +kernel
theorem d_X12_sheet_101 : decode cX12_sheet 101 = .ok (.goto (-36), 3) := by decide +kernel
theorem d_X12_sheet_104 : decode cX12_sheet 104 = .ok (.aload_n 0, 1) := by decide +kernel
theorem d_X12_sheet_105 : decode cX12_sheet 105 = .ok (.iconst 1, 1) := by decide +kernel
theorem d_X12_sheet_106 : decode cX12_sheet 106 = .ok (.invokevirtual 191, 3) := by decide +kernel
theorem d_X12_sheet_109 : decode cX12_sheet 109 = .ok (.ireturn, 1) := by decide +kernel
theorem d_X12_cell_0 : decode cX12_cell 0 = .ok (.iload_n 1, 1) := by decide +kernel
theorem d_X12_cell_1 : decode cX12_cell 1 = .ok (.iconst 0, 1) := by decide +kernel
theorem d_X12_cell_2 : decode cX12_cell 2 = .ok (.iconst 3, 1) := by decide +kernel
theorem d_X12_cell_3 : decode cX12_cell 3 = .ok (.invokestatic 174, 3) := by decide +kernel
theorem d_X12_cell_6 : decode cX12_cell 6 = .ok (.ifCond .eq 16, 3) := by decide +kernel
theorem d_X12_cell_9 : decode cX12_cell 9 = .ok (.iload_n 3, 1) := by decide +kernel
theorem d_X12_cell_10 : decode cX12_cell 10 = .ok (.sipush (-1000), 3) := by decide +kernel
theorem d_X12_cell_13 : decode cX12_cell 13 = .ok (.sipush 1000, 3) := by decide +kernel
theorem d_X12_cell_16 : decode cX12_cell 16 = .ok (.invokestatic 174, 3) := by decide +kernel
theorem d_X12_cell_19 : decode cX12_cell 19 = .ok (.ifCond .ne 9, 3) := by decide +kernel
theorem d_X12_cell_22 : decode cX12_cell 22 = .ok (.aload_n 0, 1) := by decide +kernel
theorem d_X12_cell_23 : decode cX12_cell 23 = .ok (.iconst 1, 1) := by decide +kernel
theorem d_X12_cell_24 : decode cX12_cell 24 = .ok (.invokevirtual 187, 3) := by decide +kernel
theorem d_X12_cell_27 : decode cX12_cell 27 = .ok (.ireturn, 1) := by decide +kernel
theorem d_X12_cell_28 : decode cX12_cell 28 = .ok (.aload_n 0, 1) := by decide +kernel
theorem d_X12_cell_29 : decode cX12_cell 29 = .ok (.getfield 155, 3) := by decide +kernel
theorem d_X12_cell_32 : decode cX12_cell 32 = .ok (.iload_n 1, 1) := by decide +kernel
theorem d_X12_cell_33 : decode cX12_cell 33 = .ok (.iaload, 1) := by decide +kernel
theorem d_X12_cell_34 : decode cX12_cell 34 = .ok (.iconst (-1), 1) := by decide +kernel
theorem d_X12_cell_35 : decode cX12_cell 35 = .ok (.if_icmp .ne 10, 3) := by decide +kernel
theorem d_X12_cell_38 : decode cX12_cell 38 = .ok (.aload_n 0, 1) := by decide +kernel
theorem d_X12_cell_39 : decode cX12_cell 39 = .ok (.bipush 10, 2) := by decide +kernel
theorem d_X12_cell_41 : decode cX12_cell 41 = .ok (.invokevirtual 187, 3) := by decide +kernel
theorem d_X12_cell_44 : decode cX12_cell 44 = .ok (.ireturn, 1) := by decide +kernel
theorem d_X12_cell_45 : decode cX12_cell 45 = .ok (.iload_n 2, 1) := by decide +kernel
theorem d_X12_cell_46 : decode cX12_cell 46 = .ok (.iconst 0, 1) := by decide +kernel
theorem d_X12_cell_47 : decode cX12_cell 47 = .ok (.aload_n 0, 1) := by decide +kernel
theorem d_X12_cell_48 : decode cX12_cell 48 = .ok (.getfield 158, 3) := by decide +kernel
theorem d_X12_cell_51 : decode cX12_cell 51 = .ok (.iload_n 1, 1) := by decide +kernel
theorem d_X12_cell_52 : decode cX12_cell 52 = .ok (.iaload, 1) := by decide +kernel
theorem d_X12_cell_53 : decode cX12_cell 53 = .ok (.iconst 1, 1) := by decide +kernel
theorem d_X12_cell_54 : decode cX12_cell 54 = .ok (.isub, 1) := by decide +kernel
theorem d_X12_cell_55 : decode cX12_cell 55 = .ok (.invokestatic 174, 3) := by decide +kernel
theorem d_X12_cell_58 : decode cX12_cell 58 = .ok (.ifCond .ne 10, 3) := by decide +kernel
theorem d_X12_cell_61 : decode cX12_cell 61 = .ok (.aload_n 0, 1) := by decide +kernel
theorem d_X12_cell_62 : decode cX12_cell 62 = .ok (.bipush 12, 2) := by decide +kernel
theorem d_X12_cell_64 : decode cX12_cell 64 = .ok (.invokevirtual 187, 3) := by decide +kernel
theorem d_X12_cell_67 : decode cX12_cell 67 = .ok (.ireturn, 1) := by decide +kernel
theorem d_X12_cell_68 : decode cX12_cell 68 = .ok (.aload_n 0, 1) := by decide +kernel
theorem d_X12_cell_69 : decode cX12_cell 69 = .ok (.getfield 161, 3) := by decide +kernel
theorem d_X12_cell_72 : decode cX12_cell 72 = .ok (.bipush 40, 2) := by decide +kernel
theorem d_X12_cell_74 : decode cX12_cell 74 = .ok (.iload_n 1, 1) := by decide +kernel
theorem d_X12_cell_75 : decode cX12_cell 75 = .ok (.imul, 1) := by decide +kernel
theorem d_X12_cell_76 : decode cX12_cell 76 = .ok (.iload_n 2, 1) := by decide +kernel
theorem d_X12_cell_77 : decode cX12_cell 77 = .ok (.iadd, 1) := by decide +kernel
theorem d_X12_cell_78 : decode cX12_cell 78 = .ok (.aload_n 0, 1) := by decide +kernel
theorem d_X12_cell_79 : decode cX12_cell 79 = .ok (.getfield 155, 3) := by decide +kernel
theorem d_X12_cell_82 : decode cX12_cell 82 = .ok (.iload_n 1, 1) := by decide +kernel
theorem d_X12_cell_83 : decode cX12_cell 83 = .ok (.iaload, 1) := by decide +kernel
theorem d_X12_cell_84 : decode cX12_cell 84 = .ok (.ifCond .ne 8, 3) := by decide +kernel
theorem d_X12_cell_87 : decode cX12_cell 87 = .ok (.iload_n 3, 1) := by decide +kernel
theorem d_X12_cell_88 : decode cX12_cell 88 = .ok (.i2b, 1) := by decide +kernel
theorem d_X12_cell_89 : decode cX12_cell 89 = .ok (.goto 4, 3) := by decide +kernel
theorem d_X12_cell_92 : decode cX12_cell 92 = .ok (.iload_n 3, 1) := by decide +kernel
theorem d_X12_cell_93 : decode cX12_cell 93 = .ok (.iastore, 1) := by decide +kernel
theorem d_X12_cell_94 : decode cX12_cell 94 = .ok (.aload_n 0, 1) := by decide +kernel
theorem d_X12_cell_95 : decode cX12_cell 95 = .ok (.getfield 164, 3) := by decide +kernel
theorem d_X12_cell_98 : decode cX12_cell 98 = .ok (.bipush 40, 2) := by decide +kernel
theorem d_X12_cell_100 : decode cX12_cell 100 = .ok (.iload_n 1, 1) := by decide +kernel
theorem d_X12_cell_101 : decode cX12_cell 101 = .ok (.imul, 1) := by decide +kernel
theorem d_X12_cell_102 : decode cX12_cell 102 = .ok (.iload_n 2, 1) := by decide +kernel
theorem d_X12_cell_103 : decode cX12_cell 103 = .ok (.iadd, 1) := by decide +kernel
theorem d_X12_cell_104 : decode cX12_cell 104 = .ok (.iconst 0, 1) := by decide +kernel
theorem d_X12_cell_105 : decode cX12_cell 105 = .ok (.bastore, 1) := by decide +kernel
theorem d_X12_cell_106 : decode cX12_cell 106 = .ok (.aload_n 0, 1) := by decide +kernel
theorem d_X12_cell_107 : decode cX12_cell 107 = .ok (.iconst 1, 1) := by decide +kernel
theorem d_X12_cell_108 : decode cX12_cell 108 = .ok (.invokevirtual 191, 3) := by decide +kernel
theorem d_X12_cell_111 : decode cX12_cell 111 = .ok (.ireturn, 1) := by decide +kernel
theorem d_X12_none_0 : decode cX12_none 0 = .ok (.iload_n 1, 1) := by decide +kernel
theorem d_X12_none_1 : decode cX12_none 1 = .ok (.iconst 0, 1) := by decide +kernel
theorem d_X12_none_2 : decode cX12_none 2 = .ok (.iconst 3, 1) := by decide +kernel
theorem d_X12_none_3 : decode cX12_none 3 = .ok (.invokestatic 174, 3) := by decide +kernel
theorem d_X12_none_6 : decode cX12_none 6 = .ok (.ifCond .ne 9, 3) := by decide +kernel
theorem d_X12_none_9 : decode cX12_none 9 = .ok (.aload_n 0, 1) := by decide +kernel
theorem d_X12_none_10 : decode cX12_none 10 = .ok (.iconst 1, 1) := by decide +kernel
theorem d_X12_none_11 : decode cX12_none 11 = .ok (.invokevirtual 187, 3) := by decide +kernel
theorem d_X12_none_14 : decode cX12_none 14 = .ok (.ireturn, 1) := by decide +kernel
theorem d_X12_none_15 : decode cX12_none 15 = .ok (.aload_n 0, 1) := by decide +kernel
theorem d_X12_none_16 : decode cX12_none 16 = .ok (.getfield 155, 3) := by decide +kernel
theorem d_X12_none_19 : decode cX12_none 19 = .ok (.iload_n 1, 1) := by decide +kernel
theorem d_X12_none_20 : decode cX12_none 20 = .ok (.iaload, 1) := by decide +kernel
theorem d_X12_none_21 : decode cX12_none 21 = .ok (.iconst (-1), 1) := by decide +kernel
theorem d_X12_none_22 : decode cX12_none 22 = .ok (.if_icmp .ne 10, 3) := by decide +kernel
theorem d_X12_none_25 : decode cX12_none 25 = .ok (.aload_n 0, 1) := by decide +kernel
theorem d_X12_none_26 : decode cX12_none 26 = .ok (.bipush 10, 2) := by decide +kernel
theorem d_X12_none_28 : decode cX12_none 28 = .ok (.invokevirtual 187, 3) := by decide +kernel
theorem d_X12_none_31 : decode cX12_none 31 = .ok (.ireturn, 1) := by decide +kernel
theorem d_X12_none_32 : decode cX12_none 32 = .ok (.aload_n 0, 1) := by decide +kernel
theorem d_X12_none_33 : decode cX12_none 33 = .ok (.getfield 155, 3) := by decide +kernel
theorem d_X12_none_36 : decode cX12_none 36 = .ok (.iload_n 1, 1) := by decide +kernel
theorem d_X12_none_37 : decode cX12_none 37 = .ok (.iaload, 1) := by decide +kernel
theorem d_X12_none_38 : decode cX12_none 38 = .ok (.iconst 2, 1) := by decide +kernel
theorem d_X12_none_39 : decode cX12_none 39 = .ok (.if_icmp .eq 10, 3) := by decide +kernel
theorem d_X12_none_42 : decode cX12_none 42 = .ok (.aload_n 0, 1) := by decide +kernel
theorem d_X12_none_43 : decode cX12_none 43 = .ok (.bipush 11, 2) := by decide +kernel
theorem d_X12_none_45 : decode cX12_none 45 = .ok (.invokevirtual 187, 3) := by decide +kernel
theorem d_X12_none_48 : decode cX12_none 48 = .ok (.ireturn, 1) := by decide +kernel
theorem d_X12_none_49 : decode cX12_none 49 = .ok (.iload_n 2, 1) := by decide +kernel
theorem d_X12_none_50 : decode cX12_none 50 = .ok (.iconst 0, 1) := by decide +kernel
theorem d_X12_none_51 : decode cX12_none 51 = .ok (.aload_n 0, 1) := by decide +kernel
theorem d_X12_none_52 : decode cX12_none 52 = .ok (.getfield 158, 3) := by decide +kernel
theorem d_X12_none_55 : decode cX12_none 55 = .ok (.iload_n 1, 1) := by decide +kernel
theorem d_X12_none_56 : decode cX12_none 56 = .ok (.iaload, 1) := by decide +kernel
theorem d_X12_none_57 : decode cX12_none 57 = .ok (.iconst 1, 1) := by decide +kernel
theorem d_X12_none_58 : decode cX12_none 58 = .ok (.isub, 1) := by decide +kernel
theorem d_X12_none_59 : decode cX12_none 59 = .ok (.invokestatic 174, 3) := by decide +kernel
theorem d_X12_none_62 : decode cX12_none 62 = .ok (.ifCond .ne 10, 3) := by decide +kernel
theorem d_X12_none_65 : decode cX12_none 65 = .ok (.aload_n 0, 1) := by decide +kernel
theorem d_X12_none_66 : decode cX12_none 66 = .ok (.bipush 12, 2) := by decide +kernel
theorem d_X12_none_68 : decode cX12_none 68 = .ok (.invokevirtual 187, 3) := by decide +kernel
theorem d_X12_none_71 : decode cX12_none 71 = .ok (.ireturn, 1) := by decide +kernel
theorem d_X12_none_72 : decode cX12_none 72 = .ok (.aload_n 0, 1) := by decide +kernel
theorem d_X12_none_73 : decode cX12_none 73 = .ok (.getfield 164, 3) := by decide +kernel
theorem d_X12_none_76 : decode cX12_none 76 = .ok (.bipush 40, 2) := by decide +kernel
theorem d_X12_none_78 : decode cX12_none 78 = .ok (.iload_n 1, 1) := by decide +kernel
theorem d_X12_none_79 : decode cX12_none 79 = .ok (.imul, 1) := by decide +kernel
theorem d_X12_none_80 : decode cX12_none 80 = .ok (.iload_n 2, 1) := by decide +kernel
theorem d_X12_none_81 : decode cX12_none 81 = .ok (.iadd, 1) := by decide +kernel
theorem d_X12_none_82 : decode cX12_none 82 = .ok (.iconst 1, 1) := by decide +kernel
theorem d_X12_none_83 : decode cX12_none 83 = .ok (.bastore, 1) := by decide +kernel
theorem d_X12_none_84 : decode cX12_none 84 = .ok (.aload_n 0, 1) := by decide +kernel
theorem d_X12_none_85 : decode cX12_none 85 = .ok (.iconst 1, 1) := by decide +kernel
theorem d_X12_none_86 : decode cX12_none 86 = .ok (.invokevirtual 191, 3) := by decide +kernel
theorem d_X12_none_89 : decode cX12_none 89 = .ok (.ireturn, 1) := by decide +kernel
theorem d_X12_gauges_0 : decode cX12_gauges 0 = .ok (.iload_n 1, 1) := by decide +kernel
theorem d_X12_gauges_1 : decode cX12_gauges 1 = .ok (.invokestatic 194, 3) := by decide +kernel
theorem d_X12_gauges_4 : decode cX12_gauges 4 = .ok (.ifCond .eq 32, 3) := by decide +kernel
theorem d_X12_gauges_7 : decode cX12_gauges 7 = .ok (.iload_n 2, 1) := by decide +kernel
theorem d_X12_gauges_8 : decode cX12_gauges 8 = .ok (.iconst 0, 1) := by decide +kernel
theorem d_X12_gauges_9 : decode cX12_gauges 9 = .ok (.iconst 3, 1) := by decide +kernel
theorem d_X12_gauges_10 : decode cX12_gauges 10 = .ok (.invokestatic 174, 3) := by decide +kernel
theorem d_X12_gauges_13 : decode cX12_gauges 13 = .ok (.ifCond .eq 23, 3) := by decide +kernel
theorem d_X12_gauges_16 : decode cX12_gauges 16 = .ok (.iload 4, 2) := by decide +kernel
theorem d_X12_gauges_18 : decode cX12_gauges 18 = .ok (.iconst 0, 1) := by decide +kernel
theorem d_X12_gauges_19 : decode cX12_gauges 19 = .ok (.bipush 40, 2) := by decide +kernel
theorem d_X12_gauges_21 : decode cX12_gauges 21 = .ok (.invokestatic 174, 3) := by decide +kernel
theorem d_X12_gauges_24 : decode cX12_gauges 24 = .ok (.ifCond .eq 12, 3) := by decide +kernel
theorem d_X12_gauges_27 : decode cX12_gauges 27 = .ok (.iload_n 1, 1) := by decide +kernel
theorem d_X12_gauges_28 : decode cX12_gauges 28 = .ok (.iload 4, 2) := by decide +kernel
theorem d_X12_gauges_30 : decode cX12_gauges 30 = .ok (.iadd, 1) := by decide +kernel
theorem d_X12_gauges_31 : decode cX12_gauges 31 = .ok (.bipush 100, 2) := by decide +kernel
theorem d_X12_gauges_33 : decode cX12_gauges 33 = .ok (.if_icmp .le 9, 3) := by decide +kernel
theorem d_X12_gauges_36 : decode cX12_gauges 36 = .ok (.aload_n 0, 1) := by decide +kernel
theorem d_X12_gauges_37 : decode cX12_gauges 37 = .ok (.iconst 1, 1) := by decide +kernel
theorem d_X12_gauges_38 : decode cX12_gauges 38 = .ok (.invokevirtual 187, 3) := by decide +kernel
theorem d_X12_gauges_41 : decode cX12_gauges 41 = .ok (.ireturn, 1) := by decide +kernel
theorem d_X12_gauges_42 : decode cX12_gauges 42 = .ok (.aload_n 0, 1) := by decide +kernel
theorem d_X12_gauges_43 : decode cX12_gauges 43 = .ok (.getfield 155, 3) := by decide +kernel
theorem d_X12_gauges_46 : decode cX12_gauges 46 = .ok (.iload_n 2, 1) := by decide +kernel
theorem d_X12_gauges_47 : decode cX12_gauges 47 = .ok (.iaload, 1) := by decide +kernel
theorem d_X12_gauges_48 : decode cX12_gauges 48 = .ok (.iconst (-1), 1) := by decide +kernel
theorem d_X12_gauges_49 : decode cX12_gauges 49 = .ok (.if_icmp .ne 10, 3) := by decide +kernel
theorem d_X12_gauges_52 : decode cX12_gauges 52 = .ok (.aload_n 0, 1) := by decide +kernel
theorem d_X12_gauges_53 : decode cX12_gauges 53 = .ok (.bipush 10, 2) := by decide +kernel
theorem d_X12_gauges_55 : decode cX12_gauges 55 = .ok (.invokevirtual 187, 3) := by decide +kernel
theorem d_X12_gauges_58 : decode cX12_gauges 58 = .ok (.ireturn, 1) := by decide +kernel
theorem d_X12_gauges_59 : decode cX12_gauges 59 = .ok (.aload_n 0, 1) := by decide +kernel
theorem d_X12_gauges_60 : decode cX12_gauges 60 = .ok (.getfield 155, 3) := by decide +kernel
theorem d_X12_gauges_63 : decode cX12_gauges 63 = .ok (.iload_n 2, 1) := by decide +kernel
theorem d_X12_gauges_64 : decode cX12_gauges 64 = .ok (.iaload, 1) := by decide +kernel
theorem d_X12_gauges_65 : decode cX12_gauges 65 = .ok (.iconst 2, 1) := by decide +kernel
theorem d_X12_gauges_66 : decode cX12_gauges 66 = .ok (.if_icmp .eq 10, 3) := by decide +kernel
theorem d_X12_gauges_69 : decode cX12_gauges 69 = .ok (.aload_n 0, 1) := by decide +kernel
theorem d_X12_gauges_70 : decode cX12_gauges 70 = .ok (.bipush 11, 2) := by decide +kernel
theorem d_X12_gauges_72 : decode cX12_gauges 72 = .ok (.invokevirtual 187, 3) := by decide +kernel
theorem d_X12_gauges_75 : decode cX12_gauges 75 = .ok (.ireturn, 1) := by decide +kernel
theorem d_X12_gauges_76 : decode cX12_gauges 76 = .ok (.iconst 0, 1) := by decide +kernel
theorem d_X12_gauges_77 : decode cX12_gauges 77 = .ok (.istore 5, 2) := by decide +kernel
theorem d_X12_gauges_79 : decode cX12_gauges 79 = .ok (.iload 5, 2) := by decide +kernel
theorem d_X12_gauges_81 : decode cX12_gauges 81 = .ok (.iload 4, 2) := by decide +kernel
theorem d_X12_gauges_83 : decode cX12_gauges 83 = .ok (.if_icmp .ge 98, 3) := by decide +kernel
theorem d_X12_gauges_86 : decode cX12_gauges 86 = .ok (.iload_n 3, 1) := by decide +kernel
theorem d_X12_gauges_87 : decode cX12_gauges 87 = .ok (.ifCond .lt 16, 3) := by decide +kernel
theorem d_X12_gauges_90 : decode cX12_gauges 90 = .ok (.iload_n 3, 1) := by decide +kernel
theorem d_X12_gauges_91 : decode cX12_gauges 91 = .ok (.aload_n 0, 1) := by decide +kernel
theorem d_X12_gauges_92 : decode cX12_gauges 92 = .ok (.getfield 158, 3) := by decide +kernel
theorem d_X12_gauges_95 : decode cX12_gauges 95 = .ok (.iload_n 2, 1) := by decide +kernel
theorem d_X12_gauges_96 : decode cX12_gauges 96 = .ok (.iaload, 1) := by decide +kernel
theorem d_X12_gauges_97 : decode cX12_gauges 97 = .ok (.iload 5, 2) := by decide +kernel
theorem d_X12_gauges_99 : decode cX12_gauges 99 = .ok (.isub, 1) := by decide +kernel
theorem d_X12_gauges_100 : decode cX12_gauges 100 = .ok (.if_icmp .lt 10, 3) := by decide +kernel
theorem d_X12_gauges_103 : decode cX12_gauges 103 = .ok (.aload_n 0, 1) := by decide +kernel
theorem d_X12_gauges_104 : decode cX12_gauges 104 = .ok (.bipush 12, 2) := by decide +kernel
theorem d_X12_gauges_106 : decode cX12_gauges 106 = .ok (.invokevirtual 187, 3) := by decide +kernel
theorem d_X12_gauges_109 : decode cX12_gauges 109 = .ok (.ireturn, 1) := by decide +kernel
theorem d_X12_gauges_110 : decode cX12_gauges 110 = .ok (.bipush 40, 2) := by decide +kernel
theorem d_X12_gauges_112 : decode cX12_gauges 112 = .ok (.iload_n 2, 1) := by decide +kernel
theorem d_X12_gauges_113 : decode cX12_gauges 113 = .ok (.imul, 1) := by decide +kernel
theorem d_X12_gauges_114 : decode cX12_gauges 114 = .ok (.iload_n 3, 1) := by decide +kernel
theorem d_X12_gauges_115 : decode cX12_gauges 115 = .ok (.iadd, 1) := by decide +kernel
theorem d_X12_gauges_116 : decode cX12_gauges 116 = .ok (.iload 5, 2) := by decide +kernel
theorem d_X12_gauges_118 : decode cX12_gauges 118 = .ok (.iadd, 1) := by decide +kernel
theorem d_X12_gauges_119 : decode cX12_gauges 119 = .ok (.istore 6, 2) := by decide +kernel
theorem d_X12_gauges_121 : decode cX12_gauges 121 = .ok (.aload_n 0, 1) := by decide +kernel
theorem d_X12_gauges_122 : decode cX12_gauges 122 = .ok (.getfield 161, 3) := by decide +kernel
theorem d_X12_gauges_125 : decode cX12_gauges 125 = .ok (.iload 6, 2) := by decide +kernel
theorem d_X12_gauges_127 : decode cX12_gauges 127 = .ok (.iaload, 1) := by decide +kernel
theorem d_X12_gauges_128 : decode cX12_gauges 128 = .ok (.iconst 2, 1) := by decide +kernel
theorem d_X12_gauges_129 : decode cX12_gauges 129 = .ok (.idiv, 1) := by decide +kernel
theorem d_X12_gauges_130 : decode cX12_gauges 130 = .ok (.istore 7, 2) := by decide +kernel
theorem d_X12_gauges_132 : decode cX12_gauges 132 = .ok (.aload_n 0, 1) := by decide +kernel
theorem d_X12_gauges_133 : decode cX12_gauges 133 = .ok (.getfield 164, 3) := by decide +kernel
theorem d_X12_gauges_136 : decode cX12_gauges 136 = .ok (.iload 6, 2) := by decide +kernel
theorem d_X12_gauges_138 : decode cX12_gauges 138 = .ok (.baload, 1) := by decide +kernel
theorem d_X12_gauges_139 : decode cX12_gauges 139 = .ok (.ifCond .ne 36, 3) := by decide +kernel
theorem d_X12_gauges_142 : decode cX12_gauges 142 = .ok (.iload 7, 2) := by decide +kernel
theorem d_X12_gauges_144 : decode cX12_gauges 144 = .ok (.bipush (-20), 2) := by decide +kernel
theorem d_X12_gauges_146 : decode cX12_gauges 146 = .ok (.bipush 40, 2) := by decide +kernel
theorem d_X12_gauges_148 : decode cX12_gauges 148 = .ok (.invokestatic 174, 3) := by decide +kernel
theorem d_X12_gauges_151 : decode cX12_gauges 151 = .ok (.ifCond .eq 24, 3) := by decide +kernel
theorem d_X12_gauges_154 : decode cX12_gauges 154 = .ok (.aload_n 0, 1) := by decide +kernel
theorem d_X12_gauges_155 : decode cX12_gauges 155 = .ok (.getfield 29, 3) := by decide +kernel
theorem d_X12_gauges_158 : decode cX12_gauges 158 = .ok (.iload_n 1, 1) := by decide +kernel
theorem d_X12_gauges_159 : decode cX12_gauges 159 = .ok (.iload 5, 2) := by decide +kernel
theorem d_X12_gauges_161 : decode cX12_gauges 161 = .ok (.iadd, 1) := by decide +kernel
theorem d_X12_gauges_162 : decode cX12_gauges 162 = .ok (.iload 7, 2) := by decide +kernel
theorem d_X12_gauges_164 : decode cX12_gauges 164 = .ok (.iastore, 1) := by decide +kernel
theorem d_X12_gauges_165 : decode cX12_gauges 165 = .ok (.aload_n 0, 1) := by decide +kernel
theorem d_X12_gauges_166 : decode cX12_gauges 166 = .ok (.getfield 32, 3) := by decide +kernel
theorem d_X12_gauges_169 : decode cX12_gauges 169 = .ok (.iload_n 1, 1) := by decide +kernel
theorem d_X12_gauges_170 : decode cX12_gauges 170 = .ok (.iload 5, 2) := by decide +kernel
theorem d_X12_gauges_172 : decode cX12_gauges 172 = .ok (.iadd, 1) := by decide +kernel
theorem d_X12_gauges_173 : decode cX12_gauges 173 = .ok (.iconst 1, 1) := by decide +kernel
theorem d_X12_gauges_174 : decode cX12_gauges 174 = .ok (.bastore, 1) := by decide +kernel
theorem d_X12_gauges_175 : decode cX12_gauges 175 = .ok (.iinc 5 1, 3) := by decide +kernel
theorem d_X12_gauges_178 : decode cX12_gauges 178 = .ok (.goto (-99), 3) := by decide +kernel
theorem d_X12_gauges_181 : decode cX12_gauges 181 = .ok (.aload_n 0, 1) := by decide +kernel
theorem d_X12_gauges_182 : decode cX12_gauges 182 = .ok (.aload_n 0, 1) := by decide +kernel
theorem d_X12_gauges_183 : decode cX12_gauges 183 = .ok (.invokevirtual 198, 3) := by decide +kernel
theorem d_X12_gauges_186 : decode cX12_gauges 186 = .ok (.invokevirtual 191, 3) := by decide +kernel
theorem d_X12_gauges_189 : decode cX12_gauges 189 = .ok (.ireturn, 1) := by decide +kernel
theorem d_X12_modulo_0 : decode cX12_modulo 0 = .ok (.iload_n 0, 1) := by decide +kernel
theorem d_X12_modulo_1 : decode cX12_modulo 1 = .ok (.iload_n 1, 1) := by decide +kernel
theorem d_X12_modulo_2 : decode cX12_modulo 2 = .ok (.irem, 1) := by decide +kernel
theorem d_X12_modulo_3 : decode cX12_modulo 3 = .ok (.iload_n 1, 1) := by decide +kernel
theorem d_X12_modulo_4 : decode cX12_modulo 4 = .ok (.iadd, 1) := by decide +kernel
theorem d_X12_modulo_5 : decode cX12_modulo 5 = .ok (.iload_n 1, 1) := by decide +kernel
theorem d_X12_modulo_6 : decode cX12_modulo 6 = .ok (.irem, 1) := by decide +kernel
theorem d_X12_modulo_7 : decode cX12_modulo 7 = .ok (.ireturn, 1) := by decide +kernel
theorem d_X12_copied_0 : decode cX12_copied 0 = .ok (.aload_n 0, 1) := by decide +kernel
theorem d_X12_copied_1 : decode cX12_copied 1 = .ok (.getfield 155, 3) := by decide +kernel
theorem d_X12_copied_4 : decode cX12_copied 4 = .ok (.iload_n 2, 1) := by decide +kernel
theorem d_X12_copied_5 : decode cX12_copied 5 = .ok (.iaload, 1) := by decide +kernel
theorem d_X12_copied_6 : decode cX12_copied 6 = .ok (.iconst (-1), 1) := by decide +kernel
theorem d_X12_copied_7 : decode cX12_copied 7 = .ok (.if_icmp .eq 19, 3) := by decide +kernel
theorem d_X12_copied_10 : decode cX12_copied 10 = .ok (.aload_n 0, 1) := by decide +kernel
theorem d_X12_copied_11 : decode cX12_copied 11 = .ok (.getfield 155, 3) := by decide +kernel
theorem d_X12_copied_14 : decode cX12_copied 14 = .ok (.iload_n 2, 1) := by decide +kernel
theorem d_X12_copied_15 : decode cX12_copied 15 = .ok (.iaload, 1) := by decide +kernel
theorem d_X12_copied_16 : decode cX12_copied 16 = .ok (.ifCond .eq 10, 3) := by decide +kernel
theorem d_X12_copied_19 : decode cX12_copied 19 = .ok (.aload_n 0, 1) := by decide +kernel
theorem d_X12_copied_20 : decode cX12_copied 20 = .ok (.bipush 11, 2) := by decide +kernel
theorem d_X12_copied_22 : decode cX12_copied 22 = .ok (.invokevirtual 187, 3) := by decide +kernel
theorem d_X12_copied_25 : decode cX12_copied 25 = .ok (.ireturn, 1) := by decide +kernel
theorem d_X12_copied_26 : decode cX12_copied 26 = .ok (.aload_n 0, 1) := by decide +kernel
theorem d_X12_copied_27 : decode cX12_copied 27 = .ok (.getfield 155, 3) := by decide +kernel
theorem d_X12_copied_30 : decode cX12_copied 30 = .ok (.iload_n 2, 1) := by decide +kernel
theorem d_X12_copied_31 : decode cX12_copied 31 = .ok (.iaload, 1) := by decide +kernel
theorem d_X12_copied_32 : decode cX12_copied 32 = .ok (.iconst (-1), 1) := by decide +kernel
theorem d_X12_copied_33 : decode cX12_copied 33 = .ok (.if_icmp .ne 10, 3) := by decide +kernel
theorem d_X12_copied_36 : decode cX12_copied 36 = .ok (.aload_n 0, 1) := by decide +kernel
theorem d_X12_copied_37 : decode cX12_copied 37 = .ok (.bipush 10, 2) := by decide +kernel
theorem d_X12_copied_39 : decode cX12_copied 39 = .ok (.invokevirtual 187, 3) := by decide +kernel
theorem d_X12_copied_42 : decode cX12_copied 42 = .ok (.ireturn, 1) := by decide +kernel
theorem d_X12_copied_43 : decode cX12_copied 43 = .ok (.iload_n 1, 1) := by decide +kernel
theorem d_X12_copied_44 : decode cX12_copied 44 = .ok (.ifCond .lt 23, 3) := by decide +kernel
theorem d_X12_copied_47 : decode cX12_copied 47 = .ok (.iload_n 1, 1) := by decide +kernel
theorem d_X12_copied_48 : decode cX12_copied 48 = .ok (.iconst 1, 1) := by decide +kernel
theorem d_X12_copied_49 : decode cX12_copied 49 = .ok (.iadd, 1) := by decide +kernel
theorem d_X12_copied_50 : decode cX12_copied 50 = .ok (.aload_n 0, 1) := by decide +kernel
theorem d_X12_copied_51 : decode cX12_copied 51 = .ok (.getfield 158, 3) := by decide +kernel
theorem d_X12_copied_54 : decode cX12_copied 54 = .ok (.iload_n 2, 1) := by decide +kernel
theorem d_X12_copied_55 : decode cX12_copied 55 = .ok (.iaload, 1) := by decide +kernel
theorem d_X12_copied_56 : decode cX12_copied 56 = .ok (.if_icmp .gt 11, 3) := by decide +kernel
theorem d_X12_copied_59 : decode cX12_copied 59 = .ok (.iconst 2, 1) := by decide +kernel
theorem d_X12_copied_60 : decode cX12_copied 60 = .ok (.iload_n 1, 1) := by decide +kernel
theorem d_X12_copied_61 : decode cX12_copied 61 = .ok (.imul, 1) := by decide +kernel
theorem d_X12_copied_62 : decode cX12_copied 62 = .ok (.bipush 6, 2) := by decide +kernel
theorem d_X12_copied_64 : decode cX12_copied 64 = .ok (.if_icmp .le 10, 3) := by decide +kernel
theorem d_X12_copied_67 : decode cX12_copied 67 = .ok (.aload_n 0, 1) := by decide +kernel
theorem d_X12_copied_68 : decode cX12_copied 68 = .ok (.bipush 12, 2) := by decide +kernel
theorem d_X12_copied_70 : decode cX12_copied 70 = .ok (.invokevirtual 187, 3) := by decide +kernel
theorem d_X12_copied_73 : decode cX12_copied 73 = .ok (.ireturn, 1) := by decide +kernel
theorem d_X12_copied_74 : decode cX12_copied 74 = .ok (.iconst 0, 1) := by decide +kernel
theorem d_X12_copied_75 : decode cX12_copied 75 = .ok (.istore_n 3, 1) := by decide +kernel
theorem d_X12_copied_76 : decode cX12_copied 76 = .ok (.iconst 0, 1) := by decide +kernel
theorem d_X12_copied_77 : decode cX12_copied 77 = .ok (.istore 4, 2) := by decide +kernel
theorem d_X12_copied_79 : decode cX12_copied 79 = .ok (.iload 4, 2) := by decide +kernel
theorem d_X12_copied_81 : decode cX12_copied 81 = .ok (.iload_n 1, 1) := by decide +kernel
theorem d_X12_copied_82 : decode cX12_copied 82 = .ok (.if_icmp .ge 26, 3) := by decide +kernel
theorem d_X12_copied_85 : decode cX12_copied 85 = .ok (.iload_n 3, 1) := by decide +kernel
theorem d_X12_copied_86 : decode cX12_copied 86 = .ok (.aload_n 0, 1) := by decide +kernel
theorem d_X12_copied_87 : decode cX12_copied 87 = .ok (.getfield 161, 3) := by decide +kernel
theorem d_X12_copied_90 : decode cX12_copied 90 = .ok (.bipush 40, 2) := by decide +kernel
theorem d_X12_copied_92 : decode cX12_copied 92 = .ok (.iload_n 2, 1) := by decide +kernel
theorem d_X12_copied_93 : decode cX12_copied 93 = .ok (.imul, 1) := by decide +kernel
theorem d_X12_copied_94 : decode cX12_copied 94 = .ok (.iconst 1, 1) := by decide +kernel
theorem d_X12_copied_95 : decode cX12_copied 95 = .ok (.iadd, 1) := by decide +kernel
theorem d_X12_copied_96 : decode cX12_copied 96 = .ok (.iload 4, 2) := by decide +kernel
theorem d_X12_copied_98 : decode cX12_copied 98 = .ok (.iadd, 1) := by decide +kernel
theorem d_X12_copied_99 : decode cX12_copied 99 = .ok (.iaload, 1) := by decide +kernel
theorem d_X12_copied_100 : decode cX12_copied 100 = .ok (.iadd, 1) := by decide +kernel
theorem d_X12_copied_101 : decode cX12_copied 101 = .ok (.istore_n 3, 1) := by decide +kernel
theorem d_X12_copied_102 : decode cX12_copied 102 = .ok (.iinc 4 1, 3) := by decide +kernel
theorem d_X12_copied_105 : decode cX12_copied 105 = .ok (.goto (-26), 3) := by decide +kernel
theorem d_X12_copied_108 : decode cX12_copied 108 = .ok (.aload_n 0, 1) := by decide +kernel
theorem d_X12_copied_109 : decode cX12_copied 109 = .ok (.iload_n 3, 1) := by decide +kernel
theorem d_X12_copied_110 : decode cX12_copied 110 = .ok (.invokevirtual 191, 3) := by decide +kernel
theorem d_X12_copied_113 : decode cX12_copied 113 = .ok (.ireturn, 1) := by decide +kernel
theorem d_X12_shorts_0 : decode cX12_shorts 0 = .ok (.aload_n 0, 1) := by decide +kernel
theorem d_X12_shorts_1 : decode cX12_shorts 1 = .ok (.getfield 155, 3) := by decide +kernel
theorem d_X12_shorts_4 : decode cX12_shorts 4 = .ok (.iload_n 2, 1) := by decide +kernel
theorem d_X12_shorts_5 : decode cX12_shorts 5 = .ok (.iaload, 1) := by decide +kernel
theorem d_X12_shorts_6 : decode cX12_shorts 6 = .ok (.iconst (-1), 1) := by decide +kernel
theorem d_X12_shorts_7 : decode cX12_shorts 7 = .ok (.if_icmp .eq 20, 3) := by decide +kernel
theorem d_X12_shorts_10 : decode cX12_shorts 10 = .ok (.aload_n 0, 1) := by decide +kernel
theorem d_X12_shorts_11 : decode cX12_shorts 11 = .ok (.getfield 155, 3) := by decide +kernel
theorem d_X12_shorts_14 : decode cX12_shorts 14 = .ok (.iload_n 2, 1) := by decide +kernel
theorem d_X12_shorts_15 : decode cX12_shorts 15 = .ok (.iaload, 1) := by decide +kernel
theorem d_X12_shorts_16 : decode cX12_shorts 16 = .ok (.iconst 1, 1) := by decide +kernel
theorem d_X12_shorts_17 : decode cX12_shorts 17 = .ok (.if_icmp .eq 10, 3) := by decide +kernel
theorem d_X12_shorts_20 : decode cX12_shorts 20 = .ok (.aload_n 0, 1) := by decide +kernel
theorem d_X12_shorts_21 : decode cX12_shorts 21 = .ok (.bipush 11, 2) := by decide +kernel
theorem d_X12_shorts_23 : decode cX12_shorts 23 = .ok (.invokevirtual 187, 3) := by decide +kernel
theorem d_X12_shorts_26 : decode cX12_shorts 26 = .ok (.ireturn, 1) := by decide +kernel
theorem d_X12_shorts_27 : decode cX12_shorts 27 = .ok (.aload_n 0, 1) := by decide +kernel
theorem d_X12_shorts_28 : decode cX12_shorts 28 = .ok (.getfield 155, 3) := by decide +kernel
theorem d_X12_shorts_31 : decode cX12_shorts 31 = .ok (.iload_n 2, 1) := by decide +kernel
theorem d_X12_shorts_32 : decode cX12_shorts 32 = .ok (.iaload, 1) := by decide +kernel
theorem d_X12_shorts_33 : decode cX12_shorts 33 = .ok (.iconst (-1), 1) := by decide +kernel
theorem d_X12_shorts_34 : decode cX12_shorts 34 = .ok (.if_icmp .ne 10, 3) := by decide +kernel
theorem d_X12_shorts_37 : decode cX12_shorts 37 = .ok (.aload_n 0, 1) := by decide +kernel
theorem d_X12_shorts_38 : decode cX12_shorts 38 = .ok (.bipush 10, 2) := by decide +kernel
theorem d_X12_shorts_40 : decode cX12_shorts 40 = .ok (.invokevirtual 187, 3) := by decide +kernel
theorem d_X12_shorts_43 : decode cX12_shorts 43 = .ok (.ireturn, 1) := by decide +kernel
theorem d_X12_shorts_44 : decode cX12_shorts 44 = .ok (.iload_n 1, 1) := by decide +kernel
theorem d_X12_shorts_45 : decode cX12_shorts 45 = .ok (.iconst 0, 1) := by decide +kernel
theorem d_X12_shorts_46 : decode cX12_shorts 46 = .ok (.aload_n 0, 1) := by decide +kernel
theorem d_X12_shorts_47 : decode cX12_shorts 47 = .ok (.getfield 158, 3) := by decide +kernel
theorem d_X12_shorts_50 : decode cX12_shorts 50 = .ok (.iload_n 2, 1) := by decide +kernel
theorem d_X12_shorts_51 : decode cX12_shorts 51 = .ok (.iaload, 1) := by decide +kernel
theorem d_X12_shorts_52 : decode cX12_shorts 52 = .ok (.iconst 1, 1) := by decide +kernel
theorem d_X12_shorts_53 : decode cX12_shorts 53 = .ok (.isub, 1) := by decide +kernel
theorem d_X12_shorts_54 : decode cX12_shorts 54 = .ok (.invokestatic 174, 3) := by decide +kernel
theorem d_X12_shorts_57 : decode cX12_shorts 57 = .ok (.ifCond .eq 21, 3) := by decide +kernel
theorem d_X12_shorts_60 : decode cX12_shorts 60 = .ok (.aload_n 0, 1) := by decide +kernel
theorem d_X12_shorts_61 : decode cX12_shorts 61 = .ok (.aload_n 0, 1) := by decide +kernel
theorem d_X12_shorts_62 : decode cX12_shorts 62 = .ok (.getfield 161, 3) := by decide +kernel
theorem d_X12_shorts_65 : decode cX12_shorts 65 = .ok (.bipush 40, 2) := by decide +kernel
theorem d_X12_shorts_67 : decode cX12_shorts 67 = .ok (.iload_n 2, 1) := by decide +kernel
theorem d_X12_shorts_68 : decode cX12_shorts 68 = .ok (.imul, 1) := by decide +kernel
theorem d_X12_shorts_69 : decode cX12_shorts 69 = .ok (.iload_n 1, 1) := by decide +kernel
theorem d_X12_shorts_70 : decode cX12_shorts 70 = .ok (.iadd, 1) := by decide +kernel
theorem d_X12_shorts_71 : decode cX12_shorts 71 = .ok (.iaload, 1) := by decide +kernel
theorem d_X12_shorts_72 : decode cX12_shorts 72 = .ok (.invokevirtual 191, 3) := by decide +kernel
theorem d_X12_shorts_75 : decode cX12_shorts 75 = .ok (.goto 9, 3) := by decide +kernel
theorem d_X12_shorts_78 : decode cX12_shorts 78 = .ok (.aload_n 0, 1) := by decide +kernel
theorem d_X12_shorts_79 : decode cX12_shorts 79 = .ok (.bipush 12, 2) := by decide +kernel
theorem d_X12_shorts_81 : decode cX12_shorts 81 = .ok (.invokevirtual 187, 3) := by decide +kernel
theorem d_X12_shorts_84 : decode cX12_shorts 84 = .ok (.ireturn, 1) := by decide +kernel
theorem d_X12_forge_0 : decode cX12_forge 0 = .ok (.iload_n 1, 1) := by decide +kernel
theorem d_X12_forge_1 : decode cX12_forge 1 = .ok (.iconst 0, 1) := by decide +kernel
theorem d_X12_forge_2 : decode cX12_forge 2 = .ok (.bipush 6, 2) := by decide +kernel
theorem d_X12_forge_4 : decode cX12_forge 4 = .ok (.invokestatic 174, 3) := by decide +kernel
theorem d_X12_forge_7 : decode cX12_forge 7 = .ok (.ifCond .eq 25, 3) := by decide +kernel
theorem d_X12_forge_10 : decode cX12_forge 10 = .ok (.iload_n 2, 1) := by decide +kernel
theorem d_X12_forge_11 : decode cX12_forge 11 = .ok (.bipush (-100), 2) := by decide +kernel
theorem d_X12_forge_13 : decode cX12_forge 13 = .ok (.bipush 100, 2) := by decide +kernel
theorem d_X12_forge_15 : decode cX12_forge 15 = .ok (.invokestatic 174, 3) := by decide +kernel
theorem d_X12_forge_18 : decode cX12_forge 18 = .ok (.ifCond .eq 14, 3) := by decide +kernel
theorem d_X12_forge_21 : decode cX12_forge 21 = .ok (.iload_n 3, 1) := by decide +kernel
theorem d_X12_forge_22 : decode cX12_forge 22 = .ok (.bipush (-100), 2) := by decide +kernel
theorem d_X12_forge_24 : decode cX12_forge 24 = .ok (.bipush 100, 2) := by decide +kernel
theorem d_X12_forge_26 : decode cX12_forge 26 = .ok (.invokestatic 174, 3) := by decide +kernel
theorem d_X12_forge_29 : decode cX12_forge 29 = .ok (.ifCond .ne 9, 3) := by decide +kernel
theorem d_X12_forge_32 : decode cX12_forge 32 = .ok (.aload_n 0, 1) := by decide +kernel
theorem d_X12_forge_33 : decode cX12_forge 33 = .ok (.iconst 1, 1) := by decide +kernel
theorem d_X12_forge_34 : decode cX12_forge 34 = .ok (.invokevirtual 187, 3) := by decide +kernel
theorem d_X12_forge_37 : decode cX12_forge 37 = .ok (.ireturn, 1) := by decide +kernel
theorem d_X12_forge_38 : decode cX12_forge 38 = .ok (.iload_n 3, 1) := by decide +kernel
theorem d_X12_forge_39 : decode cX12_forge 39 = .ok (.bipush 10, 2) := by decide +kernel
theorem d_X12_forge_41 : decode cX12_forge 41 = .ok (.invokestatic 351, 3) := by decide +kernel
theorem d_X12_forge_44 : decode cX12_forge 44 = .ok (.istore 4, 2) := by decide +kernel
theorem d_X12_forge_46 : decode cX12_forge 46 = .ok (.iload_n 1, 1) := by decide +kernel
theorem d_X12_forge_47 : decode cX12_forge 47 = .ok (.tableswitch 206 0 5 #[37, 95, 114, 125, 136, 183], 37) := by decide +kernel
theorem d_X12_forge_84 : decode cX12_forge 84 = .ok (.iload 4, 2) := by decide +kernel
theorem d_X12_forge_86 : decode cX12_forge 86 = .ok (.aload_n 0, 1) := by decide +kernel
theorem d_X12_forge_87 : decode cX12_forge 87 = .ok (.getfield 171, 3) := by decide +kernel
theorem d_X12_forge_90 : decode cX12_forge 90 = .ok (.if_icmp .lt 12, 3) := by decide +kernel
theorem d_X12_forge_93 : decode cX12_forge 93 = .ok (.aload_n 0, 1) := by decide +kernel
theorem d_X12_forge_94 : decode cX12_forge 94 = .ok (.bipush 10, 2) := by decide +kernel
theorem d_X12_forge_96 : decode cX12_forge 96 = .ok (.invokevirtual 187, 3) := by decide +kernel
theorem d_X12_forge_99 : decode cX12_forge 99 = .ok (.goto 42, 3) := by decide +kernel
theorem d_X12_forge_102 : decode cX12_forge 102 = .ok (.aload_n 0, 1) := by decide +kernel
theorem d_X12_forge_103 : decode cX12_forge 103 = .ok (.getfield 7, 3) := by decide +kernel
theorem d_X12_forge_106 : decode cX12_forge 106 = .ok (.iload 4, 2) := by decide +kernel
theorem d_X12_forge_108 : decode cX12_forge 108 = .ok (.iaload, 1) := by decide +kernel
theorem d_X12_forge_109 : decode cX12_forge 109 = .ok (.iload_n 2, 1) := by decide +kernel
theorem d_X12_forge_110 : decode cX12_forge 110 = .ok (.bipush 6, 2) := by decide +kernel
theorem d_X12_forge_112 : decode cX12_forge 112 = .ok (.invokestatic 351, 3) := by decide +kernel
theorem d_X12_forge_115 : decode cX12_forge 115 = .ok (.invokestatic 299, 3) := by decide +kernel
theorem d_X12_forge_118 : decode cX12_forge 118 = .ok (.ifCond .eq 17, 3) := by decide +kernel
theorem d_X12_forge_121 : decode cX12_forge 121 = .ok (.aload_n 0, 1) := by decide +kernel
theorem d_X12_forge_122 : decode cX12_forge 122 = .ok (.aload_n 0, 1) := by decide +kernel
theorem d_X12_forge_123 : decode cX12_forge 123 = .ok (.getfield 7, 3) := by decide +kernel
theorem d_X12_forge_126 : decode cX12_forge 126 = .ok (.iload 4, 2) := by decide +kernel
theorem d_X12_forge_128 : decode cX12_forge 128 = .ok (.iaload, 1) := by decide +kernel
theorem d_X12_forge_129 : decode cX12_forge 129 = .ok (.invokevirtual 191, 3) := by decide +kernel
theorem d_X12_forge_132 : decode cX12_forge 132 = .ok (.goto 9, 3) := by decide +kernel
theorem d_X12_forge_135 : decode cX12_forge 135 = .ok (.aload_n 0, 1) := by decide +kernel
theorem d_X12_forge_136 : decode cX12_forge 136 = .ok (.bipush 11, 2) := by decide +kernel
theorem d_X12_forge_138 : decode cX12_forge 138 = .ok (.invokevirtual 187, 3) := by decide +kernel
theorem d_X12_forge_141 : decode cX12_forge 141 = .ok (.ireturn, 1) := by decide +kernel
theorem d_X12_forge_142 : decode cX12_forge 142 = .ok (.iload_n 2, 1) := by decide +kernel
theorem d_X12_forge_143 : decode cX12_forge 143 = .ok (.ifCond .ge 12, 3) := by decide +kernel
theorem d_X12_forge_146 : decode cX12_forge 146 = .ok (.aload_n 0, 1) := by decide +kernel
theorem d_X12_forge_147 : decode cX12_forge 147 = .ok (.bipush 13, 2) := by decide +kernel
theorem d_X12_forge_149 : decode cX12_forge 149 = .ok (.invokevirtual 187, 3) := by decide +kernel
theorem d_X12_forge_152 : decode cX12_forge 152 = .ok (.goto 8, 3) := by decide +kernel
theorem d_X12_forge_155 : decode cX12_forge 155 = .ok (.aload_n 0, 1) := by decide +kernel
theorem d_X12_forge_156 : decode cX12_forge 156 = .ok (.iload_n 2, 1) := by decide +kernel
theorem d_X12_forge_157 : decode cX12_forge 157 = .ok (.invokevirtual 191, 3) := by decide +kernel
theorem d_X12_forge_160 : decode cX12_forge 160 = .ok (.ireturn, 1) := by decide +kernel
theorem d_X12_forge_161 : decode cX12_forge 161 = .ok (.aload_n 0, 1) := by decide +kernel
theorem d_X12_forge_162 : decode cX12_forge 162 = .ok (.iload_n 2, 1) := by decide +kernel
theorem d_X12_forge_163 : decode cX12_forge 163 = .ok (.iload_n 3, 1) := by decide +kernel
theorem d_X12_forge_164 : decode cX12_forge 164 = .ok (.iconst 4, 1) := by decide +kernel
theorem d_X12_forge_165 : decode cX12_forge 165 = .ok (.invokestatic 351, 3) := by decide +kernel
theorem d_X12_forge_168 : decode cX12_forge 168 = .ok (.invokevirtual 354, 3) := by decide +kernel
theorem d_X12_forge_171 : decode cX12_forge 171 = .ok (.ireturn, 1) := by decide +kernel
theorem d_X12_forge_172 : decode cX12_forge 172 = .ok (.aload_n 0, 1) := by decide +kernel
theorem d_X12_forge_173 : decode cX12_forge 173 = .ok (.iload_n 2, 1) := by decide +kernel
theorem d_X12_forge_174 : decode cX12_forge 174 = .ok (.iload_n 3, 1) := by decide +kernel
theorem d_X12_forge_175 : decode cX12_forge 175 = .ok (.iconst 4, 1) := by decide +kernel
theorem d_X12_forge_176 : decode cX12_forge 176 = .ok (.invokestatic 351, 3) := by decide +kernel
theorem d_X12_forge_179 : decode cX12_forge 179 = .ok (.invokevirtual 357, 3) := by decide +kernel
theorem d_X12_forge_182 : decode cX12_forge 182 = .ok (.ireturn, 1) := by decide +kernel
theorem d_X12_forge_183 : decode cX12_forge 183 = .ok (.iload 4, 2) := by decide +kernel
theorem d_X12_forge_185 : decode cX12_forge 185 = .ok (.aload_n 0, 1) := by decide +kernel
theorem d_X12_forge_186 : decode cX12_forge 186 = .ok (.getfield 171, 3) := by decide +kernel
theorem d_X12_forge_189 : decode cX12_forge 189 = .ok (.if_icmp .lt 11, 3) := by decide +kernel
theorem d_X12_forge_192 : decode cX12_forge 192 = .ok (.aload_n 0, 1) := by decide +kernel
theorem d_X12_forge_193 : decode cX12_forge 193 = .ok (.iconst 0, 1) := by decide +kernel
theorem d_X12_forge_194 : decode cX12_forge 194 = .ok (.invokevirtual 191, 3) := by decide +kernel
theorem d_X12_forge_197 : decode cX12_forge 197 = .ok (.goto 32, 3) := by decide +kernel
theorem d_X12_forge_200 : decode cX12_forge 200 = .ok (.aload_n 0, 1) := by decide +kernel
theorem d_X12_forge_201 : decode cX12_forge 201 = .ok (.iload 4, 2) := by decide +kernel
theorem d_X12_forge_203 : decode cX12_forge 203 = .ok (.invokevirtual 205, 3) := by decide +kernel
theorem d_X12_forge_206 : decode cX12_forge 206 = .ok (.ifCond .eq 17, 3) := by decide +kernel
theorem d_X12_forge_209 : decode cX12_forge 209 = .ok (.aload_n 0, 1) := by decide +kernel
theorem d_X12_forge_210 : decode cX12_forge 210 = .ok (.aload_n 0, 1) := by decide +kernel
theorem d_X12_forge_211 : decode cX12_forge 211 = .ok (.getfield 7, 3) := by decide +kernel
theorem d_X12_forge_214 : decode cX12_forge 214 = .ok (.iload 4, 2) := by decide +kernel
theorem d_X12_forge_216 : decode cX12_forge 216 = .ok (.iaload, 1) := by decide +kernel
theorem d_X12_forge_217 : decode cX12_forge 217 = .ok (.invokevirtual 191, 3) := by decide +kernel
theorem d_X12_forge_220 : decode cX12_forge 220 = .ok (.goto 9, 3) := by decide +kernel
theorem d_X12_forge_223 : decode cX12_forge 223 = .ok (.aload_n 0, 1) := by decide +kernel
theorem d_X12_forge_224 : decode cX12_forge 224 = .ok (.bipush 14, 2) := by decide +kernel
theorem d_X12_forge_226 : decode cX12_forge 226 = .ok (.invokevirtual 187, 3) := by decide +kernel
theorem d_X12_forge_229 : decode cX12_forge 229 = .ok (.ireturn, 1) := by decide +kernel
theorem d_X12_forge_230 : decode cX12_forge 230 = .ok (.iload_n 2, 1) := by decide +kernel
theorem d_X12_forge_231 : decode cX12_forge 231 = .ok (.ifCond .ne 12, 3) := by decide +kernel
theorem d_X12_forge_234 : decode cX12_forge 234 = .ok (.aload_n 0, 1) := by decide +kernel
theorem d_X12_forge_235 : decode cX12_forge 235 = .ok (.bipush 15, 2) := by decide +kernel
theorem d_X12_forge_237 : decode cX12_forge 237 = .ok (.invokevirtual 187, 3) := by decide +kernel
theorem d_X12_forge_240 : decode cX12_forge 240 = .ok (.goto 12, 3) := by decide +kernel
theorem d_X12_forge_243 : decode cX12_forge 243 = .ok (.aload_n 0, 1) := by decide +kernel
theorem d_X12_forge_244 : decode cX12_forge 244 = .ok (.sipush 1000, 3) := by decide +kernel
theorem d_X12_forge_247 : decode cX12_forge 247 = .ok (.iload_n 2, 1) := by decide +kernel
theorem d_X12_forge_248 : decode cX12_forge 248 = .ok (.idiv, 1) := by decide +kernel
theorem d_X12_forge_249 : decode cX12_forge 249 = .ok (.invokevirtual 191, 3) := by decide +kernel
theorem d_X12_forge_252 : decode cX12_forge 252 = .ok (.ireturn, 1) := by decide +kernel
theorem d_X12_forge_253 : decode cX12_forge 253 = .ok (.iload_n 2, 1) := by decide +kernel
theorem d_X12_forge_254 : decode cX12_forge 254 = .ok (.iconst 2, 1) := by decide +kernel
theorem d_X12_forge_255 : decode cX12_forge 255 = .ok (.invokestatic 351, 3) := by decide +kernel
theorem d_X12_forge_258 : decode cX12_forge 258 = .ok (.ifCond .ne 12, 3) := by decide +kernel
theorem d_X12_forge_261 : decode cX12_forge 261 = .ok (.aload_n 0, 1) := by decide +kernel
theorem d_X12_forge_262 : decode cX12_forge 262 = .ok (.bipush 10, 2) := by decide +kernel
theorem d_X12_forge_264 : decode cX12_forge 264 = .ok (.invokevirtual 187, 3) := by decide +kernel
theorem d_X12_forge_267 : decode cX12_forge 267 = .ok (.goto 8, 3) := by decide +kernel
theorem d_X12_forge_270 : decode cX12_forge 270 = .ok (.aload_n 0, 1) := by decide +kernel
theorem d_X12_forge_271 : decode cX12_forge 271 = .ok (.iconst 1, 1) := by decide +kernel
theorem d_X12_forge_272 : decode cX12_forge 272 = .ok (.invokevirtual 191, 3) := by decide +kernel
theorem d_X12_forge_275 : decode cX12_forge 275 = .ok (.ireturn, 1) := by decide +kernel
theorem d_X12_status_0 : decode cX12_status 0 = .ok (.aload_n 0, 1) := by decide +kernel
theorem d_X12_status_1 : decode cX12_status 1 = .ok (.getfield 167, 3) := by decide +kernel
theorem d_X12_status_4 : decode cX12_status 4 = .ok (.ireturn, 1) := by decide +kernel
