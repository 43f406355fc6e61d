theorem dL_below_0 : decode cL_below 0 = .ok (.iload_n 0, 1) := by decide +kernel
theorem dL_below_1 : decode cL_below 1 = .ok (.ldc 7, 2) := by decide +kernel
theorem dL_below_3 : decode cL_below 3 = .ok (.iand, 1) := by decide +kernel
theorem dL_below_4 : decode cL_below 4 = .ok (.iload_n 1, 1) := by decide +kernel
theorem dL_below_5 : decode cL_below 5 = .ok (.irem, 1) := by decide +kernel
theorem dL_below_6 : decode cL_below 6 = .ok (.ireturn, 1) := by decide +kernel
theorem dL_cell_0 : decode cL_cell 0 = .ok (.iload_n 1, 1) := by decide +kernel
theorem dL_cell_1 : decode cL_cell 1 = .ok (.aload_n 0, 1) := by decide +kernel
theorem dL_cell_2 : decode cL_cell 2 = .ok (.arraylength, 1) := by decide +kernel
theorem dL_cell_3 : decode cL_cell 3 = .ok (.if_icmp .ge 9, 3) := by decide +kernel
theorem dL_cell_6 : decode cL_cell 6 = .ok (.aload_n 0, 1) := by decide +kernel
theorem dL_cell_7 : decode cL_cell 7 = .ok (.iload_n 1, 1) := by decide +kernel
theorem dL_cell_8 : decode cL_cell 8 = .ok (.iaload, 1) := by decide +kernel
theorem dL_cell_9 : decode cL_cell 9 = .ok (.goto 9, 3) := by decide +kernel
theorem dL_cell_12 : decode cL_cell 12 = .ok (.ldc 8, 2) := by decide +kernel
theorem dL_cell_14 : decode cL_cell 14 = .ok (.iload_n 1, 1) := by decide +kernel
theorem dL_cell_15 : decode cL_cell 15 = .ok (.iconst 3, 1) := by decide +kernel
theorem dL_cell_16 : decode cL_cell 16 = .ok (.iadd, 1) := by decide +kernel
theorem dL_cell_17 : decode cL_cell 17 = .ok (.imul, 1) := by decide +kernel
theorem dL_cell_18 : decode cL_cell 18 = .ok (.ireturn, 1) := by decide +kernel
theorem dL_build_0 : decode cL_build 0 = .ok (.iconst 1, 1) := by decide +kernel
theorem dL_build_1 : decode cL_build 1 = .ok (.aload_n 1, 1) := by decide +kernel
theorem dL_build_2 : decode cL_build 2 = .ok (.iload_n 2, 1) := by decide +kernel
theorem dL_build_3 : decode cL_build 3 = .ok (.invokestatic 9, 3) := by decide +kernel
theorem dL_build_6 : decode cL_build 6 = .ok (.iload_n 3, 1) := by decide +kernel
theorem dL_build_7 : decode cL_build 7 = .ok (.invokestatic 15, 3) := by decide +kernel
theorem dL_build_10 : decode cL_build 10 = .ok (.iadd, 1) := by decide +kernel
theorem dL_build_11 : decode cL_build 11 = .ok (.istore 5, 2) := by decide +kernel
theorem dL_build_13 : decode cL_build 13 = .ok (.iconst 1, 1) := by decide +kernel
theorem dL_build_14 : decode cL_build 14 = .ok (.aload_n 1, 1) := by decide +kernel
theorem dL_build_15 : decode cL_build 15 = .ok (.iload_n 2, 1) := by decide +kernel
theorem dL_build_16 : decode cL_build 16 = .ok (.invokestatic 9, 3) := by decide +kernel
theorem dL_build_19 : decode cL_build 19 = .ok (.iconst 4, 1) := by decide +kernel
theorem dL_build_20 : decode cL_build 20 = .ok (.ishr, 1) := by decide +kernel
theorem dL_build_21 : decode cL_build 21 = .ok (.iconst 3, 1) := by decide +kernel
theorem dL_build_22 : decode cL_build 22 = .ok (.invokestatic 15, 3) := by decide +kernel
theorem dL_build_25 : decode cL_build 25 = .ok (.iadd, 1) := by decide +kernel
theorem dL_build_26 : decode cL_build 26 = .ok (.istore 6, 2) := by decide +kernel
theorem dL_build_28 : decode cL_build 28 = .ok (.iconst 0, 1) := by decide +kernel
theorem dL_build_29 : decode cL_build 29 = .ok (.istore 7, 2) := by decide +kernel
theorem dL_build_31 : decode cL_build 31 = .ok (.iload 7, 2) := by decide +kernel
theorem dL_build_33 : decode cL_build 33 = .ok (.iload 5, 2) := by decide +kernel
theorem dL_build_35 : decode cL_build 35 = .ok (.if_icmp .ge 108, 3) := by decide +kernel
theorem dL_build_38 : decode cL_build 38 = .ok (.aload_n 1, 1) := by decide +kernel
theorem dL_build_39 : decode cL_build 39 = .ok (.iload_n 2, 1) := by decide +kernel
theorem dL_build_40 : decode cL_build 40 = .ok (.iconst 1, 1) := by decide +kernel
theorem dL_build_41 : decode cL_build 41 = .ok (.iadd, 1) := by decide +kernel
theorem dL_build_42 : decode cL_build 42 = .ok (.iload 7, 2) := by decide +kernel
theorem dL_build_44 : decode cL_build 44 = .ok (.bipush 6, 2) := by decide +kernel
theorem dL_build_46 : decode cL_build 46 = .ok (.irem, 1) := by decide +kernel
theorem dL_build_47 : decode cL_build 47 = .ok (.iadd, 1) := by decide +kernel
theorem dL_build_48 : decode cL_build 48 = .ok (.invokestatic 9, 3) := by decide +kernel
theorem dL_build_51 : decode cL_build 51 = .ok (.iload 7, 2) := by decide +kernel
theorem dL_build_53 : decode cL_build 53 = .ok (.bipush 6, 2) := by decide +kernel
theorem dL_build_55 : decode cL_build 55 = .ok (.idiv, 1) := by decide +kernel
theorem dL_build_56 : decode cL_build 56 = .ok (.iconst 3, 1) := by decide +kernel
theorem dL_build_57 : decode cL_build 57 = .ok (.imul, 1) := by decide +kernel
theorem dL_build_58 : decode cL_build 58 = .ok (.ishr, 1) := by decide +kernel
theorem dL_build_59 : decode cL_build 59 = .ok (.istore 8, 2) := by decide +kernel
theorem dL_build_61 : decode cL_build 61 = .ok (.aload 4, 2) := by decide +kernel
theorem dL_build_63 : decode cL_build 63 = .ok (.iconst 3, 1) := by decide +kernel
theorem dL_build_64 : decode cL_build 64 = .ok (.iload 7, 2) := by decide +kernel
theorem dL_build_66 : decode cL_build 66 = .ok (.imul, 1) := by decide +kernel
theorem dL_build_67 : decode cL_build 67 = .ok (.iload 8, 2) := by decide +kernel
theorem dL_build_69 : decode cL_build 69 = .ok (.iconst 3, 1) := by decide +kernel
theorem dL_build_70 : decode cL_build 70 = .ok (.invokestatic 15, 3) := by decide +kernel
theorem dL_build_73 : decode cL_build 73 = .ok (.ifCond .ne 17, 3) := by decide +kernel
theorem dL_build_76 : decode cL_build 76 = .ok (.iconst 1, 1) := by decide +kernel
theorem dL_build_77 : decode cL_build 77 = .ok (.iload 8, 2) := by decide +kernel
theorem dL_build_79 : decode cL_build 79 = .ok (.iconst 2, 1) := by decide +kernel
theorem dL_build_80 : decode cL_build 80 = .ok (.ishr, 1) := by decide +kernel
theorem dL_build_81 : decode cL_build 81 = .ok (.bipush 9, 2) := by decide +kernel
theorem dL_build_83 : decode cL_build 83 = .ok (.invokestatic 15, 3) := by decide +kernel
theorem dL_build_86 : decode cL_build 86 = .ok (.iadd, 1) := by decide +kernel
theorem dL_build_87 : decode cL_build 87 = .ok (.goto 4, 3) := by decide +kernel
theorem dL_build_90 : decode cL_build 90 = .ok (.iconst 3, 1) := by decide +kernel
theorem dL_build_91 : decode cL_build 91 = .ok (.iastore, 1) := by decide +kernel
theorem dL_build_92 : decode cL_build 92 = .ok (.aload 4, 2) := by decide +kernel
theorem dL_build_94 : decode cL_build 94 = .ok (.iconst 3, 1) := by decide +kernel
theorem dL_build_95 : decode cL_build 95 = .ok (.iload 7, 2) := by decide +kernel
theorem dL_build_97 : decode cL_build 97 = .ok (.imul, 1) := by decide +kernel
theorem dL_build_98 : decode cL_build 98 = .ok (.iconst 1, 1) := by decide +kernel
theorem dL_build_99 : decode cL_build 99 = .ok (.iadd, 1) := by decide +kernel
theorem dL_build_100 : decode cL_build 100 = .ok (.iload 8, 2) := by decide +kernel
theorem dL_build_102 : decode cL_build 102 = .ok (.bipush 6, 2) := by decide +kernel
theorem dL_build_104 : decode cL_build 104 = .ok (.ishr, 1) := by decide +kernel
theorem dL_build_105 : decode cL_build 105 = .ok (.bipush 7, 2) := by decide +kernel
theorem dL_build_107 : decode cL_build 107 = .ok (.invokestatic 15, 3) := by decide +kernel
theorem dL_build_110 : decode cL_build 110 = .ok (.ifCond .ne 7, 3) := by decide +kernel
theorem dL_build_113 : decode cL_build 113 = .ok (.iconst 0, 1) := by decide +kernel
theorem dL_build_114 : decode cL_build 114 = .ok (.goto 4, 3) := by decide +kernel
theorem dL_build_117 : decode cL_build 117 = .ok (.iconst 1, 1) := by decide +kernel
theorem dL_build_118 : decode cL_build 118 = .ok (.iastore, 1) := by decide +kernel
theorem dL_build_119 : decode cL_build 119 = .ok (.aload_n 0, 1) := by decide +kernel
theorem dL_build_120 : decode cL_build 120 = .ok (.aload 4, 2) := by decide +kernel
theorem dL_build_122 : decode cL_build 122 = .ok (.iconst 3, 1) := by decide +kernel
theorem dL_build_123 : decode cL_build 123 = .ok (.iload 7, 2) := by decide +kernel
theorem dL_build_125 : decode cL_build 125 = .ok (.imul, 1) := by decide +kernel
theorem dL_build_126 : decode cL_build 126 = .ok (.iaload, 1) := by decide +kernel
theorem dL_build_127 : decode cL_build 127 = .ok (.invokevirtual 19, 3) := by decide +kernel
theorem dL_build_130 : decode cL_build 130 = .ok (.iload 7, 2) := by decide +kernel
theorem dL_build_132 : decode cL_build 132 = .ok (.if_icmp .eq 5, 3) := by decide +kernel
theorem dL_build_135 : decode cL_build 135 = .ok (.iconst (-1), 1) := by decide +kernel
theorem dL_build_136 : decode cL_build 136 = .ok (.ireturn, 1) := by decide +kernel
theorem dL_build_137 : decode cL_build 137 = .ok (.iinc 7 1, 3) := by decide +kernel
theorem dL_build_140 : decode cL_build 140 = .ok (.goto (-109), 3) := by decide +kernel
theorem dL_build_143 : decode cL_build 143 = .ok (.iconst 0, 1) := by decide +kernel
theorem dL_build_144 : decode cL_build 144 = .ok (.istore 7, 2) := by decide +kernel
theorem dL_build_146 : decode cL_build 146 = .ok (.iload 7, 2) := by decide +kernel
theorem dL_build_148 : decode cL_build 148 = .ok (.iload 5, 2) := by decide +kernel
theorem dL_build_150 : decode cL_build 150 = .ok (.if_icmp .ge 179, 3) := by decide +kernel
theorem dL_build_153 : decode cL_build 153 = .ok (.aload_n 1, 1) := by decide +kernel
theorem dL_build_154 : decode cL_build 154 = .ok (.iload_n 2, 1) := by decide +kernel
theorem dL_build_155 : decode cL_build 155 = .ok (.bipush 7, 2) := by decide +kernel
theorem dL_build_157 : decode cL_build 157 = .ok (.iadd, 1) := by decide +kernel
theorem dL_build_158 : decode cL_build 158 = .ok (.iload 7, 2) := by decide +kernel
theorem dL_build_160 : decode cL_build 160 = .ok (.bipush 6, 2) := by decide +kernel
theorem dL_build_162 : decode cL_build 162 = .ok (.irem, 1) := by decide +kernel
theorem dL_build_163 : decode cL_build 163 = .ok (.iadd, 1) := by decide +kernel
theorem dL_build_164 : decode cL_build 164 = .ok (.invokestatic 9, 3) := by decide +kernel
theorem dL_build_167 : decode cL_build 167 = .ok (.iload 7, 2) := by decide +kernel
theorem dL_build_169 : decode cL_build 169 = .ok (.bipush 6, 2) := by decide +kernel
theorem dL_build_171 : decode cL_build 171 = .ok (.idiv, 1) := by decide +kernel
theorem dL_build_172 : decode cL_build 172 = .ok (.iconst 5, 1) := by decide +kernel
theorem dL_build_173 : decode cL_build 173 = .ok (.imul, 1) := by decide +kernel
theorem dL_build_174 : decode cL_build 174 = .ok (.ishr, 1) := by decide +kernel
theorem dL_build_175 : decode cL_build 175 = .ok (.istore 8, 2) := by decide +kernel
theorem dL_build_177 : decode cL_build 177 = .ok (.aload 4, 2) := by decide +kernel
theorem dL_build_179 : decode cL_build 179 = .ok (.iconst 3, 1) := by decide +kernel
theorem dL_build_180 : decode cL_build 180 = .ok (.iload 7, 2) := by decide +kernel
theorem dL_build_182 : decode cL_build 182 = .ok (.imul, 1) := by decide +kernel
theorem dL_build_183 : decode cL_build 183 = .ok (.iconst 2, 1) := by decide +kernel
theorem dL_build_184 : decode cL_build 184 = .ok (.iadd, 1) := by decide +kernel
theorem dL_build_185 : decode cL_build 185 = .ok (.iconst 0, 1) := by decide +kernel
theorem dL_build_186 : decode cL_build 186 = .ok (.iastore, 1) := by decide +kernel
theorem dL_build_187 : decode cL_build 187 = .ok (.iconst 0, 1) := by decide +kernel
theorem dL_build_188 : decode cL_build 188 = .ok (.istore 9, 2) := by decide +kernel
theorem dL_build_190 : decode cL_build 190 = .ok (.iload 9, 2) := by decide +kernel
theorem dL_build_192 : decode cL_build 192 = .ok (.iload 6, 2) := by decide +kernel
theorem dL_build_194 : decode cL_build 194 = .ok (.if_icmp .ge 35, 3) := by decide +kernel
