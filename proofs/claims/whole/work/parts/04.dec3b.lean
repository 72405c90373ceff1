theorem d3_change_132 : decode c3_change 132 = .ok (.iload_n 1, 1) := by decide +kernel
theorem d3_change_133 : decode c3_change 133 = .ok (.imul, 1) := by decide +kernel
theorem d3_change_134 : decode c3_change 134 = .ok (.iconst 2, 1) := by decide +kernel
theorem d3_change_135 : decode c3_change 135 = .ok (.iadd, 1) := by decide +kernel
theorem d3_change_136 : decode c3_change 136 = .ok (.if_icmp .lt 7, 3) := by decide +kernel
theorem d3_change_139 : decode c3_change 139 = .ok (.iconst 1, 1) := by decide +kernel
theorem d3_change_140 : decode c3_change 140 = .ok (.goto 4, 3) := by decide +kernel
theorem d3_change_143 : decode c3_change 143 = .ok (.iconst 0, 1) := by decide +kernel
theorem d3_change_144 : decode c3_change 144 = .ok (.putfield 78, 3) := by decide +kernel
theorem d3_change_147 : decode c3_change 147 = .ok (.aload_n 0, 1) := by decide +kernel
theorem d3_change_148 : decode c3_change 148 = .ok (.aload_n 0, 1) := by decide +kernel
theorem d3_change_149 : decode c3_change 149 = .ok (.getfield 26, 3) := by decide +kernel
theorem d3_change_152 : decode c3_change 152 = .ok (.iconst 5, 1) := by decide +kernel
theorem d3_change_153 : decode c3_change 153 = .ok (.iload_n 1, 1) := by decide +kernel
theorem d3_change_154 : decode c3_change 154 = .ok (.imul, 1) := by decide +kernel
theorem d3_change_155 : decode c3_change 155 = .ok (.iconst 3, 1) := by decide +kernel
theorem d3_change_156 : decode c3_change 156 = .ok (.iadd, 1) := by decide +kernel
theorem d3_change_157 : decode c3_change 157 = .ok (.if_icmp .lt 7, 3) := by decide +kernel
theorem d3_change_160 : decode c3_change 160 = .ok (.iconst 1, 1) := by decide +kernel
theorem d3_change_161 : decode c3_change 161 = .ok (.goto 4, 3) := by decide +kernel
theorem d3_change_164 : decode c3_change 164 = .ok (.iconst 0, 1) := by decide +kernel
theorem d3_change_165 : decode c3_change 165 = .ok (.putfield 82, 3) := by decide +kernel
theorem d3_change_168 : decode c3_change 168 = .ok (.aload_n 0, 1) := by decide +kernel
theorem d3_change_169 : decode c3_change 169 = .ok (.iconst 1, 1) := by decide +kernel
theorem d3_change_170 : decode c3_change 170 = .ok (.putfield 85, 3) := by decide +kernel
theorem d3_change_173 : decode c3_change 173 = .ok (.aload_n 0, 1) := by decide +kernel
theorem d3_change_174 : decode c3_change 174 = .ok (.iconst 1, 1) := by decide +kernel
theorem d3_change_175 : decode c3_change 175 = .ok (.putfield 88, 3) := by decide +kernel
theorem d3_change_178 : decode c3_change 178 = .ok (.aload_n 0, 1) := by decide +kernel
theorem d3_change_179 : decode c3_change 179 = .ok (.iconst (-1), 1) := by decide +kernel
theorem d3_change_180 : decode c3_change 180 = .ok (.putfield 26, 3) := by decide +kernel
theorem d3_change_183 : decode c3_change 183 = .ok (.bipush (-2), 2) := by decide +kernel
theorem d3_change_185 : decode c3_change 185 = .ok (.ireturn, 1) := by decide +kernel
theorem d3_cut_0 : decode c3_cut 0 = .ok (.iload_n 1, 1) := by decide +kernel
theorem d3_cut_1 : decode c3_cut 1 = .ok (.iconst (-1), 1) := by decide +kernel
theorem d3_cut_2 : decode c3_cut 2 = .ok (.if_icmp .ge 5, 3) := by decide +kernel
theorem d3_cut_5 : decode c3_cut 5 = .ok (.iconst 0, 1) := by decide +kernel
theorem d3_cut_6 : decode c3_cut 6 = .ok (.ireturn, 1) := by decide +kernel
theorem d3_cut_7 : decode c3_cut 7 = .ok (.aload_n 0, 1) := by decide +kernel
theorem d3_cut_8 : decode c3_cut 8 = .ok (.iload_n 1, 1) := by decide +kernel
theorem d3_cut_9 : decode c3_cut 9 = .ok (.putfield 26, 3) := by decide +kernel
theorem d3_cut_12 : decode c3_cut 12 = .ok (.iconst 1, 1) := by decide +kernel
theorem d3_cut_13 : decode c3_cut 13 = .ok (.ireturn, 1) := by decide +kernel
theorem d3_put_0 : decode c3_put 0 = .ok (.aload_n 0, 1) := by decide +kernel
theorem d3_put_1 : decode c3_put 1 = .ok (.getfield 88, 3) := by decide +kernel
theorem d3_put_4 : decode c3_put 4 = .ok (.ifCond .eq 5, 3) := by decide +kernel
theorem d3_put_7 : decode c3_put 7 = .ok (.iconst (-1), 1) := by decide +kernel
theorem d3_put_8 : decode c3_put 8 = .ok (.ireturn, 1) := by decide +kernel
theorem d3_put_9 : decode c3_put 9 = .ok (.iload_n 1, 1) := by decide +kernel
theorem d3_put_10 : decode c3_put 10 = .ok (.ifCond .lt 20, 3) := by decide +kernel
theorem d3_put_13 : decode c3_put 13 = .ok (.iload_n 1, 1) := by decide +kernel
theorem d3_put_14 : decode c3_put 14 = .ok (.sipush 4095, 3) := by decide +kernel
theorem d3_put_17 : decode c3_put 17 = .ok (.if_icmp .gt 13, 3) := by decide +kernel
theorem d3_put_20 : decode c3_put 20 = .ok (.iload_n 2, 1) := by decide +kernel
theorem d3_put_21 : decode c3_put 21 = .ok (.ifCond .lt 9, 3) := by decide +kernel
theorem d3_put_24 : decode c3_put 24 = .ok (.iload_n 2, 1) := by decide +kernel
theorem d3_put_25 : decode c3_put 25 = .ok (.ldc 91, 2) := by decide +kernel
theorem d3_put_27 : decode c3_put 27 = .ok (.if_icmp .le 6, 3) := by decide +kernel
theorem d3_put_30 : decode c3_put 30 = .ok (.bipush (-3), 2) := by decide +kernel
theorem d3_put_32 : decode c3_put 32 = .ok (.ireturn, 1) := by decide +kernel
theorem d3_put_33 : decode c3_put 33 = .ok (.aload_n 0, 1) := by decide +kernel
theorem d3_put_34 : decode c3_put 34 = .ok (.iconst 0, 1) := by decide +kernel
theorem d3_put_35 : decode c3_put 35 = .ok (.iload_n 1, 1) := by decide +kernel
theorem d3_put_36 : decode c3_put 36 = .ok (.invokevirtual 51, 3) := by decide +kernel
theorem d3_put_39 : decode c3_put 39 = .ok (.istore_n 3, 1) := by decide +kernel
theorem d3_put_40 : decode c3_put 40 = .ok (.iload_n 3, 1) := by decide +kernel
theorem d3_put_41 : decode c3_put 41 = .ok (.ifCond .lt 15, 3) := by decide +kernel
theorem d3_put_44 : decode c3_put 44 = .ok (.aload_n 0, 1) := by decide +kernel
theorem d3_put_45 : decode c3_put 45 = .ok (.getfield 16, 3) := by decide +kernel
theorem d3_put_48 : decode c3_put 48 = .ok (.iload_n 3, 1) := by decide +kernel
theorem d3_put_49 : decode c3_put 49 = .ok (.iaload, 1) := by decide +kernel
theorem d3_put_50 : decode c3_put 50 = .ok (.iload_n 2, 1) := by decide +kernel
theorem d3_put_51 : decode c3_put 51 = .ok (.if_icmp .ne 5, 3) := by decide +kernel
theorem d3_put_54 : decode c3_put 54 = .ok (.iconst 0, 1) := by decide +kernel
theorem d3_put_55 : decode c3_put 55 = .ok (.ireturn, 1) := by decide +kernel
theorem d3_put_56 : decode c3_put 56 = .ok (.iload_n 3, 1) := by decide +kernel
theorem d3_put_57 : decode c3_put 57 = .ok (.ifCond .ge 17, 3) := by decide +kernel
theorem d3_put_60 : decode c3_put 60 = .ok (.aload_n 0, 1) := by decide +kernel
theorem d3_put_61 : decode c3_put 61 = .ok (.getfield 7, 3) := by decide +kernel
theorem d3_put_64 : decode c3_put 64 = .ok (.iconst 0, 1) := by decide +kernel
theorem d3_put_65 : decode c3_put 65 = .ok (.iaload, 1) := by decide +kernel
theorem d3_put_66 : decode c3_put 66 = .ok (.bipush 30, 2) := by decide +kernel
theorem d3_put_68 : decode c3_put 68 = .ok (.if_icmp .ne 6, 3) := by decide +kernel
theorem d3_put_71 : decode c3_put 71 = .ok (.bipush (-5), 2) := by decide +kernel
theorem d3_put_73 : decode c3_put 73 = .ok (.ireturn, 1) := by decide +kernel
theorem d3_put_74 : decode c3_put 74 = .ok (.aload_n 0, 1) := by decide +kernel
theorem d3_put_75 : decode c3_put 75 = .ok (.iconst 0, 1) := by decide +kernel
theorem d3_put_76 : decode c3_put 76 = .ok (.iconst 3, 1) := by decide +kernel
theorem d3_put_77 : decode c3_put 77 = .ok (.invokevirtual 74, 3) := by decide +kernel
theorem d3_put_80 : decode c3_put 80 = .ok (.iload_n 3, 1) := by decide +kernel
theorem d3_put_81 : decode c3_put 81 = .ok (.ifCond .lt 18, 3) := by decide +kernel
theorem d3_put_84 : decode c3_put 84 = .ok (.aload_n 0, 1) := by decide +kernel
theorem d3_put_85 : decode c3_put 85 = .ok (.getfield 16, 3) := by decide +kernel
theorem d3_put_88 : decode c3_put 88 = .ok (.bipush 93, 2) := by decide +kernel
theorem d3_put_90 : decode c3_put 90 = .ok (.iload_n 3, 1) := by decide +kernel
theorem d3_put_91 : decode c3_put 91 = .ok (.iadd, 1) := by decide +kernel
theorem d3_put_92 : decode c3_put 92 = .ok (.iload_n 2, 1) := by decide +kernel
theorem d3_put_93 : decode c3_put 93 = .ok (.iastore, 1) := by decide +kernel
theorem d3_put_94 : decode c3_put 94 = .ok (.aload_n 0, 1) := by decide +kernel
theorem d3_put_95 : decode c3_put 95 = .ok (.invokevirtual 92, 3) := by decide +kernel
theorem d3_put_98 : decode c3_put 98 = .ok (.ireturn, 1) := by decide +kernel
theorem d3_put_99 : decode c3_put 99 = .ok (.bipush 93, 2) := by decide +kernel
theorem d3_put_101 : decode c3_put 101 = .ok (.aload_n 0, 1) := by decide +kernel
theorem d3_put_102 : decode c3_put 102 = .ok (.getfield 7, 3) := by decide +kernel
theorem d3_put_105 : decode c3_put 105 = .ok (.iconst 3, 1) := by decide +kernel
theorem d3_put_106 : decode c3_put 106 = .ok (.iaload, 1) := by decide +kernel
theorem d3_put_107 : decode c3_put 107 = .ok (.iadd, 1) := by decide +kernel
theorem d3_put_108 : decode c3_put 108 = .ok (.istore 4, 2) := by decide +kernel
theorem d3_put_110 : decode c3_put 110 = .ok (.iload 4, 2) := by decide +kernel
theorem d3_put_112 : decode c3_put 112 = .ok (.bipush 93, 2) := by decide +kernel
theorem d3_put_114 : decode c3_put 114 = .ok (.if_icmp .le 54, 3) := by decide +kernel
theorem d3_put_117 : decode c3_put 117 = .ok (.aload_n 0, 1) := by decide +kernel
theorem d3_put_118 : decode c3_put 118 = .ok (.getfield 13, 3) := by decide +kernel
theorem d3_put_121 : decode c3_put 121 = .ok (.iload 4, 2) := by decide +kernel
theorem d3_put_123 : decode c3_put 123 = .ok (.iconst 1, 1) := by decide +kernel
theorem d3_put_124 : decode c3_put 124 = .ok (.isub, 1) := by decide +kernel
theorem d3_put_125 : decode c3_put 125 = .ok (.iaload, 1) := by decide +kernel
theorem d3_put_126 : decode c3_put 126 = .ok (.iload_n 1, 1) := by decide +kernel
theorem d3_put_127 : decode c3_put 127 = .ok (.if_icmp .le 41, 3) := by decide +kernel
theorem d3_put_130 : decode c3_put 130 = .ok (.aload_n 0, 1) := by decide +kernel
theorem d3_put_131 : decode c3_put 131 = .ok (.getfield 13, 3) := by decide +kernel
theorem d3_put_134 : decode c3_put 134 = .ok (.iload 4, 2) := by decide +kernel
theorem d3_put_136 : decode c3_put 136 = .ok (.aload_n 0, 1) := by decide +kernel
theorem d3_put_137 : decode c3_put 137 = .ok (.getfield 13, 3) := by decide +kernel
theorem d3_put_140 : decode c3_put 140 = .ok (.iload 4, 2) := by decide +kernel
theorem d3_put_142 : decode c3_put 142 = .ok (.iconst 1, 1) := by decide +kernel
theorem d3_put_143 : decode c3_put 143 = .ok (.isub, 1) := by decide +kernel
theorem d3_put_144 : decode c3_put 144 = .ok (.iaload, 1) := by decide +kernel
theorem d3_put_145 : decode c3_put 145 = .ok (.iastore, 1) := by decide +kernel
theorem d3_put_146 : decode c3_put 146 = .ok (.aload_n 0, 1) := by decide +kernel
theorem d3_put_147 : decode c3_put 147 = .ok (.getfield 16, 3) := by decide +kernel
theorem d3_put_150 : decode c3_put 150 = .ok (.iload 4, 2) := by decide +kernel
theorem d3_put_152 : decode c3_put 152 = .ok (.aload_n 0, 1) := by decide +kernel
theorem d3_put_153 : decode c3_put 153 = .ok (.getfield 16, 3) := by decide +kernel
theorem d3_put_156 : decode c3_put 156 = .ok (.iload 4, 2) := by decide +kernel
theorem d3_put_158 : decode c3_put 158 = .ok (.iconst 1, 1) := by decide +kernel
theorem d3_put_159 : decode c3_put 159 = .ok (.isub, 1) := by decide +kernel
theorem d3_put_160 : decode c3_put 160 = .ok (.iaload, 1) := by decide +kernel
theorem d3_put_161 : decode c3_put 161 = .ok (.iastore, 1) := by decide +kernel
theorem d3_put_162 : decode c3_put 162 = .ok (.iinc 4 (-1), 3) := by decide +kernel
theorem d3_put_165 : decode c3_put 165 = .ok (.goto (-55), 3) := by decide +kernel
theorem d3_put_168 : decode c3_put 168 = .ok (.aload_n 0, 1) := by decide +kernel
theorem d3_put_169 : decode c3_put 169 = .ok (.getfield 13, 3) := by decide +kernel
theorem d3_put_172 : decode c3_put 172 = .ok (.iload 4, 2) := by decide +kernel
theorem d3_put_174 : decode c3_put 174 = .ok (.iload_n 1, 1) := by decide +kernel
theorem d3_put_175 : decode c3_put 175 = .ok (.iastore, 1) := by decide +kernel
theorem d3_put_176 : decode c3_put 176 = .ok (.aload_n 0, 1) := by decide +kernel
theorem d3_put_177 : decode c3_put 177 = .ok (.getfield 16, 3) := by decide +kernel
theorem d3_put_180 : decode c3_put 180 = .ok (.iload 4, 2) := by decide +kernel
theorem d3_put_182 : decode c3_put 182 = .ok (.iload_n 2, 1) := by decide +kernel
theorem d3_put_183 : decode c3_put 183 = .ok (.iastore, 1) := by decide +kernel
theorem d3_put_184 : decode c3_put 184 = .ok (.aload_n 0, 1) := by decide +kernel
theorem d3_put_185 : decode c3_put 185 = .ok (.getfield 7, 3) := by decide +kernel
theorem d3_put_188 : decode c3_put 188 = .ok (.iconst 3, 1) := by decide +kernel
theorem d3_put_189 : decode c3_put 189 = .ok (.dup2, 1) := by decide +kernel
theorem d3_put_190 : decode c3_put 190 = .ok (.iaload, 1) := by decide +kernel
theorem d3_put_191 : decode c3_put 191 = .ok (.iconst 1, 1) := by decide +kernel
theorem d3_put_192 : decode c3_put 192 = .ok (.iadd, 1) := by decide +kernel
theorem d3_put_193 : decode c3_put 193 = .ok (.iastore, 1) := by decide +kernel
theorem d3_put_194 : decode c3_put 194 = .ok (.aload_n 0, 1) := by decide +kernel
theorem d3_put_195 : decode c3_put 195 = .ok (.invokevirtual 92, 3) := by decide +kernel
theorem d3_put_198 : decode c3_put 198 = .ok (.ireturn, 1) := by decide +kernel
theorem d3_remove_0 : decode c3_remove 0 = .ok (.aload_n 0, 1) := by decide +kernel
theorem d3_remove_1 : decode c3_remove 1 = .ok (.getfield 88, 3) := by decide +kernel
theorem d3_remove_4 : decode c3_remove 4 = .ok (.ifCond .eq 5, 3) := by decide +kernel
theorem d3_remove_7 : decode c3_remove 7 = .ok (.iconst (-1), 1) := by decide +kernel
theorem d3_remove_8 : decode c3_remove 8 = .ok (.ireturn, 1) := by decide +kernel
theorem d3_remove_9 : decode c3_remove 9 = .ok (.aload_n 0, 1) := by decide +kernel
theorem d3_remove_10 : decode c3_remove 10 = .ok (.iconst 0, 1) := by decide +kernel
theorem d3_remove_11 : decode c3_remove 11 = .ok (.iload_n 1, 1) := by decide +kernel
theorem d3_remove_12 : decode c3_remove 12 = .ok (.invokevirtual 51, 3) := by decide +kernel
theorem d3_remove_15 : decode c3_remove 15 = .ok (.istore_n 2, 1) := by decide +kernel
theorem d3_remove_16 : decode c3_remove 16 = .ok (.iload_n 2, 1) := by decide +kernel
theorem d3_remove_17 : decode c3_remove 17 = .ok (.ifCond .ge 6, 3) := by decide +kernel
theorem d3_remove_20 : decode c3_remove 20 = .ok (.bipush (-4), 2) := by decide +kernel
theorem d3_remove_22 : decode c3_remove 22 = .ok (.ireturn, 1) := by decide +kernel
theorem d3_remove_23 : decode c3_remove 23 = .ok (.aload_n 0, 1) := by decide +kernel
theorem d3_remove_24 : decode c3_remove 24 = .ok (.iconst 0, 1) := by decide +kernel
theorem d3_remove_25 : decode c3_remove 25 = .ok (.iconst 3, 1) := by decide +kernel
theorem d3_remove_26 : decode c3_remove 26 = .ok (.invokevirtual 74, 3) := by decide +kernel
theorem d3_remove_29 : decode c3_remove 29 = .ok (.bipush 93, 2) := by decide +kernel
theorem d3_remove_31 : decode c3_remove 31 = .ok (.iload_n 2, 1) := by decide +kernel
theorem d3_remove_32 : decode c3_remove 32 = .ok (.iadd, 1) := by decide +kernel
theorem d3_remove_33 : decode c3_remove 33 = .ok (.istore_n 3, 1) := by decide +kernel
theorem d3_remove_34 : decode c3_remove 34 = .ok (.iload_n 3, 1) := by decide +kernel
theorem d3_remove_35 : decode c3_remove 35 = .ok (.iconst 1, 1) := by decide +kernel
theorem d3_remove_36 : decode c3_remove 36 = .ok (.iadd, 1) := by decide +kernel
theorem d3_remove_37 : decode c3_remove 37 = .ok (.bipush 93, 2) := by decide +kernel
theorem d3_remove_39 : decode c3_remove 39 = .ok (.aload_n 0, 1) := by decide +kernel
theorem d3_remove_40 : decode c3_remove 40 = .ok (.getfield 7, 3) := by decide +kernel
theorem d3_remove_43 : decode c3_remove 43 = .ok (.iconst 3, 1) := by decide +kernel
theorem d3_remove_44 : decode c3_remove 44 = .ok (.iaload, 1) := by decide +kernel
theorem d3_remove_45 : decode c3_remove 45 = .ok (.iadd, 1) := by decide +kernel
theorem d3_remove_46 : decode c3_remove 46 = .ok (.if_icmp .ge 37, 3) := by decide +kernel
theorem d3_remove_49 : decode c3_remove 49 = .ok (.aload_n 0, 1) := by decide +kernel
theorem d3_remove_50 : decode c3_remove 50 = .ok (.getfield 13, 3) := by decide +kernel
theorem d3_remove_53 : decode c3_remove 53 = .ok (.iload_n 3, 1) := by decide +kernel
theorem d3_remove_54 : decode c3_remove 54 = .ok (.aload_n 0, 1) := by decide +kernel
theorem d3_remove_55 : decode c3_remove 55 = .ok (.getfield 13, 3) := by decide +kernel
theorem d3_remove_58 : decode c3_remove 58 = .ok (.iload_n 3, 1) := by decide +kernel
theorem d3_remove_59 : decode c3_remove 59 = .ok (.iconst 1, 1) := by decide +kernel
theorem d3_remove_60 : decode c3_remove 60 = .ok (.iadd, 1) := by decide +kernel
theorem d3_remove_61 : decode c3_remove 61 = .ok (.iaload, 1) := by decide +kernel
theorem d3_remove_62 : decode c3_remove 62 = .ok (.iastore, 1) := by decide +kernel
theorem d3_remove_63 : decode c3_remove 63 = .ok (.aload_n 0, 1) := by decide +kernel
theorem d3_remove_64 : decode c3_remove 64 = .ok (.getfield 16, 3) := by decide +kernel
theorem d3_remove_67 : decode c3_remove 67 = .ok (.iload_n 3, 1) := by decide +kernel
theorem d3_remove_68 : decode c3_remove 68 = .ok (.aload_n 0, 1) := by decide +kernel
theorem d3_remove_69 : decode c3_remove 69 = .ok (.getfield 16, 3) := by decide +kernel
theorem d3_remove_72 : decode c3_remove 72 = .ok (.iload_n 3, 1) := by decide +kernel
theorem d3_remove_73 : decode c3_remove 73 = .ok (.iconst 1, 1) := by decide +kernel
theorem d3_remove_74 : decode c3_remove 74 = .ok (.iadd, 1) := by decide +kernel
theorem d3_remove_75 : decode c3_remove 75 = .ok (.iaload, 1) := by decide +kernel
theorem d3_remove_76 : decode c3_remove 76 = .ok (.iastore, 1) := by decide +kernel
theorem d3_remove_77 : decode c3_remove 77 = .ok (.iinc 3 1, 3) := by decide +kernel
theorem d3_remove_80 : decode c3_remove 80 = .ok (.goto (-46), 3) := by decide +kernel
theorem d3_remove_83 : decode c3_remove 83 = .ok (.aload_n 0, 1) := by decide +kernel
theorem d3_remove_84 : decode c3_remove 84 = .ok (.getfield 7, 3) := by decide +kernel
theorem d3_remove_87 : decode c3_remove 87 = .ok (.iconst 3, 1) := by decide +kernel
theorem d3_remove_88 : decode c3_remove 88 = .ok (.dup2, 1) := by decide +kernel
theorem d3_remove_89 : decode c3_remove 89 = .ok (.iaload, 1) := by decide +kernel
theorem d3_remove_90 : decode c3_remove 90 = .ok (.iconst 1, 1) := by decide +kernel
theorem d3_remove_91 : decode c3_remove 91 = .ok (.isub, 1) := by decide +kernel
theorem d3_remove_92 : decode c3_remove 92 = .ok (.iastore, 1) := by decide +kernel
theorem d3_remove_93 : decode c3_remove 93 = .ok (.aload_n 0, 1) := by decide +kernel
theorem d3_remove_94 : decode c3_remove 94 = .ok (.invokevirtual 92, 3) := by decide +kernel
theorem d3_remove_97 : decode c3_remove 97 = .ok (.ireturn, 1) := by decide +kernel
theorem d3_value_0 : decode c3_value 0 = .ok (.aload_n 0, 1) := by decide +kernel
theorem d3_value_1 : decode c3_value 1 = .ok (.iload_n 1, 1) := by decide +kernel
theorem d3_value_2 : decode c3_value 2 = .ok (.iload_n 2, 1) := by decide +kernel
theorem d3_value_3 : decode c3_value 3 = .ok (.invokevirtual 51, 3) := by decide +kernel
theorem d3_value_6 : decode c3_value 6 = .ok (.istore_n 3, 1) := by decide +kernel
theorem d3_value_7 : decode c3_value 7 = .ok (.iload_n 3, 1) := by decide +kernel
theorem d3_value_8 : decode c3_value 8 = .ok (.ifCond .ge 8, 3) := by decide +kernel
theorem d3_value_11 : decode c3_value 11 = .ok (.bipush (-4), 2) := by decide +kernel
theorem d3_value_13 : decode c3_value 13 = .ok (.goto 9, 3) := by decide +kernel
theorem d3_value_16 : decode c3_value 16 = .ok (.aload_n 0, 1) := by decide +kernel
theorem d3_value_17 : decode c3_value 17 = .ok (.getfield 16, 3) := by decide +kernel
theorem d3_value_20 : decode c3_value 20 = .ok (.iload_n 3, 1) := by decide +kernel
theorem d3_value_21 : decode c3_value 21 = .ok (.iaload, 1) := by decide +kernel
theorem d3_value_22 : decode c3_value 22 = .ok (.ireturn, 1) := by decide +kernel
theorem d3_least_0 : decode c3_least 0 = .ok (.bipush 31, 2) := by decide +kernel
theorem d3_least_2 : decode c3_least 2 = .ok (.iload_n 1, 1) := by decide +kernel
theorem d3_least_3 : decode c3_least 3 = .ok (.imul, 1) := by decide +kernel
theorem d3_least_4 : decode c3_least 4 = .ok (.istore_n 3, 1) := by decide +kernel
theorem d3_least_5 : decode c3_least 5 = .ok (.iload_n 3, 1) := by decide +kernel
theorem d3_least_6 : decode c3_least 6 = .ok (.bipush 31, 2) := by decide +kernel
theorem d3_least_8 : decode c3_least 8 = .ok (.iload_n 1, 1) := by decide +kernel
theorem d3_least_9 : decode c3_least 9 = .ok (.imul, 1) := by decide +kernel
theorem d3_least_10 : decode c3_least 10 = .ok (.aload_n 0, 1) := by decide +kernel
theorem d3_least_11 : decode c3_least 11 = .ok (.getfield 7, 3) := by decide +kernel
theorem d3_least_14 : decode c3_least 14 = .ok (.iload_n 1, 1) := by decide +kernel
theorem d3_least_15 : decode c3_least 15 = .ok (.iaload, 1) := by decide +kernel
theorem d3_least_16 : decode c3_least 16 = .ok (.iadd, 1) := by decide +kernel
theorem d3_least_17 : decode c3_least 17 = .ok (.if_icmp .ge 26, 3) := by decide +kernel
theorem d3_least_20 : decode c3_least 20 = .ok (.aload_n 0, 1) := by decide +kernel
theorem d3_least_21 : decode c3_least 21 = .ok (.getfield 13, 3) := by decide +kernel
theorem d3_least_24 : decode c3_least 24 = .ok (.iload_n 3, 1) := by decide +kernel
theorem d3_least_25 : decode c3_least 25 = .ok (.iaload, 1) := by decide +kernel
theorem d3_least_26 : decode c3_least 26 = .ok (.iload_n 2, 1) := by decide +kernel
theorem d3_least_27 : decode c3_least 27 = .ok (.if_icmp .lt 10, 3) := by decide +kernel
theorem d3_least_30 : decode c3_least 30 = .ok (.aload_n 0, 1) := by decide +kernel
theorem d3_least_31 : decode c3_least 31 = .ok (.getfield 13, 3) := by decide +kernel
theorem d3_least_34 : decode c3_least 34 = .ok (.iload_n 3, 1) := by decide +kernel
theorem d3_least_35 : decode c3_least 35 = .ok (.iaload, 1) := by decide +kernel
theorem d3_least_36 : decode c3_least 36 = .ok (.ireturn, 1) := by decide +kernel
theorem d3_least_37 : decode c3_least 37 = .ok (.iinc 3 1, 3) := by decide +kernel
theorem d3_least_40 : decode c3_least 40 = .ok (.goto (-35), 3) := by decide +kernel
theorem d3_least_43 : decode c3_least 43 = .ok (.bipush (-4), 2) := by decide +kernel
theorem d3_least_45 : decode c3_least 45 = .ok (.ireturn, 1) := by decide +kernel
theorem d3_get_0 : decode c3_get 0 = .ok (.aload_n 0, 1) := by decide +kernel
theorem d3_get_1 : decode c3_get 1 = .ok (.getfield 88, 3) := by decide +kernel
theorem d3_get_4 : decode c3_get 4 = .ok (.ifCond .eq 7, 3) := by decide +kernel
theorem d3_get_7 : decode c3_get 7 = .ok (.iconst (-1), 1) := by decide +kernel
theorem d3_get_8 : decode c3_get 8 = .ok (.goto 9, 3) := by decide +kernel
theorem d3_get_11 : decode c3_get 11 = .ok (.aload_n 0, 1) := by decide +kernel
theorem d3_get_12 : decode c3_get 12 = .ok (.iconst 0, 1) := by decide +kernel
theorem d3_get_13 : decode c3_get 13 = .ok (.iload_n 1, 1) := by decide +kernel
theorem d3_get_14 : decode c3_get 14 = .ok (.invokevirtual 95, 3) := by decide +kernel
theorem d3_get_17 : decode c3_get 17 = .ok (.ireturn, 1) := by decide +kernel
theorem d3_next_0 : decode c3_next 0 = .ok (.aload_n 0, 1) := by decide +kernel
theorem d3_next_1 : decode c3_next 1 = .ok (.getfield 88, 3) := by decide +kernel
theorem d3_next_4 : decode c3_next 4 = .ok (.ifCond .eq 7, 3) := by decide +kernel
theorem d3_next_7 : decode c3_next 7 = .ok (.iconst (-1), 1) := by decide +kernel
theorem d3_next_8 : decode c3_next 8 = .ok (.goto 9, 3) := by decide +kernel
theorem d3_next_11 : decode c3_next 11 = .ok (.aload_n 0, 1) := by decide +kernel
theorem d3_next_12 : decode c3_next 12 = .ok (.iconst 0, 1) := by decide +kernel
theorem d3_next_13 : decode c3_next 13 = .ok (.iload_n 1, 1) := by decide +kernel
theorem d3_next_14 : decode c3_next 14 = .ok (.invokevirtual 98, 3) := by decide +kernel
theorem d3_next_17 : decode c3_next 17 = .ok (.ireturn, 1) := by decide +kernel
theorem d3_depth_0 : decode c3_depth 0 = .ok (.aload_n 0, 1) := by decide +kernel
theorem d3_depth_1 : decode c3_depth 1 = .ok (.getfield 88, 3) := by decide +kernel
theorem d3_depth_4 : decode c3_depth 4 = .ok (.ifCond .eq 5, 3) := by decide +kernel
theorem d3_depth_7 : decode c3_depth 7 = .ok (.iconst (-1), 1) := by decide +kernel
theorem d3_depth_8 : decode c3_depth 8 = .ok (.ireturn, 1) := by decide +kernel
theorem d3_depth_9 : decode c3_depth 9 = .ok (.aload_n 0, 1) := by decide +kernel
theorem d3_depth_10 : decode c3_depth 10 = .ok (.iconst 0, 1) := by decide +kernel
theorem d3_depth_11 : decode c3_depth 11 = .ok (.iload_n 1, 1) := by decide +kernel
theorem d3_depth_12 : decode c3_depth 12 = .ok (.invokevirtual 51, 3) := by decide +kernel
theorem d3_depth_15 : decode c3_depth 15 = .ok (.istore_n 2, 1) := by decide +kernel
theorem d3_depth_16 : decode c3_depth 16 = .ok (.iload_n 2, 1) := by decide +kernel
theorem d3_depth_17 : decode c3_depth 17 = .ok (.ifCond .ge 6, 3) := by decide +kernel
theorem d3_depth_20 : decode c3_depth 20 = .ok (.bipush (-4), 2) := by decide +kernel
theorem d3_depth_22 : decode c3_depth 22 = .ok (.ireturn, 1) := by decide +kernel
theorem d3_depth_23 : decode c3_depth 23 = .ok (.iconst 0, 1) := by decide +kernel
theorem d3_depth_24 : decode c3_depth 24 = .ok (.istore_n 3, 1) := by decide +kernel
theorem d3_depth_25 : decode c3_depth 25 = .ok (.iconst 0, 1) := by decide +kernel
theorem d3_depth_26 : decode c3_depth 26 = .ok (.istore 4, 2) := by decide +kernel
theorem d3_depth_28 : decode c3_depth 28 = .ok (.iload 4, 2) := by decide +kernel
theorem d3_depth_30 : decode c3_depth 30 = .ok (.aload_n 0, 1) := by decide +kernel
theorem d3_depth_31 : decode c3_depth 31 = .ok (.getfield 7, 3) := by decide +kernel
theorem d3_depth_34 : decode c3_depth 34 = .ok (.iconst 0, 1) := by decide +kernel
theorem d3_depth_35 : decode c3_depth 35 = .ok (.iaload, 1) := by decide +kernel
theorem d3_depth_36 : decode c3_depth 36 = .ok (.if_icmp .ge 45, 3) := by decide +kernel
theorem d3_depth_39 : decode c3_depth 39 = .ok (.iload_n 3, 1) := by decide +kernel
theorem d3_depth_40 : decode c3_depth 40 = .ok (.iload 4, 2) := by decide +kernel
theorem d3_depth_42 : decode c3_depth 42 = .ok (.iload_n 2, 1) := by decide +kernel
theorem d3_depth_43 : decode c3_depth 43 = .ok (.if_icmp .eq 29, 3) := by decide +kernel
theorem d3_depth_46 : decode c3_depth 46 = .ok (.aload_n 0, 1) := by decide +kernel
theorem d3_depth_47 : decode c3_depth 47 = .ok (.iconst 0, 1) := by decide +kernel
theorem d3_depth_48 : decode c3_depth 48 = .ok (.iload 4, 2) := by decide +kernel
theorem d3_depth_50 : decode c3_depth 50 = .ok (.invokevirtual 41, 3) := by decide +kernel
theorem d3_depth_53 : decode c3_depth 53 = .ok (.iload_n 2, 1) := by decide +kernel
theorem d3_depth_54 : decode c3_depth 54 = .ok (.if_icmp .gt 18, 3) := by decide +kernel
theorem d3_depth_57 : decode c3_depth 57 = .ok (.aload_n 0, 1) := by decide +kernel
theorem d3_depth_58 : decode c3_depth 58 = .ok (.iconst 0, 1) := by decide +kernel
theorem d3_depth_59 : decode c3_depth 59 = .ok (.iload 4, 2) := by decide +kernel
theorem d3_depth_61 : decode c3_depth 61 = .ok (.invokevirtual 45, 3) := by decide +kernel
theorem d3_depth_64 : decode c3_depth 64 = .ok (.iload_n 2, 1) := by decide +kernel
theorem d3_depth_65 : decode c3_depth 65 = .ok (.if_icmp .lt 7, 3) := by decide +kernel
theorem d3_depth_68 : decode c3_depth 68 = .ok (.iconst 1, 1) := by decide +kernel
theorem d3_depth_69 : decode c3_depth 69 = .ok (.goto 4, 3) := by decide +kernel
theorem d3_depth_72 : decode c3_depth 72 = .ok (.iconst 0, 1) := by decide +kernel
theorem d3_depth_73 : decode c3_depth 73 = .ok (.iadd, 1) := by decide +kernel
theorem d3_depth_74 : decode c3_depth 74 = .ok (.istore_n 3, 1) := by decide +kernel
theorem d3_depth_75 : decode c3_depth 75 = .ok (.iinc 4 1, 3) := by decide +kernel
theorem d3_depth_78 : decode c3_depth 78 = .ok (.goto (-50), 3) := by decide +kernel
theorem d3_depth_81 : decode c3_depth 81 = .ok (.iload_n 3, 1) := by decide +kernel
theorem d3_depth_82 : decode c3_depth 82 = .ok (.ireturn, 1) := by decide +kernel
theorem d3_size_0 : decode c3_size 0 = .ok (.aload_n 0, 1) := by decide +kernel
theorem d3_size_1 : decode c3_size 1 = .ok (.getfield 88, 3) := by decide +kernel
theorem d3_size_4 : decode c3_size 4 = .ok (.ifCond .eq 7, 3) := by decide +kernel
theorem d3_size_7 : decode c3_size 7 = .ok (.iconst (-1), 1) := by decide +kernel
theorem d3_size_8 : decode c3_size 8 = .ok (.goto 9, 3) := by decide +kernel
theorem d3_size_11 : decode c3_size 11 = .ok (.aload_n 0, 1) := by decide +kernel
theorem d3_size_12 : decode c3_size 12 = .ok (.getfield 7, 3) := by decide +kernel
theorem d3_size_15 : decode c3_size 15 = .ok (.iconst 0, 1) := by decide +kernel
theorem d3_size_16 : decode c3_size 16 = .ok (.iaload, 1) := by decide +kernel
theorem d3_size_17 : decode c3_size 17 = .ok (.ireturn, 1) := by decide +kernel
theorem d3_nodes_0 : decode c3_nodes 0 = .ok (.aload_n 0, 1) := by decide +kernel
theorem d3_nodes_1 : decode c3_nodes 1 = .ok (.getfield 88, 3) := by decide +kernel
theorem d3_nodes_4 : decode c3_nodes 4 = .ok (.ifCond .eq 7, 3) := by decide +kernel
theorem d3_nodes_7 : decode c3_nodes 7 = .ok (.iconst (-1), 1) := by decide +kernel
theorem d3_nodes_8 : decode c3_nodes 8 = .ok (.goto 7, 3) := by decide +kernel
theorem d3_nodes_11 : decode c3_nodes 11 = .ok (.aload_n 0, 1) := by decide +kernel
theorem d3_nodes_12 : decode c3_nodes 12 = .ok (.invokevirtual 65, 3) := by decide +kernel
theorem d3_nodes_15 : decode c3_nodes 15 = .ok (.ireturn, 1) := by decide +kernel
theorem d3_isSlot_0 : decode c3_isSlot 0 = .ok (.iload_n 0, 1) := by decide +kernel
theorem d3_isSlot_1 : decode c3_isSlot 1 = .ok (.ifCond .eq 8, 3) := by decide +kernel
theorem d3_isSlot_4 : decode c3_isSlot 4 = .ok (.iload_n 0, 1) := by decide +kernel
theorem d3_isSlot_5 : decode c3_isSlot 5 = .ok (.iconst 1, 1) := by decide +kernel
theorem d3_isSlot_6 : decode c3_isSlot 6 = .ok (.if_icmp .ne 7, 3) := by decide +kernel
theorem d3_isSlot_9 : decode c3_isSlot 9 = .ok (.iconst 1, 1) := by decide +kernel
theorem d3_isSlot_10 : decode c3_isSlot 10 = .ok (.goto 4, 3) := by decide +kernel
theorem d3_isSlot_13 : decode c3_isSlot 13 = .ok (.iconst 0, 1) := by decide +kernel
theorem d3_isSlot_14 : decode c3_isSlot 14 = .ok (.ireturn, 1) := by decide +kernel
theorem d3_hold_0 : decode c3_hold 0 = .ok (.aload_n 0, 1) := by decide +kernel
theorem d3_hold_1 : decode c3_hold 1 = .ok (.getfield 88, 3) := by decide +kernel
theorem d3_hold_4 : decode c3_hold 4 = .ok (.ifCond .ne 21, 3) := by decide +kernel
theorem d3_hold_7 : decode c3_hold 7 = .ok (.iload_n 1, 1) := by decide +kernel
theorem d3_hold_8 : decode c3_hold 8 = .ok (.invokestatic 101, 3) := by decide +kernel
theorem d3_hold_11 : decode c3_hold 11 = .ok (.ifCond .eq 14, 3) := by decide +kernel
theorem d3_hold_14 : decode c3_hold 14 = .ok (.aload_n 0, 1) := by decide +kernel
theorem d3_hold_15 : decode c3_hold 15 = .ok (.getfield 22, 3) := by decide +kernel
theorem d3_hold_18 : decode c3_hold 18 = .ok (.iload_n 1, 1) := by decide +kernel
theorem d3_hold_19 : decode c3_hold 19 = .ok (.iconst 1, 1) := by decide +kernel
theorem d3_hold_20 : decode c3_hold 20 = .ok (.iadd, 1) := by decide +kernel
theorem d3_hold_21 : decode c3_hold 21 = .ok (.baload, 1) := by decide +kernel
theorem d3_hold_22 : decode c3_hold 22 = .ok (.ifCond .eq 5, 3) := by decide +kernel
theorem d3_hold_25 : decode c3_hold 25 = .ok (.iconst 0, 1) := by decide +kernel
theorem d3_hold_26 : decode c3_hold 26 = .ok (.ireturn, 1) := by decide +kernel
theorem d3_hold_27 : decode c3_hold 27 = .ok (.aload_n 0, 1) := by decide +kernel
theorem d3_hold_28 : decode c3_hold 28 = .ok (.getfield 22, 3) := by decide +kernel
theorem d3_hold_31 : decode c3_hold 31 = .ok (.iload_n 1, 1) := by decide +kernel
theorem d3_hold_32 : decode c3_hold 32 = .ok (.iconst 1, 1) := by decide +kernel
theorem d3_hold_33 : decode c3_hold 33 = .ok (.iadd, 1) := by decide +kernel
theorem d3_hold_34 : decode c3_hold 34 = .ok (.iconst 1, 1) := by decide +kernel
theorem d3_hold_35 : decode c3_hold 35 = .ok (.bastore, 1) := by decide +kernel
theorem d3_hold_36 : decode c3_hold 36 = .ok (.aload_n 0, 1) := by decide +kernel
theorem d3_hold_37 : decode c3_hold 37 = .ok (.iconst 0, 1) := by decide +kernel
theorem d3_hold_38 : decode c3_hold 38 = .ok (.iload_n 1, 1) := by decide +kernel
theorem d3_hold_39 : decode c3_hold 39 = .ok (.iconst 1, 1) := by decide +kernel
theorem d3_hold_40 : decode c3_hold 40 = .ok (.iadd, 1) := by decide +kernel
theorem d3_hold_41 : decode c3_hold 41 = .ok (.invokevirtual 74, 3) := by decide +kernel
theorem d3_hold_44 : decode c3_hold 44 = .ok (.iconst 1, 1) := by decide +kernel
theorem d3_hold_45 : decode c3_hold 45 = .ok (.ireturn, 1) := by decide +kernel
theorem d3_release_0 : decode c3_release 0 = .ok (.aload_n 0, 1) := by decide +kernel
theorem d3_release_1 : decode c3_release 1 = .ok (.getfield 88, 3) := by decide +kernel
theorem d3_release_4 : decode c3_release 4 = .ok (.ifCond .ne 21, 3) := by decide +kernel
theorem d3_release_7 : decode c3_release 7 = .ok (.iload_n 1, 1) := by decide +kernel
theorem d3_release_8 : decode c3_release 8 = .ok (.invokestatic 101, 3) := by decide +kernel
theorem d3_release_11 : decode c3_release 11 = .ok (.ifCond .eq 14, 3) := by decide +kernel
theorem d3_release_14 : decode c3_release 14 = .ok (.aload_n 0, 1) := by decide +kernel
theorem d3_release_15 : decode c3_release 15 = .ok (.getfield 22, 3) := by decide +kernel
theorem d3_release_18 : decode c3_release 18 = .ok (.iload_n 1, 1) := by decide +kernel
theorem d3_release_19 : decode c3_release 19 = .ok (.iconst 1, 1) := by decide +kernel
theorem d3_release_20 : decode c3_release 20 = .ok (.iadd, 1) := by decide +kernel
theorem d3_release_21 : decode c3_release 21 = .ok (.baload, 1) := by decide +kernel
theorem d3_release_22 : decode c3_release 22 = .ok (.ifCond .ne 5, 3) := by decide +kernel
theorem d3_release_25 : decode c3_release 25 = .ok (.iconst 0, 1) := by decide +kernel
theorem d3_release_26 : decode c3_release 26 = .ok (.ireturn, 1) := by decide +kernel
theorem d3_release_27 : decode c3_release 27 = .ok (.aload_n 0, 1) := by decide +kernel
theorem d3_release_28 : decode c3_release 28 = .ok (.getfield 22, 3) := by decide +kernel
theorem d3_release_31 : decode c3_release 31 = .ok (.iload_n 1, 1) := by decide +kernel
theorem d3_release_32 : decode c3_release 32 = .ok (.iconst 1, 1) := by decide +kernel
theorem d3_release_33 : decode c3_release 33 = .ok (.iadd, 1) := by decide +kernel
theorem d3_release_34 : decode c3_release 34 = .ok (.iconst 0, 1) := by decide +kernel
theorem d3_release_35 : decode c3_release 35 = .ok (.bastore, 1) := by decide +kernel
theorem d3_release_36 : decode c3_release 36 = .ok (.iconst 1, 1) := by decide +kernel
theorem d3_release_37 : decode c3_release 37 = .ok (.ireturn, 1) := by decide +kernel
theorem d3_heldGet_0 : decode c3_heldGet 0 = .ok (.aload_n 0, 1) := by decide +kernel
theorem d3_heldGet_1 : decode c3_heldGet 1 = .ok (.getfield 88, 3) := by decide +kernel
theorem d3_heldGet_4 : decode c3_heldGet 4 = .ok (.ifCond .eq 5, 3) := by decide +kernel
theorem d3_heldGet_7 : decode c3_heldGet 7 = .ok (.iconst (-1), 1) := by decide +kernel
theorem d3_heldGet_8 : decode c3_heldGet 8 = .ok (.ireturn, 1) := by decide +kernel
theorem d3_heldGet_9 : decode c3_heldGet 9 = .ok (.iload_n 1, 1) := by decide +kernel
theorem d3_heldGet_10 : decode c3_heldGet 10 = .ok (.invokestatic 101, 3) := by decide +kernel
theorem d3_heldGet_13 : decode c3_heldGet 13 = .ok (.ifCond .eq 25, 3) := by decide +kernel
theorem d3_heldGet_16 : decode c3_heldGet 16 = .ok (.aload_n 0, 1) := by decide +kernel
theorem d3_heldGet_17 : decode c3_heldGet 17 = .ok (.getfield 22, 3) := by decide +kernel
theorem d3_heldGet_20 : decode c3_heldGet 20 = .ok (.iload_n 1, 1) := by decide +kernel
theorem d3_heldGet_21 : decode c3_heldGet 21 = .ok (.iconst 1, 1) := by decide +kernel
theorem d3_heldGet_22 : decode c3_heldGet 22 = .ok (.iadd, 1) := by decide +kernel
theorem d3_heldGet_23 : decode c3_heldGet 23 = .ok (.baload, 1) := by decide +kernel
theorem d3_heldGet_24 : decode c3_heldGet 24 = .ok (.ifCond .eq 14, 3) := by decide +kernel
theorem d3_heldGet_27 : decode c3_heldGet 27 = .ok (.aload_n 0, 1) := by decide +kernel
theorem d3_heldGet_28 : decode c3_heldGet 28 = .ok (.iload_n 1, 1) := by decide +kernel
theorem d3_heldGet_29 : decode c3_heldGet 29 = .ok (.iconst 1, 1) := by decide +kernel
theorem d3_heldGet_30 : decode c3_heldGet 30 = .ok (.iadd, 1) := by decide +kernel
theorem d3_heldGet_31 : decode c3_heldGet 31 = .ok (.iload_n 2, 1) := by decide +kernel
theorem d3_heldGet_32 : decode c3_heldGet 32 = .ok (.invokevirtual 95, 3) := by decide +kernel
theorem d3_heldGet_35 : decode c3_heldGet 35 = .ok (.goto 5, 3) := by decide +kernel
theorem d3_heldGet_38 : decode c3_heldGet 38 = .ok (.bipush (-3), 2) := by decide +kernel
theorem d3_heldGet_40 : decode c3_heldGet 40 = .ok (.ireturn, 1) := by decide +kernel
theorem d3_heldNext_0 : decode c3_heldNext 0 = .ok (.aload_n 0, 1) := by decide +kernel
theorem d3_heldNext_1 : decode c3_heldNext 1 = .ok (.getfield 88, 3) := by decide +kernel
theorem d3_heldNext_4 : decode c3_heldNext 4 = .ok (.ifCond .eq 5, 3) := by decide +kernel
theorem d3_heldNext_7 : decode c3_heldNext 7 = .ok (.iconst (-1), 1) := by decide +kernel
theorem d3_heldNext_8 : decode c3_heldNext 8 = .ok (.ireturn, 1) := by decide +kernel
theorem d3_heldNext_9 : decode c3_heldNext 9 = .ok (.iload_n 1, 1) := by decide +kernel
theorem d3_heldNext_10 : decode c3_heldNext 10 = .ok (.invokestatic 101, 3) := by decide +kernel
theorem d3_heldNext_13 : decode c3_heldNext 13 = .ok (.ifCond .eq 25, 3) := by decide +kernel
theorem d3_heldNext_16 : decode c3_heldNext 16 = .ok (.aload_n 0, 1) := by decide +kernel
theorem d3_heldNext_17 : decode c3_heldNext 17 = .ok (.getfield 22, 3) := by decide +kernel
theorem d3_heldNext_20 : decode c3_heldNext 20 = .ok (.iload_n 1, 1) := by decide +kernel
theorem d3_heldNext_21 : decode c3_heldNext 21 = .ok (.iconst 1, 1) := by decide +kernel
theorem d3_heldNext_22 : decode c3_heldNext 22 = .ok (.iadd, 1) := by decide +kernel
theorem d3_heldNext_23 : decode c3_heldNext 23 = .ok (.baload, 1) := by decide +kernel
theorem d3_heldNext_24 : decode c3_heldNext 24 = .ok (.ifCond .eq 14, 3) := by decide +kernel
theorem d3_heldNext_27 : decode c3_heldNext 27 = .ok (.aload_n 0, 1) := by decide +kernel
theorem d3_heldNext_28 : decode c3_heldNext 28 = .ok (.iload_n 1, 1) := by decide +kernel
theorem d3_heldNext_29 : decode c3_heldNext 29 = .ok (.iconst 1, 1) := by decide +kernel
theorem d3_heldNext_30 : decode c3_heldNext 30 = .ok (.iadd, 1) := by decide +kernel
theorem d3_heldNext_31 : decode c3_heldNext 31 = .ok (.iload_n 2, 1) := by decide +kernel
theorem d3_heldNext_32 : decode c3_heldNext 32 = .ok (.invokevirtual 98, 3) := by decide +kernel
theorem d3_heldNext_35 : decode c3_heldNext 35 = .ok (.goto 5, 3) := by decide +kernel
theorem d3_heldNext_38 : decode c3_heldNext 38 = .ok (.bipush (-3), 2) := by decide +kernel
theorem d3_heldNext_40 : decode c3_heldNext 40 = .ok (.ireturn, 1) := by decide +kernel
theorem d3_crash_0 : decode c3_crash 0 = .ok (.aload_n 0, 1) := by decide +kernel
theorem d3_crash_1 : decode c3_crash 1 = .ok (.getfield 88, 3) := by decide +kernel
theorem d3_crash_4 : decode c3_crash 4 = .ok (.ifCond .eq 5, 3) := by decide +kernel
theorem d3_crash_7 : decode c3_crash 7 = .ok (.iconst 0, 1) := by decide +kernel
theorem d3_crash_8 : decode c3_crash 8 = .ok (.ireturn, 1) := by decide +kernel
theorem d3_crash_9 : decode c3_crash 9 = .ok (.aload_n 0, 1) := by decide +kernel
theorem d3_crash_10 : decode c3_crash 10 = .ok (.iconst 1, 1) := by decide +kernel
theorem d3_crash_11 : decode c3_crash 11 = .ok (.putfield 88, 3) := by decide +kernel
theorem d3_crash_14 : decode c3_crash 14 = .ok (.iconst 1, 1) := by decide +kernel
theorem d3_crash_15 : decode c3_crash 15 = .ok (.ireturn, 1) := by decide +kernel
theorem d3_restart_0 : decode c3_restart 0 = .ok (.aload_n 0, 1) := by decide +kernel
theorem d3_restart_1 : decode c3_restart 1 = .ok (.getfield 88, 3) := by decide +kernel
theorem d3_restart_4 : decode c3_restart 4 = .ok (.ifCond .ne 6, 3) := by decide +kernel
theorem d3_restart_7 : decode c3_restart 7 = .ok (.bipush (-3), 2) := by decide +kernel
theorem d3_restart_9 : decode c3_restart 9 = .ok (.ireturn, 1) := by decide +kernel
theorem d3_restart_10 : decode c3_restart 10 = .ok (.aload_n 0, 1) := by decide +kernel
theorem d3_restart_11 : decode c3_restart 11 = .ok (.getfield 85, 3) := by decide +kernel
theorem d3_restart_14 : decode c3_restart 14 = .ok (.ifCond .eq 27, 3) := by decide +kernel
theorem d3_restart_17 : decode c3_restart 17 = .ok (.aload_n 0, 1) := by decide +kernel
theorem d3_restart_18 : decode c3_restart 18 = .ok (.getfield 82, 3) := by decide +kernel
theorem d3_restart_21 : decode c3_restart 21 = .ok (.ifCond .ne 14, 3) := by decide +kernel
theorem d3_restart_24 : decode c3_restart 24 = .ok (.aload_n 0, 1) := by decide +kernel
theorem d3_restart_25 : decode c3_restart 25 = .ok (.getfield 78, 3) := by decide +kernel
theorem d3_restart_28 : decode c3_restart 28 = .ok (.ifCond .eq 13, 3) := by decide +kernel
theorem d3_restart_31 : decode c3_restart 31 = .ok (.iload_n 1, 1) := by decide +kernel
theorem d3_restart_32 : decode c3_restart 32 = .ok (.ifCond .eq 9, 3) := by decide +kernel
theorem d3_restart_35 : decode c3_restart 35 = .ok (.aload_n 0, 1) := by decide +kernel
theorem d3_restart_36 : decode c3_restart 36 = .ok (.iconst 3, 1) := by decide +kernel
theorem d3_restart_37 : decode c3_restart 37 = .ok (.iconst 0, 1) := by decide +kernel
theorem d3_restart_38 : decode c3_restart 38 = .ok (.invokevirtual 74, 3) := by decide +kernel
theorem d3_restart_41 : decode c3_restart 41 = .ok (.aload_n 0, 1) := by decide +kernel
theorem d3_restart_42 : decode c3_restart 42 = .ok (.iconst 0, 1) := by decide +kernel
theorem d3_restart_43 : decode c3_restart 43 = .ok (.putfield 85, 3) := by decide +kernel
theorem d3_restart_46 : decode c3_restart 46 = .ok (.aload_n 0, 1) := by decide +kernel
theorem d3_restart_47 : decode c3_restart 47 = .ok (.iconst 0, 1) := by decide +kernel
theorem d3_restart_48 : decode c3_restart 48 = .ok (.putfield 88, 3) := by decide +kernel
theorem d3_restart_51 : decode c3_restart 51 = .ok (.aload_n 0, 1) := by decide +kernel
theorem d3_restart_52 : decode c3_restart 52 = .ok (.getfield 22, 3) := by decide +kernel
theorem d3_restart_55 : decode c3_restart 55 = .ok (.iconst 1, 1) := by decide +kernel
theorem d3_restart_56 : decode c3_restart 56 = .ok (.iconst 0, 1) := by decide +kernel
theorem d3_restart_57 : decode c3_restart 57 = .ok (.bastore, 1) := by decide +kernel
theorem d3_restart_58 : decode c3_restart 58 = .ok (.aload_n 0, 1) := by decide +kernel
theorem d3_restart_59 : decode c3_restart 59 = .ok (.getfield 22, 3) := by decide +kernel
theorem d3_restart_62 : decode c3_restart 62 = .ok (.iconst 2, 1) := by decide +kernel
theorem d3_restart_63 : decode c3_restart 63 = .ok (.iconst 0, 1) := by decide +kernel
theorem d3_restart_64 : decode c3_restart 64 = .ok (.bastore, 1) := by decide +kernel
theorem d3_restart_65 : decode c3_restart 65 = .ok (.aload_n 0, 1) := by decide +kernel
theorem d3_restart_66 : decode c3_restart 66 = .ok (.getfield 7, 3) := by decide +kernel
theorem d3_restart_69 : decode c3_restart 69 = .ok (.iconst 0, 1) := by decide +kernel
theorem d3_restart_70 : decode c3_restart 70 = .ok (.iaload, 1) := by decide +kernel
theorem d3_restart_71 : decode c3_restart 71 = .ok (.ireturn, 1) := by decide +kernel
theorem d3_events_0 : decode c3_events 0 = .ok (.aload_n 0, 1) := by decide +kernel
theorem d3_events_1 : decode c3_events 1 = .ok (.getfield 68, 3) := by decide +kernel
theorem d3_events_4 : decode c3_events 4 = .ok (.ireturn, 1) := by decide +kernel
theorem d3_fences_0 : decode c3_fences 0 = .ok (.aload_n 0, 1) := by decide +kernel
theorem d3_fences_1 : decode c3_fences 1 = .ok (.getfield 71, 3) := by decide +kernel
theorem d3_fences_4 : decode c3_fences 4 = .ok (.ireturn, 1) := by decide +kernel
