/-! decode rows -/
theorem d_MD_craftClocks_0 : decode b_MD_craftClocks 0 = .ok (.aload_n 0, 1) := by decide +kernel
theorem d_MD_craftClocks_1 : decode b_MD_craftClocks 1 = .ok (.getfield 88, 3) := by decide +kernel
theorem d_MD_craftClocks_4 : decode b_MD_craftClocks 4 = .ok (.iload_n 1, 1) := by decide +kernel
theorem d_MD_craftClocks_5 : decode b_MD_craftClocks 5 = .ok (.iaload, 1) := by decide +kernel
theorem d_MD_craftClocks_6 : decode b_MD_craftClocks 6 = .ok (.iconst 1, 1) := by decide +kernel
theorem d_MD_craftClocks_7 : decode b_MD_craftClocks 7 = .ok (.if_icmp .ne 35, 3) := by decide +kernel
theorem d_MD_craftClocks_10 : decode b_MD_craftClocks 10 = .ok (.aload_n 0, 1) := by decide +kernel
theorem d_MD_craftClocks_11 : decode b_MD_craftClocks 11 = .ok (.getfield 118, 3) := by decide +kernel
theorem d_MD_craftClocks_14 : decode b_MD_craftClocks 14 = .ok (.iload_n 1, 1) := by decide +kernel
theorem d_MD_craftClocks_15 : decode b_MD_craftClocks 15 = .ok (.dup2, 1) := by decide +kernel
theorem d_MD_craftClocks_16 : decode b_MD_craftClocks 16 = .ok (.iaload, 1) := by decide +kernel
theorem d_MD_craftClocks_17 : decode b_MD_craftClocks 17 = .ok (.iconst 1, 1) := by decide +kernel
theorem d_MD_craftClocks_18 : decode b_MD_craftClocks 18 = .ok (.isub, 1) := by decide +kernel
theorem d_MD_craftClocks_19 : decode b_MD_craftClocks 19 = .ok (.iastore, 1) := by decide +kernel
theorem d_MD_craftClocks_20 : decode b_MD_craftClocks 20 = .ok (.aload_n 0, 1) := by decide +kernel
theorem d_MD_craftClocks_21 : decode b_MD_craftClocks 21 = .ok (.getfield 118, 3) := by decide +kernel
theorem d_MD_craftClocks_24 : decode b_MD_craftClocks 24 = .ok (.iload_n 1, 1) := by decide +kernel
theorem d_MD_craftClocks_25 : decode b_MD_craftClocks 25 = .ok (.iaload, 1) := by decide +kernel
theorem d_MD_craftClocks_26 : decode b_MD_craftClocks 26 = .ok (.ifCond .ne 16, 3) := by decide +kernel
theorem d_MD_craftClocks_29 : decode b_MD_craftClocks 29 = .ok (.aload_n 0, 1) := by decide +kernel
theorem d_MD_craftClocks_30 : decode b_MD_craftClocks 30 = .ok (.getfield 91, 3) := by decide +kernel
theorem d_MD_craftClocks_33 : decode b_MD_craftClocks 33 = .ok (.iload_n 1, 1) := by decide +kernel
theorem d_MD_craftClocks_34 : decode b_MD_craftClocks 34 = .ok (.iconst 4, 1) := by decide +kernel
theorem d_MD_craftClocks_35 : decode b_MD_craftClocks 35 = .ok (.iastore, 1) := by decide +kernel
theorem d_MD_craftClocks_36 : decode b_MD_craftClocks 36 = .ok (.aload_n 0, 1) := by decide +kernel
theorem d_MD_craftClocks_37 : decode b_MD_craftClocks 37 = .ok (.iload_n 1, 1) := by decide +kernel
theorem d_MD_craftClocks_38 : decode b_MD_craftClocks 38 = .ok (.invokevirtual 260, 3) := by decide +kernel
theorem d_MD_craftClocks_41 : decode b_MD_craftClocks 41 = .ok (.return_, 1) := by decide +kernel
theorem d_MD_craftClocks_42 : decode b_MD_craftClocks 42 = .ok (.aload_n 0, 1) := by decide +kernel
theorem d_MD_craftClocks_43 : decode b_MD_craftClocks 43 = .ok (.getfield 88, 3) := by decide +kernel
theorem d_MD_craftClocks_46 : decode b_MD_craftClocks 46 = .ok (.iload_n 1, 1) := by decide +kernel
theorem d_MD_craftClocks_47 : decode b_MD_craftClocks 47 = .ok (.iaload, 1) := by decide +kernel
theorem d_MD_craftClocks_48 : decode b_MD_craftClocks 48 = .ok (.iconst 2, 1) := by decide +kernel
theorem d_MD_craftClocks_49 : decode b_MD_craftClocks 49 = .ok (.if_icmp .eq 27, 3) := by decide +kernel
theorem d_MD_craftClocks_52 : decode b_MD_craftClocks 52 = .ok (.aload_n 0, 1) := by decide +kernel
theorem d_MD_craftClocks_53 : decode b_MD_craftClocks 53 = .ok (.getfield 88, 3) := by decide +kernel
theorem d_MD_craftClocks_56 : decode b_MD_craftClocks 56 = .ok (.iload_n 1, 1) := by decide +kernel
theorem d_MD_craftClocks_57 : decode b_MD_craftClocks 57 = .ok (.iaload, 1) := by decide +kernel
theorem d_MD_craftClocks_58 : decode b_MD_craftClocks 58 = .ok (.iconst 1, 1) := by decide +kernel
theorem d_MD_craftClocks_59 : decode b_MD_craftClocks 59 = .ok (.if_icmp .ne 21, 3) := by decide +kernel
theorem d_MD_craftClocks_62 : decode b_MD_craftClocks 62 = .ok (.aload_n 0, 1) := by decide +kernel
theorem d_MD_craftClocks_63 : decode b_MD_craftClocks 63 = .ok (.getfield 94, 3) := by decide +kernel
theorem d_MD_craftClocks_66 : decode b_MD_craftClocks 66 = .ok (.iload_n 1, 1) := by decide +kernel
theorem d_MD_craftClocks_67 : decode b_MD_craftClocks 67 = .ok (.iaload, 1) := by decide +kernel
theorem d_MD_craftClocks_68 : decode b_MD_craftClocks 68 = .ok (.bipush 17, 2) := by decide +kernel
theorem d_MD_craftClocks_70 : decode b_MD_craftClocks 70 = .ok (.ishr, 1) := by decide +kernel
theorem d_MD_craftClocks_71 : decode b_MD_craftClocks 71 = .ok (.iconst 1, 1) := by decide +kernel
theorem d_MD_craftClocks_72 : decode b_MD_craftClocks 72 = .ok (.iand, 1) := by decide +kernel
theorem d_MD_craftClocks_73 : decode b_MD_craftClocks 73 = .ok (.ifCond .eq 7, 3) := by decide +kernel
theorem d_MD_craftClocks_76 : decode b_MD_craftClocks 76 = .ok (.iconst 1, 1) := by decide +kernel
theorem d_MD_craftClocks_77 : decode b_MD_craftClocks 77 = .ok (.goto 4, 3) := by decide +kernel
theorem d_MD_craftClocks_80 : decode b_MD_craftClocks 80 = .ok (.iconst 0, 1) := by decide +kernel
theorem d_MD_craftClocks_81 : decode b_MD_craftClocks 81 = .ok (.istore_n 2, 1) := by decide +kernel
theorem d_MD_craftClocks_82 : decode b_MD_craftClocks 82 = .ok (.iload_n 2, 1) := by decide +kernel
theorem d_MD_craftClocks_83 : decode b_MD_craftClocks 83 = .ok (.ifCond .ne 4, 3) := by decide +kernel
theorem d_MD_craftClocks_86 : decode b_MD_craftClocks 86 = .ok (.return_, 1) := by decide +kernel
theorem d_MD_craftClocks_87 : decode b_MD_craftClocks 87 = .ok (.aload_n 0, 1) := by decide +kernel
theorem d_MD_craftClocks_88 : decode b_MD_craftClocks 88 = .ok (.getfield 115, 3) := by decide +kernel
theorem d_MD_craftClocks_91 : decode b_MD_craftClocks 91 = .ok (.iload_n 1, 1) := by decide +kernel
theorem d_MD_craftClocks_92 : decode b_MD_craftClocks 92 = .ok (.dup2, 1) := by decide +kernel
theorem d_MD_craftClocks_93 : decode b_MD_craftClocks 93 = .ok (.iaload, 1) := by decide +kernel
theorem d_MD_craftClocks_94 : decode b_MD_craftClocks 94 = .ok (.iconst 1, 1) := by decide +kernel
theorem d_MD_craftClocks_95 : decode b_MD_craftClocks 95 = .ok (.isub, 1) := by decide +kernel
theorem d_MD_craftClocks_96 : decode b_MD_craftClocks 96 = .ok (.iastore, 1) := by decide +kernel
theorem d_MD_craftClocks_97 : decode b_MD_craftClocks 97 = .ok (.aload_n 0, 1) := by decide +kernel
theorem d_MD_craftClocks_98 : decode b_MD_craftClocks 98 = .ok (.getfield 115, 3) := by decide +kernel
theorem d_MD_craftClocks_101 : decode b_MD_craftClocks 101 = .ok (.iload_n 1, 1) := by decide +kernel
theorem d_MD_craftClocks_102 : decode b_MD_craftClocks 102 = .ok (.iaload, 1) := by decide +kernel
theorem d_MD_craftClocks_103 : decode b_MD_craftClocks 103 = .ok (.ifCond .le 4, 3) := by decide +kernel
theorem d_MD_craftClocks_106 : decode b_MD_craftClocks 106 = .ok (.return_, 1) := by decide +kernel
theorem d_MD_craftClocks_107 : decode b_MD_craftClocks 107 = .ok (.aload_n 0, 1) := by decide +kernel
theorem d_MD_craftClocks_108 : decode b_MD_craftClocks 108 = .ok (.getfield 112, 3) := by decide +kernel
theorem d_MD_craftClocks_111 : decode b_MD_craftClocks 111 = .ok (.iload_n 1, 1) := by decide +kernel
theorem d_MD_craftClocks_112 : decode b_MD_craftClocks 112 = .ok (.iaload, 1) := by decide +kernel
theorem d_MD_craftClocks_113 : decode b_MD_craftClocks 113 = .ok (.iconst 4, 1) := by decide +kernel
theorem d_MD_craftClocks_114 : decode b_MD_craftClocks 114 = .ok (.if_icmp .ne 28, 3) := by decide +kernel
theorem d_MD_craftClocks_117 : decode b_MD_craftClocks 117 = .ok (.aload_n 0, 1) := by decide +kernel
theorem d_MD_craftClocks_118 : decode b_MD_craftClocks 118 = .ok (.getfield 88, 3) := by decide +kernel
theorem d_MD_craftClocks_121 : decode b_MD_craftClocks 121 = .ok (.iload_n 1, 1) := by decide +kernel
theorem d_MD_craftClocks_122 : decode b_MD_craftClocks 122 = .ok (.iaload, 1) := by decide +kernel
theorem d_MD_craftClocks_123 : decode b_MD_craftClocks 123 = .ok (.iconst 1, 1) := by decide +kernel
theorem d_MD_craftClocks_124 : decode b_MD_craftClocks 124 = .ok (.if_icmp .ne 12, 3) := by decide +kernel
theorem d_MD_craftClocks_127 : decode b_MD_craftClocks 127 = .ok (.aload_n 0, 1) := by decide +kernel
theorem d_MD_craftClocks_128 : decode b_MD_craftClocks 128 = .ok (.iload_n 1, 1) := by decide +kernel
theorem d_MD_craftClocks_129 : decode b_MD_craftClocks 129 = .ok (.iconst 3, 1) := by decide +kernel
theorem d_MD_craftClocks_130 : decode b_MD_craftClocks 130 = .ok (.invokevirtual 249, 3) := by decide +kernel
theorem d_MD_craftClocks_133 : decode b_MD_craftClocks 133 = .ok (.goto 8, 3) := by decide +kernel
theorem d_MD_craftClocks_136 : decode b_MD_craftClocks 136 = .ok (.aload_n 0, 1) := by decide +kernel
theorem d_MD_craftClocks_137 : decode b_MD_craftClocks 137 = .ok (.iload_n 1, 1) := by decide +kernel
theorem d_MD_craftClocks_138 : decode b_MD_craftClocks 138 = .ok (.invokevirtual 260, 3) := by decide +kernel
theorem d_MD_craftClocks_141 : decode b_MD_craftClocks 141 = .ok (.return_, 1) := by decide +kernel
theorem d_MD_craftClocks_142 : decode b_MD_craftClocks 142 = .ok (.aload_n 0, 1) := by decide +kernel
theorem d_MD_craftClocks_143 : decode b_MD_craftClocks 143 = .ok (.getfield 112, 3) := by decide +kernel
theorem d_MD_craftClocks_146 : decode b_MD_craftClocks 146 = .ok (.iload_n 1, 1) := by decide +kernel
theorem d_MD_craftClocks_147 : decode b_MD_craftClocks 147 = .ok (.dup2, 1) := by decide +kernel
theorem d_MD_craftClocks_148 : decode b_MD_craftClocks 148 = .ok (.iaload, 1) := by decide +kernel
theorem d_MD_craftClocks_149 : decode b_MD_craftClocks 149 = .ok (.iconst 1, 1) := by decide +kernel
theorem d_MD_craftClocks_150 : decode b_MD_craftClocks 150 = .ok (.iadd, 1) := by decide +kernel
theorem d_MD_craftClocks_151 : decode b_MD_craftClocks 151 = .ok (.iastore, 1) := by decide +kernel
theorem d_MD_craftClocks_152 : decode b_MD_craftClocks 152 = .ok (.aload_n 0, 1) := by decide +kernel
theorem d_MD_craftClocks_153 : decode b_MD_craftClocks 153 = .ok (.getfield 115, 3) := by decide +kernel
theorem d_MD_craftClocks_156 : decode b_MD_craftClocks 156 = .ok (.iload_n 1, 1) := by decide +kernel
theorem d_MD_craftClocks_157 : decode b_MD_craftClocks 157 = .ok (.iconst 3, 1) := by decide +kernel
theorem d_MD_craftClocks_158 : decode b_MD_craftClocks 158 = .ok (.aload_n 0, 1) := by decide +kernel
theorem d_MD_craftClocks_159 : decode b_MD_craftClocks 159 = .ok (.getfield 139, 3) := by decide +kernel
theorem d_MD_craftClocks_162 : decode b_MD_craftClocks 162 = .ok (.imul, 1) := by decide +kernel
theorem d_MD_craftClocks_163 : decode b_MD_craftClocks 163 = .ok (.iastore, 1) := by decide +kernel
theorem d_MD_craftClocks_164 : decode b_MD_craftClocks 164 = .ok (.aload_n 0, 1) := by decide +kernel
theorem d_MD_craftClocks_165 : decode b_MD_craftClocks 165 = .ok (.getfield 124, 3) := by decide +kernel
theorem d_MD_craftClocks_168 : decode b_MD_craftClocks 168 = .ok (.iload_n 1, 1) := by decide +kernel
theorem d_MD_craftClocks_169 : decode b_MD_craftClocks 169 = .ok (.aload_n 0, 1) := by decide +kernel
theorem d_MD_craftClocks_170 : decode b_MD_craftClocks 170 = .ok (.getfield 88, 3) := by decide +kernel
theorem d_MD_craftClocks_173 : decode b_MD_craftClocks 173 = .ok (.iload_n 1, 1) := by decide +kernel
theorem d_MD_craftClocks_174 : decode b_MD_craftClocks 174 = .ok (.iaload, 1) := by decide +kernel
theorem d_MD_craftClocks_175 : decode b_MD_craftClocks 175 = .ok (.iconst 1, 1) := by decide +kernel
theorem d_MD_craftClocks_176 : decode b_MD_craftClocks 176 = .ok (.if_icmp .ne 7, 3) := by decide +kernel
theorem d_MD_craftClocks_179 : decode b_MD_craftClocks 179 = .ok (.iconst 1, 1) := by decide +kernel
theorem d_MD_craftClocks_180 : decode b_MD_craftClocks 180 = .ok (.goto 4, 3) := by decide +kernel
theorem d_MD_craftClocks_183 : decode b_MD_craftClocks 183 = .ok (.iconst 0, 1) := by decide +kernel
theorem d_MD_craftClocks_184 : decode b_MD_craftClocks 184 = .ok (.bastore, 1) := by decide +kernel
theorem d_MD_craftClocks_185 : decode b_MD_craftClocks 185 = .ok (.aload_n 0, 1) := by decide +kernel
theorem d_MD_craftClocks_186 : decode b_MD_craftClocks 186 = .ok (.getfield 127, 3) := by decide +kernel
theorem d_MD_craftClocks_189 : decode b_MD_craftClocks 189 = .ok (.iload_n 1, 1) := by decide +kernel
theorem d_MD_craftClocks_190 : decode b_MD_craftClocks 190 = .ok (.aload_n 0, 1) := by decide +kernel
theorem d_MD_craftClocks_191 : decode b_MD_craftClocks 191 = .ok (.getfield 88, 3) := by decide +kernel
theorem d_MD_craftClocks_194 : decode b_MD_craftClocks 194 = .ok (.iload_n 1, 1) := by decide +kernel
theorem d_MD_craftClocks_195 : decode b_MD_craftClocks 195 = .ok (.iaload, 1) := by decide +kernel
theorem d_MD_craftClocks_196 : decode b_MD_craftClocks 196 = .ok (.iconst 2, 1) := by decide +kernel
theorem d_MD_craftClocks_197 : decode b_MD_craftClocks 197 = .ok (.if_icmp .ne 7, 3) := by decide +kernel
theorem d_MD_craftClocks_200 : decode b_MD_craftClocks 200 = .ok (.iconst 1, 1) := by decide +kernel
theorem d_MD_craftClocks_201 : decode b_MD_craftClocks 201 = .ok (.goto 4, 3) := by decide +kernel
theorem d_MD_craftClocks_204 : decode b_MD_craftClocks 204 = .ok (.iconst 0, 1) := by decide +kernel
theorem d_MD_craftClocks_205 : decode b_MD_craftClocks 205 = .ok (.bastore, 1) := by decide +kernel
theorem d_MD_craftClocks_206 : decode b_MD_craftClocks 206 = .ok (.return_, 1) := by decide +kernel
theorem d_MD_craftSends_0 : decode b_MD_craftSends 0 = .ok (.iconst 0, 1) := by decide +kernel
theorem d_MD_craftSends_1 : decode b_MD_craftSends 1 = .ok (.istore_n 1, 1) := by decide +kernel
theorem d_MD_craftSends_2 : decode b_MD_craftSends 2 = .ok (.iload_n 1, 1) := by decide +kernel
theorem d_MD_craftSends_3 : decode b_MD_craftSends 3 = .ok (.bipush 16, 2) := by decide +kernel
theorem d_MD_craftSends_5 : decode b_MD_craftSends 5 = .ok (.if_icmp .ge 36, 3) := by decide +kernel
theorem d_MD_craftSends_8 : decode b_MD_craftSends 8 = .ok (.aload_n 0, 1) := by decide +kernel
theorem d_MD_craftSends_9 : decode b_MD_craftSends 9 = .ok (.getfield 121, 3) := by decide +kernel
theorem d_MD_craftSends_12 : decode b_MD_craftSends 12 = .ok (.iload_n 1, 1) := by decide +kernel
theorem d_MD_craftSends_13 : decode b_MD_craftSends 13 = .ok (.baload, 1) := by decide +kernel
theorem d_MD_craftSends_14 : decode b_MD_craftSends 14 = .ok (.ifCond .ne 27, 3) := by decide +kernel
theorem d_MD_craftSends_17 : decode b_MD_craftSends 17 = .ok (.aload_n 0, 1) := by decide +kernel
theorem d_MD_craftSends_18 : decode b_MD_craftSends 18 = .ok (.getfield 124, 3) := by decide +kernel
theorem d_MD_craftSends_21 : decode b_MD_craftSends 21 = .ok (.iload_n 1, 1) := by decide +kernel
theorem d_MD_craftSends_22 : decode b_MD_craftSends 22 = .ok (.baload, 1) := by decide +kernel
theorem d_MD_craftSends_23 : decode b_MD_craftSends 23 = .ok (.ifCond .ne 18, 3) := by decide +kernel
theorem d_MD_craftSends_26 : decode b_MD_craftSends 26 = .ok (.aload_n 0, 1) := by decide +kernel
theorem d_MD_craftSends_27 : decode b_MD_craftSends 27 = .ok (.getfield 127, 3) := by decide +kernel
theorem d_MD_craftSends_30 : decode b_MD_craftSends 30 = .ok (.iload_n 1, 1) := by decide +kernel
theorem d_MD_craftSends_31 : decode b_MD_craftSends 31 = .ok (.baload, 1) := by decide +kernel
theorem d_MD_craftSends_32 : decode b_MD_craftSends 32 = .ok (.ifCond .ne 9, 3) := by decide +kernel
theorem d_MD_craftSends_35 : decode b_MD_craftSends 35 = .ok (.iinc 1 1, 3) := by decide +kernel
theorem d_MD_craftSends_38 : decode b_MD_craftSends 38 = .ok (.goto (-36), 3) := by decide +kernel
theorem d_MD_craftSends_41 : decode b_MD_craftSends 41 = .ok (.lconst 0, 1) := by decide +kernel
theorem d_MD_craftSends_42 : decode b_MD_craftSends 42 = .ok (.lstore_n 2, 1) := by decide +kernel
theorem d_MD_craftSends_43 : decode b_MD_craftSends 43 = .ok (.iload_n 1, 1) := by decide +kernel
theorem d_MD_craftSends_44 : decode b_MD_craftSends 44 = .ok (.bipush 16, 2) := by decide +kernel
theorem d_MD_craftSends_46 : decode b_MD_craftSends 46 = .ok (.if_icmp .ge 162, 3) := by decide +kernel
theorem d_MD_craftSends_49 : decode b_MD_craftSends 49 = .ok (.aload_n 0, 1) := by decide +kernel
theorem d_MD_craftSends_50 : decode b_MD_craftSends 50 = .ok (.getfield 121, 3) := by decide +kernel
theorem d_MD_craftSends_53 : decode b_MD_craftSends 53 = .ok (.iload_n 1, 1) := by decide +kernel
theorem d_MD_craftSends_54 : decode b_MD_craftSends 54 = .ok (.baload, 1) := by decide +kernel
theorem d_MD_craftSends_55 : decode b_MD_craftSends 55 = .ok (.ifCond .eq 7, 3) := by decide +kernel
theorem d_MD_craftSends_58 : decode b_MD_craftSends 58 = .ok (.iconst 1, 1) := by decide +kernel
theorem d_MD_craftSends_59 : decode b_MD_craftSends 59 = .ok (.goto 17, 3) := by decide +kernel
theorem d_MD_craftSends_62 : decode b_MD_craftSends 62 = .ok (.aload_n 0, 1) := by decide +kernel
theorem d_MD_craftSends_63 : decode b_MD_craftSends 63 = .ok (.getfield 124, 3) := by decide +kernel
theorem d_MD_craftSends_66 : decode b_MD_craftSends 66 = .ok (.iload_n 1, 1) := by decide +kernel
theorem d_MD_craftSends_67 : decode b_MD_craftSends 67 = .ok (.baload, 1) := by decide +kernel
theorem d_MD_craftSends_68 : decode b_MD_craftSends 68 = .ok (.ifCond .eq 7, 3) := by decide +kernel
theorem d_MD_craftSends_71 : decode b_MD_craftSends 71 = .ok (.iconst 2, 1) := by decide +kernel
theorem d_MD_craftSends_72 : decode b_MD_craftSends 72 = .ok (.goto 4, 3) := by decide +kernel
theorem d_MD_craftSends_75 : decode b_MD_craftSends 75 = .ok (.iconst 3, 1) := by decide +kernel
theorem d_MD_craftSends_76 : decode b_MD_craftSends 76 = .ok (.istore 4, 2) := by decide +kernel
theorem d_MD_craftSends_78 : decode b_MD_craftSends 78 = .ok (.iload 4, 2) := by decide +kernel
theorem d_MD_craftSends_80 : decode b_MD_craftSends 80 = .ok (.iconst 1, 1) := by decide +kernel
theorem d_MD_craftSends_81 : decode b_MD_craftSends 81 = .ok (.if_icmp .ne 7, 3) := by decide +kernel
theorem d_MD_craftSends_84 : decode b_MD_craftSends 84 = .ok (.iconst 0, 1) := by decide +kernel
theorem d_MD_craftSends_85 : decode b_MD_craftSends 85 = .ok (.goto 23, 3) := by decide +kernel
theorem d_MD_craftSends_88 : decode b_MD_craftSends 88 = .ok (.iload 4, 2) := by decide +kernel
theorem d_MD_craftSends_90 : decode b_MD_craftSends 90 = .ok (.iconst 2, 1) := by decide +kernel
theorem d_MD_craftSends_91 : decode b_MD_craftSends 91 = .ok (.if_icmp .ne 11, 3) := by decide +kernel
theorem d_MD_craftSends_94 : decode b_MD_craftSends 94 = .ok (.aload_n 0, 1) := by decide +kernel
theorem d_MD_craftSends_95 : decode b_MD_craftSends 95 = .ok (.iload_n 1, 1) := by decide +kernel
theorem d_MD_craftSends_96 : decode b_MD_craftSends 96 = .ok (.invokevirtual 264, 3) := by decide +kernel
theorem d_MD_craftSends_99 : decode b_MD_craftSends 99 = .ok (.goto 9, 3) := by decide +kernel
theorem d_MD_craftSends_102 : decode b_MD_craftSends 102 = .ok (.aload_n 0, 1) := by decide +kernel
theorem d_MD_craftSends_103 : decode b_MD_craftSends 103 = .ok (.getfield 91, 3) := by decide +kernel
theorem d_MD_craftSends_106 : decode b_MD_craftSends 106 = .ok (.iload_n 1, 1) := by decide +kernel
theorem d_MD_craftSends_107 : decode b_MD_craftSends 107 = .ok (.iaload, 1) := by decide +kernel
theorem d_MD_craftSends_108 : decode b_MD_craftSends 108 = .ok (.istore 5, 2) := by decide +kernel
theorem d_MD_craftSends_110 : decode b_MD_craftSends 110 = .ok (.iload 5, 2) := by decide +kernel
theorem d_MD_craftSends_112 : decode b_MD_craftSends 112 = .ok (.i2l, 1) := by decide +kernel
theorem d_MD_craftSends_113 : decode b_MD_craftSends 113 = .ok (.bipush 16, 2) := by decide +kernel
theorem d_MD_craftSends_115 : decode b_MD_craftSends 115 = .ok (.lshl, 1) := by decide +kernel
theorem d_MD_craftSends_116 : decode b_MD_craftSends 116 = .ok (.iload_n 1, 1) := by decide +kernel
theorem d_MD_craftSends_117 : decode b_MD_craftSends 117 = .ok (.bipush 12, 2) := by decide +kernel
theorem d_MD_craftSends_119 : decode b_MD_craftSends 119 = .ok (.ishl, 1) := by decide +kernel
theorem d_MD_craftSends_120 : decode b_MD_craftSends 120 = .ok (.i2l, 1) := by decide +kernel
theorem d_MD_craftSends_121 : decode b_MD_craftSends 121 = .ok (.lor, 1) := by decide +kernel
theorem d_MD_craftSends_122 : decode b_MD_craftSends 122 = .ok (.iload 4, 2) := by decide +kernel
theorem d_MD_craftSends_124 : decode b_MD_craftSends 124 = .ok (.bipush 8, 2) := by decide +kernel
theorem d_MD_craftSends_126 : decode b_MD_craftSends 126 = .ok (.ishl, 1) := by decide +kernel
theorem d_MD_craftSends_127 : decode b_MD_craftSends 127 = .ok (.i2l, 1) := by decide +kernel
theorem d_MD_craftSends_128 : decode b_MD_craftSends 128 = .ok (.lor, 1) := by decide +kernel
theorem d_MD_craftSends_129 : decode b_MD_craftSends 129 = .ok (.lstore_n 2, 1) := by decide +kernel
theorem d_MD_craftSends_130 : decode b_MD_craftSends 130 = .ok (.aload_n 0, 1) := by decide +kernel
theorem d_MD_craftSends_131 : decode b_MD_craftSends 131 = .ok (.getfield 121, 3) := by decide +kernel
theorem d_MD_craftSends_134 : decode b_MD_craftSends 134 = .ok (.iload_n 1, 1) := by decide +kernel
theorem d_MD_craftSends_135 : decode b_MD_craftSends 135 = .ok (.aload_n 0, 1) := by decide +kernel
theorem d_MD_craftSends_136 : decode b_MD_craftSends 136 = .ok (.getfield 121, 3) := by decide +kernel
theorem d_MD_craftSends_139 : decode b_MD_craftSends 139 = .ok (.iload_n 1, 1) := by decide +kernel
theorem d_MD_craftSends_140 : decode b_MD_craftSends 140 = .ok (.baload, 1) := by decide +kernel
theorem d_MD_craftSends_141 : decode b_MD_craftSends 141 = .ok (.ifCond .eq 13, 3) := by decide +kernel
theorem d_MD_craftSends_144 : decode b_MD_craftSends 144 = .ok (.iload 4, 2) := by decide +kernel
theorem d_MD_craftSends_146 : decode b_MD_craftSends 146 = .ok (.iconst 1, 1) := by decide +kernel
theorem d_MD_craftSends_147 : decode b_MD_craftSends 147 = .ok (.if_icmp .eq 7, 3) := by decide +kernel
theorem d_MD_craftSends_150 : decode b_MD_craftSends 150 = .ok (.iconst 1, 1) := by decide +kernel
theorem d_MD_craftSends_151 : decode b_MD_craftSends 151 = .ok (.goto 4, 3) := by decide +kernel
theorem d_MD_craftSends_154 : decode b_MD_craftSends 154 = .ok (.iconst 0, 1) := by decide +kernel
theorem d_MD_craftSends_155 : decode b_MD_craftSends 155 = .ok (.bastore, 1) := by decide +kernel
theorem d_MD_craftSends_156 : decode b_MD_craftSends 156 = .ok (.aload_n 0, 1) := by decide +kernel
theorem d_MD_craftSends_157 : decode b_MD_craftSends 157 = .ok (.getfield 124, 3) := by decide +kernel
theorem d_MD_craftSends_160 : decode b_MD_craftSends 160 = .ok (.iload_n 1, 1) := by decide +kernel
theorem d_MD_craftSends_161 : decode b_MD_craftSends 161 = .ok (.aload_n 0, 1) := by decide +kernel
theorem d_MD_craftSends_162 : decode b_MD_craftSends 162 = .ok (.getfield 124, 3) := by decide +kernel
theorem d_MD_craftSends_165 : decode b_MD_craftSends 165 = .ok (.iload_n 1, 1) := by decide +kernel
theorem d_MD_craftSends_166 : decode b_MD_craftSends 166 = .ok (.baload, 1) := by decide +kernel
theorem d_MD_craftSends_167 : decode b_MD_craftSends 167 = .ok (.ifCond .eq 13, 3) := by decide +kernel
theorem d_MD_craftSends_170 : decode b_MD_craftSends 170 = .ok (.iload 4, 2) := by decide +kernel
theorem d_MD_craftSends_172 : decode b_MD_craftSends 172 = .ok (.iconst 2, 1) := by decide +kernel
theorem d_MD_craftSends_173 : decode b_MD_craftSends 173 = .ok (.if_icmp .eq 7, 3) := by decide +kernel
theorem d_MD_craftSends_176 : decode b_MD_craftSends 176 = .ok (.iconst 1, 1) := by decide +kernel
theorem d_MD_craftSends_177 : decode b_MD_craftSends 177 = .ok (.goto 4, 3) := by decide +kernel
theorem d_MD_craftSends_180 : decode b_MD_craftSends 180 = .ok (.iconst 0, 1) := by decide +kernel
theorem d_MD_craftSends_181 : decode b_MD_craftSends 181 = .ok (.bastore, 1) := by decide +kernel
theorem d_MD_craftSends_182 : decode b_MD_craftSends 182 = .ok (.aload_n 0, 1) := by decide +kernel
theorem d_MD_craftSends_183 : decode b_MD_craftSends 183 = .ok (.getfield 127, 3) := by decide +kernel
theorem d_MD_craftSends_186 : decode b_MD_craftSends 186 = .ok (.iload_n 1, 1) := by decide +kernel
theorem d_MD_craftSends_187 : decode b_MD_craftSends 187 = .ok (.aload_n 0, 1) := by decide +kernel
theorem d_MD_craftSends_188 : decode b_MD_craftSends 188 = .ok (.getfield 127, 3) := by decide +kernel
theorem d_MD_craftSends_191 : decode b_MD_craftSends 191 = .ok (.iload_n 1, 1) := by decide +kernel
theorem d_MD_craftSends_192 : decode b_MD_craftSends 192 = .ok (.baload, 1) := by decide +kernel
theorem d_MD_craftSends_193 : decode b_MD_craftSends 193 = .ok (.ifCond .eq 13, 3) := by decide +kernel
theorem d_MD_craftSends_196 : decode b_MD_craftSends 196 = .ok (.iload 4, 2) := by decide +kernel
theorem d_MD_craftSends_198 : decode b_MD_craftSends 198 = .ok (.iconst 3, 1) := by decide +kernel
theorem d_MD_craftSends_199 : decode b_MD_craftSends 199 = .ok (.if_icmp .eq 7, 3) := by decide +kernel
theorem d_MD_craftSends_202 : decode b_MD_craftSends 202 = .ok (.iconst 1, 1) := by decide +kernel
theorem d_MD_craftSends_203 : decode b_MD_craftSends 203 = .ok (.goto 4, 3) := by decide +kernel
theorem d_MD_craftSends_206 : decode b_MD_craftSends 206 = .ok (.iconst 0, 1) := by decide +kernel
theorem d_MD_craftSends_207 : decode b_MD_craftSends 207 = .ok (.bastore, 1) := by decide +kernel
theorem d_MD_craftSends_208 : decode b_MD_craftSends 208 = .ok (.lload_n 2, 1) := by decide +kernel
theorem d_MD_craftSends_209 : decode b_MD_craftSends 209 = .ok (.aload_n 0, 1) := by decide +kernel
theorem d_MD_craftSends_210 : decode b_MD_craftSends 210 = .ok (.getfield 238, 3) := by decide +kernel
theorem d_MD_craftSends_213 : decode b_MD_craftSends 213 = .ok (.i2l, 1) := by decide +kernel
theorem d_MD_craftSends_214 : decode b_MD_craftSends 214 = .ok (.lor, 1) := by decide +kernel
theorem d_MD_craftSends_215 : decode b_MD_craftSends 215 = .ok (.aload_n 0, 1) := by decide +kernel
theorem d_MD_craftSends_216 : decode b_MD_craftSends 216 = .ok (.getfield 234, 3) := by decide +kernel
theorem d_MD_craftSends_219 : decode b_MD_craftSends 219 = .ok (.ifCond .eq 9, 3) := by decide +kernel
theorem d_MD_craftSends_222 : decode b_MD_craftSends 222 = .ok (.ldc2_w 270, 3) := by decide +kernel
theorem d_MD_craftSends_225 : decode b_MD_craftSends 225 = .ok (.goto 4, 3) := by decide +kernel
theorem d_MD_craftSends_228 : decode b_MD_craftSends 228 = .ok (.lconst 0, 1) := by decide +kernel
theorem d_MD_craftSends_229 : decode b_MD_craftSends 229 = .ok (.lor, 1) := by decide +kernel
theorem d_MD_craftSends_230 : decode b_MD_craftSends 230 = .ok (.aload_n 0, 1) := by decide +kernel
theorem d_MD_craftSends_231 : decode b_MD_craftSends 231 = .ok (.getfield 241, 3) := by decide +kernel
theorem d_MD_craftSends_234 : decode b_MD_craftSends 234 = .ok (.ifCond .eq 9, 3) := by decide +kernel
theorem d_MD_craftSends_237 : decode b_MD_craftSends 237 = .ok (.ldc2_w 272, 3) := by decide +kernel
theorem d_MD_craftSends_240 : decode b_MD_craftSends 240 = .ok (.goto 4, 3) := by decide +kernel
theorem d_MD_craftSends_243 : decode b_MD_craftSends 243 = .ok (.lconst 0, 1) := by decide +kernel
theorem d_MD_craftSends_244 : decode b_MD_craftSends 244 = .ok (.lor, 1) := by decide +kernel
theorem d_MD_craftSends_245 : decode b_MD_craftSends 245 = .ok (.lstore 4, 2) := by decide +kernel
theorem d_MD_craftSends_247 : decode b_MD_craftSends 247 = .ok (.aload_n 0, 1) := by decide +kernel
theorem d_MD_craftSends_248 : decode b_MD_craftSends 248 = .ok (.iconst 0, 1) := by decide +kernel
theorem d_MD_craftSends_249 : decode b_MD_craftSends 249 = .ok (.lload 4, 2) := by decide +kernel
theorem d_MD_craftSends_251 : decode b_MD_craftSends 251 = .ok (.invokevirtual 274, 3) := by decide +kernel
theorem d_MD_craftSends_254 : decode b_MD_craftSends 254 = .ok (.lstore 6, 2) := by decide +kernel
theorem d_MD_craftSends_256 : decode b_MD_craftSends 256 = .ok (.aload_n 0, 1) := by decide +kernel
theorem d_MD_craftSends_257 : decode b_MD_craftSends 257 = .ok (.iconst 1, 1) := by decide +kernel
theorem d_MD_craftSends_258 : decode b_MD_craftSends 258 = .ok (.lload 6, 2) := by decide +kernel
theorem d_MD_craftSends_260 : decode b_MD_craftSends 260 = .ok (.invokevirtual 277, 3) := by decide +kernel
theorem d_MD_craftSends_263 : decode b_MD_craftSends 263 = .ok (.return_, 1) := by decide +kernel
theorem d_MD_groundPdu_0 : decode b_MD_groundPdu 0 = .ok (.lload_n 1, 1) := by decide +kernel
theorem d_MD_groundPdu_1 : decode b_MD_groundPdu 1 = .ok (.bipush 8, 2) := by decide +kernel
theorem d_MD_groundPdu_3 : decode b_MD_groundPdu 3 = .ok (.lshr, 1) := by decide +kernel
theorem d_MD_groundPdu_4 : decode b_MD_groundPdu 4 = .ok (.ldc2_w 162, 3) := by decide +kernel
theorem d_MD_groundPdu_7 : decode b_MD_groundPdu 7 = .ok (.land, 1) := by decide +kernel
theorem d_MD_groundPdu_8 : decode b_MD_groundPdu 8 = .ok (.l2i, 1) := by decide +kernel
theorem d_MD_groundPdu_9 : decode b_MD_groundPdu 9 = .ok (.istore_n 3, 1) := by decide +kernel
theorem d_MD_groundPdu_10 : decode b_MD_groundPdu 10 = .ok (.lload_n 1, 1) := by decide +kernel
theorem d_MD_groundPdu_11 : decode b_MD_groundPdu 11 = .ok (.bipush 12, 2) := by decide +kernel
theorem d_MD_groundPdu_13 : decode b_MD_groundPdu 13 = .ok (.lshr, 1) := by decide +kernel
theorem d_MD_groundPdu_14 : decode b_MD_groundPdu 14 = .ok (.ldc2_w 162, 3) := by decide +kernel
theorem d_MD_groundPdu_17 : decode b_MD_groundPdu 17 = .ok (.land, 1) := by decide +kernel
theorem d_MD_groundPdu_18 : decode b_MD_groundPdu 18 = .ok (.l2i, 1) := by decide +kernel
theorem d_MD_groundPdu_19 : decode b_MD_groundPdu 19 = .ok (.istore 4, 2) := by decide +kernel
theorem d_MD_groundPdu_21 : decode b_MD_groundPdu 21 = .ok (.lload_n 1, 1) := by decide +kernel
theorem d_MD_groundPdu_22 : decode b_MD_groundPdu 22 = .ok (.bipush 16, 2) := by decide +kernel
theorem d_MD_groundPdu_24 : decode b_MD_groundPdu 24 = .ok (.lshr, 1) := by decide +kernel
theorem d_MD_groundPdu_25 : decode b_MD_groundPdu 25 = .ok (.ldc2_w 313, 3) := by decide +kernel
theorem d_MD_groundPdu_28 : decode b_MD_groundPdu 28 = .ok (.land, 1) := by decide +kernel
theorem d_MD_groundPdu_29 : decode b_MD_groundPdu 29 = .ok (.l2i, 1) := by decide +kernel
theorem d_MD_groundPdu_30 : decode b_MD_groundPdu 30 = .ok (.istore 5, 2) := by decide +kernel
theorem d_MD_groundPdu_32 : decode b_MD_groundPdu 32 = .ok (.iload_n 3, 1) := by decide +kernel
theorem d_MD_groundPdu_33 : decode b_MD_groundPdu 33 = .ok (.iconst 1, 1) := by decide +kernel
theorem d_MD_groundPdu_34 : decode b_MD_groundPdu 34 = .ok (.if_icmp .lt 17, 3) := by decide +kernel
theorem d_MD_groundPdu_37 : decode b_MD_groundPdu 37 = .ok (.iload_n 3, 1) := by decide +kernel
theorem d_MD_groundPdu_38 : decode b_MD_groundPdu 38 = .ok (.iconst 3, 1) := by decide +kernel
theorem d_MD_groundPdu_39 : decode b_MD_groundPdu 39 = .ok (.if_icmp .gt 12, 3) := by decide +kernel
theorem d_MD_groundPdu_42 : decode b_MD_groundPdu 42 = .ok (.iload 4, 2) := by decide +kernel
theorem d_MD_groundPdu_44 : decode b_MD_groundPdu 44 = .ok (.aload_n 0, 1) := by decide +kernel
theorem d_MD_groundPdu_45 : decode b_MD_groundPdu 45 = .ok (.getfield 225, 3) := by decide +kernel
theorem d_MD_groundPdu_48 : decode b_MD_groundPdu 48 = .ok (.if_icmp .lt 4, 3) := by decide +kernel
theorem d_MD_groundPdu_51 : decode b_MD_groundPdu 51 = .ok (.return_, 1) := by decide +kernel
theorem d_MD_groundPdu_52 : decode b_MD_groundPdu 52 = .ok (.aload_n 0, 1) := by decide +kernel
theorem d_MD_groundPdu_53 : decode b_MD_groundPdu 53 = .ok (.getfield 75, 3) := by decide +kernel
theorem d_MD_groundPdu_56 : decode b_MD_groundPdu 56 = .ok (.iload 4, 2) := by decide +kernel
theorem d_MD_groundPdu_58 : decode b_MD_groundPdu 58 = .ok (.bipush 12, 2) := by decide +kernel
theorem d_MD_groundPdu_60 : decode b_MD_groundPdu 60 = .ok (.aload_n 0, 1) := by decide +kernel
theorem d_MD_groundPdu_61 : decode b_MD_groundPdu 61 = .ok (.getfield 139, 3) := by decide +kernel
theorem d_MD_groundPdu_64 : decode b_MD_groundPdu 64 = .ok (.imul, 1) := by decide +kernel
theorem d_MD_groundPdu_65 : decode b_MD_groundPdu 65 = .ok (.iastore, 1) := by decide +kernel
theorem d_MD_groundPdu_66 : decode b_MD_groundPdu 66 = .ok (.iload_n 3, 1) := by decide +kernel
theorem d_MD_groundPdu_67 : decode b_MD_groundPdu 67 = .ok (.iconst 1, 1) := by decide +kernel
theorem d_MD_groundPdu_68 : decode b_MD_groundPdu 68 = .ok (.if_icmp .ne 24, 3) := by decide +kernel
theorem d_MD_groundPdu_71 : decode b_MD_groundPdu 71 = .ok (.aload_n 0, 1) := by decide +kernel
theorem d_MD_groundPdu_72 : decode b_MD_groundPdu 72 = .ok (.getfield 48, 3) := by decide +kernel
theorem d_MD_groundPdu_75 : decode b_MD_groundPdu 75 = .ok (.iload 4, 2) := by decide +kernel
theorem d_MD_groundPdu_77 : decode b_MD_groundPdu 77 = .ok (.baload, 1) := by decide +kernel
theorem d_MD_groundPdu_78 : decode b_MD_groundPdu 78 = .ok (.ifCond .ne 14, 3) := by decide +kernel
theorem d_MD_groundPdu_81 : decode b_MD_groundPdu 81 = .ok (.aload_n 0, 1) := by decide +kernel
theorem d_MD_groundPdu_82 : decode b_MD_groundPdu 82 = .ok (.getfield 60, 3) := by decide +kernel
theorem d_MD_groundPdu_85 : decode b_MD_groundPdu 85 = .ok (.iload 4, 2) := by decide +kernel
theorem d_MD_groundPdu_87 : decode b_MD_groundPdu 87 = .ok (.iconst 1, 1) := by decide +kernel
theorem d_MD_groundPdu_88 : decode b_MD_groundPdu 88 = .ok (.bastore, 1) := by decide +kernel
theorem d_MD_groundPdu_89 : decode b_MD_groundPdu 89 = .ok (.goto 109, 3) := by decide +kernel
theorem d_MD_groundPdu_92 : decode b_MD_groundPdu 92 = .ok (.iload_n 3, 1) := by decide +kernel
theorem d_MD_groundPdu_93 : decode b_MD_groundPdu 93 = .ok (.iconst 2, 1) := by decide +kernel
theorem d_MD_groundPdu_94 : decode b_MD_groundPdu 94 = .ok (.if_icmp .ne 63, 3) := by decide +kernel
theorem d_MD_groundPdu_97 : decode b_MD_groundPdu 97 = .ok (.aload_n 0, 1) := by decide +kernel
theorem d_MD_groundPdu_98 : decode b_MD_groundPdu 98 = .ok (.getfield 48, 3) := by decide +kernel
theorem d_MD_groundPdu_101 : decode b_MD_groundPdu 101 = .ok (.iload 4, 2) := by decide +kernel
theorem d_MD_groundPdu_103 : decode b_MD_groundPdu 103 = .ok (.baload, 1) := by decide +kernel
theorem d_MD_groundPdu_104 : decode b_MD_groundPdu 104 = .ok (.ifCond .ne 53, 3) := by decide +kernel
theorem d_MD_groundPdu_107 : decode b_MD_groundPdu 107 = .ok (.aload_n 0, 1) := by decide +kernel
theorem d_MD_groundPdu_108 : decode b_MD_groundPdu 108 = .ok (.getfield 57, 3) := by decide +kernel
theorem d_MD_groundPdu_111 : decode b_MD_groundPdu 111 = .ok (.iload 4, 2) := by decide +kernel
theorem d_MD_groundPdu_113 : decode b_MD_groundPdu 113 = .ok (.baload, 1) := by decide +kernel
theorem d_MD_groundPdu_114 : decode b_MD_groundPdu 114 = .ok (.ifCond .ne 43, 3) := by decide +kernel
theorem d_MD_groundPdu_117 : decode b_MD_groundPdu 117 = .ok (.iconst 1, 1) := by decide +kernel
theorem d_MD_groundPdu_118 : decode b_MD_groundPdu 118 = .ok (.aload_n 0, 1) := by decide +kernel
theorem d_MD_groundPdu_119 : decode b_MD_groundPdu 119 = .ok (.getfield 39, 3) := by decide +kernel
theorem d_MD_groundPdu_122 : decode b_MD_groundPdu 122 = .ok (.iload 4, 2) := by decide +kernel
theorem d_MD_groundPdu_124 : decode b_MD_groundPdu 124 = .ok (.iaload, 1) := by decide +kernel
theorem d_MD_groundPdu_125 : decode b_MD_groundPdu 125 = .ok (.ishl, 1) := by decide +kernel
theorem d_MD_groundPdu_126 : decode b_MD_groundPdu 126 = .ok (.iconst 1, 1) := by decide +kernel
theorem d_MD_groundPdu_127 : decode b_MD_groundPdu 127 = .ok (.isub, 1) := by decide +kernel
theorem d_MD_groundPdu_128 : decode b_MD_groundPdu 128 = .ok (.istore 6, 2) := by decide +kernel
theorem d_MD_groundPdu_130 : decode b_MD_groundPdu 130 = .ok (.aload_n 0, 1) := by decide +kernel
theorem d_MD_groundPdu_131 : decode b_MD_groundPdu 131 = .ok (.getfield 54, 3) := by decide +kernel
theorem d_MD_groundPdu_134 : decode b_MD_groundPdu 134 = .ok (.iload 4, 2) := by decide +kernel
theorem d_MD_groundPdu_136 : decode b_MD_groundPdu 136 = .ok (.aload_n 0, 1) := by decide +kernel
theorem d_MD_groundPdu_137 : decode b_MD_groundPdu 137 = .ok (.getfield 54, 3) := by decide +kernel
theorem d_MD_groundPdu_140 : decode b_MD_groundPdu 140 = .ok (.iload 4, 2) := by decide +kernel
theorem d_MD_groundPdu_142 : decode b_MD_groundPdu 142 = .ok (.iaload, 1) := by decide +kernel
theorem d_MD_groundPdu_143 : decode b_MD_groundPdu 143 = .ok (.iload 5, 2) := by decide +kernel
theorem d_MD_groundPdu_145 : decode b_MD_groundPdu 145 = .ok (.iload 6, 2) := by decide +kernel
theorem d_MD_groundPdu_147 : decode b_MD_groundPdu 147 = .ok (.ldc_w 263, 3) := by decide +kernel
theorem d_MD_groundPdu_150 : decode b_MD_groundPdu 150 = .ok (.ior, 1) := by decide +kernel
theorem d_MD_groundPdu_151 : decode b_MD_groundPdu 151 = .ok (.iand, 1) := by decide +kernel
theorem d_MD_groundPdu_152 : decode b_MD_groundPdu 152 = .ok (.ior, 1) := by decide +kernel
theorem d_MD_groundPdu_153 : decode b_MD_groundPdu 153 = .ok (.iastore, 1) := by decide +kernel
theorem d_MD_groundPdu_154 : decode b_MD_groundPdu 154 = .ok (.goto 44, 3) := by decide +kernel
theorem d_MD_groundPdu_157 : decode b_MD_groundPdu 157 = .ok (.iload_n 3, 1) := by decide +kernel
theorem d_MD_groundPdu_158 : decode b_MD_groundPdu 158 = .ok (.iconst 3, 1) := by decide +kernel
theorem d_MD_groundPdu_159 : decode b_MD_groundPdu 159 = .ok (.if_icmp .ne 39, 3) := by decide +kernel
theorem d_MD_groundPdu_162 : decode b_MD_groundPdu 162 = .ok (.aload_n 0, 1) := by decide +kernel
theorem d_MD_groundPdu_163 : decode b_MD_groundPdu 163 = .ok (.getfield 54, 3) := by decide +kernel
theorem d_MD_groundPdu_166 : decode b_MD_groundPdu 166 = .ok (.iload 4, 2) := by decide +kernel
theorem d_MD_groundPdu_168 : decode b_MD_groundPdu 168 = .ok (.aload_n 0, 1) := by decide +kernel
theorem d_MD_groundPdu_169 : decode b_MD_groundPdu 169 = .ok (.getfield 54, 3) := by decide +kernel
theorem d_MD_groundPdu_172 : decode b_MD_groundPdu 172 = .ok (.iload 4, 2) := by decide +kernel
theorem d_MD_groundPdu_174 : decode b_MD_groundPdu 174 = .ok (.iaload, 1) := by decide +kernel
theorem d_MD_groundPdu_175 : decode b_MD_groundPdu 175 = .ok (.ldc_w 312, 3) := by decide +kernel
theorem d_MD_groundPdu_178 : decode b_MD_groundPdu 178 = .ok (.ior, 1) := by decide +kernel
theorem d_MD_groundPdu_179 : decode b_MD_groundPdu 179 = .ok (.iastore, 1) := by decide +kernel
theorem d_MD_groundPdu_180 : decode b_MD_groundPdu 180 = .ok (.aload_n 0, 1) := by decide +kernel
theorem d_MD_groundPdu_181 : decode b_MD_groundPdu 181 = .ok (.getfield 48, 3) := by decide +kernel
theorem d_MD_groundPdu_184 : decode b_MD_groundPdu 184 = .ok (.iload 4, 2) := by decide +kernel
theorem d_MD_groundPdu_186 : decode b_MD_groundPdu 186 = .ok (.baload, 1) := by decide +kernel
theorem d_MD_groundPdu_187 : decode b_MD_groundPdu 187 = .ok (.ifCond .ne 11, 3) := by decide +kernel
theorem d_MD_groundPdu_190 : decode b_MD_groundPdu 190 = .ok (.aload_n 0, 1) := by decide +kernel
theorem d_MD_groundPdu_191 : decode b_MD_groundPdu 191 = .ok (.iload 4, 2) := by decide +kernel
theorem d_MD_groundPdu_193 : decode b_MD_groundPdu 193 = .ok (.iload 5, 2) := by decide +kernel
theorem d_MD_groundPdu_195 : decode b_MD_groundPdu 195 = .ok (.invokevirtual 315, 3) := by decide +kernel
theorem d_MD_groundPdu_198 : decode b_MD_groundPdu 198 = .ok (.return_, 1) := by decide +kernel
theorem d_MD_groundSends_0 : decode b_MD_groundSends 0 = .ok (.aload_n 0, 1) := by decide +kernel
theorem d_MD_groundSends_1 : decode b_MD_groundSends 1 = .ok (.getfield 290, 3) := by decide +kernel
theorem d_MD_groundSends_4 : decode b_MD_groundSends 4 = .ok (.ifCond .eq 49, 3) := by decide +kernel
theorem d_MD_groundSends_7 : decode b_MD_groundSends 7 = .ok (.aload_n 0, 1) := by decide +kernel
theorem d_MD_groundSends_8 : decode b_MD_groundSends 8 = .ok (.iconst 0, 1) := by decide +kernel
theorem d_MD_groundSends_9 : decode b_MD_groundSends 9 = .ok (.putfield 290, 3) := by decide +kernel
theorem d_MD_groundSends_12 : decode b_MD_groundSends 12 = .ok (.aload_n 0, 1) := by decide +kernel
theorem d_MD_groundSends_13 : decode b_MD_groundSends 13 = .ok (.aload_n 0, 1) := by decide +kernel
theorem d_MD_groundSends_14 : decode b_MD_groundSends 14 = .ok (.getfield 139, 3) := by decide +kernel
theorem d_MD_groundSends_17 : decode b_MD_groundSends 17 = .ok (.putfield 296, 3) := by decide +kernel
theorem d_MD_groundSends_20 : decode b_MD_groundSends 20 = .ok (.aload_n 0, 1) := by decide +kernel
theorem d_MD_groundSends_21 : decode b_MD_groundSends 21 = .ok (.getfield 287, 3) := by decide +kernel
theorem d_MD_groundSends_24 : decode b_MD_groundSends 24 = .ok (.iconst 1, 1) := by decide +kernel
theorem d_MD_groundSends_25 : decode b_MD_groundSends 25 = .ok (.if_icmp .ne 9, 3) := by decide +kernel
theorem d_MD_groundSends_28 : decode b_MD_groundSends 28 = .ok (.ldc2_w 322, 3) := by decide +kernel
theorem d_MD_groundSends_31 : decode b_MD_groundSends 31 = .ok (.goto 15, 3) := by decide +kernel
theorem d_MD_groundSends_34 : decode b_MD_groundSends 34 = .ok (.ldc2_w 324, 3) := by decide +kernel
theorem d_MD_groundSends_37 : decode b_MD_groundSends 37 = .ok (.aload_n 0, 1) := by decide +kernel
theorem d_MD_groundSends_38 : decode b_MD_groundSends 38 = .ok (.getfield 299, 3) := by decide +kernel
theorem d_MD_groundSends_41 : decode b_MD_groundSends 41 = .ok (.i2l, 1) := by decide +kernel
theorem d_MD_groundSends_42 : decode b_MD_groundSends 42 = .ok (.bipush 48, 2) := by decide +kernel
theorem d_MD_groundSends_44 : decode b_MD_groundSends 44 = .ok (.lshl, 1) := by decide +kernel
theorem d_MD_groundSends_45 : decode b_MD_groundSends 45 = .ok (.lor, 1) := by decide +kernel
theorem d_MD_groundSends_46 : decode b_MD_groundSends 46 = .ok (.lstore_n 1, 1) := by decide +kernel
theorem d_MD_groundSends_47 : decode b_MD_groundSends 47 = .ok (.aload_n 0, 1) := by decide +kernel
theorem d_MD_groundSends_48 : decode b_MD_groundSends 48 = .ok (.lload_n 1, 1) := by decide +kernel
theorem d_MD_groundSends_49 : decode b_MD_groundSends 49 = .ok (.invokevirtual 326, 3) := by decide +kernel
theorem d_MD_groundSends_52 : decode b_MD_groundSends 52 = .ok (.return_, 1) := by decide +kernel
theorem d_MD_groundSends_53 : decode b_MD_groundSends 53 = .ok (.aload_n 0, 1) := by decide +kernel
theorem d_MD_groundSends_54 : decode b_MD_groundSends 54 = .ok (.getfield 287, 3) := by decide +kernel
theorem d_MD_groundSends_57 : decode b_MD_groundSends 57 = .ok (.ifCond .ne 64, 3) := by decide +kernel
theorem d_MD_groundSends_60 : decode b_MD_groundSends 60 = .ok (.aload_n 0, 1) := by decide +kernel
theorem d_MD_groundSends_61 : decode b_MD_groundSends 61 = .ok (.getfield 284, 3) := by decide +kernel
theorem d_MD_groundSends_64 : decode b_MD_groundSends 64 = .ok (.istore_n 1, 1) := by decide +kernel
theorem d_MD_groundSends_65 : decode b_MD_groundSends 65 = .ok (.iload_n 1, 1) := by decide +kernel
theorem d_MD_groundSends_66 : decode b_MD_groundSends 66 = .ok (.iconst 1, 1) := by decide +kernel
theorem d_MD_groundSends_67 : decode b_MD_groundSends 67 = .ok (.if_icmp .lt 54, 3) := by decide +kernel
theorem d_MD_groundSends_70 : decode b_MD_groundSends 70 = .ok (.aload_n 0, 1) := by decide +kernel
theorem d_MD_groundSends_71 : decode b_MD_groundSends 71 = .ok (.getfield 299, 3) := by decide +kernel
theorem d_MD_groundSends_74 : decode b_MD_groundSends 74 = .ok (.iload_n 1, 1) := by decide +kernel
theorem d_MD_groundSends_75 : decode b_MD_groundSends 75 = .ok (.isub, 1) := by decide +kernel
theorem d_MD_groundSends_76 : decode b_MD_groundSends 76 = .ok (.bipush 15, 2) := by decide +kernel
theorem d_MD_groundSends_78 : decode b_MD_groundSends 78 = .ok (.iand, 1) := by decide +kernel
theorem d_MD_groundSends_79 : decode b_MD_groundSends 79 = .ok (.istore_n 2, 1) := by decide +kernel
theorem d_MD_groundSends_80 : decode b_MD_groundSends 80 = .ok (.aload_n 0, 1) := by decide +kernel
theorem d_MD_groundSends_81 : decode b_MD_groundSends 81 = .ok (.getfield 81, 3) := by decide +kernel
theorem d_MD_groundSends_84 : decode b_MD_groundSends 84 = .ok (.iload_n 2, 1) := by decide +kernel
theorem d_MD_groundSends_85 : decode b_MD_groundSends 85 = .ok (.baload, 1) := by decide +kernel
theorem d_MD_groundSends_86 : decode b_MD_groundSends 86 = .ok (.ifCond .eq 29, 3) := by decide +kernel
theorem d_MD_groundSends_89 : decode b_MD_groundSends 89 = .ok (.aload_n 0, 1) := by decide +kernel
theorem d_MD_groundSends_90 : decode b_MD_groundSends 90 = .ok (.getfield 81, 3) := by decide +kernel
theorem d_MD_groundSends_93 : decode b_MD_groundSends 93 = .ok (.iload_n 2, 1) := by decide +kernel
theorem d_MD_groundSends_94 : decode b_MD_groundSends 94 = .ok (.iconst 0, 1) := by decide +kernel
theorem d_MD_groundSends_95 : decode b_MD_groundSends 95 = .ok (.bastore, 1) := by decide +kernel
theorem d_MD_groundSends_96 : decode b_MD_groundSends 96 = .ok (.aload_n 0, 1) := by decide +kernel
theorem d_MD_groundSends_97 : decode b_MD_groundSends 97 = .ok (.aload_n 0, 1) := by decide +kernel
theorem d_MD_groundSends_98 : decode b_MD_groundSends 98 = .ok (.getfield 139, 3) := by decide +kernel
theorem d_MD_groundSends_101 : decode b_MD_groundSends 101 = .ok (.putfield 296, 3) := by decide +kernel
theorem d_MD_groundSends_104 : decode b_MD_groundSends 104 = .ok (.aload_n 0, 1) := by decide +kernel
theorem d_MD_groundSends_105 : decode b_MD_groundSends 105 = .ok (.aload_n 0, 1) := by decide +kernel
theorem d_MD_groundSends_106 : decode b_MD_groundSends 106 = .ok (.getfield 78, 3) := by decide +kernel
theorem d_MD_groundSends_109 : decode b_MD_groundSends 109 = .ok (.iload_n 2, 1) := by decide +kernel
theorem d_MD_groundSends_110 : decode b_MD_groundSends 110 = .ok (.laload, 1) := by decide +kernel
theorem d_MD_groundSends_111 : decode b_MD_groundSends 111 = .ok (.invokevirtual 326, 3) := by decide +kernel
theorem d_MD_groundSends_114 : decode b_MD_groundSends 114 = .ok (.return_, 1) := by decide +kernel
theorem d_MD_groundSends_115 : decode b_MD_groundSends 115 = .ok (.iinc 1 (-1), 3) := by decide +kernel
theorem d_MD_groundSends_118 : decode b_MD_groundSends 118 = .ok (.goto (-53), 3) := by decide +kernel
theorem d_MD_groundSends_121 : decode b_MD_groundSends 121 = .ok (.iconst 0, 1) := by decide +kernel
theorem d_MD_groundSends_122 : decode b_MD_groundSends 122 = .ok (.istore_n 1, 1) := by decide +kernel
theorem d_MD_groundSends_123 : decode b_MD_groundSends 123 = .ok (.iload_n 1, 1) := by decide +kernel
theorem d_MD_groundSends_124 : decode b_MD_groundSends 124 = .ok (.aload_n 0, 1) := by decide +kernel
theorem d_MD_groundSends_125 : decode b_MD_groundSends 125 = .ok (.getfield 225, 3) := by decide +kernel
theorem d_MD_groundSends_128 : decode b_MD_groundSends 128 = .ok (.if_icmp .ge 58, 3) := by decide +kernel
theorem d_MD_groundSends_131 : decode b_MD_groundSends 131 = .ok (.aload_n 0, 1) := by decide +kernel
theorem d_MD_groundSends_132 : decode b_MD_groundSends 132 = .ok (.getfield 63, 3) := by decide +kernel
theorem d_MD_groundSends_135 : decode b_MD_groundSends 135 = .ok (.iload_n 1, 1) := by decide +kernel
theorem d_MD_groundSends_136 : decode b_MD_groundSends 136 = .ok (.baload, 1) := by decide +kernel
theorem d_MD_groundSends_137 : decode b_MD_groundSends 137 = .ok (.ifCond .ne 43, 3) := by decide +kernel
theorem d_MD_groundSends_140 : decode b_MD_groundSends 140 = .ok (.aload_n 0, 1) := by decide +kernel
theorem d_MD_groundSends_141 : decode b_MD_groundSends 141 = .ok (.getfield 54, 3) := by decide +kernel
theorem d_MD_groundSends_144 : decode b_MD_groundSends 144 = .ok (.iload_n 1, 1) := by decide +kernel
theorem d_MD_groundSends_145 : decode b_MD_groundSends 145 = .ok (.iaload, 1) := by decide +kernel
theorem d_MD_groundSends_146 : decode b_MD_groundSends 146 = .ok (.ifCond .eq 34, 3) := by decide +kernel
theorem d_MD_groundSends_149 : decode b_MD_groundSends 149 = .ok (.aload_n 0, 1) := by decide +kernel
theorem d_MD_groundSends_150 : decode b_MD_groundSends 150 = .ok (.getfield 45, 3) := by decide +kernel
theorem d_MD_groundSends_153 : decode b_MD_groundSends 153 = .ok (.iload_n 1, 1) := by decide +kernel
theorem d_MD_groundSends_154 : decode b_MD_groundSends 154 = .ok (.baload, 1) := by decide +kernel
theorem d_MD_groundSends_155 : decode b_MD_groundSends 155 = .ok (.ifCond .ne 19, 3) := by decide +kernel
theorem d_MD_groundSends_158 : decode b_MD_groundSends 158 = .ok (.aload_n 0, 1) := by decide +kernel
theorem d_MD_groundSends_159 : decode b_MD_groundSends 159 = .ok (.getfield 287, 3) := by decide +kernel
theorem d_MD_groundSends_162 : decode b_MD_groundSends 162 = .ok (.ifCond .ne 18, 3) := by decide +kernel
theorem d_MD_groundSends_165 : decode b_MD_groundSends 165 = .ok (.aload_n 0, 1) := by decide +kernel
theorem d_MD_groundSends_166 : decode b_MD_groundSends 166 = .ok (.getfield 284, 3) := by decide +kernel
theorem d_MD_groundSends_169 : decode b_MD_groundSends 169 = .ok (.bipush 7, 2) := by decide +kernel
theorem d_MD_groundSends_171 : decode b_MD_groundSends 171 = .ok (.if_icmp .ge 9, 3) := by decide +kernel
theorem d_MD_groundSends_174 : decode b_MD_groundSends 174 = .ok (.aload_n 0, 1) := by decide +kernel
theorem d_MD_groundSends_175 : decode b_MD_groundSends 175 = .ok (.iload_n 1, 1) := by decide +kernel
theorem d_MD_groundSends_176 : decode b_MD_groundSends 176 = .ok (.invokevirtual 329, 3) := by decide +kernel
theorem d_MD_groundSends_179 : decode b_MD_groundSends 179 = .ok (.return_, 1) := by decide +kernel
theorem d_MD_groundSends_180 : decode b_MD_groundSends 180 = .ok (.iinc 1 1, 3) := by decide +kernel
theorem d_MD_groundSends_183 : decode b_MD_groundSends 183 = .ok (.goto (-60), 3) := by decide +kernel
theorem d_MD_groundSends_186 : decode b_MD_groundSends 186 = .ok (.return_, 1) := by decide +kernel
theorem d_MD_sendDue_0 : decode b_MD_sendDue 0 = .ok (.aload_n 0, 1) := by decide +kernel
theorem d_MD_sendDue_1 : decode b_MD_sendDue 1 = .ok (.aload_n 0, 1) := by decide +kernel
theorem d_MD_sendDue_2 : decode b_MD_sendDue 2 = .ok (.getfield 54, 3) := by decide +kernel
theorem d_MD_sendDue_5 : decode b_MD_sendDue 5 = .ok (.iload_n 1, 1) := by decide +kernel
theorem d_MD_sendDue_6 : decode b_MD_sendDue 6 = .ok (.iaload, 1) := by decide +kernel
theorem d_MD_sendDue_7 : decode b_MD_sendDue 7 = .ok (.invokevirtual 332, 3) := by decide +kernel
theorem d_MD_sendDue_10 : decode b_MD_sendDue 10 = .ok (.istore_n 2, 1) := by decide +kernel
theorem d_MD_sendDue_11 : decode b_MD_sendDue 11 = .ok (.aload_n 0, 1) := by decide +kernel
theorem d_MD_sendDue_12 : decode b_MD_sendDue 12 = .ok (.getfield 54, 3) := by decide +kernel
theorem d_MD_sendDue_15 : decode b_MD_sendDue 15 = .ok (.iload_n 1, 1) := by decide +kernel
theorem d_MD_sendDue_16 : decode b_MD_sendDue 16 = .ok (.aload_n 0, 1) := by decide +kernel
theorem d_MD_sendDue_17 : decode b_MD_sendDue 17 = .ok (.getfield 54, 3) := by decide +kernel
theorem d_MD_sendDue_20 : decode b_MD_sendDue 20 = .ok (.iload_n 1, 1) := by decide +kernel
theorem d_MD_sendDue_21 : decode b_MD_sendDue 21 = .ok (.iaload, 1) := by decide +kernel
theorem d_MD_sendDue_22 : decode b_MD_sendDue 22 = .ok (.iconst 1, 1) := by decide +kernel
theorem d_MD_sendDue_23 : decode b_MD_sendDue 23 = .ok (.iload_n 2, 1) := by decide +kernel
theorem d_MD_sendDue_24 : decode b_MD_sendDue 24 = .ok (.ishl, 1) := by decide +kernel
theorem d_MD_sendDue_25 : decode b_MD_sendDue 25 = .ok (.iconst (-1), 1) := by decide +kernel
theorem d_MD_sendDue_26 : decode b_MD_sendDue 26 = .ok (.ixor, 1) := by decide +kernel
theorem d_MD_sendDue_27 : decode b_MD_sendDue 27 = .ok (.iand, 1) := by decide +kernel
theorem d_MD_sendDue_28 : decode b_MD_sendDue 28 = .ok (.iastore, 1) := by decide +kernel
theorem d_MD_sendDue_29 : decode b_MD_sendDue 29 = .ok (.iload_n 2, 1) := by decide +kernel
theorem d_MD_sendDue_30 : decode b_MD_sendDue 30 = .ok (.bipush 17, 2) := by decide +kernel
theorem d_MD_sendDue_32 : decode b_MD_sendDue 32 = .ok (.if_icmp .ne 16, 3) := by decide +kernel
theorem d_MD_sendDue_35 : decode b_MD_sendDue 35 = .ok (.aload_n 0, 1) := by decide +kernel
theorem d_MD_sendDue_36 : decode b_MD_sendDue 36 = .ok (.getfield 57, 3) := by decide +kernel
theorem d_MD_sendDue_39 : decode b_MD_sendDue 39 = .ok (.iload_n 1, 1) := by decide +kernel
theorem d_MD_sendDue_40 : decode b_MD_sendDue 40 = .ok (.baload, 1) := by decide +kernel
theorem d_MD_sendDue_41 : decode b_MD_sendDue 41 = .ok (.ifCond .eq 7, 3) := by decide +kernel
theorem d_MD_sendDue_44 : decode b_MD_sendDue 44 = .ok (.iconst 1, 1) := by decide +kernel
theorem d_MD_sendDue_45 : decode b_MD_sendDue 45 = .ok (.goto 4, 3) := by decide +kernel
theorem d_MD_sendDue_48 : decode b_MD_sendDue 48 = .ok (.iconst 0, 1) := by decide +kernel
theorem d_MD_sendDue_49 : decode b_MD_sendDue 49 = .ok (.istore_n 3, 1) := by decide +kernel
theorem d_MD_sendDue_50 : decode b_MD_sendDue 50 = .ok (.iload_n 2, 1) := by decide +kernel
theorem d_MD_sendDue_51 : decode b_MD_sendDue 51 = .ok (.bipush 18, 2) := by decide +kernel
theorem d_MD_sendDue_53 : decode b_MD_sendDue 53 = .ok (.if_icmp .ne 7, 3) := by decide +kernel
theorem d_MD_sendDue_56 : decode b_MD_sendDue 56 = .ok (.iconst 5, 1) := by decide +kernel
theorem d_MD_sendDue_57 : decode b_MD_sendDue 57 = .ok (.goto 32, 3) := by decide +kernel
theorem d_MD_sendDue_60 : decode b_MD_sendDue 60 = .ok (.iload_n 2, 1) := by decide +kernel
theorem d_MD_sendDue_61 : decode b_MD_sendDue 61 = .ok (.bipush 16, 2) := by decide +kernel
theorem d_MD_sendDue_63 : decode b_MD_sendDue 63 = .ok (.if_icmp .ne 7, 3) := by decide +kernel
theorem d_MD_sendDue_66 : decode b_MD_sendDue 66 = .ok (.iconst 1, 1) := by decide +kernel
theorem d_MD_sendDue_67 : decode b_MD_sendDue 67 = .ok (.goto 22, 3) := by decide +kernel
theorem d_MD_sendDue_70 : decode b_MD_sendDue 70 = .ok (.iload_n 2, 1) := by decide +kernel
theorem d_MD_sendDue_71 : decode b_MD_sendDue 71 = .ok (.bipush 16, 2) := by decide +kernel
theorem d_MD_sendDue_73 : decode b_MD_sendDue 73 = .ok (.if_icmp .ge 7, 3) := by decide +kernel
theorem d_MD_sendDue_76 : decode b_MD_sendDue 76 = .ok (.iconst 2, 1) := by decide +kernel
theorem d_MD_sendDue_77 : decode b_MD_sendDue 77 = .ok (.goto 12, 3) := by decide +kernel
theorem d_MD_sendDue_80 : decode b_MD_sendDue 80 = .ok (.iload_n 3, 1) := by decide +kernel
theorem d_MD_sendDue_81 : decode b_MD_sendDue 81 = .ok (.ifCond .eq 7, 3) := by decide +kernel
theorem d_MD_sendDue_84 : decode b_MD_sendDue 84 = .ok (.iconst 4, 1) := by decide +kernel
theorem d_MD_sendDue_85 : decode b_MD_sendDue 85 = .ok (.goto 4, 3) := by decide +kernel
theorem d_MD_sendDue_88 : decode b_MD_sendDue 88 = .ok (.iconst 3, 1) := by decide +kernel
theorem d_MD_sendDue_89 : decode b_MD_sendDue 89 = .ok (.istore 4, 2) := by decide +kernel
theorem d_MD_sendDue_91 : decode b_MD_sendDue 91 = .ok (.iload 4, 2) := by decide +kernel
theorem d_MD_sendDue_93 : decode b_MD_sendDue 93 = .ok (.iconst 2, 1) := by decide +kernel
theorem d_MD_sendDue_94 : decode b_MD_sendDue 94 = .ok (.if_icmp .ne 7, 3) := by decide +kernel
theorem d_MD_sendDue_97 : decode b_MD_sendDue 97 = .ok (.iload_n 2, 1) := by decide +kernel
theorem d_MD_sendDue_98 : decode b_MD_sendDue 98 = .ok (.goto 25, 3) := by decide +kernel
theorem d_MD_sendDue_101 : decode b_MD_sendDue 101 = .ok (.iload 4, 2) := by decide +kernel
theorem d_MD_sendDue_103 : decode b_MD_sendDue 103 = .ok (.iconst 1, 1) := by decide +kernel
theorem d_MD_sendDue_104 : decode b_MD_sendDue 104 = .ok (.if_icmp .eq 9, 3) := by decide +kernel
theorem d_MD_sendDue_107 : decode b_MD_sendDue 107 = .ok (.iload 4, 2) := by decide +kernel
theorem d_MD_sendDue_109 : decode b_MD_sendDue 109 = .ok (.iconst 3, 1) := by decide +kernel
theorem d_MD_sendDue_110 : decode b_MD_sendDue 110 = .ok (.if_icmp .ne 12, 3) := by decide +kernel
theorem d_MD_sendDue_113 : decode b_MD_sendDue 113 = .ok (.aload_n 0, 1) := by decide +kernel
theorem d_MD_sendDue_114 : decode b_MD_sendDue 114 = .ok (.getfield 39, 3) := by decide +kernel
theorem d_MD_sendDue_117 : decode b_MD_sendDue 117 = .ok (.iload_n 1, 1) := by decide +kernel
theorem d_MD_sendDue_118 : decode b_MD_sendDue 118 = .ok (.iaload, 1) := by decide +kernel
theorem d_MD_sendDue_119 : decode b_MD_sendDue 119 = .ok (.goto 4, 3) := by decide +kernel
theorem d_MD_sendDue_122 : decode b_MD_sendDue 122 = .ok (.iconst 0, 1) := by decide +kernel
theorem d_MD_sendDue_123 : decode b_MD_sendDue 123 = .ok (.istore 5, 2) := by decide +kernel
theorem d_MD_sendDue_125 : decode b_MD_sendDue 125 = .ok (.iload 4, 2) := by decide +kernel
theorem d_MD_sendDue_127 : decode b_MD_sendDue 127 = .ok (.iconst 1, 1) := by decide +kernel
theorem d_MD_sendDue_128 : decode b_MD_sendDue 128 = .ok (.if_icmp .ne 12, 3) := by decide +kernel
theorem d_MD_sendDue_131 : decode b_MD_sendDue 131 = .ok (.aload_n 0, 1) := by decide +kernel
theorem d_MD_sendDue_132 : decode b_MD_sendDue 132 = .ok (.getfield 42, 3) := by decide +kernel
theorem d_MD_sendDue_135 : decode b_MD_sendDue 135 = .ok (.iload_n 1, 1) := by decide +kernel
theorem d_MD_sendDue_136 : decode b_MD_sendDue 136 = .ok (.iaload, 1) := by decide +kernel
theorem d_MD_sendDue_137 : decode b_MD_sendDue 137 = .ok (.goto 38, 3) := by decide +kernel
theorem d_MD_sendDue_140 : decode b_MD_sendDue 140 = .ok (.iload 4, 2) := by decide +kernel
theorem d_MD_sendDue_142 : decode b_MD_sendDue 142 = .ok (.iconst 2, 1) := by decide +kernel
theorem d_MD_sendDue_143 : decode b_MD_sendDue 143 = .ok (.if_icmp .ne 17, 3) := by decide +kernel
theorem d_MD_sendDue_146 : decode b_MD_sendDue 146 = .ok (.aload_n 0, 1) := by decide +kernel
theorem d_MD_sendDue_147 : decode b_MD_sendDue 147 = .ok (.getfield 36, 3) := by decide +kernel
theorem d_MD_sendDue_150 : decode b_MD_sendDue 150 = .ok (.bipush 16, 2) := by decide +kernel
theorem d_MD_sendDue_152 : decode b_MD_sendDue 152 = .ok (.iload_n 1, 1) := by decide +kernel
theorem d_MD_sendDue_153 : decode b_MD_sendDue 153 = .ok (.imul, 1) := by decide +kernel
theorem d_MD_sendDue_154 : decode b_MD_sendDue 154 = .ok (.iload_n 2, 1) := by decide +kernel
theorem d_MD_sendDue_155 : decode b_MD_sendDue 155 = .ok (.iadd, 1) := by decide +kernel
theorem d_MD_sendDue_156 : decode b_MD_sendDue 156 = .ok (.iaload, 1) := by decide +kernel
theorem d_MD_sendDue_157 : decode b_MD_sendDue 157 = .ok (.goto 18, 3) := by decide +kernel
theorem d_MD_sendDue_160 : decode b_MD_sendDue 160 = .ok (.iload 4, 2) := by decide +kernel
theorem d_MD_sendDue_162 : decode b_MD_sendDue 162 = .ok (.iconst 3, 1) := by decide +kernel
theorem d_MD_sendDue_163 : decode b_MD_sendDue 163 = .ok (.if_icmp .ne 11, 3) := by decide +kernel
theorem d_MD_sendDue_166 : decode b_MD_sendDue 166 = .ok (.aload_n 0, 1) := by decide +kernel
theorem d_MD_sendDue_167 : decode b_MD_sendDue 167 = .ok (.iload_n 1, 1) := by decide +kernel
theorem d_MD_sendDue_168 : decode b_MD_sendDue 168 = .ok (.invokevirtual 335, 3) := by decide +kernel
theorem d_MD_sendDue_171 : decode b_MD_sendDue 171 = .ok (.goto 4, 3) := by decide +kernel
theorem d_MD_sendDue_174 : decode b_MD_sendDue 174 = .ok (.iconst 0, 1) := by decide +kernel
theorem d_MD_sendDue_175 : decode b_MD_sendDue 175 = .ok (.istore 6, 2) := by decide +kernel
theorem d_MD_sendDue_177 : decode b_MD_sendDue 177 = .ok (.iload 6, 2) := by decide +kernel
theorem d_MD_sendDue_179 : decode b_MD_sendDue 179 = .ok (.i2l, 1) := by decide +kernel
theorem d_MD_sendDue_180 : decode b_MD_sendDue 180 = .ok (.ldc2_w 338, 3) := by decide +kernel
theorem d_MD_sendDue_183 : decode b_MD_sendDue 183 = .ok (.land, 1) := by decide +kernel
theorem d_MD_sendDue_184 : decode b_MD_sendDue 184 = .ok (.iload 5, 2) := by decide +kernel
theorem d_MD_sendDue_186 : decode b_MD_sendDue 186 = .ok (.i2l, 1) := by decide +kernel
theorem d_MD_sendDue_187 : decode b_MD_sendDue 187 = .ok (.bipush 32, 2) := by decide +kernel
theorem d_MD_sendDue_189 : decode b_MD_sendDue 189 = .ok (.lshl, 1) := by decide +kernel
theorem d_MD_sendDue_190 : decode b_MD_sendDue 190 = .ok (.lor, 1) := by decide +kernel
theorem d_MD_sendDue_191 : decode b_MD_sendDue 191 = .ok (.iload_n 1, 1) := by decide +kernel
theorem d_MD_sendDue_192 : decode b_MD_sendDue 192 = .ok (.i2l, 1) := by decide +kernel
theorem d_MD_sendDue_193 : decode b_MD_sendDue 193 = .ok (.bipush 40, 2) := by decide +kernel
theorem d_MD_sendDue_195 : decode b_MD_sendDue 195 = .ok (.lshl, 1) := by decide +kernel
theorem d_MD_sendDue_196 : decode b_MD_sendDue 196 = .ok (.lor, 1) := by decide +kernel
theorem d_MD_sendDue_197 : decode b_MD_sendDue 197 = .ok (.iload 4, 2) := by decide +kernel
theorem d_MD_sendDue_199 : decode b_MD_sendDue 199 = .ok (.i2l, 1) := by decide +kernel
theorem d_MD_sendDue_200 : decode b_MD_sendDue 200 = .ok (.bipush 44, 2) := by decide +kernel
theorem d_MD_sendDue_202 : decode b_MD_sendDue 202 = .ok (.lshl, 1) := by decide +kernel
theorem d_MD_sendDue_203 : decode b_MD_sendDue 203 = .ok (.lor, 1) := by decide +kernel
theorem d_MD_sendDue_204 : decode b_MD_sendDue 204 = .ok (.lstore 7, 2) := by decide +kernel
theorem d_MD_sendDue_206 : decode b_MD_sendDue 206 = .ok (.iload_n 2, 1) := by decide +kernel
theorem d_MD_sendDue_207 : decode b_MD_sendDue 207 = .ok (.bipush 17, 2) := by decide +kernel
theorem d_MD_sendDue_209 : decode b_MD_sendDue 209 = .ok (.if_icmp .ne 22, 3) := by decide +kernel
theorem d_MD_sendDue_212 : decode b_MD_sendDue 212 = .ok (.aload_n 0, 1) := by decide +kernel
theorem d_MD_sendDue_213 : decode b_MD_sendDue 213 = .ok (.getfield 66, 3) := by decide +kernel
theorem d_MD_sendDue_216 : decode b_MD_sendDue 216 = .ok (.iload_n 1, 1) := by decide +kernel
theorem d_MD_sendDue_217 : decode b_MD_sendDue 217 = .ok (.iconst 1, 1) := by decide +kernel
theorem d_MD_sendDue_218 : decode b_MD_sendDue 218 = .ok (.bastore, 1) := by decide +kernel
theorem d_MD_sendDue_219 : decode b_MD_sendDue 219 = .ok (.aload_n 0, 1) := by decide +kernel
theorem d_MD_sendDue_220 : decode b_MD_sendDue 220 = .ok (.getfield 72, 3) := by decide +kernel
theorem d_MD_sendDue_223 : decode b_MD_sendDue 223 = .ok (.iload_n 1, 1) := by decide +kernel
theorem d_MD_sendDue_224 : decode b_MD_sendDue 224 = .ok (.iconst 3, 1) := by decide +kernel
theorem d_MD_sendDue_225 : decode b_MD_sendDue 225 = .ok (.aload_n 0, 1) := by decide +kernel
theorem d_MD_sendDue_226 : decode b_MD_sendDue 226 = .ok (.getfield 139, 3) := by decide +kernel
theorem d_MD_sendDue_229 : decode b_MD_sendDue 229 = .ok (.imul, 1) := by decide +kernel
theorem d_MD_sendDue_230 : decode b_MD_sendDue 230 = .ok (.iastore, 1) := by decide +kernel
theorem d_MD_sendDue_231 : decode b_MD_sendDue 231 = .ok (.aload_n 0, 1) := by decide +kernel
theorem d_MD_sendDue_232 : decode b_MD_sendDue 232 = .ok (.getfield 45, 3) := by decide +kernel
theorem d_MD_sendDue_235 : decode b_MD_sendDue 235 = .ok (.iload_n 1, 1) := by decide +kernel
theorem d_MD_sendDue_236 : decode b_MD_sendDue 236 = .ok (.baload, 1) := by decide +kernel
theorem d_MD_sendDue_237 : decode b_MD_sendDue 237 = .ok (.ifCond .eq 14, 3) := by decide +kernel
theorem d_MD_sendDue_240 : decode b_MD_sendDue 240 = .ok (.aload_n 0, 1) := by decide +kernel
theorem d_MD_sendDue_241 : decode b_MD_sendDue 241 = .ok (.lload 7, 2) := by decide +kernel
theorem d_MD_sendDue_243 : decode b_MD_sendDue 243 = .ok (.ldc2_w 340, 3) := by decide +kernel
theorem d_MD_sendDue_246 : decode b_MD_sendDue 246 = .ok (.lor, 1) := by decide +kernel
theorem d_MD_sendDue_247 : decode b_MD_sendDue 247 = .ok (.invokevirtual 326, 3) := by decide +kernel
theorem d_MD_sendDue_250 : decode b_MD_sendDue 250 = .ok (.return_, 1) := by decide +kernel
theorem d_MD_sendDue_251 : decode b_MD_sendDue 251 = .ok (.aload_n 0, 1) := by decide +kernel
theorem d_MD_sendDue_252 : decode b_MD_sendDue 252 = .ok (.getfield 78, 3) := by decide +kernel
theorem d_MD_sendDue_255 : decode b_MD_sendDue 255 = .ok (.aload_n 0, 1) := by decide +kernel
theorem d_MD_sendDue_256 : decode b_MD_sendDue 256 = .ok (.getfield 299, 3) := by decide +kernel
theorem d_MD_sendDue_259 : decode b_MD_sendDue 259 = .ok (.lload 7, 2) := by decide +kernel
theorem d_MD_sendDue_261 : decode b_MD_sendDue 261 = .ok (.aload_n 0, 1) := by decide +kernel
theorem d_MD_sendDue_262 : decode b_MD_sendDue 262 = .ok (.getfield 299, 3) := by decide +kernel
theorem d_MD_sendDue_265 : decode b_MD_sendDue 265 = .ok (.i2l, 1) := by decide +kernel
theorem d_MD_sendDue_266 : decode b_MD_sendDue 266 = .ok (.bipush 48, 2) := by decide +kernel
theorem d_MD_sendDue_268 : decode b_MD_sendDue 268 = .ok (.lshl, 1) := by decide +kernel
theorem d_MD_sendDue_269 : decode b_MD_sendDue 269 = .ok (.lor, 1) := by decide +kernel
theorem d_MD_sendDue_270 : decode b_MD_sendDue 270 = .ok (.lastore, 1) := by decide +kernel
theorem d_MD_sendDue_271 : decode b_MD_sendDue 271 = .ok (.aload_n 0, 1) := by decide +kernel
theorem d_MD_sendDue_272 : decode b_MD_sendDue 272 = .ok (.getfield 81, 3) := by decide +kernel
theorem d_MD_sendDue_275 : decode b_MD_sendDue 275 = .ok (.aload_n 0, 1) := by decide +kernel
theorem d_MD_sendDue_276 : decode b_MD_sendDue 276 = .ok (.getfield 299, 3) := by decide +kernel
theorem d_MD_sendDue_279 : decode b_MD_sendDue 279 = .ok (.iconst 0, 1) := by decide +kernel
theorem d_MD_sendDue_280 : decode b_MD_sendDue 280 = .ok (.bastore, 1) := by decide +kernel
theorem d_MD_sendDue_281 : decode b_MD_sendDue 281 = .ok (.aload_n 0, 1) := by decide +kernel
theorem d_MD_sendDue_282 : decode b_MD_sendDue 282 = .ok (.aload_n 0, 1) := by decide +kernel
theorem d_MD_sendDue_283 : decode b_MD_sendDue 283 = .ok (.getfield 78, 3) := by decide +kernel
theorem d_MD_sendDue_286 : decode b_MD_sendDue 286 = .ok (.aload_n 0, 1) := by decide +kernel
theorem d_MD_sendDue_287 : decode b_MD_sendDue 287 = .ok (.getfield 299, 3) := by decide +kernel
theorem d_MD_sendDue_290 : decode b_MD_sendDue 290 = .ok (.laload, 1) := by decide +kernel
theorem d_MD_sendDue_291 : decode b_MD_sendDue 291 = .ok (.invokevirtual 326, 3) := by decide +kernel
theorem d_MD_sendDue_294 : decode b_MD_sendDue 294 = .ok (.aload_n 0, 1) := by decide +kernel
theorem d_MD_sendDue_295 : decode b_MD_sendDue 295 = .ok (.aload_n 0, 1) := by decide +kernel
theorem d_MD_sendDue_296 : decode b_MD_sendDue 296 = .ok (.getfield 299, 3) := by decide +kernel
theorem d_MD_sendDue_299 : decode b_MD_sendDue 299 = .ok (.iconst 1, 1) := by decide +kernel
theorem d_MD_sendDue_300 : decode b_MD_sendDue 300 = .ok (.iadd, 1) := by decide +kernel
theorem d_MD_sendDue_301 : decode b_MD_sendDue 301 = .ok (.bipush 15, 2) := by decide +kernel
theorem d_MD_sendDue_303 : decode b_MD_sendDue 303 = .ok (.iand, 1) := by decide +kernel
theorem d_MD_sendDue_304 : decode b_MD_sendDue 304 = .ok (.putfield 299, 3) := by decide +kernel
theorem d_MD_sendDue_307 : decode b_MD_sendDue 307 = .ok (.aload_n 0, 1) := by decide +kernel
theorem d_MD_sendDue_308 : decode b_MD_sendDue 308 = .ok (.dup, 1) := by decide +kernel
theorem d_MD_sendDue_309 : decode b_MD_sendDue 309 = .ok (.getfield 284, 3) := by decide +kernel
theorem d_MD_sendDue_312 : decode b_MD_sendDue 312 = .ok (.iconst 1, 1) := by decide +kernel
theorem d_MD_sendDue_313 : decode b_MD_sendDue 313 = .ok (.iadd, 1) := by decide +kernel
theorem d_MD_sendDue_314 : decode b_MD_sendDue 314 = .ok (.putfield 284, 3) := by decide +kernel
theorem d_MD_sendDue_317 : decode b_MD_sendDue 317 = .ok (.aload_n 0, 1) := by decide +kernel
theorem d_MD_sendDue_318 : decode b_MD_sendDue 318 = .ok (.aload_n 0, 1) := by decide +kernel
theorem d_MD_sendDue_319 : decode b_MD_sendDue 319 = .ok (.getfield 139, 3) := by decide +kernel
theorem d_MD_sendDue_322 : decode b_MD_sendDue 322 = .ok (.putfield 296, 3) := by decide +kernel
theorem d_MD_sendDue_325 : decode b_MD_sendDue 325 = .ok (.aload_n 0, 1) := by decide +kernel
theorem d_MD_sendDue_326 : decode b_MD_sendDue 326 = .ok (.aload_n 0, 1) := by decide +kernel
theorem d_MD_sendDue_327 : decode b_MD_sendDue 327 = .ok (.getfield 284, 3) := by decide +kernel
theorem d_MD_sendDue_330 : decode b_MD_sendDue 330 = .ok (.iconst 1, 1) := by decide +kernel
theorem d_MD_sendDue_331 : decode b_MD_sendDue 331 = .ok (.if_icmp .ne 7, 3) := by decide +kernel
theorem d_MD_sendDue_334 : decode b_MD_sendDue 334 = .ok (.iconst 1, 1) := by decide +kernel
theorem d_MD_sendDue_335 : decode b_MD_sendDue 335 = .ok (.goto 7, 3) := by decide +kernel
theorem d_MD_sendDue_338 : decode b_MD_sendDue 338 = .ok (.aload_n 0, 1) := by decide +kernel
theorem d_MD_sendDue_339 : decode b_MD_sendDue 339 = .ok (.getfield 84, 3) := by decide +kernel
theorem d_MD_sendDue_342 : decode b_MD_sendDue 342 = .ok (.putfield 84, 3) := by decide +kernel
theorem d_MD_sendDue_345 : decode b_MD_sendDue 345 = .ok (.return_, 1) := by decide +kernel
