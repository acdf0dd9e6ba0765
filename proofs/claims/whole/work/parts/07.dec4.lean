theorem dX11_tithes_92 : decode cX11_tithes 92 = .ok (.iconst 0, 1) := by decide +kernel
theorem dX11_tithes_93 : decode cX11_tithes 93 = .ok (.invokevirtual 215, 3) := by decide +kernel
theorem dX11_tithes_96 : decode cX11_tithes 96 = .ok (.aload_n 0, 1) := by decide +kernel
theorem dX11_tithes_97 : decode cX11_tithes 97 = .ok (.iconst 0, 1) := by decide +kernel
theorem dX11_tithes_98 : decode cX11_tithes 98 = .ok (.putfield 173, 3) := by decide +kernel
theorem dX11_tithes_101 : decode cX11_tithes 101 = .ok (.aload_n 0, 1) := by decide +kernel
theorem dX11_tithes_102 : decode cX11_tithes 102 = .ok (.getfield 208, 3) := by decide +kernel
theorem dX11_tithes_105 : decode cX11_tithes 105 = .ok (.ifCond .eq 10, 3) := by decide +kernel
theorem dX11_tithes_108 : decode cX11_tithes 108 = .ok (.aload_n 0, 1) := by decide +kernel
theorem dX11_tithes_109 : decode cX11_tithes 109 = .ok (.bipush (-6), 2) := by decide +kernel
theorem dX11_tithes_111 : decode cX11_tithes 111 = .ok (.invokevirtual 120, 3) := by decide +kernel
theorem dX11_tithes_114 : decode cX11_tithes 114 = .ok (.ireturn, 1) := by decide +kernel
theorem dX11_tithes_115 : decode cX11_tithes 115 = .ok (.aload_n 0, 1) := by decide +kernel
theorem dX11_tithes_116 : decode cX11_tithes 116 = .ok (.aload_n 0, 1) := by decide +kernel
theorem dX11_tithes_117 : decode cX11_tithes 117 = .ok (.getfield 223, 3) := by decide +kernel
theorem dX11_tithes_120 : decode cX11_tithes 120 = .ok (.putfield 235, 3) := by decide +kernel
theorem dX11_tithes_123 : decode cX11_tithes 123 = .ok (.iconst 0, 1) := by decide +kernel
theorem dX11_tithes_124 : decode cX11_tithes 124 = .ok (.istore_n 1, 1) := by decide +kernel
theorem dX11_tithes_125 : decode cX11_tithes 125 = .ok (.iload_n 1, 1) := by decide +kernel
theorem dX11_tithes_126 : decode cX11_tithes 126 = .ok (.aload_n 0, 1) := by decide +kernel
theorem dX11_tithes_127 : decode cX11_tithes 127 = .ok (.getfield 235, 3) := by decide +kernel
theorem dX11_tithes_130 : decode cX11_tithes 130 = .ok (.if_icmp .ge 71, 3) := by decide +kernel
theorem dX11_tithes_133 : decode cX11_tithes 133 = .ok (.aload_n 0, 1) := by decide +kernel
theorem dX11_tithes_134 : decode cX11_tithes 134 = .ok (.getfield 44, 3) := by decide +kernel
theorem dX11_tithes_137 : decode cX11_tithes 137 = .ok (.iload_n 1, 1) := by decide +kernel
theorem dX11_tithes_138 : decode cX11_tithes 138 = .ok (.aload_n 0, 1) := by decide +kernel
theorem dX11_tithes_139 : decode cX11_tithes 139 = .ok (.getfield 56, 3) := by decide +kernel
theorem dX11_tithes_142 : decode cX11_tithes 142 = .ok (.iconst 4, 1) := by decide +kernel
theorem dX11_tithes_143 : decode cX11_tithes 143 = .ok (.iload_n 1, 1) := by decide +kernel
theorem dX11_tithes_144 : decode cX11_tithes 144 = .ok (.imul, 1) := by decide +kernel
theorem dX11_tithes_145 : decode cX11_tithes 145 = .ok (.iaload, 1) := by decide +kernel
theorem dX11_tithes_146 : decode cX11_tithes 146 = .ok (.iastore, 1) := by decide +kernel
theorem dX11_tithes_147 : decode cX11_tithes 147 = .ok (.aload_n 0, 1) := by decide +kernel
theorem dX11_tithes_148 : decode cX11_tithes 148 = .ok (.getfield 47, 3) := by decide +kernel
theorem dX11_tithes_151 : decode cX11_tithes 151 = .ok (.iload_n 1, 1) := by decide +kernel
theorem dX11_tithes_152 : decode cX11_tithes 152 = .ok (.aload_n 0, 1) := by decide +kernel
theorem dX11_tithes_153 : decode cX11_tithes 153 = .ok (.getfield 56, 3) := by decide +kernel
theorem dX11_tithes_156 : decode cX11_tithes 156 = .ok (.iconst 4, 1) := by decide +kernel
theorem dX11_tithes_157 : decode cX11_tithes 157 = .ok (.iload_n 1, 1) := by decide +kernel
theorem dX11_tithes_158 : decode cX11_tithes 158 = .ok (.imul, 1) := by decide +kernel
theorem dX11_tithes_159 : decode cX11_tithes 159 = .ok (.iconst 1, 1) := by decide +kernel
theorem dX11_tithes_160 : decode cX11_tithes 160 = .ok (.iadd, 1) := by decide +kernel
theorem dX11_tithes_161 : decode cX11_tithes 161 = .ok (.iaload, 1) := by decide +kernel
theorem dX11_tithes_162 : decode cX11_tithes 162 = .ok (.iastore, 1) := by decide +kernel
theorem dX11_tithes_163 : decode cX11_tithes 163 = .ok (.aload_n 0, 1) := by decide +kernel
theorem dX11_tithes_164 : decode cX11_tithes 164 = .ok (.getfield 50, 3) := by decide +kernel
theorem dX11_tithes_167 : decode cX11_tithes 167 = .ok (.iload_n 1, 1) := by decide +kernel
theorem dX11_tithes_168 : decode cX11_tithes 168 = .ok (.aload_n 0, 1) := by decide +kernel
theorem dX11_tithes_169 : decode cX11_tithes 169 = .ok (.getfield 56, 3) := by decide +kernel
theorem dX11_tithes_172 : decode cX11_tithes 172 = .ok (.iconst 4, 1) := by decide +kernel
theorem dX11_tithes_173 : decode cX11_tithes 173 = .ok (.iload_n 1, 1) := by decide +kernel
theorem dX11_tithes_174 : decode cX11_tithes 174 = .ok (.imul, 1) := by decide +kernel
theorem dX11_tithes_175 : decode cX11_tithes 175 = .ok (.iconst 2, 1) := by decide +kernel
theorem dX11_tithes_176 : decode cX11_tithes 176 = .ok (.iadd, 1) := by decide +kernel
theorem dX11_tithes_177 : decode cX11_tithes 177 = .ok (.iaload, 1) := by decide +kernel
theorem dX11_tithes_178 : decode cX11_tithes 178 = .ok (.iastore, 1) := by decide +kernel
theorem dX11_tithes_179 : decode cX11_tithes 179 = .ok (.aload_n 0, 1) := by decide +kernel
theorem dX11_tithes_180 : decode cX11_tithes 180 = .ok (.getfield 53, 3) := by decide +kernel
theorem dX11_tithes_183 : decode cX11_tithes 183 = .ok (.iload_n 1, 1) := by decide +kernel
theorem dX11_tithes_184 : decode cX11_tithes 184 = .ok (.aload_n 0, 1) := by decide +kernel
theorem dX11_tithes_185 : decode cX11_tithes 185 = .ok (.getfield 56, 3) := by decide +kernel
theorem dX11_tithes_188 : decode cX11_tithes 188 = .ok (.iconst 4, 1) := by decide +kernel
theorem dX11_tithes_189 : decode cX11_tithes 189 = .ok (.iload_n 1, 1) := by decide +kernel
theorem dX11_tithes_190 : decode cX11_tithes 190 = .ok (.imul, 1) := by decide +kernel
theorem dX11_tithes_191 : decode cX11_tithes 191 = .ok (.iconst 3, 1) := by decide +kernel
theorem dX11_tithes_192 : decode cX11_tithes 192 = .ok (.iadd, 1) := by decide +kernel
theorem dX11_tithes_193 : decode cX11_tithes 193 = .ok (.iaload, 1) := by decide +kernel
theorem dX11_tithes_194 : decode cX11_tithes 194 = .ok (.iastore, 1) := by decide +kernel
theorem dX11_tithes_195 : decode cX11_tithes 195 = .ok (.iinc 1 1, 3) := by decide +kernel
theorem dX11_tithes_198 : decode cX11_tithes 198 = .ok (.goto (-73), 3) := by decide +kernel
theorem dX11_tithes_201 : decode cX11_tithes 201 = .ok (.aload_n 0, 1) := by decide +kernel
theorem dX11_tithes_202 : decode cX11_tithes 202 = .ok (.aload_n 0, 1) := by decide +kernel
theorem dX11_tithes_203 : decode cX11_tithes 203 = .ok (.getfield 235, 3) := by decide +kernel
theorem dX11_tithes_206 : decode cX11_tithes 206 = .ok (.invokevirtual 120, 3) := by decide +kernel
theorem dX11_tithes_209 : decode cX11_tithes 209 = .ok (.ireturn, 1) := by decide +kernel
theorem dX11_fault_0 : decode cX11_fault 0 = .ok (.aload_n 0, 1) := by decide +kernel
theorem dX11_fault_1 : decode cX11_fault 1 = .ok (.iconst 0, 1) := by decide +kernel
theorem dX11_fault_2 : decode cX11_fault 2 = .ok (.putfield 102, 3) := by decide +kernel
theorem dX11_fault_5 : decode cX11_fault 5 = .ok (.aload_n 0, 1) := by decide +kernel
theorem dX11_fault_6 : decode cX11_fault 6 = .ok (.getfield 62, 3) := by decide +kernel
theorem dX11_fault_9 : decode cX11_fault 9 = .ok (.ireturn, 1) := by decide +kernel
theorem dX11_titheOf_0 : decode cX11_titheOf 0 = .ok (.lconst 0, 1) := by decide +kernel
theorem dX11_titheOf_1 : decode cX11_titheOf 1 = .ok (.lstore 4, 2) := by decide +kernel
theorem dX11_titheOf_3 : decode cX11_titheOf 3 = .ok (.iconst 0, 1) := by decide +kernel
theorem dX11_titheOf_4 : decode cX11_titheOf 4 = .ok (.istore 6, 2) := by decide +kernel
theorem dX11_titheOf_6 : decode cX11_titheOf 6 = .ok (.iconst 0, 1) := by decide +kernel
theorem dX11_titheOf_7 : decode cX11_titheOf 7 = .ok (.istore 7, 2) := by decide +kernel
theorem dX11_titheOf_9 : decode cX11_titheOf 9 = .ok (.iload 7, 2) := by decide +kernel
theorem dX11_titheOf_11 : decode cX11_titheOf 11 = .ok (.aload_n 0, 1) := by decide +kernel
theorem dX11_titheOf_12 : decode cX11_titheOf 12 = .ok (.getfield 235, 3) := by decide +kernel
theorem dX11_titheOf_15 : decode cX11_titheOf 15 = .ok (.if_icmp .ge 154, 3) := by decide +kernel
theorem dX11_titheOf_18 : decode cX11_titheOf 18 = .ok (.aload_n 0, 1) := by decide +kernel
theorem dX11_titheOf_19 : decode cX11_titheOf 19 = .ok (.getfield 44, 3) := by decide +kernel
theorem dX11_titheOf_22 : decode cX11_titheOf 22 = .ok (.iload 7, 2) := by decide +kernel
theorem dX11_titheOf_24 : decode cX11_titheOf 24 = .ok (.iaload, 1) := by decide +kernel
theorem dX11_titheOf_25 : decode cX11_titheOf 25 = .ok (.tableswitch 109 0 2 #[27, 55, 97], 27) := by decide +kernel
theorem dX11_titheOf_52 : decode cX11_titheOf 52 = .ok (.lload 4, 2) := by decide +kernel
theorem dX11_titheOf_54 : decode cX11_titheOf 54 = .ok (.iload_n 3, 1) := by decide +kernel
theorem dX11_titheOf_55 : decode cX11_titheOf 55 = .ok (.i2l, 1) := by decide +kernel
theorem dX11_titheOf_56 : decode cX11_titheOf 56 = .ok (.aload_n 0, 1) := by decide +kernel
theorem dX11_titheOf_57 : decode cX11_titheOf 57 = .ok (.getfield 47, 3) := by decide +kernel
theorem dX11_titheOf_60 : decode cX11_titheOf 60 = .ok (.iload 7, 2) := by decide +kernel
theorem dX11_titheOf_62 : decode cX11_titheOf 62 = .ok (.iaload, 1) := by decide +kernel
theorem dX11_titheOf_63 : decode cX11_titheOf 63 = .ok (.i2l, 1) := by decide +kernel
theorem dX11_titheOf_64 : decode cX11_titheOf 64 = .ok (.lmul, 1) := by decide +kernel
theorem dX11_titheOf_65 : decode cX11_titheOf 65 = .ok (.aload_n 0, 1) := by decide +kernel
theorem dX11_titheOf_66 : decode cX11_titheOf 66 = .ok (.getfield 50, 3) := by decide +kernel
theorem dX11_titheOf_69 : decode cX11_titheOf 69 = .ok (.iload 7, 2) := by decide +kernel
theorem dX11_titheOf_71 : decode cX11_titheOf 71 = .ok (.iaload, 1) := by decide +kernel
theorem dX11_titheOf_72 : decode cX11_titheOf 72 = .ok (.i2l, 1) := by decide +kernel
theorem dX11_titheOf_73 : decode cX11_titheOf 73 = .ok (.ldiv, 1) := by decide +kernel
theorem dX11_titheOf_74 : decode cX11_titheOf 74 = .ok (.ladd, 1) := by decide +kernel
theorem dX11_titheOf_75 : decode cX11_titheOf 75 = .ok (.lstore 4, 2) := by decide +kernel
theorem dX11_titheOf_77 : decode cX11_titheOf 77 = .ok (.goto 86, 3) := by decide +kernel
theorem dX11_titheOf_80 : decode cX11_titheOf 80 = .ok (.lload 4, 2) := by decide +kernel
theorem dX11_titheOf_82 : decode cX11_titheOf 82 = .ok (.iload_n 2, 1) := by decide +kernel
theorem dX11_titheOf_83 : decode cX11_titheOf 83 = .ok (.aload_n 0, 1) := by decide +kernel
theorem dX11_titheOf_84 : decode cX11_titheOf 84 = .ok (.getfield 53, 3) := by decide +kernel
theorem dX11_titheOf_87 : decode cX11_titheOf 87 = .ok (.iload 7, 2) := by decide +kernel
theorem dX11_titheOf_89 : decode cX11_titheOf 89 = .ok (.iaload, 1) := by decide +kernel
theorem dX11_titheOf_90 : decode cX11_titheOf 90 = .ok (.if_icmp .ge 7, 3) := by decide +kernel
theorem dX11_titheOf_93 : decode cX11_titheOf 93 = .ok (.lconst 0, 1) := by decide +kernel
theorem dX11_titheOf_94 : decode cX11_titheOf 94 = .ok (.goto 22, 3) := by decide +kernel
theorem dX11_titheOf_97 : decode cX11_titheOf 97 = .ok (.iload_n 1, 1) := by decide +kernel
theorem dX11_titheOf_98 : decode cX11_titheOf 98 = .ok (.aload_n 0, 1) := by decide +kernel
theorem dX11_titheOf_99 : decode cX11_titheOf 99 = .ok (.getfield 47, 3) := by decide +kernel
theorem dX11_titheOf_102 : decode cX11_titheOf 102 = .ok (.iload 7, 2) := by decide +kernel
theorem dX11_titheOf_104 : decode cX11_titheOf 104 = .ok (.iaload, 1) := by decide +kernel
theorem dX11_titheOf_105 : decode cX11_titheOf 105 = .ok (.idiv, 1) := by decide +kernel
theorem dX11_titheOf_106 : decode cX11_titheOf 106 = .ok (.i2l, 1) := by decide +kernel
theorem dX11_titheOf_107 : decode cX11_titheOf 107 = .ok (.aload_n 0, 1) := by decide +kernel
theorem dX11_titheOf_108 : decode cX11_titheOf 108 = .ok (.getfield 50, 3) := by decide +kernel
theorem dX11_titheOf_111 : decode cX11_titheOf 111 = .ok (.iload 7, 2) := by decide +kernel
theorem dX11_titheOf_113 : decode cX11_titheOf 113 = .ok (.iaload, 1) := by decide +kernel
theorem dX11_titheOf_114 : decode cX11_titheOf 114 = .ok (.i2l, 1) := by decide +kernel
theorem dX11_titheOf_115 : decode cX11_titheOf 115 = .ok (.lmul, 1) := by decide +kernel
theorem dX11_titheOf_116 : decode cX11_titheOf 116 = .ok (.ladd, 1) := by decide +kernel
theorem dX11_titheOf_117 : decode cX11_titheOf 117 = .ok (.lstore 4, 2) := by decide +kernel
theorem dX11_titheOf_119 : decode cX11_titheOf 119 = .ok (.goto 44, 3) := by decide +kernel
theorem dX11_titheOf_122 : decode cX11_titheOf 122 = .ok (.aload_n 0, 1) := by decide +kernel
theorem dX11_titheOf_123 : decode cX11_titheOf 123 = .ok (.getfield 47, 3) := by decide +kernel
theorem dX11_titheOf_126 : decode cX11_titheOf 126 = .ok (.iload 7, 2) := by decide +kernel
theorem dX11_titheOf_128 : decode cX11_titheOf 128 = .ok (.iaload, 1) := by decide +kernel
theorem dX11_titheOf_129 : decode cX11_titheOf 129 = .ok (.istore 6, 2) := by decide +kernel
theorem dX11_titheOf_131 : decode cX11_titheOf 131 = .ok (.goto 32, 3) := by decide +kernel
theorem dX11_titheOf_134 : decode cX11_titheOf 134 = .ok (.lload 4, 2) := by decide +kernel
theorem dX11_titheOf_136 : decode cX11_titheOf 136 = .ok (.aload_n 0, 1) := by decide +kernel
theorem dX11_titheOf_137 : decode cX11_titheOf 137 = .ok (.getfield 47, 3) := by decide +kernel
theorem dX11_titheOf_140 : decode cX11_titheOf 140 = .ok (.iload 7, 2) := by decide +kernel
theorem dX11_titheOf_142 : decode cX11_titheOf 142 = .ok (.iaload, 1) := by decide +kernel
theorem dX11_titheOf_143 : decode cX11_titheOf 143 = .ok (.i2l, 1) := by decide +kernel
theorem dX11_titheOf_144 : decode cX11_titheOf 144 = .ok (.lcmp, 1) := by decide +kernel
theorem dX11_titheOf_145 : decode cX11_titheOf 145 = .ok (.ifCond .le 14, 3) := by decide +kernel
theorem dX11_titheOf_148 : decode cX11_titheOf 148 = .ok (.aload_n 0, 1) := by decide +kernel
theorem dX11_titheOf_149 : decode cX11_titheOf 149 = .ok (.getfield 47, 3) := by decide +kernel
theorem dX11_titheOf_152 : decode cX11_titheOf 152 = .ok (.iload 7, 2) := by decide +kernel
theorem dX11_titheOf_154 : decode cX11_titheOf 154 = .ok (.iaload, 1) := by decide +kernel
theorem dX11_titheOf_155 : decode cX11_titheOf 155 = .ok (.i2l, 1) := by decide +kernel
theorem dX11_titheOf_156 : decode cX11_titheOf 156 = .ok (.goto 5, 3) := by decide +kernel
theorem dX11_titheOf_159 : decode cX11_titheOf 159 = .ok (.lload 4, 2) := by decide +kernel
theorem dX11_titheOf_161 : decode cX11_titheOf 161 = .ok (.lstore 4, 2) := by decide +kernel
theorem dX11_titheOf_163 : decode cX11_titheOf 163 = .ok (.iinc 7 1, 3) := by decide +kernel
theorem dX11_titheOf_166 : decode cX11_titheOf 166 = .ok (.goto (-157), 3) := by decide +kernel
theorem dX11_titheOf_169 : decode cX11_titheOf 169 = .ok (.iload_n 1, 1) := by decide +kernel
theorem dX11_titheOf_170 : decode cX11_titheOf 170 = .ok (.iload 6, 2) := by decide +kernel
theorem dX11_titheOf_172 : decode cX11_titheOf 172 = .ok (.if_icmp .ge 7, 3) := by decide +kernel
theorem dX11_titheOf_175 : decode cX11_titheOf 175 = .ok (.lconst 0, 1) := by decide +kernel
theorem dX11_titheOf_176 : decode cX11_titheOf 176 = .ok (.goto 5, 3) := by decide +kernel
theorem dX11_titheOf_179 : decode cX11_titheOf 179 = .ok (.lload 4, 2) := by decide +kernel
theorem dX11_titheOf_181 : decode cX11_titheOf 181 = .ok (.lreturn, 1) := by decide +kernel
theorem dX11_tithe_0 : decode cX11_tithe 0 = .ok (.aload_n 0, 1) := by decide +kernel
theorem dX11_tithe_1 : decode cX11_tithe 1 = .ok (.iconst 0, 1) := by decide +kernel
theorem dX11_tithe_2 : decode cX11_tithe 2 = .ok (.putfield 102, 3) := by decide +kernel
theorem dX11_tithe_5 : decode cX11_tithe 5 = .ok (.iload_n 1, 1) := by decide +kernel
theorem dX11_tithe_6 : decode cX11_tithe 6 = .ok (.i2l, 1) := by decide +kernel
theorem dX11_tithe_7 : decode cX11_tithe 7 = .ok (.lconst 0, 1) := by decide +kernel
theorem dX11_tithe_8 : decode cX11_tithe 8 = .ok (.ldc2_w 145, 3) := by decide +kernel
theorem dX11_tithe_11 : decode cX11_tithe 11 = .ok (.invokestatic 110, 3) := by decide +kernel
theorem dX11_tithe_14 : decode cX11_tithe 14 = .ok (.ifCond .eq 37, 3) := by decide +kernel
theorem dX11_tithe_17 : decode cX11_tithe 17 = .ok (.iload_n 2, 1) := by decide +kernel
theorem dX11_tithe_18 : decode cX11_tithe 18 = .ok (.i2l, 1) := by decide +kernel
theorem dX11_tithe_19 : decode cX11_tithe 19 = .ok (.lconst 0, 1) := by decide +kernel
theorem dX11_tithe_20 : decode cX11_tithe 20 = .ok (.ldc2_w 116, 3) := by decide +kernel
theorem dX11_tithe_23 : decode cX11_tithe 23 = .ok (.invokestatic 110, 3) := by decide +kernel
theorem dX11_tithe_26 : decode cX11_tithe 26 = .ok (.ifCond .eq 25, 3) := by decide +kernel
theorem dX11_tithe_29 : decode cX11_tithe 29 = .ok (.iload_n 3, 1) := by decide +kernel
theorem dX11_tithe_30 : decode cX11_tithe 30 = .ok (.i2l, 1) := by decide +kernel
theorem dX11_tithe_31 : decode cX11_tithe 31 = .ok (.lconst 0, 1) := by decide +kernel
theorem dX11_tithe_32 : decode cX11_tithe 32 = .ok (.ldc2_w 238, 3) := by decide +kernel
theorem dX11_tithe_35 : decode cX11_tithe 35 = .ok (.invokestatic 110, 3) := by decide +kernel
theorem dX11_tithe_38 : decode cX11_tithe 38 = .ok (.ifCond .eq 13, 3) := by decide +kernel
theorem dX11_tithe_41 : decode cX11_tithe 41 = .ok (.aload_n 0, 1) := by decide +kernel
theorem dX11_tithe_42 : decode cX11_tithe 42 = .ok (.iload_n 1, 1) := by decide +kernel
theorem dX11_tithe_43 : decode cX11_tithe 43 = .ok (.iload_n 2, 1) := by decide +kernel
theorem dX11_tithe_44 : decode cX11_tithe 44 = .ok (.iload_n 3, 1) := by decide +kernel
theorem dX11_tithe_45 : decode cX11_tithe 45 = .ok (.invokevirtual 240, 3) := by decide +kernel
theorem dX11_tithe_48 : decode cX11_tithe 48 = .ok (.goto 6, 3) := by decide +kernel
theorem dX11_tithe_51 : decode cX11_tithe 51 = .ok (.ldc2_w 147, 3) := by decide +kernel
theorem dX11_tithe_54 : decode cX11_tithe 54 = .ok (.lreturn, 1) := by decide +kernel
theorem dX11_ageBy_0 : decode cX11_ageBy 0 = .ok (.iload_n 1, 1) := by decide +kernel
theorem dX11_ageBy_1 : decode cX11_ageBy 1 = .ok (.ifCond .ne 7, 3) := by decide +kernel
theorem dX11_ageBy_4 : decode cX11_ageBy 4 = .ok (.iload_n 0, 1) := by decide +kernel
theorem dX11_ageBy_5 : decode cX11_ageBy 5 = .ok (.goto 14, 3) := by decide +kernel
theorem dX11_ageBy_8 : decode cX11_ageBy 8 = .ok (.iload_n 1, 1) := by decide +kernel
theorem dX11_ageBy_9 : decode cX11_ageBy 9 = .ok (.iconst 1, 1) := by decide +kernel
theorem dX11_ageBy_10 : decode cX11_ageBy 10 = .ok (.if_icmp .ne 8, 3) := by decide +kernel
theorem dX11_ageBy_13 : decode cX11_ageBy 13 = .ok (.bipush 25, 2) := by decide +kernel
theorem dX11_ageBy_15 : decode cX11_ageBy 15 = .ok (.goto 4, 3) := by decide +kernel
theorem dX11_ageBy_18 : decode cX11_ageBy 18 = .ok (.iconst 0, 1) := by decide +kernel
theorem dX11_ageBy_19 : decode cX11_ageBy 19 = .ok (.ireturn, 1) := by decide +kernel
theorem dX11_canDo_0 : decode cX11_canDo 0 = .ok (.iload_n 1, 1) := by decide +kernel
theorem dX11_canDo_1 : decode cX11_canDo 1 = .ok (.ifCond .eq 27, 3) := by decide +kernel
theorem dX11_canDo_4 : decode cX11_canDo 4 = .ok (.iload_n 1, 1) := by decide +kernel
theorem dX11_canDo_5 : decode cX11_canDo 5 = .ok (.iconst 2, 1) := by decide +kernel
theorem dX11_canDo_6 : decode cX11_canDo 6 = .ok (.if_icmp .ne 7, 3) := by decide +kernel
theorem dX11_canDo_9 : decode cX11_canDo 9 = .ok (.iconst 1, 1) := by decide +kernel
theorem dX11_canDo_10 : decode cX11_canDo 10 = .ok (.goto 4, 3) := by decide +kernel
theorem dX11_canDo_13 : decode cX11_canDo 13 = .ok (.iconst 0, 1) := by decide +kernel
theorem dX11_canDo_14 : decode cX11_canDo 14 = .ok (.iload_n 0, 1) := by decide +kernel
theorem dX11_canDo_15 : decode cX11_canDo 15 = .ok (.bipush 25, 2) := by decide +kernel
theorem dX11_canDo_17 : decode cX11_canDo 17 = .ok (.if_icmp .ne 7, 3) := by decide +kernel
theorem dX11_canDo_20 : decode cX11_canDo 20 = .ok (.iconst 1, 1) := by decide +kernel
theorem dX11_canDo_21 : decode cX11_canDo 21 = .ok (.goto 4, 3) := by decide +kernel
theorem dX11_canDo_24 : decode cX11_canDo 24 = .ok (.iconst 0, 1) := by decide +kernel
theorem dX11_canDo_25 : decode cX11_canDo 25 = .ok (.if_icmp .ne 7, 3) := by decide +kernel
theorem dX11_canDo_28 : decode cX11_canDo 28 = .ok (.iconst 1, 1) := by decide +kernel
theorem dX11_canDo_29 : decode cX11_canDo 29 = .ok (.goto 4, 3) := by decide +kernel
theorem dX11_canDo_32 : decode cX11_canDo 32 = .ok (.iconst 0, 1) := by decide +kernel
theorem dX11_canDo_33 : decode cX11_canDo 33 = .ok (.ireturn, 1) := by decide +kernel
theorem dX11_older_0 : decode cX11_older 0 = .ok (.iload_n 0, 1) := by decide +kernel
theorem dX11_older_1 : decode cX11_older 1 = .ok (.bipush 25, 2) := by decide +kernel
theorem dX11_older_3 : decode cX11_older 3 = .ok (.if_icmp .eq 9, 3) := by decide +kernel
theorem dX11_older_6 : decode cX11_older 6 = .ok (.iload_n 0, 1) := by decide +kernel
theorem dX11_older_7 : decode cX11_older 7 = .ok (.bipush 24, 2) := by decide +kernel
theorem dX11_older_9 : decode cX11_older 9 = .ok (.if_icmp .ne 7, 3) := by decide +kernel
theorem dX11_older_12 : decode cX11_older 12 = .ok (.iload_n 0, 1) := by decide +kernel
theorem dX11_older_13 : decode cX11_older 13 = .ok (.goto 6, 3) := by decide +kernel
theorem dX11_older_16 : decode cX11_older 16 = .ok (.iload_n 0, 1) := by decide +kernel
theorem dX11_older_17 : decode cX11_older 17 = .ok (.iconst 1, 1) := by decide +kernel
theorem dX11_older_18 : decode cX11_older 18 = .ok (.iadd, 1) := by decide +kernel
theorem dX11_older_19 : decode cX11_older 19 = .ok (.ireturn, 1) := by decide +kernel
theorem dX11_gainOf_0 : decode cX11_gainOf 0 = .ok (.iload_n 2, 1) := by decide +kernel
theorem dX11_gainOf_1 : decode cX11_gainOf 1 = .ok (.bipush 25, 2) := by decide +kernel
theorem dX11_gainOf_3 : decode cX11_gainOf 3 = .ok (.if_icmp .ne 5, 3) := by decide +kernel
theorem dX11_gainOf_6 : decode cX11_gainOf 6 = .ok (.lconst 0, 1) := by decide +kernel
theorem dX11_gainOf_7 : decode cX11_gainOf 7 = .ok (.lreturn, 1) := by decide +kernel
theorem dX11_gainOf_8 : decode cX11_gainOf 8 = .ok (.aload_n 0, 1) := by decide +kernel
theorem dX11_gainOf_9 : decode cX11_gainOf 9 = .ok (.aload_n 0, 1) := by decide +kernel
theorem dX11_gainOf_10 : decode cX11_gainOf 10 = .ok (.iload_n 1, 1) := by decide +kernel
theorem dX11_gainOf_11 : decode cX11_gainOf 11 = .ok (.iload_n 2, 1) := by decide +kernel
theorem dX11_gainOf_12 : decode cX11_gainOf 12 = .ok (.invokevirtual 152, 3) := by decide +kernel
theorem dX11_gainOf_15 : decode cX11_gainOf 15 = .ok (.iload_n 3, 1) := by decide +kernel
theorem dX11_gainOf_16 : decode cX11_gainOf 16 = .ok (.invokevirtual 169, 3) := by decide +kernel
theorem dX11_gainOf_19 : decode cX11_gainOf 19 = .ok (.aload_n 0, 1) := by decide +kernel
theorem dX11_gainOf_20 : decode cX11_gainOf 20 = .ok (.getfield 159, 3) := by decide +kernel
theorem dX11_gainOf_23 : decode cX11_gainOf 23 = .ok (.i2l, 1) := by decide +kernel
theorem dX11_gainOf_24 : decode cX11_gainOf 24 = .ok (.aload_n 0, 1) := by decide +kernel
theorem dX11_gainOf_25 : decode cX11_gainOf 25 = .ok (.iload_n 1, 1) := by decide +kernel
theorem dX11_gainOf_26 : decode cX11_gainOf 26 = .ok (.iload_n 2, 1) := by decide +kernel
theorem dX11_gainOf_27 : decode cX11_gainOf 27 = .ok (.aload_n 0, 1) := by decide +kernel
theorem dX11_gainOf_28 : decode cX11_gainOf 28 = .ok (.getfield 159, 3) := by decide +kernel
theorem dX11_gainOf_31 : decode cX11_gainOf 31 = .ok (.invokevirtual 240, 3) := by decide +kernel
theorem dX11_gainOf_34 : decode cX11_gainOf 34 = .ok (.lsub, 1) := by decide +kernel
theorem dX11_gainOf_35 : decode cX11_gainOf 35 = .ok (.aload_n 0, 1) := by decide +kernel
theorem dX11_gainOf_36 : decode cX11_gainOf 36 = .ok (.getfield 16, 3) := by decide +kernel
theorem dX11_gainOf_39 : decode cX11_gainOf 39 = .ok (.i2l, 1) := by decide +kernel
theorem dX11_gainOf_40 : decode cX11_gainOf 40 = .ok (.iload_n 1, 1) := by decide +kernel
theorem dX11_gainOf_41 : decode cX11_gainOf 41 = .ok (.i2l, 1) := by decide +kernel
theorem dX11_gainOf_42 : decode cX11_gainOf 42 = .ok (.lmul, 1) := by decide +kernel
theorem dX11_gainOf_43 : decode cX11_gainOf 43 = .ok (.lsub, 1) := by decide +kernel
theorem dX11_gainOf_44 : decode cX11_gainOf 44 = .ok (.lreturn, 1) := by decide +kernel
theorem dX11_worthOf_0 : decode cX11_worthOf 0 = .ok (.iload_n 3, 1) := by decide +kernel
theorem dX11_worthOf_1 : decode cX11_worthOf 1 = .ok (.iload 4, 2) := by decide +kernel
theorem dX11_worthOf_3 : decode cX11_worthOf 3 = .ok (.invokestatic 244, 3) := by decide +kernel
theorem dX11_worthOf_6 : decode cX11_worthOf 6 = .ok (.istore 5, 2) := by decide +kernel
theorem dX11_worthOf_8 : decode cX11_worthOf 8 = .ok (.aload_n 0, 1) := by decide +kernel
theorem dX11_worthOf_9 : decode cX11_worthOf 9 = .ok (.iload_n 1, 1) := by decide +kernel
theorem dX11_worthOf_10 : decode cX11_worthOf 10 = .ok (.iload 5, 2) := by decide +kernel
theorem dX11_worthOf_12 : decode cX11_worthOf 12 = .ok (.aload_n 0, 1) := by decide +kernel
theorem dX11_worthOf_13 : decode cX11_worthOf 13 = .ok (.getfield 247, 3) := by decide +kernel
theorem dX11_worthOf_16 : decode cX11_worthOf 16 = .ok (.iload_n 2, 1) := by decide +kernel
theorem dX11_worthOf_17 : decode cX11_worthOf 17 = .ok (.iadd, 1) := by decide +kernel
theorem dX11_worthOf_18 : decode cX11_worthOf 18 = .ok (.invokevirtual 250, 3) := by decide +kernel
theorem dX11_worthOf_21 : decode cX11_worthOf 21 = .ok (.iload 4, 2) := by decide +kernel
theorem dX11_worthOf_23 : decode cX11_worthOf 23 = .ok (.iconst 1, 1) := by decide +kernel
theorem dX11_worthOf_24 : decode cX11_worthOf 24 = .ok (.if_icmp .le 14, 3) := by decide +kernel
theorem dX11_worthOf_27 : decode cX11_worthOf 27 = .ok (.aload_n 0, 1) := by decide +kernel
theorem dX11_worthOf_28 : decode cX11_worthOf 28 = .ok (.getfield 20, 3) := by decide +kernel
theorem dX11_worthOf_31 : decode cX11_worthOf 31 = .ok (.i2l, 1) := by decide +kernel
theorem dX11_worthOf_32 : decode cX11_worthOf 32 = .ok (.iload_n 1, 1) := by decide +kernel
theorem dX11_worthOf_33 : decode cX11_worthOf 33 = .ok (.i2l, 1) := by decide +kernel
theorem dX11_worthOf_34 : decode cX11_worthOf 34 = .ok (.lmul, 1) := by decide +kernel
theorem dX11_worthOf_35 : decode cX11_worthOf 35 = .ok (.goto 4, 3) := by decide +kernel
theorem dX11_worthOf_38 : decode cX11_worthOf 38 = .ok (.lconst 0, 1) := by decide +kernel
theorem dX11_worthOf_39 : decode cX11_worthOf 39 = .ok (.lsub, 1) := by decide +kernel
theorem dX11_worthOf_40 : decode cX11_worthOf 40 = .ok (.aload_n 0, 1) := by decide +kernel
theorem dX11_worthOf_41 : decode cX11_worthOf 41 = .ok (.getfield 65, 3) := by decide +kernel
theorem dX11_worthOf_44 : decode cX11_worthOf 44 = .ok (.bipush 26, 2) := by decide +kernel
theorem dX11_worthOf_46 : decode cX11_worthOf 46 = .ok (.iload_n 2, 1) := by decide +kernel
theorem dX11_worthOf_47 : decode cX11_worthOf 47 = .ok (.imul, 1) := by decide +kernel
theorem dX11_worthOf_48 : decode cX11_worthOf 48 = .ok (.bipush 26, 2) := by decide +kernel
theorem dX11_worthOf_50 : decode cX11_worthOf 50 = .ok (.iadd, 1) := by decide +kernel
theorem dX11_worthOf_51 : decode cX11_worthOf 51 = .ok (.iload 5, 2) := by decide +kernel
theorem dX11_worthOf_53 : decode cX11_worthOf 53 = .ok (.invokestatic 253, 3) := by decide +kernel
theorem dX11_worthOf_56 : decode cX11_worthOf 56 = .ok (.iadd, 1) := by decide +kernel
theorem dX11_worthOf_57 : decode cX11_worthOf 57 = .ok (.laload, 1) := by decide +kernel
theorem dX11_worthOf_58 : decode cX11_worthOf 58 = .ok (.ladd, 1) := by decide +kernel
theorem dX11_worthOf_59 : decode cX11_worthOf 59 = .ok (.lreturn, 1) := by decide +kernel
theorem dX11_plan_0 : decode cX11_plan 0 = .ok (.aload_n 0, 1) := by decide +kernel
theorem dX11_plan_1 : decode cX11_plan 1 = .ok (.iconst 0, 1) := by decide +kernel
theorem dX11_plan_2 : decode cX11_plan 2 = .ok (.putfield 102, 3) := by decide +kernel
theorem dX11_plan_5 : decode cX11_plan 5 = .ok (.aload_n 0, 1) := by decide +kernel
theorem dX11_plan_6 : decode cX11_plan 6 = .ok (.iload_n 1, 1) := by decide +kernel
theorem dX11_plan_7 : decode cX11_plan 7 = .ok (.invokevirtual 149, 3) := by decide +kernel
theorem dX11_plan_10 : decode cX11_plan 10 = .ok (.ifCond .eq 26, 3) := by decide +kernel
theorem dX11_plan_13 : decode cX11_plan 13 = .ok (.iload_n 2, 1) := by decide +kernel
theorem dX11_plan_14 : decode cX11_plan 14 = .ok (.i2l, 1) := by decide +kernel
theorem dX11_plan_15 : decode cX11_plan 15 = .ok (.lconst 1, 1) := by decide +kernel
theorem dX11_plan_16 : decode cX11_plan 16 = .ok (.ldc2_w 256, 3) := by decide +kernel
theorem dX11_plan_19 : decode cX11_plan 19 = .ok (.invokestatic 110, 3) := by decide +kernel
theorem dX11_plan_22 : decode cX11_plan 22 = .ok (.ifCond .eq 14, 3) := by decide +kernel
theorem dX11_plan_25 : decode cX11_plan 25 = .ok (.aload_n 0, 1) := by decide +kernel
theorem dX11_plan_26 : decode cX11_plan 26 = .ok (.getfield 247, 3) := by decide +kernel
theorem dX11_plan_29 : decode cX11_plan 29 = .ok (.iload_n 2, 1) := by decide +kernel
theorem dX11_plan_30 : decode cX11_plan 30 = .ok (.iadd, 1) := by decide +kernel
theorem dX11_plan_31 : decode cX11_plan 31 = .ok (.bipush 40, 2) := by decide +kernel
theorem dX11_plan_33 : decode cX11_plan 33 = .ok (.if_icmp .le 7, 3) := by decide +kernel
theorem dX11_plan_36 : decode cX11_plan 36 = .ok (.ldc2_w 258, 3) := by decide +kernel
theorem dX11_plan_39 : decode cX11_plan 39 = .ok (.lreturn, 1) := by decide +kernel
theorem dX11_plan_40 : decode cX11_plan 40 = .ok (.aload_n 0, 1) := by decide +kernel
theorem dX11_plan_41 : decode cX11_plan 41 = .ok (.aload_n 0, 1) := by decide +kernel
theorem dX11_plan_42 : decode cX11_plan 42 = .ok (.getfield 247, 3) := by decide +kernel
theorem dX11_plan_45 : decode cX11_plan 45 = .ok (.invokevirtual 138, 3) := by decide +kernel
theorem dX11_plan_48 : decode cX11_plan 48 = .ok (.aload_n 0, 1) := by decide +kernel
theorem dX11_plan_49 : decode cX11_plan 49 = .ok (.getfield 38, 3) := by decide +kernel
theorem dX11_plan_52 : decode cX11_plan 52 = .ok (.iload_n 1, 1) := by decide +kernel
theorem dX11_plan_53 : decode cX11_plan 53 = .ok (.iaload, 1) := by decide +kernel
theorem dX11_plan_54 : decode cX11_plan 54 = .ok (.istore_n 3, 1) := by decide +kernel
theorem dX11_plan_55 : decode cX11_plan 55 = .ok (.iconst 0, 1) := by decide +kernel
theorem dX11_plan_56 : decode cX11_plan 56 = .ok (.istore 4, 2) := by decide +kernel
theorem dX11_plan_58 : decode cX11_plan 58 = .ok (.iload 4, 2) := by decide +kernel
theorem dX11_plan_60 : decode cX11_plan 60 = .ok (.bipush 26, 2) := by decide +kernel
theorem dX11_plan_62 : decode cX11_plan 62 = .ok (.if_icmp .ge 22, 3) := by decide +kernel
theorem dX11_plan_65 : decode cX11_plan 65 = .ok (.aload_n 0, 1) := by decide +kernel
theorem dX11_plan_66 : decode cX11_plan 66 = .ok (.getfield 65, 3) := by decide +kernel
theorem dX11_plan_69 : decode cX11_plan 69 = .ok (.bipush 26, 2) := by decide +kernel
theorem dX11_plan_71 : decode cX11_plan 71 = .ok (.iload_n 2, 1) := by decide +kernel
theorem dX11_plan_72 : decode cX11_plan 72 = .ok (.imul, 1) := by decide +kernel
theorem dX11_plan_73 : decode cX11_plan 73 = .ok (.iload 4, 2) := by decide +kernel
theorem dX11_plan_75 : decode cX11_plan 75 = .ok (.iadd, 1) := by decide +kernel
theorem dX11_plan_76 : decode cX11_plan 76 = .ok (.lconst 0, 1) := by decide +kernel
theorem dX11_plan_77 : decode cX11_plan 77 = .ok (.lastore, 1) := by decide +kernel
theorem dX11_plan_78 : decode cX11_plan 78 = .ok (.iinc 4 1, 3) := by decide +kernel
theorem dX11_plan_81 : decode cX11_plan 81 = .ok (.goto (-23), 3) := by decide +kernel
theorem dX11_plan_84 : decode cX11_plan 84 = .ok (.iload_n 2, 1) := by decide +kernel
theorem dX11_plan_85 : decode cX11_plan 85 = .ok (.iconst 1, 1) := by decide +kernel
theorem dX11_plan_86 : decode cX11_plan 86 = .ok (.isub, 1) := by decide +kernel
theorem dX11_plan_87 : decode cX11_plan 87 = .ok (.istore 4, 2) := by decide +kernel
theorem dX11_plan_89 : decode cX11_plan 89 = .ok (.iload 4, 2) := by decide +kernel
theorem dX11_plan_91 : decode cX11_plan 91 = .ok (.ifCond .lt 112, 3) := by decide +kernel
theorem dX11_plan_94 : decode cX11_plan 94 = .ok (.iconst 0, 1) := by decide +kernel
theorem dX11_plan_95 : decode cX11_plan 95 = .ok (.istore 5, 2) := by decide +kernel
theorem dX11_plan_97 : decode cX11_plan 97 = .ok (.iload 5, 2) := by decide +kernel
theorem dX11_plan_99 : decode cX11_plan 99 = .ok (.bipush 26, 2) := by decide +kernel
theorem dX11_plan_101 : decode cX11_plan 101 = .ok (.if_icmp .ge 96, 3) := by decide +kernel
theorem dX11_plan_104 : decode cX11_plan 104 = .ok (.aload_n 0, 1) := by decide +kernel
theorem dX11_plan_105 : decode cX11_plan 105 = .ok (.iload_n 3, 1) := by decide +kernel
theorem dX11_plan_106 : decode cX11_plan 106 = .ok (.iload 4, 2) := by decide +kernel
theorem dX11_plan_108 : decode cX11_plan 108 = .ok (.iload 5, 2) := by decide +kernel
theorem dX11_plan_110 : decode cX11_plan 110 = .ok (.iconst 0, 1) := by decide +kernel
theorem dX11_plan_111 : decode cX11_plan 111 = .ok (.invokevirtual 260, 3) := by decide +kernel
theorem dX11_plan_114 : decode cX11_plan 114 = .ok (.lstore 6, 2) := by decide +kernel
theorem dX11_plan_116 : decode cX11_plan 116 = .ok (.iconst 1, 1) := by decide +kernel
theorem dX11_plan_117 : decode cX11_plan 117 = .ok (.istore 8, 2) := by decide +kernel
theorem dX11_plan_119 : decode cX11_plan 119 = .ok (.iload 8, 2) := by decide +kernel
theorem dX11_plan_121 : decode cX11_plan 121 = .ok (.iconst 4, 1) := by decide +kernel
theorem dX11_plan_122 : decode cX11_plan 122 = .ok (.if_icmp .ge 54, 3) := by decide +kernel
theorem dX11_plan_125 : decode cX11_plan 125 = .ok (.iload 5, 2) := by decide +kernel
theorem dX11_plan_127 : decode cX11_plan 127 = .ok (.iload 8, 2) := by decide +kernel
theorem dX11_plan_129 : decode cX11_plan 129 = .ok (.invokestatic 264, 3) := by decide +kernel
theorem dX11_plan_132 : decode cX11_plan 132 = .ok (.ifCond .eq 17, 3) := by decide +kernel
theorem dX11_plan_135 : decode cX11_plan 135 = .ok (.aload_n 0, 1) := by decide +kernel
theorem dX11_plan_136 : decode cX11_plan 136 = .ok (.iload_n 3, 1) := by decide +kernel
theorem dX11_plan_137 : decode cX11_plan 137 = .ok (.iload 4, 2) := by decide +kernel
theorem dX11_plan_139 : decode cX11_plan 139 = .ok (.iload 5, 2) := by decide +kernel
theorem dX11_plan_141 : decode cX11_plan 141 = .ok (.iload 8, 2) := by decide +kernel
theorem dX11_plan_143 : decode cX11_plan 143 = .ok (.invokevirtual 260, 3) := by decide +kernel
theorem dX11_plan_146 : decode cX11_plan 146 = .ok (.goto 5, 3) := by decide +kernel
theorem dX11_plan_149 : decode cX11_plan 149 = .ok (.lload 6, 2) := by decide +kernel
theorem dX11_plan_151 : decode cX11_plan 151 = .ok (.lstore 9, 2) := by decide +kernel
theorem dX11_plan_153 : decode cX11_plan 153 = .ok (.lload 9, 2) := by decide +kernel
theorem dX11_plan_155 : decode cX11_plan 155 = .ok (.lload 6, 2) := by decide +kernel
theorem dX11_plan_157 : decode cX11_plan 157 = .ok (.lcmp, 1) := by decide +kernel
theorem dX11_plan_158 : decode cX11_plan 158 = .ok (.ifCond .le 8, 3) := by decide +kernel
theorem dX11_plan_161 : decode cX11_plan 161 = .ok (.lload 9, 2) := by decide +kernel
theorem dX11_plan_163 : decode cX11_plan 163 = .ok (.goto 5, 3) := by decide +kernel
theorem dX11_plan_166 : decode cX11_plan 166 = .ok (.lload 6, 2) := by decide +kernel
theorem dX11_plan_168 : decode cX11_plan 168 = .ok (.lstore 6, 2) := by decide +kernel
theorem dX11_plan_170 : decode cX11_plan 170 = .ok (.iinc 8 1, 3) := by decide +kernel
theorem dX11_plan_173 : decode cX11_plan 173 = .ok (.goto (-54), 3) := by decide +kernel
theorem dX11_plan_176 : decode cX11_plan 176 = .ok (.aload_n 0, 1) := by decide +kernel
theorem dX11_plan_177 : decode cX11_plan 177 = .ok (.getfield 65, 3) := by decide +kernel
theorem dX11_plan_180 : decode cX11_plan 180 = .ok (.bipush 26, 2) := by decide +kernel
theorem dX11_plan_182 : decode cX11_plan 182 = .ok (.iload 4, 2) := by decide +kernel
theorem dX11_plan_184 : decode cX11_plan 184 = .ok (.imul, 1) := by decide +kernel
theorem dX11_plan_185 : decode cX11_plan 185 = .ok (.iload 5, 2) := by decide +kernel
theorem dX11_plan_187 : decode cX11_plan 187 = .ok (.iadd, 1) := by decide +kernel
theorem dX11_plan_188 : decode cX11_plan 188 = .ok (.lload 6, 2) := by decide +kernel
theorem dX11_plan_190 : decode cX11_plan 190 = .ok (.lastore, 1) := by decide +kernel
theorem dX11_plan_191 : decode cX11_plan 191 = .ok (.iinc 5 1, 3) := by decide +kernel
theorem dX11_plan_194 : decode cX11_plan 194 = .ok (.goto (-97), 3) := by decide +kernel
theorem dX11_plan_197 : decode cX11_plan 197 = .ok (.iinc 4 (-1), 3) := by decide +kernel
theorem dX11_plan_200 : decode cX11_plan 200 = .ok (.goto (-111), 3) := by decide +kernel
theorem dX11_plan_203 : decode cX11_plan 203 = .ok (.aload_n 0, 1) := by decide +kernel
theorem dX11_plan_204 : decode cX11_plan 204 = .ok (.getfield 41, 3) := by decide +kernel
theorem dX11_plan_207 : decode cX11_plan 207 = .ok (.iload_n 1, 1) := by decide +kernel
theorem dX11_plan_208 : decode cX11_plan 208 = .ok (.iaload, 1) := by decide +kernel
theorem dX11_plan_209 : decode cX11_plan 209 = .ok (.iconst (-1), 1) := by decide +kernel
theorem dX11_plan_210 : decode cX11_plan 210 = .ok (.if_icmp .ne 8, 3) := by decide +kernel
theorem dX11_plan_213 : decode cX11_plan 213 = .ok (.bipush 25, 2) := by decide +kernel
theorem dX11_plan_215 : decode cX11_plan 215 = .ok (.goto 9, 3) := by decide +kernel
theorem dX11_plan_218 : decode cX11_plan 218 = .ok (.aload_n 0, 1) := by decide +kernel
theorem dX11_plan_219 : decode cX11_plan 219 = .ok (.getfield 41, 3) := by decide +kernel
theorem dX11_plan_222 : decode cX11_plan 222 = .ok (.iload_n 1, 1) := by decide +kernel
theorem dX11_plan_223 : decode cX11_plan 223 = .ok (.iaload, 1) := by decide +kernel
theorem dX11_plan_224 : decode cX11_plan 224 = .ok (.istore 4, 2) := by decide +kernel
theorem dX11_plan_226 : decode cX11_plan 226 = .ok (.aload_n 0, 1) := by decide +kernel
theorem dX11_plan_227 : decode cX11_plan 227 = .ok (.getfield 65, 3) := by decide +kernel
theorem dX11_plan_230 : decode cX11_plan 230 = .ok (.iload 4, 2) := by decide +kernel
theorem dX11_plan_232 : decode cX11_plan 232 = .ok (.laload, 1) := by decide +kernel
theorem dX11_plan_233 : decode cX11_plan 233 = .ok (.lstore 5, 2) := by decide +kernel
theorem dX11_plan_235 : decode cX11_plan 235 = .ok (.iconst 0, 1) := by decide +kernel
theorem dX11_plan_236 : decode cX11_plan 236 = .ok (.istore 7, 2) := by decide +kernel
theorem dX11_plan_238 : decode cX11_plan 238 = .ok (.iload 7, 2) := by decide +kernel
theorem dX11_plan_240 : decode cX11_plan 240 = .ok (.iload_n 2, 1) := by decide +kernel
theorem dX11_plan_241 : decode cX11_plan 241 = .ok (.if_icmp .ge 77, 3) := by decide +kernel
theorem dX11_plan_244 : decode cX11_plan 244 = .ok (.iconst 0, 1) := by decide +kernel
theorem dX11_plan_245 : decode cX11_plan 245 = .ok (.istore 8, 2) := by decide +kernel
theorem dX11_plan_247 : decode cX11_plan 247 = .ok (.iload 4, 2) := by decide +kernel
theorem dX11_plan_249 : decode cX11_plan 249 = .ok (.iload 8, 2) := by decide +kernel
theorem dX11_plan_251 : decode cX11_plan 251 = .ok (.invokestatic 264, 3) := by decide +kernel
theorem dX11_plan_254 : decode cX11_plan 254 = .ok (.ifCond .eq 31, 3) := by decide +kernel
theorem dX11_plan_257 : decode cX11_plan 257 = .ok (.aload_n 0, 1) := by decide +kernel
theorem dX11_plan_258 : decode cX11_plan 258 = .ok (.iload_n 3, 1) := by decide +kernel
theorem dX11_plan_259 : decode cX11_plan 259 = .ok (.iload 7, 2) := by decide +kernel
theorem dX11_plan_261 : decode cX11_plan 261 = .ok (.iload 4, 2) := by decide +kernel
theorem dX11_plan_263 : decode cX11_plan 263 = .ok (.iload 8, 2) := by decide +kernel
theorem dX11_plan_265 : decode cX11_plan 265 = .ok (.invokevirtual 260, 3) := by decide +kernel
theorem dX11_plan_268 : decode cX11_plan 268 = .ok (.aload_n 0, 1) := by decide +kernel
theorem dX11_plan_269 : decode cX11_plan 269 = .ok (.getfield 65, 3) := by decide +kernel
theorem dX11_plan_272 : decode cX11_plan 272 = .ok (.bipush 26, 2) := by decide +kernel
theorem dX11_plan_274 : decode cX11_plan 274 = .ok (.iload 7, 2) := by decide +kernel
theorem dX11_plan_276 : decode cX11_plan 276 = .ok (.imul, 1) := by decide +kernel
theorem dX11_plan_277 : decode cX11_plan 277 = .ok (.iload 4, 2) := by decide +kernel
theorem dX11_plan_279 : decode cX11_plan 279 = .ok (.iadd, 1) := by decide +kernel
theorem dX11_plan_280 : decode cX11_plan 280 = .ok (.laload, 1) := by decide +kernel
theorem dX11_plan_281 : decode cX11_plan 281 = .ok (.lcmp, 1) := by decide +kernel
theorem dX11_plan_282 : decode cX11_plan 282 = .ok (.ifCond .eq 9, 3) := by decide +kernel
theorem dX11_plan_285 : decode cX11_plan 285 = .ok (.iinc 8 1, 3) := by decide +kernel
theorem dX11_plan_288 : decode cX11_plan 288 = .ok (.goto (-41), 3) := by decide +kernel
theorem dX11_plan_291 : decode cX11_plan 291 = .ok (.aload_n 0, 1) := by decide +kernel
theorem dX11_plan_292 : decode cX11_plan 292 = .ok (.getfield 69, 3) := by decide +kernel
theorem dX11_plan_295 : decode cX11_plan 295 = .ok (.iload 7, 2) := by decide +kernel
theorem dX11_plan_297 : decode cX11_plan 297 = .ok (.iload 8, 2) := by decide +kernel
theorem dX11_plan_299 : decode cX11_plan 299 = .ok (.iastore, 1) := by decide +kernel
theorem dX11_plan_300 : decode cX11_plan 300 = .ok (.iload 4, 2) := by decide +kernel
theorem dX11_plan_302 : decode cX11_plan 302 = .ok (.iload 8, 2) := by decide +kernel
theorem dX11_plan_304 : decode cX11_plan 304 = .ok (.invokestatic 244, 3) := by decide +kernel
theorem dX11_plan_307 : decode cX11_plan 307 = .ok (.invokestatic 253, 3) := by decide +kernel
theorem dX11_plan_310 : decode cX11_plan 310 = .ok (.istore 4, 2) := by decide +kernel
theorem dX11_plan_312 : decode cX11_plan 312 = .ok (.iinc 7 1, 3) := by decide +kernel
theorem dX11_plan_315 : decode cX11_plan 315 = .ok (.goto (-77), 3) := by decide +kernel
theorem dX11_plan_318 : decode cX11_plan 318 = .ok (.aload_n 0, 1) := by decide +kernel
theorem dX11_plan_319 : decode cX11_plan 319 = .ok (.iload_n 2, 1) := by decide +kernel
theorem dX11_plan_320 : decode cX11_plan 320 = .ok (.putfield 72, 3) := by decide +kernel
theorem dX11_plan_323 : decode cX11_plan 323 = .ok (.lload 5, 2) := by decide +kernel
theorem dX11_plan_325 : decode cX11_plan 325 = .ok (.lreturn, 1) := by decide +kernel
theorem dX11_planned_0 : decode cX11_planned 0 = .ok (.aload_n 0, 1) := by decide +kernel
theorem dX11_planned_1 : decode cX11_planned 1 = .ok (.iconst 0, 1) := by decide +kernel
theorem dX11_planned_2 : decode cX11_planned 2 = .ok (.putfield 102, 3) := by decide +kernel
theorem dX11_planned_5 : decode cX11_planned 5 = .ok (.aload_n 0, 1) := by decide +kernel
theorem dX11_planned_6 : decode cX11_planned 6 = .ok (.getfield 72, 3) := by decide +kernel
theorem dX11_planned_9 : decode cX11_planned 9 = .ok (.ifCond .ge 7, 3) := by decide +kernel
theorem dX11_planned_12 : decode cX11_planned 12 = .ok (.iconst (-1), 1) := by decide +kernel
theorem dX11_planned_13 : decode cX11_planned 13 = .ok (.goto 41, 3) := by decide +kernel
theorem dX11_planned_16 : decode cX11_planned 16 = .ok (.iload_n 1, 1) := by decide +kernel
theorem dX11_planned_17 : decode cX11_planned 17 = .ok (.iconst (-1), 1) := by decide +kernel
theorem dX11_planned_18 : decode cX11_planned 18 = .ok (.if_icmp .ne 10, 3) := by decide +kernel
theorem dX11_planned_21 : decode cX11_planned 21 = .ok (.aload_n 0, 1) := by decide +kernel
theorem dX11_planned_22 : decode cX11_planned 22 = .ok (.getfield 72, 3) := by decide +kernel
theorem dX11_planned_25 : decode cX11_planned 25 = .ok (.goto 29, 3) := by decide +kernel
theorem dX11_planned_28 : decode cX11_planned 28 = .ok (.iload_n 1, 1) := by decide +kernel
theorem dX11_planned_29 : decode cX11_planned 29 = .ok (.i2l, 1) := by decide +kernel
theorem dX11_planned_30 : decode cX11_planned 30 = .ok (.lconst 0, 1) := by decide +kernel
theorem dX11_planned_31 : decode cX11_planned 31 = .ok (.aload_n 0, 1) := by decide +kernel
theorem dX11_planned_32 : decode cX11_planned 32 = .ok (.getfield 72, 3) := by decide +kernel
theorem dX11_planned_35 : decode cX11_planned 35 = .ok (.i2l, 1) := by decide +kernel
theorem dX11_planned_36 : decode cX11_planned 36 = .ok (.lconst 1, 1) := by decide +kernel
theorem dX11_planned_37 : decode cX11_planned 37 = .ok (.lsub, 1) := by decide +kernel
theorem dX11_planned_38 : decode cX11_planned 38 = .ok (.invokestatic 110, 3) := by decide +kernel
theorem dX11_planned_41 : decode cX11_planned 41 = .ok (.ifCond .eq 12, 3) := by decide +kernel
theorem dX11_planned_44 : decode cX11_planned 44 = .ok (.aload_n 0, 1) := by decide +kernel
theorem dX11_planned_45 : decode cX11_planned 45 = .ok (.getfield 69, 3) := by decide +kernel
theorem dX11_planned_48 : decode cX11_planned 48 = .ok (.iload_n 1, 1) := by decide +kernel
theorem dX11_planned_49 : decode cX11_planned 49 = .ok (.iaload, 1) := by decide +kernel
theorem dX11_planned_50 : decode cX11_planned 50 = .ok (.goto 4, 3) := by decide +kernel
theorem dX11_planned_53 : decode cX11_planned 53 = .ok (.iconst (-1), 1) := by decide +kernel
theorem dX11_planned_54 : decode cX11_planned 54 = .ok (.ireturn, 1) := by decide +kernel
theorem dX11_go_0 : decode cX11_go 0 = .ok (.aload_n 0, 1) := by decide +kernel
theorem dX11_go_1 : decode cX11_go 1 = .ok (.iconst 0, 1) := by decide +kernel
theorem dX11_go_2 : decode cX11_go 2 = .ok (.putfield 102, 3) := by decide +kernel
theorem dX11_go_5 : decode cX11_go 5 = .ok (.iload_n 1, 1) := by decide +kernel
theorem dX11_go_6 : decode cX11_go 6 = .ok (.i2l, 1) := by decide +kernel
theorem dX11_go_7 : decode cX11_go 7 = .ok (.lconst 1, 1) := by decide +kernel
theorem dX11_go_8 : decode cX11_go 8 = .ok (.ldc2_w 256, 3) := by decide +kernel
theorem dX11_go_11 : decode cX11_go 11 = .ok (.invokestatic 110, 3) := by decide +kernel
theorem dX11_go_14 : decode cX11_go 14 = .ok (.ifCond .eq 14, 3) := by decide +kernel
theorem dX11_go_17 : decode cX11_go 17 = .ok (.aload_n 0, 1) := by decide +kernel
theorem dX11_go_18 : decode cX11_go 18 = .ok (.getfield 247, 3) := by decide +kernel
theorem dX11_go_21 : decode cX11_go 21 = .ok (.iload_n 1, 1) := by decide +kernel
theorem dX11_go_22 : decode cX11_go 22 = .ok (.iadd, 1) := by decide +kernel
theorem dX11_go_23 : decode cX11_go 23 = .ok (.bipush 39, 2) := by decide +kernel
theorem dX11_go_25 : decode cX11_go 25 = .ok (.if_icmp .le 9, 3) := by decide +kernel
theorem dX11_go_28 : decode cX11_go 28 = .ok (.aload_n 0, 1) := by decide +kernel
theorem dX11_go_29 : decode cX11_go 29 = .ok (.iconst (-1), 1) := by decide +kernel
theorem dX11_go_30 : decode cX11_go 30 = .ok (.invokevirtual 120, 3) := by decide +kernel
theorem dX11_go_33 : decode cX11_go 33 = .ok (.ireturn, 1) := by decide +kernel
theorem dX11_go_34 : decode cX11_go 34 = .ok (.iconst 0, 1) := by decide +kernel
theorem dX11_go_35 : decode cX11_go 35 = .ok (.istore_n 2, 1) := by decide +kernel
theorem dX11_go_36 : decode cX11_go 36 = .ok (.iload_n 2, 1) := by decide +kernel
theorem dX11_go_37 : decode cX11_go 37 = .ok (.iload_n 1, 1) := by decide +kernel
theorem dX11_go_38 : decode cX11_go 38 = .ok (.if_icmp .ge 161, 3) := by decide +kernel
theorem dX11_go_41 : decode cX11_go 41 = .ok (.aload_n 0, 1) := by decide +kernel
theorem dX11_go_42 : decode cX11_go 42 = .ok (.aload_n 0, 1) := by decide +kernel
theorem dX11_go_43 : decode cX11_go 43 = .ok (.getfield 247, 3) := by decide +kernel
theorem dX11_go_46 : decode cX11_go 46 = .ok (.invokevirtual 138, 3) := by decide +kernel
theorem dX11_go_49 : decode cX11_go 49 = .ok (.iconst 0, 1) := by decide +kernel
theorem dX11_go_50 : decode cX11_go 50 = .ok (.istore_n 3, 1) := by decide +kernel
theorem dX11_go_51 : decode cX11_go 51 = .ok (.iload_n 3, 1) := by decide +kernel
theorem dX11_go_52 : decode cX11_go 52 = .ok (.aload_n 0, 1) := by decide +kernel
theorem dX11_go_53 : decode cX11_go 53 = .ok (.getfield 142, 3) := by decide +kernel
theorem dX11_go_56 : decode cX11_go 56 = .ok (.if_icmp .ge 127, 3) := by decide +kernel
theorem dX11_go_59 : decode cX11_go 59 = .ok (.aload_n 0, 1) := by decide +kernel
theorem dX11_go_60 : decode cX11_go 60 = .ok (.getfield 41, 3) := by decide +kernel
theorem dX11_go_63 : decode cX11_go 63 = .ok (.iload_n 3, 1) := by decide +kernel
theorem dX11_go_64 : decode cX11_go 64 = .ok (.iaload, 1) := by decide +kernel
theorem dX11_go_65 : decode cX11_go 65 = .ok (.iconst (-1), 1) := by decide +kernel
theorem dX11_go_66 : decode cX11_go 66 = .ok (.if_icmp .ne 6, 3) := by decide +kernel
theorem dX11_go_69 : decode cX11_go 69 = .ok (.goto 108, 3) := by decide +kernel
theorem dX11_go_72 : decode cX11_go 72 = .ok (.aload_n 0, 1) := by decide +kernel
theorem dX11_go_73 : decode cX11_go 73 = .ok (.aload_n 0, 1) := by decide +kernel
theorem dX11_go_74 : decode cX11_go 74 = .ok (.aload_n 0, 1) := by decide +kernel
theorem dX11_go_75 : decode cX11_go 75 = .ok (.getfield 38, 3) := by decide +kernel
theorem dX11_go_78 : decode cX11_go 78 = .ok (.iload_n 3, 1) := by decide +kernel
theorem dX11_go_79 : decode cX11_go 79 = .ok (.iaload, 1) := by decide +kernel
theorem dX11_go_80 : decode cX11_go 80 = .ok (.aload_n 0, 1) := by decide +kernel
theorem dX11_go_81 : decode cX11_go 81 = .ok (.getfield 41, 3) := by decide +kernel
theorem dX11_go_84 : decode cX11_go 84 = .ok (.iload_n 3, 1) := by decide +kernel
theorem dX11_go_85 : decode cX11_go 85 = .ok (.iaload, 1) := by decide +kernel
theorem dX11_go_86 : decode cX11_go 86 = .ok (.invokevirtual 152, 3) := by decide +kernel
theorem dX11_go_89 : decode cX11_go 89 = .ok (.aload_n 0, 1) := by decide +kernel
theorem dX11_go_90 : decode cX11_go 90 = .ok (.getfield 247, 3) := by decide +kernel
theorem dX11_go_93 : decode cX11_go 93 = .ok (.invokevirtual 169, 3) := by decide +kernel
theorem dX11_go_96 : decode cX11_go 96 = .ok (.aload_n 0, 1) := by decide +kernel
theorem dX11_go_97 : decode cX11_go 97 = .ok (.getfield 162, 3) := by decide +kernel
theorem dX11_go_100 : decode cX11_go 100 = .ok (.ifCond .le 62, 3) := by decide +kernel
theorem dX11_go_103 : decode cX11_go 103 = .ok (.aload_n 0, 1) := by decide +kernel
theorem dX11_go_104 : decode cX11_go 104 = .ok (.getfield 75, 3) := by decide +kernel
theorem dX11_go_107 : decode cX11_go 107 = .ok (.aload_n 0, 1) := by decide +kernel
theorem dX11_go_108 : decode cX11_go 108 = .ok (.getfield 268, 3) := by decide +kernel
theorem dX11_go_111 : decode cX11_go 111 = .ok (.aload_n 0, 1) := by decide +kernel
theorem dX11_go_112 : decode cX11_go 112 = .ok (.getfield 156, 3) := by decide +kernel
theorem dX11_go_115 : decode cX11_go 115 = .ok (.iastore, 1) := by decide +kernel
theorem dX11_go_116 : decode cX11_go 116 = .ok (.aload_n 0, 1) := by decide +kernel
theorem dX11_go_117 : decode cX11_go 117 = .ok (.getfield 78, 3) := by decide +kernel
theorem dX11_go_120 : decode cX11_go 120 = .ok (.aload_n 0, 1) := by decide +kernel
theorem dX11_go_121 : decode cX11_go 121 = .ok (.getfield 268, 3) := by decide +kernel
theorem dX11_go_124 : decode cX11_go 124 = .ok (.iload_n 3, 1) := by decide +kernel
theorem dX11_go_125 : decode cX11_go 125 = .ok (.iastore, 1) := by decide +kernel
theorem dX11_go_126 : decode cX11_go 126 = .ok (.aload_n 0, 1) := by decide +kernel
theorem dX11_go_127 : decode cX11_go 127 = .ok (.getfield 81, 3) := by decide +kernel
theorem dX11_go_130 : decode cX11_go 130 = .ok (.aload_n 0, 1) := by decide +kernel
theorem dX11_go_131 : decode cX11_go 131 = .ok (.getfield 268, 3) := by decide +kernel
theorem dX11_go_134 : decode cX11_go 134 = .ok (.aload_n 0, 1) := by decide +kernel
theorem dX11_go_135 : decode cX11_go 135 = .ok (.getfield 162, 3) := by decide +kernel
theorem dX11_go_138 : decode cX11_go 138 = .ok (.iastore, 1) := by decide +kernel
theorem dX11_go_139 : decode cX11_go 139 = .ok (.aload_n 0, 1) := by decide +kernel
theorem dX11_go_140 : decode cX11_go 140 = .ok (.dup, 1) := by decide +kernel
theorem dX11_go_141 : decode cX11_go 141 = .ok (.getfield 268, 3) := by decide +kernel
theorem dX11_go_144 : decode cX11_go 144 = .ok (.iconst 1, 1) := by decide +kernel
theorem dX11_go_145 : decode cX11_go 145 = .ok (.iadd, 1) := by decide +kernel
theorem dX11_go_146 : decode cX11_go 146 = .ok (.putfield 268, 3) := by decide +kernel
theorem dX11_go_149 : decode cX11_go 149 = .ok (.aload_n 0, 1) := by decide +kernel
theorem dX11_go_150 : decode cX11_go 150 = .ok (.dup, 1) := by decide +kernel
theorem dX11_go_151 : decode cX11_go 151 = .ok (.getfield 271, 3) := by decide +kernel
theorem dX11_go_154 : decode cX11_go 154 = .ok (.aload_n 0, 1) := by decide +kernel
theorem dX11_go_155 : decode cX11_go 155 = .ok (.getfield 162, 3) := by decide +kernel
theorem dX11_go_158 : decode cX11_go 158 = .ok (.iadd, 1) := by decide +kernel
theorem dX11_go_159 : decode cX11_go 159 = .ok (.putfield 271, 3) := by decide +kernel
theorem dX11_go_162 : decode cX11_go 162 = .ok (.aload_n 0, 1) := by decide +kernel
theorem dX11_go_163 : decode cX11_go 163 = .ok (.getfield 41, 3) := by decide +kernel
theorem dX11_go_166 : decode cX11_go 166 = .ok (.iload_n 3, 1) := by decide +kernel
theorem dX11_go_167 : decode cX11_go 167 = .ok (.aload_n 0, 1) := by decide +kernel
theorem dX11_go_168 : decode cX11_go 168 = .ok (.getfield 41, 3) := by decide +kernel
theorem dX11_go_171 : decode cX11_go 171 = .ok (.iload_n 3, 1) := by decide +kernel
theorem dX11_go_172 : decode cX11_go 172 = .ok (.iaload, 1) := by decide +kernel
theorem dX11_go_173 : decode cX11_go 173 = .ok (.invokestatic 253, 3) := by decide +kernel
theorem dX11_go_176 : decode cX11_go 176 = .ok (.iastore, 1) := by decide +kernel
theorem dX11_go_177 : decode cX11_go 177 = .ok (.iinc 3 1, 3) := by decide +kernel
theorem dX11_go_180 : decode cX11_go 180 = .ok (.goto (-129), 3) := by decide +kernel
theorem dX11_go_183 : decode cX11_go 183 = .ok (.aload_n 0, 1) := by decide +kernel
theorem dX11_go_184 : decode cX11_go 184 = .ok (.dup, 1) := by decide +kernel
theorem dX11_go_185 : decode cX11_go 185 = .ok (.getfield 247, 3) := by decide +kernel
theorem dX11_go_188 : decode cX11_go 188 = .ok (.iconst 1, 1) := by decide +kernel
theorem dX11_go_189 : decode cX11_go 189 = .ok (.iadd, 1) := by decide +kernel
theorem dX11_go_190 : decode cX11_go 190 = .ok (.putfield 247, 3) := by decide +kernel
theorem dX11_go_193 : decode cX11_go 193 = .ok (.iinc 2 1, 3) := by decide +kernel
theorem dX11_go_196 : decode cX11_go 196 = .ok (.goto (-160), 3) := by decide +kernel
theorem dX11_go_199 : decode cX11_go 199 = .ok (.aload_n 0, 1) := by decide +kernel
theorem dX11_go_200 : decode cX11_go 200 = .ok (.aload_n 0, 1) := by decide +kernel
theorem dX11_go_201 : decode cX11_go 201 = .ok (.getfield 247, 3) := by decide +kernel
theorem dX11_go_204 : decode cX11_go 204 = .ok (.invokevirtual 120, 3) := by decide +kernel
theorem dX11_go_207 : decode cX11_go 207 = .ok (.ireturn, 1) := by decide +kernel
theorem dX11_stock_0 : decode cX11_stock 0 = .ok (.aload_n 0, 1) := by decide +kernel
theorem dX11_stock_1 : decode cX11_stock 1 = .ok (.iconst 0, 1) := by decide +kernel
theorem dX11_stock_2 : decode cX11_stock 2 = .ok (.putfield 102, 3) := by decide +kernel
theorem dX11_stock_5 : decode cX11_stock 5 = .ok (.iload_n 1, 1) := by decide +kernel
theorem dX11_stock_6 : decode cX11_stock 6 = .ok (.invokestatic 124, 3) := by decide +kernel
theorem dX11_stock_9 : decode cX11_stock 9 = .ok (.ifCond .eq 16, 3) := by decide +kernel
theorem dX11_stock_12 : decode cX11_stock 12 = .ok (.iload_n 2, 1) := by decide +kernel
theorem dX11_stock_13 : decode cX11_stock 13 = .ok (.iconst (-1), 1) := by decide +kernel
theorem dX11_stock_14 : decode cX11_stock 14 = .ok (.if_icmp .eq 13, 3) := by decide +kernel
theorem dX11_stock_17 : decode cX11_stock 17 = .ok (.aload_n 0, 1) := by decide +kernel
theorem dX11_stock_18 : decode cX11_stock 18 = .ok (.iload_n 2, 1) := by decide +kernel
theorem dX11_stock_19 : decode cX11_stock 19 = .ok (.invokevirtual 149, 3) := by decide +kernel
theorem dX11_stock_22 : decode cX11_stock 22 = .ok (.ifCond .ne 5, 3) := by decide +kernel
theorem dX11_stock_25 : decode cX11_stock 25 = .ok (.iconst (-1), 1) := by decide +kernel
theorem dX11_stock_26 : decode cX11_stock 26 = .ok (.ireturn, 1) := by decide +kernel
theorem dX11_stock_27 : decode cX11_stock 27 = .ok (.iconst 0, 1) := by decide +kernel
theorem dX11_stock_28 : decode cX11_stock 28 = .ok (.istore_n 3, 1) := by decide +kernel
theorem dX11_stock_29 : decode cX11_stock 29 = .ok (.iconst 0, 1) := by decide +kernel
theorem dX11_stock_30 : decode cX11_stock 30 = .ok (.istore 4, 2) := by decide +kernel
theorem dX11_stock_32 : decode cX11_stock 32 = .ok (.iload 4, 2) := by decide +kernel
theorem dX11_stock_34 : decode cX11_stock 34 = .ok (.aload_n 0, 1) := by decide +kernel
theorem dX11_stock_35 : decode cX11_stock 35 = .ok (.getfield 268, 3) := by decide +kernel
theorem dX11_stock_38 : decode cX11_stock 38 = .ok (.if_icmp .ge 50, 3) := by decide +kernel
theorem dX11_stock_41 : decode cX11_stock 41 = .ok (.iload_n 3, 1) := by decide +kernel
theorem dX11_stock_42 : decode cX11_stock 42 = .ok (.aload_n 0, 1) := by decide +kernel
theorem dX11_stock_43 : decode cX11_stock 43 = .ok (.getfield 75, 3) := by decide +kernel
theorem dX11_stock_46 : decode cX11_stock 46 = .ok (.iload 4, 2) := by decide +kernel
theorem dX11_stock_48 : decode cX11_stock 48 = .ok (.iaload, 1) := by decide +kernel
theorem dX11_stock_49 : decode cX11_stock 49 = .ok (.iload_n 1, 1) := by decide +kernel
theorem dX11_stock_50 : decode cX11_stock 50 = .ok (.if_icmp .ne 29, 3) := by decide +kernel
theorem dX11_stock_53 : decode cX11_stock 53 = .ok (.iload_n 2, 1) := by decide +kernel
theorem dX11_stock_54 : decode cX11_stock 54 = .ok (.iconst (-1), 1) := by decide +kernel
theorem dX11_stock_55 : decode cX11_stock 55 = .ok (.if_icmp .eq 14, 3) := by decide +kernel
theorem dX11_stock_58 : decode cX11_stock 58 = .ok (.aload_n 0, 1) := by decide +kernel
theorem dX11_stock_59 : decode cX11_stock 59 = .ok (.getfield 78, 3) := by decide +kernel
theorem dX11_stock_62 : decode cX11_stock 62 = .ok (.iload 4, 2) := by decide +kernel
theorem dX11_stock_64 : decode cX11_stock 64 = .ok (.iaload, 1) := by decide +kernel
theorem dX11_stock_65 : decode cX11_stock 65 = .ok (.iload_n 2, 1) := by decide +kernel
theorem dX11_stock_66 : decode cX11_stock 66 = .ok (.if_icmp .ne 13, 3) := by decide +kernel
theorem dX11_stock_69 : decode cX11_stock 69 = .ok (.aload_n 0, 1) := by decide +kernel
theorem dX11_stock_70 : decode cX11_stock 70 = .ok (.getfield 81, 3) := by decide +kernel
theorem dX11_stock_73 : decode cX11_stock 73 = .ok (.iload 4, 2) := by decide +kernel
theorem dX11_stock_75 : decode cX11_stock 75 = .ok (.iaload, 1) := by decide +kernel
theorem dX11_stock_76 : decode cX11_stock 76 = .ok (.goto 4, 3) := by decide +kernel
theorem dX11_stock_79 : decode cX11_stock 79 = .ok (.iconst 0, 1) := by decide +kernel
theorem dX11_stock_80 : decode cX11_stock 80 = .ok (.iadd, 1) := by decide +kernel
theorem dX11_stock_81 : decode cX11_stock 81 = .ok (.istore_n 3, 1) := by decide +kernel
theorem dX11_stock_82 : decode cX11_stock 82 = .ok (.iinc 4 1, 3) := by decide +kernel
theorem dX11_stock_85 : decode cX11_stock 85 = .ok (.goto (-53), 3) := by decide +kernel
theorem dX11_stock_88 : decode cX11_stock 88 = .ok (.iload_n 3, 1) := by decide +kernel
theorem dX11_stock_89 : decode cX11_stock 89 = .ok (.ireturn, 1) := by decide +kernel
theorem dX11_advance_0 : decode cX11_advance 0 = .ok (.aload_n 0, 1) := by decide +kernel
theorem dX11_advance_1 : decode cX11_advance 1 = .ok (.iconst 0, 1) := by decide +kernel
theorem dX11_advance_2 : decode cX11_advance 2 = .ok (.putfield 102, 3) := by decide +kernel
theorem dX11_advance_5 : decode cX11_advance 5 = .ok (.iload_n 1, 1) := by decide +kernel
theorem dX11_advance_6 : decode cX11_advance 6 = .ok (.invokestatic 124, 3) := by decide +kernel
theorem dX11_advance_9 : decode cX11_advance 9 = .ok (.ifCond .eq 43, 3) := by decide +kernel
theorem dX11_advance_12 : decode cX11_advance 12 = .ok (.iload_n 2, 1) := by decide +kernel
theorem dX11_advance_13 : decode cX11_advance 13 = .ok (.i2l, 1) := by decide +kernel
theorem dX11_advance_14 : decode cX11_advance 14 = .ok (.lconst 1, 1) := by decide +kernel
theorem dX11_advance_15 : decode cX11_advance 15 = .ok (.ldc2_w 202, 3) := by decide +kernel
theorem dX11_advance_18 : decode cX11_advance 18 = .ok (.invokestatic 110, 3) := by decide +kernel
theorem dX11_advance_21 : decode cX11_advance 21 = .ok (.ifCond .eq 31, 3) := by decide +kernel
theorem dX11_advance_24 : decode cX11_advance 24 = .ok (.iload_n 3, 1) := by decide +kernel
theorem dX11_advance_25 : decode cX11_advance 25 = .ok (.invokestatic 130, 3) := by decide +kernel
theorem dX11_advance_28 : decode cX11_advance 28 = .ok (.ifCond .eq 24, 3) := by decide +kernel
theorem dX11_advance_31 : decode cX11_advance 31 = .ok (.iload 4, 2) := by decide +kernel
theorem dX11_advance_33 : decode cX11_advance 33 = .ok (.i2l, 1) := by decide +kernel
theorem dX11_advance_34 : decode cX11_advance 34 = .ok (.lconst 0, 1) := by decide +kernel
theorem dX11_advance_35 : decode cX11_advance 35 = .ok (.ldc2_w 274, 3) := by decide +kernel
theorem dX11_advance_38 : decode cX11_advance 38 = .ok (.invokestatic 110, 3) := by decide +kernel
theorem dX11_advance_41 : decode cX11_advance 41 = .ok (.ifCond .eq 11, 3) := by decide +kernel
theorem dX11_advance_44 : decode cX11_advance 44 = .ok (.iload 5, 2) := by decide +kernel
theorem dX11_advance_46 : decode cX11_advance 46 = .ok (.invokestatic 130, 3) := by decide +kernel
theorem dX11_advance_49 : decode cX11_advance 49 = .ok (.ifCond .ne 9, 3) := by decide +kernel
theorem dX11_advance_52 : decode cX11_advance 52 = .ok (.aload_n 0, 1) := by decide +kernel
theorem dX11_advance_53 : decode cX11_advance 53 = .ok (.iconst (-1), 1) := by decide +kernel
theorem dX11_advance_54 : decode cX11_advance 54 = .ok (.invokevirtual 120, 3) := by decide +kernel
theorem dX11_advance_57 : decode cX11_advance 57 = .ok (.ireturn, 1) := by decide +kernel
theorem dX11_advance_58 : decode cX11_advance 58 = .ok (.aload_n 0, 1) := by decide +kernel
theorem dX11_advance_59 : decode cX11_advance 59 = .ok (.getfield 276, 3) := by decide +kernel
theorem dX11_advance_62 : decode cX11_advance 62 = .ok (.bipush 60, 2) := by decide +kernel
theorem dX11_advance_64 : decode cX11_advance 64 = .ok (.if_icmp .ne 10, 3) := by decide +kernel
theorem dX11_advance_67 : decode cX11_advance 67 = .ok (.aload_n 0, 1) := by decide +kernel
theorem dX11_advance_68 : decode cX11_advance 68 = .ok (.bipush (-5), 2) := by decide +kernel
theorem dX11_advance_70 : decode cX11_advance 70 = .ok (.invokevirtual 120, 3) := by decide +kernel
theorem dX11_advance_73 : decode cX11_advance 73 = .ok (.ireturn, 1) := by decide +kernel
theorem dX11_advance_74 : decode cX11_advance 74 = .ok (.aload_n 0, 1) := by decide +kernel
theorem dX11_advance_75 : decode cX11_advance 75 = .ok (.getfield 84, 3) := by decide +kernel
theorem dX11_advance_78 : decode cX11_advance 78 = .ok (.aload_n 0, 1) := by decide +kernel
theorem dX11_advance_79 : decode cX11_advance 79 = .ok (.getfield 276, 3) := by decide +kernel
theorem dX11_advance_82 : decode cX11_advance 82 = .ok (.iload_n 1, 1) := by decide +kernel
theorem dX11_advance_83 : decode cX11_advance 83 = .ok (.iastore, 1) := by decide +kernel
theorem dX11_advance_84 : decode cX11_advance 84 = .ok (.aload_n 0, 1) := by decide +kernel
theorem dX11_advance_85 : decode cX11_advance 85 = .ok (.getfield 87, 3) := by decide +kernel
theorem dX11_advance_88 : decode cX11_advance 88 = .ok (.aload_n 0, 1) := by decide +kernel
theorem dX11_advance_89 : decode cX11_advance 89 = .ok (.getfield 276, 3) := by decide +kernel
theorem dX11_advance_92 : decode cX11_advance 92 = .ok (.iload_n 2, 1) := by decide +kernel
theorem dX11_advance_93 : decode cX11_advance 93 = .ok (.iastore, 1) := by decide +kernel
theorem dX11_advance_94 : decode cX11_advance 94 = .ok (.aload_n 0, 1) := by decide +kernel
theorem dX11_advance_95 : decode cX11_advance 95 = .ok (.getfield 90, 3) := by decide +kernel
theorem dX11_advance_98 : decode cX11_advance 98 = .ok (.aload_n 0, 1) := by decide +kernel
theorem dX11_advance_99 : decode cX11_advance 99 = .ok (.getfield 276, 3) := by decide +kernel
theorem dX11_advance_102 : decode cX11_advance 102 = .ok (.iload_n 3, 1) := by decide +kernel
theorem dX11_advance_103 : decode cX11_advance 103 = .ok (.iastore, 1) := by decide +kernel
theorem dX11_advance_104 : decode cX11_advance 104 = .ok (.aload_n 0, 1) := by decide +kernel
theorem dX11_advance_105 : decode cX11_advance 105 = .ok (.getfield 93, 3) := by decide +kernel
theorem dX11_advance_108 : decode cX11_advance 108 = .ok (.aload_n 0, 1) := by decide +kernel
theorem dX11_advance_109 : decode cX11_advance 109 = .ok (.getfield 276, 3) := by decide +kernel
theorem dX11_advance_112 : decode cX11_advance 112 = .ok (.iload 5, 2) := by decide +kernel
theorem dX11_advance_114 : decode cX11_advance 114 = .ok (.iastore, 1) := by decide +kernel
theorem dX11_advance_115 : decode cX11_advance 115 = .ok (.aload_n 0, 1) := by decide +kernel
theorem dX11_advance_116 : decode cX11_advance 116 = .ok (.dup, 1) := by decide +kernel
theorem dX11_advance_117 : decode cX11_advance 117 = .ok (.getfield 276, 3) := by decide +kernel
theorem dX11_advance_120 : decode cX11_advance 120 = .ok (.iconst 1, 1) := by decide +kernel
theorem dX11_advance_121 : decode cX11_advance 121 = .ok (.iadd, 1) := by decide +kernel
theorem dX11_advance_122 : decode cX11_advance 122 = .ok (.putfield 276, 3) := by decide +kernel
theorem dX11_advance_125 : decode cX11_advance 125 = .ok (.aload_n 0, 1) := by decide +kernel
theorem dX11_advance_126 : decode cX11_advance 126 = .ok (.aload_n 0, 1) := by decide +kernel
theorem dX11_advance_127 : decode cX11_advance 127 = .ok (.getfield 276, 3) := by decide +kernel
theorem dX11_advance_130 : decode cX11_advance 130 = .ok (.iconst 1, 1) := by decide +kernel
theorem dX11_advance_131 : decode cX11_advance 131 = .ok (.isub, 1) := by decide +kernel
theorem dX11_advance_132 : decode cX11_advance 132 = .ok (.invokevirtual 120, 3) := by decide +kernel
theorem dX11_advance_135 : decode cX11_advance 135 = .ok (.ireturn, 1) := by decide +kernel
theorem dX11_bring_0 : decode cX11_bring 0 = .ok (.aload_n 0, 1) := by decide +kernel
theorem dX11_bring_1 : decode cX11_bring 1 = .ok (.iconst 0, 1) := by decide +kernel
theorem dX11_bring_2 : decode cX11_bring 2 = .ok (.putfield 102, 3) := by decide +kernel
theorem dX11_bring_5 : decode cX11_bring 5 = .ok (.iload_n 1, 1) := by decide +kernel
theorem dX11_bring_6 : decode cX11_bring 6 = .ok (.i2l, 1) := by decide +kernel
theorem dX11_bring_7 : decode cX11_bring 7 = .ok (.lconst 0, 1) := by decide +kernel
theorem dX11_bring_8 : decode cX11_bring 8 = .ok (.aload_n 0, 1) := by decide +kernel
theorem dX11_bring_9 : decode cX11_bring 9 = .ok (.getfield 276, 3) := by decide +kernel
theorem dX11_bring_12 : decode cX11_bring 12 = .ok (.i2l, 1) := by decide +kernel
theorem dX11_bring_13 : decode cX11_bring 13 = .ok (.lconst 1, 1) := by decide +kernel
theorem dX11_bring_14 : decode cX11_bring 14 = .ok (.lsub, 1) := by decide +kernel
theorem dX11_bring_15 : decode cX11_bring 15 = .ok (.invokestatic 110, 3) := by decide +kernel
theorem dX11_bring_18 : decode cX11_bring 18 = .ok (.ifCond .ne 10, 3) := by decide +kernel
theorem dX11_bring_21 : decode cX11_bring 21 = .ok (.aload_n 0, 1) := by decide +kernel
theorem dX11_bring_22 : decode cX11_bring 22 = .ok (.bipush (-2), 2) := by decide +kernel
theorem dX11_bring_24 : decode cX11_bring 24 = .ok (.invokevirtual 120, 3) := by decide +kernel
theorem dX11_bring_27 : decode cX11_bring 27 = .ok (.ireturn, 1) := by decide +kernel
theorem dX11_bring_28 : decode cX11_bring 28 = .ok (.iconst 0, 1) := by decide +kernel
theorem dX11_bring_29 : decode cX11_bring 29 = .ok (.istore_n 2, 1) := by decide +kernel
theorem dX11_bring_30 : decode cX11_bring 30 = .ok (.iconst 0, 1) := by decide +kernel
theorem dX11_bring_31 : decode cX11_bring 31 = .ok (.istore_n 3, 1) := by decide +kernel
theorem dX11_bring_32 : decode cX11_bring 32 = .ok (.iload_n 3, 1) := by decide +kernel
theorem dX11_bring_33 : decode cX11_bring 33 = .ok (.aload_n 0, 1) := by decide +kernel
theorem dX11_bring_34 : decode cX11_bring 34 = .ok (.getfield 268, 3) := by decide +kernel
theorem dX11_bring_37 : decode cX11_bring 37 = .ok (.if_icmp .ge 115, 3) := by decide +kernel
theorem dX11_bring_40 : decode cX11_bring 40 = .ok (.aload_n 0, 1) := by decide +kernel
theorem dX11_bring_41 : decode cX11_bring 41 = .ok (.getfield 87, 3) := by decide +kernel
theorem dX11_bring_44 : decode cX11_bring 44 = .ok (.iload_n 1, 1) := by decide +kernel
theorem dX11_bring_45 : decode cX11_bring 45 = .ok (.iaload, 1) := by decide +kernel
theorem dX11_bring_46 : decode cX11_bring 46 = .ok (.aload_n 0, 1) := by decide +kernel
theorem dX11_bring_47 : decode cX11_bring 47 = .ok (.getfield 96, 3) := by decide +kernel
theorem dX11_bring_50 : decode cX11_bring 50 = .ok (.iload_n 1, 1) := by decide +kernel
theorem dX11_bring_51 : decode cX11_bring 51 = .ok (.iaload, 1) := by decide +kernel
theorem dX11_bring_52 : decode cX11_bring 52 = .ok (.isub, 1) := by decide +kernel
theorem dX11_bring_53 : decode cX11_bring 53 = .ok (.istore 4, 2) := by decide +kernel
theorem dX11_bring_55 : decode cX11_bring 55 = .ok (.aload_n 0, 1) := by decide +kernel
theorem dX11_bring_56 : decode cX11_bring 56 = .ok (.getfield 75, 3) := by decide +kernel
theorem dX11_bring_59 : decode cX11_bring 59 = .ok (.iload_n 3, 1) := by decide +kernel
theorem dX11_bring_60 : decode cX11_bring 60 = .ok (.iaload, 1) := by decide +kernel
theorem dX11_bring_61 : decode cX11_bring 61 = .ok (.aload_n 0, 1) := by decide +kernel
theorem dX11_bring_62 : decode cX11_bring 62 = .ok (.getfield 84, 3) := by decide +kernel
theorem dX11_bring_65 : decode cX11_bring 65 = .ok (.iload_n 1, 1) := by decide +kernel
theorem dX11_bring_66 : decode cX11_bring 66 = .ok (.iaload, 1) := by decide +kernel
theorem dX11_bring_67 : decode cX11_bring 67 = .ok (.if_icmp .eq 7, 3) := by decide +kernel
theorem dX11_bring_70 : decode cX11_bring 70 = .ok (.iconst 0, 1) := by decide +kernel
theorem dX11_bring_71 : decode cX11_bring 71 = .ok (.goto 25, 3) := by decide +kernel
theorem dX11_bring_74 : decode cX11_bring 74 = .ok (.aload_n 0, 1) := by decide +kernel
theorem dX11_bring_75 : decode cX11_bring 75 = .ok (.getfield 81, 3) := by decide +kernel
theorem dX11_bring_78 : decode cX11_bring 78 = .ok (.iload_n 3, 1) := by decide +kernel
theorem dX11_bring_79 : decode cX11_bring 79 = .ok (.iaload, 1) := by decide +kernel
theorem dX11_bring_80 : decode cX11_bring 80 = .ok (.iload 4, 2) := by decide +kernel
theorem dX11_bring_82 : decode cX11_bring 82 = .ok (.if_icmp .ge 12, 3) := by decide +kernel
theorem dX11_bring_85 : decode cX11_bring 85 = .ok (.aload_n 0, 1) := by decide +kernel
theorem dX11_bring_86 : decode cX11_bring 86 = .ok (.getfield 81, 3) := by decide +kernel
theorem dX11_bring_89 : decode cX11_bring 89 = .ok (.iload_n 3, 1) := by decide +kernel
theorem dX11_bring_90 : decode cX11_bring 90 = .ok (.iaload, 1) := by decide +kernel
theorem dX11_bring_91 : decode cX11_bring 91 = .ok (.goto 5, 3) := by decide +kernel
theorem dX11_bring_94 : decode cX11_bring 94 = .ok (.iload 4, 2) := by decide +kernel
theorem dX11_bring_96 : decode cX11_bring 96 = .ok (.istore 5, 2) := by decide +kernel
theorem dX11_bring_98 : decode cX11_bring 98 = .ok (.aload_n 0, 1) := by decide +kernel
theorem dX11_bring_99 : decode cX11_bring 99 = .ok (.getfield 81, 3) := by decide +kernel
theorem dX11_bring_102 : decode cX11_bring 102 = .ok (.iload_n 3, 1) := by decide +kernel
theorem dX11_bring_103 : decode cX11_bring 103 = .ok (.dup2, 1) := by decide +kernel
theorem dX11_bring_104 : decode cX11_bring 104 = .ok (.iaload, 1) := by decide +kernel
theorem dX11_bring_105 : decode cX11_bring 105 = .ok (.iload 5, 2) := by decide +kernel
theorem dX11_bring_107 : decode cX11_bring 107 = .ok (.isub, 1) := by decide +kernel
theorem dX11_bring_108 : decode cX11_bring 108 = .ok (.iastore, 1) := by decide +kernel
theorem dX11_bring_109 : decode cX11_bring 109 = .ok (.aload_n 0, 1) := by decide +kernel
theorem dX11_bring_110 : decode cX11_bring 110 = .ok (.getfield 96, 3) := by decide +kernel
theorem dX11_bring_113 : decode cX11_bring 113 = .ok (.iload_n 1, 1) := by decide +kernel
theorem dX11_bring_114 : decode cX11_bring 114 = .ok (.dup2, 1) := by decide +kernel
theorem dX11_bring_115 : decode cX11_bring 115 = .ok (.iaload, 1) := by decide +kernel
theorem dX11_bring_116 : decode cX11_bring 116 = .ok (.iload 5, 2) := by decide +kernel
theorem dX11_bring_118 : decode cX11_bring 118 = .ok (.iadd, 1) := by decide +kernel
theorem dX11_bring_119 : decode cX11_bring 119 = .ok (.iastore, 1) := by decide +kernel
theorem dX11_bring_120 : decode cX11_bring 120 = .ok (.aload_n 0, 1) := by decide +kernel
theorem dX11_bring_121 : decode cX11_bring 121 = .ok (.getfield 99, 3) := by decide +kernel
theorem dX11_bring_124 : decode cX11_bring 124 = .ok (.bipush 12, 2) := by decide +kernel
theorem dX11_bring_126 : decode cX11_bring 126 = .ok (.iload_n 1, 1) := by decide +kernel
theorem dX11_bring_127 : decode cX11_bring 127 = .ok (.imul, 1) := by decide +kernel
theorem dX11_bring_128 : decode cX11_bring 128 = .ok (.aload_n 0, 1) := by decide +kernel
theorem dX11_bring_129 : decode cX11_bring 129 = .ok (.getfield 78, 3) := by decide +kernel
theorem dX11_bring_132 : decode cX11_bring 132 = .ok (.iload_n 3, 1) := by decide +kernel
theorem dX11_bring_133 : decode cX11_bring 133 = .ok (.iaload, 1) := by decide +kernel
theorem dX11_bring_134 : decode cX11_bring 134 = .ok (.iadd, 1) := by decide +kernel
theorem dX11_bring_135 : decode cX11_bring 135 = .ok (.dup2, 1) := by decide +kernel
theorem dX11_bring_136 : decode cX11_bring 136 = .ok (.iaload, 1) := by decide +kernel
theorem dX11_bring_137 : decode cX11_bring 137 = .ok (.iload 5, 2) := by decide +kernel
theorem dX11_bring_139 : decode cX11_bring 139 = .ok (.iadd, 1) := by decide +kernel
theorem dX11_bring_140 : decode cX11_bring 140 = .ok (.iastore, 1) := by decide +kernel
theorem dX11_bring_141 : decode cX11_bring 141 = .ok (.iload_n 2, 1) := by decide +kernel
theorem dX11_bring_142 : decode cX11_bring 142 = .ok (.iload 5, 2) := by decide +kernel
theorem dX11_bring_144 : decode cX11_bring 144 = .ok (.iadd, 1) := by decide +kernel
theorem dX11_bring_145 : decode cX11_bring 145 = .ok (.istore_n 2, 1) := by decide +kernel
theorem dX11_bring_146 : decode cX11_bring 146 = .ok (.iinc 3 1, 3) := by decide +kernel
theorem dX11_bring_149 : decode cX11_bring 149 = .ok (.goto (-117), 3) := by decide +kernel
theorem dX11_bring_152 : decode cX11_bring 152 = .ok (.aload_n 0, 1) := by decide +kernel
theorem dX11_bring_153 : decode cX11_bring 153 = .ok (.dup, 1) := by decide +kernel
theorem dX11_bring_154 : decode cX11_bring 154 = .ok (.getfield 279, 3) := by decide +kernel
theorem dX11_bring_157 : decode cX11_bring 157 = .ok (.iload_n 2, 1) := by decide +kernel
theorem dX11_bring_158 : decode cX11_bring 158 = .ok (.iadd, 1) := by decide +kernel
theorem dX11_bring_159 : decode cX11_bring 159 = .ok (.putfield 279, 3) := by decide +kernel
theorem dX11_bring_162 : decode cX11_bring 162 = .ok (.aload_n 0, 1) := by decide +kernel
theorem dX11_bring_163 : decode cX11_bring 163 = .ok (.iload_n 2, 1) := by decide +kernel
theorem dX11_bring_164 : decode cX11_bring 164 = .ok (.invokevirtual 120, 3) := by decide +kernel
theorem dX11_bring_167 : decode cX11_bring 167 = .ok (.ireturn, 1) := by decide +kernel
theorem dX11_owed_0 : decode cX11_owed 0 = .ok (.aload_n 0, 1) := by decide +kernel
theorem dX11_owed_1 : decode cX11_owed 1 = .ok (.iconst 0, 1) := by decide +kernel
theorem dX11_owed_2 : decode cX11_owed 2 = .ok (.putfield 102, 3) := by decide +kernel
theorem dX11_owed_5 : decode cX11_owed 5 = .ok (.iload_n 1, 1) := by decide +kernel
theorem dX11_owed_6 : decode cX11_owed 6 = .ok (.invokestatic 124, 3) := by decide +kernel
theorem dX11_owed_9 : decode cX11_owed 9 = .ok (.ifCond .eq 10, 3) := by decide +kernel
theorem dX11_owed_12 : decode cX11_owed 12 = .ok (.iload_n 2, 1) := by decide +kernel
theorem dX11_owed_13 : decode cX11_owed 13 = .ok (.invokestatic 130, 3) := by decide +kernel
theorem dX11_owed_16 : decode cX11_owed 16 = .ok (.ifCond .ne 5, 3) := by decide +kernel
theorem dX11_owed_19 : decode cX11_owed 19 = .ok (.iconst (-1), 1) := by decide +kernel
theorem dX11_owed_20 : decode cX11_owed 20 = .ok (.ireturn, 1) := by decide +kernel
theorem dX11_owed_21 : decode cX11_owed 21 = .ok (.iconst 0, 1) := by decide +kernel
theorem dX11_owed_22 : decode cX11_owed 22 = .ok (.istore_n 3, 1) := by decide +kernel
theorem dX11_owed_23 : decode cX11_owed 23 = .ok (.iconst 0, 1) := by decide +kernel
theorem dX11_owed_24 : decode cX11_owed 24 = .ok (.istore 4, 2) := by decide +kernel
theorem dX11_owed_26 : decode cX11_owed 26 = .ok (.iload 4, 2) := by decide +kernel
theorem dX11_owed_28 : decode cX11_owed 28 = .ok (.aload_n 0, 1) := by decide +kernel
theorem dX11_owed_29 : decode cX11_owed 29 = .ok (.getfield 276, 3) := by decide +kernel
theorem dX11_owed_32 : decode cX11_owed 32 = .ok (.if_icmp .ge 64, 3) := by decide +kernel
theorem dX11_owed_35 : decode cX11_owed 35 = .ok (.iload_n 3, 1) := by decide +kernel
theorem dX11_owed_36 : decode cX11_owed 36 = .ok (.aload_n 0, 1) := by decide +kernel
theorem dX11_owed_37 : decode cX11_owed 37 = .ok (.getfield 84, 3) := by decide +kernel
theorem dX11_owed_40 : decode cX11_owed 40 = .ok (.iload 4, 2) := by decide +kernel
theorem dX11_owed_42 : decode cX11_owed 42 = .ok (.iaload, 1) := by decide +kernel
theorem dX11_owed_43 : decode cX11_owed 43 = .ok (.iload_n 1, 1) := by decide +kernel
theorem dX11_owed_44 : decode cX11_owed 44 = .ok (.if_icmp .ne 43, 3) := by decide +kernel
theorem dX11_owed_47 : decode cX11_owed 47 = .ok (.aload_n 0, 1) := by decide +kernel
theorem dX11_owed_48 : decode cX11_owed 48 = .ok (.getfield 93, 3) := by decide +kernel
theorem dX11_owed_51 : decode cX11_owed 51 = .ok (.iload 4, 2) := by decide +kernel
theorem dX11_owed_53 : decode cX11_owed 53 = .ok (.iaload, 1) := by decide +kernel
theorem dX11_owed_54 : decode cX11_owed 54 = .ok (.iload_n 2, 1) := by decide +kernel
theorem dX11_owed_55 : decode cX11_owed 55 = .ok (.if_icmp .gt 32, 3) := by decide +kernel
theorem dX11_owed_58 : decode cX11_owed 58 = .ok (.aload_n 0, 1) := by decide +kernel
theorem dX11_owed_59 : decode cX11_owed 59 = .ok (.getfield 90, 3) := by decide +kernel
theorem dX11_owed_62 : decode cX11_owed 62 = .ok (.iload 4, 2) := by decide +kernel
theorem dX11_owed_64 : decode cX11_owed 64 = .ok (.iaload, 1) := by decide +kernel
theorem dX11_owed_65 : decode cX11_owed 65 = .ok (.iload_n 2, 1) := by decide +kernel
theorem dX11_owed_66 : decode cX11_owed 66 = .ok (.if_icmp .gt 21, 3) := by decide +kernel
theorem dX11_owed_69 : decode cX11_owed 69 = .ok (.aload_n 0, 1) := by decide +kernel
theorem dX11_owed_70 : decode cX11_owed 70 = .ok (.getfield 87, 3) := by decide +kernel
theorem dX11_owed_73 : decode cX11_owed 73 = .ok (.iload 4, 2) := by decide +kernel
theorem dX11_owed_75 : decode cX11_owed 75 = .ok (.iaload, 1) := by decide +kernel
theorem dX11_owed_76 : decode cX11_owed 76 = .ok (.aload_n 0, 1) := by decide +kernel
theorem dX11_owed_77 : decode cX11_owed 77 = .ok (.getfield 96, 3) := by decide +kernel
theorem dX11_owed_80 : decode cX11_owed 80 = .ok (.iload 4, 2) := by decide +kernel
theorem dX11_owed_82 : decode cX11_owed 82 = .ok (.iaload, 1) := by decide +kernel
theorem dX11_owed_83 : decode cX11_owed 83 = .ok (.isub, 1) := by decide +kernel
theorem dX11_owed_84 : decode cX11_owed 84 = .ok (.goto 4, 3) := by decide +kernel
theorem dX11_owed_87 : decode cX11_owed 87 = .ok (.iconst 0, 1) := by decide +kernel
theorem dX11_owed_88 : decode cX11_owed 88 = .ok (.iadd, 1) := by decide +kernel
theorem dX11_owed_89 : decode cX11_owed 89 = .ok (.istore_n 3, 1) := by decide +kernel
theorem dX11_owed_90 : decode cX11_owed 90 = .ok (.iinc 4 1, 3) := by decide +kernel
theorem dX11_owed_93 : decode cX11_owed 93 = .ok (.goto (-67), 3) := by decide +kernel
theorem dX11_owed_96 : decode cX11_owed 96 = .ok (.iload_n 3, 1) := by decide +kernel
theorem dX11_owed_97 : decode cX11_owed 97 = .ok (.ireturn, 1) := by decide +kernel
theorem dX11_led_0 : decode cX11_led 0 = .ok (.aload_n 0, 1) := by decide +kernel
theorem dX11_led_1 : decode cX11_led 1 = .ok (.iconst 0, 1) := by decide +kernel
theorem dX11_led_2 : decode cX11_led 2 = .ok (.putfield 102, 3) := by decide +kernel
theorem dX11_led_5 : decode cX11_led 5 = .ok (.iload_n 1, 1) := by decide +kernel
theorem dX11_led_6 : decode cX11_led 6 = .ok (.i2l, 1) := by decide +kernel
theorem dX11_led_7 : decode cX11_led 7 = .ok (.lconst 0, 1) := by decide +kernel
theorem dX11_led_8 : decode cX11_led 8 = .ok (.aload_n 0, 1) := by decide +kernel
theorem dX11_led_9 : decode cX11_led 9 = .ok (.getfield 276, 3) := by decide +kernel
theorem dX11_led_12 : decode cX11_led 12 = .ok (.i2l, 1) := by decide +kernel
theorem dX11_led_13 : decode cX11_led 13 = .ok (.lconst 1, 1) := by decide +kernel
theorem dX11_led_14 : decode cX11_led 14 = .ok (.lsub, 1) := by decide +kernel
theorem dX11_led_15 : decode cX11_led 15 = .ok (.invokestatic 110, 3) := by decide +kernel
