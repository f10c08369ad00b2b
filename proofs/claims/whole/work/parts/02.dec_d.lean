theorem dX12_ears_139 : decode cX12_ears 139 = .ok (.iaload, 1) := by decide +kernel
theorem dX12_ears_140 : decode cX12_ears 140 = .ok (.iload_n 1, 1) := by decide +kernel
theorem dX12_ears_141 : decode cX12_ears 141 = .ok (.invokestatic 82, 3) := by decide +kernel
theorem dX12_ears_144 : decode cX12_ears 144 = .ok (.ifCond .ne 7, 3) := by decide +kernel
theorem dX12_ears_147 : decode cX12_ears 147 = .ok (.iconst 1, 1) := by decide +kernel
theorem dX12_ears_148 : decode cX12_ears 148 = .ok (.goto 4, 3) := by decide +kernel
theorem dX12_ears_151 : decode cX12_ears 151 = .ok (.iconst 0, 1) := by decide +kernel
theorem dX12_ears_152 : decode cX12_ears 152 = .ok (.istore 7, 2) := by decide +kernel
theorem dX12_ears_154 : decode cX12_ears 154 = .ok (.aload_n 0, 1) := by decide +kernel
theorem dX12_ears_155 : decode cX12_ears 155 = .ok (.getfield 30, 3) := by decide +kernel
theorem dX12_ears_158 : decode cX12_ears 158 = .ok (.iload 6, 2) := by decide +kernel
theorem dX12_ears_160 : decode cX12_ears 160 = .ok (.iaload, 1) := by decide +kernel
theorem dX12_ears_161 : decode cX12_ears 161 = .ok (.iload_n 2, 1) := by decide +kernel
theorem dX12_ears_162 : decode cX12_ears 162 = .ok (.invokestatic 82, 3) := by decide +kernel
theorem dX12_ears_165 : decode cX12_ears 165 = .ok (.ifCond .ne 19, 3) := by decide +kernel
theorem dX12_ears_168 : decode cX12_ears 168 = .ok (.aload_n 0, 1) := by decide +kernel
theorem dX12_ears_169 : decode cX12_ears 169 = .ok (.getfield 30, 3) := by decide +kernel
theorem dX12_ears_172 : decode cX12_ears 172 = .ok (.iload 6, 2) := by decide +kernel
theorem dX12_ears_174 : decode cX12_ears 174 = .ok (.iconst 2, 1) := by decide +kernel
theorem dX12_ears_175 : decode cX12_ears 175 = .ok (.ixor, 1) := by decide +kernel
theorem dX12_ears_176 : decode cX12_ears 176 = .ok (.iaload, 1) := by decide +kernel
theorem dX12_ears_177 : decode cX12_ears 177 = .ok (.iload_n 2, 1) := by decide +kernel
theorem dX12_ears_178 : decode cX12_ears 178 = .ok (.invokestatic 82, 3) := by decide +kernel
theorem dX12_ears_181 : decode cX12_ears 181 = .ok (.ifCond .ne 7, 3) := by decide +kernel
theorem dX12_ears_184 : decode cX12_ears 184 = .ok (.iconst 1, 1) := by decide +kernel
theorem dX12_ears_185 : decode cX12_ears 185 = .ok (.goto 4, 3) := by decide +kernel
theorem dX12_ears_188 : decode cX12_ears 188 = .ok (.iconst 0, 1) := by decide +kernel
theorem dX12_ears_189 : decode cX12_ears 189 = .ok (.istore 8, 2) := by decide +kernel
theorem dX12_ears_191 : decode cX12_ears 191 = .ok (.iload 5, 2) := by decide +kernel
theorem dX12_ears_193 : decode cX12_ears 193 = .ok (.iload 7, 2) := by decide +kernel
theorem dX12_ears_195 : decode cX12_ears 195 = .ok (.ifCond .eq 15, 3) := by decide +kernel
theorem dX12_ears_198 : decode cX12_ears 198 = .ok (.iload 8, 2) := by decide +kernel
theorem dX12_ears_200 : decode cX12_ears 200 = .ok (.ifCond .eq 10, 3) := by decide +kernel
theorem dX12_ears_203 : decode cX12_ears 203 = .ok (.iconst 1, 1) := by decide +kernel
theorem dX12_ears_204 : decode cX12_ears 204 = .ok (.iload 6, 2) := by decide +kernel
theorem dX12_ears_206 : decode cX12_ears 206 = .ok (.ishl, 1) := by decide +kernel
theorem dX12_ears_207 : decode cX12_ears 207 = .ok (.goto 4, 3) := by decide +kernel
theorem dX12_ears_210 : decode cX12_ears 210 = .ok (.iconst 0, 1) := by decide +kernel
theorem dX12_ears_211 : decode cX12_ears 211 = .ok (.ior, 1) := by decide +kernel
theorem dX12_ears_212 : decode cX12_ears 212 = .ok (.istore 5, 2) := by decide +kernel
theorem dX12_ears_214 : decode cX12_ears 214 = .ok (.iinc 6 1, 3) := by decide +kernel
theorem dX12_ears_217 : decode cX12_ears 217 = .ok (.goto (-106), 3) := by decide +kernel
theorem dX12_ears_220 : decode cX12_ears 220 = .ok (.iload 5, 2) := by decide +kernel
theorem dX12_ears_222 : decode cX12_ears 222 = .ok (.ireturn, 1) := by decide +kernel
theorem dX12_note_0 : decode cX12_note 0 = .ok (.aload_n 0, 1) := by decide +kernel
theorem dX12_note_1 : decode cX12_note 1 = .ok (.iload_n 1, 1) := by decide +kernel
theorem dX12_note_2 : decode cX12_note 2 = .ok (.invokevirtual 97, 3) := by decide +kernel
theorem dX12_note_5 : decode cX12_note 5 = .ok (.ifCond .eq 44, 3) := by decide +kernel
theorem dX12_note_8 : decode cX12_note 8 = .ok (.iload_n 2, 1) := by decide +kernel
theorem dX12_note_9 : decode cX12_note 9 = .ok (.invokestatic 64, 3) := by decide +kernel
theorem dX12_note_12 : decode cX12_note 12 = .ok (.ifCond .eq 37, 3) := by decide +kernel
theorem dX12_note_15 : decode cX12_note 15 = .ok (.iload_n 3, 1) := by decide +kernel
theorem dX12_note_16 : decode cX12_note 16 = .ok (.i2l, 1) := by decide +kernel
theorem dX12_note_17 : decode cX12_note 17 = .ok (.lconst 0, 1) := by decide +kernel
theorem dX12_note_18 : decode cX12_note 18 = .ok (.ldc2_w 56, 3) := by decide +kernel
theorem dX12_note_21 : decode cX12_note 21 = .ok (.invokestatic 50, 3) := by decide +kernel
theorem dX12_note_24 : decode cX12_note 24 = .ok (.ifCond .eq 25, 3) := by decide +kernel
theorem dX12_note_27 : decode cX12_note 27 = .ok (.iload 4, 2) := by decide +kernel
theorem dX12_note_29 : decode cX12_note 29 = .ok (.i2l, 1) := by decide +kernel
theorem dX12_note_30 : decode cX12_note 30 = .ok (.lconst 0, 1) := by decide +kernel
theorem dX12_note_31 : decode cX12_note 31 = .ok (.lconst 1, 1) := by decide +kernel
theorem dX12_note_32 : decode cX12_note 32 = .ok (.invokestatic 50, 3) := by decide +kernel
theorem dX12_note_35 : decode cX12_note 35 = .ok (.ifCond .eq 14, 3) := by decide +kernel
theorem dX12_note_38 : decode cX12_note 38 = .ok (.iload 5, 2) := by decide +kernel
theorem dX12_note_40 : decode cX12_note 40 = .ok (.i2l, 1) := by decide +kernel
theorem dX12_note_41 : decode cX12_note 41 = .ok (.lconst 0, 1) := by decide +kernel
theorem dX12_note_42 : decode cX12_note 42 = .ok (.lconst 1, 1) := by decide +kernel
theorem dX12_note_43 : decode cX12_note 43 = .ok (.invokestatic 50, 3) := by decide +kernel
theorem dX12_note_46 : decode cX12_note 46 = .ok (.ifCond .ne 10, 3) := by decide +kernel
theorem dX12_note_49 : decode cX12_note 49 = .ok (.aload_n 0, 1) := by decide +kernel
theorem dX12_note_50 : decode cX12_note 50 = .ok (.bipush (-2), 2) := by decide +kernel
theorem dX12_note_52 : decode cX12_note 52 = .ok (.invokevirtual 58, 3) := by decide +kernel
theorem dX12_note_55 : decode cX12_note 55 = .ok (.ireturn, 1) := by decide +kernel
theorem dX12_note_56 : decode cX12_note 56 = .ok (.aload_n 0, 1) := by decide +kernel
theorem dX12_note_57 : decode cX12_note 57 = .ok (.getfield 7, 3) := by decide +kernel
theorem dX12_note_60 : decode cX12_note 60 = .ok (.iconst 3, 1) := by decide +kernel
theorem dX12_note_61 : decode cX12_note 61 = .ok (.iaload, 1) := by decide +kernel
theorem dX12_note_62 : decode cX12_note 62 = .ok (.bipush 6, 2) := by decide +kernel
theorem dX12_note_64 : decode cX12_note 64 = .ok (.if_icmp .ne 8, 3) := by decide +kernel
theorem dX12_note_67 : decode cX12_note 67 = .ok (.aload_n 0, 1) := by decide +kernel
theorem dX12_note_68 : decode cX12_note 68 = .ok (.invokevirtual 68, 3) := by decide +kernel
theorem dX12_note_71 : decode cX12_note 71 = .ok (.ireturn, 1) := by decide +kernel
theorem dX12_note_72 : decode cX12_note 72 = .ok (.bipush 38, 2) := by decide +kernel
theorem dX12_note_74 : decode cX12_note 74 = .ok (.iconst 5, 1) := by decide +kernel
theorem dX12_note_75 : decode cX12_note 75 = .ok (.aload_n 0, 1) := by decide +kernel
theorem dX12_note_76 : decode cX12_note 76 = .ok (.getfield 7, 3) := by decide +kernel
theorem dX12_note_79 : decode cX12_note 79 = .ok (.iconst 3, 1) := by decide +kernel
theorem dX12_note_80 : decode cX12_note 80 = .ok (.iaload, 1) := by decide +kernel
theorem dX12_note_81 : decode cX12_note 81 = .ok (.imul, 1) := by decide +kernel
theorem dX12_note_82 : decode cX12_note 82 = .ok (.iadd, 1) := by decide +kernel
theorem dX12_note_83 : decode cX12_note 83 = .ok (.istore 6, 2) := by decide +kernel
theorem dX12_note_85 : decode cX12_note 85 = .ok (.aload_n 0, 1) := by decide +kernel
theorem dX12_note_86 : decode cX12_note 86 = .ok (.getfield 7, 3) := by decide +kernel
theorem dX12_note_89 : decode cX12_note 89 = .ok (.iload 6, 2) := by decide +kernel
theorem dX12_note_91 : decode cX12_note 91 = .ok (.iload_n 1, 1) := by decide +kernel
theorem dX12_note_92 : decode cX12_note 92 = .ok (.iastore, 1) := by decide +kernel
theorem dX12_note_93 : decode cX12_note 93 = .ok (.aload_n 0, 1) := by decide +kernel
theorem dX12_note_94 : decode cX12_note 94 = .ok (.getfield 7, 3) := by decide +kernel
theorem dX12_note_97 : decode cX12_note 97 = .ok (.iload 6, 2) := by decide +kernel
theorem dX12_note_99 : decode cX12_note 99 = .ok (.iconst 1, 1) := by decide +kernel
theorem dX12_note_100 : decode cX12_note 100 = .ok (.iadd, 1) := by decide +kernel
theorem dX12_note_101 : decode cX12_note 101 = .ok (.iload_n 2, 1) := by decide +kernel
theorem dX12_note_102 : decode cX12_note 102 = .ok (.iastore, 1) := by decide +kernel
theorem dX12_note_103 : decode cX12_note 103 = .ok (.aload_n 0, 1) := by decide +kernel
theorem dX12_note_104 : decode cX12_note 104 = .ok (.getfield 7, 3) := by decide +kernel
theorem dX12_note_107 : decode cX12_note 107 = .ok (.iload 6, 2) := by decide +kernel
theorem dX12_note_109 : decode cX12_note 109 = .ok (.iconst 2, 1) := by decide +kernel
theorem dX12_note_110 : decode cX12_note 110 = .ok (.iadd, 1) := by decide +kernel
theorem dX12_note_111 : decode cX12_note 111 = .ok (.iload_n 3, 1) := by decide +kernel
theorem dX12_note_112 : decode cX12_note 112 = .ok (.iastore, 1) := by decide +kernel
theorem dX12_note_113 : decode cX12_note 113 = .ok (.aload_n 0, 1) := by decide +kernel
theorem dX12_note_114 : decode cX12_note 114 = .ok (.getfield 7, 3) := by decide +kernel
theorem dX12_note_117 : decode cX12_note 117 = .ok (.iload 6, 2) := by decide +kernel
theorem dX12_note_119 : decode cX12_note 119 = .ok (.iconst 3, 1) := by decide +kernel
theorem dX12_note_120 : decode cX12_note 120 = .ok (.iadd, 1) := by decide +kernel
theorem dX12_note_121 : decode cX12_note 121 = .ok (.iload 4, 2) := by decide +kernel
theorem dX12_note_123 : decode cX12_note 123 = .ok (.iastore, 1) := by decide +kernel
theorem dX12_note_124 : decode cX12_note 124 = .ok (.aload_n 0, 1) := by decide +kernel
theorem dX12_note_125 : decode cX12_note 125 = .ok (.getfield 7, 3) := by decide +kernel
theorem dX12_note_128 : decode cX12_note 128 = .ok (.iload 6, 2) := by decide +kernel
theorem dX12_note_130 : decode cX12_note 130 = .ok (.iconst 4, 1) := by decide +kernel
theorem dX12_note_131 : decode cX12_note 131 = .ok (.iadd, 1) := by decide +kernel
theorem dX12_note_132 : decode cX12_note 132 = .ok (.iload 5, 2) := by decide +kernel
theorem dX12_note_134 : decode cX12_note 134 = .ok (.iastore, 1) := by decide +kernel
theorem dX12_note_135 : decode cX12_note 135 = .ok (.aload_n 0, 1) := by decide +kernel
theorem dX12_note_136 : decode cX12_note 136 = .ok (.getfield 7, 3) := by decide +kernel
theorem dX12_note_139 : decode cX12_note 139 = .ok (.iconst 3, 1) := by decide +kernel
theorem dX12_note_140 : decode cX12_note 140 = .ok (.dup2, 1) := by decide +kernel
theorem dX12_note_141 : decode cX12_note 141 = .ok (.iaload, 1) := by decide +kernel
theorem dX12_note_142 : decode cX12_note 142 = .ok (.iconst 1, 1) := by decide +kernel
theorem dX12_note_143 : decode cX12_note 143 = .ok (.iadd, 1) := by decide +kernel
theorem dX12_note_144 : decode cX12_note 144 = .ok (.iastore, 1) := by decide +kernel
theorem dX12_note_145 : decode cX12_note 145 = .ok (.aload_n 0, 1) := by decide +kernel
theorem dX12_note_146 : decode cX12_note 146 = .ok (.getfield 7, 3) := by decide +kernel
theorem dX12_note_149 : decode cX12_note 149 = .ok (.iconst 3, 1) := by decide +kernel
theorem dX12_note_150 : decode cX12_note 150 = .ok (.iaload, 1) := by decide +kernel
theorem dX12_note_151 : decode cX12_note 151 = .ok (.ireturn, 1) := by decide +kernel
theorem dX12_forget_0 : decode cX12_forget 0 = .ok (.iload_n 1, 1) := by decide +kernel
theorem dX12_forget_1 : decode cX12_forget 1 = .ok (.i2l, 1) := by decide +kernel
theorem dX12_forget_2 : decode cX12_forget 2 = .ok (.lconst 0, 1) := by decide +kernel
theorem dX12_forget_3 : decode cX12_forget 3 = .ok (.lconst 1, 1) := by decide +kernel
theorem dX12_forget_4 : decode cX12_forget 4 = .ok (.invokestatic 50, 3) := by decide +kernel
theorem dX12_forget_7 : decode cX12_forget 7 = .ok (.ifCond .ne 10, 3) := by decide +kernel
theorem dX12_forget_10 : decode cX12_forget 10 = .ok (.aload_n 0, 1) := by decide +kernel
theorem dX12_forget_11 : decode cX12_forget 11 = .ok (.bipush (-2), 2) := by decide +kernel
theorem dX12_forget_13 : decode cX12_forget 13 = .ok (.invokevirtual 58, 3) := by decide +kernel
theorem dX12_forget_16 : decode cX12_forget 16 = .ok (.ireturn, 1) := by decide +kernel
theorem dX12_forget_17 : decode cX12_forget 17 = .ok (.aload_n 0, 1) := by decide +kernel
theorem dX12_forget_18 : decode cX12_forget 18 = .ok (.getfield 7, 3) := by decide +kernel
theorem dX12_forget_21 : decode cX12_forget 21 = .ok (.iconst 2, 1) := by decide +kernel
theorem dX12_forget_22 : decode cX12_forget 22 = .ok (.iload_n 1, 1) := by decide +kernel
theorem dX12_forget_23 : decode cX12_forget 23 = .ok (.iadd, 1) := by decide +kernel
theorem dX12_forget_24 : decode cX12_forget 24 = .ok (.iaload, 1) := by decide +kernel
theorem dX12_forget_25 : decode cX12_forget 25 = .ok (.istore_n 2, 1) := by decide +kernel
theorem dX12_forget_26 : decode cX12_forget 26 = .ok (.aload_n 0, 1) := by decide +kernel
theorem dX12_forget_27 : decode cX12_forget 27 = .ok (.getfield 7, 3) := by decide +kernel
theorem dX12_forget_30 : decode cX12_forget 30 = .ok (.iconst 2, 1) := by decide +kernel
theorem dX12_forget_31 : decode cX12_forget 31 = .ok (.iload_n 1, 1) := by decide +kernel
theorem dX12_forget_32 : decode cX12_forget 32 = .ok (.iadd, 1) := by decide +kernel
theorem dX12_forget_33 : decode cX12_forget 33 = .ok (.iconst 0, 1) := by decide +kernel
theorem dX12_forget_34 : decode cX12_forget 34 = .ok (.iastore, 1) := by decide +kernel
theorem dX12_forget_35 : decode cX12_forget 35 = .ok (.iload_n 2, 1) := by decide +kernel
theorem dX12_forget_36 : decode cX12_forget 36 = .ok (.ireturn, 1) := by decide +kernel
theorem dX12_areSo_0 : decode cX12_areSo 0 = .ok (.iconst 1, 1) := by decide +kernel
theorem dX12_areSo_1 : decode cX12_areSo 1 = .ok (.istore 4, 2) := by decide +kernel
theorem dX12_areSo_3 : decode cX12_areSo 3 = .ok (.iconst 0, 1) := by decide +kernel
theorem dX12_areSo_4 : decode cX12_areSo 4 = .ok (.istore 5, 2) := by decide +kernel
theorem dX12_areSo_6 : decode cX12_areSo 6 = .ok (.iload 5, 2) := by decide +kernel
theorem dX12_areSo_8 : decode cX12_areSo 8 = .ok (.aload_n 0, 1) := by decide +kernel
theorem dX12_areSo_9 : decode cX12_areSo 9 = .ok (.getfield 7, 3) := by decide +kernel
theorem dX12_areSo_12 : decode cX12_areSo 12 = .ok (.iconst 3, 1) := by decide +kernel
theorem dX12_areSo_13 : decode cX12_areSo 13 = .ok (.iaload, 1) := by decide +kernel
theorem dX12_areSo_14 : decode cX12_areSo 14 = .ok (.if_icmp .ge 111, 3) := by decide +kernel
theorem dX12_areSo_17 : decode cX12_areSo 17 = .ok (.bipush 38, 2) := by decide +kernel
theorem dX12_areSo_19 : decode cX12_areSo 19 = .ok (.iconst 5, 1) := by decide +kernel
theorem dX12_areSo_20 : decode cX12_areSo 20 = .ok (.iload 5, 2) := by decide +kernel
theorem dX12_areSo_22 : decode cX12_areSo 22 = .ok (.imul, 1) := by decide +kernel
theorem dX12_areSo_23 : decode cX12_areSo 23 = .ok (.iadd, 1) := by decide +kernel
theorem dX12_areSo_24 : decode cX12_areSo 24 = .ok (.istore 6, 2) := by decide +kernel
theorem dX12_areSo_26 : decode cX12_areSo 26 = .ok (.iload_n 2, 1) := by decide +kernel
theorem dX12_areSo_27 : decode cX12_areSo 27 = .ok (.iload_n 3, 1) := by decide +kernel
theorem dX12_areSo_28 : decode cX12_areSo 28 = .ok (.aload_n 0, 1) := by decide +kernel
theorem dX12_areSo_29 : decode cX12_areSo 29 = .ok (.getfield 7, 3) := by decide +kernel
theorem dX12_areSo_32 : decode cX12_areSo 32 = .ok (.iload 6, 2) := by decide +kernel
theorem dX12_areSo_34 : decode cX12_areSo 34 = .ok (.iconst 1, 1) := by decide +kernel
theorem dX12_areSo_35 : decode cX12_areSo 35 = .ok (.iadd, 1) := by decide +kernel
theorem dX12_areSo_36 : decode cX12_areSo 36 = .ok (.iaload, 1) := by decide +kernel
theorem dX12_areSo_37 : decode cX12_areSo 37 = .ok (.invokestatic 78, 3) := by decide +kernel
theorem dX12_areSo_40 : decode cX12_areSo 40 = .ok (.aload_n 0, 1) := by decide +kernel
theorem dX12_areSo_41 : decode cX12_areSo 41 = .ok (.getfield 7, 3) := by decide +kernel
theorem dX12_areSo_44 : decode cX12_areSo 44 = .ok (.iload 6, 2) := by decide +kernel
theorem dX12_areSo_46 : decode cX12_areSo 46 = .ok (.iconst 3, 1) := by decide +kernel
theorem dX12_areSo_47 : decode cX12_areSo 47 = .ok (.iadd, 1) := by decide +kernel
theorem dX12_areSo_48 : decode cX12_areSo 48 = .ok (.iaload, 1) := by decide +kernel
theorem dX12_areSo_49 : decode cX12_areSo 49 = .ok (.iconst 1, 1) := by decide +kernel
theorem dX12_areSo_50 : decode cX12_areSo 50 = .ok (.if_icmp .ne 7, 3) := by decide +kernel
theorem dX12_areSo_53 : decode cX12_areSo 53 = .ok (.iconst 1, 1) := by decide +kernel
theorem dX12_areSo_54 : decode cX12_areSo 54 = .ok (.goto 4, 3) := by decide +kernel
theorem dX12_areSo_57 : decode cX12_areSo 57 = .ok (.iconst 0, 1) := by decide +kernel
theorem dX12_areSo_58 : decode cX12_areSo 58 = .ok (.iconst 0, 1) := by decide +kernel
theorem dX12_areSo_59 : decode cX12_areSo 59 = .ok (.aload_n 0, 1) := by decide +kernel
theorem dX12_areSo_60 : decode cX12_areSo 60 = .ok (.getfield 7, 3) := by decide +kernel
theorem dX12_areSo_63 : decode cX12_areSo 63 = .ok (.iload 6, 2) := by decide +kernel
theorem dX12_areSo_65 : decode cX12_areSo 65 = .ok (.iconst 2, 1) := by decide +kernel
theorem dX12_areSo_66 : decode cX12_areSo 66 = .ok (.iadd, 1) := by decide +kernel
theorem dX12_areSo_67 : decode cX12_areSo 67 = .ok (.iaload, 1) := by decide +kernel
theorem dX12_areSo_68 : decode cX12_areSo 68 = .ok (.invokestatic 86, 3) := by decide +kernel
theorem dX12_areSo_71 : decode cX12_areSo 71 = .ok (.istore 7, 2) := by decide +kernel
theorem dX12_areSo_73 : decode cX12_areSo 73 = .ok (.iload 4, 2) := by decide +kernel
theorem dX12_areSo_75 : decode cX12_areSo 75 = .ok (.ifCond .eq 41, 3) := by decide +kernel
theorem dX12_areSo_78 : decode cX12_areSo 78 = .ok (.aload_n 0, 1) := by decide +kernel
theorem dX12_areSo_79 : decode cX12_areSo 79 = .ok (.getfield 7, 3) := by decide +kernel
theorem dX12_areSo_82 : decode cX12_areSo 82 = .ok (.iload 6, 2) := by decide +kernel
theorem dX12_areSo_84 : decode cX12_areSo 84 = .ok (.iaload, 1) := by decide +kernel
theorem dX12_areSo_85 : decode cX12_areSo 85 = .ok (.iload_n 1, 1) := by decide +kernel
theorem dX12_areSo_86 : decode cX12_areSo 86 = .ok (.if_icmp .ne 26, 3) := by decide +kernel
theorem dX12_areSo_89 : decode cX12_areSo 89 = .ok (.iload 7, 2) := by decide +kernel
theorem dX12_areSo_91 : decode cX12_areSo 91 = .ok (.aload_n 0, 1) := by decide +kernel
theorem dX12_areSo_92 : decode cX12_areSo 92 = .ok (.getfield 7, 3) := by decide +kernel
theorem dX12_areSo_95 : decode cX12_areSo 95 = .ok (.iload 6, 2) := by decide +kernel
theorem dX12_areSo_97 : decode cX12_areSo 97 = .ok (.iconst 4, 1) := by decide +kernel
theorem dX12_areSo_98 : decode cX12_areSo 98 = .ok (.iadd, 1) := by decide +kernel
theorem dX12_areSo_99 : decode cX12_areSo 99 = .ok (.iaload, 1) := by decide +kernel
theorem dX12_areSo_100 : decode cX12_areSo 100 = .ok (.iconst 1, 1) := by decide +kernel
theorem dX12_areSo_101 : decode cX12_areSo 101 = .ok (.if_icmp .ne 7, 3) := by decide +kernel
theorem dX12_areSo_104 : decode cX12_areSo 104 = .ok (.iconst 1, 1) := by decide +kernel
theorem dX12_areSo_105 : decode cX12_areSo 105 = .ok (.goto 4, 3) := by decide +kernel
theorem dX12_areSo_108 : decode cX12_areSo 108 = .ok (.iconst 0, 1) := by decide +kernel
theorem dX12_areSo_109 : decode cX12_areSo 109 = .ok (.if_icmp .ne 7, 3) := by decide +kernel
theorem dX12_areSo_112 : decode cX12_areSo 112 = .ok (.iconst 1, 1) := by decide +kernel
theorem dX12_areSo_113 : decode cX12_areSo 113 = .ok (.goto 4, 3) := by decide +kernel
theorem dX12_areSo_116 : decode cX12_areSo 116 = .ok (.iconst 0, 1) := by decide +kernel
theorem dX12_areSo_117 : decode cX12_areSo 117 = .ok (.istore 4, 2) := by decide +kernel
theorem dX12_areSo_119 : decode cX12_areSo 119 = .ok (.iinc 5 1, 3) := by decide +kernel
theorem dX12_areSo_122 : decode cX12_areSo 122 = .ok (.goto (-116), 3) := by decide +kernel
theorem dX12_areSo_125 : decode cX12_areSo 125 = .ok (.iload 4, 2) := by decide +kernel
theorem dX12_areSo_127 : decode cX12_areSo 127 = .ok (.ireturn, 1) := by decide +kernel
theorem dX12_is_0 : decode cX12_is 0 = .ok (.aload_n 0, 1) := by decide +kernel
theorem dX12_is_1 : decode cX12_is 1 = .ok (.iload_n 1, 1) := by decide +kernel
theorem dX12_is_2 : decode cX12_is 2 = .ok (.invokevirtual 97, 3) := by decide +kernel
theorem dX12_is_5 : decode cX12_is 5 = .ok (.ifCond .ne 10, 3) := by decide +kernel
theorem dX12_is_8 : decode cX12_is 8 = .ok (.aload_n 0, 1) := by decide +kernel
theorem dX12_is_9 : decode cX12_is 9 = .ok (.bipush (-2), 2) := by decide +kernel
theorem dX12_is_11 : decode cX12_is 11 = .ok (.invokevirtual 58, 3) := by decide +kernel
theorem dX12_is_14 : decode cX12_is 14 = .ok (.ireturn, 1) := by decide +kernel
theorem dX12_is_15 : decode cX12_is 15 = .ok (.iconst 0, 1) := by decide +kernel
theorem dX12_is_16 : decode cX12_is 16 = .ok (.istore_n 2, 1) := by decide +kernel
theorem dX12_is_17 : decode cX12_is 17 = .ok (.iconst 0, 1) := by decide +kernel
theorem dX12_is_18 : decode cX12_is 18 = .ok (.istore_n 3, 1) := by decide +kernel
theorem dX12_is_19 : decode cX12_is 19 = .ok (.iload_n 3, 1) := by decide +kernel
theorem dX12_is_20 : decode cX12_is 20 = .ok (.bipush 6, 2) := by decide +kernel
theorem dX12_is_22 : decode cX12_is 22 = .ok (.if_icmp .ge 37, 3) := by decide +kernel
theorem dX12_is_25 : decode cX12_is 25 = .ok (.iload_n 2, 1) := by decide +kernel
theorem dX12_is_26 : decode cX12_is 26 = .ok (.aload_n 0, 1) := by decide +kernel
theorem dX12_is_27 : decode cX12_is 27 = .ok (.iload_n 1, 1) := by decide +kernel
theorem dX12_is_28 : decode cX12_is 28 = .ok (.iload_n 3, 1) := by decide +kernel
theorem dX12_is_29 : decode cX12_is 29 = .ok (.aload_n 0, 1) := by decide +kernel
theorem dX12_is_30 : decode cX12_is 30 = .ok (.getfield 7, 3) := by decide +kernel
theorem dX12_is_33 : decode cX12_is 33 = .ok (.bipush 12, 2) := by decide +kernel
theorem dX12_is_35 : decode cX12_is 35 = .ok (.iload_n 1, 1) := by decide +kernel
theorem dX12_is_36 : decode cX12_is 36 = .ok (.iadd, 1) := by decide +kernel
theorem dX12_is_37 : decode cX12_is 37 = .ok (.iaload, 1) := by decide +kernel
theorem dX12_is_38 : decode cX12_is 38 = .ok (.invokevirtual 154, 3) := by decide +kernel
theorem dX12_is_41 : decode cX12_is 41 = .ok (.ifCond .eq 9, 3) := by decide +kernel
theorem dX12_is_44 : decode cX12_is 44 = .ok (.iconst 1, 1) := by decide +kernel
theorem dX12_is_45 : decode cX12_is 45 = .ok (.iload_n 3, 1) := by decide +kernel
theorem dX12_is_46 : decode cX12_is 46 = .ok (.ishl, 1) := by decide +kernel
theorem dX12_is_47 : decode cX12_is 47 = .ok (.goto 4, 3) := by decide +kernel
theorem dX12_is_50 : decode cX12_is 50 = .ok (.iconst 0, 1) := by decide +kernel
theorem dX12_is_51 : decode cX12_is 51 = .ok (.ior, 1) := by decide +kernel
theorem dX12_is_52 : decode cX12_is 52 = .ok (.istore_n 2, 1) := by decide +kernel
theorem dX12_is_53 : decode cX12_is 53 = .ok (.iinc 3 1, 3) := by decide +kernel
theorem dX12_is_56 : decode cX12_is 56 = .ok (.goto (-37), 3) := by decide +kernel
theorem dX12_is_59 : decode cX12_is 59 = .ok (.iload_n 2, 1) := by decide +kernel
theorem dX12_is_60 : decode cX12_is 60 = .ok (.ireturn, 1) := by decide +kernel
theorem dX12_placesOf_0 : decode cX12_placesOf 0 = .ok (.iconst 0, 1) := by decide +kernel
theorem dX12_placesOf_1 : decode cX12_placesOf 1 = .ok (.istore_n 2, 1) := by decide +kernel
theorem dX12_placesOf_2 : decode cX12_placesOf 2 = .ok (.iconst 0, 1) := by decide +kernel
theorem dX12_placesOf_3 : decode cX12_placesOf 3 = .ok (.istore_n 3, 1) := by decide +kernel
theorem dX12_placesOf_4 : decode cX12_placesOf 4 = .ok (.iload_n 3, 1) := by decide +kernel
theorem dX12_placesOf_5 : decode cX12_placesOf 5 = .ok (.bipush 10, 2) := by decide +kernel
theorem dX12_placesOf_7 : decode cX12_placesOf 7 = .ok (.if_icmp .ge 37, 3) := by decide +kernel
theorem dX12_placesOf_10 : decode cX12_placesOf 10 = .ok (.iload_n 2, 1) := by decide +kernel
theorem dX12_placesOf_11 : decode cX12_placesOf 11 = .ok (.aload_n 0, 1) := by decide +kernel
theorem dX12_placesOf_12 : decode cX12_placesOf 12 = .ok (.iload_n 1, 1) := by decide +kernel
theorem dX12_placesOf_13 : decode cX12_placesOf 13 = .ok (.aload_n 0, 1) := by decide +kernel
theorem dX12_placesOf_14 : decode cX12_placesOf 14 = .ok (.getfield 7, 3) := by decide +kernel
theorem dX12_placesOf_17 : decode cX12_placesOf 17 = .ok (.bipush 19, 2) := by decide +kernel
theorem dX12_placesOf_19 : decode cX12_placesOf 19 = .ok (.iload_n 1, 1) := by decide +kernel
theorem dX12_placesOf_20 : decode cX12_placesOf 20 = .ok (.iadd, 1) := by decide +kernel
theorem dX12_placesOf_21 : decode cX12_placesOf 21 = .ok (.iaload, 1) := by decide +kernel
theorem dX12_placesOf_22 : decode cX12_placesOf 22 = .ok (.iload_n 3, 1) := by decide +kernel
theorem dX12_placesOf_23 : decode cX12_placesOf 23 = .ok (.invokevirtual 154, 3) := by decide +kernel
theorem dX12_placesOf_26 : decode cX12_placesOf 26 = .ok (.ifCond .eq 9, 3) := by decide +kernel
theorem dX12_placesOf_29 : decode cX12_placesOf 29 = .ok (.iconst 1, 1) := by decide +kernel
theorem dX12_placesOf_30 : decode cX12_placesOf 30 = .ok (.iload_n 3, 1) := by decide +kernel
theorem dX12_placesOf_31 : decode cX12_placesOf 31 = .ok (.ishl, 1) := by decide +kernel
theorem dX12_placesOf_32 : decode cX12_placesOf 32 = .ok (.goto 4, 3) := by decide +kernel
theorem dX12_placesOf_35 : decode cX12_placesOf 35 = .ok (.iconst 0, 1) := by decide +kernel
theorem dX12_placesOf_36 : decode cX12_placesOf 36 = .ok (.ior, 1) := by decide +kernel
theorem dX12_placesOf_37 : decode cX12_placesOf 37 = .ok (.istore_n 2, 1) := by decide +kernel
theorem dX12_placesOf_38 : decode cX12_placesOf 38 = .ok (.iinc 3 1, 3) := by decide +kernel
theorem dX12_placesOf_41 : decode cX12_placesOf 41 = .ok (.goto (-37), 3) := by decide +kernel
theorem dX12_placesOf_44 : decode cX12_placesOf 44 = .ok (.iload_n 2, 1) := by decide +kernel
theorem dX12_placesOf_45 : decode cX12_placesOf 45 = .ok (.ireturn, 1) := by decide +kernel
theorem dX12_stood_0 : decode cX12_stood 0 = .ok (.aload_n 0, 1) := by decide +kernel
theorem dX12_stood_1 : decode cX12_stood 1 = .ok (.iload_n 1, 1) := by decide +kernel
theorem dX12_stood_2 : decode cX12_stood 2 = .ok (.invokevirtual 97, 3) := by decide +kernel
theorem dX12_stood_5 : decode cX12_stood 5 = .ok (.ifCond .eq 11, 3) := by decide +kernel
theorem dX12_stood_8 : decode cX12_stood 8 = .ok (.aload_n 0, 1) := by decide +kernel
theorem dX12_stood_9 : decode cX12_stood 9 = .ok (.iload_n 1, 1) := by decide +kernel
theorem dX12_stood_10 : decode cX12_stood 10 = .ok (.invokevirtual 158, 3) := by decide +kernel
theorem dX12_stood_13 : decode cX12_stood 13 = .ok (.goto 9, 3) := by decide +kernel
theorem dX12_stood_16 : decode cX12_stood 16 = .ok (.aload_n 0, 1) := by decide +kernel
theorem dX12_stood_17 : decode cX12_stood 17 = .ok (.bipush (-2), 2) := by decide +kernel
theorem dX12_stood_19 : decode cX12_stood 19 = .ok (.invokevirtual 58, 3) := by decide +kernel
theorem dX12_stood_22 : decode cX12_stood 22 = .ok (.ireturn, 1) := by decide +kernel
theorem dX12_next_0 : decode cX12_next 0 = .ok (.aload_n 0, 1) := by decide +kernel
theorem dX12_next_1 : decode cX12_next 1 = .ok (.iload_n 1, 1) := by decide +kernel
theorem dX12_next_2 : decode cX12_next 2 = .ok (.invokevirtual 97, 3) := by decide +kernel
theorem dX12_next_5 : decode cX12_next 5 = .ok (.ifCond .ne 10, 3) := by decide +kernel
theorem dX12_next_8 : decode cX12_next 8 = .ok (.aload_n 0, 1) := by decide +kernel
theorem dX12_next_9 : decode cX12_next 9 = .ok (.bipush (-2), 2) := by decide +kernel
theorem dX12_next_11 : decode cX12_next 11 = .ok (.invokevirtual 58, 3) := by decide +kernel
theorem dX12_next_14 : decode cX12_next 14 = .ok (.ireturn, 1) := by decide +kernel
theorem dX12_next_15 : decode cX12_next 15 = .ok (.aload_n 0, 1) := by decide +kernel
theorem dX12_next_16 : decode cX12_next 16 = .ok (.iload_n 1, 1) := by decide +kernel
theorem dX12_next_17 : decode cX12_next 17 = .ok (.invokevirtual 158, 3) := by decide +kernel
theorem dX12_next_20 : decode cX12_next 20 = .ok (.istore_n 2, 1) := by decide +kernel
theorem dX12_next_21 : decode cX12_next 21 = .ok (.iconst (-1), 1) := by decide +kernel
theorem dX12_next_22 : decode cX12_next 22 = .ok (.istore_n 3, 1) := by decide +kernel
theorem dX12_next_23 : decode cX12_next 23 = .ok (.ldc 161, 2) := by decide +kernel
theorem dX12_next_25 : decode cX12_next 25 = .ok (.istore 4, 2) := by decide +kernel
theorem dX12_next_27 : decode cX12_next 27 = .ok (.iconst 0, 1) := by decide +kernel
theorem dX12_next_28 : decode cX12_next 28 = .ok (.istore 5, 2) := by decide +kernel
theorem dX12_next_30 : decode cX12_next 30 = .ok (.iload 5, 2) := by decide +kernel
theorem dX12_next_32 : decode cX12_next 32 = .ok (.bipush 10, 2) := by decide +kernel
theorem dX12_next_34 : decode cX12_next 34 = .ok (.if_icmp .ge 136, 3) := by decide +kernel
theorem dX12_next_37 : decode cX12_next 37 = .ok (.iload_n 2, 1) := by decide +kernel
theorem dX12_next_38 : decode cX12_next 38 = .ok (.ifCond .le 132, 3) := by decide +kernel
theorem dX12_next_41 : decode cX12_next 41 = .ok (.iconst 0, 1) := by decide +kernel
theorem dX12_next_42 : decode cX12_next 42 = .ok (.istore 6, 2) := by decide +kernel
theorem dX12_next_44 : decode cX12_next 44 = .ok (.iconst 0, 1) := by decide +kernel
theorem dX12_next_45 : decode cX12_next 45 = .ok (.istore 7, 2) := by decide +kernel
theorem dX12_next_47 : decode cX12_next 47 = .ok (.iload 7, 2) := by decide +kernel
theorem dX12_next_49 : decode cX12_next 49 = .ok (.bipush 10, 2) := by decide +kernel
theorem dX12_next_51 : decode cX12_next 51 = .ok (.if_icmp .ge 58, 3) := by decide +kernel
theorem dX12_next_54 : decode cX12_next 54 = .ok (.iload 6, 2) := by decide +kernel
theorem dX12_next_56 : decode cX12_next 56 = .ok (.iload_n 2, 1) := by decide +kernel
theorem dX12_next_57 : decode cX12_next 57 = .ok (.iload 7, 2) := by decide +kernel
theorem dX12_next_59 : decode cX12_next 59 = .ok (.invokestatic 82, 3) := by decide +kernel
theorem dX12_next_62 : decode cX12_next 62 = .ok (.ifCond .eq 37, 3) := by decide +kernel
theorem dX12_next_65 : decode cX12_next 65 = .ok (.aload_n 0, 1) := by decide +kernel
theorem dX12_next_66 : decode cX12_next 66 = .ok (.getfield 7, 3) := by decide +kernel
theorem dX12_next_69 : decode cX12_next 69 = .ok (.bipush 19, 2) := by decide +kernel
theorem dX12_next_71 : decode cX12_next 71 = .ok (.iload_n 1, 1) := by decide +kernel
theorem dX12_next_72 : decode cX12_next 72 = .ok (.iadd, 1) := by decide +kernel
theorem dX12_next_73 : decode cX12_next 73 = .ok (.iaload, 1) := by decide +kernel
theorem dX12_next_74 : decode cX12_next 74 = .ok (.iload 7, 2) := by decide +kernel
theorem dX12_next_76 : decode cX12_next 76 = .ok (.iload 5, 2) := by decide +kernel
theorem dX12_next_78 : decode cX12_next 78 = .ok (.invokestatic 78, 3) := by decide +kernel
theorem dX12_next_81 : decode cX12_next 81 = .ok (.iconst 0, 1) := by decide +kernel
theorem dX12_next_82 : decode cX12_next 82 = .ok (.iconst 0, 1) := by decide +kernel
theorem dX12_next_83 : decode cX12_next 83 = .ok (.aload_n 0, 1) := by decide +kernel
theorem dX12_next_84 : decode cX12_next 84 = .ok (.getfield 7, 3) := by decide +kernel
theorem dX12_next_87 : decode cX12_next 87 = .ok (.iconst 1, 1) := by decide +kernel
theorem dX12_next_88 : decode cX12_next 88 = .ok (.iaload, 1) := by decide +kernel
theorem dX12_next_89 : decode cX12_next 89 = .ok (.invokestatic 86, 3) := by decide +kernel
theorem dX12_next_92 : decode cX12_next 92 = .ok (.ifCond .eq 7, 3) := by decide +kernel
theorem dX12_next_95 : decode cX12_next 95 = .ok (.iconst 1, 1) := by decide +kernel
theorem dX12_next_96 : decode cX12_next 96 = .ok (.goto 4, 3) := by decide +kernel
theorem dX12_next_99 : decode cX12_next 99 = .ok (.iconst 0, 1) := by decide +kernel
theorem dX12_next_100 : decode cX12_next 100 = .ok (.iadd, 1) := by decide +kernel
theorem dX12_next_101 : decode cX12_next 101 = .ok (.istore 6, 2) := by decide +kernel
theorem dX12_next_103 : decode cX12_next 103 = .ok (.iinc 7 1, 3) := by decide +kernel
theorem dX12_next_106 : decode cX12_next 106 = .ok (.goto (-59), 3) := by decide +kernel
theorem dX12_next_109 : decode cX12_next 109 = .ok (.iconst 2, 1) := by decide +kernel
theorem dX12_next_110 : decode cX12_next 110 = .ok (.iload 6, 2) := by decide +kernel
theorem dX12_next_112 : decode cX12_next 112 = .ok (.imul, 1) := by decide +kernel
theorem dX12_next_113 : decode cX12_next 113 = .ok (.iload_n 2, 1) := by decide +kernel
theorem dX12_next_114 : decode cX12_next 114 = .ok (.invokestatic 114, 3) := by decide +kernel
theorem dX12_next_117 : decode cX12_next 117 = .ok (.if_icmp .le 8, 3) := by decide +kernel
theorem dX12_next_120 : decode cX12_next 120 = .ok (.iload 6, 2) := by decide +kernel
theorem dX12_next_122 : decode cX12_next 122 = .ok (.goto 10, 3) := by decide +kernel
theorem dX12_next_125 : decode cX12_next 125 = .ok (.iload_n 2, 1) := by decide +kernel
theorem dX12_next_126 : decode cX12_next 126 = .ok (.invokestatic 114, 3) := by decide +kernel
theorem dX12_next_129 : decode cX12_next 129 = .ok (.iload 6, 2) := by decide +kernel
theorem dX12_next_131 : decode cX12_next 131 = .ok (.isub, 1) := by decide +kernel
theorem dX12_next_132 : decode cX12_next 132 = .ok (.istore 7, 2) := by decide +kernel
theorem dX12_next_134 : decode cX12_next 134 = .ok (.iload 7, 2) := by decide +kernel
theorem dX12_next_136 : decode cX12_next 136 = .ok (.iload 4, 2) := by decide +kernel
theorem dX12_next_138 : decode cX12_next 138 = .ok (.if_icmp .ge 8, 3) := by decide +kernel
theorem dX12_next_141 : decode cX12_next 141 = .ok (.iload 5, 2) := by decide +kernel
theorem dX12_next_143 : decode cX12_next 143 = .ok (.goto 4, 3) := by decide +kernel
theorem dX12_next_146 : decode cX12_next 146 = .ok (.iload_n 3, 1) := by decide +kernel
theorem dX12_next_147 : decode cX12_next 147 = .ok (.istore_n 3, 1) := by decide +kernel
theorem dX12_next_148 : decode cX12_next 148 = .ok (.iload 7, 2) := by decide +kernel
theorem dX12_next_150 : decode cX12_next 150 = .ok (.iload 4, 2) := by decide +kernel
theorem dX12_next_152 : decode cX12_next 152 = .ok (.if_icmp .ge 8, 3) := by decide +kernel
theorem dX12_next_155 : decode cX12_next 155 = .ok (.iload 7, 2) := by decide +kernel
theorem dX12_next_157 : decode cX12_next 157 = .ok (.goto 5, 3) := by decide +kernel
theorem dX12_next_160 : decode cX12_next 160 = .ok (.iload 4, 2) := by decide +kernel
theorem dX12_next_162 : decode cX12_next 162 = .ok (.istore 4, 2) := by decide +kernel
theorem dX12_next_164 : decode cX12_next 164 = .ok (.iinc 5 1, 3) := by decide +kernel
theorem dX12_next_167 : decode cX12_next 167 = .ok (.goto (-137), 3) := by decide +kernel
theorem dX12_next_170 : decode cX12_next 170 = .ok (.iload_n 3, 1) := by decide +kernel
theorem dX12_next_171 : decode cX12_next 171 = .ok (.ireturn, 1) := by decide +kernel
theorem dX12_trippers_0 : decode cX12_trippers 0 = .ok (.aload_n 0, 1) := by decide +kernel
theorem dX12_trippers_1 : decode cX12_trippers 1 = .ok (.iload_n 1, 1) := by decide +kernel
theorem dX12_trippers_2 : decode cX12_trippers 2 = .ok (.invokevirtual 97, 3) := by decide +kernel
theorem dX12_trippers_5 : decode cX12_trippers 5 = .ok (.ifCond .eq 31, 3) := by decide +kernel
theorem dX12_trippers_8 : decode cX12_trippers 8 = .ok (.aload_n 0, 1) := by decide +kernel
theorem dX12_trippers_9 : decode cX12_trippers 9 = .ok (.iload_n 2, 1) := by decide +kernel
theorem dX12_trippers_10 : decode cX12_trippers 10 = .ok (.invokevirtual 97, 3) := by decide +kernel
theorem dX12_trippers_13 : decode cX12_trippers 13 = .ok (.ifCond .eq 23, 3) := by decide +kernel
theorem dX12_trippers_16 : decode cX12_trippers 16 = .ok (.iload_n 3, 1) := by decide +kernel
theorem dX12_trippers_17 : decode cX12_trippers 17 = .ok (.invokestatic 64, 3) := by decide +kernel
theorem dX12_trippers_20 : decode cX12_trippers 20 = .ok (.ifCond .eq 16, 3) := by decide +kernel
theorem dX12_trippers_23 : decode cX12_trippers 23 = .ok (.iload 4, 2) := by decide +kernel
theorem dX12_trippers_25 : decode cX12_trippers 25 = .ok (.i2l, 1) := by decide +kernel
theorem dX12_trippers_26 : decode cX12_trippers 26 = .ok (.lconst 0, 1) := by decide +kernel
theorem dX12_trippers_27 : decode cX12_trippers 27 = .ok (.ldc2_w 162, 3) := by decide +kernel
theorem dX12_trippers_30 : decode cX12_trippers 30 = .ok (.invokestatic 50, 3) := by decide +kernel
theorem dX12_trippers_33 : decode cX12_trippers 33 = .ok (.ifCond .ne 10, 3) := by decide +kernel
theorem dX12_trippers_36 : decode cX12_trippers 36 = .ok (.aload_n 0, 1) := by decide +kernel
theorem dX12_trippers_37 : decode cX12_trippers 37 = .ok (.bipush (-2), 2) := by decide +kernel
theorem dX12_trippers_39 : decode cX12_trippers 39 = .ok (.invokevirtual 58, 3) := by decide +kernel
theorem dX12_trippers_42 : decode cX12_trippers 42 = .ok (.ireturn, 1) := by decide +kernel
theorem dX12_trippers_43 : decode cX12_trippers 43 = .ok (.lconst 0, 1) := by decide +kernel
theorem dX12_trippers_44 : decode cX12_trippers 44 = .ok (.lstore 5, 2) := by decide +kernel
theorem dX12_trippers_46 : decode cX12_trippers 46 = .ok (.lconst 1, 1) := by decide +kernel
theorem dX12_trippers_47 : decode cX12_trippers 47 = .ok (.lstore 7, 2) := by decide +kernel
theorem dX12_trippers_49 : decode cX12_trippers 49 = .ok (.iconst 0, 1) := by decide +kernel
theorem dX12_trippers_50 : decode cX12_trippers 50 = .ok (.istore 9, 2) := by decide +kernel
theorem dX12_trippers_52 : decode cX12_trippers 52 = .ok (.iload 9, 2) := by decide +kernel
theorem dX12_trippers_54 : decode cX12_trippers 54 = .ok (.aload_n 0, 1) := by decide +kernel
theorem dX12_trippers_55 : decode cX12_trippers 55 = .ok (.invokevirtual 46, 3) := by decide +kernel
theorem dX12_trippers_58 : decode cX12_trippers 58 = .ok (.if_icmp .ge 17, 3) := by decide +kernel
theorem dX12_trippers_61 : decode cX12_trippers 61 = .ok (.lload 7, 2) := by decide +kernel
theorem dX12_trippers_63 : decode cX12_trippers 63 = .ok (.ldc2_w 162, 3) := by decide +kernel
theorem dX12_trippers_66 : decode cX12_trippers 66 = .ok (.lmul, 1) := by decide +kernel
theorem dX12_trippers_67 : decode cX12_trippers 67 = .ok (.lstore 7, 2) := by decide +kernel
theorem dX12_trippers_69 : decode cX12_trippers 69 = .ok (.iinc 9 1, 3) := by decide +kernel
theorem dX12_trippers_72 : decode cX12_trippers 72 = .ok (.goto (-20), 3) := by decide +kernel
theorem dX12_trippers_75 : decode cX12_trippers 75 = .ok (.iconst 0, 1) := by decide +kernel
theorem dX12_trippers_76 : decode cX12_trippers 76 = .ok (.istore 9, 2) := by decide +kernel
theorem dX12_trippers_78 : decode cX12_trippers 78 = .ok (.iload 9, 2) := by decide +kernel
theorem dX12_trippers_80 : decode cX12_trippers 80 = .ok (.iconst 1, 1) := by decide +kernel
theorem dX12_trippers_81 : decode cX12_trippers 81 = .ok (.aload_n 0, 1) := by decide +kernel
theorem dX12_trippers_82 : decode cX12_trippers 82 = .ok (.invokevirtual 46, 3) := by decide +kernel
theorem dX12_trippers_85 : decode cX12_trippers 85 = .ok (.ishl, 1) := by decide +kernel
theorem dX12_trippers_86 : decode cX12_trippers 86 = .ok (.if_icmp .ge 96, 3) := by decide +kernel
theorem dX12_trippers_89 : decode cX12_trippers 89 = .ok (.lconst 1, 1) := by decide +kernel
theorem dX12_trippers_90 : decode cX12_trippers 90 = .ok (.lstore 10, 2) := by decide +kernel
theorem dX12_trippers_92 : decode cX12_trippers 92 = .ok (.iconst 0, 1) := by decide +kernel
theorem dX12_trippers_93 : decode cX12_trippers 93 = .ok (.istore 12, 2) := by decide +kernel
theorem dX12_trippers_95 : decode cX12_trippers 95 = .ok (.iload 12, 2) := by decide +kernel
theorem dX12_trippers_97 : decode cX12_trippers 97 = .ok (.aload_n 0, 1) := by decide +kernel
theorem dX12_trippers_98 : decode cX12_trippers 98 = .ok (.invokevirtual 46, 3) := by decide +kernel
theorem dX12_trippers_101 : decode cX12_trippers 101 = .ok (.if_icmp .ge 36, 3) := by decide +kernel
theorem dX12_trippers_104 : decode cX12_trippers 104 = .ok (.lload 10, 2) := by decide +kernel
theorem dX12_trippers_106 : decode cX12_trippers 106 = .ok (.iload 9, 2) := by decide +kernel
theorem dX12_trippers_108 : decode cX12_trippers 108 = .ok (.iload 12, 2) := by decide +kernel
theorem dX12_trippers_110 : decode cX12_trippers 110 = .ok (.invokestatic 82, 3) := by decide +kernel
theorem dX12_trippers_113 : decode cX12_trippers 113 = .ok (.ifCond .eq 12, 3) := by decide +kernel
theorem dX12_trippers_116 : decode cX12_trippers 116 = .ok (.bipush 10, 2) := by decide +kernel
theorem dX12_trippers_118 : decode cX12_trippers 118 = .ok (.iload 4, 2) := by decide +kernel
theorem dX12_trippers_120 : decode cX12_trippers 120 = .ok (.isub, 1) := by decide +kernel
theorem dX12_trippers_121 : decode cX12_trippers 121 = .ok (.i2l, 1) := by decide +kernel
theorem dX12_trippers_122 : decode cX12_trippers 122 = .ok (.goto 6, 3) := by decide +kernel
theorem dX12_trippers_125 : decode cX12_trippers 125 = .ok (.iload 4, 2) := by decide +kernel
theorem dX12_trippers_127 : decode cX12_trippers 127 = .ok (.i2l, 1) := by decide +kernel
theorem dX12_trippers_128 : decode cX12_trippers 128 = .ok (.lmul, 1) := by decide +kernel
theorem dX12_trippers_129 : decode cX12_trippers 129 = .ok (.lstore 10, 2) := by decide +kernel
theorem dX12_trippers_131 : decode cX12_trippers 131 = .ok (.iinc 12 1, 3) := by decide +kernel
theorem dX12_trippers_134 : decode cX12_trippers 134 = .ok (.goto (-39), 3) := by decide +kernel
theorem dX12_trippers_137 : decode cX12_trippers 137 = .ok (.aload_n 0, 1) := by decide +kernel
theorem dX12_trippers_138 : decode cX12_trippers 138 = .ok (.invokevirtual 103, 3) := by decide +kernel
theorem dX12_trippers_141 : decode cX12_trippers 141 = .ok (.aload_n 0, 1) := by decide +kernel
theorem dX12_trippers_142 : decode cX12_trippers 142 = .ok (.iload_n 2, 1) := by decide +kernel
theorem dX12_trippers_143 : decode cX12_trippers 143 = .ok (.aload_n 0, 1) := by decide +kernel
theorem dX12_trippers_144 : decode cX12_trippers 144 = .ok (.iload_n 2, 1) := by decide +kernel
theorem dX12_trippers_145 : decode cX12_trippers 145 = .ok (.iload_n 3, 1) := by decide +kernel
theorem dX12_trippers_146 : decode cX12_trippers 146 = .ok (.invokevirtual 90, 3) := by decide +kernel
theorem dX12_trippers_149 : decode cX12_trippers 149 = .ok (.iload 9, 2) := by decide +kernel
theorem dX12_trippers_151 : decode cX12_trippers 151 = .ok (.iand, 1) := by decide +kernel
theorem dX12_trippers_152 : decode cX12_trippers 152 = .ok (.invokevirtual 93, 3) := by decide +kernel
theorem dX12_trippers_155 : decode cX12_trippers 155 = .ok (.lload 5, 2) := by decide +kernel
theorem dX12_trippers_157 : decode cX12_trippers 157 = .ok (.aload_n 0, 1) := by decide +kernel
theorem dX12_trippers_158 : decode cX12_trippers 158 = .ok (.getfield 27, 3) := by decide +kernel
theorem dX12_trippers_161 : decode cX12_trippers 161 = .ok (.iload_n 1, 1) := by decide +kernel
theorem dX12_trippers_162 : decode cX12_trippers 162 = .ok (.iaload, 1) := by decide +kernel
theorem dX12_trippers_163 : decode cX12_trippers 163 = .ok (.iload_n 2, 1) := by decide +kernel
theorem dX12_trippers_164 : decode cX12_trippers 164 = .ok (.if_icmp .ne 8, 3) := by decide +kernel
theorem dX12_trippers_167 : decode cX12_trippers 167 = .ok (.lload 10, 2) := by decide +kernel
theorem dX12_trippers_169 : decode cX12_trippers 169 = .ok (.goto 4, 3) := by decide +kernel
theorem dX12_trippers_172 : decode cX12_trippers 172 = .ok (.lconst 0, 1) := by decide +kernel
theorem dX12_trippers_173 : decode cX12_trippers 173 = .ok (.ladd, 1) := by decide +kernel
theorem dX12_trippers_174 : decode cX12_trippers 174 = .ok (.lstore 5, 2) := by decide +kernel
theorem dX12_trippers_176 : decode cX12_trippers 176 = .ok (.iinc 9 1, 3) := by decide +kernel
theorem dX12_trippers_179 : decode cX12_trippers 179 = .ok (.goto (-101), 3) := by decide +kernel
theorem dX12_trippers_182 : decode cX12_trippers 182 = .ok (.aload_n 0, 1) := by decide +kernel
theorem dX12_trippers_183 : decode cX12_trippers 183 = .ok (.lload 5, 2) := by decide +kernel
theorem dX12_trippers_185 : decode cX12_trippers 185 = .ok (.lload 7, 2) := by decide +kernel
theorem dX12_trippers_187 : decode cX12_trippers 187 = .ok (.invokevirtual 147, 3) := by decide +kernel
theorem dX12_trippers_190 : decode cX12_trippers 190 = .ok (.iconst 1, 1) := by decide +kernel
theorem dX12_trippers_191 : decode cX12_trippers 191 = .ok (.ireturn, 1) := by decide +kernel
theorem dX12_weeks_0 : decode cX12_weeks 0 = .ok (.iload_n 1, 1) := by decide +kernel
theorem dX12_weeks_1 : decode cX12_weeks 1 = .ok (.i2l, 1) := by decide +kernel
theorem dX12_weeks_2 : decode cX12_weeks 2 = .ok (.lconst 0, 1) := by decide +kernel
theorem dX12_weeks_3 : decode cX12_weeks 3 = .ok (.ldc2_w 164, 3) := by decide +kernel
theorem dX12_weeks_6 : decode cX12_weeks 6 = .ok (.invokestatic 50, 3) := by decide +kernel
theorem dX12_weeks_9 : decode cX12_weeks 9 = .ok (.ifCond .eq 15, 3) := by decide +kernel
theorem dX12_weeks_12 : decode cX12_weeks 12 = .ok (.iload_n 2, 1) := by decide +kernel
theorem dX12_weeks_13 : decode cX12_weeks 13 = .ok (.i2l, 1) := by decide +kernel
theorem dX12_weeks_14 : decode cX12_weeks 14 = .ok (.lconst 0, 1) := by decide +kernel
theorem dX12_weeks_15 : decode cX12_weeks 15 = .ok (.ldc2_w 142, 3) := by decide +kernel
theorem dX12_weeks_18 : decode cX12_weeks 18 = .ok (.invokestatic 50, 3) := by decide +kernel
theorem dX12_weeks_21 : decode cX12_weeks 21 = .ok (.ifCond .ne 10, 3) := by decide +kernel
theorem dX12_weeks_24 : decode cX12_weeks 24 = .ok (.aload_n 0, 1) := by decide +kernel
theorem dX12_weeks_25 : decode cX12_weeks 25 = .ok (.bipush (-2), 2) := by decide +kernel
theorem dX12_weeks_27 : decode cX12_weeks 27 = .ok (.invokevirtual 58, 3) := by decide +kernel
theorem dX12_weeks_30 : decode cX12_weeks 30 = .ok (.ireturn, 1) := by decide +kernel
theorem dX12_weeks_31 : decode cX12_weeks 31 = .ok (.aload_n 0, 1) := by decide +kernel
theorem dX12_weeks_32 : decode cX12_weeks 32 = .ok (.invokevirtual 46, 3) := by decide +kernel
theorem dX12_weeks_35 : decode cX12_weeks 35 = .ok (.ifCond .ne 8, 3) := by decide +kernel
theorem dX12_weeks_38 : decode cX12_weeks 38 = .ok (.aload_n 0, 1) := by decide +kernel
theorem dX12_weeks_39 : decode cX12_weeks 39 = .ok (.invokevirtual 109, 3) := by decide +kernel
theorem dX12_weeks_42 : decode cX12_weeks 42 = .ok (.ireturn, 1) := by decide +kernel
theorem dX12_weeks_43 : decode cX12_weeks 43 = .ok (.iload_n 1, 1) := by decide +kernel
theorem dX12_weeks_44 : decode cX12_weeks 44 = .ok (.i2l, 1) := by decide +kernel
theorem dX12_weeks_45 : decode cX12_weeks 45 = .ok (.lstore_n 3, 1) := by decide +kernel
theorem dX12_weeks_46 : decode cX12_weeks 46 = .ok (.aload_n 0, 1) := by decide +kernel
theorem dX12_weeks_47 : decode cX12_weeks 47 = .ok (.invokevirtual 103, 3) := by decide +kernel
theorem dX12_weeks_50 : decode cX12_weeks 50 = .ok (.iconst 0, 1) := by decide +kernel
theorem dX12_weeks_51 : decode cX12_weeks 51 = .ok (.istore 5, 2) := by decide +kernel
theorem dX12_weeks_53 : decode cX12_weeks 53 = .ok (.iload 5, 2) := by decide +kernel
theorem dX12_weeks_55 : decode cX12_weeks 55 = .ok (.iload_n 2, 1) := by decide +kernel
theorem dX12_weeks_56 : decode cX12_weeks 56 = .ok (.if_icmp .ge 51, 3) := by decide +kernel
theorem dX12_weeks_59 : decode cX12_weeks 59 = .ok (.lload_n 3, 1) := by decide +kernel
theorem dX12_weeks_60 : decode cX12_weeks 60 = .ok (.ldc2_w 166, 3) := by decide +kernel
theorem dX12_weeks_63 : decode cX12_weeks 63 = .ok (.lmul, 1) := by decide +kernel
theorem dX12_weeks_64 : decode cX12_weeks 64 = .ok (.ldc2_w 168, 3) := by decide +kernel
theorem dX12_weeks_67 : decode cX12_weeks 67 = .ok (.ladd, 1) := by decide +kernel
theorem dX12_weeks_68 : decode cX12_weeks 68 = .ok (.ldc2_w 170, 3) := by decide +kernel
theorem dX12_weeks_71 : decode cX12_weeks 71 = .ok (.lrem, 1) := by decide +kernel
theorem dX12_weeks_72 : decode cX12_weeks 72 = .ok (.lstore_n 3, 1) := by decide +kernel
theorem dX12_weeks_73 : decode cX12_weeks 73 = .ok (.aload_n 0, 1) := by decide +kernel
theorem dX12_weeks_74 : decode cX12_weeks 74 = .ok (.lload_n 3, 1) := by decide +kernel
theorem dX12_weeks_75 : decode cX12_weeks 75 = .ok (.ldc2_w 172, 3) := by decide +kernel
theorem dX12_weeks_78 : decode cX12_weeks 78 = .ok (.ldiv, 1) := by decide +kernel
theorem dX12_weeks_79 : decode cX12_weeks 79 = .ok (.aload_n 0, 1) := by decide +kernel
theorem dX12_weeks_80 : decode cX12_weeks 80 = .ok (.invokevirtual 46, 3) := by decide +kernel
theorem dX12_weeks_83 : decode cX12_weeks 83 = .ok (.i2l, 1) := by decide +kernel
theorem dX12_weeks_84 : decode cX12_weeks 84 = .ok (.lrem, 1) := by decide +kernel
theorem dX12_weeks_85 : decode cX12_weeks 85 = .ok (.l2i, 1) := by decide +kernel
theorem dX12_weeks_86 : decode cX12_weeks 86 = .ok (.lload_n 3, 1) := by decide +kernel
theorem dX12_weeks_87 : decode cX12_weeks 87 = .ok (.ldc2_w 174, 3) := by decide +kernel
theorem dX12_weeks_90 : decode cX12_weeks 90 = .ok (.ldiv, 1) := by decide +kernel
theorem dX12_weeks_91 : decode cX12_weeks 91 = .ok (.ldc2_w 162, 3) := by decide +kernel
theorem dX12_weeks_94 : decode cX12_weeks 94 = .ok (.lrem, 1) := by decide +kernel
theorem dX12_weeks_95 : decode cX12_weeks 95 = .ok (.l2i, 1) := by decide +kernel
theorem dX12_weeks_96 : decode cX12_weeks 96 = .ok (.invokevirtual 106, 3) := by decide +kernel
theorem dX12_weeks_99 : decode cX12_weeks 99 = .ok (.istore 6, 2) := by decide +kernel
theorem dX12_weeks_101 : decode cX12_weeks 101 = .ok (.iinc 5 1, 3) := by decide +kernel
theorem dX12_weeks_104 : decode cX12_weeks 104 = .ok (.goto (-51), 3) := by decide +kernel
theorem dX12_weeks_107 : decode cX12_weeks 107 = .ok (.aload_n 0, 1) := by decide +kernel
theorem dX12_weeks_108 : decode cX12_weeks 108 = .ok (.invokevirtual 130, 3) := by decide +kernel
theorem dX12_weeks_111 : decode cX12_weeks 111 = .ok (.ireturn, 1) := by decide +kernel
theorem dX12_type_0 : decode cX12_type 0 = .ok (.iload_n 1, 1) := by decide +kernel
theorem dX12_type_1 : decode cX12_type 1 = .ok (.i2l, 1) := by decide +kernel
theorem dX12_type_2 : decode cX12_type 2 = .ok (.lconst 0, 1) := by decide +kernel
theorem dX12_type_3 : decode cX12_type 3 = .ok (.ldc2_w 176, 3) := by decide +kernel
theorem dX12_type_6 : decode cX12_type 6 = .ok (.invokestatic 50, 3) := by decide +kernel
theorem dX12_type_9 : decode cX12_type 9 = .ok (.ifCond .ne 10, 3) := by decide +kernel
theorem dX12_type_12 : decode cX12_type 12 = .ok (.aload_n 0, 1) := by decide +kernel
theorem dX12_type_13 : decode cX12_type 13 = .ok (.bipush (-2), 2) := by decide +kernel
theorem dX12_type_15 : decode cX12_type 15 = .ok (.invokevirtual 58, 3) := by decide +kernel
theorem dX12_type_18 : decode cX12_type 18 = .ok (.ireturn, 1) := by decide +kernel
theorem dX12_type_19 : decode cX12_type 19 = .ok (.aload_n 0, 1) := by decide +kernel
theorem dX12_type_20 : decode cX12_type 20 = .ok (.getfield 178, 3) := by decide +kernel
theorem dX12_type_23 : decode cX12_type 23 = .ok (.sipush 150, 3) := by decide +kernel
theorem dX12_type_26 : decode cX12_type 26 = .ok (.if_icmp .ne 8, 3) := by decide +kernel
theorem dX12_type_29 : decode cX12_type 29 = .ok (.aload_n 0, 1) := by decide +kernel
theorem dX12_type_30 : decode cX12_type 30 = .ok (.invokevirtual 68, 3) := by decide +kernel
theorem dX12_type_33 : decode cX12_type 33 = .ok (.ireturn, 1) := by decide +kernel
theorem dX12_type_34 : decode cX12_type 34 = .ok (.aload_n 0, 1) := by decide +kernel
theorem dX12_type_35 : decode cX12_type 35 = .ok (.getfield 33, 3) := by decide +kernel
theorem dX12_type_38 : decode cX12_type 38 = .ok (.aload_n 0, 1) := by decide +kernel
theorem dX12_type_39 : decode cX12_type 39 = .ok (.getfield 178, 3) := by decide +kernel
theorem dX12_type_42 : decode cX12_type 42 = .ok (.iload_n 1, 1) := by decide +kernel
theorem dX12_type_43 : decode cX12_type 43 = .ok (.iastore, 1) := by decide +kernel
theorem dX12_type_44 : decode cX12_type 44 = .ok (.aload_n 0, 1) := by decide +kernel
theorem dX12_type_45 : decode cX12_type 45 = .ok (.dup, 1) := by decide +kernel
theorem dX12_type_46 : decode cX12_type 46 = .ok (.getfield 178, 3) := by decide +kernel
theorem dX12_type_49 : decode cX12_type 49 = .ok (.iconst 1, 1) := by decide +kernel
theorem dX12_type_50 : decode cX12_type 50 = .ok (.iadd, 1) := by decide +kernel
theorem dX12_type_51 : decode cX12_type 51 = .ok (.putfield 178, 3) := by decide +kernel
theorem dX12_type_54 : decode cX12_type 54 = .ok (.aload_n 0, 1) := by decide +kernel
theorem dX12_type_55 : decode cX12_type 55 = .ok (.getfield 178, 3) := by decide +kernel
theorem dX12_type_58 : decode cX12_type 58 = .ok (.ireturn, 1) := by decide +kernel
theorem dX12_clear_0 : decode cX12_clear 0 = .ok (.aload_n 0, 1) := by decide +kernel
theorem dX12_clear_1 : decode cX12_clear 1 = .ok (.getfield 178, 3) := by decide +kernel
theorem dX12_clear_4 : decode cX12_clear 4 = .ok (.istore_n 1, 1) := by decide +kernel
theorem dX12_clear_5 : decode cX12_clear 5 = .ok (.aload_n 0, 1) := by decide +kernel
theorem dX12_clear_6 : decode cX12_clear 6 = .ok (.iconst 0, 1) := by decide +kernel
theorem dX12_clear_7 : decode cX12_clear 7 = .ok (.putfield 178, 3) := by decide +kernel
theorem dX12_clear_10 : decode cX12_clear 10 = .ok (.iload_n 1, 1) := by decide +kernel
theorem dX12_clear_11 : decode cX12_clear 11 = .ok (.ireturn, 1) := by decide +kernel
theorem dX12_isSmall_0 : decode cX12_isSmall 0 = .ok (.iload_n 0, 1) := by decide +kernel
theorem dX12_isSmall_1 : decode cX12_isSmall 1 = .ok (.i2l, 1) := by decide +kernel
theorem dX12_isSmall_2 : decode cX12_isSmall 2 = .ok (.ldc2_w 181, 3) := by decide +kernel
theorem dX12_isSmall_5 : decode cX12_isSmall 5 = .ok (.ldc2_w 183, 3) := by decide +kernel
theorem dX12_isSmall_8 : decode cX12_isSmall 8 = .ok (.invokestatic 50, 3) := by decide +kernel
theorem dX12_isSmall_11 : decode cX12_isSmall 11 = .ok (.ireturn, 1) := by decide +kernel
theorem dX12_isFigure_0 : decode cX12_isFigure 0 = .ok (.iload_n 0, 1) := by decide +kernel
theorem dX12_isFigure_1 : decode cX12_isFigure 1 = .ok (.i2l, 1) := by decide +kernel
theorem dX12_isFigure_2 : decode cX12_isFigure 2 = .ok (.ldc2_w 185, 3) := by decide +kernel
theorem dX12_isFigure_5 : decode cX12_isFigure 5 = .ok (.ldc2_w 187, 3) := by decide +kernel
theorem dX12_isFigure_8 : decode cX12_isFigure 8 = .ok (.invokestatic 50, 3) := by decide +kernel
theorem dX12_isFigure_11 : decode cX12_isFigure 11 = .ok (.ireturn, 1) := by decide +kernel
theorem dX12_lookAt_0 : decode cX12_lookAt 0 = .ok (.aload_n 0, 1) := by decide +kernel
theorem dX12_lookAt_1 : decode cX12_lookAt 1 = .ok (.iload_n 1, 1) := by decide +kernel
theorem dX12_lookAt_2 : decode cX12_lookAt 2 = .ok (.putfield 189, 3) := by decide +kernel
theorem dX12_lookAt_5 : decode cX12_lookAt 5 = .ok (.aload_n 0, 1) := by decide +kernel
theorem dX12_lookAt_6 : decode cX12_lookAt 6 = .ok (.getfield 189, 3) := by decide +kernel
theorem dX12_lookAt_9 : decode cX12_lookAt 9 = .ok (.aload_n 0, 1) := by decide +kernel
theorem dX12_lookAt_10 : decode cX12_lookAt 10 = .ok (.getfield 178, 3) := by decide +kernel
theorem dX12_lookAt_13 : decode cX12_lookAt 13 = .ok (.if_icmp .ge 30, 3) := by decide +kernel
theorem dX12_lookAt_16 : decode cX12_lookAt 16 = .ok (.aload_n 0, 1) := by decide +kernel
theorem dX12_lookAt_17 : decode cX12_lookAt 17 = .ok (.getfield 33, 3) := by decide +kernel
theorem dX12_lookAt_20 : decode cX12_lookAt 20 = .ok (.aload_n 0, 1) := by decide +kernel
theorem dX12_lookAt_21 : decode cX12_lookAt 21 = .ok (.getfield 189, 3) := by decide +kernel
theorem dX12_lookAt_24 : decode cX12_lookAt 24 = .ok (.iaload, 1) := by decide +kernel
theorem dX12_lookAt_25 : decode cX12_lookAt 25 = .ok (.bipush 32, 2) := by decide +kernel
theorem dX12_lookAt_27 : decode cX12_lookAt 27 = .ok (.if_icmp .ne 16, 3) := by decide +kernel
theorem dX12_lookAt_30 : decode cX12_lookAt 30 = .ok (.aload_n 0, 1) := by decide +kernel
theorem dX12_lookAt_31 : decode cX12_lookAt 31 = .ok (.dup, 1) := by decide +kernel
theorem dX12_lookAt_32 : decode cX12_lookAt 32 = .ok (.getfield 189, 3) := by decide +kernel
theorem dX12_lookAt_35 : decode cX12_lookAt 35 = .ok (.iconst 1, 1) := by decide +kernel
theorem dX12_lookAt_36 : decode cX12_lookAt 36 = .ok (.iadd, 1) := by decide +kernel
theorem dX12_lookAt_37 : decode cX12_lookAt 37 = .ok (.putfield 189, 3) := by decide +kernel
theorem dX12_lookAt_40 : decode cX12_lookAt 40 = .ok (.goto (-35), 3) := by decide +kernel
theorem dX12_lookAt_43 : decode cX12_lookAt 43 = .ok (.aload_n 0, 1) := by decide +kernel
theorem dX12_lookAt_44 : decode cX12_lookAt 44 = .ok (.iconst 0, 1) := by decide +kernel
theorem dX12_lookAt_45 : decode cX12_lookAt 45 = .ok (.putfield 192, 3) := by decide +kernel
theorem dX12_lookAt_48 : decode cX12_lookAt 48 = .ok (.aload_n 0, 1) := by decide +kernel
theorem dX12_lookAt_49 : decode cX12_lookAt 49 = .ok (.iconst 0, 1) := by decide +kernel
theorem dX12_lookAt_50 : decode cX12_lookAt 50 = .ok (.putfield 195, 3) := by decide +kernel
theorem dX12_lookAt_53 : decode cX12_lookAt 53 = .ok (.aload_n 0, 1) := by decide +kernel
theorem dX12_lookAt_54 : decode cX12_lookAt 54 = .ok (.iconst 0, 1) := by decide +kernel
theorem dX12_lookAt_55 : decode cX12_lookAt 55 = .ok (.putfield 198, 3) := by decide +kernel
theorem dX12_lookAt_58 : decode cX12_lookAt 58 = .ok (.aload_n 0, 1) := by decide +kernel
theorem dX12_lookAt_59 : decode cX12_lookAt 59 = .ok (.getfield 189, 3) := by decide +kernel
theorem dX12_lookAt_62 : decode cX12_lookAt 62 = .ok (.aload_n 0, 1) := by decide +kernel
theorem dX12_lookAt_63 : decode cX12_lookAt 63 = .ok (.getfield 178, 3) := by decide +kernel
theorem dX12_lookAt_66 : decode cX12_lookAt 66 = .ok (.if_icmp .ne 4, 3) := by decide +kernel
theorem dX12_lookAt_69 : decode cX12_lookAt 69 = .ok (.return_, 1) := by decide +kernel
theorem dX12_lookAt_70 : decode cX12_lookAt 70 = .ok (.aload_n 0, 1) := by decide +kernel
theorem dX12_lookAt_71 : decode cX12_lookAt 71 = .ok (.getfield 33, 3) := by decide +kernel
theorem dX12_lookAt_74 : decode cX12_lookAt 74 = .ok (.aload_n 0, 1) := by decide +kernel
theorem dX12_lookAt_75 : decode cX12_lookAt 75 = .ok (.getfield 189, 3) := by decide +kernel
theorem dX12_lookAt_78 : decode cX12_lookAt 78 = .ok (.iaload, 1) := by decide +kernel
theorem dX12_lookAt_79 : decode cX12_lookAt 79 = .ok (.istore_n 2, 1) := by decide +kernel
theorem dX12_lookAt_80 : decode cX12_lookAt 80 = .ok (.aload_n 0, 1) := by decide +kernel
theorem dX12_lookAt_81 : decode cX12_lookAt 81 = .ok (.iload_n 2, 1) := by decide +kernel
theorem dX12_lookAt_82 : decode cX12_lookAt 82 = .ok (.invokestatic 201, 3) := by decide +kernel
theorem dX12_lookAt_85 : decode cX12_lookAt 85 = .ok (.ifCond .eq 7, 3) := by decide +kernel
theorem dX12_lookAt_88 : decode cX12_lookAt 88 = .ok (.iconst 1, 1) := by decide +kernel
theorem dX12_lookAt_89 : decode cX12_lookAt 89 = .ok (.goto 25, 3) := by decide +kernel
theorem dX12_lookAt_92 : decode cX12_lookAt 92 = .ok (.iload_n 2, 1) := by decide +kernel
theorem dX12_lookAt_93 : decode cX12_lookAt 93 = .ok (.invokestatic 204, 3) := by decide +kernel
theorem dX12_lookAt_96 : decode cX12_lookAt 96 = .ok (.ifCond .eq 7, 3) := by decide +kernel
theorem dX12_lookAt_99 : decode cX12_lookAt 99 = .ok (.iconst 2, 1) := by decide +kernel
theorem dX12_lookAt_100 : decode cX12_lookAt 100 = .ok (.goto 14, 3) := by decide +kernel
theorem dX12_lookAt_103 : decode cX12_lookAt 103 = .ok (.iload_n 2, 1) := by decide +kernel
theorem dX12_lookAt_104 : decode cX12_lookAt 104 = .ok (.bipush 59, 2) := by decide +kernel
theorem dX12_lookAt_106 : decode cX12_lookAt 106 = .ok (.if_icmp .ne 7, 3) := by decide +kernel
theorem dX12_lookAt_109 : decode cX12_lookAt 109 = .ok (.iconst 3, 1) := by decide +kernel
theorem dX12_lookAt_110 : decode cX12_lookAt 110 = .ok (.goto 4, 3) := by decide +kernel
theorem dX12_lookAt_113 : decode cX12_lookAt 113 = .ok (.iconst 4, 1) := by decide +kernel
theorem dX12_lookAt_114 : decode cX12_lookAt 114 = .ok (.putfield 195, 3) := by decide +kernel
theorem dX12_lookAt_117 : decode cX12_lookAt 117 = .ok (.aload_n 0, 1) := by decide +kernel
theorem dX12_lookAt_118 : decode cX12_lookAt 118 = .ok (.iconst 1, 1) := by decide +kernel
theorem dX12_lookAt_119 : decode cX12_lookAt 119 = .ok (.putfield 192, 3) := by decide +kernel
theorem dX12_lookAt_122 : decode cX12_lookAt 122 = .ok (.aload_n 0, 1) := by decide +kernel
theorem dX12_lookAt_123 : decode cX12_lookAt 123 = .ok (.getfield 195, 3) := by decide +kernel
theorem dX12_lookAt_126 : decode cX12_lookAt 126 = .ok (.iconst 3, 1) := by decide +kernel
theorem dX12_lookAt_127 : decode cX12_lookAt 127 = .ok (.if_icmp .ge 7, 3) := by decide +kernel
theorem dX12_lookAt_130 : decode cX12_lookAt 130 = .ok (.iconst 1, 1) := by decide +kernel
theorem dX12_lookAt_131 : decode cX12_lookAt 131 = .ok (.goto 4, 3) := by decide +kernel
theorem dX12_lookAt_134 : decode cX12_lookAt 134 = .ok (.iconst 0, 1) := by decide +kernel
theorem dX12_lookAt_135 : decode cX12_lookAt 135 = .ok (.istore_n 3, 1) := by decide +kernel
theorem dX12_lookAt_136 : decode cX12_lookAt 136 = .ok (.iload_n 3, 1) := by decide +kernel
theorem dX12_lookAt_137 : decode cX12_lookAt 137 = .ok (.ifCond .eq 78, 3) := by decide +kernel
theorem dX12_lookAt_140 : decode cX12_lookAt 140 = .ok (.aload_n 0, 1) := by decide +kernel
theorem dX12_lookAt_141 : decode cX12_lookAt 141 = .ok (.getfield 189, 3) := by decide +kernel
theorem dX12_lookAt_144 : decode cX12_lookAt 144 = .ok (.aload_n 0, 1) := by decide +kernel
theorem dX12_lookAt_145 : decode cX12_lookAt 145 = .ok (.getfield 192, 3) := by decide +kernel
theorem dX12_lookAt_148 : decode cX12_lookAt 148 = .ok (.iadd, 1) := by decide +kernel
theorem dX12_lookAt_149 : decode cX12_lookAt 149 = .ok (.aload_n 0, 1) := by decide +kernel
theorem dX12_lookAt_150 : decode cX12_lookAt 150 = .ok (.getfield 178, 3) := by decide +kernel
theorem dX12_lookAt_153 : decode cX12_lookAt 153 = .ok (.if_icmp .ge 62, 3) := by decide +kernel
theorem dX12_lookAt_156 : decode cX12_lookAt 156 = .ok (.aload_n 0, 1) := by decide +kernel
theorem dX12_lookAt_157 : decode cX12_lookAt 157 = .ok (.getfield 33, 3) := by decide +kernel
theorem dX12_lookAt_160 : decode cX12_lookAt 160 = .ok (.aload_n 0, 1) := by decide +kernel
theorem dX12_lookAt_161 : decode cX12_lookAt 161 = .ok (.getfield 189, 3) := by decide +kernel
theorem dX12_lookAt_164 : decode cX12_lookAt 164 = .ok (.aload_n 0, 1) := by decide +kernel
theorem dX12_lookAt_165 : decode cX12_lookAt 165 = .ok (.getfield 192, 3) := by decide +kernel
theorem dX12_lookAt_168 : decode cX12_lookAt 168 = .ok (.iadd, 1) := by decide +kernel
theorem dX12_lookAt_169 : decode cX12_lookAt 169 = .ok (.iaload, 1) := by decide +kernel
theorem dX12_lookAt_170 : decode cX12_lookAt 170 = .ok (.istore 4, 2) := by decide +kernel
theorem dX12_lookAt_172 : decode cX12_lookAt 172 = .ok (.aload_n 0, 1) := by decide +kernel
theorem dX12_lookAt_173 : decode cX12_lookAt 173 = .ok (.getfield 195, 3) := by decide +kernel
theorem dX12_lookAt_176 : decode cX12_lookAt 176 = .ok (.iconst 1, 1) := by decide +kernel
theorem dX12_lookAt_177 : decode cX12_lookAt 177 = .ok (.if_icmp .ne 11, 3) := by decide +kernel
theorem dX12_lookAt_180 : decode cX12_lookAt 180 = .ok (.iload 4, 2) := by decide +kernel
theorem dX12_lookAt_182 : decode cX12_lookAt 182 = .ok (.invokestatic 201, 3) := by decide +kernel
theorem dX12_lookAt_185 : decode cX12_lookAt 185 = .ok (.goto 8, 3) := by decide +kernel
theorem dX12_lookAt_188 : decode cX12_lookAt 188 = .ok (.iload 4, 2) := by decide +kernel
theorem dX12_lookAt_190 : decode cX12_lookAt 190 = .ok (.invokestatic 204, 3) := by decide +kernel
theorem dX12_lookAt_193 : decode cX12_lookAt 193 = .ok (.istore_n 3, 1) := by decide +kernel
theorem dX12_lookAt_194 : decode cX12_lookAt 194 = .ok (.aload_n 0, 1) := by decide +kernel
theorem dX12_lookAt_195 : decode cX12_lookAt 195 = .ok (.dup, 1) := by decide +kernel
theorem dX12_lookAt_196 : decode cX12_lookAt 196 = .ok (.getfield 192, 3) := by decide +kernel
theorem dX12_lookAt_199 : decode cX12_lookAt 199 = .ok (.iload_n 3, 1) := by decide +kernel
theorem dX12_lookAt_200 : decode cX12_lookAt 200 = .ok (.ifCond .eq 7, 3) := by decide +kernel
theorem dX12_lookAt_203 : decode cX12_lookAt 203 = .ok (.iconst 1, 1) := by decide +kernel
theorem dX12_lookAt_204 : decode cX12_lookAt 204 = .ok (.goto 4, 3) := by decide +kernel
theorem dX12_lookAt_207 : decode cX12_lookAt 207 = .ok (.iconst 0, 1) := by decide +kernel
theorem dX12_lookAt_208 : decode cX12_lookAt 208 = .ok (.iadd, 1) := by decide +kernel
theorem dX12_lookAt_209 : decode cX12_lookAt 209 = .ok (.putfield 192, 3) := by decide +kernel
theorem dX12_lookAt_212 : decode cX12_lookAt 212 = .ok (.goto (-76), 3) := by decide +kernel
theorem dX12_lookAt_215 : decode cX12_lookAt 215 = .ok (.iconst 0, 1) := by decide +kernel
theorem dX12_lookAt_216 : decode cX12_lookAt 216 = .ok (.istore 4, 2) := by decide +kernel
theorem dX12_lookAt_218 : decode cX12_lookAt 218 = .ok (.iload 4, 2) := by decide +kernel
theorem dX12_lookAt_220 : decode cX12_lookAt 220 = .ok (.aload_n 0, 1) := by decide +kernel
theorem dX12_lookAt_221 : decode cX12_lookAt 221 = .ok (.getfield 192, 3) := by decide +kernel
theorem dX12_lookAt_224 : decode cX12_lookAt 224 = .ok (.if_icmp .ge 50, 3) := by decide +kernel
theorem dX12_lookAt_227 : decode cX12_lookAt 227 = .ok (.iload 4, 2) := by decide +kernel
theorem dX12_lookAt_229 : decode cX12_lookAt 229 = .ok (.iconst 2, 1) := by decide +kernel
theorem dX12_lookAt_230 : decode cX12_lookAt 230 = .ok (.if_icmp .ge 44, 3) := by decide +kernel
theorem dX12_lookAt_233 : decode cX12_lookAt 233 = .ok (.aload_n 0, 1) := by decide +kernel
theorem dX12_lookAt_234 : decode cX12_lookAt 234 = .ok (.getfield 195, 3) := by decide +kernel
theorem dX12_lookAt_237 : decode cX12_lookAt 237 = .ok (.iconst 2, 1) := by decide +kernel
theorem dX12_lookAt_238 : decode cX12_lookAt 238 = .ok (.if_icmp .ne 36, 3) := by decide +kernel
theorem dX12_lookAt_241 : decode cX12_lookAt 241 = .ok (.aload_n 0, 1) := by decide +kernel
theorem dX12_lookAt_242 : decode cX12_lookAt 242 = .ok (.bipush 10, 2) := by decide +kernel
theorem dX12_lookAt_244 : decode cX12_lookAt 244 = .ok (.aload_n 0, 1) := by decide +kernel
theorem dX12_lookAt_245 : decode cX12_lookAt 245 = .ok (.getfield 198, 3) := by decide +kernel
theorem dX12_lookAt_248 : decode cX12_lookAt 248 = .ok (.imul, 1) := by decide +kernel
theorem dX12_lookAt_249 : decode cX12_lookAt 249 = .ok (.aload_n 0, 1) := by decide +kernel
theorem dX12_lookAt_250 : decode cX12_lookAt 250 = .ok (.getfield 33, 3) := by decide +kernel
theorem dX12_lookAt_253 : decode cX12_lookAt 253 = .ok (.aload_n 0, 1) := by decide +kernel
theorem dX12_lookAt_254 : decode cX12_lookAt 254 = .ok (.getfield 189, 3) := by decide +kernel
theorem dX12_lookAt_257 : decode cX12_lookAt 257 = .ok (.iload 4, 2) := by decide +kernel
theorem dX12_lookAt_259 : decode cX12_lookAt 259 = .ok (.iadd, 1) := by decide +kernel
theorem dX12_lookAt_260 : decode cX12_lookAt 260 = .ok (.iaload, 1) := by decide +kernel
theorem dX12_lookAt_261 : decode cX12_lookAt 261 = .ok (.iadd, 1) := by decide +kernel
theorem dX12_lookAt_262 : decode cX12_lookAt 262 = .ok (.bipush 48, 2) := by decide +kernel
theorem dX12_lookAt_264 : decode cX12_lookAt 264 = .ok (.isub, 1) := by decide +kernel
theorem dX12_lookAt_265 : decode cX12_lookAt 265 = .ok (.putfield 198, 3) := by decide +kernel
theorem dX12_lookAt_268 : decode cX12_lookAt 268 = .ok (.iinc 4 1, 3) := by decide +kernel
theorem dX12_lookAt_271 : decode cX12_lookAt 271 = .ok (.goto (-53), 3) := by decide +kernel
theorem dX12_lookAt_274 : decode cX12_lookAt 274 = .ok (.aload_n 0, 1) := by decide +kernel
theorem dX12_lookAt_275 : decode cX12_lookAt 275 = .ok (.aload_n 0, 1) := by decide +kernel
theorem dX12_lookAt_276 : decode cX12_lookAt 276 = .ok (.getfield 195, 3) := by decide +kernel
theorem dX12_lookAt_279 : decode cX12_lookAt 279 = .ok (.iconst 2, 1) := by decide +kernel
theorem dX12_lookAt_280 : decode cX12_lookAt 280 = .ok (.if_icmp .ne 15, 3) := by decide +kernel
theorem dX12_lookAt_283 : decode cX12_lookAt 283 = .ok (.aload_n 0, 1) := by decide +kernel
theorem dX12_lookAt_284 : decode cX12_lookAt 284 = .ok (.getfield 192, 3) := by decide +kernel
theorem dX12_lookAt_287 : decode cX12_lookAt 287 = .ok (.iconst 2, 1) := by decide +kernel
theorem dX12_lookAt_288 : decode cX12_lookAt 288 = .ok (.if_icmp .le 7, 3) := by decide +kernel
theorem dX12_lookAt_291 : decode cX12_lookAt 291 = .ok (.iconst 4, 1) := by decide +kernel
theorem dX12_lookAt_292 : decode cX12_lookAt 292 = .ok (.goto 7, 3) := by decide +kernel
theorem dX12_lookAt_295 : decode cX12_lookAt 295 = .ok (.aload_n 0, 1) := by decide +kernel
theorem dX12_lookAt_296 : decode cX12_lookAt 296 = .ok (.getfield 195, 3) := by decide +kernel
theorem dX12_lookAt_299 : decode cX12_lookAt 299 = .ok (.putfield 195, 3) := by decide +kernel
theorem dX12_lookAt_302 : decode cX12_lookAt 302 = .ok (.return_, 1) := by decide +kernel
theorem dX12_goBehind_0 : decode cX12_goBehind 0 = .ok (.aload_n 0, 1) := by decide +kernel
theorem dX12_goBehind_1 : decode cX12_goBehind 1 = .ok (.aload_n 0, 1) := by decide +kernel
theorem dX12_goBehind_2 : decode cX12_goBehind 2 = .ok (.getfield 189, 3) := by decide +kernel
theorem dX12_goBehind_5 : decode cX12_goBehind 5 = .ok (.aload_n 0, 1) := by decide +kernel
theorem dX12_goBehind_6 : decode cX12_goBehind 6 = .ok (.getfield 192, 3) := by decide +kernel
theorem dX12_goBehind_9 : decode cX12_goBehind 9 = .ok (.iadd, 1) := by decide +kernel
theorem dX12_goBehind_10 : decode cX12_goBehind 10 = .ok (.invokevirtual 207, 3) := by decide +kernel
theorem dX12_goBehind_13 : decode cX12_goBehind 13 = .ok (.return_, 1) := by decide +kernel
theorem dX12_spells_0 : decode cX12_spells 0 = .ok (.aload_n 0, 1) := by decide +kernel
theorem dX12_spells_1 : decode cX12_spells 1 = .ok (.getfield 195, 3) := by decide +kernel
theorem dX12_spells_4 : decode cX12_spells 4 = .ok (.iconst 1, 1) := by decide +kernel
theorem dX12_spells_5 : decode cX12_spells 5 = .ok (.if_icmp .ne 15, 3) := by decide +kernel
theorem dX12_spells_8 : decode cX12_spells 8 = .ok (.aload_n 0, 1) := by decide +kernel
theorem dX12_spells_9 : decode cX12_spells 9 = .ok (.getfield 192, 3) := by decide +kernel
theorem dX12_spells_12 : decode cX12_spells 12 = .ok (.iload_n 1, 1) := by decide +kernel
theorem dX12_spells_13 : decode cX12_spells 13 = .ok (.if_icmp .ne 7, 3) := by decide +kernel
theorem dX12_spells_16 : decode cX12_spells 16 = .ok (.iconst 1, 1) := by decide +kernel
theorem dX12_spells_17 : decode cX12_spells 17 = .ok (.goto 4, 3) := by decide +kernel
theorem dX12_spells_20 : decode cX12_spells 20 = .ok (.iconst 0, 1) := by decide +kernel
theorem dX12_spells_21 : decode cX12_spells 21 = .ok (.istore 8, 2) := by decide +kernel
theorem dX12_spells_23 : decode cX12_spells 23 = .ok (.iconst 0, 1) := by decide +kernel
theorem dX12_spells_24 : decode cX12_spells 24 = .ok (.istore 9, 2) := by decide +kernel
theorem dX12_spells_26 : decode cX12_spells 26 = .ok (.iload 9, 2) := by decide +kernel
theorem dX12_spells_28 : decode cX12_spells 28 = .ok (.iload_n 1, 1) := by decide +kernel
theorem dX12_spells_29 : decode cX12_spells 29 = .ok (.if_icmp .ge 90, 3) := by decide +kernel
theorem dX12_spells_32 : decode cX12_spells 32 = .ok (.iload 8, 2) := by decide +kernel
theorem dX12_spells_34 : decode cX12_spells 34 = .ok (.ifCond .eq 85, 3) := by decide +kernel
theorem dX12_spells_37 : decode cX12_spells 37 = .ok (.aload_n 0, 1) := by decide +kernel
theorem dX12_spells_38 : decode cX12_spells 38 = .ok (.getfield 33, 3) := by decide +kernel
theorem dX12_spells_41 : decode cX12_spells 41 = .ok (.aload_n 0, 1) := by decide +kernel
theorem dX12_spells_42 : decode cX12_spells 42 = .ok (.getfield 189, 3) := by decide +kernel
theorem dX12_spells_45 : decode cX12_spells 45 = .ok (.iload 9, 2) := by decide +kernel
theorem dX12_spells_47 : decode cX12_spells 47 = .ok (.iadd, 1) := by decide +kernel
theorem dX12_spells_48 : decode cX12_spells 48 = .ok (.iaload, 1) := by decide +kernel
theorem dX12_spells_49 : decode cX12_spells 49 = .ok (.iload 9, 2) := by decide +kernel
theorem dX12_spells_51 : decode cX12_spells 51 = .ok (.ifCond .ne 7, 3) := by decide +kernel
theorem dX12_spells_54 : decode cX12_spells 54 = .ok (.iload_n 2, 1) := by decide +kernel
theorem dX12_spells_55 : decode cX12_spells 55 = .ok (.goto 48, 3) := by decide +kernel
theorem dX12_spells_58 : decode cX12_spells 58 = .ok (.iload 9, 2) := by decide +kernel
theorem dX12_spells_60 : decode cX12_spells 60 = .ok (.iconst 1, 1) := by decide +kernel
theorem dX12_spells_61 : decode cX12_spells 61 = .ok (.if_icmp .ne 7, 3) := by decide +kernel
theorem dX12_spells_64 : decode cX12_spells 64 = .ok (.iload_n 3, 1) := by decide +kernel
theorem dX12_spells_65 : decode cX12_spells 65 = .ok (.goto 38, 3) := by decide +kernel
theorem dX12_spells_68 : decode cX12_spells 68 = .ok (.iload 9, 2) := by decide +kernel
theorem dX12_spells_70 : decode cX12_spells 70 = .ok (.iconst 2, 1) := by decide +kernel
theorem dX12_spells_71 : decode cX12_spells 71 = .ok (.if_icmp .ne 8, 3) := by decide +kernel
theorem dX12_spells_74 : decode cX12_spells 74 = .ok (.iload 4, 2) := by decide +kernel
theorem dX12_spells_76 : decode cX12_spells 76 = .ok (.goto 27, 3) := by decide +kernel
theorem dX12_spells_79 : decode cX12_spells 79 = .ok (.iload 9, 2) := by decide +kernel
theorem dX12_spells_81 : decode cX12_spells 81 = .ok (.iconst 3, 1) := by decide +kernel
theorem dX12_spells_82 : decode cX12_spells 82 = .ok (.if_icmp .ne 8, 3) := by decide +kernel
theorem dX12_spells_85 : decode cX12_spells 85 = .ok (.iload 5, 2) := by decide +kernel
theorem dX12_spells_87 : decode cX12_spells 87 = .ok (.goto 16, 3) := by decide +kernel
theorem dX12_spells_90 : decode cX12_spells 90 = .ok (.iload 9, 2) := by decide +kernel
theorem dX12_spells_92 : decode cX12_spells 92 = .ok (.iconst 4, 1) := by decide +kernel
theorem dX12_spells_93 : decode cX12_spells 93 = .ok (.if_icmp .ne 8, 3) := by decide +kernel
theorem dX12_spells_96 : decode cX12_spells 96 = .ok (.iload 6, 2) := by decide +kernel
theorem dX12_spells_98 : decode cX12_spells 98 = .ok (.goto 5, 3) := by decide +kernel
theorem dX12_spells_101 : decode cX12_spells 101 = .ok (.iload 7, 2) := by decide +kernel
theorem dX12_spells_103 : decode cX12_spells 103 = .ok (.if_icmp .ne 7, 3) := by decide +kernel
theorem dX12_spells_106 : decode cX12_spells 106 = .ok (.iconst 1, 1) := by decide +kernel
theorem dX12_spells_107 : decode cX12_spells 107 = .ok (.goto 4, 3) := by decide +kernel
theorem dX12_spells_110 : decode cX12_spells 110 = .ok (.iconst 0, 1) := by decide +kernel
theorem dX12_spells_111 : decode cX12_spells 111 = .ok (.istore 8, 2) := by decide +kernel
theorem dX12_spells_113 : decode cX12_spells 113 = .ok (.iinc 9 1, 3) := by decide +kernel
theorem dX12_spells_116 : decode cX12_spells 116 = .ok (.goto (-90), 3) := by decide +kernel
theorem dX12_spells_119 : decode cX12_spells 119 = .ok (.iload 8, 2) := by decide +kernel
theorem dX12_spells_121 : decode cX12_spells 121 = .ok (.ireturn, 1) := by decide +kernel
theorem dX12_takes_0 : decode cX12_takes 0 = .ok (.aload_n 0, 1) := by decide +kernel
theorem dX12_takes_1 : decode cX12_takes 1 = .ok (.getfield 195, 3) := by decide +kernel
theorem dX12_takes_4 : decode cX12_takes 4 = .ok (.iconst 2, 1) := by decide +kernel
theorem dX12_takes_5 : decode cX12_takes 5 = .ok (.if_icmp .ne 18, 3) := by decide +kernel
theorem dX12_takes_8 : decode cX12_takes 8 = .ok (.aload_n 0, 1) := by decide +kernel
theorem dX12_takes_9 : decode cX12_takes 9 = .ok (.getfield 198, 3) := by decide +kernel
theorem dX12_takes_12 : decode cX12_takes 12 = .ok (.i2l, 1) := by decide +kernel
theorem dX12_takes_13 : decode cX12_takes 13 = .ok (.iload_n 2, 1) := by decide +kernel
theorem dX12_takes_14 : decode cX12_takes 14 = .ok (.i2l, 1) := by decide +kernel
theorem dX12_takes_15 : decode cX12_takes 15 = .ok (.iload_n 3, 1) := by decide +kernel
theorem dX12_takes_16 : decode cX12_takes 16 = .ok (.i2l, 1) := by decide +kernel
theorem dX12_takes_17 : decode cX12_takes 17 = .ok (.invokestatic 50, 3) := by decide +kernel
theorem dX12_takes_20 : decode cX12_takes 20 = .ok (.ifCond .ne 5, 3) := by decide +kernel
theorem dX12_takes_23 : decode cX12_takes 23 = .ok (.iconst 0, 1) := by decide +kernel
theorem dX12_takes_24 : decode cX12_takes 24 = .ok (.ireturn, 1) := by decide +kernel
theorem dX12_takes_25 : decode cX12_takes 25 = .ok (.aload_n 0, 1) := by decide +kernel
theorem dX12_takes_26 : decode cX12_takes 26 = .ok (.getfield 39, 3) := by decide +kernel
theorem dX12_takes_29 : decode cX12_takes 29 = .ok (.iload_n 1, 1) := by decide +kernel
theorem dX12_takes_30 : decode cX12_takes 30 = .ok (.aload_n 0, 1) := by decide +kernel
theorem dX12_takes_31 : decode cX12_takes 31 = .ok (.getfield 198, 3) := by decide +kernel
theorem dX12_takes_34 : decode cX12_takes 34 = .ok (.iastore, 1) := by decide +kernel
theorem dX12_takes_35 : decode cX12_takes 35 = .ok (.aload_n 0, 1) := by decide +kernel
theorem dX12_takes_36 : decode cX12_takes 36 = .ok (.invokevirtual 211, 3) := by decide +kernel
theorem dX12_takes_39 : decode cX12_takes 39 = .ok (.iconst 1, 1) := by decide +kernel
theorem dX12_takes_40 : decode cX12_takes 40 = .ok (.ireturn, 1) := by decide +kernel
theorem dX12_takesHamlet_0 : decode cX12_takesHamlet 0 = .ok (.aload_n 0, 1) := by decide +kernel
theorem dX12_takesHamlet_1 : decode cX12_takesHamlet 1 = .ok (.bipush 6, 2) := by decide +kernel
theorem dX12_takesHamlet_3 : decode cX12_takesHamlet 3 = .ok (.bipush 104, 2) := by decide +kernel
theorem dX12_takesHamlet_5 : decode cX12_takesHamlet 5 = .ok (.bipush 97, 2) := by decide +kernel
theorem dX12_takesHamlet_7 : decode cX12_takesHamlet 7 = .ok (.bipush 109, 2) := by decide +kernel
theorem dX12_takesHamlet_9 : decode cX12_takesHamlet 9 = .ok (.bipush 108, 2) := by decide +kernel
theorem dX12_takesHamlet_11 : decode cX12_takesHamlet 11 = .ok (.bipush 101, 2) := by decide +kernel
theorem dX12_takesHamlet_13 : decode cX12_takesHamlet 13 = .ok (.bipush 116, 2) := by decide +kernel
theorem dX12_takesHamlet_15 : decode cX12_takesHamlet 15 = .ok (.invokevirtual 214, 3) := by decide +kernel
theorem dX12_takesHamlet_18 : decode cX12_takesHamlet 18 = .ok (.ifCond .ne 5, 3) := by decide +kernel
theorem dX12_takesHamlet_21 : decode cX12_takesHamlet 21 = .ok (.iconst 0, 1) := by decide +kernel
theorem dX12_takesHamlet_22 : decode cX12_takesHamlet 22 = .ok (.ireturn, 1) := by decide +kernel
theorem dX12_takesHamlet_23 : decode cX12_takesHamlet 23 = .ok (.aload_n 0, 1) := by decide +kernel
theorem dX12_takesHamlet_24 : decode cX12_takesHamlet 24 = .ok (.invokevirtual 211, 3) := by decide +kernel
theorem dX12_takesHamlet_27 : decode cX12_takesHamlet 27 = .ok (.aload_n 0, 1) := by decide +kernel
theorem dX12_takesHamlet_28 : decode cX12_takesHamlet 28 = .ok (.iconst 0, 1) := by decide +kernel
theorem dX12_takesHamlet_29 : decode cX12_takesHamlet 29 = .ok (.iconst 0, 1) := by decide +kernel
theorem dX12_takesHamlet_30 : decode cX12_takesHamlet 30 = .ok (.bipush 99, 2) := by decide +kernel
theorem dX12_takesHamlet_32 : decode cX12_takesHamlet 32 = .ok (.invokevirtual 218, 3) := by decide +kernel
theorem dX12_takesHamlet_35 : decode cX12_takesHamlet 35 = .ok (.ifCond .ne 5, 3) := by decide +kernel
theorem dX12_takesHamlet_38 : decode cX12_takesHamlet 38 = .ok (.iconst 0, 1) := by decide +kernel
theorem dX12_takesHamlet_39 : decode cX12_takesHamlet 39 = .ok (.ireturn, 1) := by decide +kernel
theorem dX12_takesHamlet_40 : decode cX12_takesHamlet 40 = .ok (.aload_n 0, 1) := by decide +kernel
theorem dX12_takesHamlet_41 : decode cX12_takesHamlet 41 = .ok (.getfield 36, 3) := by decide +kernel
theorem dX12_takesHamlet_44 : decode cX12_takesHamlet 44 = .ok (.aload_n 0, 1) := by decide +kernel
theorem dX12_takesHamlet_45 : decode cX12_takesHamlet 45 = .ok (.getfield 39, 3) := by decide +kernel
theorem dX12_takesHamlet_48 : decode cX12_takesHamlet 48 = .ok (.iconst 0, 1) := by decide +kernel
theorem dX12_takesHamlet_49 : decode cX12_takesHamlet 49 = .ok (.iaload, 1) := by decide +kernel
theorem dX12_takesHamlet_50 : decode cX12_takesHamlet 50 = .ok (.invokestatic 42, 3) := by decide +kernel
theorem dX12_takesHamlet_53 : decode cX12_takesHamlet 53 = .ok (.aload_n 0, 1) := by decide +kernel
theorem dX12_takesHamlet_54 : decode cX12_takesHamlet 54 = .ok (.getfield 195, 3) := by decide +kernel
theorem dX12_takesHamlet_57 : decode cX12_takesHamlet 57 = .ok (.iconst 3, 1) := by decide +kernel
theorem dX12_takesHamlet_58 : decode cX12_takesHamlet 58 = .ok (.if_icmp .ne 7, 3) := by decide +kernel
theorem dX12_takesHamlet_61 : decode cX12_takesHamlet 61 = .ok (.iconst 1, 1) := by decide +kernel
theorem dX12_takesHamlet_62 : decode cX12_takesHamlet 62 = .ok (.goto 4, 3) := by decide +kernel
theorem dX12_takesHamlet_65 : decode cX12_takesHamlet 65 = .ok (.iconst 0, 1) := by decide +kernel
theorem dX12_takesHamlet_66 : decode cX12_takesHamlet 66 = .ok (.ireturn, 1) := by decide +kernel
theorem dX12_takesOne_0 : decode cX12_takesOne 0 = .ok (.aload_n 0, 1) := by decide +kernel
theorem dX12_takesOne_1 : decode cX12_takesOne 1 = .ok (.getfield 36, 3) := by decide +kernel
theorem dX12_takesOne_4 : decode cX12_takesOne 4 = .ok (.iconst 0, 1) := by decide +kernel
theorem dX12_takesOne_5 : decode cX12_takesOne 5 = .ok (.iaload, 1) := by decide +kernel
theorem dX12_takesOne_6 : decode cX12_takesOne 6 = .ok (.bipush 7, 2) := by decide +kernel
theorem dX12_takesOne_8 : decode cX12_takesOne 8 = .ok (.if_icmp .ne 5, 3) := by decide +kernel
theorem dX12_takesOne_11 : decode cX12_takesOne 11 = .ok (.iconst 0, 1) := by decide +kernel
theorem dX12_takesOne_12 : decode cX12_takesOne 12 = .ok (.ireturn, 1) := by decide +kernel
theorem dX12_takesOne_13 : decode cX12_takesOne 13 = .ok (.aload_n 0, 1) := by decide +kernel
theorem dX12_takesOne_14 : decode cX12_takesOne 14 = .ok (.invokevirtual 211, 3) := by decide +kernel
theorem dX12_takesOne_17 : decode cX12_takesOne 17 = .ok (.aload_n 0, 1) := by decide +kernel
theorem dX12_takesOne_18 : decode cX12_takesOne 18 = .ok (.iconst 0, 1) := by decide +kernel
theorem dX12_takesOne_19 : decode cX12_takesOne 19 = .ok (.iconst 0, 1) := by decide +kernel
theorem dX12_takesOne_20 : decode cX12_takesOne 20 = .ok (.iconst 5, 1) := by decide +kernel
theorem dX12_takesOne_21 : decode cX12_takesOne 21 = .ok (.invokevirtual 218, 3) := by decide +kernel
theorem dX12_takesOne_24 : decode cX12_takesOne 24 = .ok (.ifCond .eq 14, 3) := by decide +kernel
theorem dX12_takesOne_27 : decode cX12_takesOne 27 = .ok (.aload_n 0, 1) := by decide +kernel
theorem dX12_takesOne_28 : decode cX12_takesOne 28 = .ok (.iconst 1, 1) := by decide +kernel
theorem dX12_takesOne_29 : decode cX12_takesOne 29 = .ok (.iconst 0, 1) := by decide +kernel
theorem dX12_takesOne_30 : decode cX12_takesOne 30 = .ok (.bipush 9, 2) := by decide +kernel
theorem dX12_takesOne_32 : decode cX12_takesOne 32 = .ok (.invokevirtual 218, 3) := by decide +kernel
theorem dX12_takesOne_35 : decode cX12_takesOne 35 = .ok (.ifCond .ne 5, 3) := by decide +kernel
theorem dX12_takesOne_38 : decode cX12_takesOne 38 = .ok (.iconst 0, 1) := by decide +kernel
theorem dX12_takesOne_39 : decode cX12_takesOne 39 = .ok (.ireturn, 1) := by decide +kernel
theorem dX12_takesOne_40 : decode cX12_takesOne 40 = .ok (.aload_n 0, 1) := by decide +kernel
theorem dX12_takesOne_41 : decode cX12_takesOne 41 = .ok (.getfield 36, 3) := by decide +kernel
theorem dX12_takesOne_44 : decode cX12_takesOne 44 = .ok (.aload_n 0, 1) := by decide +kernel
theorem dX12_takesOne_45 : decode cX12_takesOne 45 = .ok (.getfield 39, 3) := by decide +kernel
theorem dX12_takesOne_48 : decode cX12_takesOne 48 = .ok (.iconst 0, 1) := by decide +kernel
theorem dX12_takesOne_49 : decode cX12_takesOne 49 = .ok (.iaload, 1) := by decide +kernel
theorem dX12_takesOne_50 : decode cX12_takesOne 50 = .ok (.aload_n 0, 1) := by decide +kernel
theorem dX12_takesOne_51 : decode cX12_takesOne 51 = .ok (.getfield 39, 3) := by decide +kernel
theorem dX12_takesOne_54 : decode cX12_takesOne 54 = .ok (.iconst 1, 1) := by decide +kernel
theorem dX12_takesOne_55 : decode cX12_takesOne 55 = .ok (.iaload, 1) := by decide +kernel
theorem dX12_takesOne_56 : decode cX12_takesOne 56 = .ok (.invokestatic 71, 3) := by decide +kernel
theorem dX12_takesOne_59 : decode cX12_takesOne 59 = .ok (.iconst 1, 1) := by decide +kernel
theorem dX12_takesOne_60 : decode cX12_takesOne 60 = .ok (.ireturn, 1) := by decide +kernel
theorem dX12_takesBears_0 : decode cX12_takesBears 0 = .ok (.aload_n 0, 1) := by decide +kernel
theorem dX12_takesBears_1 : decode cX12_takesBears 1 = .ok (.invokevirtual 211, 3) := by decide +kernel
theorem dX12_takesBears_4 : decode cX12_takesBears 4 = .ok (.aload_n 0, 1) := by decide +kernel
theorem dX12_takesBears_5 : decode cX12_takesBears 5 = .ok (.getfield 39, 3) := by decide +kernel
theorem dX12_takesBears_8 : decode cX12_takesBears 8 = .ok (.iconst 1, 1) := by decide +kernel
theorem dX12_takesBears_9 : decode cX12_takesBears 9 = .ok (.iconst (-1), 1) := by decide +kernel
theorem dX12_takesBears_10 : decode cX12_takesBears 10 = .ok (.iastore, 1) := by decide +kernel
theorem dX12_takesBears_11 : decode cX12_takesBears 11 = .ok (.aload_n 0, 1) := by decide +kernel
theorem dX12_takesBears_12 : decode cX12_takesBears 12 = .ok (.iconst 0, 1) := by decide +kernel
theorem dX12_takesBears_13 : decode cX12_takesBears 13 = .ok (.iconst 0, 1) := by decide +kernel
theorem dX12_takesBears_14 : decode cX12_takesBears 14 = .ok (.aload_n 0, 1) := by decide +kernel
theorem dX12_takesBears_15 : decode cX12_takesBears 15 = .ok (.getfield 36, 3) := by decide +kernel
theorem dX12_takesBears_18 : decode cX12_takesBears 18 = .ok (.iconst 0, 1) := by decide +kernel
theorem dX12_takesBears_19 : decode cX12_takesBears 19 = .ok (.iaload, 1) := by decide +kernel
theorem dX12_takesBears_20 : decode cX12_takesBears 20 = .ok (.iconst 1, 1) := by decide +kernel
theorem dX12_takesBears_21 : decode cX12_takesBears 21 = .ok (.isub, 1) := by decide +kernel
theorem dX12_takesBears_22 : decode cX12_takesBears 22 = .ok (.invokevirtual 218, 3) := by decide +kernel
theorem dX12_takesBears_25 : decode cX12_takesBears 25 = .ok (.ifCond .eq 24, 3) := by decide +kernel
theorem dX12_takesBears_28 : decode cX12_takesBears 28 = .ok (.iload_n 1, 1) := by decide +kernel
theorem dX12_takesBears_29 : decode cX12_takesBears 29 = .ok (.ifCond .ne 22, 3) := by decide +kernel
theorem dX12_takesBears_32 : decode cX12_takesBears 32 = .ok (.aload_n 0, 1) := by decide +kernel
theorem dX12_takesBears_33 : decode cX12_takesBears 33 = .ok (.iconst 1, 1) := by decide +kernel
theorem dX12_takesBears_34 : decode cX12_takesBears 34 = .ok (.iconst 0, 1) := by decide +kernel
theorem dX12_takesBears_35 : decode cX12_takesBears 35 = .ok (.aload_n 0, 1) := by decide +kernel
theorem dX12_takesBears_36 : decode cX12_takesBears 36 = .ok (.getfield 36, 3) := by decide +kernel
theorem dX12_takesBears_39 : decode cX12_takesBears 39 = .ok (.iconst 0, 1) := by decide +kernel
theorem dX12_takesBears_40 : decode cX12_takesBears 40 = .ok (.iaload, 1) := by decide +kernel
theorem dX12_takesBears_41 : decode cX12_takesBears 41 = .ok (.iconst 1, 1) := by decide +kernel
theorem dX12_takesBears_42 : decode cX12_takesBears 42 = .ok (.isub, 1) := by decide +kernel
theorem dX12_takesBears_43 : decode cX12_takesBears 43 = .ok (.invokevirtual 218, 3) := by decide +kernel
theorem dX12_takesBears_46 : decode cX12_takesBears 46 = .ok (.ifCond .ne 5, 3) := by decide +kernel
theorem dX12_takesBears_49 : decode cX12_takesBears 49 = .ok (.iconst 0, 1) := by decide +kernel
theorem dX12_takesBears_50 : decode cX12_takesBears 50 = .ok (.ireturn, 1) := by decide +kernel
theorem dX12_takesBears_51 : decode cX12_takesBears 51 = .ok (.aload_n 0, 1) := by decide +kernel
theorem dX12_takesBears_52 : decode cX12_takesBears 52 = .ok (.getfield 36, 3) := by decide +kernel
theorem dX12_takesBears_55 : decode cX12_takesBears 55 = .ok (.iconst 5, 1) := by decide +kernel
theorem dX12_takesBears_56 : decode cX12_takesBears 56 = .ok (.aload_n 0, 1) := by decide +kernel
theorem dX12_takesBears_57 : decode cX12_takesBears 57 = .ok (.getfield 39, 3) := by decide +kernel
theorem dX12_takesBears_60 : decode cX12_takesBears 60 = .ok (.iconst 0, 1) := by decide +kernel
theorem dX12_takesBears_61 : decode cX12_takesBears 61 = .ok (.iaload, 1) := by decide +kernel
theorem dX12_takesBears_62 : decode cX12_takesBears 62 = .ok (.iadd, 1) := by decide +kernel
theorem dX12_takesBears_63 : decode cX12_takesBears 63 = .ok (.aload_n 0, 1) := by decide +kernel
theorem dX12_takesBears_64 : decode cX12_takesBears 64 = .ok (.getfield 39, 3) := by decide +kernel
theorem dX12_takesBears_67 : decode cX12_takesBears 67 = .ok (.iconst 1, 1) := by decide +kernel
theorem dX12_takesBears_68 : decode cX12_takesBears 68 = .ok (.iaload, 1) := by decide +kernel
theorem dX12_takesBears_69 : decode cX12_takesBears 69 = .ok (.iastore, 1) := by decide +kernel
theorem dX12_takesBears_70 : decode cX12_takesBears 70 = .ok (.iconst 1, 1) := by decide +kernel
theorem dX12_takesBears_71 : decode cX12_takesBears 71 = .ok (.ireturn, 1) := by decide +kernel
theorem dX12_takesItem_0 : decode cX12_takesItem 0 = .ok (.aload_n 0, 1) := by decide +kernel
theorem dX12_takesItem_1 : decode cX12_takesItem 1 = .ok (.iconst 3, 1) := by decide +kernel
theorem dX12_takesItem_2 : decode cX12_takesItem 2 = .ok (.bipush 111, 2) := by decide +kernel
theorem dX12_takesItem_4 : decode cX12_takesItem 4 = .ok (.bipush 110, 2) := by decide +kernel
theorem dX12_takesItem_6 : decode cX12_takesItem 6 = .ok (.bipush 101, 2) := by decide +kernel
theorem dX12_takesItem_8 : decode cX12_takesItem 8 = .ok (.iconst 0, 1) := by decide +kernel
theorem dX12_takesItem_9 : decode cX12_takesItem 9 = .ok (.iconst 0, 1) := by decide +kernel
theorem dX12_takesItem_10 : decode cX12_takesItem 10 = .ok (.iconst 0, 1) := by decide +kernel
theorem dX12_takesItem_11 : decode cX12_takesItem 11 = .ok (.invokevirtual 214, 3) := by decide +kernel
theorem dX12_takesItem_14 : decode cX12_takesItem 14 = .ok (.ifCond .eq 8, 3) := by decide +kernel
theorem dX12_takesItem_17 : decode cX12_takesItem 17 = .ok (.aload_n 0, 1) := by decide +kernel
theorem dX12_takesItem_18 : decode cX12_takesItem 18 = .ok (.invokevirtual 221, 3) := by decide +kernel
theorem dX12_takesItem_21 : decode cX12_takesItem 21 = .ok (.ireturn, 1) := by decide +kernel
theorem dX12_takesItem_22 : decode cX12_takesItem 22 = .ok (.aload_n 0, 1) := by decide +kernel
theorem dX12_takesItem_23 : decode cX12_takesItem 23 = .ok (.iconst 5, 1) := by decide +kernel
theorem dX12_takesItem_24 : decode cX12_takesItem 24 = .ok (.bipush 98, 2) := by decide +kernel
theorem dX12_takesItem_26 : decode cX12_takesItem 26 = .ok (.bipush 101, 2) := by decide +kernel
theorem dX12_takesItem_28 : decode cX12_takesItem 28 = .ok (.bipush 97, 2) := by decide +kernel
theorem dX12_takesItem_30 : decode cX12_takesItem 30 = .ok (.bipush 114, 2) := by decide +kernel
theorem dX12_takesItem_32 : decode cX12_takesItem 32 = .ok (.bipush 115, 2) := by decide +kernel
theorem dX12_takesItem_34 : decode cX12_takesItem 34 = .ok (.iconst 0, 1) := by decide +kernel
theorem dX12_takesItem_35 : decode cX12_takesItem 35 = .ok (.invokevirtual 214, 3) := by decide +kernel
theorem dX12_takesItem_38 : decode cX12_takesItem 38 = .ok (.ifCond .eq 9, 3) := by decide +kernel
theorem dX12_takesItem_41 : decode cX12_takesItem 41 = .ok (.aload_n 0, 1) := by decide +kernel
theorem dX12_takesItem_42 : decode cX12_takesItem 42 = .ok (.iconst 0, 1) := by decide +kernel
theorem dX12_takesItem_43 : decode cX12_takesItem 43 = .ok (.invokevirtual 225, 3) := by decide +kernel
theorem dX12_takesItem_46 : decode cX12_takesItem 46 = .ok (.ireturn, 1) := by decide +kernel
theorem dX12_takesItem_47 : decode cX12_takesItem 47 = .ok (.aload_n 0, 1) := by decide +kernel
theorem dX12_takesItem_48 : decode cX12_takesItem 48 = .ok (.iconst 4, 1) := by decide +kernel
theorem dX12_takesItem_49 : decode cX12_takesItem 49 = .ok (.bipush 110, 2) := by decide +kernel
theorem dX12_takesItem_51 : decode cX12_takesItem 51 = .ok (.bipush 111, 2) := by decide +kernel
theorem dX12_takesItem_53 : decode cX12_takesItem 53 = .ok (.bipush 110, 2) := by decide +kernel
theorem dX12_takesItem_55 : decode cX12_takesItem 55 = .ok (.bipush 101, 2) := by decide +kernel
theorem dX12_takesItem_57 : decode cX12_takesItem 57 = .ok (.iconst 0, 1) := by decide +kernel
theorem dX12_takesItem_58 : decode cX12_takesItem 58 = .ok (.iconst 0, 1) := by decide +kernel
theorem dX12_takesItem_59 : decode cX12_takesItem 59 = .ok (.invokevirtual 214, 3) := by decide +kernel
theorem dX12_takesItem_62 : decode cX12_takesItem 62 = .ok (.ifCond .eq 15, 3) := by decide +kernel
theorem dX12_takesItem_65 : decode cX12_takesItem 65 = .ok (.aload_n 0, 1) := by decide +kernel
theorem dX12_takesItem_66 : decode cX12_takesItem 66 = .ok (.iconst 1, 1) := by decide +kernel
theorem dX12_takesItem_67 : decode cX12_takesItem 67 = .ok (.invokevirtual 225, 3) := by decide +kernel
theorem dX12_takesItem_70 : decode cX12_takesItem 70 = .ok (.ifCond .eq 7, 3) := by decide +kernel
theorem dX12_takesItem_73 : decode cX12_takesItem 73 = .ok (.iconst 1, 1) := by decide +kernel
theorem dX12_takesItem_74 : decode cX12_takesItem 74 = .ok (.goto 4, 3) := by decide +kernel
theorem dX12_takesItem_77 : decode cX12_takesItem 77 = .ok (.iconst 0, 1) := by decide +kernel
theorem dX12_takesItem_78 : decode cX12_takesItem 78 = .ok (.ireturn, 1) := by decide +kernel
theorem dX12_read_0 : decode cX12_read 0 = .ok (.aload_n 0, 1) := by decide +kernel
theorem dX12_read_1 : decode cX12_read 1 = .ok (.iconst 0, 1) := by decide +kernel
theorem dX12_read_2 : decode cX12_read 2 = .ok (.invokevirtual 207, 3) := by decide +kernel
theorem dX12_read_5 : decode cX12_read 5 = .ok (.aload_n 0, 1) := by decide +kernel
theorem dX12_read_6 : decode cX12_read 6 = .ok (.invokevirtual 229, 3) := by decide +kernel
theorem dX12_read_9 : decode cX12_read 9 = .ok (.ifCond .ne 11, 3) := by decide +kernel
theorem dX12_read_12 : decode cX12_read 12 = .ok (.bipush (-10), 2) := by decide +kernel
theorem dX12_read_14 : decode cX12_read 14 = .ok (.aload_n 0, 1) := by decide +kernel
theorem dX12_read_15 : decode cX12_read 15 = .ok (.getfield 189, 3) := by decide +kernel
theorem dX12_read_18 : decode cX12_read 18 = .ok (.isub, 1) := by decide +kernel
theorem dX12_read_19 : decode cX12_read 19 = .ok (.ireturn, 1) := by decide +kernel
theorem dX12_read_20 : decode cX12_read 20 = .ok (.aload_n 0, 1) := by decide +kernel
theorem dX12_read_21 : decode cX12_read 21 = .ok (.invokevirtual 211, 3) := by decide +kernel
theorem dX12_read_24 : decode cX12_read 24 = .ok (.iconst 1, 1) := by decide +kernel
theorem dX12_read_25 : decode cX12_read 25 = .ok (.istore_n 1, 1) := by decide +kernel
theorem dX12_read_26 : decode cX12_read 26 = .ok (.aload_n 0, 1) := by decide +kernel
theorem dX12_read_27 : decode cX12_read 27 = .ok (.getfield 195, 3) := by decide +kernel
theorem dX12_read_30 : decode cX12_read 30 = .ok (.ifCond .eq 36, 3) := by decide +kernel
theorem dX12_read_33 : decode cX12_read 33 = .ok (.aload_n 0, 1) := by decide +kernel
theorem dX12_read_34 : decode cX12_read 34 = .ok (.invokevirtual 232, 3) := by decide +kernel
theorem dX12_read_37 : decode cX12_read 37 = .ok (.ifCond .eq 11, 3) := by decide +kernel
theorem dX12_read_40 : decode cX12_read 40 = .ok (.aload_n 0, 1) := by decide +kernel
theorem dX12_read_41 : decode cX12_read 41 = .ok (.getfield 195, 3) := by decide +kernel
theorem dX12_read_44 : decode cX12_read 44 = .ok (.iconst 3, 1) := by decide +kernel
theorem dX12_read_45 : decode cX12_read 45 = .ok (.if_icmp .eq 11, 3) := by decide +kernel
theorem dX12_read_48 : decode cX12_read 48 = .ok (.bipush (-10), 2) := by decide +kernel
theorem dX12_read_50 : decode cX12_read 50 = .ok (.aload_n 0, 1) := by decide +kernel
theorem dX12_read_51 : decode cX12_read 51 = .ok (.getfield 189, 3) := by decide +kernel
theorem dX12_read_54 : decode cX12_read 54 = .ok (.isub, 1) := by decide +kernel
theorem dX12_read_55 : decode cX12_read 55 = .ok (.ireturn, 1) := by decide +kernel
theorem dX12_read_56 : decode cX12_read 56 = .ok (.aload_n 0, 1) := by decide +kernel
theorem dX12_read_57 : decode cX12_read 57 = .ok (.invokevirtual 211, 3) := by decide +kernel
theorem dX12_read_60 : decode cX12_read 60 = .ok (.iinc 1 1, 3) := by decide +kernel
theorem dX12_read_63 : decode cX12_read 63 = .ok (.goto (-37), 3) := by decide +kernel
theorem dX12_read_66 : decode cX12_read 66 = .ok (.iconst 0, 1) := by decide +kernel
theorem dX12_read_67 : decode cX12_read 67 = .ok (.istore_n 2, 1) := by decide +kernel
theorem dX12_read_68 : decode cX12_read 68 = .ok (.iload_n 2, 1) := by decide +kernel
theorem dX12_read_69 : decode cX12_read 69 = .ok (.bipush 68, 2) := by decide +kernel
theorem dX12_read_71 : decode cX12_read 71 = .ok (.if_icmp .ge 21, 3) := by decide +kernel
theorem dX12_read_74 : decode cX12_read 74 = .ok (.aload_n 0, 1) := by decide +kernel
theorem dX12_read_75 : decode cX12_read 75 = .ok (.getfield 7, 3) := by decide +kernel
theorem dX12_read_78 : decode cX12_read 78 = .ok (.iload_n 2, 1) := by decide +kernel
theorem dX12_read_79 : decode cX12_read 79 = .ok (.aload_n 0, 1) := by decide +kernel
theorem dX12_read_80 : decode cX12_read 80 = .ok (.getfield 36, 3) := by decide +kernel
theorem dX12_read_83 : decode cX12_read 83 = .ok (.iload_n 2, 1) := by decide +kernel
theorem dX12_read_84 : decode cX12_read 84 = .ok (.iaload, 1) := by decide +kernel
theorem dX12_read_85 : decode cX12_read 85 = .ok (.iastore, 1) := by decide +kernel
theorem dX12_read_86 : decode cX12_read 86 = .ok (.iinc 2 1, 3) := by decide +kernel
theorem dX12_read_89 : decode cX12_read 89 = .ok (.goto (-21), 3) := by decide +kernel
theorem dX12_read_92 : decode cX12_read 92 = .ok (.iload_n 1, 1) := by decide +kernel
theorem dX12_read_93 : decode cX12_read 93 = .ok (.ireturn, 1) := by decide +kernel
theorem dX12_part_0 : decode cX12_part 0 = .ok (.iload_n 1, 1) := by decide +kernel
theorem dX12_part_1 : decode cX12_part 1 = .ok (.ifCond .ne 10, 3) := by decide +kernel
theorem dX12_part_4 : decode cX12_part 4 = .ok (.aload_n 0, 1) := by decide +kernel
theorem dX12_part_5 : decode cX12_part 5 = .ok (.getfield 144, 3) := by decide +kernel
theorem dX12_part_8 : decode cX12_part 8 = .ok (.goto 22, 3) := by decide +kernel
theorem dX12_part_11 : decode cX12_part 11 = .ok (.iload_n 1, 1) := by decide +kernel
theorem dX12_part_12 : decode cX12_part 12 = .ok (.iconst 1, 1) := by decide +kernel
theorem dX12_part_13 : decode cX12_part 13 = .ok (.if_icmp .ne 10, 3) := by decide +kernel
theorem dX12_part_16 : decode cX12_part 16 = .ok (.aload_n 0, 1) := by decide +kernel
theorem dX12_part_17 : decode cX12_part 17 = .ok (.getfield 23, 3) := by decide +kernel
theorem dX12_part_20 : decode cX12_part 20 = .ok (.goto 10, 3) := by decide +kernel
theorem dX12_part_23 : decode cX12_part 23 = .ok (.aload_n 0, 1) := by decide +kernel
theorem dX12_part_24 : decode cX12_part 24 = .ok (.bipush (-2), 2) := by decide +kernel
theorem dX12_part_26 : decode cX12_part 26 = .ok (.invokevirtual 58, 3) := by decide +kernel
theorem dX12_part_29 : decode cX12_part 29 = .ok (.i2l, 1) := by decide +kernel
theorem dX12_part_30 : decode cX12_part 30 = .ok (.lreturn, 1) := by decide +kernel
theorem dX12_image_0 : decode cX12_image 0 = .ok (.iload_n 1, 1) := by decide +kernel
theorem dX12_image_1 : decode cX12_image 1 = .ok (.i2l, 1) := by decide +kernel
theorem dX12_image_2 : decode cX12_image 2 = .ok (.lconst 0, 1) := by decide +kernel
theorem dX12_image_3 : decode cX12_image 3 = .ok (.lconst 1, 1) := by decide +kernel
theorem dX12_image_4 : decode cX12_image 4 = .ok (.invokestatic 50, 3) := by decide +kernel
theorem dX12_image_7 : decode cX12_image 7 = .ok (.ifCond .ne 10, 3) := by decide +kernel
theorem dX12_image_10 : decode cX12_image 10 = .ok (.aload_n 0, 1) := by decide +kernel
theorem dX12_image_11 : decode cX12_image 11 = .ok (.bipush (-2), 2) := by decide +kernel
theorem dX12_image_13 : decode cX12_image 13 = .ok (.invokevirtual 58, 3) := by decide +kernel
theorem dX12_image_16 : decode cX12_image 16 = .ok (.ireturn, 1) := by decide +kernel
theorem dX12_image_17 : decode cX12_image 17 = .ok (.iconst 0, 1) := by decide +kernel
theorem dX12_image_18 : decode cX12_image 18 = .ok (.istore_n 2, 1) := by decide +kernel
theorem dX12_image_19 : decode cX12_image 19 = .ok (.iload_n 2, 1) := by decide +kernel
theorem dX12_image_20 : decode cX12_image 20 = .ok (.sipush 188, 3) := by decide +kernel
theorem dX12_image_23 : decode cX12_image 23 = .ok (.if_icmp .ge 27, 3) := by decide +kernel
theorem dX12_image_26 : decode cX12_image 26 = .ok (.aload_n 0, 1) := by decide +kernel
theorem dX12_image_27 : decode cX12_image 27 = .ok (.getfield 13, 3) := by decide +kernel
theorem dX12_image_30 : decode cX12_image 30 = .ok (.sipush 188, 3) := by decide +kernel
theorem dX12_image_33 : decode cX12_image 33 = .ok (.iload_n 1, 1) := by decide +kernel
theorem dX12_image_34 : decode cX12_image 34 = .ok (.imul, 1) := by decide +kernel
theorem dX12_image_35 : decode cX12_image 35 = .ok (.iload_n 2, 1) := by decide +kernel
theorem dX12_image_36 : decode cX12_image 36 = .ok (.iadd, 1) := by decide +kernel
theorem dX12_image_37 : decode cX12_image 37 = .ok (.aload_n 0, 1) := by decide +kernel
theorem dX12_image_38 : decode cX12_image 38 = .ok (.getfield 7, 3) := by decide +kernel
theorem dX12_image_41 : decode cX12_image 41 = .ok (.iload_n 2, 1) := by decide +kernel
theorem dX12_image_42 : decode cX12_image 42 = .ok (.iaload, 1) := by decide +kernel
theorem dX12_image_43 : decode cX12_image 43 = .ok (.iastore, 1) := by decide +kernel
theorem dX12_image_44 : decode cX12_image 44 = .ok (.iinc 2 1, 3) := by decide +kernel
theorem dX12_image_47 : decode cX12_image 47 = .ok (.goto (-28), 3) := by decide +kernel
theorem dX12_image_50 : decode cX12_image 50 = .ok (.aload_n 0, 1) := by decide +kernel
theorem dX12_image_51 : decode cX12_image 51 = .ok (.getfield 16, 3) := by decide +kernel
theorem dX12_image_54 : decode cX12_image 54 = .ok (.iload_n 1, 1) := by decide +kernel
theorem dX12_image_55 : decode cX12_image 55 = .ok (.iconst 1, 1) := by decide +kernel
theorem dX12_image_56 : decode cX12_image 56 = .ok (.bastore, 1) := by decide +kernel
theorem dX12_image_57 : decode cX12_image 57 = .ok (.iconst 1, 1) := by decide +kernel
theorem dX12_image_58 : decode cX12_image 58 = .ok (.ireturn, 1) := by decide +kernel
theorem dX12_from_0 : decode cX12_from 0 = .ok (.iload_n 1, 1) := by decide +kernel
theorem dX12_from_1 : decode cX12_from 1 = .ok (.i2l, 1) := by decide +kernel
theorem dX12_from_2 : decode cX12_from 2 = .ok (.lconst 0, 1) := by decide +kernel
theorem dX12_from_3 : decode cX12_from 3 = .ok (.lconst 1, 1) := by decide +kernel
theorem dX12_from_4 : decode cX12_from 4 = .ok (.invokestatic 50, 3) := by decide +kernel
theorem dX12_from_7 : decode cX12_from 7 = .ok (.ifCond .ne 10, 3) := by decide +kernel
theorem dX12_from_10 : decode cX12_from 10 = .ok (.aload_n 0, 1) := by decide +kernel
theorem dX12_from_11 : decode cX12_from 11 = .ok (.bipush (-2), 2) := by decide +kernel
theorem dX12_from_13 : decode cX12_from 13 = .ok (.invokevirtual 58, 3) := by decide +kernel
theorem dX12_from_16 : decode cX12_from 16 = .ok (.ireturn, 1) := by decide +kernel
theorem dX12_from_17 : decode cX12_from 17 = .ok (.aload_n 0, 1) := by decide +kernel
theorem dX12_from_18 : decode cX12_from 18 = .ok (.getfield 16, 3) := by decide +kernel
theorem dX12_from_21 : decode cX12_from 21 = .ok (.iload_n 1, 1) := by decide +kernel
theorem dX12_from_22 : decode cX12_from 22 = .ok (.baload, 1) := by decide +kernel
theorem dX12_from_23 : decode cX12_from 23 = .ok (.ifCond .ne 8, 3) := by decide +kernel
theorem dX12_from_26 : decode cX12_from 26 = .ok (.aload_n 0, 1) := by decide +kernel
theorem dX12_from_27 : decode cX12_from 27 = .ok (.invokevirtual 109, 3) := by decide +kernel
theorem dX12_from_30 : decode cX12_from 30 = .ok (.ireturn, 1) := by decide +kernel
theorem dX12_from_31 : decode cX12_from 31 = .ok (.iconst 0, 1) := by decide +kernel
theorem dX12_from_32 : decode cX12_from 32 = .ok (.istore_n 2, 1) := by decide +kernel
theorem dX12_from_33 : decode cX12_from 33 = .ok (.iload_n 2, 1) := by decide +kernel
theorem dX12_from_34 : decode cX12_from 34 = .ok (.sipush 188, 3) := by decide +kernel
theorem dX12_from_37 : decode cX12_from 37 = .ok (.if_icmp .ge 27, 3) := by decide +kernel
theorem dX12_from_40 : decode cX12_from 40 = .ok (.aload_n 0, 1) := by decide +kernel
theorem dX12_from_41 : decode cX12_from 41 = .ok (.getfield 7, 3) := by decide +kernel
theorem dX12_from_44 : decode cX12_from 44 = .ok (.iload_n 2, 1) := by decide +kernel
theorem dX12_from_45 : decode cX12_from 45 = .ok (.aload_n 0, 1) := by decide +kernel
theorem dX12_from_46 : decode cX12_from 46 = .ok (.getfield 13, 3) := by decide +kernel
theorem dX12_from_49 : decode cX12_from 49 = .ok (.sipush 188, 3) := by decide +kernel
theorem dX12_from_52 : decode cX12_from 52 = .ok (.iload_n 1, 1) := by decide +kernel
theorem dX12_from_53 : decode cX12_from 53 = .ok (.imul, 1) := by decide +kernel
theorem dX12_from_54 : decode cX12_from 54 = .ok (.iload_n 2, 1) := by decide +kernel
theorem dX12_from_55 : decode cX12_from 55 = .ok (.iadd, 1) := by decide +kernel
theorem dX12_from_56 : decode cX12_from 56 = .ok (.iaload, 1) := by decide +kernel
theorem dX12_from_57 : decode cX12_from 57 = .ok (.iastore, 1) := by decide +kernel
theorem dX12_from_58 : decode cX12_from 58 = .ok (.iinc 2 1, 3) := by decide +kernel
theorem dX12_from_61 : decode cX12_from 61 = .ok (.goto (-28), 3) := by decide +kernel
theorem dX12_from_64 : decode cX12_from 64 = .ok (.iconst 1, 1) := by decide +kernel
theorem dX12_from_65 : decode cX12_from 65 = .ok (.ireturn, 1) := by decide +kernel
theorem dX12_status_0 : decode cX12_status 0 = .ok (.iload_n 1, 1) := by decide +kernel
theorem dX12_status_1 : decode cX12_status 1 = .ok (.i2l, 1) := by decide +kernel
theorem dX12_status_2 : decode cX12_status 2 = .ok (.lconst 0, 1) := by decide +kernel
theorem dX12_status_3 : decode cX12_status 3 = .ok (.ldc2_w 112, 3) := by decide +kernel
theorem dX12_status_6 : decode cX12_status 6 = .ok (.invokestatic 50, 3) := by decide +kernel
theorem dX12_status_9 : decode cX12_status 9 = .ok (.ifCond .eq 12, 3) := by decide +kernel
theorem dX12_status_12 : decode cX12_status 12 = .ok (.aload_n 0, 1) := by decide +kernel
theorem dX12_status_13 : decode cX12_status 13 = .ok (.getfield 20, 3) := by decide +kernel
theorem dX12_status_16 : decode cX12_status 16 = .ok (.iload_n 1, 1) := by decide +kernel
theorem dX12_status_17 : decode cX12_status 17 = .ok (.iaload, 1) := by decide +kernel
theorem dX12_status_18 : decode cX12_status 18 = .ok (.goto 8, 3) := by decide +kernel
theorem dX12_status_21 : decode cX12_status 21 = .ok (.aload_n 0, 1) := by decide +kernel
theorem dX12_status_22 : decode cX12_status 22 = .ok (.iconst (-1), 1) := by decide +kernel
theorem dX12_status_23 : decode cX12_status 23 = .ok (.invokevirtual 58, 3) := by decide +kernel
theorem dX12_status_26 : decode cX12_status 26 = .ok (.ireturn, 1) := by decide +kernel
theorem dX12_counted_0 : decode cX12_counted 0 = .ok (.aload_n 0, 1) := by decide +kernel
theorem dX12_counted_1 : decode cX12_counted 1 = .ok (.invokevirtual 103, 3) := by decide +kernel
theorem dX12_counted_4 : decode cX12_counted 4 = .ok (.iload_n 1, 1) := by decide +kernel
theorem dX12_counted_5 : decode cX12_counted 5 = .ok (.tableswitch 77 0 5 #[39, 44, 51, 56, 63, 70], 39) := by decide +kernel
theorem dX12_counted_44 : decode cX12_counted 44 = .ok (.aload_n 0, 1) := by decide +kernel
theorem dX12_counted_45 : decode cX12_counted 45 = .ok (.invokevirtual 46, 3) := by decide +kernel
theorem dX12_counted_48 : decode cX12_counted 48 = .ok (.ireturn, 1) := by decide +kernel
theorem dX12_counted_49 : decode cX12_counted 49 = .ok (.aload_n 0, 1) := by decide +kernel
theorem dX12_counted_50 : decode cX12_counted 50 = .ok (.getfield 7, 3) := by decide +kernel
theorem dX12_counted_53 : decode cX12_counted 53 = .ok (.iconst 1, 1) := by decide +kernel
theorem dX12_counted_54 : decode cX12_counted 54 = .ok (.iaload, 1) := by decide +kernel
theorem dX12_counted_55 : decode cX12_counted 55 = .ok (.ireturn, 1) := by decide +kernel
theorem dX12_counted_56 : decode cX12_counted 56 = .ok (.aload_n 0, 1) := by decide +kernel
theorem dX12_counted_57 : decode cX12_counted 57 = .ok (.invokevirtual 130, 3) := by decide +kernel
theorem dX12_counted_60 : decode cX12_counted 60 = .ok (.ireturn, 1) := by decide +kernel
theorem dX12_counted_61 : decode cX12_counted 61 = .ok (.aload_n 0, 1) := by decide +kernel
theorem dX12_counted_62 : decode cX12_counted 62 = .ok (.getfield 7, 3) := by decide +kernel
theorem dX12_counted_65 : decode cX12_counted 65 = .ok (.iconst 2, 1) := by decide +kernel
theorem dX12_counted_66 : decode cX12_counted 66 = .ok (.iaload, 1) := by decide +kernel
theorem dX12_counted_67 : decode cX12_counted 67 = .ok (.ireturn, 1) := by decide +kernel
theorem dX12_counted_68 : decode cX12_counted 68 = .ok (.aload_n 0, 1) := by decide +kernel
theorem dX12_counted_69 : decode cX12_counted 69 = .ok (.getfield 7, 3) := by decide +kernel
theorem dX12_counted_72 : decode cX12_counted 72 = .ok (.iconst 3, 1) := by decide +kernel
theorem dX12_counted_73 : decode cX12_counted 73 = .ok (.iaload, 1) := by decide +kernel
theorem dX12_counted_74 : decode cX12_counted 74 = .ok (.ireturn, 1) := by decide +kernel
theorem dX12_counted_75 : decode cX12_counted 75 = .ok (.aload_n 0, 1) := by decide +kernel
theorem dX12_counted_76 : decode cX12_counted 76 = .ok (.getfield 7, 3) := by decide +kernel
theorem dX12_counted_79 : decode cX12_counted 79 = .ok (.iconst 4, 1) := by decide +kernel
theorem dX12_counted_80 : decode cX12_counted 80 = .ok (.iaload, 1) := by decide +kernel
theorem dX12_counted_81 : decode cX12_counted 81 = .ok (.ireturn, 1) := by decide +kernel
theorem dX12_counted_82 : decode cX12_counted 82 = .ok (.aload_n 0, 1) := by decide +kernel
theorem dX12_counted_83 : decode cX12_counted 83 = .ok (.getfield 178, 3) := by decide +kernel
theorem dX12_counted_86 : decode cX12_counted 86 = .ok (.ireturn, 1) := by decide +kernel
theorem dX12_count_0 : decode cX12_count 0 = .ok (.iload_n 1, 1) := by decide +kernel
theorem dX12_count_1 : decode cX12_count 1 = .ok (.i2l, 1) := by decide +kernel
theorem dX12_count_2 : decode cX12_count 2 = .ok (.lconst 0, 1) := by decide +kernel
theorem dX12_count_3 : decode cX12_count 3 = .ok (.ldc2_w 235, 3) := by decide +kernel
theorem dX12_count_6 : decode cX12_count 6 = .ok (.invokestatic 50, 3) := by decide +kernel
theorem dX12_count_9 : decode cX12_count 9 = .ok (.ifCond .eq 11, 3) := by decide +kernel
theorem dX12_count_12 : decode cX12_count 12 = .ok (.aload_n 0, 1) := by decide +kernel
theorem dX12_count_13 : decode cX12_count 13 = .ok (.iload_n 1, 1) := by decide +kernel
theorem dX12_count_14 : decode cX12_count 14 = .ok (.invokevirtual 237, 3) := by decide +kernel
theorem dX12_count_17 : decode cX12_count 17 = .ok (.goto 9, 3) := by decide +kernel
theorem dX12_count_20 : decode cX12_count 20 = .ok (.aload_n 0, 1) := by decide +kernel
theorem dX12_count_21 : decode cX12_count 21 = .ok (.bipush (-2), 2) := by decide +kernel
theorem dX12_count_23 : decode cX12_count 23 = .ok (.invokevirtual 58, 3) := by decide +kernel
theorem dX12_count_26 : decode cX12_count 26 = .ok (.ireturn, 1) := by decide +kernel
theorem dX12_sums_0 : decode cX12_sums 0 = .ok (.lload_n 1, 1) := by decide +kernel
theorem dX12_sums_1 : decode cX12_sums 1 = .ok (.lstore 5, 2) := by decide +kernel
theorem dX12_sums_3 : decode cX12_sums 3 = .ok (.iconst 0, 1) := by decide +kernel
theorem dX12_sums_4 : decode cX12_sums 4 = .ok (.istore 7, 2) := by decide +kernel
theorem dX12_sums_6 : decode cX12_sums 6 = .ok (.iload 7, 2) := by decide +kernel
theorem dX12_sums_8 : decode cX12_sums 8 = .ok (.iload 4, 2) := by decide +kernel
theorem dX12_sums_10 : decode cX12_sums 10 = .ok (.if_icmp .ge 28, 3) := by decide +kernel
theorem dX12_sums_13 : decode cX12_sums 13 = .ok (.ldc2_w 240, 3) := by decide +kernel
theorem dX12_sums_16 : decode cX12_sums 16 = .ok (.lload 5, 2) := by decide +kernel
theorem dX12_sums_18 : decode cX12_sums 18 = .ok (.lmul, 1) := by decide +kernel
theorem dX12_sums_19 : decode cX12_sums 19 = .ok (.aload_n 0, 1) := by decide +kernel
theorem dX12_sums_20 : decode cX12_sums 20 = .ok (.getfield 7, 3) := by decide +kernel
theorem dX12_sums_23 : decode cX12_sums 23 = .ok (.iload_n 3, 1) := by decide +kernel
theorem dX12_sums_24 : decode cX12_sums 24 = .ok (.iload 7, 2) := by decide +kernel
theorem dX12_sums_26 : decode cX12_sums 26 = .ok (.iadd, 1) := by decide +kernel
theorem dX12_sums_27 : decode cX12_sums 27 = .ok (.iaload, 1) := by decide +kernel
theorem dX12_sums_28 : decode cX12_sums 28 = .ok (.i2l, 1) := by decide +kernel
theorem dX12_sums_29 : decode cX12_sums 29 = .ok (.ladd, 1) := by decide +kernel
theorem dX12_sums_30 : decode cX12_sums 30 = .ok (.lstore 5, 2) := by decide +kernel
theorem dX12_sums_32 : decode cX12_sums 32 = .ok (.iinc 7 1, 3) := by decide +kernel
theorem dX12_sums_35 : decode cX12_sums 35 = .ok (.goto (-29), 3) := by decide +kernel
theorem dX12_sums_38 : decode cX12_sums 38 = .ok (.lload 5, 2) := by decide +kernel
theorem dX12_sums_40 : decode cX12_sums 40 = .ok (.lreturn, 1) := by decide +kernel
theorem dX12_digest_0 : decode cX12_digest 0 = .ok (.ldc2_w 242, 3) := by decide +kernel
theorem dX12_digest_3 : decode cX12_digest 3 = .ok (.lstore_n 1, 1) := by decide +kernel
theorem dX12_digest_4 : decode cX12_digest 4 = .ok (.iconst 0, 1) := by decide +kernel
theorem dX12_digest_5 : decode cX12_digest 5 = .ok (.istore_n 3, 1) := by decide +kernel
theorem dX12_digest_6 : decode cX12_digest 6 = .ok (.iload_n 3, 1) := by decide +kernel
theorem dX12_digest_7 : decode cX12_digest 7 = .ok (.bipush 7, 2) := by decide +kernel
theorem dX12_digest_9 : decode cX12_digest 9 = .ok (.if_icmp .ge 22, 3) := by decide +kernel
theorem dX12_digest_12 : decode cX12_digest 12 = .ok (.ldc2_w 240, 3) := by decide +kernel
theorem dX12_digest_15 : decode cX12_digest 15 = .ok (.lload_n 1, 1) := by decide +kernel
theorem dX12_digest_16 : decode cX12_digest 16 = .ok (.lmul, 1) := by decide +kernel
theorem dX12_digest_17 : decode cX12_digest 17 = .ok (.aload_n 0, 1) := by decide +kernel
theorem dX12_digest_18 : decode cX12_digest 18 = .ok (.iload_n 3, 1) := by decide +kernel
theorem dX12_digest_19 : decode cX12_digest 19 = .ok (.invokevirtual 237, 3) := by decide +kernel
theorem dX12_digest_22 : decode cX12_digest 22 = .ok (.i2l, 1) := by decide +kernel
theorem dX12_digest_23 : decode cX12_digest 23 = .ok (.ladd, 1) := by decide +kernel
theorem dX12_digest_24 : decode cX12_digest 24 = .ok (.lstore_n 1, 1) := by decide +kernel
theorem dX12_digest_25 : decode cX12_digest 25 = .ok (.iinc 3 1, 3) := by decide +kernel
theorem dX12_digest_28 : decode cX12_digest 28 = .ok (.goto (-22), 3) := by decide +kernel
theorem dX12_digest_31 : decode cX12_digest 31 = .ok (.iconst 0, 1) := by decide +kernel
theorem dX12_digest_32 : decode cX12_digest 32 = .ok (.istore_n 3, 1) := by decide +kernel
theorem dX12_digest_33 : decode cX12_digest 33 = .ok (.iload_n 3, 1) := by decide +kernel
theorem dX12_digest_34 : decode cX12_digest 34 = .ok (.aload_n 0, 1) := by decide +kernel
theorem dX12_digest_35 : decode cX12_digest 35 = .ok (.invokevirtual 46, 3) := by decide +kernel
theorem dX12_digest_38 : decode cX12_digest 38 = .ok (.if_icmp .ge 55, 3) := by decide +kernel
theorem dX12_digest_41 : decode cX12_digest 41 = .ok (.ldc2_w 240, 3) := by decide +kernel
theorem dX12_digest_44 : decode cX12_digest 44 = .ok (.ldc2_w 240, 3) := by decide +kernel
theorem dX12_digest_47 : decode cX12_digest 47 = .ok (.ldc2_w 240, 3) := by decide +kernel
theorem dX12_digest_50 : decode cX12_digest 50 = .ok (.lload_n 1, 1) := by decide +kernel
theorem dX12_digest_51 : decode cX12_digest 51 = .ok (.lmul, 1) := by decide +kernel
theorem dX12_digest_52 : decode cX12_digest 52 = .ok (.aload_n 0, 1) := by decide +kernel
theorem dX12_digest_53 : decode cX12_digest 53 = .ok (.getfield 7, 3) := by decide +kernel
theorem dX12_digest_56 : decode cX12_digest 56 = .ok (.bipush 19, 2) := by decide +kernel
theorem dX12_digest_58 : decode cX12_digest 58 = .ok (.iload_n 3, 1) := by decide +kernel
theorem dX12_digest_59 : decode cX12_digest 59 = .ok (.iadd, 1) := by decide +kernel
theorem dX12_digest_60 : decode cX12_digest 60 = .ok (.iaload, 1) := by decide +kernel
theorem dX12_digest_61 : decode cX12_digest 61 = .ok (.i2l, 1) := by decide +kernel
theorem dX12_digest_62 : decode cX12_digest 62 = .ok (.ladd, 1) := by decide +kernel
theorem dX12_digest_63 : decode cX12_digest 63 = .ok (.lmul, 1) := by decide +kernel
theorem dX12_digest_64 : decode cX12_digest 64 = .ok (.aload_n 0, 1) := by decide +kernel
theorem dX12_digest_65 : decode cX12_digest 65 = .ok (.getfield 7, 3) := by decide +kernel
theorem dX12_digest_68 : decode cX12_digest 68 = .ok (.bipush 12, 2) := by decide +kernel
theorem dX12_digest_70 : decode cX12_digest 70 = .ok (.iload_n 3, 1) := by decide +kernel
theorem dX12_digest_71 : decode cX12_digest 71 = .ok (.iadd, 1) := by decide +kernel
theorem dX12_digest_72 : decode cX12_digest 72 = .ok (.iaload, 1) := by decide +kernel
theorem dX12_digest_73 : decode cX12_digest 73 = .ok (.i2l, 1) := by decide +kernel
theorem dX12_digest_74 : decode cX12_digest 74 = .ok (.ladd, 1) := by decide +kernel
theorem dX12_digest_75 : decode cX12_digest 75 = .ok (.lmul, 1) := by decide +kernel
theorem dX12_digest_76 : decode cX12_digest 76 = .ok (.aload_n 0, 1) := by decide +kernel
theorem dX12_digest_77 : decode cX12_digest 77 = .ok (.getfield 7, 3) := by decide +kernel
theorem dX12_digest_80 : decode cX12_digest 80 = .ok (.iconst 5, 1) := by decide +kernel
theorem dX12_digest_81 : decode cX12_digest 81 = .ok (.iload_n 3, 1) := by decide +kernel
theorem dX12_digest_82 : decode cX12_digest 82 = .ok (.iadd, 1) := by decide +kernel
theorem dX12_digest_83 : decode cX12_digest 83 = .ok (.iaload, 1) := by decide +kernel
theorem dX12_digest_84 : decode cX12_digest 84 = .ok (.i2l, 1) := by decide +kernel
theorem dX12_digest_85 : decode cX12_digest 85 = .ok (.ladd, 1) := by decide +kernel
theorem dX12_digest_86 : decode cX12_digest 86 = .ok (.lstore_n 1, 1) := by decide +kernel
theorem dX12_digest_87 : decode cX12_digest 87 = .ok (.iinc 3 1, 3) := by decide +kernel
theorem dX12_digest_90 : decode cX12_digest 90 = .ok (.goto (-57), 3) := by decide +kernel
theorem dX12_digest_93 : decode cX12_digest 93 = .ok (.aload_n 0, 1) := by decide +kernel
theorem dX12_digest_94 : decode cX12_digest 94 = .ok (.lload_n 1, 1) := by decide +kernel
theorem dX12_digest_95 : decode cX12_digest 95 = .ok (.bipush 26, 2) := by decide +kernel
theorem dX12_digest_97 : decode cX12_digest 97 = .ok (.iconst 2, 1) := by decide +kernel
theorem dX12_digest_98 : decode cX12_digest 98 = .ok (.aload_n 0, 1) := by decide +kernel
theorem dX12_digest_99 : decode cX12_digest 99 = .ok (.getfield 7, 3) := by decide +kernel
theorem dX12_digest_102 : decode cX12_digest 102 = .ok (.iconst 2, 1) := by decide +kernel
theorem dX12_digest_103 : decode cX12_digest 103 = .ok (.iaload, 1) := by decide +kernel
theorem dX12_digest_104 : decode cX12_digest 104 = .ok (.imul, 1) := by decide +kernel
theorem dX12_digest_105 : decode cX12_digest 105 = .ok (.invokevirtual 244, 3) := by decide +kernel
theorem dX12_digest_108 : decode cX12_digest 108 = .ok (.lstore_n 1, 1) := by decide +kernel
theorem dX12_digest_109 : decode cX12_digest 109 = .ok (.aload_n 0, 1) := by decide +kernel
theorem dX12_digest_110 : decode cX12_digest 110 = .ok (.lload_n 1, 1) := by decide +kernel
theorem dX12_digest_111 : decode cX12_digest 111 = .ok (.bipush 38, 2) := by decide +kernel
theorem dX12_digest_113 : decode cX12_digest 113 = .ok (.iconst 5, 1) := by decide +kernel
theorem dX12_digest_114 : decode cX12_digest 114 = .ok (.aload_n 0, 1) := by decide +kernel
theorem dX12_digest_115 : decode cX12_digest 115 = .ok (.getfield 7, 3) := by decide +kernel
theorem dX12_digest_118 : decode cX12_digest 118 = .ok (.iconst 3, 1) := by decide +kernel
theorem dX12_digest_119 : decode cX12_digest 119 = .ok (.iaload, 1) := by decide +kernel
theorem dX12_digest_120 : decode cX12_digest 120 = .ok (.imul, 1) := by decide +kernel
theorem dX12_digest_121 : decode cX12_digest 121 = .ok (.invokevirtual 244, 3) := by decide +kernel
theorem dX12_digest_124 : decode cX12_digest 124 = .ok (.lstore_n 1, 1) := by decide +kernel
theorem dX12_digest_125 : decode cX12_digest 125 = .ok (.ldc2_w 240, 3) := by decide +kernel
theorem dX12_digest_128 : decode cX12_digest 128 = .ok (.ldc2_w 240, 3) := by decide +kernel
theorem dX12_digest_131 : decode cX12_digest 131 = .ok (.lload_n 1, 1) := by decide +kernel
theorem dX12_digest_132 : decode cX12_digest 132 = .ok (.lmul, 1) := by decide +kernel
theorem dX12_digest_133 : decode cX12_digest 133 = .ok (.aload_n 0, 1) := by decide +kernel
theorem dX12_digest_134 : decode cX12_digest 134 = .ok (.getfield 144, 3) := by decide +kernel
theorem dX12_digest_137 : decode cX12_digest 137 = .ok (.ladd, 1) := by decide +kernel
theorem dX12_digest_138 : decode cX12_digest 138 = .ok (.lmul, 1) := by decide +kernel
theorem dX12_digest_139 : decode cX12_digest 139 = .ok (.aload_n 0, 1) := by decide +kernel
theorem dX12_digest_140 : decode cX12_digest 140 = .ok (.getfield 23, 3) := by decide +kernel
theorem dX12_digest_143 : decode cX12_digest 143 = .ok (.ladd, 1) := by decide +kernel
theorem dX12_digest_144 : decode cX12_digest 144 = .ok (.lreturn, 1) := by decide +kernel
