theorem dX0_init_0 : decode cX0_init 0 = .ok (.aload_n 0, 1) := by decide +kernel
theorem dX0_init_1 : decode cX0_init 1 = .ok (.invokespecial 3, 3) := by decide +kernel
theorem dX0_init_4 : decode cX0_init 4 = .ok (.aload_n 0, 1) := by decide +kernel
theorem dX0_init_5 : decode cX0_init 5 = .ok (.bipush 20, 2) := by decide +kernel
theorem dX0_init_7 : decode cX0_init 7 = .ok (.putfield 9, 3) := by decide +kernel
theorem dX0_init_10 : decode cX0_init 10 = .ok (.aload_n 0, 1) := by decide +kernel
theorem dX0_init_11 : decode cX0_init 11 = .ok (.bipush 6, 2) := by decide +kernel
theorem dX0_init_13 : decode cX0_init 13 = .ok (.newarray .int, 2) := by decide +kernel
theorem dX0_init_15 : decode cX0_init 15 = .ok (.putfield 15, 3) := by decide +kernel
theorem dX0_init_18 : decode cX0_init 18 = .ok (.aload_n 0, 1) := by decide +kernel
theorem dX0_init_19 : decode cX0_init 19 = .ok (.bipush 6, 2) := by decide +kernel
theorem dX0_init_21 : decode cX0_init 21 = .ok (.newarray .int, 2) := by decide +kernel
theorem dX0_init_23 : decode cX0_init 23 = .ok (.putfield 19, 3) := by decide +kernel
theorem dX0_init_26 : decode cX0_init 26 = .ok (.aload_n 0, 1) := by decide +kernel
theorem dX0_init_27 : decode cX0_init 27 = .ok (.bipush 6, 2) := by decide +kernel
theorem dX0_init_29 : decode cX0_init 29 = .ok (.newarray .int, 2) := by decide +kernel
theorem dX0_init_31 : decode cX0_init 31 = .ok (.putfield 22, 3) := by decide +kernel
theorem dX0_init_34 : decode cX0_init 34 = .ok (.aload_n 0, 1) := by decide +kernel
theorem dX0_init_35 : decode cX0_init 35 = .ok (.bipush 6, 2) := by decide +kernel
theorem dX0_init_37 : decode cX0_init 37 = .ok (.newarray .int, 2) := by decide +kernel
theorem dX0_init_39 : decode cX0_init 39 = .ok (.putfield 25, 3) := by decide +kernel
theorem dX0_init_42 : decode cX0_init 42 = .ok (.aload_n 0, 1) := by decide +kernel
theorem dX0_init_43 : decode cX0_init 43 = .ok (.bipush 6, 2) := by decide +kernel
theorem dX0_init_45 : decode cX0_init 45 = .ok (.newarray .int, 2) := by decide +kernel
theorem dX0_init_47 : decode cX0_init 47 = .ok (.putfield 28, 3) := by decide +kernel
theorem dX0_init_50 : decode cX0_init 50 = .ok (.aload_n 0, 1) := by decide +kernel
theorem dX0_init_51 : decode cX0_init 51 = .ok (.bipush 6, 2) := by decide +kernel
theorem dX0_init_53 : decode cX0_init 53 = .ok (.newarray .int, 2) := by decide +kernel
theorem dX0_init_55 : decode cX0_init 55 = .ok (.putfield 31, 3) := by decide +kernel
theorem dX0_init_58 : decode cX0_init 58 = .ok (.aload_n 0, 1) := by decide +kernel
theorem dX0_init_59 : decode cX0_init 59 = .ok (.bipush 6, 2) := by decide +kernel
theorem dX0_init_61 : decode cX0_init 61 = .ok (.newarray .int, 2) := by decide +kernel
theorem dX0_init_63 : decode cX0_init 63 = .ok (.putfield 34, 3) := by decide +kernel
theorem dX0_init_66 : decode cX0_init 66 = .ok (.aload_n 0, 1) := by decide +kernel
theorem dX0_init_67 : decode cX0_init 67 = .ok (.bipush 8, 2) := by decide +kernel
theorem dX0_init_69 : decode cX0_init 69 = .ok (.newarray .int, 2) := by decide +kernel
theorem dX0_init_71 : decode cX0_init 71 = .ok (.putfield 37, 3) := by decide +kernel
theorem dX0_init_74 : decode cX0_init 74 = .ok (.aload_n 0, 1) := by decide +kernel
theorem dX0_init_75 : decode cX0_init 75 = .ok (.iconst 4, 1) := by decide +kernel
theorem dX0_init_76 : decode cX0_init 76 = .ok (.newarray .int, 2) := by decide +kernel
theorem dX0_init_78 : decode cX0_init 78 = .ok (.putfield 40, 3) := by decide +kernel
theorem dX0_init_81 : decode cX0_init 81 = .ok (.iconst 0, 1) := by decide +kernel
theorem dX0_init_82 : decode cX0_init 82 = .ok (.istore_n 1, 1) := by decide +kernel
theorem dX0_init_83 : decode cX0_init 83 = .ok (.iload_n 1, 1) := by decide +kernel
theorem dX0_init_84 : decode cX0_init 84 = .ok (.iconst 4, 1) := by decide +kernel
theorem dX0_init_85 : decode cX0_init 85 = .ok (.if_icmp .ge 16, 3) := by decide +kernel
theorem dX0_init_88 : decode cX0_init 88 = .ok (.aload_n 0, 1) := by decide +kernel
theorem dX0_init_89 : decode cX0_init 89 = .ok (.getfield 40, 3) := by decide +kernel
theorem dX0_init_92 : decode cX0_init 92 = .ok (.iload_n 1, 1) := by decide +kernel
theorem dX0_init_93 : decode cX0_init 93 = .ok (.iconst (-1), 1) := by decide +kernel
theorem dX0_init_94 : decode cX0_init 94 = .ok (.iastore, 1) := by decide +kernel
theorem dX0_init_95 : decode cX0_init 95 = .ok (.iinc 1 1, 3) := by decide +kernel
theorem dX0_init_98 : decode cX0_init 98 = .ok (.goto (-15), 3) := by decide +kernel
theorem dX0_init_101 : decode cX0_init 101 = .ok (.return_, 1) := by decide +kernel
theorem dX0_copyFrom_0 : decode cX0_copyFrom 0 = .ok (.aload_n 0, 1) := by decide +kernel
theorem dX0_copyFrom_1 : decode cX0_copyFrom 1 = .ok (.aload_n 1, 1) := by decide +kernel
theorem dX0_copyFrom_2 : decode cX0_copyFrom 2 = .ok (.getfield 43, 3) := by decide +kernel
theorem dX0_copyFrom_5 : decode cX0_copyFrom 5 = .ok (.putfield 43, 3) := by decide +kernel
theorem dX0_copyFrom_8 : decode cX0_copyFrom 8 = .ok (.aload_n 0, 1) := by decide +kernel
theorem dX0_copyFrom_9 : decode cX0_copyFrom 9 = .ok (.aload_n 1, 1) := by decide +kernel
theorem dX0_copyFrom_10 : decode cX0_copyFrom 10 = .ok (.getfield 46, 3) := by decide +kernel
theorem dX0_copyFrom_13 : decode cX0_copyFrom 13 = .ok (.putfield 46, 3) := by decide +kernel
theorem dX0_copyFrom_16 : decode cX0_copyFrom 16 = .ok (.aload_n 0, 1) := by decide +kernel
theorem dX0_copyFrom_17 : decode cX0_copyFrom 17 = .ok (.aload_n 1, 1) := by decide +kernel
theorem dX0_copyFrom_18 : decode cX0_copyFrom 18 = .ok (.getfield 9, 3) := by decide +kernel
theorem dX0_copyFrom_21 : decode cX0_copyFrom 21 = .ok (.putfield 9, 3) := by decide +kernel
theorem dX0_copyFrom_24 : decode cX0_copyFrom 24 = .ok (.aload_n 0, 1) := by decide +kernel
theorem dX0_copyFrom_25 : decode cX0_copyFrom 25 = .ok (.aload_n 1, 1) := by decide +kernel
theorem dX0_copyFrom_26 : decode cX0_copyFrom 26 = .ok (.getfield 49, 3) := by decide +kernel
theorem dX0_copyFrom_29 : decode cX0_copyFrom 29 = .ok (.putfield 49, 3) := by decide +kernel
theorem dX0_copyFrom_32 : decode cX0_copyFrom 32 = .ok (.aload_n 0, 1) := by decide +kernel
theorem dX0_copyFrom_33 : decode cX0_copyFrom 33 = .ok (.aload_n 1, 1) := by decide +kernel
theorem dX0_copyFrom_34 : decode cX0_copyFrom 34 = .ok (.getfield 52, 3) := by decide +kernel
theorem dX0_copyFrom_37 : decode cX0_copyFrom 37 = .ok (.putfield 52, 3) := by decide +kernel
theorem dX0_copyFrom_40 : decode cX0_copyFrom 40 = .ok (.aload_n 1, 1) := by decide +kernel
theorem dX0_copyFrom_41 : decode cX0_copyFrom 41 = .ok (.getfield 15, 3) := by decide +kernel
theorem dX0_copyFrom_44 : decode cX0_copyFrom 44 = .ok (.iconst 0, 1) := by decide +kernel
theorem dX0_copyFrom_45 : decode cX0_copyFrom 45 = .ok (.aload_n 0, 1) := by decide +kernel
theorem dX0_copyFrom_46 : decode cX0_copyFrom 46 = .ok (.getfield 15, 3) := by decide +kernel
theorem dX0_copyFrom_49 : decode cX0_copyFrom 49 = .ok (.iconst 0, 1) := by decide +kernel
theorem dX0_copyFrom_50 : decode cX0_copyFrom 50 = .ok (.bipush 6, 2) := by decide +kernel
theorem dX0_copyFrom_52 : decode cX0_copyFrom 52 = .ok (.invokestatic 55, 3) := by decide +kernel
theorem dX0_copyFrom_55 : decode cX0_copyFrom 55 = .ok (.aload_n 1, 1) := by decide +kernel
theorem dX0_copyFrom_56 : decode cX0_copyFrom 56 = .ok (.getfield 19, 3) := by decide +kernel
theorem dX0_copyFrom_59 : decode cX0_copyFrom 59 = .ok (.iconst 0, 1) := by decide +kernel
theorem dX0_copyFrom_60 : decode cX0_copyFrom 60 = .ok (.aload_n 0, 1) := by decide +kernel
theorem dX0_copyFrom_61 : decode cX0_copyFrom 61 = .ok (.getfield 19, 3) := by decide +kernel
theorem dX0_copyFrom_64 : decode cX0_copyFrom 64 = .ok (.iconst 0, 1) := by decide +kernel
theorem dX0_copyFrom_65 : decode cX0_copyFrom 65 = .ok (.bipush 6, 2) := by decide +kernel
theorem dX0_copyFrom_67 : decode cX0_copyFrom 67 = .ok (.invokestatic 55, 3) := by decide +kernel
theorem dX0_copyFrom_70 : decode cX0_copyFrom 70 = .ok (.aload_n 0, 1) := by decide +kernel
theorem dX0_copyFrom_71 : decode cX0_copyFrom 71 = .ok (.aload_n 1, 1) := by decide +kernel
theorem dX0_copyFrom_72 : decode cX0_copyFrom 72 = .ok (.getfield 61, 3) := by decide +kernel
theorem dX0_copyFrom_75 : decode cX0_copyFrom 75 = .ok (.putfield 61, 3) := by decide +kernel
theorem dX0_copyFrom_78 : decode cX0_copyFrom 78 = .ok (.aload_n 1, 1) := by decide +kernel
theorem dX0_copyFrom_79 : decode cX0_copyFrom 79 = .ok (.getfield 22, 3) := by decide +kernel
theorem dX0_copyFrom_82 : decode cX0_copyFrom 82 = .ok (.iconst 0, 1) := by decide +kernel
theorem dX0_copyFrom_83 : decode cX0_copyFrom 83 = .ok (.aload_n 0, 1) := by decide +kernel
theorem dX0_copyFrom_84 : decode cX0_copyFrom 84 = .ok (.getfield 22, 3) := by decide +kernel
theorem dX0_copyFrom_87 : decode cX0_copyFrom 87 = .ok (.iconst 0, 1) := by decide +kernel
theorem dX0_copyFrom_88 : decode cX0_copyFrom 88 = .ok (.bipush 6, 2) := by decide +kernel
theorem dX0_copyFrom_90 : decode cX0_copyFrom 90 = .ok (.invokestatic 55, 3) := by decide +kernel
theorem dX0_copyFrom_93 : decode cX0_copyFrom 93 = .ok (.aload_n 1, 1) := by decide +kernel
theorem dX0_copyFrom_94 : decode cX0_copyFrom 94 = .ok (.getfield 25, 3) := by decide +kernel
theorem dX0_copyFrom_97 : decode cX0_copyFrom 97 = .ok (.iconst 0, 1) := by decide +kernel
theorem dX0_copyFrom_98 : decode cX0_copyFrom 98 = .ok (.aload_n 0, 1) := by decide +kernel
theorem dX0_copyFrom_99 : decode cX0_copyFrom 99 = .ok (.getfield 25, 3) := by decide +kernel
theorem dX0_copyFrom_102 : decode cX0_copyFrom 102 = .ok (.iconst 0, 1) := by decide +kernel
theorem dX0_copyFrom_103 : decode cX0_copyFrom 103 = .ok (.bipush 6, 2) := by decide +kernel
theorem dX0_copyFrom_105 : decode cX0_copyFrom 105 = .ok (.invokestatic 55, 3) := by decide +kernel
theorem dX0_copyFrom_108 : decode cX0_copyFrom 108 = .ok (.aload_n 1, 1) := by decide +kernel
theorem dX0_copyFrom_109 : decode cX0_copyFrom 109 = .ok (.getfield 28, 3) := by decide +kernel
theorem dX0_copyFrom_112 : decode cX0_copyFrom 112 = .ok (.iconst 0, 1) := by decide +kernel
theorem dX0_copyFrom_113 : decode cX0_copyFrom 113 = .ok (.aload_n 0, 1) := by decide +kernel
theorem dX0_copyFrom_114 : decode cX0_copyFrom 114 = .ok (.getfield 28, 3) := by decide +kernel
theorem dX0_copyFrom_117 : decode cX0_copyFrom 117 = .ok (.iconst 0, 1) := by decide +kernel
theorem dX0_copyFrom_118 : decode cX0_copyFrom 118 = .ok (.bipush 6, 2) := by decide +kernel
theorem dX0_copyFrom_120 : decode cX0_copyFrom 120 = .ok (.invokestatic 55, 3) := by decide +kernel
theorem dX0_copyFrom_123 : decode cX0_copyFrom 123 = .ok (.aload_n 1, 1) := by decide +kernel
theorem dX0_copyFrom_124 : decode cX0_copyFrom 124 = .ok (.getfield 31, 3) := by decide +kernel
theorem dX0_copyFrom_127 : decode cX0_copyFrom 127 = .ok (.iconst 0, 1) := by decide +kernel
theorem dX0_copyFrom_128 : decode cX0_copyFrom 128 = .ok (.aload_n 0, 1) := by decide +kernel
theorem dX0_copyFrom_129 : decode cX0_copyFrom 129 = .ok (.getfield 31, 3) := by decide +kernel
theorem dX0_copyFrom_132 : decode cX0_copyFrom 132 = .ok (.iconst 0, 1) := by decide +kernel
theorem dX0_copyFrom_133 : decode cX0_copyFrom 133 = .ok (.bipush 6, 2) := by decide +kernel
theorem dX0_copyFrom_135 : decode cX0_copyFrom 135 = .ok (.invokestatic 55, 3) := by decide +kernel
theorem dX0_copyFrom_138 : decode cX0_copyFrom 138 = .ok (.aload_n 1, 1) := by decide +kernel
theorem dX0_copyFrom_139 : decode cX0_copyFrom 139 = .ok (.getfield 34, 3) := by decide +kernel
theorem dX0_copyFrom_142 : decode cX0_copyFrom 142 = .ok (.iconst 0, 1) := by decide +kernel
theorem dX0_copyFrom_143 : decode cX0_copyFrom 143 = .ok (.aload_n 0, 1) := by decide +kernel
theorem dX0_copyFrom_144 : decode cX0_copyFrom 144 = .ok (.getfield 34, 3) := by decide +kernel
theorem dX0_copyFrom_147 : decode cX0_copyFrom 147 = .ok (.iconst 0, 1) := by decide +kernel
theorem dX0_copyFrom_148 : decode cX0_copyFrom 148 = .ok (.bipush 6, 2) := by decide +kernel
theorem dX0_copyFrom_150 : decode cX0_copyFrom 150 = .ok (.invokestatic 55, 3) := by decide +kernel
theorem dX0_copyFrom_153 : decode cX0_copyFrom 153 = .ok (.aload_n 1, 1) := by decide +kernel
theorem dX0_copyFrom_154 : decode cX0_copyFrom 154 = .ok (.getfield 37, 3) := by decide +kernel
theorem dX0_copyFrom_157 : decode cX0_copyFrom 157 = .ok (.iconst 0, 1) := by decide +kernel
theorem dX0_copyFrom_158 : decode cX0_copyFrom 158 = .ok (.aload_n 0, 1) := by decide +kernel
theorem dX0_copyFrom_159 : decode cX0_copyFrom 159 = .ok (.getfield 37, 3) := by decide +kernel
theorem dX0_copyFrom_162 : decode cX0_copyFrom 162 = .ok (.iconst 0, 1) := by decide +kernel
theorem dX0_copyFrom_163 : decode cX0_copyFrom 163 = .ok (.bipush 8, 2) := by decide +kernel
theorem dX0_copyFrom_165 : decode cX0_copyFrom 165 = .ok (.invokestatic 55, 3) := by decide +kernel
theorem dX0_copyFrom_168 : decode cX0_copyFrom 168 = .ok (.aload_n 1, 1) := by decide +kernel
theorem dX0_copyFrom_169 : decode cX0_copyFrom 169 = .ok (.getfield 40, 3) := by decide +kernel
theorem dX0_copyFrom_172 : decode cX0_copyFrom 172 = .ok (.iconst 0, 1) := by decide +kernel
theorem dX0_copyFrom_173 : decode cX0_copyFrom 173 = .ok (.aload_n 0, 1) := by decide +kernel
theorem dX0_copyFrom_174 : decode cX0_copyFrom 174 = .ok (.getfield 40, 3) := by decide +kernel
theorem dX0_copyFrom_177 : decode cX0_copyFrom 177 = .ok (.iconst 0, 1) := by decide +kernel
theorem dX0_copyFrom_178 : decode cX0_copyFrom 178 = .ok (.iconst 4, 1) := by decide +kernel
theorem dX0_copyFrom_179 : decode cX0_copyFrom 179 = .ok (.invokestatic 55, 3) := by decide +kernel
theorem dX0_copyFrom_182 : decode cX0_copyFrom 182 = .ok (.aload_n 0, 1) := by decide +kernel
theorem dX0_copyFrom_183 : decode cX0_copyFrom 183 = .ok (.aload_n 1, 1) := by decide +kernel
theorem dX0_copyFrom_184 : decode cX0_copyFrom 184 = .ok (.getfield 64, 3) := by decide +kernel
theorem dX0_copyFrom_187 : decode cX0_copyFrom 187 = .ok (.putfield 64, 3) := by decide +kernel
theorem dX0_copyFrom_190 : decode cX0_copyFrom 190 = .ok (.aload_n 0, 1) := by decide +kernel
theorem dX0_copyFrom_191 : decode cX0_copyFrom 191 = .ok (.aload_n 1, 1) := by decide +kernel
theorem dX0_copyFrom_192 : decode cX0_copyFrom 192 = .ok (.getfield 67, 3) := by decide +kernel
theorem dX0_copyFrom_195 : decode cX0_copyFrom 195 = .ok (.putfield 67, 3) := by decide +kernel
theorem dX0_copyFrom_198 : decode cX0_copyFrom 198 = .ok (.aload_n 0, 1) := by decide +kernel
theorem dX0_copyFrom_199 : decode cX0_copyFrom 199 = .ok (.aload_n 1, 1) := by decide +kernel
theorem dX0_copyFrom_200 : decode cX0_copyFrom 200 = .ok (.getfield 70, 3) := by decide +kernel
theorem dX0_copyFrom_203 : decode cX0_copyFrom 203 = .ok (.putfield 70, 3) := by decide +kernel
theorem dX0_copyFrom_206 : decode cX0_copyFrom 206 = .ok (.aload_n 0, 1) := by decide +kernel
theorem dX0_copyFrom_207 : decode cX0_copyFrom 207 = .ok (.aload_n 1, 1) := by decide +kernel
theorem dX0_copyFrom_208 : decode cX0_copyFrom 208 = .ok (.getfield 73, 3) := by decide +kernel
theorem dX0_copyFrom_211 : decode cX0_copyFrom 211 = .ok (.putfield 73, 3) := by decide +kernel
theorem dX0_copyFrom_214 : decode cX0_copyFrom 214 = .ok (.return_, 1) := by decide +kernel
theorem dX0_carryOut_0 : decode cX0_carryOut 0 = .ok (.iload_n 1, 1) := by decide +kernel
theorem dX0_carryOut_1 : decode cX0_carryOut 1 = .ok (.lookupswitch 183 #[(66, 114), (74, 107), (98, 136), (101, 129), (102, 120), (103, 165), (110, 177), (111, 160), (115, 154), (116, 142), (119, 148), (120, 171)], 107) := by decide +kernel
theorem dX0_carryOut_108 : decode cX0_carryOut 108 = .ok (.aload_n 0, 1) := by decide +kernel
theorem dX0_carryOut_109 : decode cX0_carryOut 109 = .ok (.iload_n 2, 1) := by decide +kernel
theorem dX0_carryOut_110 : decode cX0_carryOut 110 = .ok (.iload_n 3, 1) := by decide +kernel
theorem dX0_carryOut_111 : decode cX0_carryOut 111 = .ok (.invokevirtual 76, 3) := by decide +kernel
theorem dX0_carryOut_114 : decode cX0_carryOut 114 = .ok (.ireturn, 1) := by decide +kernel
theorem dX0_carryOut_115 : decode cX0_carryOut 115 = .ok (.aload_n 0, 1) := by decide +kernel
theorem dX0_carryOut_116 : decode cX0_carryOut 116 = .ok (.iload_n 2, 1) := by decide +kernel
theorem dX0_carryOut_117 : decode cX0_carryOut 117 = .ok (.invokevirtual 80, 3) := by decide +kernel
theorem dX0_carryOut_120 : decode cX0_carryOut 120 = .ok (.ireturn, 1) := by decide +kernel
theorem dX0_carryOut_121 : decode cX0_carryOut 121 = .ok (.aload_n 0, 1) := by decide +kernel
theorem dX0_carryOut_122 : decode cX0_carryOut 122 = .ok (.iload_n 2, 1) := by decide +kernel
theorem dX0_carryOut_123 : decode cX0_carryOut 123 = .ok (.iload_n 3, 1) := by decide +kernel
theorem dX0_carryOut_124 : decode cX0_carryOut 124 = .ok (.iload 4, 2) := by decide +kernel
theorem dX0_carryOut_126 : decode cX0_carryOut 126 = .ok (.invokevirtual 84, 3) := by decide +kernel
theorem dX0_carryOut_129 : decode cX0_carryOut 129 = .ok (.ireturn, 1) := by decide +kernel
theorem dX0_carryOut_130 : decode cX0_carryOut 130 = .ok (.aload_n 0, 1) := by decide +kernel
theorem dX0_carryOut_131 : decode cX0_carryOut 131 = .ok (.iload_n 2, 1) := by decide +kernel
theorem dX0_carryOut_132 : decode cX0_carryOut 132 = .ok (.iload_n 3, 1) := by decide +kernel
theorem dX0_carryOut_133 : decode cX0_carryOut 133 = .ok (.invokevirtual 88, 3) := by decide +kernel
theorem dX0_carryOut_136 : decode cX0_carryOut 136 = .ok (.ireturn, 1) := by decide +kernel
theorem dX0_carryOut_137 : decode cX0_carryOut 137 = .ok (.aload_n 0, 1) := by decide +kernel
theorem dX0_carryOut_138 : decode cX0_carryOut 138 = .ok (.iload_n 2, 1) := by decide +kernel
theorem dX0_carryOut_139 : decode cX0_carryOut 139 = .ok (.invokevirtual 91, 3) := by decide +kernel
theorem dX0_carryOut_142 : decode cX0_carryOut 142 = .ok (.ireturn, 1) := by decide +kernel
theorem dX0_carryOut_143 : decode cX0_carryOut 143 = .ok (.aload_n 0, 1) := by decide +kernel
theorem dX0_carryOut_144 : decode cX0_carryOut 144 = .ok (.iload_n 2, 1) := by decide +kernel
theorem dX0_carryOut_145 : decode cX0_carryOut 145 = .ok (.invokevirtual 94, 3) := by decide +kernel
theorem dX0_carryOut_148 : decode cX0_carryOut 148 = .ok (.ireturn, 1) := by decide +kernel
theorem dX0_carryOut_149 : decode cX0_carryOut 149 = .ok (.aload_n 0, 1) := by decide +kernel
theorem dX0_carryOut_150 : decode cX0_carryOut 150 = .ok (.iload_n 2, 1) := by decide +kernel
theorem dX0_carryOut_151 : decode cX0_carryOut 151 = .ok (.invokevirtual 97, 3) := by decide +kernel
theorem dX0_carryOut_154 : decode cX0_carryOut 154 = .ok (.ireturn, 1) := by decide +kernel
theorem dX0_carryOut_155 : decode cX0_carryOut 155 = .ok (.aload_n 0, 1) := by decide +kernel
theorem dX0_carryOut_156 : decode cX0_carryOut 156 = .ok (.iload_n 2, 1) := by decide +kernel
theorem dX0_carryOut_157 : decode cX0_carryOut 157 = .ok (.invokevirtual 100, 3) := by decide +kernel
theorem dX0_carryOut_160 : decode cX0_carryOut 160 = .ok (.ireturn, 1) := by decide +kernel
theorem dX0_carryOut_161 : decode cX0_carryOut 161 = .ok (.aload_n 0, 1) := by decide +kernel
theorem dX0_carryOut_162 : decode cX0_carryOut 162 = .ok (.invokevirtual 103, 3) := by decide +kernel
theorem dX0_carryOut_165 : decode cX0_carryOut 165 = .ok (.ireturn, 1) := by decide +kernel
theorem dX0_carryOut_166 : decode cX0_carryOut 166 = .ok (.aload_n 0, 1) := by decide +kernel
theorem dX0_carryOut_167 : decode cX0_carryOut 167 = .ok (.iload_n 2, 1) := by decide +kernel
theorem dX0_carryOut_168 : decode cX0_carryOut 168 = .ok (.invokevirtual 107, 3) := by decide +kernel
theorem dX0_carryOut_171 : decode cX0_carryOut 171 = .ok (.ireturn, 1) := by decide +kernel
theorem dX0_carryOut_172 : decode cX0_carryOut 172 = .ok (.aload_n 0, 1) := by decide +kernel
theorem dX0_carryOut_173 : decode cX0_carryOut 173 = .ok (.iload_n 2, 1) := by decide +kernel
theorem dX0_carryOut_174 : decode cX0_carryOut 174 = .ok (.invokevirtual 110, 3) := by decide +kernel
theorem dX0_carryOut_177 : decode cX0_carryOut 177 = .ok (.ireturn, 1) := by decide +kernel
theorem dX0_carryOut_178 : decode cX0_carryOut 178 = .ok (.aload_n 0, 1) := by decide +kernel
theorem dX0_carryOut_179 : decode cX0_carryOut 179 = .ok (.iload_n 2, 1) := by decide +kernel
theorem dX0_carryOut_180 : decode cX0_carryOut 180 = .ok (.invokevirtual 113, 3) := by decide +kernel
theorem dX0_carryOut_183 : decode cX0_carryOut 183 = .ok (.ireturn, 1) := by decide +kernel
theorem dX0_carryOut_184 : decode cX0_carryOut 184 = .ok (.iconst 0, 1) := by decide +kernel
theorem dX0_carryOut_185 : decode cX0_carryOut 185 = .ok (.ireturn, 1) := by decide +kernel
theorem dX0_addJar_0 : decode cX0_addJar 0 = .ok (.aload_n 0, 1) := by decide +kernel
theorem dX0_addJar_1 : decode cX0_addJar 1 = .ok (.getfield 15, 3) := by decide +kernel
theorem dX0_addJar_4 : decode cX0_addJar 4 = .ok (.aload_n 0, 1) := by decide +kernel
theorem dX0_addJar_5 : decode cX0_addJar 5 = .ok (.getfield 52, 3) := by decide +kernel
theorem dX0_addJar_8 : decode cX0_addJar 8 = .ok (.iload_n 1, 1) := by decide +kernel
theorem dX0_addJar_9 : decode cX0_addJar 9 = .ok (.iastore, 1) := by decide +kernel
theorem dX0_addJar_10 : decode cX0_addJar 10 = .ok (.aload_n 0, 1) := by decide +kernel
theorem dX0_addJar_11 : decode cX0_addJar 11 = .ok (.getfield 19, 3) := by decide +kernel
theorem dX0_addJar_14 : decode cX0_addJar 14 = .ok (.aload_n 0, 1) := by decide +kernel
theorem dX0_addJar_15 : decode cX0_addJar 15 = .ok (.getfield 52, 3) := by decide +kernel
theorem dX0_addJar_18 : decode cX0_addJar 18 = .ok (.iload_n 2, 1) := by decide +kernel
theorem dX0_addJar_19 : decode cX0_addJar 19 = .ok (.iastore, 1) := by decide +kernel
theorem dX0_addJar_20 : decode cX0_addJar 20 = .ok (.aload_n 0, 1) := by decide +kernel
theorem dX0_addJar_21 : decode cX0_addJar 21 = .ok (.dup, 1) := by decide +kernel
theorem dX0_addJar_22 : decode cX0_addJar 22 = .ok (.getfield 52, 3) := by decide +kernel
theorem dX0_addJar_25 : decode cX0_addJar 25 = .ok (.iconst 1, 1) := by decide +kernel
theorem dX0_addJar_26 : decode cX0_addJar 26 = .ok (.iadd, 1) := by decide +kernel
theorem dX0_addJar_27 : decode cX0_addJar 27 = .ok (.putfield 52, 3) := by decide +kernel
theorem dX0_addJar_30 : decode cX0_addJar 30 = .ok (.aload_n 0, 1) := by decide +kernel
theorem dX0_addJar_31 : decode cX0_addJar 31 = .ok (.getfield 52, 3) := by decide +kernel
theorem dX0_addJar_34 : decode cX0_addJar 34 = .ok (.iconst 1, 1) := by decide +kernel
theorem dX0_addJar_35 : decode cX0_addJar 35 = .ok (.isub, 1) := by decide +kernel
theorem dX0_addJar_36 : decode cX0_addJar 36 = .ok (.ireturn, 1) := by decide +kernel
theorem dX0_addBag_0 : decode cX0_addBag 0 = .ok (.aload_n 0, 1) := by decide +kernel
theorem dX0_addBag_1 : decode cX0_addBag 1 = .ok (.getfield 22, 3) := by decide +kernel
theorem dX0_addBag_4 : decode cX0_addBag 4 = .ok (.aload_n 0, 1) := by decide +kernel
theorem dX0_addBag_5 : decode cX0_addBag 5 = .ok (.getfield 61, 3) := by decide +kernel
theorem dX0_addBag_8 : decode cX0_addBag 8 = .ok (.iload_n 1, 1) := by decide +kernel
theorem dX0_addBag_9 : decode cX0_addBag 9 = .ok (.iastore, 1) := by decide +kernel
theorem dX0_addBag_10 : decode cX0_addBag 10 = .ok (.aload_n 0, 1) := by decide +kernel
theorem dX0_addBag_11 : decode cX0_addBag 11 = .ok (.getfield 25, 3) := by decide +kernel
theorem dX0_addBag_14 : decode cX0_addBag 14 = .ok (.aload_n 0, 1) := by decide +kernel
theorem dX0_addBag_15 : decode cX0_addBag 15 = .ok (.getfield 61, 3) := by decide +kernel
theorem dX0_addBag_18 : decode cX0_addBag 18 = .ok (.iconst 0, 1) := by decide +kernel
theorem dX0_addBag_19 : decode cX0_addBag 19 = .ok (.iastore, 1) := by decide +kernel
theorem dX0_addBag_20 : decode cX0_addBag 20 = .ok (.aload_n 0, 1) := by decide +kernel
theorem dX0_addBag_21 : decode cX0_addBag 21 = .ok (.getfield 28, 3) := by decide +kernel
theorem dX0_addBag_24 : decode cX0_addBag 24 = .ok (.aload_n 0, 1) := by decide +kernel
theorem dX0_addBag_25 : decode cX0_addBag 25 = .ok (.getfield 61, 3) := by decide +kernel
theorem dX0_addBag_28 : decode cX0_addBag 28 = .ok (.iconst (-1), 1) := by decide +kernel
theorem dX0_addBag_29 : decode cX0_addBag 29 = .ok (.iastore, 1) := by decide +kernel
theorem dX0_addBag_30 : decode cX0_addBag 30 = .ok (.aload_n 0, 1) := by decide +kernel
theorem dX0_addBag_31 : decode cX0_addBag 31 = .ok (.getfield 31, 3) := by decide +kernel
theorem dX0_addBag_34 : decode cX0_addBag 34 = .ok (.aload_n 0, 1) := by decide +kernel
theorem dX0_addBag_35 : decode cX0_addBag 35 = .ok (.getfield 61, 3) := by decide +kernel
theorem dX0_addBag_38 : decode cX0_addBag 38 = .ok (.iconst 0, 1) := by decide +kernel
theorem dX0_addBag_39 : decode cX0_addBag 39 = .ok (.iastore, 1) := by decide +kernel
theorem dX0_addBag_40 : decode cX0_addBag 40 = .ok (.aload_n 0, 1) := by decide +kernel
theorem dX0_addBag_41 : decode cX0_addBag 41 = .ok (.getfield 34, 3) := by decide +kernel
theorem dX0_addBag_44 : decode cX0_addBag 44 = .ok (.aload_n 0, 1) := by decide +kernel
theorem dX0_addBag_45 : decode cX0_addBag 45 = .ok (.getfield 61, 3) := by decide +kernel
theorem dX0_addBag_48 : decode cX0_addBag 48 = .ok (.iconst 0, 1) := by decide +kernel
theorem dX0_addBag_49 : decode cX0_addBag 49 = .ok (.iastore, 1) := by decide +kernel
theorem dX0_addBag_50 : decode cX0_addBag 50 = .ok (.aload_n 0, 1) := by decide +kernel
theorem dX0_addBag_51 : decode cX0_addBag 51 = .ok (.dup, 1) := by decide +kernel
theorem dX0_addBag_52 : decode cX0_addBag 52 = .ok (.getfield 61, 3) := by decide +kernel
theorem dX0_addBag_55 : decode cX0_addBag 55 = .ok (.iconst 1, 1) := by decide +kernel
theorem dX0_addBag_56 : decode cX0_addBag 56 = .ok (.iadd, 1) := by decide +kernel
theorem dX0_addBag_57 : decode cX0_addBag 57 = .ok (.putfield 61, 3) := by decide +kernel
theorem dX0_addBag_60 : decode cX0_addBag 60 = .ok (.aload_n 0, 1) := by decide +kernel
theorem dX0_addBag_61 : decode cX0_addBag 61 = .ok (.getfield 61, 3) := by decide +kernel
theorem dX0_addBag_64 : decode cX0_addBag 64 = .ok (.iconst 1, 1) := by decide +kernel
theorem dX0_addBag_65 : decode cX0_addBag 65 = .ok (.isub, 1) := by decide +kernel
theorem dX0_addBag_66 : decode cX0_addBag 66 = .ok (.ireturn, 1) := by decide +kernel
theorem dX0_fillBag_0 : decode cX0_fillBag 0 = .ok (.aload_n 0, 1) := by decide +kernel
theorem dX0_fillBag_1 : decode cX0_fillBag 1 = .ok (.getfield 19, 3) := by decide +kernel
theorem dX0_fillBag_4 : decode cX0_fillBag 4 = .ok (.iload_n 2, 1) := by decide +kernel
theorem dX0_fillBag_5 : decode cX0_fillBag 5 = .ok (.dup2, 1) := by decide +kernel
theorem dX0_fillBag_6 : decode cX0_fillBag 6 = .ok (.iaload, 1) := by decide +kernel
theorem dX0_fillBag_7 : decode cX0_fillBag 7 = .ok (.iload_n 3, 1) := by decide +kernel
theorem dX0_fillBag_8 : decode cX0_fillBag 8 = .ok (.isub, 1) := by decide +kernel
theorem dX0_fillBag_9 : decode cX0_fillBag 9 = .ok (.iastore, 1) := by decide +kernel
theorem dX0_fillBag_10 : decode cX0_fillBag 10 = .ok (.aload_n 0, 1) := by decide +kernel
theorem dX0_fillBag_11 : decode cX0_fillBag 11 = .ok (.getfield 28, 3) := by decide +kernel
theorem dX0_fillBag_14 : decode cX0_fillBag 14 = .ok (.iload_n 1, 1) := by decide +kernel
theorem dX0_fillBag_15 : decode cX0_fillBag 15 = .ok (.aload_n 0, 1) := by decide +kernel
theorem dX0_fillBag_16 : decode cX0_fillBag 16 = .ok (.getfield 15, 3) := by decide +kernel
theorem dX0_fillBag_19 : decode cX0_fillBag 19 = .ok (.iload_n 2, 1) := by decide +kernel
theorem dX0_fillBag_20 : decode cX0_fillBag 20 = .ok (.iaload, 1) := by decide +kernel
theorem dX0_fillBag_21 : decode cX0_fillBag 21 = .ok (.iastore, 1) := by decide +kernel
theorem dX0_fillBag_22 : decode cX0_fillBag 22 = .ok (.aload_n 0, 1) := by decide +kernel
theorem dX0_fillBag_23 : decode cX0_fillBag 23 = .ok (.getfield 31, 3) := by decide +kernel
theorem dX0_fillBag_26 : decode cX0_fillBag 26 = .ok (.iload_n 1, 1) := by decide +kernel
theorem dX0_fillBag_27 : decode cX0_fillBag 27 = .ok (.dup2, 1) := by decide +kernel
theorem dX0_fillBag_28 : decode cX0_fillBag 28 = .ok (.iaload, 1) := by decide +kernel
theorem dX0_fillBag_29 : decode cX0_fillBag 29 = .ok (.iload_n 3, 1) := by decide +kernel
theorem dX0_fillBag_30 : decode cX0_fillBag 30 = .ok (.iadd, 1) := by decide +kernel
theorem dX0_fillBag_31 : decode cX0_fillBag 31 = .ok (.iastore, 1) := by decide +kernel
theorem dX0_fillBag_32 : decode cX0_fillBag 32 = .ok (.aload_n 0, 1) := by decide +kernel
theorem dX0_fillBag_33 : decode cX0_fillBag 33 = .ok (.getfield 31, 3) := by decide +kernel
theorem dX0_fillBag_36 : decode cX0_fillBag 36 = .ok (.iload_n 1, 1) := by decide +kernel
theorem dX0_fillBag_37 : decode cX0_fillBag 37 = .ok (.iaload, 1) := by decide +kernel
theorem dX0_fillBag_38 : decode cX0_fillBag 38 = .ok (.ireturn, 1) := by decide +kernel
theorem dX0_emptyBag_0 : decode cX0_emptyBag 0 = .ok (.aload_n 0, 1) := by decide +kernel
theorem dX0_emptyBag_1 : decode cX0_emptyBag 1 = .ok (.getfield 19, 3) := by decide +kernel
theorem dX0_emptyBag_4 : decode cX0_emptyBag 4 = .ok (.iload_n 2, 1) := by decide +kernel
theorem dX0_emptyBag_5 : decode cX0_emptyBag 5 = .ok (.dup2, 1) := by decide +kernel
theorem dX0_emptyBag_6 : decode cX0_emptyBag 6 = .ok (.iaload, 1) := by decide +kernel
theorem dX0_emptyBag_7 : decode cX0_emptyBag 7 = .ok (.aload_n 0, 1) := by decide +kernel
theorem dX0_emptyBag_8 : decode cX0_emptyBag 8 = .ok (.getfield 31, 3) := by decide +kernel
theorem dX0_emptyBag_11 : decode cX0_emptyBag 11 = .ok (.iload_n 1, 1) := by decide +kernel
theorem dX0_emptyBag_12 : decode cX0_emptyBag 12 = .ok (.iaload, 1) := by decide +kernel
theorem dX0_emptyBag_13 : decode cX0_emptyBag 13 = .ok (.iadd, 1) := by decide +kernel
theorem dX0_emptyBag_14 : decode cX0_emptyBag 14 = .ok (.iastore, 1) := by decide +kernel
theorem dX0_emptyBag_15 : decode cX0_emptyBag 15 = .ok (.aload_n 0, 1) := by decide +kernel
theorem dX0_emptyBag_16 : decode cX0_emptyBag 16 = .ok (.iload_n 1, 1) := by decide +kernel
theorem dX0_emptyBag_17 : decode cX0_emptyBag 17 = .ok (.invokevirtual 116, 3) := by decide +kernel
theorem dX0_emptyBag_20 : decode cX0_emptyBag 20 = .ok (.aload_n 0, 1) := by decide +kernel
theorem dX0_emptyBag_21 : decode cX0_emptyBag 21 = .ok (.getfield 19, 3) := by decide +kernel
theorem dX0_emptyBag_24 : decode cX0_emptyBag 24 = .ok (.iload_n 2, 1) := by decide +kernel
theorem dX0_emptyBag_25 : decode cX0_emptyBag 25 = .ok (.iaload, 1) := by decide +kernel
theorem dX0_emptyBag_26 : decode cX0_emptyBag 26 = .ok (.ireturn, 1) := by decide +kernel
theorem dX0_clearBag_0 : decode cX0_clearBag 0 = .ok (.aload_n 0, 1) := by decide +kernel
theorem dX0_clearBag_1 : decode cX0_clearBag 1 = .ok (.getfield 31, 3) := by decide +kernel
theorem dX0_clearBag_4 : decode cX0_clearBag 4 = .ok (.iload_n 1, 1) := by decide +kernel
theorem dX0_clearBag_5 : decode cX0_clearBag 5 = .ok (.iconst 0, 1) := by decide +kernel
theorem dX0_clearBag_6 : decode cX0_clearBag 6 = .ok (.iastore, 1) := by decide +kernel
theorem dX0_clearBag_7 : decode cX0_clearBag 7 = .ok (.aload_n 0, 1) := by decide +kernel
theorem dX0_clearBag_8 : decode cX0_clearBag 8 = .ok (.getfield 28, 3) := by decide +kernel
theorem dX0_clearBag_11 : decode cX0_clearBag 11 = .ok (.iload_n 1, 1) := by decide +kernel
theorem dX0_clearBag_12 : decode cX0_clearBag 12 = .ok (.iconst (-1), 1) := by decide +kernel
theorem dX0_clearBag_13 : decode cX0_clearBag 13 = .ok (.iastore, 1) := by decide +kernel
theorem dX0_clearBag_14 : decode cX0_clearBag 14 = .ok (.return_, 1) := by decide +kernel
theorem dX0_beatBag_0 : decode cX0_beatBag 0 = .ok (.aload_n 0, 1) := by decide +kernel
theorem dX0_beatBag_1 : decode cX0_beatBag 1 = .ok (.getfield 25, 3) := by decide +kernel
theorem dX0_beatBag_4 : decode cX0_beatBag 4 = .ok (.iload_n 1, 1) := by decide +kernel
theorem dX0_beatBag_5 : decode cX0_beatBag 5 = .ok (.iaload, 1) := by decide +kernel
theorem dX0_beatBag_6 : decode cX0_beatBag 6 = .ok (.istore_n 2, 1) := by decide +kernel
theorem dX0_beatBag_7 : decode cX0_beatBag 7 = .ok (.aload_n 0, 1) := by decide +kernel
theorem dX0_beatBag_8 : decode cX0_beatBag 8 = .ok (.getfield 25, 3) := by decide +kernel
theorem dX0_beatBag_11 : decode cX0_beatBag 11 = .ok (.iload_n 1, 1) := by decide +kernel
theorem dX0_beatBag_12 : decode cX0_beatBag 12 = .ok (.iconst 0, 1) := by decide +kernel
theorem dX0_beatBag_13 : decode cX0_beatBag 13 = .ok (.iastore, 1) := by decide +kernel
theorem dX0_beatBag_14 : decode cX0_beatBag 14 = .ok (.iload_n 2, 1) := by decide +kernel
theorem dX0_beatBag_15 : decode cX0_beatBag 15 = .ok (.ireturn, 1) := by decide +kernel
theorem dX0_setThumb_0 : decode cX0_setThumb 0 = .ok (.aload_n 0, 1) := by decide +kernel
theorem dX0_setThumb_1 : decode cX0_setThumb 1 = .ok (.getfield 49, 3) := by decide +kernel
theorem dX0_setThumb_4 : decode cX0_setThumb 4 = .ok (.istore_n 2, 1) := by decide +kernel
theorem dX0_setThumb_5 : decode cX0_setThumb 5 = .ok (.aload_n 0, 1) := by decide +kernel
theorem dX0_setThumb_6 : decode cX0_setThumb 6 = .ok (.iload_n 1, 1) := by decide +kernel
theorem dX0_setThumb_7 : decode cX0_setThumb 7 = .ok (.putfield 49, 3) := by decide +kernel
theorem dX0_setThumb_10 : decode cX0_setThumb 10 = .ok (.iload_n 2, 1) := by decide +kernel
theorem dX0_setThumb_11 : decode cX0_setThumb 11 = .ok (.ireturn, 1) := by decide +kernel
theorem dX0_weighBag_0 : decode cX0_weighBag 0 = .ok (.aload_n 0, 1) := by decide +kernel
theorem dX0_weighBag_1 : decode cX0_weighBag 1 = .ok (.aload_n 0, 1) := by decide +kernel
theorem dX0_weighBag_2 : decode cX0_weighBag 2 = .ok (.iload_n 1, 1) := by decide +kernel
theorem dX0_weighBag_3 : decode cX0_weighBag 3 = .ok (.invokevirtual 120, 3) := by decide +kernel
theorem dX0_weighBag_6 : decode cX0_weighBag 6 = .ok (.invokevirtual 123, 3) := by decide +kernel
theorem dX0_weighBag_9 : decode cX0_weighBag 9 = .ok (.istore_n 2, 1) := by decide +kernel
theorem dX0_weighBag_10 : decode cX0_weighBag 10 = .ok (.iconst 0, 1) := by decide +kernel
theorem dX0_weighBag_11 : decode cX0_weighBag 11 = .ok (.istore_n 3, 1) := by decide +kernel
theorem dX0_weighBag_12 : decode cX0_weighBag 12 = .ok (.iload_n 3, 1) := by decide +kernel
theorem dX0_weighBag_13 : decode cX0_weighBag 13 = .ok (.bipush 8, 2) := by decide +kernel
theorem dX0_weighBag_15 : decode cX0_weighBag 15 = .ok (.if_icmp .ge 27, 3) := by decide +kernel
theorem dX0_weighBag_18 : decode cX0_weighBag 18 = .ok (.iload_n 3, 1) := by decide +kernel
theorem dX0_weighBag_19 : decode cX0_weighBag 19 = .ok (.iload_n 2, 1) := by decide +kernel
theorem dX0_weighBag_20 : decode cX0_weighBag 20 = .ok (.invokestatic 126, 3) := by decide +kernel
theorem dX0_weighBag_23 : decode cX0_weighBag 23 = .ok (.ifCond .eq 13, 3) := by decide +kernel
theorem dX0_weighBag_26 : decode cX0_weighBag 26 = .ok (.aload_n 0, 1) := by decide +kernel
theorem dX0_weighBag_27 : decode cX0_weighBag 27 = .ok (.getfield 37, 3) := by decide +kernel
theorem dX0_weighBag_30 : decode cX0_weighBag 30 = .ok (.iload_n 3, 1) := by decide +kernel
theorem dX0_weighBag_31 : decode cX0_weighBag 31 = .ok (.dup2, 1) := by decide +kernel
theorem dX0_weighBag_32 : decode cX0_weighBag 32 = .ok (.iaload, 1) := by decide +kernel
theorem dX0_weighBag_33 : decode cX0_weighBag 33 = .ok (.iconst 1, 1) := by decide +kernel
theorem dX0_weighBag_34 : decode cX0_weighBag 34 = .ok (.iadd, 1) := by decide +kernel
theorem dX0_weighBag_35 : decode cX0_weighBag 35 = .ok (.iastore, 1) := by decide +kernel
theorem dX0_weighBag_36 : decode cX0_weighBag 36 = .ok (.iinc 3 1, 3) := by decide +kernel
theorem dX0_weighBag_39 : decode cX0_weighBag 39 = .ok (.goto (-27), 3) := by decide +kernel
theorem dX0_weighBag_42 : decode cX0_weighBag 42 = .ok (.aload_n 0, 1) := by decide +kernel
theorem dX0_weighBag_43 : decode cX0_weighBag 43 = .ok (.getfield 34, 3) := by decide +kernel
theorem dX0_weighBag_46 : decode cX0_weighBag 46 = .ok (.iload_n 1, 1) := by decide +kernel
theorem dX0_weighBag_47 : decode cX0_weighBag 47 = .ok (.dup2, 1) := by decide +kernel
theorem dX0_weighBag_48 : decode cX0_weighBag 48 = .ok (.iaload, 1) := by decide +kernel
theorem dX0_weighBag_49 : decode cX0_weighBag 49 = .ok (.iconst 1, 1) := by decide +kernel
theorem dX0_weighBag_50 : decode cX0_weighBag 50 = .ok (.iadd, 1) := by decide +kernel
theorem dX0_weighBag_51 : decode cX0_weighBag 51 = .ok (.iastore, 1) := by decide +kernel
theorem dX0_weighBag_52 : decode cX0_weighBag 52 = .ok (.iload_n 2, 1) := by decide +kernel
theorem dX0_weighBag_53 : decode cX0_weighBag 53 = .ok (.invokestatic 130, 3) := by decide +kernel
theorem dX0_weighBag_56 : decode cX0_weighBag 56 = .ok (.ireturn, 1) := by decide +kernel
theorem dX0_sellBag_0 : decode cX0_sellBag 0 = .ok (.aload_n 0, 1) := by decide +kernel
theorem dX0_sellBag_1 : decode cX0_sellBag 1 = .ok (.iload_n 1, 1) := by decide +kernel
theorem dX0_sellBag_2 : decode cX0_sellBag 2 = .ok (.invokevirtual 97, 3) := by decide +kernel
theorem dX0_sellBag_5 : decode cX0_sellBag 5 = .ok (.aload_n 0, 1) := by decide +kernel
theorem dX0_sellBag_6 : decode cX0_sellBag 6 = .ok (.getfield 22, 3) := by decide +kernel
theorem dX0_sellBag_9 : decode cX0_sellBag 9 = .ok (.iload_n 1, 1) := by decide +kernel
theorem dX0_sellBag_10 : decode cX0_sellBag 10 = .ok (.iaload, 1) := by decide +kernel
theorem dX0_sellBag_11 : decode cX0_sellBag 11 = .ok (.isub, 1) := by decide +kernel
theorem dX0_sellBag_12 : decode cX0_sellBag 12 = .ok (.istore_n 2, 1) := by decide +kernel
theorem dX0_sellBag_13 : decode cX0_sellBag 13 = .ok (.aload_n 0, 1) := by decide +kernel
theorem dX0_sellBag_14 : decode cX0_sellBag 14 = .ok (.iload_n 1, 1) := by decide +kernel
theorem dX0_sellBag_15 : decode cX0_sellBag 15 = .ok (.aload_n 0, 1) := by decide +kernel
theorem dX0_sellBag_16 : decode cX0_sellBag 16 = .ok (.getfield 46, 3) := by decide +kernel
theorem dX0_sellBag_19 : decode cX0_sellBag 19 = .ok (.iload_n 2, 1) := by decide +kernel
theorem dX0_sellBag_20 : decode cX0_sellBag 20 = .ok (.invokevirtual 133, 3) := by decide +kernel
theorem dX0_sellBag_23 : decode cX0_sellBag 23 = .ok (.istore_n 3, 1) := by decide +kernel
theorem dX0_sellBag_24 : decode cX0_sellBag 24 = .ok (.aload_n 0, 1) := by decide +kernel
theorem dX0_sellBag_25 : decode cX0_sellBag 25 = .ok (.dup, 1) := by decide +kernel
theorem dX0_sellBag_26 : decode cX0_sellBag 26 = .ok (.getfield 64, 3) := by decide +kernel
theorem dX0_sellBag_29 : decode cX0_sellBag 29 = .ok (.iconst 1, 1) := by decide +kernel
theorem dX0_sellBag_30 : decode cX0_sellBag 30 = .ok (.iadd, 1) := by decide +kernel
theorem dX0_sellBag_31 : decode cX0_sellBag 31 = .ok (.putfield 64, 3) := by decide +kernel
theorem dX0_sellBag_34 : decode cX0_sellBag 34 = .ok (.aload_n 0, 1) := by decide +kernel
theorem dX0_sellBag_35 : decode cX0_sellBag 35 = .ok (.dup, 1) := by decide +kernel
theorem dX0_sellBag_36 : decode cX0_sellBag 36 = .ok (.getfield 67, 3) := by decide +kernel
theorem dX0_sellBag_39 : decode cX0_sellBag 39 = .ok (.aload_n 0, 1) := by decide +kernel
theorem dX0_sellBag_40 : decode cX0_sellBag 40 = .ok (.getfield 31, 3) := by decide +kernel
theorem dX0_sellBag_43 : decode cX0_sellBag 43 = .ok (.iload_n 1, 1) := by decide +kernel
theorem dX0_sellBag_44 : decode cX0_sellBag 44 = .ok (.iaload, 1) := by decide +kernel
theorem dX0_sellBag_45 : decode cX0_sellBag 45 = .ok (.iadd, 1) := by decide +kernel
theorem dX0_sellBag_46 : decode cX0_sellBag 46 = .ok (.putfield 67, 3) := by decide +kernel
theorem dX0_sellBag_49 : decode cX0_sellBag 49 = .ok (.aload_n 0, 1) := by decide +kernel
theorem dX0_sellBag_50 : decode cX0_sellBag 50 = .ok (.dup, 1) := by decide +kernel
theorem dX0_sellBag_51 : decode cX0_sellBag 51 = .ok (.getfield 70, 3) := by decide +kernel
theorem dX0_sellBag_54 : decode cX0_sellBag 54 = .ok (.iload_n 2, 1) := by decide +kernel
theorem dX0_sellBag_55 : decode cX0_sellBag 55 = .ok (.iadd, 1) := by decide +kernel
theorem dX0_sellBag_56 : decode cX0_sellBag 56 = .ok (.putfield 70, 3) := by decide +kernel
theorem dX0_sellBag_59 : decode cX0_sellBag 59 = .ok (.aload_n 0, 1) := by decide +kernel
theorem dX0_sellBag_60 : decode cX0_sellBag 60 = .ok (.dup, 1) := by decide +kernel
theorem dX0_sellBag_61 : decode cX0_sellBag 61 = .ok (.getfield 73, 3) := by decide +kernel
theorem dX0_sellBag_64 : decode cX0_sellBag 64 = .ok (.iload_n 3, 1) := by decide +kernel
theorem dX0_sellBag_65 : decode cX0_sellBag 65 = .ok (.iadd, 1) := by decide +kernel
theorem dX0_sellBag_66 : decode cX0_sellBag 66 = .ok (.putfield 73, 3) := by decide +kernel
theorem dX0_sellBag_69 : decode cX0_sellBag 69 = .ok (.aload_n 0, 1) := by decide +kernel
theorem dX0_sellBag_70 : decode cX0_sellBag 70 = .ok (.dup, 1) := by decide +kernel
theorem dX0_sellBag_71 : decode cX0_sellBag 71 = .ok (.getfield 9, 3) := by decide +kernel
theorem dX0_sellBag_74 : decode cX0_sellBag 74 = .ok (.iload_n 3, 1) := by decide +kernel
theorem dX0_sellBag_75 : decode cX0_sellBag 75 = .ok (.iadd, 1) := by decide +kernel
theorem dX0_sellBag_76 : decode cX0_sellBag 76 = .ok (.putfield 9, 3) := by decide +kernel
theorem dX0_sellBag_79 : decode cX0_sellBag 79 = .ok (.aload_n 0, 1) := by decide +kernel
theorem dX0_sellBag_80 : decode cX0_sellBag 80 = .ok (.iload_n 1, 1) := by decide +kernel
theorem dX0_sellBag_81 : decode cX0_sellBag 81 = .ok (.invokevirtual 116, 3) := by decide +kernel
theorem dX0_sellBag_84 : decode cX0_sellBag 84 = .ok (.iload_n 3, 1) := by decide +kernel
theorem dX0_sellBag_85 : decode cX0_sellBag 85 = .ok (.ireturn, 1) := by decide +kernel
theorem dX0_swearOath_0 : decode cX0_swearOath 0 = .ok (.aload_n 0, 1) := by decide +kernel
theorem dX0_swearOath_1 : decode cX0_swearOath 1 = .ok (.getfield 40, 3) := by decide +kernel
theorem dX0_swearOath_4 : decode cX0_swearOath 4 = .ok (.aload_n 0, 1) := by decide +kernel
theorem dX0_swearOath_5 : decode cX0_swearOath 5 = .ok (.getfield 46, 3) := by decide +kernel
theorem dX0_swearOath_8 : decode cX0_swearOath 8 = .ok (.aload_n 0, 1) := by decide +kernel
theorem dX0_swearOath_9 : decode cX0_swearOath 9 = .ok (.getfield 43, 3) := by decide +kernel
theorem dX0_swearOath_12 : decode cX0_swearOath 12 = .ok (.bipush 20, 2) := by decide +kernel
theorem dX0_swearOath_14 : decode cX0_swearOath 14 = .ok (.iadd, 1) := by decide +kernel
theorem dX0_swearOath_15 : decode cX0_swearOath 15 = .ok (.iconst 1, 1) := by decide +kernel
theorem dX0_swearOath_16 : decode cX0_swearOath 16 = .ok (.isub, 1) := by decide +kernel
theorem dX0_swearOath_17 : decode cX0_swearOath 17 = .ok (.iastore, 1) := by decide +kernel
theorem dX0_swearOath_18 : decode cX0_swearOath 18 = .ok (.aload_n 0, 1) := by decide +kernel
theorem dX0_swearOath_19 : decode cX0_swearOath 19 = .ok (.getfield 40, 3) := by decide +kernel
theorem dX0_swearOath_22 : decode cX0_swearOath 22 = .ok (.aload_n 0, 1) := by decide +kernel
theorem dX0_swearOath_23 : decode cX0_swearOath 23 = .ok (.getfield 46, 3) := by decide +kernel
theorem dX0_swearOath_26 : decode cX0_swearOath 26 = .ok (.iaload, 1) := by decide +kernel
theorem dX0_swearOath_27 : decode cX0_swearOath 27 = .ok (.ireturn, 1) := by decide +kernel
theorem dX0_travelTo_0 : decode cX0_travelTo 0 = .ok (.aload_n 0, 1) := by decide +kernel
theorem dX0_travelTo_1 : decode cX0_travelTo 1 = .ok (.aload_n 0, 1) := by decide +kernel
theorem dX0_travelTo_2 : decode cX0_travelTo 2 = .ok (.iload_n 1, 1) := by decide +kernel
theorem dX0_travelTo_3 : decode cX0_travelTo 3 = .ok (.invokevirtual 136, 3) := by decide +kernel
theorem dX0_travelTo_6 : decode cX0_travelTo 6 = .ok (.invokevirtual 113, 3) := by decide +kernel
theorem dX0_travelTo_9 : decode cX0_travelTo 9 = .ok (.pop, 1) := by decide +kernel
theorem dX0_travelTo_10 : decode cX0_travelTo 10 = .ok (.aload_n 0, 1) := by decide +kernel
theorem dX0_travelTo_11 : decode cX0_travelTo 11 = .ok (.iload_n 1, 1) := by decide +kernel
theorem dX0_travelTo_12 : decode cX0_travelTo 12 = .ok (.putfield 46, 3) := by decide +kernel
theorem dX0_travelTo_15 : decode cX0_travelTo 15 = .ok (.aload_n 0, 1) := by decide +kernel
theorem dX0_travelTo_16 : decode cX0_travelTo 16 = .ok (.aload_n 0, 1) := by decide +kernel
theorem dX0_travelTo_17 : decode cX0_travelTo 17 = .ok (.getfield 46, 3) := by decide +kernel
theorem dX0_travelTo_20 : decode cX0_travelTo 20 = .ok (.invokevirtual 139, 3) := by decide +kernel
theorem dX0_travelTo_23 : decode cX0_travelTo 23 = .ok (.ifCond .eq 8, 3) := by decide +kernel
theorem dX0_travelTo_26 : decode cX0_travelTo 26 = .ok (.aload_n 0, 1) := by decide +kernel
theorem dX0_travelTo_27 : decode cX0_travelTo 27 = .ok (.iconst 0, 1) := by decide +kernel
theorem dX0_travelTo_28 : decode cX0_travelTo 28 = .ok (.putfield 49, 3) := by decide +kernel
theorem dX0_travelTo_31 : decode cX0_travelTo 31 = .ok (.aload_n 0, 1) := by decide +kernel
theorem dX0_travelTo_32 : decode cX0_travelTo 32 = .ok (.getfield 43, 3) := by decide +kernel
theorem dX0_travelTo_35 : decode cX0_travelTo 35 = .ok (.ireturn, 1) := by decide +kernel
theorem dX0_sealWeight_0 : decode cX0_sealWeight 0 = .ok (.aload_n 0, 1) := by decide +kernel
theorem dX0_sealWeight_1 : decode cX0_sealWeight 1 = .ok (.iload_n 1, 1) := by decide +kernel
theorem dX0_sealWeight_2 : decode cX0_sealWeight 2 = .ok (.invokevirtual 143, 3) := by decide +kernel
theorem dX0_sealWeight_5 : decode cX0_sealWeight 5 = .ok (.istore_n 2, 1) := by decide +kernel
theorem dX0_sealWeight_6 : decode cX0_sealWeight 6 = .ok (.aload_n 0, 1) := by decide +kernel
theorem dX0_sealWeight_7 : decode cX0_sealWeight 7 = .ok (.getfield 37, 3) := by decide +kernel
theorem dX0_sealWeight_10 : decode cX0_sealWeight 10 = .ok (.iload_n 1, 1) := by decide +kernel
theorem dX0_sealWeight_11 : decode cX0_sealWeight 11 = .ok (.iconst 0, 1) := by decide +kernel
theorem dX0_sealWeight_12 : decode cX0_sealWeight 12 = .ok (.iastore, 1) := by decide +kernel
theorem dX0_sealWeight_13 : decode cX0_sealWeight 13 = .ok (.aload_n 0, 1) := by decide +kernel
theorem dX0_sealWeight_14 : decode cX0_sealWeight 14 = .ok (.dup, 1) := by decide +kernel
theorem dX0_sealWeight_15 : decode cX0_sealWeight 15 = .ok (.getfield 9, 3) := by decide +kernel
theorem dX0_sealWeight_18 : decode cX0_sealWeight 18 = .ok (.iconst 2, 1) := by decide +kernel
theorem dX0_sealWeight_19 : decode cX0_sealWeight 19 = .ok (.isub, 1) := by decide +kernel
theorem dX0_sealWeight_20 : decode cX0_sealWeight 20 = .ok (.putfield 9, 3) := by decide +kernel
theorem dX0_sealWeight_23 : decode cX0_sealWeight 23 = .ok (.iload_n 2, 1) := by decide +kernel
theorem dX0_sealWeight_24 : decode cX0_sealWeight 24 = .ok (.ireturn, 1) := by decide +kernel
theorem dX0_letDaysGo_0 : decode cX0_letDaysGo 0 = .ok (.aload_n 0, 1) := by decide +kernel
theorem dX0_letDaysGo_1 : decode cX0_letDaysGo 1 = .ok (.dup, 1) := by decide +kernel
theorem dX0_letDaysGo_2 : decode cX0_letDaysGo 2 = .ok (.getfield 43, 3) := by decide +kernel
theorem dX0_letDaysGo_5 : decode cX0_letDaysGo 5 = .ok (.iload_n 1, 1) := by decide +kernel
theorem dX0_letDaysGo_6 : decode cX0_letDaysGo 6 = .ok (.iadd, 1) := by decide +kernel
theorem dX0_letDaysGo_7 : decode cX0_letDaysGo 7 = .ok (.putfield 43, 3) := by decide +kernel
theorem dX0_letDaysGo_10 : decode cX0_letDaysGo 10 = .ok (.iconst 0, 1) := by decide +kernel
theorem dX0_letDaysGo_11 : decode cX0_letDaysGo 11 = .ok (.istore_n 2, 1) := by decide +kernel
theorem dX0_letDaysGo_12 : decode cX0_letDaysGo 12 = .ok (.iload_n 2, 1) := by decide +kernel
theorem dX0_letDaysGo_13 : decode cX0_letDaysGo 13 = .ok (.aload_n 0, 1) := by decide +kernel
theorem dX0_letDaysGo_14 : decode cX0_letDaysGo 14 = .ok (.getfield 61, 3) := by decide +kernel
theorem dX0_letDaysGo_17 : decode cX0_letDaysGo 17 = .ok (.if_icmp .ge 28, 3) := by decide +kernel
theorem dX0_letDaysGo_20 : decode cX0_letDaysGo 20 = .ok (.aload_n 0, 1) := by decide +kernel
theorem dX0_letDaysGo_21 : decode cX0_letDaysGo 21 = .ok (.getfield 25, 3) := by decide +kernel
theorem dX0_letDaysGo_24 : decode cX0_letDaysGo 24 = .ok (.iload_n 2, 1) := by decide +kernel
theorem dX0_letDaysGo_25 : decode cX0_letDaysGo 25 = .ok (.bipush 20, 2) := by decide +kernel
theorem dX0_letDaysGo_27 : decode cX0_letDaysGo 27 = .ok (.aload_n 0, 1) := by decide +kernel
theorem dX0_letDaysGo_28 : decode cX0_letDaysGo 28 = .ok (.getfield 25, 3) := by decide +kernel
theorem dX0_letDaysGo_31 : decode cX0_letDaysGo 31 = .ok (.iload_n 2, 1) := by decide +kernel
theorem dX0_letDaysGo_32 : decode cX0_letDaysGo 32 = .ok (.iaload, 1) := by decide +kernel
theorem dX0_letDaysGo_33 : decode cX0_letDaysGo 33 = .ok (.iload_n 1, 1) := by decide +kernel
theorem dX0_letDaysGo_34 : decode cX0_letDaysGo 34 = .ok (.iadd, 1) := by decide +kernel
theorem dX0_letDaysGo_35 : decode cX0_letDaysGo 35 = .ok (.invokestatic 146, 3) := by decide +kernel
theorem dX0_letDaysGo_38 : decode cX0_letDaysGo 38 = .ok (.iastore, 1) := by decide +kernel
theorem dX0_letDaysGo_39 : decode cX0_letDaysGo 39 = .ok (.iinc 2 1, 3) := by decide +kernel
theorem dX0_letDaysGo_42 : decode cX0_letDaysGo 42 = .ok (.goto (-30), 3) := by decide +kernel
theorem dX0_letDaysGo_45 : decode cX0_letDaysGo 45 = .ok (.aload_n 0, 1) := by decide +kernel
theorem dX0_letDaysGo_46 : decode cX0_letDaysGo 46 = .ok (.invokevirtual 151, 3) := by decide +kernel
theorem dX0_letDaysGo_49 : decode cX0_letDaysGo 49 = .ok (.ireturn, 1) := by decide +kernel
theorem dX0_hasJar_0 : decode cX0_hasJar 0 = .ok (.iload_n 1, 1) := by decide +kernel
theorem dX0_hasJar_1 : decode cX0_hasJar 1 = .ok (.ifCond .lt 15, 3) := by decide +kernel
theorem dX0_hasJar_4 : decode cX0_hasJar 4 = .ok (.iload_n 1, 1) := by decide +kernel
theorem dX0_hasJar_5 : decode cX0_hasJar 5 = .ok (.aload_n 0, 1) := by decide +kernel
theorem dX0_hasJar_6 : decode cX0_hasJar 6 = .ok (.getfield 52, 3) := by decide +kernel
theorem dX0_hasJar_9 : decode cX0_hasJar 9 = .ok (.if_icmp .ge 7, 3) := by decide +kernel
theorem dX0_hasJar_12 : decode cX0_hasJar 12 = .ok (.iconst 1, 1) := by decide +kernel
theorem dX0_hasJar_13 : decode cX0_hasJar 13 = .ok (.goto 4, 3) := by decide +kernel
theorem dX0_hasJar_16 : decode cX0_hasJar 16 = .ok (.iconst 0, 1) := by decide +kernel
theorem dX0_hasJar_17 : decode cX0_hasJar 17 = .ok (.ireturn, 1) := by decide +kernel
theorem dX0_hasBag_0 : decode cX0_hasBag 0 = .ok (.iload_n 1, 1) := by decide +kernel
theorem dX0_hasBag_1 : decode cX0_hasBag 1 = .ok (.ifCond .lt 15, 3) := by decide +kernel
theorem dX0_hasBag_4 : decode cX0_hasBag 4 = .ok (.iload_n 1, 1) := by decide +kernel
theorem dX0_hasBag_5 : decode cX0_hasBag 5 = .ok (.aload_n 0, 1) := by decide +kernel
theorem dX0_hasBag_6 : decode cX0_hasBag 6 = .ok (.getfield 61, 3) := by decide +kernel
theorem dX0_hasBag_9 : decode cX0_hasBag 9 = .ok (.if_icmp .ge 7, 3) := by decide +kernel
theorem dX0_hasBag_12 : decode cX0_hasBag 12 = .ok (.iconst 1, 1) := by decide +kernel
theorem dX0_hasBag_13 : decode cX0_hasBag 13 = .ok (.goto 4, 3) := by decide +kernel
theorem dX0_hasBag_16 : decode cX0_hasBag 16 = .ok (.iconst 0, 1) := by decide +kernel
theorem dX0_hasBag_17 : decode cX0_hasBag 17 = .ok (.ireturn, 1) := by decide +kernel
theorem dX0_loadOf_0 : decode cX0_loadOf 0 = .ok (.aload_n 0, 1) := by decide +kernel
theorem dX0_loadOf_1 : decode cX0_loadOf 1 = .ok (.getfield 22, 3) := by decide +kernel
theorem dX0_loadOf_4 : decode cX0_loadOf 4 = .ok (.iload_n 1, 1) := by decide +kernel
theorem dX0_loadOf_5 : decode cX0_loadOf 5 = .ok (.iaload, 1) := by decide +kernel
theorem dX0_loadOf_6 : decode cX0_loadOf 6 = .ok (.aload_n 0, 1) := by decide +kernel
theorem dX0_loadOf_7 : decode cX0_loadOf 7 = .ok (.getfield 25, 3) := by decide +kernel
theorem dX0_loadOf_10 : decode cX0_loadOf 10 = .ok (.iload_n 1, 1) := by decide +kernel
theorem dX0_loadOf_11 : decode cX0_loadOf 11 = .ok (.iaload, 1) := by decide +kernel
theorem dX0_loadOf_12 : decode cX0_loadOf 12 = .ok (.iadd, 1) := by decide +kernel
theorem dX0_loadOf_13 : decode cX0_loadOf 13 = .ok (.aload_n 0, 1) := by decide +kernel
theorem dX0_loadOf_14 : decode cX0_loadOf 14 = .ok (.getfield 31, 3) := by decide +kernel
theorem dX0_loadOf_17 : decode cX0_loadOf 17 = .ok (.iload_n 1, 1) := by decide +kernel
theorem dX0_loadOf_18 : decode cX0_loadOf 18 = .ok (.iaload, 1) := by decide +kernel
theorem dX0_loadOf_19 : decode cX0_loadOf 19 = .ok (.iadd, 1) := by decide +kernel
theorem dX0_loadOf_20 : decode cX0_loadOf 20 = .ok (.aload_n 0, 1) := by decide +kernel
theorem dX0_loadOf_21 : decode cX0_loadOf 21 = .ok (.getfield 49, 3) := by decide +kernel
theorem dX0_loadOf_24 : decode cX0_loadOf 24 = .ok (.iadd, 1) := by decide +kernel
theorem dX0_loadOf_25 : decode cX0_loadOf 25 = .ok (.ireturn, 1) := by decide +kernel
theorem dX0_dustTogether_0 : decode cX0_dustTogether 0 = .ok (.aload_n 0, 1) := by decide +kernel
theorem dX0_dustTogether_1 : decode cX0_dustTogether 1 = .ok (.getfield 25, 3) := by decide +kernel
theorem dX0_dustTogether_4 : decode cX0_dustTogether 4 = .ok (.aload_n 0, 1) := by decide +kernel
theorem dX0_dustTogether_5 : decode cX0_dustTogether 5 = .ok (.getfield 61, 3) := by decide +kernel
theorem dX0_dustTogether_8 : decode cX0_dustTogether 8 = .ok (.invokestatic 154, 3) := by decide +kernel
theorem dX0_dustTogether_11 : decode cX0_dustTogether 11 = .ok (.ireturn, 1) := by decide +kernel
theorem dX0_distanceTo_0 : decode cX0_distanceTo 0 = .ok (.getstatic 158, 3) := by decide +kernel
theorem dX0_distanceTo_3 : decode cX0_distanceTo 3 = .ok (.iload_n 1, 1) := by decide +kernel
theorem dX0_distanceTo_4 : decode cX0_distanceTo 4 = .ok (.iaload, 1) := by decide +kernel
theorem dX0_distanceTo_5 : decode cX0_distanceTo 5 = .ok (.getstatic 158, 3) := by decide +kernel
theorem dX0_distanceTo_8 : decode cX0_distanceTo 8 = .ok (.aload_n 0, 1) := by decide +kernel
theorem dX0_distanceTo_9 : decode cX0_distanceTo 9 = .ok (.getfield 46, 3) := by decide +kernel
theorem dX0_distanceTo_12 : decode cX0_distanceTo 12 = .ok (.iaload, 1) := by decide +kernel
theorem dX0_distanceTo_13 : decode cX0_distanceTo 13 = .ok (.isub, 1) := by decide +kernel
theorem dX0_distanceTo_14 : decode cX0_distanceTo 14 = .ok (.invokestatic 161, 3) := by decide +kernel
theorem dX0_distanceTo_17 : decode cX0_distanceTo 17 = .ok (.ireturn, 1) := by decide +kernel
theorem dX0_isOathInForce_0 : decode cX0_isOathInForce 0 = .ok (.aload_n 0, 1) := by decide +kernel
theorem dX0_isOathInForce_1 : decode cX0_isOathInForce 1 = .ok (.getfield 43, 3) := by decide +kernel
theorem dX0_isOathInForce_4 : decode cX0_isOathInForce 4 = .ok (.aload_n 0, 1) := by decide +kernel
theorem dX0_isOathInForce_5 : decode cX0_isOathInForce 5 = .ok (.getfield 40, 3) := by decide +kernel
theorem dX0_isOathInForce_8 : decode cX0_isOathInForce 8 = .ok (.iload_n 1, 1) := by decide +kernel
theorem dX0_isOathInForce_9 : decode cX0_isOathInForce 9 = .ok (.iaload, 1) := by decide +kernel
theorem dX0_isOathInForce_10 : decode cX0_isOathInForce 10 = .ok (.if_icmp .gt 7, 3) := by decide +kernel
theorem dX0_isOathInForce_13 : decode cX0_isOathInForce 13 = .ok (.iconst 1, 1) := by decide +kernel
theorem dX0_isOathInForce_14 : decode cX0_isOathInForce 14 = .ok (.goto 4, 3) := by decide +kernel
theorem dX0_isOathInForce_17 : decode cX0_isOathInForce 17 = .ok (.iconst 0, 1) := by decide +kernel
theorem dX0_isOathInForce_18 : decode cX0_isOathInForce 18 = .ok (.ireturn, 1) := by decide +kernel
theorem dX0_oathDaysLeft_0 : decode cX0_oathDaysLeft 0 = .ok (.aload_n 0, 1) := by decide +kernel
theorem dX0_oathDaysLeft_1 : decode cX0_oathDaysLeft 1 = .ok (.getfield 40, 3) := by decide +kernel
theorem dX0_oathDaysLeft_4 : decode cX0_oathDaysLeft 4 = .ok (.aload_n 0, 1) := by decide +kernel
theorem dX0_oathDaysLeft_5 : decode cX0_oathDaysLeft 5 = .ok (.getfield 46, 3) := by decide +kernel
theorem dX0_oathDaysLeft_8 : decode cX0_oathDaysLeft 8 = .ok (.iaload, 1) := by decide +kernel
theorem dX0_oathDaysLeft_9 : decode cX0_oathDaysLeft 9 = .ok (.aload_n 0, 1) := by decide +kernel
theorem dX0_oathDaysLeft_10 : decode cX0_oathDaysLeft 10 = .ok (.getfield 43, 3) := by decide +kernel
theorem dX0_oathDaysLeft_13 : decode cX0_oathDaysLeft 13 = .ok (.isub, 1) := by decide +kernel
theorem dX0_oathDaysLeft_14 : decode cX0_oathDaysLeft 14 = .ok (.iconst 1, 1) := by decide +kernel
theorem dX0_oathDaysLeft_15 : decode cX0_oathDaysLeft 15 = .ok (.iadd, 1) := by decide +kernel
theorem dX0_oathDaysLeft_16 : decode cX0_oathDaysLeft 16 = .ok (.ireturn, 1) := by decide +kernel
theorem dX0_oathsInForce_0 : decode cX0_oathsInForce 0 = .ok (.iconst 0, 1) := by decide +kernel
theorem dX0_oathsInForce_1 : decode cX0_oathsInForce 1 = .ok (.istore_n 1, 1) := by decide +kernel
theorem dX0_oathsInForce_2 : decode cX0_oathsInForce 2 = .ok (.iconst 0, 1) := by decide +kernel
theorem dX0_oathsInForce_3 : decode cX0_oathsInForce 3 = .ok (.istore_n 2, 1) := by decide +kernel
theorem dX0_oathsInForce_4 : decode cX0_oathsInForce 4 = .ok (.iload_n 2, 1) := by decide +kernel
theorem dX0_oathsInForce_5 : decode cX0_oathsInForce 5 = .ok (.iconst 4, 1) := by decide +kernel
theorem dX0_oathsInForce_6 : decode cX0_oathsInForce 6 = .ok (.if_icmp .ge 20, 3) := by decide +kernel
theorem dX0_oathsInForce_9 : decode cX0_oathsInForce 9 = .ok (.aload_n 0, 1) := by decide +kernel
theorem dX0_oathsInForce_10 : decode cX0_oathsInForce 10 = .ok (.iload_n 2, 1) := by decide +kernel
theorem dX0_oathsInForce_11 : decode cX0_oathsInForce 11 = .ok (.invokevirtual 139, 3) := by decide +kernel
theorem dX0_oathsInForce_14 : decode cX0_oathsInForce 14 = .ok (.ifCond .eq 6, 3) := by decide +kernel
theorem dX0_oathsInForce_17 : decode cX0_oathsInForce 17 = .ok (.iinc 1 1, 3) := by decide +kernel
theorem dX0_oathsInForce_20 : decode cX0_oathsInForce 20 = .ok (.iinc 2 1, 3) := by decide +kernel
theorem dX0_oathsInForce_23 : decode cX0_oathsInForce 23 = .ok (.goto (-19), 3) := by decide +kernel
theorem dX0_oathsInForce_26 : decode cX0_oathsInForce 26 = .ok (.iload_n 1, 1) := by decide +kernel
theorem dX0_oathsInForce_27 : decode cX0_oathsInForce 27 = .ok (.ireturn, 1) := by decide +kernel
theorem dX0_shortnessOf_0 : decode cX0_shortnessOf 0 = .ok (.aload_n 0, 1) := by decide +kernel
theorem dX0_shortnessOf_1 : decode cX0_shortnessOf 1 = .ok (.getfield 37, 3) := by decide +kernel
theorem dX0_shortnessOf_4 : decode cX0_shortnessOf 4 = .ok (.iload_n 1, 1) := by decide +kernel
theorem dX0_shortnessOf_5 : decode cX0_shortnessOf 5 = .ok (.iaload, 1) := by decide +kernel
theorem dX0_shortnessOf_6 : decode cX0_shortnessOf 6 = .ok (.bipush 8, 2) := by decide +kernel
theorem dX0_shortnessOf_8 : decode cX0_shortnessOf 8 = .ok (.idiv, 1) := by decide +kernel
theorem dX0_shortnessOf_9 : decode cX0_shortnessOf 9 = .ok (.istore_n 2, 1) := by decide +kernel
theorem dX0_shortnessOf_10 : decode cX0_shortnessOf 10 = .ok (.iload_n 2, 1) := by decide +kernel
theorem dX0_shortnessOf_11 : decode cX0_shortnessOf 11 = .ok (.getstatic 164, 3) := by decide +kernel
theorem dX0_shortnessOf_14 : decode cX0_shortnessOf 14 = .ok (.iload_n 1, 1) := by decide +kernel
theorem dX0_shortnessOf_15 : decode cX0_shortnessOf 15 = .ok (.iaload, 1) := by decide +kernel
theorem dX0_shortnessOf_16 : decode cX0_shortnessOf 16 = .ok (.if_icmp .ge 7, 3) := by decide +kernel
theorem dX0_shortnessOf_19 : decode cX0_shortnessOf 19 = .ok (.iload_n 2, 1) := by decide +kernel
theorem dX0_shortnessOf_20 : decode cX0_shortnessOf 20 = .ok (.goto 8, 3) := by decide +kernel
theorem dX0_shortnessOf_23 : decode cX0_shortnessOf 23 = .ok (.getstatic 164, 3) := by decide +kernel
theorem dX0_shortnessOf_26 : decode cX0_shortnessOf 26 = .ok (.iload_n 1, 1) := by decide +kernel
theorem dX0_shortnessOf_27 : decode cX0_shortnessOf 27 = .ok (.iaload, 1) := by decide +kernel
theorem dX0_shortnessOf_28 : decode cX0_shortnessOf 28 = .ok (.ireturn, 1) := by decide +kernel
theorem dX0_usesToBeShorter_0 : decode cX0_usesToBeShorter 0 = .ok (.aload_n 0, 1) := by decide +kernel
theorem dX0_usesToBeShorter_1 : decode cX0_usesToBeShorter 1 = .ok (.iload_n 1, 1) := by decide +kernel
theorem dX0_usesToBeShorter_2 : decode cX0_usesToBeShorter 2 = .ok (.invokevirtual 143, 3) := by decide +kernel
theorem dX0_usesToBeShorter_5 : decode cX0_usesToBeShorter 5 = .ok (.getstatic 164, 3) := by decide +kernel
theorem dX0_usesToBeShorter_8 : decode cX0_usesToBeShorter 8 = .ok (.iload_n 1, 1) := by decide +kernel
theorem dX0_usesToBeShorter_9 : decode cX0_usesToBeShorter 9 = .ok (.iaload, 1) := by decide +kernel
theorem dX0_usesToBeShorter_10 : decode cX0_usesToBeShorter 10 = .ok (.if_icmp .lt 5, 3) := by decide +kernel
theorem dX0_usesToBeShorter_13 : decode cX0_usesToBeShorter 13 = .ok (.iconst (-1), 1) := by decide +kernel
theorem dX0_usesToBeShorter_14 : decode cX0_usesToBeShorter 14 = .ok (.ireturn, 1) := by decide +kernel
theorem dX0_usesToBeShorter_15 : decode cX0_usesToBeShorter 15 = .ok (.bipush 8, 2) := by decide +kernel
theorem dX0_usesToBeShorter_17 : decode cX0_usesToBeShorter 17 = .ok (.aload_n 0, 1) := by decide +kernel
theorem dX0_usesToBeShorter_18 : decode cX0_usesToBeShorter 18 = .ok (.getfield 37, 3) := by decide +kernel
theorem dX0_usesToBeShorter_21 : decode cX0_usesToBeShorter 21 = .ok (.iload_n 1, 1) := by decide +kernel
theorem dX0_usesToBeShorter_22 : decode cX0_usesToBeShorter 22 = .ok (.iaload, 1) := by decide +kernel
theorem dX0_usesToBeShorter_23 : decode cX0_usesToBeShorter 23 = .ok (.bipush 8, 2) := by decide +kernel
theorem dX0_usesToBeShorter_25 : decode cX0_usesToBeShorter 25 = .ok (.irem, 1) := by decide +kernel
theorem dX0_usesToBeShorter_26 : decode cX0_usesToBeShorter 26 = .ok (.isub, 1) := by decide +kernel
theorem dX0_usesToBeShorter_27 : decode cX0_usesToBeShorter 27 = .ok (.ireturn, 1) := by decide +kernel
theorem dX0_shortnessTogether_0 : decode cX0_shortnessTogether 0 = .ok (.iconst 0, 1) := by decide +kernel
theorem dX0_shortnessTogether_1 : decode cX0_shortnessTogether 1 = .ok (.istore_n 2, 1) := by decide +kernel
theorem dX0_shortnessTogether_2 : decode cX0_shortnessTogether 2 = .ok (.iconst 0, 1) := by decide +kernel
theorem dX0_shortnessTogether_3 : decode cX0_shortnessTogether 3 = .ok (.istore_n 3, 1) := by decide +kernel
theorem dX0_shortnessTogether_4 : decode cX0_shortnessTogether 4 = .ok (.iload_n 3, 1) := by decide +kernel
theorem dX0_shortnessTogether_5 : decode cX0_shortnessTogether 5 = .ok (.bipush 8, 2) := by decide +kernel
theorem dX0_shortnessTogether_7 : decode cX0_shortnessTogether 7 = .ok (.if_icmp .ge 25, 3) := by decide +kernel
theorem dX0_shortnessTogether_10 : decode cX0_shortnessTogether 10 = .ok (.iload_n 3, 1) := by decide +kernel
theorem dX0_shortnessTogether_11 : decode cX0_shortnessTogether 11 = .ok (.iload_n 1, 1) := by decide +kernel
theorem dX0_shortnessTogether_12 : decode cX0_shortnessTogether 12 = .ok (.invokestatic 126, 3) := by decide +kernel
theorem dX0_shortnessTogether_15 : decode cX0_shortnessTogether 15 = .ok (.ifCond .eq 11, 3) := by decide +kernel
theorem dX0_shortnessTogether_18 : decode cX0_shortnessTogether 18 = .ok (.iload_n 2, 1) := by decide +kernel
theorem dX0_shortnessTogether_19 : decode cX0_shortnessTogether 19 = .ok (.aload_n 0, 1) := by decide +kernel
theorem dX0_shortnessTogether_20 : decode cX0_shortnessTogether 20 = .ok (.iload_n 3, 1) := by decide +kernel
theorem dX0_shortnessTogether_21 : decode cX0_shortnessTogether 21 = .ok (.invokevirtual 143, 3) := by decide +kernel
theorem dX0_shortnessTogether_24 : decode cX0_shortnessTogether 24 = .ok (.iadd, 1) := by decide +kernel
theorem dX0_shortnessTogether_25 : decode cX0_shortnessTogether 25 = .ok (.istore_n 2, 1) := by decide +kernel
theorem dX0_shortnessTogether_26 : decode cX0_shortnessTogether 26 = .ok (.iinc 3 1, 3) := by decide +kernel
theorem dX0_shortnessTogether_29 : decode cX0_shortnessTogether 29 = .ok (.goto (-25), 3) := by decide +kernel
theorem dX0_shortnessTogether_32 : decode cX0_shortnessTogether 32 = .ok (.iload_n 2, 1) := by decide +kernel
theorem dX0_shortnessTogether_33 : decode cX0_shortnessTogether 33 = .ok (.ireturn, 1) := by decide +kernel
theorem dX0_weightsFor_0 : decode cX0_weightsFor 0 = .ok (.iconst 0, 1) := by decide +kernel
theorem dX0_weightsFor_1 : decode cX0_weightsFor 1 = .ok (.istore_n 2, 1) := by decide +kernel
theorem dX0_weightsFor_2 : decode cX0_weightsFor 2 = .ok (.iconst 0, 1) := by decide +kernel
theorem dX0_weightsFor_3 : decode cX0_weightsFor 3 = .ok (.istore_n 3, 1) := by decide +kernel
theorem dX0_weightsFor_4 : decode cX0_weightsFor 4 = .ok (.bipush 7, 2) := by decide +kernel
theorem dX0_weightsFor_6 : decode cX0_weightsFor 6 = .ok (.istore 4, 2) := by decide +kernel
theorem dX0_weightsFor_8 : decode cX0_weightsFor 8 = .ok (.iload 4, 2) := by decide +kernel
theorem dX0_weightsFor_10 : decode cX0_weightsFor 10 = .ok (.ifCond .lt 44, 3) := by decide +kernel
theorem dX0_weightsFor_13 : decode cX0_weightsFor 13 = .ok (.getstatic 167, 3) := by decide +kernel
theorem dX0_weightsFor_16 : decode cX0_weightsFor 16 = .ok (.iload 4, 2) := by decide +kernel
theorem dX0_weightsFor_18 : decode cX0_weightsFor 18 = .ok (.iaload, 1) := by decide +kernel
theorem dX0_weightsFor_19 : decode cX0_weightsFor 19 = .ok (.aload_n 0, 1) := by decide +kernel
theorem dX0_weightsFor_20 : decode cX0_weightsFor 20 = .ok (.iload 4, 2) := by decide +kernel
theorem dX0_weightsFor_22 : decode cX0_weightsFor 22 = .ok (.invokevirtual 143, 3) := by decide +kernel
theorem dX0_weightsFor_25 : decode cX0_weightsFor 25 = .ok (.isub, 1) := by decide +kernel
theorem dX0_weightsFor_26 : decode cX0_weightsFor 26 = .ok (.istore 5, 2) := by decide +kernel
theorem dX0_weightsFor_28 : decode cX0_weightsFor 28 = .ok (.iload_n 3, 1) := by decide +kernel
theorem dX0_weightsFor_29 : decode cX0_weightsFor 29 = .ok (.iload 5, 2) := by decide +kernel
theorem dX0_weightsFor_31 : decode cX0_weightsFor 31 = .ok (.iadd, 1) := by decide +kernel
theorem dX0_weightsFor_32 : decode cX0_weightsFor 32 = .ok (.iload_n 1, 1) := by decide +kernel
theorem dX0_weightsFor_33 : decode cX0_weightsFor 33 = .ok (.if_icmp .gt 15, 3) := by decide +kernel
theorem dX0_weightsFor_36 : decode cX0_weightsFor 36 = .ok (.iload_n 3, 1) := by decide +kernel
theorem dX0_weightsFor_37 : decode cX0_weightsFor 37 = .ok (.iload 5, 2) := by decide +kernel
theorem dX0_weightsFor_39 : decode cX0_weightsFor 39 = .ok (.iadd, 1) := by decide +kernel
theorem dX0_weightsFor_40 : decode cX0_weightsFor 40 = .ok (.istore_n 3, 1) := by decide +kernel
theorem dX0_weightsFor_41 : decode cX0_weightsFor 41 = .ok (.iload_n 2, 1) := by decide +kernel
theorem dX0_weightsFor_42 : decode cX0_weightsFor 42 = .ok (.iconst 1, 1) := by decide +kernel
theorem dX0_weightsFor_43 : decode cX0_weightsFor 43 = .ok (.iload 4, 2) := by decide +kernel
theorem dX0_weightsFor_45 : decode cX0_weightsFor 45 = .ok (.ishl, 1) := by decide +kernel
theorem dX0_weightsFor_46 : decode cX0_weightsFor 46 = .ok (.ior, 1) := by decide +kernel
theorem dX0_weightsFor_47 : decode cX0_weightsFor 47 = .ok (.istore_n 2, 1) := by decide +kernel
theorem dX0_weightsFor_48 : decode cX0_weightsFor 48 = .ok (.iinc 4 (-1), 3) := by decide +kernel
theorem dX0_weightsFor_51 : decode cX0_weightsFor 51 = .ok (.goto (-43), 3) := by decide +kernel
theorem dX0_weightsFor_54 : decode cX0_weightsFor 54 = .ok (.iload_n 2, 1) := by decide +kernel
theorem dX0_weightsFor_55 : decode cX0_weightsFor 55 = .ok (.ireturn, 1) := by decide +kernel
theorem dX0_restOf_0 : decode cX0_restOf 0 = .ok (.aload_n 0, 1) := by decide +kernel
theorem dX0_restOf_1 : decode cX0_restOf 1 = .ok (.iload_n 1, 1) := by decide +kernel
theorem dX0_restOf_2 : decode cX0_restOf 2 = .ok (.invokevirtual 123, 3) := by decide +kernel
theorem dX0_restOf_5 : decode cX0_restOf 5 = .ok (.istore_n 2, 1) := by decide +kernel
theorem dX0_restOf_6 : decode cX0_restOf 6 = .ok (.iload_n 1, 1) := by decide +kernel
theorem dX0_restOf_7 : decode cX0_restOf 7 = .ok (.iload_n 2, 1) := by decide +kernel
theorem dX0_restOf_8 : decode cX0_restOf 8 = .ok (.invokestatic 130, 3) := by decide +kernel
theorem dX0_restOf_11 : decode cX0_restOf 11 = .ok (.aload_n 0, 1) := by decide +kernel
theorem dX0_restOf_12 : decode cX0_restOf 12 = .ok (.iload_n 2, 1) := by decide +kernel
theorem dX0_restOf_13 : decode cX0_restOf 13 = .ok (.invokevirtual 170, 3) := by decide +kernel
theorem dX0_restOf_16 : decode cX0_restOf 16 = .ok (.isub, 1) := by decide +kernel
theorem dX0_restOf_17 : decode cX0_restOf 17 = .ok (.isub, 1) := by decide +kernel
theorem dX0_restOf_18 : decode cX0_restOf 18 = .ok (.ireturn, 1) := by decide +kernel
theorem dX0_netOf_0 : decode cX0_netOf 0 = .ok (.aload_n 0, 1) := by decide +kernel
theorem dX0_netOf_1 : decode cX0_netOf 1 = .ok (.aload_n 0, 1) := by decide +kernel
theorem dX0_netOf_2 : decode cX0_netOf 2 = .ok (.iload_n 1, 1) := by decide +kernel
theorem dX0_netOf_3 : decode cX0_netOf 3 = .ok (.invokevirtual 120, 3) := by decide +kernel
theorem dX0_netOf_6 : decode cX0_netOf 6 = .ok (.invokevirtual 123, 3) := by decide +kernel
theorem dX0_netOf_9 : decode cX0_netOf 9 = .ok (.invokestatic 130, 3) := by decide +kernel
theorem dX0_netOf_12 : decode cX0_netOf 12 = .ok (.aload_n 0, 1) := by decide +kernel
theorem dX0_netOf_13 : decode cX0_netOf 13 = .ok (.getfield 22, 3) := by decide +kernel
theorem dX0_netOf_16 : decode cX0_netOf 16 = .ok (.iload_n 1, 1) := by decide +kernel
theorem dX0_netOf_17 : decode cX0_netOf 17 = .ok (.iaload, 1) := by decide +kernel
theorem dX0_netOf_18 : decode cX0_netOf 18 = .ok (.isub, 1) := by decide +kernel
theorem dX0_netOf_19 : decode cX0_netOf 19 = .ok (.ireturn, 1) := by decide +kernel
theorem dX0_coinsFor_0 : decode cX0_coinsFor 0 = .ok (.iload_n 3, 1) := by decide +kernel
theorem dX0_coinsFor_1 : decode cX0_coinsFor 1 = .ok (.ifCond .gt 5, 3) := by decide +kernel
theorem dX0_coinsFor_4 : decode cX0_coinsFor 4 = .ok (.iconst 0, 1) := by decide +kernel
theorem dX0_coinsFor_5 : decode cX0_coinsFor 5 = .ok (.ireturn, 1) := by decide +kernel
theorem dX0_coinsFor_6 : decode cX0_coinsFor 6 = .ok (.iload_n 2, 1) := by decide +kernel
theorem dX0_coinsFor_7 : decode cX0_coinsFor 7 = .ok (.aload_n 0, 1) := by decide +kernel
theorem dX0_coinsFor_8 : decode cX0_coinsFor 8 = .ok (.getfield 28, 3) := by decide +kernel
theorem dX0_coinsFor_11 : decode cX0_coinsFor 11 = .ok (.iload_n 1, 1) := by decide +kernel
theorem dX0_coinsFor_12 : decode cX0_coinsFor 12 = .ok (.iaload, 1) := by decide +kernel
theorem dX0_coinsFor_13 : decode cX0_coinsFor 13 = .ok (.invokestatic 173, 3) := by decide +kernel
theorem dX0_coinsFor_16 : decode cX0_coinsFor 16 = .ok (.iload_n 3, 1) := by decide +kernel
theorem dX0_coinsFor_17 : decode cX0_coinsFor 17 = .ok (.imul, 1) := by decide +kernel
theorem dX0_coinsFor_18 : decode cX0_coinsFor 18 = .ok (.bipush 10, 2) := by decide +kernel
theorem dX0_coinsFor_20 : decode cX0_coinsFor 20 = .ok (.idiv, 1) := by decide +kernel
theorem dX0_coinsFor_21 : decode cX0_coinsFor 21 = .ok (.istore 4, 2) := by decide +kernel
theorem dX0_coinsFor_23 : decode cX0_coinsFor 23 = .ok (.aload_n 0, 1) := by decide +kernel
theorem dX0_coinsFor_24 : decode cX0_coinsFor 24 = .ok (.iload_n 2, 1) := by decide +kernel
theorem dX0_coinsFor_25 : decode cX0_coinsFor 25 = .ok (.invokevirtual 139, 3) := by decide +kernel
theorem dX0_coinsFor_28 : decode cX0_coinsFor 28 = .ok (.ifCond .eq 14, 3) := by decide +kernel
theorem dX0_coinsFor_31 : decode cX0_coinsFor 31 = .ok (.iload 4, 2) := by decide +kernel
theorem dX0_coinsFor_33 : decode cX0_coinsFor 33 = .ok (.iload 4, 2) := by decide +kernel
theorem dX0_coinsFor_35 : decode cX0_coinsFor 35 = .ok (.bipush 10, 2) := by decide +kernel
theorem dX0_coinsFor_37 : decode cX0_coinsFor 37 = .ok (.idiv, 1) := by decide +kernel
theorem dX0_coinsFor_38 : decode cX0_coinsFor 38 = .ok (.iadd, 1) := by decide +kernel
theorem dX0_coinsFor_39 : decode cX0_coinsFor 39 = .ok (.goto 5, 3) := by decide +kernel
theorem dX0_coinsFor_42 : decode cX0_coinsFor 42 = .ok (.iload 4, 2) := by decide +kernel
theorem dX0_coinsFor_44 : decode cX0_coinsFor 44 = .ok (.ireturn, 1) := by decide +kernel
theorem dX0_marketThatGivesMost_0 : decode cX0_marketThatGivesMost 0 = .ok (.aload_n 0, 1) := by decide +kernel
theorem dX0_marketThatGivesMost_1 : decode cX0_marketThatGivesMost 1 = .ok (.iload_n 1, 1) := by decide +kernel
theorem dX0_marketThatGivesMost_2 : decode cX0_marketThatGivesMost 2 = .ok (.invokevirtual 176, 3) := by decide +kernel
theorem dX0_marketThatGivesMost_5 : decode cX0_marketThatGivesMost 5 = .ok (.istore_n 2, 1) := by decide +kernel
theorem dX0_marketThatGivesMost_6 : decode cX0_marketThatGivesMost 6 = .ok (.iconst 0, 1) := by decide +kernel
theorem dX0_marketThatGivesMost_7 : decode cX0_marketThatGivesMost 7 = .ok (.istore_n 3, 1) := by decide +kernel
theorem dX0_marketThatGivesMost_8 : decode cX0_marketThatGivesMost 8 = .ok (.iconst 1, 1) := by decide +kernel
theorem dX0_marketThatGivesMost_9 : decode cX0_marketThatGivesMost 9 = .ok (.istore 4, 2) := by decide +kernel
theorem dX0_marketThatGivesMost_11 : decode cX0_marketThatGivesMost 11 = .ok (.iload 4, 2) := by decide +kernel
theorem dX0_marketThatGivesMost_13 : decode cX0_marketThatGivesMost 13 = .ok (.iconst 4, 1) := by decide +kernel
theorem dX0_marketThatGivesMost_14 : decode cX0_marketThatGivesMost 14 = .ok (.if_icmp .ge 54, 3) := by decide +kernel
theorem dX0_marketThatGivesMost_17 : decode cX0_marketThatGivesMost 17 = .ok (.aload_n 0, 1) := by decide +kernel
theorem dX0_marketThatGivesMost_18 : decode cX0_marketThatGivesMost 18 = .ok (.iload_n 1, 1) := by decide +kernel
theorem dX0_marketThatGivesMost_19 : decode cX0_marketThatGivesMost 19 = .ok (.iload 4, 2) := by decide +kernel
theorem dX0_marketThatGivesMost_21 : decode cX0_marketThatGivesMost 21 = .ok (.iload_n 2, 1) := by decide +kernel
theorem dX0_marketThatGivesMost_22 : decode cX0_marketThatGivesMost 22 = .ok (.invokevirtual 133, 3) := by decide +kernel
theorem dX0_marketThatGivesMost_25 : decode cX0_marketThatGivesMost 25 = .ok (.aload_n 0, 1) := by decide +kernel
theorem dX0_marketThatGivesMost_26 : decode cX0_marketThatGivesMost 26 = .ok (.iload_n 1, 1) := by decide +kernel
theorem dX0_marketThatGivesMost_27 : decode cX0_marketThatGivesMost 27 = .ok (.iload_n 3, 1) := by decide +kernel
theorem dX0_marketThatGivesMost_28 : decode cX0_marketThatGivesMost 28 = .ok (.iload_n 2, 1) := by decide +kernel
theorem dX0_marketThatGivesMost_29 : decode cX0_marketThatGivesMost 29 = .ok (.invokevirtual 133, 3) := by decide +kernel
theorem dX0_marketThatGivesMost_32 : decode cX0_marketThatGivesMost 32 = .ok (.isub, 1) := by decide +kernel
theorem dX0_marketThatGivesMost_33 : decode cX0_marketThatGivesMost 33 = .ok (.istore 5, 2) := by decide +kernel
theorem dX0_marketThatGivesMost_35 : decode cX0_marketThatGivesMost 35 = .ok (.iload 5, 2) := by decide +kernel
theorem dX0_marketThatGivesMost_37 : decode cX0_marketThatGivesMost 37 = .ok (.ifCond .gt 22, 3) := by decide +kernel
theorem dX0_marketThatGivesMost_40 : decode cX0_marketThatGivesMost 40 = .ok (.iload 5, 2) := by decide +kernel
theorem dX0_marketThatGivesMost_42 : decode cX0_marketThatGivesMost 42 = .ok (.ifCond .ne 20, 3) := by decide +kernel
theorem dX0_marketThatGivesMost_45 : decode cX0_marketThatGivesMost 45 = .ok (.aload_n 0, 1) := by decide +kernel
theorem dX0_marketThatGivesMost_46 : decode cX0_marketThatGivesMost 46 = .ok (.iload 4, 2) := by decide +kernel
theorem dX0_marketThatGivesMost_48 : decode cX0_marketThatGivesMost 48 = .ok (.invokevirtual 136, 3) := by decide +kernel
theorem dX0_marketThatGivesMost_51 : decode cX0_marketThatGivesMost 51 = .ok (.aload_n 0, 1) := by decide +kernel
theorem dX0_marketThatGivesMost_52 : decode cX0_marketThatGivesMost 52 = .ok (.iload_n 3, 1) := by decide +kernel
theorem dX0_marketThatGivesMost_53 : decode cX0_marketThatGivesMost 53 = .ok (.invokevirtual 136, 3) := by decide +kernel
theorem dX0_marketThatGivesMost_56 : decode cX0_marketThatGivesMost 56 = .ok (.if_icmp .ge 6, 3) := by decide +kernel
theorem dX0_marketThatGivesMost_59 : decode cX0_marketThatGivesMost 59 = .ok (.iload 4, 2) := by decide +kernel
theorem dX0_marketThatGivesMost_61 : decode cX0_marketThatGivesMost 61 = .ok (.istore_n 3, 1) := by decide +kernel
theorem dX0_marketThatGivesMost_62 : decode cX0_marketThatGivesMost 62 = .ok (.iinc 4 1, 3) := by decide +kernel
theorem dX0_marketThatGivesMost_65 : decode cX0_marketThatGivesMost 65 = .ok (.goto (-54), 3) := by decide +kernel
theorem dX0_marketThatGivesMost_68 : decode cX0_marketThatGivesMost 68 = .ok (.iload_n 3, 1) := by decide +kernel
theorem dX0_marketThatGivesMost_69 : decode cX0_marketThatGivesMost 69 = .ok (.ireturn, 1) := by decide +kernel
theorem dX0_bagOfRank_0 : decode cX0_bagOfRank 0 = .ok (.iconst 0, 1) := by decide +kernel
theorem dX0_bagOfRank_1 : decode cX0_bagOfRank 1 = .ok (.istore_n 2, 1) := by decide +kernel
theorem dX0_bagOfRank_2 : decode cX0_bagOfRank 2 = .ok (.iload_n 2, 1) := by decide +kernel
theorem dX0_bagOfRank_3 : decode cX0_bagOfRank 3 = .ok (.aload_n 0, 1) := by decide +kernel
theorem dX0_bagOfRank_4 : decode cX0_bagOfRank 4 = .ok (.getfield 61, 3) := by decide +kernel
theorem dX0_bagOfRank_7 : decode cX0_bagOfRank 7 = .ok (.if_icmp .ge 49, 3) := by decide +kernel
theorem dX0_bagOfRank_10 : decode cX0_bagOfRank 10 = .ok (.iconst 0, 1) := by decide +kernel
theorem dX0_bagOfRank_11 : decode cX0_bagOfRank 11 = .ok (.istore_n 3, 1) := by decide +kernel
theorem dX0_bagOfRank_12 : decode cX0_bagOfRank 12 = .ok (.iconst 0, 1) := by decide +kernel
theorem dX0_bagOfRank_13 : decode cX0_bagOfRank 13 = .ok (.istore 4, 2) := by decide +kernel
theorem dX0_bagOfRank_15 : decode cX0_bagOfRank 15 = .ok (.iload 4, 2) := by decide +kernel
theorem dX0_bagOfRank_17 : decode cX0_bagOfRank 17 = .ok (.aload_n 0, 1) := by decide +kernel
theorem dX0_bagOfRank_18 : decode cX0_bagOfRank 18 = .ok (.getfield 61, 3) := by decide +kernel
theorem dX0_bagOfRank_21 : decode cX0_bagOfRank 21 = .ok (.if_icmp .ge 22, 3) := by decide +kernel
theorem dX0_bagOfRank_24 : decode cX0_bagOfRank 24 = .ok (.aload_n 0, 1) := by decide +kernel
theorem dX0_bagOfRank_25 : decode cX0_bagOfRank 25 = .ok (.iload 4, 2) := by decide +kernel
theorem dX0_bagOfRank_27 : decode cX0_bagOfRank 27 = .ok (.iload_n 2, 1) := by decide +kernel
theorem dX0_bagOfRank_28 : decode cX0_bagOfRank 28 = .ok (.invokevirtual 179, 3) := by decide +kernel
theorem dX0_bagOfRank_31 : decode cX0_bagOfRank 31 = .ok (.ifCond .eq 6, 3) := by decide +kernel
theorem dX0_bagOfRank_34 : decode cX0_bagOfRank 34 = .ok (.iinc 3 1, 3) := by decide +kernel
theorem dX0_bagOfRank_37 : decode cX0_bagOfRank 37 = .ok (.iinc 4 1, 3) := by decide +kernel
theorem dX0_bagOfRank_40 : decode cX0_bagOfRank 40 = .ok (.goto (-25), 3) := by decide +kernel
theorem dX0_bagOfRank_43 : decode cX0_bagOfRank 43 = .ok (.iload_n 3, 1) := by decide +kernel
theorem dX0_bagOfRank_44 : decode cX0_bagOfRank 44 = .ok (.iload_n 1, 1) := by decide +kernel
theorem dX0_bagOfRank_45 : decode cX0_bagOfRank 45 = .ok (.if_icmp .ne 5, 3) := by decide +kernel
theorem dX0_bagOfRank_48 : decode cX0_bagOfRank 48 = .ok (.iload_n 2, 1) := by decide +kernel
theorem dX0_bagOfRank_49 : decode cX0_bagOfRank 49 = .ok (.ireturn, 1) := by decide +kernel
theorem dX0_bagOfRank_50 : decode cX0_bagOfRank 50 = .ok (.iinc 2 1, 3) := by decide +kernel
theorem dX0_bagOfRank_53 : decode cX0_bagOfRank 53 = .ok (.goto (-51), 3) := by decide +kernel
theorem dX0_bagOfRank_56 : decode cX0_bagOfRank 56 = .ok (.iconst (-1), 1) := by decide +kernel
theorem dX0_bagOfRank_57 : decode cX0_bagOfRank 57 = .ok (.ireturn, 1) := by decide +kernel
theorem dX0_isBefore_0 : decode cX0_isBefore 0 = .ok (.aload_n 0, 1) := by decide +kernel
theorem dX0_isBefore_1 : decode cX0_isBefore 1 = .ok (.getfield 31, 3) := by decide +kernel
theorem dX0_isBefore_4 : decode cX0_isBefore 4 = .ok (.iload_n 1, 1) := by decide +kernel
theorem dX0_isBefore_5 : decode cX0_isBefore 5 = .ok (.iaload, 1) := by decide +kernel
theorem dX0_isBefore_6 : decode cX0_isBefore 6 = .ok (.aload_n 0, 1) := by decide +kernel
theorem dX0_isBefore_7 : decode cX0_isBefore 7 = .ok (.getfield 31, 3) := by decide +kernel
theorem dX0_isBefore_10 : decode cX0_isBefore 10 = .ok (.iload_n 2, 1) := by decide +kernel
theorem dX0_isBefore_11 : decode cX0_isBefore 11 = .ok (.iaload, 1) := by decide +kernel
theorem dX0_isBefore_12 : decode cX0_isBefore 12 = .ok (.if_icmp .eq 24, 3) := by decide +kernel
theorem dX0_isBefore_15 : decode cX0_isBefore 15 = .ok (.aload_n 0, 1) := by decide +kernel
theorem dX0_isBefore_16 : decode cX0_isBefore 16 = .ok (.getfield 31, 3) := by decide +kernel
theorem dX0_isBefore_19 : decode cX0_isBefore 19 = .ok (.iload_n 1, 1) := by decide +kernel
theorem dX0_isBefore_20 : decode cX0_isBefore 20 = .ok (.iaload, 1) := by decide +kernel
theorem dX0_isBefore_21 : decode cX0_isBefore 21 = .ok (.aload_n 0, 1) := by decide +kernel
theorem dX0_isBefore_22 : decode cX0_isBefore 22 = .ok (.getfield 31, 3) := by decide +kernel
theorem dX0_isBefore_25 : decode cX0_isBefore 25 = .ok (.iload_n 2, 1) := by decide +kernel
theorem dX0_isBefore_26 : decode cX0_isBefore 26 = .ok (.iaload, 1) := by decide +kernel
theorem dX0_isBefore_27 : decode cX0_isBefore 27 = .ok (.if_icmp .le 7, 3) := by decide +kernel
theorem dX0_isBefore_30 : decode cX0_isBefore 30 = .ok (.iconst 1, 1) := by decide +kernel
theorem dX0_isBefore_31 : decode cX0_isBefore 31 = .ok (.goto 4, 3) := by decide +kernel
theorem dX0_isBefore_34 : decode cX0_isBefore 34 = .ok (.iconst 0, 1) := by decide +kernel
theorem dX0_isBefore_35 : decode cX0_isBefore 35 = .ok (.ireturn, 1) := by decide +kernel
theorem dX0_isBefore_36 : decode cX0_isBefore 36 = .ok (.aload_n 0, 1) := by decide +kernel
theorem dX0_isBefore_37 : decode cX0_isBefore 37 = .ok (.getfield 22, 3) := by decide +kernel
theorem dX0_isBefore_40 : decode cX0_isBefore 40 = .ok (.iload_n 1, 1) := by decide +kernel
theorem dX0_isBefore_41 : decode cX0_isBefore 41 = .ok (.iaload, 1) := by decide +kernel
theorem dX0_isBefore_42 : decode cX0_isBefore 42 = .ok (.aload_n 0, 1) := by decide +kernel
theorem dX0_isBefore_43 : decode cX0_isBefore 43 = .ok (.getfield 22, 3) := by decide +kernel
theorem dX0_isBefore_46 : decode cX0_isBefore 46 = .ok (.iload_n 2, 1) := by decide +kernel
theorem dX0_isBefore_47 : decode cX0_isBefore 47 = .ok (.iaload, 1) := by decide +kernel
theorem dX0_isBefore_48 : decode cX0_isBefore 48 = .ok (.if_icmp .eq 24, 3) := by decide +kernel
theorem dX0_isBefore_51 : decode cX0_isBefore 51 = .ok (.aload_n 0, 1) := by decide +kernel
theorem dX0_isBefore_52 : decode cX0_isBefore 52 = .ok (.getfield 22, 3) := by decide +kernel
theorem dX0_isBefore_55 : decode cX0_isBefore 55 = .ok (.iload_n 1, 1) := by decide +kernel
theorem dX0_isBefore_56 : decode cX0_isBefore 56 = .ok (.iaload, 1) := by decide +kernel
theorem dX0_isBefore_57 : decode cX0_isBefore 57 = .ok (.aload_n 0, 1) := by decide +kernel
theorem dX0_isBefore_58 : decode cX0_isBefore 58 = .ok (.getfield 22, 3) := by decide +kernel
theorem dX0_isBefore_61 : decode cX0_isBefore 61 = .ok (.iload_n 2, 1) := by decide +kernel
theorem dX0_isBefore_62 : decode cX0_isBefore 62 = .ok (.iaload, 1) := by decide +kernel
theorem dX0_isBefore_63 : decode cX0_isBefore 63 = .ok (.if_icmp .ge 7, 3) := by decide +kernel
theorem dX0_isBefore_66 : decode cX0_isBefore 66 = .ok (.iconst 1, 1) := by decide +kernel
theorem dX0_isBefore_67 : decode cX0_isBefore 67 = .ok (.goto 4, 3) := by decide +kernel
theorem dX0_isBefore_70 : decode cX0_isBefore 70 = .ok (.iconst 0, 1) := by decide +kernel
theorem dX0_isBefore_71 : decode cX0_isBefore 71 = .ok (.ireturn, 1) := by decide +kernel
theorem dX0_isBefore_72 : decode cX0_isBefore 72 = .ok (.iload_n 1, 1) := by decide +kernel
theorem dX0_isBefore_73 : decode cX0_isBefore 73 = .ok (.iload_n 2, 1) := by decide +kernel
theorem dX0_isBefore_74 : decode cX0_isBefore 74 = .ok (.if_icmp .ge 7, 3) := by decide +kernel
theorem dX0_isBefore_77 : decode cX0_isBefore 77 = .ok (.iconst 1, 1) := by decide +kernel
theorem dX0_isBefore_78 : decode cX0_isBefore 78 = .ok (.goto 4, 3) := by decide +kernel
theorem dX0_isBefore_81 : decode cX0_isBefore 81 = .ok (.iconst 0, 1) := by decide +kernel
theorem dX0_isBefore_82 : decode cX0_isBefore 82 = .ok (.ireturn, 1) := by decide +kernel
theorem dX1_init_0 : decode cX1_init 0 = .ok (.aload_n 0, 1) := by decide +kernel
theorem dX1_init_1 : decode cX1_init 1 = .ok (.invokespecial 3, 3) := by decide +kernel
theorem dX1_init_4 : decode cX1_init 4 = .ok (.aload_n 0, 1) := by decide +kernel
theorem dX1_init_5 : decode cX1_init 5 = .ok (.bipush 60, 2) := by decide +kernel
theorem dX1_init_7 : decode cX1_init 7 = .ok (.newarray .char, 2) := by decide +kernel
theorem dX1_init_9 : decode cX1_init 9 = .ok (.putfield 9, 3) := by decide +kernel
theorem dX1_init_12 : decode cX1_init 12 = .ok (.aload_n 0, 1) := by decide +kernel
theorem dX1_init_13 : decode cX1_init 13 = .ok (.iconst 3, 1) := by decide +kernel
theorem dX1_init_14 : decode cX1_init 14 = .ok (.newarray .int, 2) := by decide +kernel
theorem dX1_init_16 : decode cX1_init 16 = .ok (.putfield 15, 3) := by decide +kernel
theorem dX1_init_19 : decode cX1_init 19 = .ok (.return_, 1) := by decide +kernel
theorem dX1_countCommands_0 : decode cX1_countCommands 0 = .ok (.aload_n 0, 1) := by decide +kernel
theorem dX1_countCommands_1 : decode cX1_countCommands 1 = .ok (.iconst 0, 1) := by decide +kernel
theorem dX1_countCommands_2 : decode cX1_countCommands 2 = .ok (.putfield 19, 3) := by decide +kernel
theorem dX1_countCommands_5 : decode cX1_countCommands 5 = .ok (.iconst 1, 1) := by decide +kernel
theorem dX1_countCommands_6 : decode cX1_countCommands 6 = .ok (.istore_n 1, 1) := by decide +kernel
theorem dX1_countCommands_7 : decode cX1_countCommands 7 = .ok (.iload_n 1, 1) := by decide +kernel
theorem dX1_countCommands_8 : decode cX1_countCommands 8 = .ok (.bipush 60, 2) := by decide +kernel
theorem dX1_countCommands_10 : decode cX1_countCommands 10 = .ok (.if_icmp .gt 31, 3) := by decide +kernel
theorem dX1_countCommands_13 : decode cX1_countCommands 13 = .ok (.aload_n 0, 1) := by decide +kernel
theorem dX1_countCommands_14 : decode cX1_countCommands 14 = .ok (.invokevirtual 23, 3) := by decide +kernel
theorem dX1_countCommands_17 : decode cX1_countCommands 17 = .ok (.ifCond .ne 5, 3) := by decide +kernel
theorem dX1_countCommands_20 : decode cX1_countCommands 20 = .ok (.iconst (-1), 1) := by decide +kernel
theorem dX1_countCommands_21 : decode cX1_countCommands 21 = .ok (.ireturn, 1) := by decide +kernel
theorem dX1_countCommands_22 : decode cX1_countCommands 22 = .ok (.aload_n 0, 1) := by decide +kernel
theorem dX1_countCommands_23 : decode cX1_countCommands 23 = .ok (.getfield 19, 3) := by decide +kernel
theorem dX1_countCommands_26 : decode cX1_countCommands 26 = .ok (.aload_n 0, 1) := by decide +kernel
theorem dX1_countCommands_27 : decode cX1_countCommands 27 = .ok (.getfield 27, 3) := by decide +kernel
theorem dX1_countCommands_30 : decode cX1_countCommands 30 = .ok (.if_icmp .lt 5, 3) := by decide +kernel
theorem dX1_countCommands_33 : decode cX1_countCommands 33 = .ok (.iload_n 1, 1) := by decide +kernel
theorem dX1_countCommands_34 : decode cX1_countCommands 34 = .ok (.ireturn, 1) := by decide +kernel
theorem dX1_countCommands_35 : decode cX1_countCommands 35 = .ok (.iinc 1 1, 3) := by decide +kernel
theorem dX1_countCommands_38 : decode cX1_countCommands 38 = .ok (.goto (-31), 3) := by decide +kernel
theorem dX1_countCommands_41 : decode cX1_countCommands 41 = .ok (.iconst (-1), 1) := by decide +kernel
theorem dX1_countCommands_42 : decode cX1_countCommands 42 = .ok (.ireturn, 1) := by decide +kernel
theorem dX1_readCommand_0 : decode cX1_readCommand 0 = .ok (.aload_n 0, 1) := by decide +kernel
theorem dX1_readCommand_1 : decode cX1_readCommand 1 = .ok (.getfield 19, 3) := by decide +kernel
theorem dX1_readCommand_4 : decode cX1_readCommand 4 = .ok (.ifCond .le 14, 3) := by decide +kernel
theorem dX1_readCommand_7 : decode cX1_readCommand 7 = .ok (.aload_n 0, 1) := by decide +kernel
theorem dX1_readCommand_8 : decode cX1_readCommand 8 = .ok (.bipush 59, 2) := by decide +kernel
theorem dX1_readCommand_10 : decode cX1_readCommand 10 = .ok (.invokevirtual 30, 3) := by decide +kernel
theorem dX1_readCommand_13 : decode cX1_readCommand 13 = .ok (.ifCond .ne 5, 3) := by decide +kernel
theorem dX1_readCommand_16 : decode cX1_readCommand 16 = .ok (.iconst 0, 1) := by decide +kernel
theorem dX1_readCommand_17 : decode cX1_readCommand 17 = .ok (.ireturn, 1) := by decide +kernel
theorem dX1_readCommand_18 : decode cX1_readCommand 18 = .ok (.aload_n 0, 1) := by decide +kernel
theorem dX1_readCommand_19 : decode cX1_readCommand 19 = .ok (.getfield 19, 3) := by decide +kernel
theorem dX1_readCommand_22 : decode cX1_readCommand 22 = .ok (.aload_n 0, 1) := by decide +kernel
theorem dX1_readCommand_23 : decode cX1_readCommand 23 = .ok (.getfield 27, 3) := by decide +kernel
theorem dX1_readCommand_26 : decode cX1_readCommand 26 = .ok (.if_icmp .lt 5, 3) := by decide +kernel
theorem dX1_readCommand_29 : decode cX1_readCommand 29 = .ok (.iconst 0, 1) := by decide +kernel
theorem dX1_readCommand_30 : decode cX1_readCommand 30 = .ok (.ireturn, 1) := by decide +kernel
theorem dX1_readCommand_31 : decode cX1_readCommand 31 = .ok (.aload_n 0, 1) := by decide +kernel
theorem dX1_readCommand_32 : decode cX1_readCommand 32 = .ok (.aload_n 0, 1) := by decide +kernel
theorem dX1_readCommand_33 : decode cX1_readCommand 33 = .ok (.getfield 9, 3) := by decide +kernel
theorem dX1_readCommand_36 : decode cX1_readCommand 36 = .ok (.aload_n 0, 1) := by decide +kernel
theorem dX1_readCommand_37 : decode cX1_readCommand 37 = .ok (.getfield 19, 3) := by decide +kernel
theorem dX1_readCommand_40 : decode cX1_readCommand 40 = .ok (.caload, 1) := by decide +kernel
theorem dX1_readCommand_41 : decode cX1_readCommand 41 = .ok (.putfield 34, 3) := by decide +kernel
theorem dX1_readCommand_44 : decode cX1_readCommand 44 = .ok (.aload_n 0, 1) := by decide +kernel
theorem dX1_readCommand_45 : decode cX1_readCommand 45 = .ok (.getfield 34, 3) := by decide +kernel
theorem dX1_readCommand_48 : decode cX1_readCommand 48 = .ok (.invokestatic 37, 3) := by decide +kernel
theorem dX1_readCommand_51 : decode cX1_readCommand 51 = .ok (.astore_n 1, 1) := by decide +kernel
theorem dX1_readCommand_52 : decode cX1_readCommand 52 = .ok (.aload_n 1, 1) := by decide +kernel
theorem dX1_readCommand_53 : decode cX1_readCommand 53 = .ok (.ifnonnull 5, 3) := by decide +kernel
theorem dX1_readCommand_56 : decode cX1_readCommand 56 = .ok (.iconst 0, 1) := by decide +kernel
theorem dX1_readCommand_57 : decode cX1_readCommand 57 = .ok (.ireturn, 1) := by decide +kernel
theorem dX1_readCommand_58 : decode cX1_readCommand 58 = .ok (.aload_n 0, 1) := by decide +kernel
theorem dX1_readCommand_59 : decode cX1_readCommand 59 = .ok (.dup, 1) := by decide +kernel
theorem dX1_readCommand_60 : decode cX1_readCommand 60 = .ok (.getfield 19, 3) := by decide +kernel
theorem dX1_readCommand_63 : decode cX1_readCommand 63 = .ok (.iconst 1, 1) := by decide +kernel
theorem dX1_readCommand_64 : decode cX1_readCommand 64 = .ok (.iadd, 1) := by decide +kernel
theorem dX1_readCommand_65 : decode cX1_readCommand 65 = .ok (.putfield 19, 3) := by decide +kernel
theorem dX1_readCommand_68 : decode cX1_readCommand 68 = .ok (.aload_n 0, 1) := by decide +kernel
theorem dX1_readCommand_69 : decode cX1_readCommand 69 = .ok (.aload_n 1, 1) := by decide +kernel
theorem dX1_readCommand_70 : decode cX1_readCommand 70 = .ok (.invokevirtual 41, 3) := by decide +kernel
theorem dX1_readCommand_73 : decode cX1_readCommand 73 = .ok (.ireturn, 1) := by decide +kernel
theorem dX1_formBehind_0 : decode cX1_formBehind 0 = .ok (.iload_n 0, 1) := by decide +kernel
theorem dX1_formBehind_1 : decode cX1_formBehind 1 = .ok (.tableswitch 137 98 120 #[122, 137, 137, 110, 107, 131, 137, 137, 137, 137, 137, 137, 119, 113, 137, 137, 137, 128, 116, 137, 137, 125, 134], 107) := by decide +kernel
theorem dX1_formBehind_108 : decode cX1_formBehind 108 = .ok (.ldc 45, 2) := by decide +kernel
theorem dX1_formBehind_110 : decode cX1_formBehind 110 = .ok (.areturn, 1) := by decide +kernel
theorem dX1_formBehind_111 : decode cX1_formBehind 111 = .ok (.ldc 47, 2) := by decide +kernel
theorem dX1_formBehind_113 : decode cX1_formBehind 113 = .ok (.areturn, 1) := by decide +kernel
theorem dX1_formBehind_114 : decode cX1_formBehind 114 = .ok (.ldc 49, 2) := by decide +kernel
theorem dX1_formBehind_116 : decode cX1_formBehind 116 = .ok (.areturn, 1) := by decide +kernel
theorem dX1_formBehind_117 : decode cX1_formBehind 117 = .ok (.ldc 51, 2) := by decide +kernel
theorem dX1_formBehind_119 : decode cX1_formBehind 119 = .ok (.areturn, 1) := by decide +kernel
theorem dX1_formBehind_120 : decode cX1_formBehind 120 = .ok (.ldc 51, 2) := by decide +kernel
theorem dX1_formBehind_122 : decode cX1_formBehind 122 = .ok (.areturn, 1) := by decide +kernel
theorem dX1_formBehind_123 : decode cX1_formBehind 123 = .ok (.ldc 53, 2) := by decide +kernel
theorem dX1_formBehind_125 : decode cX1_formBehind 125 = .ok (.areturn, 1) := by decide +kernel
theorem dX1_formBehind_126 : decode cX1_formBehind 126 = .ok (.ldc 53, 2) := by decide +kernel
theorem dX1_formBehind_128 : decode cX1_formBehind 128 = .ok (.areturn, 1) := by decide +kernel
theorem dX1_formBehind_129 : decode cX1_formBehind 129 = .ok (.ldc 53, 2) := by decide +kernel
theorem dX1_formBehind_131 : decode cX1_formBehind 131 = .ok (.areturn, 1) := by decide +kernel
theorem dX1_formBehind_132 : decode cX1_formBehind 132 = .ok (.ldc 53, 2) := by decide +kernel
theorem dX1_formBehind_134 : decode cX1_formBehind 134 = .ok (.areturn, 1) := by decide +kernel
theorem dX1_formBehind_135 : decode cX1_formBehind 135 = .ok (.ldc 53, 2) := by decide +kernel
theorem dX1_formBehind_137 : decode cX1_formBehind 137 = .ok (.areturn, 1) := by decide +kernel
theorem dX1_formBehind_138 : decode cX1_formBehind 138 = .ok (.aconst_null, 1) := by decide +kernel
theorem dX1_formBehind_139 : decode cX1_formBehind 139 = .ok (.areturn, 1) := by decide +kernel
theorem dX1_readForm_0 : decode cX1_readForm 0 = .ok (.iconst 0, 1) := by decide +kernel
theorem dX1_readForm_1 : decode cX1_readForm 1 = .ok (.istore_n 2, 1) := by decide +kernel
theorem dX1_readForm_2 : decode cX1_readForm 2 = .ok (.iconst 0, 1) := by decide +kernel
theorem dX1_readForm_3 : decode cX1_readForm 3 = .ok (.istore_n 3, 1) := by decide +kernel
theorem dX1_readForm_4 : decode cX1_readForm 4 = .ok (.iload_n 3, 1) := by decide +kernel
theorem dX1_readForm_5 : decode cX1_readForm 5 = .ok (.aload_n 1, 1) := by decide +kernel
theorem dX1_readForm_6 : decode cX1_readForm 6 = .ok (.invokevirtual 55, 3) := by decide +kernel
theorem dX1_readForm_9 : decode cX1_readForm 9 = .ok (.if_icmp .ge 58, 3) := by decide +kernel
theorem dX1_readForm_12 : decode cX1_readForm 12 = .ok (.aload_n 1, 1) := by decide +kernel
theorem dX1_readForm_13 : decode cX1_readForm 13 = .ok (.iload_n 3, 1) := by decide +kernel
theorem dX1_readForm_14 : decode cX1_readForm 14 = .ok (.invokevirtual 60, 3) := by decide +kernel
theorem dX1_readForm_17 : decode cX1_readForm 17 = .ok (.istore 4, 2) := by decide +kernel
theorem dX1_readForm_19 : decode cX1_readForm 19 = .ok (.iload 4, 2) := by decide +kernel
theorem dX1_readForm_21 : decode cX1_readForm 21 = .ok (.invokestatic 64, 3) := by decide +kernel
theorem dX1_readForm_24 : decode cX1_readForm 24 = .ok (.ifCond .ne 14, 3) := by decide +kernel
theorem dX1_readForm_27 : decode cX1_readForm 27 = .ok (.aload_n 0, 1) := by decide +kernel
theorem dX1_readForm_28 : decode cX1_readForm 28 = .ok (.iload 4, 2) := by decide +kernel
theorem dX1_readForm_30 : decode cX1_readForm 30 = .ok (.invokevirtual 30, 3) := by decide +kernel
theorem dX1_readForm_33 : decode cX1_readForm 33 = .ok (.ifCond .ne 28, 3) := by decide +kernel
theorem dX1_readForm_36 : decode cX1_readForm 36 = .ok (.iconst 0, 1) := by decide +kernel
theorem dX1_readForm_37 : decode cX1_readForm 37 = .ok (.ireturn, 1) := by decide +kernel
theorem dX1_readForm_38 : decode cX1_readForm 38 = .ok (.iload_n 2, 1) := by decide +kernel
theorem dX1_readForm_39 : decode cX1_readForm 39 = .ok (.iconst 3, 1) := by decide +kernel
theorem dX1_readForm_40 : decode cX1_readForm 40 = .ok (.if_icmp .ge 16, 3) := by decide +kernel
theorem dX1_readForm_43 : decode cX1_readForm 43 = .ok (.aload_n 0, 1) := by decide +kernel
theorem dX1_readForm_44 : decode cX1_readForm 44 = .ok (.iload_n 2, 1) := by decide +kernel
theorem dX1_readForm_45 : decode cX1_readForm 45 = .ok (.iload 4, 2) := by decide +kernel
theorem dX1_readForm_47 : decode cX1_readForm 47 = .ok (.bipush 48, 2) := by decide +kernel
theorem dX1_readForm_49 : decode cX1_readForm 49 = .ok (.isub, 1) := by decide +kernel
theorem dX1_readForm_50 : decode cX1_readForm 50 = .ok (.invokevirtual 67, 3) := by decide +kernel
theorem dX1_readForm_53 : decode cX1_readForm 53 = .ok (.ifCond .ne 5, 3) := by decide +kernel
theorem dX1_readForm_56 : decode cX1_readForm 56 = .ok (.iconst 0, 1) := by decide +kernel
theorem dX1_readForm_57 : decode cX1_readForm 57 = .ok (.ireturn, 1) := by decide +kernel
theorem dX1_readForm_58 : decode cX1_readForm 58 = .ok (.iinc 2 1, 3) := by decide +kernel
theorem dX1_readForm_61 : decode cX1_readForm 61 = .ok (.iinc 3 1, 3) := by decide +kernel
theorem dX1_readForm_64 : decode cX1_readForm 64 = .ok (.goto (-60), 3) := by decide +kernel
theorem dX1_readForm_67 : decode cX1_readForm 67 = .ok (.iconst 1, 1) := by decide +kernel
theorem dX1_readForm_68 : decode cX1_readForm 68 = .ok (.ireturn, 1) := by decide +kernel
theorem dX1_readCharacter_0 : decode cX1_readCharacter 0 = .ok (.aload_n 0, 1) := by decide +kernel
theorem dX1_readCharacter_1 : decode cX1_readCharacter 1 = .ok (.getfield 19, 3) := by decide +kernel
theorem dX1_readCharacter_4 : decode cX1_readCharacter 4 = .ok (.aload_n 0, 1) := by decide +kernel
theorem dX1_readCharacter_5 : decode cX1_readCharacter 5 = .ok (.getfield 27, 3) := by decide +kernel
theorem dX1_readCharacter_8 : decode cX1_readCharacter 8 = .ok (.if_icmp .ge 16, 3) := by decide +kernel
theorem dX1_readCharacter_11 : decode cX1_readCharacter 11 = .ok (.aload_n 0, 1) := by decide +kernel
theorem dX1_readCharacter_12 : decode cX1_readCharacter 12 = .ok (.getfield 9, 3) := by decide +kernel
theorem dX1_readCharacter_15 : decode cX1_readCharacter 15 = .ok (.aload_n 0, 1) := by decide +kernel
theorem dX1_readCharacter_16 : decode cX1_readCharacter 16 = .ok (.getfield 19, 3) := by decide +kernel
theorem dX1_readCharacter_19 : decode cX1_readCharacter 19 = .ok (.caload, 1) := by decide +kernel
theorem dX1_readCharacter_20 : decode cX1_readCharacter 20 = .ok (.iload_n 1, 1) := by decide +kernel
theorem dX1_readCharacter_21 : decode cX1_readCharacter 21 = .ok (.if_icmp .eq 5, 3) := by decide +kernel
theorem dX1_readCharacter_24 : decode cX1_readCharacter 24 = .ok (.iconst 0, 1) := by decide +kernel
theorem dX1_readCharacter_25 : decode cX1_readCharacter 25 = .ok (.ireturn, 1) := by decide +kernel
theorem dX1_readCharacter_26 : decode cX1_readCharacter 26 = .ok (.aload_n 0, 1) := by decide +kernel
theorem dX1_readCharacter_27 : decode cX1_readCharacter 27 = .ok (.dup, 1) := by decide +kernel
theorem dX1_readCharacter_28 : decode cX1_readCharacter 28 = .ok (.getfield 19, 3) := by decide +kernel
theorem dX1_readCharacter_31 : decode cX1_readCharacter 31 = .ok (.iconst 1, 1) := by decide +kernel
theorem dX1_readCharacter_32 : decode cX1_readCharacter 32 = .ok (.iadd, 1) := by decide +kernel
theorem dX1_readCharacter_33 : decode cX1_readCharacter 33 = .ok (.putfield 19, 3) := by decide +kernel
theorem dX1_readCharacter_36 : decode cX1_readCharacter 36 = .ok (.iconst 1, 1) := by decide +kernel
theorem dX1_readCharacter_37 : decode cX1_readCharacter 37 = .ok (.ireturn, 1) := by decide +kernel
theorem dX1_readNumber_0 : decode cX1_readNumber 0 = .ok (.iconst 0, 1) := by decide +kernel
theorem dX1_readNumber_1 : decode cX1_readNumber 1 = .ok (.istore_n 3, 1) := by decide +kernel
theorem dX1_readNumber_2 : decode cX1_readNumber 2 = .ok (.iconst 0, 1) := by decide +kernel
theorem dX1_readNumber_3 : decode cX1_readNumber 3 = .ok (.istore 4, 2) := by decide +kernel
theorem dX1_readNumber_5 : decode cX1_readNumber 5 = .ok (.iload 4, 2) := by decide +kernel
theorem dX1_readNumber_7 : decode cX1_readNumber 7 = .ok (.iload_n 2, 1) := by decide +kernel
theorem dX1_readNumber_8 : decode cX1_readNumber 8 = .ok (.if_icmp .ge 63, 3) := by decide +kernel
theorem dX1_readNumber_11 : decode cX1_readNumber 11 = .ok (.aload_n 0, 1) := by decide +kernel
theorem dX1_readNumber_12 : decode cX1_readNumber 12 = .ok (.getfield 19, 3) := by decide +kernel
theorem dX1_readNumber_15 : decode cX1_readNumber 15 = .ok (.aload_n 0, 1) := by decide +kernel
theorem dX1_readNumber_16 : decode cX1_readNumber 16 = .ok (.getfield 27, 3) := by decide +kernel
theorem dX1_readNumber_19 : decode cX1_readNumber 19 = .ok (.if_icmp .ge 52, 3) := by decide +kernel
theorem dX1_readNumber_22 : decode cX1_readNumber 22 = .ok (.aload_n 0, 1) := by decide +kernel
theorem dX1_readNumber_23 : decode cX1_readNumber 23 = .ok (.getfield 9, 3) := by decide +kernel
theorem dX1_readNumber_26 : decode cX1_readNumber 26 = .ok (.aload_n 0, 1) := by decide +kernel
theorem dX1_readNumber_27 : decode cX1_readNumber 27 = .ok (.getfield 19, 3) := by decide +kernel
theorem dX1_readNumber_30 : decode cX1_readNumber 30 = .ok (.caload, 1) := by decide +kernel
theorem dX1_readNumber_31 : decode cX1_readNumber 31 = .ok (.invokestatic 64, 3) := by decide +kernel
theorem dX1_readNumber_34 : decode cX1_readNumber 34 = .ok (.ifCond .eq 37, 3) := by decide +kernel
theorem dX1_readNumber_37 : decode cX1_readNumber 37 = .ok (.bipush 10, 2) := by decide +kernel
theorem dX1_readNumber_39 : decode cX1_readNumber 39 = .ok (.iload_n 3, 1) := by decide +kernel
theorem dX1_readNumber_40 : decode cX1_readNumber 40 = .ok (.imul, 1) := by decide +kernel
theorem dX1_readNumber_41 : decode cX1_readNumber 41 = .ok (.aload_n 0, 1) := by decide +kernel
theorem dX1_readNumber_42 : decode cX1_readNumber 42 = .ok (.getfield 9, 3) := by decide +kernel
theorem dX1_readNumber_45 : decode cX1_readNumber 45 = .ok (.aload_n 0, 1) := by decide +kernel
theorem dX1_readNumber_46 : decode cX1_readNumber 46 = .ok (.getfield 19, 3) := by decide +kernel
theorem dX1_readNumber_49 : decode cX1_readNumber 49 = .ok (.caload, 1) := by decide +kernel
theorem dX1_readNumber_50 : decode cX1_readNumber 50 = .ok (.bipush 48, 2) := by decide +kernel
theorem dX1_readNumber_52 : decode cX1_readNumber 52 = .ok (.isub, 1) := by decide +kernel
theorem dX1_readNumber_53 : decode cX1_readNumber 53 = .ok (.iadd, 1) := by decide +kernel
theorem dX1_readNumber_54 : decode cX1_readNumber 54 = .ok (.istore_n 3, 1) := by decide +kernel
theorem dX1_readNumber_55 : decode cX1_readNumber 55 = .ok (.iinc 4 1, 3) := by decide +kernel
theorem dX1_readNumber_58 : decode cX1_readNumber 58 = .ok (.aload_n 0, 1) := by decide +kernel
theorem dX1_readNumber_59 : decode cX1_readNumber 59 = .ok (.dup, 1) := by decide +kernel
theorem dX1_readNumber_60 : decode cX1_readNumber 60 = .ok (.getfield 19, 3) := by decide +kernel
theorem dX1_readNumber_63 : decode cX1_readNumber 63 = .ok (.iconst 1, 1) := by decide +kernel
theorem dX1_readNumber_64 : decode cX1_readNumber 64 = .ok (.iadd, 1) := by decide +kernel
theorem dX1_readNumber_65 : decode cX1_readNumber 65 = .ok (.putfield 19, 3) := by decide +kernel
theorem dX1_readNumber_68 : decode cX1_readNumber 68 = .ok (.goto (-63), 3) := by decide +kernel
theorem dX1_readNumber_71 : decode cX1_readNumber 71 = .ok (.aload_n 0, 1) := by decide +kernel
theorem dX1_readNumber_72 : decode cX1_readNumber 72 = .ok (.getfield 15, 3) := by decide +kernel
theorem dX1_readNumber_75 : decode cX1_readNumber 75 = .ok (.iload_n 1, 1) := by decide +kernel
theorem dX1_readNumber_76 : decode cX1_readNumber 76 = .ok (.iload_n 3, 1) := by decide +kernel
theorem dX1_readNumber_77 : decode cX1_readNumber 77 = .ok (.iastore, 1) := by decide +kernel
theorem dX1_readNumber_78 : decode cX1_readNumber 78 = .ok (.iload 4, 2) := by decide +kernel
theorem dX1_readNumber_80 : decode cX1_readNumber 80 = .ok (.ifCond .le 7, 3) := by decide +kernel
theorem dX1_readNumber_83 : decode cX1_readNumber 83 = .ok (.iconst 1, 1) := by decide +kernel
theorem dX1_readNumber_84 : decode cX1_readNumber 84 = .ok (.goto 4, 3) := by decide +kernel
theorem dX1_readNumber_87 : decode cX1_readNumber 87 = .ok (.iconst 0, 1) := by decide +kernel
theorem dX1_readNumber_88 : decode cX1_readNumber 88 = .ok (.ireturn, 1) := by decide +kernel
theorem dX1_isDigit_0 : decode cX1_isDigit 0 = .ok (.iload_n 0, 1) := by decide +kernel
theorem dX1_isDigit_1 : decode cX1_isDigit 1 = .ok (.bipush 48, 2) := by decide +kernel
theorem dX1_isDigit_3 : decode cX1_isDigit 3 = .ok (.if_icmp .lt 13, 3) := by decide +kernel
theorem dX1_isDigit_6 : decode cX1_isDigit 6 = .ok (.iload_n 0, 1) := by decide +kernel
theorem dX1_isDigit_7 : decode cX1_isDigit 7 = .ok (.bipush 57, 2) := by decide +kernel
theorem dX1_isDigit_9 : decode cX1_isDigit 9 = .ok (.if_icmp .gt 7, 3) := by decide +kernel
theorem dX1_isDigit_12 : decode cX1_isDigit 12 = .ok (.iconst 1, 1) := by decide +kernel
theorem dX1_isDigit_13 : decode cX1_isDigit 13 = .ok (.goto 4, 3) := by decide +kernel
theorem dX1_isDigit_16 : decode cX1_isDigit 16 = .ok (.iconst 0, 1) := by decide +kernel
theorem dX1_isDigit_17 : decode cX1_isDigit 17 = .ok (.ireturn, 1) := by decide +kernel
theorem dX2_init_0 : decode cX2_init 0 = .ok (.aload_n 0, 1) := by decide +kernel
theorem dX2_init_1 : decode cX2_init 1 = .ok (.invokespecial 3, 3) := by decide +kernel
theorem dX2_init_4 : decode cX2_init 4 = .ok (.aload_n 0, 1) := by decide +kernel
theorem dX2_init_5 : decode cX2_init 5 = .ok (.bipush 9, 2) := by decide +kernel
theorem dX2_init_7 : decode cX2_init 7 = .ok (.anewarray 11, 3) := by decide +kernel
theorem dX2_init_10 : decode cX2_init 10 = .ok (.putfield 13, 3) := by decide +kernel
theorem dX2_init_13 : decode cX2_init 13 = .ok (.iconst 0, 1) := by decide +kernel
theorem dX2_init_14 : decode cX2_init 14 = .ok (.istore_n 1, 1) := by decide +kernel
theorem dX2_init_15 : decode cX2_init 15 = .ok (.iload_n 1, 1) := by decide +kernel
theorem dX2_init_16 : decode cX2_init 16 = .ok (.bipush 9, 2) := by decide +kernel
theorem dX2_init_18 : decode cX2_init 18 = .ok (.if_icmp .ge 22, 3) := by decide +kernel
theorem dX2_init_21 : decode cX2_init 21 = .ok (.aload_n 0, 1) := by decide +kernel
theorem dX2_init_22 : decode cX2_init 22 = .ok (.getfield 13, 3) := by decide +kernel
theorem dX2_init_25 : decode cX2_init 25 = .ok (.iload_n 1, 1) := by decide +kernel
theorem dX2_init_26 : decode cX2_init 26 = .ok (.new 11, 3) := by decide +kernel
theorem dX2_init_29 : decode cX2_init 29 = .ok (.dup, 1) := by decide +kernel
theorem dX2_init_30 : decode cX2_init 30 = .ok (.invokespecial 17, 3) := by decide +kernel
theorem dX2_init_33 : decode cX2_init 33 = .ok (.aastore, 1) := by decide +kernel
theorem dX2_init_34 : decode cX2_init 34 = .ok (.iinc 1 1, 3) := by decide +kernel
theorem dX2_init_37 : decode cX2_init 37 = .ok (.goto (-22), 3) := by decide +kernel
theorem dX2_init_40 : decode cX2_init 40 = .ok (.return_, 1) := by decide +kernel
theorem dX2_hold_0 : decode cX2_hold 0 = .ok (.aload_n 0, 1) := by decide +kernel
theorem dX2_hold_1 : decode cX2_hold 1 = .ok (.getfield 13, 3) := by decide +kernel
theorem dX2_hold_4 : decode cX2_hold 4 = .ok (.aload_n 0, 1) := by decide +kernel
theorem dX2_hold_5 : decode cX2_hold 5 = .ok (.getfield 18, 3) := by decide +kernel
theorem dX2_hold_8 : decode cX2_hold 8 = .ok (.aaload, 1) := by decide +kernel
theorem dX2_hold_9 : decode cX2_hold 9 = .ok (.aload_n 1, 1) := by decide +kernel
theorem dX2_hold_10 : decode cX2_hold 10 = .ok (.invokevirtual 22, 3) := by decide +kernel
theorem dX2_hold_13 : decode cX2_hold 13 = .ok (.return_, 1) := by decide +kernel
theorem dX2_bringBackHeld_0 : decode cX2_bringBackHeld 0 = .ok (.aload_n 1, 1) := by decide +kernel
theorem dX2_bringBackHeld_1 : decode cX2_bringBackHeld 1 = .ok (.aload_n 0, 1) := by decide +kernel
theorem dX2_bringBackHeld_2 : decode cX2_bringBackHeld 2 = .ok (.getfield 13, 3) := by decide +kernel
theorem dX2_bringBackHeld_5 : decode cX2_bringBackHeld 5 = .ok (.aload_n 0, 1) := by decide +kernel
theorem dX2_bringBackHeld_6 : decode cX2_bringBackHeld 6 = .ok (.getfield 18, 3) := by decide +kernel
theorem dX2_bringBackHeld_9 : decode cX2_bringBackHeld 9 = .ok (.aaload, 1) := by decide +kernel
theorem dX2_bringBackHeld_10 : decode cX2_bringBackHeld 10 = .ok (.invokevirtual 22, 3) := by decide +kernel
theorem dX2_bringBackHeld_13 : decode cX2_bringBackHeld 13 = .ok (.return_, 1) := by decide +kernel
theorem dX2_keepHeld_0 : decode cX2_keepHeld 0 = .ok (.aload_n 0, 1) := by decide +kernel
theorem dX2_keepHeld_1 : decode cX2_keepHeld 1 = .ok (.aload_n 0, 1) := by decide +kernel
theorem dX2_keepHeld_2 : decode cX2_keepHeld 2 = .ok (.getfield 18, 3) := by decide +kernel
theorem dX2_keepHeld_5 : decode cX2_keepHeld 5 = .ok (.iconst 1, 1) := by decide +kernel
theorem dX2_keepHeld_6 : decode cX2_keepHeld 6 = .ok (.iadd, 1) := by decide +kernel
theorem dX2_keepHeld_7 : decode cX2_keepHeld 7 = .ok (.bipush 9, 2) := by decide +kernel
theorem dX2_keepHeld_9 : decode cX2_keepHeld 9 = .ok (.irem, 1) := by decide +kernel
theorem dX2_keepHeld_10 : decode cX2_keepHeld 10 = .ok (.putfield 18, 3) := by decide +kernel
theorem dX2_keepHeld_13 : decode cX2_keepHeld 13 = .ok (.aload_n 0, 1) := by decide +kernel
theorem dX2_keepHeld_14 : decode cX2_keepHeld 14 = .ok (.aload_n 0, 1) := by decide +kernel
theorem dX2_keepHeld_15 : decode cX2_keepHeld 15 = .ok (.getfield 26, 3) := by decide +kernel
theorem dX2_keepHeld_18 : decode cX2_keepHeld 18 = .ok (.iconst 1, 1) := by decide +kernel
theorem dX2_keepHeld_19 : decode cX2_keepHeld 19 = .ok (.iadd, 1) := by decide +kernel
theorem dX2_keepHeld_20 : decode cX2_keepHeld 20 = .ok (.bipush 8, 2) := by decide +kernel
theorem dX2_keepHeld_22 : decode cX2_keepHeld 22 = .ok (.invokestatic 29, 3) := by decide +kernel
theorem dX2_keepHeld_25 : decode cX2_keepHeld 25 = .ok (.putfield 26, 3) := by decide +kernel
theorem dX2_keepHeld_28 : decode cX2_keepHeld 28 = .ok (.return_, 1) := by decide +kernel
theorem dX2_takeBack_0 : decode cX2_takeBack 0 = .ok (.aload_n 0, 1) := by decide +kernel
theorem dX2_takeBack_1 : decode cX2_takeBack 1 = .ok (.aload_n 0, 1) := by decide +kernel
theorem dX2_takeBack_2 : decode cX2_takeBack 2 = .ok (.getfield 18, 3) := by decide +kernel
theorem dX2_takeBack_5 : decode cX2_takeBack 5 = .ok (.bipush 9, 2) := by decide +kernel
theorem dX2_takeBack_7 : decode cX2_takeBack 7 = .ok (.iadd, 1) := by decide +kernel
theorem dX2_takeBack_8 : decode cX2_takeBack 8 = .ok (.iconst 1, 1) := by decide +kernel
theorem dX2_takeBack_9 : decode cX2_takeBack 9 = .ok (.isub, 1) := by decide +kernel
theorem dX2_takeBack_10 : decode cX2_takeBack 10 = .ok (.bipush 9, 2) := by decide +kernel
theorem dX2_takeBack_12 : decode cX2_takeBack 12 = .ok (.irem, 1) := by decide +kernel
theorem dX2_takeBack_13 : decode cX2_takeBack 13 = .ok (.putfield 18, 3) := by decide +kernel
theorem dX2_takeBack_16 : decode cX2_takeBack 16 = .ok (.aload_n 0, 1) := by decide +kernel
theorem dX2_takeBack_17 : decode cX2_takeBack 17 = .ok (.dup, 1) := by decide +kernel
theorem dX2_takeBack_18 : decode cX2_takeBack 18 = .ok (.getfield 26, 3) := by decide +kernel
theorem dX2_takeBack_21 : decode cX2_takeBack 21 = .ok (.iconst 1, 1) := by decide +kernel
theorem dX2_takeBack_22 : decode cX2_takeBack 22 = .ok (.isub, 1) := by decide +kernel
theorem dX2_takeBack_23 : decode cX2_takeBack 23 = .ok (.putfield 26, 3) := by decide +kernel
theorem dX2_takeBack_26 : decode cX2_takeBack 26 = .ok (.aload_n 1, 1) := by decide +kernel
theorem dX2_takeBack_27 : decode cX2_takeBack 27 = .ok (.aload_n 0, 1) := by decide +kernel
theorem dX2_takeBack_28 : decode cX2_takeBack 28 = .ok (.getfield 13, 3) := by decide +kernel
theorem dX2_takeBack_31 : decode cX2_takeBack 31 = .ok (.aload_n 0, 1) := by decide +kernel
theorem dX2_takeBack_32 : decode cX2_takeBack 32 = .ok (.getfield 18, 3) := by decide +kernel
theorem dX2_takeBack_35 : decode cX2_takeBack 35 = .ok (.aaload, 1) := by decide +kernel
theorem dX2_takeBack_36 : decode cX2_takeBack 36 = .ok (.invokevirtual 22, 3) := by decide +kernel
theorem dX2_takeBack_39 : decode cX2_takeBack 39 = .ok (.return_, 1) := by decide +kernel
theorem dX3_init_0 : decode cX3_init 0 = .ok (.aload_n 0, 1) := by decide +kernel
theorem dX3_init_1 : decode cX3_init 1 = .ok (.invokespecial 3, 3) := by decide +kernel
theorem dX3_init_4 : decode cX3_init 4 = .ok (.return_, 1) := by decide +kernel
theorem dX3_applies_0 : decode cX3_applies 0 = .ok (.iload_n 2, 1) := by decide +kernel
theorem dX3_applies_1 : decode cX3_applies 1 = .ok (.lookupswitch 222 #[(66, 116), (74, 107), (98, 143), (101, 134), (102, 123), (103, 185), (110, 199), (111, 179), (115, 172), (116, 154), (119, 161), (120, 192)], 107) := by decide +kernel
theorem dX3_applies_108 : decode cX3_applies 108 = .ok (.aload_n 0, 1) := by decide +kernel
theorem dX3_applies_109 : decode cX3_applies 109 = .ok (.aload_n 1, 1) := by decide +kernel
theorem dX3_applies_110 : decode cX3_applies 110 = .ok (.iload_n 3, 1) := by decide +kernel
theorem dX3_applies_111 : decode cX3_applies 111 = .ok (.iload 4, 2) := by decide +kernel
theorem dX3_applies_113 : decode cX3_applies 113 = .ok (.invokevirtual 9, 3) := by decide +kernel
theorem dX3_applies_116 : decode cX3_applies 116 = .ok (.ireturn, 1) := by decide +kernel
theorem dX3_applies_117 : decode cX3_applies 117 = .ok (.aload_n 0, 1) := by decide +kernel
theorem dX3_applies_118 : decode cX3_applies 118 = .ok (.aload_n 1, 1) := by decide +kernel
theorem dX3_applies_119 : decode cX3_applies 119 = .ok (.iload_n 3, 1) := by decide +kernel
theorem dX3_applies_120 : decode cX3_applies 120 = .ok (.invokevirtual 15, 3) := by decide +kernel
theorem dX3_applies_123 : decode cX3_applies 123 = .ok (.ireturn, 1) := by decide +kernel
theorem dX3_applies_124 : decode cX3_applies 124 = .ok (.aload_n 0, 1) := by decide +kernel
theorem dX3_applies_125 : decode cX3_applies 125 = .ok (.aload_n 1, 1) := by decide +kernel
theorem dX3_applies_126 : decode cX3_applies 126 = .ok (.iload_n 3, 1) := by decide +kernel
theorem dX3_applies_127 : decode cX3_applies 127 = .ok (.iload 4, 2) := by decide +kernel
theorem dX3_applies_129 : decode cX3_applies 129 = .ok (.iload 5, 2) := by decide +kernel
theorem dX3_applies_131 : decode cX3_applies 131 = .ok (.invokevirtual 19, 3) := by decide +kernel
theorem dX3_applies_134 : decode cX3_applies 134 = .ok (.ireturn, 1) := by decide +kernel
theorem dX3_applies_135 : decode cX3_applies 135 = .ok (.aload_n 0, 1) := by decide +kernel
theorem dX3_applies_136 : decode cX3_applies 136 = .ok (.aload_n 1, 1) := by decide +kernel
theorem dX3_applies_137 : decode cX3_applies 137 = .ok (.iload_n 3, 1) := by decide +kernel
theorem dX3_applies_138 : decode cX3_applies 138 = .ok (.iload 4, 2) := by decide +kernel
theorem dX3_applies_140 : decode cX3_applies 140 = .ok (.invokevirtual 23, 3) := by decide +kernel
theorem dX3_applies_143 : decode cX3_applies 143 = .ok (.ireturn, 1) := by decide +kernel
theorem dX3_applies_144 : decode cX3_applies 144 = .ok (.aload_n 0, 1) := by decide +kernel
theorem dX3_applies_145 : decode cX3_applies 145 = .ok (.aload_n 1, 1) := by decide +kernel
theorem dX3_applies_146 : decode cX3_applies 146 = .ok (.iload_n 3, 1) := by decide +kernel
theorem dX3_applies_147 : decode cX3_applies 147 = .ok (.invokevirtual 26, 3) := by decide +kernel
theorem dX3_applies_150 : decode cX3_applies 150 = .ok (.iload_n 3, 1) := by decide +kernel
theorem dX3_applies_151 : decode cX3_applies 151 = .ok (.invokevirtual 32, 3) := by decide +kernel
theorem dX3_applies_154 : decode cX3_applies 154 = .ok (.ireturn, 1) := by decide +kernel
theorem dX3_applies_155 : decode cX3_applies 155 = .ok (.aload_n 0, 1) := by decide +kernel
theorem dX3_applies_156 : decode cX3_applies 156 = .ok (.aload_n 1, 1) := by decide +kernel
theorem dX3_applies_157 : decode cX3_applies 157 = .ok (.iload_n 3, 1) := by decide +kernel
theorem dX3_applies_158 : decode cX3_applies 158 = .ok (.invokevirtual 36, 3) := by decide +kernel
theorem dX3_applies_161 : decode cX3_applies 161 = .ok (.ireturn, 1) := by decide +kernel
theorem dX3_applies_162 : decode cX3_applies 162 = .ok (.aload_n 0, 1) := by decide +kernel
theorem dX3_applies_163 : decode cX3_applies 163 = .ok (.aload_n 1, 1) := by decide +kernel
theorem dX3_applies_164 : decode cX3_applies 164 = .ok (.iload_n 3, 1) := by decide +kernel
theorem dX3_applies_165 : decode cX3_applies 165 = .ok (.invokevirtual 26, 3) := by decide +kernel
theorem dX3_applies_168 : decode cX3_applies 168 = .ok (.iload_n 3, 1) := by decide +kernel
theorem dX3_applies_169 : decode cX3_applies 169 = .ok (.invokevirtual 32, 3) := by decide +kernel
theorem dX3_applies_172 : decode cX3_applies 172 = .ok (.ireturn, 1) := by decide +kernel
theorem dX3_applies_173 : decode cX3_applies 173 = .ok (.aload_n 0, 1) := by decide +kernel
theorem dX3_applies_174 : decode cX3_applies 174 = .ok (.aload_n 1, 1) := by decide +kernel
theorem dX3_applies_175 : decode cX3_applies 175 = .ok (.iload_n 3, 1) := by decide +kernel
theorem dX3_applies_176 : decode cX3_applies 176 = .ok (.invokevirtual 39, 3) := by decide +kernel
theorem dX3_applies_179 : decode cX3_applies 179 = .ok (.ireturn, 1) := by decide +kernel
theorem dX3_applies_180 : decode cX3_applies 180 = .ok (.aload_n 0, 1) := by decide +kernel
theorem dX3_applies_181 : decode cX3_applies 181 = .ok (.aload_n 1, 1) := by decide +kernel
theorem dX3_applies_182 : decode cX3_applies 182 = .ok (.invokevirtual 42, 3) := by decide +kernel
theorem dX3_applies_185 : decode cX3_applies 185 = .ok (.ireturn, 1) := by decide +kernel
theorem dX3_applies_186 : decode cX3_applies 186 = .ok (.aload_n 0, 1) := by decide +kernel
theorem dX3_applies_187 : decode cX3_applies 187 = .ok (.aload_n 1, 1) := by decide +kernel
theorem dX3_applies_188 : decode cX3_applies 188 = .ok (.iload_n 3, 1) := by decide +kernel
theorem dX3_applies_189 : decode cX3_applies 189 = .ok (.invokevirtual 46, 3) := by decide +kernel
theorem dX3_applies_192 : decode cX3_applies 192 = .ok (.ireturn, 1) := by decide +kernel
theorem dX3_applies_193 : decode cX3_applies 193 = .ok (.aload_n 0, 1) := by decide +kernel
theorem dX3_applies_194 : decode cX3_applies 194 = .ok (.aload_n 1, 1) := by decide +kernel
theorem dX3_applies_195 : decode cX3_applies 195 = .ok (.iload_n 3, 1) := by decide +kernel
theorem dX3_applies_196 : decode cX3_applies 196 = .ok (.invokevirtual 49, 3) := by decide +kernel
theorem dX3_applies_199 : decode cX3_applies 199 = .ok (.ireturn, 1) := by decide +kernel
theorem dX3_applies_200 : decode cX3_applies 200 = .ok (.aload_n 0, 1) := by decide +kernel
theorem dX3_applies_201 : decode cX3_applies 201 = .ok (.iload_n 3, 1) := by decide +kernel
theorem dX3_applies_202 : decode cX3_applies 202 = .ok (.iconst 1, 1) := by decide +kernel
theorem dX3_applies_203 : decode cX3_applies 203 = .ok (.if_icmp .lt 9, 3) := by decide +kernel
theorem dX3_applies_206 : decode cX3_applies 206 = .ok (.iload_n 3, 1) := by decide +kernel
theorem dX3_applies_207 : decode cX3_applies 207 = .ok (.bipush 60, 2) := by decide +kernel
theorem dX3_applies_209 : decode cX3_applies 209 = .ok (.if_icmp .le 7, 3) := by decide +kernel
theorem dX3_applies_212 : decode cX3_applies 212 = .ok (.iconst 1, 1) := by decide +kernel
theorem dX3_applies_213 : decode cX3_applies 213 = .ok (.goto 4, 3) := by decide +kernel
theorem dX3_applies_216 : decode cX3_applies 216 = .ok (.iconst 0, 1) := by decide +kernel
theorem dX3_applies_217 : decode cX3_applies 217 = .ok (.iconst 1, 1) := by decide +kernel
theorem dX3_applies_218 : decode cX3_applies 218 = .ok (.iconst 0, 1) := by decide +kernel
theorem dX3_applies_219 : decode cX3_applies 219 = .ok (.invokevirtual 52, 3) := by decide +kernel
theorem dX3_applies_222 : decode cX3_applies 222 = .ok (.ireturn, 1) := by decide +kernel
theorem dX3_applies_223 : decode cX3_applies 223 = .ok (.iconst 0, 1) := by decide +kernel
theorem dX3_applies_224 : decode cX3_applies 224 = .ok (.ireturn, 1) := by decide +kernel
theorem dX3_ofJar_0 : decode cX3_ofJar 0 = .ok (.aload_n 0, 1) := by decide +kernel
theorem dX3_ofJar_1 : decode cX3_ofJar 1 = .ok (.iload_n 2, 1) := by decide +kernel
theorem dX3_ofJar_2 : decode cX3_ofJar 2 = .ok (.invokestatic 56, 3) := by decide +kernel
theorem dX3_ofJar_5 : decode cX3_ofJar 5 = .ok (.ifCond .eq 14, 3) := by decide +kernel
theorem dX3_ofJar_8 : decode cX3_ofJar 8 = .ok (.iload_n 3, 1) := by decide +kernel
theorem dX3_ofJar_9 : decode cX3_ofJar 9 = .ok (.ifCond .lt 10, 3) := by decide +kernel
theorem dX3_ofJar_12 : decode cX3_ofJar 12 = .ok (.iload_n 3, 1) := by decide +kernel
theorem dX3_ofJar_13 : decode cX3_ofJar 13 = .ok (.sipush 900, 3) := by decide +kernel
theorem dX3_ofJar_16 : decode cX3_ofJar 16 = .ok (.if_icmp .le 7, 3) := by decide +kernel
theorem dX3_ofJar_19 : decode cX3_ofJar 19 = .ok (.iconst 1, 1) := by decide +kernel
theorem dX3_ofJar_20 : decode cX3_ofJar 20 = .ok (.goto 4, 3) := by decide +kernel
theorem dX3_ofJar_23 : decode cX3_ofJar 23 = .ok (.iconst 0, 1) := by decide +kernel
theorem dX3_ofJar_24 : decode cX3_ofJar 24 = .ok (.iconst 1, 1) := by decide +kernel
theorem dX3_ofJar_25 : decode cX3_ofJar 25 = .ok (.iconst 0, 1) := by decide +kernel
theorem dX3_ofJar_26 : decode cX3_ofJar 26 = .ok (.invokevirtual 52, 3) := by decide +kernel
theorem dX3_ofJar_29 : decode cX3_ofJar 29 = .ok (.ifCond .ne 27, 3) := by decide +kernel
theorem dX3_ofJar_32 : decode cX3_ofJar 32 = .ok (.aload_n 0, 1) := by decide +kernel
theorem dX3_ofJar_33 : decode cX3_ofJar 33 = .ok (.aload_n 1, 1) := by decide +kernel
theorem dX3_ofJar_34 : decode cX3_ofJar 34 = .ok (.getfield 59, 3) := by decide +kernel
theorem dX3_ofJar_37 : decode cX3_ofJar 37 = .ok (.bipush 6, 2) := by decide +kernel
theorem dX3_ofJar_39 : decode cX3_ofJar 39 = .ok (.if_icmp .lt 7, 3) := by decide +kernel
theorem dX3_ofJar_42 : decode cX3_ofJar 42 = .ok (.iconst 1, 1) := by decide +kernel
theorem dX3_ofJar_43 : decode cX3_ofJar 43 = .ok (.goto 4, 3) := by decide +kernel
theorem dX3_ofJar_46 : decode cX3_ofJar 46 = .ok (.iconst 0, 1) := by decide +kernel
theorem dX3_ofJar_47 : decode cX3_ofJar 47 = .ok (.iconst 2, 1) := by decide +kernel
theorem dX3_ofJar_48 : decode cX3_ofJar 48 = .ok (.bipush 6, 2) := by decide +kernel
theorem dX3_ofJar_50 : decode cX3_ofJar 50 = .ok (.invokevirtual 52, 3) := by decide +kernel
theorem dX3_ofJar_53 : decode cX3_ofJar 53 = .ok (.ifCond .eq 7, 3) := by decide +kernel
theorem dX3_ofJar_56 : decode cX3_ofJar 56 = .ok (.iconst 1, 1) := by decide +kernel
theorem dX3_ofJar_57 : decode cX3_ofJar 57 = .ok (.goto 4, 3) := by decide +kernel
theorem dX3_ofJar_60 : decode cX3_ofJar 60 = .ok (.iconst 0, 1) := by decide +kernel
theorem dX3_ofJar_61 : decode cX3_ofJar 61 = .ok (.ireturn, 1) := by decide +kernel
theorem dX3_ofBag_0 : decode cX3_ofBag 0 = .ok (.aload_n 0, 1) := by decide +kernel
theorem dX3_ofBag_1 : decode cX3_ofBag 1 = .ok (.iload_n 2, 1) := by decide +kernel
theorem dX3_ofBag_2 : decode cX3_ofBag 2 = .ok (.iconst 5, 1) := by decide +kernel
theorem dX3_ofBag_3 : decode cX3_ofBag 3 = .ok (.if_icmp .lt 9, 3) := by decide +kernel
theorem dX3_ofBag_6 : decode cX3_ofBag 6 = .ok (.iload_n 2, 1) := by decide +kernel
theorem dX3_ofBag_7 : decode cX3_ofBag 7 = .ok (.bipush 50, 2) := by decide +kernel
theorem dX3_ofBag_9 : decode cX3_ofBag 9 = .ok (.if_icmp .le 7, 3) := by decide +kernel
theorem dX3_ofBag_12 : decode cX3_ofBag 12 = .ok (.iconst 1, 1) := by decide +kernel
theorem dX3_ofBag_13 : decode cX3_ofBag 13 = .ok (.goto 4, 3) := by decide +kernel
theorem dX3_ofBag_16 : decode cX3_ofBag 16 = .ok (.iconst 0, 1) := by decide +kernel
theorem dX3_ofBag_17 : decode cX3_ofBag 17 = .ok (.iconst 1, 1) := by decide +kernel
theorem dX3_ofBag_18 : decode cX3_ofBag 18 = .ok (.iconst 0, 1) := by decide +kernel
theorem dX3_ofBag_19 : decode cX3_ofBag 19 = .ok (.invokevirtual 52, 3) := by decide +kernel
theorem dX3_ofBag_22 : decode cX3_ofBag 22 = .ok (.ifCond .ne 27, 3) := by decide +kernel
theorem dX3_ofBag_25 : decode cX3_ofBag 25 = .ok (.aload_n 0, 1) := by decide +kernel
theorem dX3_ofBag_26 : decode cX3_ofBag 26 = .ok (.aload_n 1, 1) := by decide +kernel
theorem dX3_ofBag_27 : decode cX3_ofBag 27 = .ok (.getfield 63, 3) := by decide +kernel
theorem dX3_ofBag_30 : decode cX3_ofBag 30 = .ok (.bipush 6, 2) := by decide +kernel
theorem dX3_ofBag_32 : decode cX3_ofBag 32 = .ok (.if_icmp .lt 7, 3) := by decide +kernel
theorem dX3_ofBag_35 : decode cX3_ofBag 35 = .ok (.iconst 1, 1) := by decide +kernel
theorem dX3_ofBag_36 : decode cX3_ofBag 36 = .ok (.goto 4, 3) := by decide +kernel
theorem dX3_ofBag_39 : decode cX3_ofBag 39 = .ok (.iconst 0, 1) := by decide +kernel
theorem dX3_ofBag_40 : decode cX3_ofBag 40 = .ok (.iconst 2, 1) := by decide +kernel
theorem dX3_ofBag_41 : decode cX3_ofBag 41 = .ok (.bipush 6, 2) := by decide +kernel
theorem dX3_ofBag_43 : decode cX3_ofBag 43 = .ok (.invokevirtual 52, 3) := by decide +kernel
theorem dX3_ofBag_46 : decode cX3_ofBag 46 = .ok (.ifCond .eq 7, 3) := by decide +kernel
theorem dX3_ofBag_49 : decode cX3_ofBag 49 = .ok (.iconst 1, 1) := by decide +kernel
theorem dX3_ofBag_50 : decode cX3_ofBag 50 = .ok (.goto 4, 3) := by decide +kernel
theorem dX3_ofBag_53 : decode cX3_ofBag 53 = .ok (.iconst 0, 1) := by decide +kernel
theorem dX3_ofBag_54 : decode cX3_ofBag 54 = .ok (.ireturn, 1) := by decide +kernel
theorem dX3_ofFilling_0 : decode cX3_ofFilling 0 = .ok (.aload_n 0, 1) := by decide +kernel
theorem dX3_ofFilling_1 : decode cX3_ofFilling 1 = .ok (.aload_n 1, 1) := by decide +kernel
theorem dX3_ofFilling_2 : decode cX3_ofFilling 2 = .ok (.iload_n 2, 1) := by decide +kernel
theorem dX3_ofFilling_3 : decode cX3_ofFilling 3 = .ok (.invokevirtual 26, 3) := by decide +kernel
theorem dX3_ofFilling_6 : decode cX3_ofFilling 6 = .ok (.iload_n 2, 1) := by decide +kernel
theorem dX3_ofFilling_7 : decode cX3_ofFilling 7 = .ok (.invokevirtual 32, 3) := by decide +kernel
theorem dX3_ofFilling_10 : decode cX3_ofFilling 10 = .ok (.ifCond .ne 16, 3) := by decide +kernel
theorem dX3_ofFilling_13 : decode cX3_ofFilling 13 = .ok (.aload_n 0, 1) := by decide +kernel
theorem dX3_ofFilling_14 : decode cX3_ofFilling 14 = .ok (.aload_n 1, 1) := by decide +kernel
theorem dX3_ofFilling_15 : decode cX3_ofFilling 15 = .ok (.iload_n 3, 1) := by decide +kernel
theorem dX3_ofFilling_16 : decode cX3_ofFilling 16 = .ok (.invokevirtual 66, 3) := by decide +kernel
theorem dX3_ofFilling_19 : decode cX3_ofFilling 19 = .ok (.iload_n 3, 1) := by decide +kernel
theorem dX3_ofFilling_20 : decode cX3_ofFilling 20 = .ok (.invokevirtual 32, 3) := by decide +kernel
theorem dX3_ofFilling_23 : decode cX3_ofFilling 23 = .ok (.ifCond .eq 5, 3) := by decide +kernel
theorem dX3_ofFilling_26 : decode cX3_ofFilling 26 = .ok (.iconst 1, 1) := by decide +kernel
theorem dX3_ofFilling_27 : decode cX3_ofFilling 27 = .ok (.ireturn, 1) := by decide +kernel
theorem dX3_ofFilling_28 : decode cX3_ofFilling 28 = .ok (.sipush 400, 3) := by decide +kernel
theorem dX3_ofFilling_31 : decode cX3_ofFilling 31 = .ok (.aload_n 1, 1) := by decide +kernel
theorem dX3_ofFilling_32 : decode cX3_ofFilling 32 = .ok (.getfield 69, 3) := by decide +kernel
theorem dX3_ofFilling_35 : decode cX3_ofFilling 35 = .ok (.iload_n 2, 1) := by decide +kernel
theorem dX3_ofFilling_36 : decode cX3_ofFilling 36 = .ok (.iaload, 1) := by decide +kernel
theorem dX3_ofFilling_37 : decode cX3_ofFilling 37 = .ok (.isub, 1) := by decide +kernel
theorem dX3_ofFilling_38 : decode cX3_ofFilling 38 = .ok (.istore 5, 2) := by decide +kernel
theorem dX3_ofFilling_40 : decode cX3_ofFilling 40 = .ok (.aload_n 0, 1) := by decide +kernel
theorem dX3_ofFilling_41 : decode cX3_ofFilling 41 = .ok (.iload 4, 2) := by decide +kernel
theorem dX3_ofFilling_43 : decode cX3_ofFilling 43 = .ok (.iconst 1, 1) := by decide +kernel
theorem dX3_ofFilling_44 : decode cX3_ofFilling 44 = .ok (.if_icmp .lt 11, 3) := by decide +kernel
theorem dX3_ofFilling_47 : decode cX3_ofFilling 47 = .ok (.iload 4, 2) := by decide +kernel
theorem dX3_ofFilling_49 : decode cX3_ofFilling 49 = .ok (.sipush 400, 3) := by decide +kernel
theorem dX3_ofFilling_52 : decode cX3_ofFilling 52 = .ok (.if_icmp .le 7, 3) := by decide +kernel
theorem dX3_ofFilling_55 : decode cX3_ofFilling 55 = .ok (.iconst 1, 1) := by decide +kernel
theorem dX3_ofFilling_56 : decode cX3_ofFilling 56 = .ok (.goto 4, 3) := by decide +kernel
theorem dX3_ofFilling_59 : decode cX3_ofFilling 59 = .ok (.iconst 0, 1) := by decide +kernel
theorem dX3_ofFilling_60 : decode cX3_ofFilling 60 = .ok (.iconst 1, 1) := by decide +kernel
theorem dX3_ofFilling_61 : decode cX3_ofFilling 61 = .ok (.iconst 0, 1) := by decide +kernel
theorem dX3_ofFilling_62 : decode cX3_ofFilling 62 = .ok (.invokevirtual 52, 3) := by decide +kernel
theorem dX3_ofFilling_65 : decode cX3_ofFilling 65 = .ok (.ifCond .ne 75, 3) := by decide +kernel
theorem dX3_ofFilling_68 : decode cX3_ofFilling 68 = .ok (.aload_n 1, 1) := by decide +kernel
theorem dX3_ofFilling_69 : decode cX3_ofFilling 69 = .ok (.getfield 69, 3) := by decide +kernel
theorem dX3_ofFilling_72 : decode cX3_ofFilling 72 = .ok (.iload_n 2, 1) := by decide +kernel
theorem dX3_ofFilling_73 : decode cX3_ofFilling 73 = .ok (.iaload, 1) := by decide +kernel
theorem dX3_ofFilling_74 : decode cX3_ofFilling 74 = .ok (.ifCond .le 13, 3) := by decide +kernel
theorem dX3_ofFilling_77 : decode cX3_ofFilling 77 = .ok (.aload_n 0, 1) := by decide +kernel
theorem dX3_ofFilling_78 : decode cX3_ofFilling 78 = .ok (.aload_n 1, 1) := by decide +kernel
theorem dX3_ofFilling_79 : decode cX3_ofFilling 79 = .ok (.iload_n 2, 1) := by decide +kernel
theorem dX3_ofFilling_80 : decode cX3_ofFilling 80 = .ok (.iload_n 3, 1) := by decide +kernel
theorem dX3_ofFilling_81 : decode cX3_ofFilling 81 = .ok (.invokevirtual 73, 3) := by decide +kernel
theorem dX3_ofFilling_84 : decode cX3_ofFilling 84 = .ok (.ifCond .ne 56, 3) := by decide +kernel
theorem dX3_ofFilling_87 : decode cX3_ofFilling 87 = .ok (.aload_n 0, 1) := by decide +kernel
theorem dX3_ofFilling_88 : decode cX3_ofFilling 88 = .ok (.iload 4, 2) := by decide +kernel
theorem dX3_ofFilling_90 : decode cX3_ofFilling 90 = .ok (.aload_n 1, 1) := by decide +kernel
theorem dX3_ofFilling_91 : decode cX3_ofFilling 91 = .ok (.getfield 76, 3) := by decide +kernel
theorem dX3_ofFilling_94 : decode cX3_ofFilling 94 = .ok (.iload_n 3, 1) := by decide +kernel
theorem dX3_ofFilling_95 : decode cX3_ofFilling 95 = .ok (.iaload, 1) := by decide +kernel
theorem dX3_ofFilling_96 : decode cX3_ofFilling 96 = .ok (.if_icmp .le 7, 3) := by decide +kernel
theorem dX3_ofFilling_99 : decode cX3_ofFilling 99 = .ok (.iconst 1, 1) := by decide +kernel
theorem dX3_ofFilling_100 : decode cX3_ofFilling 100 = .ok (.goto 4, 3) := by decide +kernel
theorem dX3_ofFilling_103 : decode cX3_ofFilling 103 = .ok (.iconst 0, 1) := by decide +kernel
theorem dX3_ofFilling_104 : decode cX3_ofFilling 104 = .ok (.iconst 5, 1) := by decide +kernel
theorem dX3_ofFilling_105 : decode cX3_ofFilling 105 = .ok (.aload_n 1, 1) := by decide +kernel
theorem dX3_ofFilling_106 : decode cX3_ofFilling 106 = .ok (.getfield 76, 3) := by decide +kernel
theorem dX3_ofFilling_109 : decode cX3_ofFilling 109 = .ok (.iload_n 3, 1) := by decide +kernel
theorem dX3_ofFilling_110 : decode cX3_ofFilling 110 = .ok (.iaload, 1) := by decide +kernel
theorem dX3_ofFilling_111 : decode cX3_ofFilling 111 = .ok (.invokevirtual 52, 3) := by decide +kernel
theorem dX3_ofFilling_114 : decode cX3_ofFilling 114 = .ok (.ifCond .ne 26, 3) := by decide +kernel
theorem dX3_ofFilling_117 : decode cX3_ofFilling 117 = .ok (.aload_n 0, 1) := by decide +kernel
theorem dX3_ofFilling_118 : decode cX3_ofFilling 118 = .ok (.iload 4, 2) := by decide +kernel
theorem dX3_ofFilling_120 : decode cX3_ofFilling 120 = .ok (.iload 5, 2) := by decide +kernel
theorem dX3_ofFilling_122 : decode cX3_ofFilling 122 = .ok (.if_icmp .le 7, 3) := by decide +kernel
theorem dX3_ofFilling_125 : decode cX3_ofFilling 125 = .ok (.iconst 1, 1) := by decide +kernel
theorem dX3_ofFilling_126 : decode cX3_ofFilling 126 = .ok (.goto 4, 3) := by decide +kernel
theorem dX3_ofFilling_129 : decode cX3_ofFilling 129 = .ok (.iconst 0, 1) := by decide +kernel
theorem dX3_ofFilling_130 : decode cX3_ofFilling 130 = .ok (.bipush 7, 2) := by decide +kernel
theorem dX3_ofFilling_132 : decode cX3_ofFilling 132 = .ok (.iload 5, 2) := by decide +kernel
theorem dX3_ofFilling_134 : decode cX3_ofFilling 134 = .ok (.invokevirtual 52, 3) := by decide +kernel
theorem dX3_ofFilling_137 : decode cX3_ofFilling 137 = .ok (.ifCond .eq 7, 3) := by decide +kernel
theorem dX3_ofFilling_140 : decode cX3_ofFilling 140 = .ok (.iconst 1, 1) := by decide +kernel
theorem dX3_ofFilling_141 : decode cX3_ofFilling 141 = .ok (.goto 4, 3) := by decide +kernel
theorem dX3_ofFilling_144 : decode cX3_ofFilling 144 = .ok (.iconst 0, 1) := by decide +kernel
theorem dX3_ofFilling_145 : decode cX3_ofFilling 145 = .ok (.ireturn, 1) := by decide +kernel
theorem dX3_ofEmptying_0 : decode cX3_ofEmptying 0 = .ok (.aload_n 0, 1) := by decide +kernel
theorem dX3_ofEmptying_1 : decode cX3_ofEmptying 1 = .ok (.aload_n 1, 1) := by decide +kernel
theorem dX3_ofEmptying_2 : decode cX3_ofEmptying 2 = .ok (.iload_n 2, 1) := by decide +kernel
theorem dX3_ofEmptying_3 : decode cX3_ofEmptying 3 = .ok (.invokevirtual 26, 3) := by decide +kernel
theorem dX3_ofEmptying_6 : decode cX3_ofEmptying 6 = .ok (.iload_n 2, 1) := by decide +kernel
theorem dX3_ofEmptying_7 : decode cX3_ofEmptying 7 = .ok (.invokevirtual 32, 3) := by decide +kernel
theorem dX3_ofEmptying_10 : decode cX3_ofEmptying 10 = .ok (.ifCond .ne 16, 3) := by decide +kernel
theorem dX3_ofEmptying_13 : decode cX3_ofEmptying 13 = .ok (.aload_n 0, 1) := by decide +kernel
theorem dX3_ofEmptying_14 : decode cX3_ofEmptying 14 = .ok (.aload_n 1, 1) := by decide +kernel
theorem dX3_ofEmptying_15 : decode cX3_ofEmptying 15 = .ok (.iload_n 3, 1) := by decide +kernel
theorem dX3_ofEmptying_16 : decode cX3_ofEmptying 16 = .ok (.invokevirtual 66, 3) := by decide +kernel
theorem dX3_ofEmptying_19 : decode cX3_ofEmptying 19 = .ok (.iload_n 3, 1) := by decide +kernel
theorem dX3_ofEmptying_20 : decode cX3_ofEmptying 20 = .ok (.invokevirtual 32, 3) := by decide +kernel
theorem dX3_ofEmptying_23 : decode cX3_ofEmptying 23 = .ok (.ifCond .eq 5, 3) := by decide +kernel
theorem dX3_ofEmptying_26 : decode cX3_ofEmptying 26 = .ok (.iconst 1, 1) := by decide +kernel
theorem dX3_ofEmptying_27 : decode cX3_ofEmptying 27 = .ok (.ireturn, 1) := by decide +kernel
theorem dX3_ofEmptying_28 : decode cX3_ofEmptying 28 = .ok (.sipush 900, 3) := by decide +kernel
theorem dX3_ofEmptying_31 : decode cX3_ofEmptying 31 = .ok (.aload_n 1, 1) := by decide +kernel
theorem dX3_ofEmptying_32 : decode cX3_ofEmptying 32 = .ok (.getfield 76, 3) := by decide +kernel
theorem dX3_ofEmptying_35 : decode cX3_ofEmptying 35 = .ok (.iload_n 3, 1) := by decide +kernel
theorem dX3_ofEmptying_36 : decode cX3_ofEmptying 36 = .ok (.iaload, 1) := by decide +kernel
theorem dX3_ofEmptying_37 : decode cX3_ofEmptying 37 = .ok (.isub, 1) := by decide +kernel
theorem dX3_ofEmptying_38 : decode cX3_ofEmptying 38 = .ok (.istore 4, 2) := by decide +kernel
theorem dX3_ofEmptying_40 : decode cX3_ofEmptying 40 = .ok (.aload_n 0, 1) := by decide +kernel
theorem dX3_ofEmptying_41 : decode cX3_ofEmptying 41 = .ok (.aload_n 1, 1) := by decide +kernel
theorem dX3_ofEmptying_42 : decode cX3_ofEmptying 42 = .ok (.getfield 69, 3) := by decide +kernel
theorem dX3_ofEmptying_45 : decode cX3_ofEmptying 45 = .ok (.iload_n 2, 1) := by decide +kernel
theorem dX3_ofEmptying_46 : decode cX3_ofEmptying 46 = .ok (.iaload, 1) := by decide +kernel
theorem dX3_ofEmptying_47 : decode cX3_ofEmptying 47 = .ok (.ifCond .ne 7, 3) := by decide +kernel
theorem dX3_ofEmptying_50 : decode cX3_ofEmptying 50 = .ok (.iconst 1, 1) := by decide +kernel
theorem dX3_ofEmptying_51 : decode cX3_ofEmptying 51 = .ok (.goto 4, 3) := by decide +kernel
theorem dX3_ofEmptying_54 : decode cX3_ofEmptying 54 = .ok (.iconst 0, 1) := by decide +kernel
theorem dX3_ofEmptying_55 : decode cX3_ofEmptying 55 = .ok (.bipush 6, 2) := by decide +kernel
theorem dX3_ofEmptying_57 : decode cX3_ofEmptying 57 = .ok (.iload_n 2, 1) := by decide +kernel
theorem dX3_ofEmptying_58 : decode cX3_ofEmptying 58 = .ok (.invokevirtual 52, 3) := by decide +kernel
theorem dX3_ofEmptying_61 : decode cX3_ofEmptying 61 = .ok (.ifCond .ne 40, 3) := by decide +kernel
theorem dX3_ofEmptying_64 : decode cX3_ofEmptying 64 = .ok (.aload_n 0, 1) := by decide +kernel
theorem dX3_ofEmptying_65 : decode cX3_ofEmptying 65 = .ok (.aload_n 1, 1) := by decide +kernel
theorem dX3_ofEmptying_66 : decode cX3_ofEmptying 66 = .ok (.iload_n 2, 1) := by decide +kernel
theorem dX3_ofEmptying_67 : decode cX3_ofEmptying 67 = .ok (.iload_n 3, 1) := by decide +kernel
theorem dX3_ofEmptying_68 : decode cX3_ofEmptying 68 = .ok (.invokevirtual 73, 3) := by decide +kernel
theorem dX3_ofEmptying_71 : decode cX3_ofEmptying 71 = .ok (.ifCond .ne 30, 3) := by decide +kernel
theorem dX3_ofEmptying_74 : decode cX3_ofEmptying 74 = .ok (.aload_n 0, 1) := by decide +kernel
theorem dX3_ofEmptying_75 : decode cX3_ofEmptying 75 = .ok (.aload_n 1, 1) := by decide +kernel
theorem dX3_ofEmptying_76 : decode cX3_ofEmptying 76 = .ok (.getfield 69, 3) := by decide +kernel
theorem dX3_ofEmptying_79 : decode cX3_ofEmptying 79 = .ok (.iload_n 2, 1) := by decide +kernel
theorem dX3_ofEmptying_80 : decode cX3_ofEmptying 80 = .ok (.iaload, 1) := by decide +kernel
theorem dX3_ofEmptying_81 : decode cX3_ofEmptying 81 = .ok (.iload 4, 2) := by decide +kernel
theorem dX3_ofEmptying_83 : decode cX3_ofEmptying 83 = .ok (.if_icmp .le 7, 3) := by decide +kernel
theorem dX3_ofEmptying_86 : decode cX3_ofEmptying 86 = .ok (.iconst 1, 1) := by decide +kernel
theorem dX3_ofEmptying_87 : decode cX3_ofEmptying 87 = .ok (.goto 4, 3) := by decide +kernel
theorem dX3_ofEmptying_90 : decode cX3_ofEmptying 90 = .ok (.iconst 0, 1) := by decide +kernel
theorem dX3_ofEmptying_91 : decode cX3_ofEmptying 91 = .ok (.bipush 7, 2) := by decide +kernel
theorem dX3_ofEmptying_93 : decode cX3_ofEmptying 93 = .ok (.iload 4, 2) := by decide +kernel
theorem dX3_ofEmptying_95 : decode cX3_ofEmptying 95 = .ok (.invokevirtual 52, 3) := by decide +kernel
theorem dX3_ofEmptying_98 : decode cX3_ofEmptying 98 = .ok (.ifCond .eq 7, 3) := by decide +kernel
theorem dX3_ofEmptying_101 : decode cX3_ofEmptying 101 = .ok (.iconst 1, 1) := by decide +kernel
theorem dX3_ofEmptying_102 : decode cX3_ofEmptying 102 = .ok (.goto 4, 3) := by decide +kernel
theorem dX3_ofEmptying_105 : decode cX3_ofEmptying 105 = .ok (.iconst 0, 1) := by decide +kernel
theorem dX3_ofEmptying_106 : decode cX3_ofEmptying 106 = .ok (.ireturn, 1) := by decide +kernel
theorem dX3_ofOtherSpice_0 : decode cX3_ofOtherSpice 0 = .ok (.aload_n 0, 1) := by decide +kernel
theorem dX3_ofOtherSpice_1 : decode cX3_ofOtherSpice 1 = .ok (.aload_n 1, 1) := by decide +kernel
theorem dX3_ofOtherSpice_2 : decode cX3_ofOtherSpice 2 = .ok (.getfield 79, 3) := by decide +kernel
theorem dX3_ofOtherSpice_5 : decode cX3_ofOtherSpice 5 = .ok (.iload_n 2, 1) := by decide +kernel
theorem dX3_ofOtherSpice_6 : decode cX3_ofOtherSpice 6 = .ok (.iaload, 1) := by decide +kernel
theorem dX3_ofOtherSpice_7 : decode cX3_ofOtherSpice 7 = .ok (.aload_n 1, 1) := by decide +kernel
theorem dX3_ofOtherSpice_8 : decode cX3_ofOtherSpice 8 = .ok (.getfield 82, 3) := by decide +kernel
theorem dX3_ofOtherSpice_11 : decode cX3_ofOtherSpice 11 = .ok (.iload_n 3, 1) := by decide +kernel
theorem dX3_ofOtherSpice_12 : decode cX3_ofOtherSpice 12 = .ok (.iaload, 1) := by decide +kernel
theorem dX3_ofOtherSpice_13 : decode cX3_ofOtherSpice 13 = .ok (.if_icmp .eq 7, 3) := by decide +kernel
theorem dX3_ofOtherSpice_16 : decode cX3_ofOtherSpice 16 = .ok (.iconst 1, 1) := by decide +kernel
theorem dX3_ofOtherSpice_17 : decode cX3_ofOtherSpice 17 = .ok (.goto 4, 3) := by decide +kernel
theorem dX3_ofOtherSpice_20 : decode cX3_ofOtherSpice 20 = .ok (.iconst 0, 1) := by decide +kernel
theorem dX3_ofOtherSpice_21 : decode cX3_ofOtherSpice 21 = .ok (.iconst 4, 1) := by decide +kernel
theorem dX3_ofOtherSpice_22 : decode cX3_ofOtherSpice 22 = .ok (.aload_n 1, 1) := by decide +kernel
theorem dX3_ofOtherSpice_23 : decode cX3_ofOtherSpice 23 = .ok (.getfield 79, 3) := by decide +kernel
theorem dX3_ofOtherSpice_26 : decode cX3_ofOtherSpice 26 = .ok (.iload_n 2, 1) := by decide +kernel
theorem dX3_ofOtherSpice_27 : decode cX3_ofOtherSpice 27 = .ok (.iaload, 1) := by decide +kernel
theorem dX3_ofOtherSpice_28 : decode cX3_ofOtherSpice 28 = .ok (.invokevirtual 52, 3) := by decide +kernel
theorem dX3_ofOtherSpice_31 : decode cX3_ofOtherSpice 31 = .ok (.ireturn, 1) := by decide +kernel
theorem dX3_ofThumb_0 : decode cX3_ofThumb 0 = .ok (.aload_n 0, 1) := by decide +kernel
theorem dX3_ofThumb_1 : decode cX3_ofThumb 1 = .ok (.iload_n 2, 1) := by decide +kernel
theorem dX3_ofThumb_2 : decode cX3_ofThumb 2 = .ok (.ifCond .lt 9, 3) := by decide +kernel
theorem dX3_ofThumb_5 : decode cX3_ofThumb 5 = .ok (.iload_n 2, 1) := by decide +kernel
theorem dX3_ofThumb_6 : decode cX3_ofThumb 6 = .ok (.bipush 30, 2) := by decide +kernel
theorem dX3_ofThumb_8 : decode cX3_ofThumb 8 = .ok (.if_icmp .le 7, 3) := by decide +kernel
theorem dX3_ofThumb_11 : decode cX3_ofThumb 11 = .ok (.iconst 1, 1) := by decide +kernel
theorem dX3_ofThumb_12 : decode cX3_ofThumb 12 = .ok (.goto 4, 3) := by decide +kernel
theorem dX3_ofThumb_15 : decode cX3_ofThumb 15 = .ok (.iconst 0, 1) := by decide +kernel
theorem dX3_ofThumb_16 : decode cX3_ofThumb 16 = .ok (.iconst 1, 1) := by decide +kernel
theorem dX3_ofThumb_17 : decode cX3_ofThumb 17 = .ok (.iconst 0, 1) := by decide +kernel
theorem dX3_ofThumb_18 : decode cX3_ofThumb 18 = .ok (.invokevirtual 52, 3) := by decide +kernel
theorem dX3_ofThumb_21 : decode cX3_ofThumb 21 = .ok (.ifCond .ne 11, 3) := by decide +kernel
theorem dX3_ofThumb_24 : decode cX3_ofThumb 24 = .ok (.aload_n 0, 1) := by decide +kernel
theorem dX3_ofThumb_25 : decode cX3_ofThumb 25 = .ok (.aload_n 1, 1) := by decide +kernel
theorem dX3_ofThumb_26 : decode cX3_ofThumb 26 = .ok (.invokevirtual 85, 3) := by decide +kernel
theorem dX3_ofThumb_29 : decode cX3_ofThumb 29 = .ok (.ifCond .eq 7, 3) := by decide +kernel
theorem dX3_ofThumb_32 : decode cX3_ofThumb 32 = .ok (.iconst 1, 1) := by decide +kernel
theorem dX3_ofThumb_33 : decode cX3_ofThumb 33 = .ok (.goto 4, 3) := by decide +kernel
theorem dX3_ofThumb_36 : decode cX3_ofThumb 36 = .ok (.iconst 0, 1) := by decide +kernel
theorem dX3_ofThumb_37 : decode cX3_ofThumb 37 = .ok (.ireturn, 1) := by decide +kernel
theorem dX3_ofSelling_0 : decode cX3_ofSelling 0 = .ok (.aload_n 0, 1) := by decide +kernel
theorem dX3_ofSelling_1 : decode cX3_ofSelling 1 = .ok (.aload_n 1, 1) := by decide +kernel
theorem dX3_ofSelling_2 : decode cX3_ofSelling 2 = .ok (.iload_n 2, 1) := by decide +kernel
theorem dX3_ofSelling_3 : decode cX3_ofSelling 3 = .ok (.invokevirtual 26, 3) := by decide +kernel
theorem dX3_ofSelling_6 : decode cX3_ofSelling 6 = .ok (.iload_n 2, 1) := by decide +kernel
theorem dX3_ofSelling_7 : decode cX3_ofSelling 7 = .ok (.invokevirtual 32, 3) := by decide +kernel
theorem dX3_ofSelling_10 : decode cX3_ofSelling 10 = .ok (.ifCond .eq 5, 3) := by decide +kernel
theorem dX3_ofSelling_13 : decode cX3_ofSelling 13 = .ok (.iconst 1, 1) := by decide +kernel
theorem dX3_ofSelling_14 : decode cX3_ofSelling 14 = .ok (.ireturn, 1) := by decide +kernel
theorem dX3_ofSelling_15 : decode cX3_ofSelling 15 = .ok (.getstatic 88, 3) := by decide +kernel
theorem dX3_ofSelling_18 : decode cX3_ofSelling 18 = .ok (.aload_n 1, 1) := by decide +kernel
theorem dX3_ofSelling_19 : decode cX3_ofSelling 19 = .ok (.getfield 91, 3) := by decide +kernel
theorem dX3_ofSelling_22 : decode cX3_ofSelling 22 = .ok (.iaload, 1) := by decide +kernel
theorem dX3_ofSelling_23 : decode cX3_ofSelling 23 = .ok (.istore_n 3, 1) := by decide +kernel
theorem dX3_ofSelling_24 : decode cX3_ofSelling 24 = .ok (.aload_n 1, 1) := by decide +kernel
theorem dX3_ofSelling_25 : decode cX3_ofSelling 25 = .ok (.iload_n 2, 1) := by decide +kernel
theorem dX3_ofSelling_26 : decode cX3_ofSelling 26 = .ok (.invokevirtual 94, 3) := by decide +kernel
theorem dX3_ofSelling_29 : decode cX3_ofSelling 29 = .ok (.istore 4, 2) := by decide +kernel
theorem dX3_ofSelling_31 : decode cX3_ofSelling 31 = .ok (.aload_n 0, 1) := by decide +kernel
theorem dX3_ofSelling_32 : decode cX3_ofSelling 32 = .ok (.aload_n 1, 1) := by decide +kernel
theorem dX3_ofSelling_33 : decode cX3_ofSelling 33 = .ok (.getfield 69, 3) := by decide +kernel
theorem dX3_ofSelling_36 : decode cX3_ofSelling 36 = .ok (.iload_n 2, 1) := by decide +kernel
theorem dX3_ofSelling_37 : decode cX3_ofSelling 37 = .ok (.iaload, 1) := by decide +kernel
theorem dX3_ofSelling_38 : decode cX3_ofSelling 38 = .ok (.ifCond .ne 7, 3) := by decide +kernel
theorem dX3_ofSelling_41 : decode cX3_ofSelling 41 = .ok (.iconst 1, 1) := by decide +kernel
theorem dX3_ofSelling_42 : decode cX3_ofSelling 42 = .ok (.goto 4, 3) := by decide +kernel
theorem dX3_ofSelling_45 : decode cX3_ofSelling 45 = .ok (.iconst 0, 1) := by decide +kernel
theorem dX3_ofSelling_46 : decode cX3_ofSelling 46 = .ok (.bipush 6, 2) := by decide +kernel
theorem dX3_ofSelling_48 : decode cX3_ofSelling 48 = .ok (.iload_n 2, 1) := by decide +kernel
theorem dX3_ofSelling_49 : decode cX3_ofSelling 49 = .ok (.invokevirtual 52, 3) := by decide +kernel
theorem dX3_ofSelling_52 : decode cX3_ofSelling 52 = .ok (.ifCond .ne 54, 3) := by decide +kernel
theorem dX3_ofSelling_55 : decode cX3_ofSelling 55 = .ok (.aload_n 0, 1) := by decide +kernel
theorem dX3_ofSelling_56 : decode cX3_ofSelling 56 = .ok (.aload_n 1, 1) := by decide +kernel
theorem dX3_ofSelling_57 : decode cX3_ofSelling 57 = .ok (.getfield 98, 3) := by decide +kernel
theorem dX3_ofSelling_60 : decode cX3_ofSelling 60 = .ok (.iload_n 3, 1) := by decide +kernel
theorem dX3_ofSelling_61 : decode cX3_ofSelling 61 = .ok (.if_icmp .le 7, 3) := by decide +kernel
theorem dX3_ofSelling_64 : decode cX3_ofSelling 64 = .ok (.iconst 1, 1) := by decide +kernel
theorem dX3_ofSelling_65 : decode cX3_ofSelling 65 = .ok (.goto 4, 3) := by decide +kernel
theorem dX3_ofSelling_68 : decode cX3_ofSelling 68 = .ok (.iconst 0, 1) := by decide +kernel
theorem dX3_ofSelling_69 : decode cX3_ofSelling 69 = .ok (.bipush 10, 2) := by decide +kernel
theorem dX3_ofSelling_71 : decode cX3_ofSelling 71 = .ok (.iload_n 3, 1) := by decide +kernel
theorem dX3_ofSelling_72 : decode cX3_ofSelling 72 = .ok (.invokevirtual 52, 3) := by decide +kernel
theorem dX3_ofSelling_75 : decode cX3_ofSelling 75 = .ok (.ifCond .ne 31, 3) := by decide +kernel
theorem dX3_ofSelling_78 : decode cX3_ofSelling 78 = .ok (.aload_n 0, 1) := by decide +kernel
theorem dX3_ofSelling_79 : decode cX3_ofSelling 79 = .ok (.iload 4, 2) := by decide +kernel
theorem dX3_ofSelling_81 : decode cX3_ofSelling 81 = .ok (.ifCond .gt 7, 3) := by decide +kernel
theorem dX3_ofSelling_84 : decode cX3_ofSelling 84 = .ok (.iconst 1, 1) := by decide +kernel
theorem dX3_ofSelling_85 : decode cX3_ofSelling 85 = .ok (.goto 4, 3) := by decide +kernel
theorem dX3_ofSelling_88 : decode cX3_ofSelling 88 = .ok (.iconst 0, 1) := by decide +kernel
theorem dX3_ofSelling_89 : decode cX3_ofSelling 89 = .ok (.bipush 11, 2) := by decide +kernel
theorem dX3_ofSelling_91 : decode cX3_ofSelling 91 = .ok (.iload 4, 2) := by decide +kernel
theorem dX3_ofSelling_93 : decode cX3_ofSelling 93 = .ok (.aload_n 1, 1) := by decide +kernel
theorem dX3_ofSelling_94 : decode cX3_ofSelling 94 = .ok (.getfield 101, 3) := by decide +kernel
theorem dX3_ofSelling_97 : decode cX3_ofSelling 97 = .ok (.iload_n 2, 1) := by decide +kernel
theorem dX3_ofSelling_98 : decode cX3_ofSelling 98 = .ok (.iaload, 1) := by decide +kernel
theorem dX3_ofSelling_99 : decode cX3_ofSelling 99 = .ok (.iadd, 1) := by decide +kernel
theorem dX3_ofSelling_100 : decode cX3_ofSelling 100 = .ok (.invokevirtual 52, 3) := by decide +kernel
theorem dX3_ofSelling_103 : decode cX3_ofSelling 103 = .ok (.ifCond .eq 7, 3) := by decide +kernel
theorem dX3_ofSelling_106 : decode cX3_ofSelling 106 = .ok (.iconst 1, 1) := by decide +kernel
theorem dX3_ofSelling_107 : decode cX3_ofSelling 107 = .ok (.goto 4, 3) := by decide +kernel
theorem dX3_ofSelling_110 : decode cX3_ofSelling 110 = .ok (.iconst 0, 1) := by decide +kernel
theorem dX3_ofSelling_111 : decode cX3_ofSelling 111 = .ok (.ireturn, 1) := by decide +kernel
theorem dX3_ofOath_0 : decode cX3_ofOath 0 = .ok (.aload_n 0, 1) := by decide +kernel
theorem dX3_ofOath_1 : decode cX3_ofOath 1 = .ok (.aload_n 1, 1) := by decide +kernel
theorem dX3_ofOath_2 : decode cX3_ofOath 2 = .ok (.invokevirtual 85, 3) := by decide +kernel
theorem dX3_ofOath_5 : decode cX3_ofOath 5 = .ok (.ifCond .ne 28, 3) := by decide +kernel
theorem dX3_ofOath_8 : decode cX3_ofOath 8 = .ok (.aload_n 0, 1) := by decide +kernel
theorem dX3_ofOath_9 : decode cX3_ofOath 9 = .ok (.aload_n 1, 1) := by decide +kernel
theorem dX3_ofOath_10 : decode cX3_ofOath 10 = .ok (.getfield 98, 3) := by decide +kernel
theorem dX3_ofOath_13 : decode cX3_ofOath 13 = .ok (.ifCond .le 7, 3) := by decide +kernel
theorem dX3_ofOath_16 : decode cX3_ofOath 16 = .ok (.iconst 1, 1) := by decide +kernel
theorem dX3_ofOath_17 : decode cX3_ofOath 17 = .ok (.goto 4, 3) := by decide +kernel
theorem dX3_ofOath_20 : decode cX3_ofOath 20 = .ok (.iconst 0, 1) := by decide +kernel
theorem dX3_ofOath_21 : decode cX3_ofOath 21 = .ok (.bipush 9, 2) := by decide +kernel
theorem dX3_ofOath_23 : decode cX3_ofOath 23 = .ok (.aload_n 1, 1) := by decide +kernel
theorem dX3_ofOath_24 : decode cX3_ofOath 24 = .ok (.getfield 98, 3) := by decide +kernel
theorem dX3_ofOath_27 : decode cX3_ofOath 27 = .ok (.invokevirtual 52, 3) := by decide +kernel
theorem dX3_ofOath_30 : decode cX3_ofOath 30 = .ok (.ifCond .eq 7, 3) := by decide +kernel
theorem dX3_ofOath_33 : decode cX3_ofOath 33 = .ok (.iconst 1, 1) := by decide +kernel
theorem dX3_ofOath_34 : decode cX3_ofOath 34 = .ok (.goto 4, 3) := by decide +kernel
theorem dX3_ofOath_37 : decode cX3_ofOath 37 = .ok (.iconst 0, 1) := by decide +kernel
theorem dX3_ofOath_38 : decode cX3_ofOath 38 = .ok (.ireturn, 1) := by decide +kernel
theorem dX3_ofOathHere_0 : decode cX3_ofOathHere 0 = .ok (.aload_n 0, 1) := by decide +kernel
theorem dX3_ofOathHere_1 : decode cX3_ofOathHere 1 = .ok (.aload_n 1, 1) := by decide +kernel
theorem dX3_ofOathHere_2 : decode cX3_ofOathHere 2 = .ok (.aload_n 1, 1) := by decide +kernel
theorem dX3_ofOathHere_3 : decode cX3_ofOathHere 3 = .ok (.getfield 91, 3) := by decide +kernel
theorem dX3_ofOathHere_6 : decode cX3_ofOathHere 6 = .ok (.invokevirtual 104, 3) := by decide +kernel
theorem dX3_ofOathHere_9 : decode cX3_ofOathHere 9 = .ok (.bipush 8, 2) := by decide +kernel
theorem dX3_ofOathHere_11 : decode cX3_ofOathHere 11 = .ok (.aload_n 1, 1) := by decide +kernel
theorem dX3_ofOathHere_12 : decode cX3_ofOathHere 12 = .ok (.invokevirtual 107, 3) := by decide +kernel
theorem dX3_ofOathHere_15 : decode cX3_ofOathHere 15 = .ok (.invokevirtual 52, 3) := by decide +kernel
theorem dX3_ofOathHere_18 : decode cX3_ofOathHere 18 = .ok (.ireturn, 1) := by decide +kernel
theorem dX3_ofGoing_0 : decode cX3_ofGoing 0 = .ok (.aload_n 0, 1) := by decide +kernel
theorem dX3_ofGoing_1 : decode cX3_ofGoing 1 = .ok (.iload_n 2, 1) := by decide +kernel
theorem dX3_ofGoing_2 : decode cX3_ofGoing 2 = .ok (.invokestatic 111, 3) := by decide +kernel
theorem dX3_ofGoing_5 : decode cX3_ofGoing 5 = .ok (.iload_n 2, 1) := by decide +kernel
theorem dX3_ofGoing_6 : decode cX3_ofGoing 6 = .ok (.invokevirtual 32, 3) := by decide +kernel
theorem dX3_ofGoing_9 : decode cX3_ofGoing 9 = .ok (.ifCond .ne 26, 3) := by decide +kernel
theorem dX3_ofGoing_12 : decode cX3_ofGoing 12 = .ok (.aload_n 0, 1) := by decide +kernel
theorem dX3_ofGoing_13 : decode cX3_ofGoing 13 = .ok (.iload_n 2, 1) := by decide +kernel
theorem dX3_ofGoing_14 : decode cX3_ofGoing 14 = .ok (.aload_n 1, 1) := by decide +kernel
theorem dX3_ofGoing_15 : decode cX3_ofGoing 15 = .ok (.getfield 91, 3) := by decide +kernel
theorem dX3_ofGoing_18 : decode cX3_ofGoing 18 = .ok (.if_icmp .ne 7, 3) := by decide +kernel
theorem dX3_ofGoing_21 : decode cX3_ofGoing 21 = .ok (.iconst 1, 1) := by decide +kernel
theorem dX3_ofGoing_22 : decode cX3_ofGoing 22 = .ok (.goto 4, 3) := by decide +kernel
theorem dX3_ofGoing_25 : decode cX3_ofGoing 25 = .ok (.iconst 0, 1) := by decide +kernel
theorem dX3_ofGoing_26 : decode cX3_ofGoing 26 = .ok (.bipush 13, 2) := by decide +kernel
theorem dX3_ofGoing_28 : decode cX3_ofGoing 28 = .ok (.iload_n 2, 1) := by decide +kernel
theorem dX3_ofGoing_29 : decode cX3_ofGoing 29 = .ok (.invokevirtual 52, 3) := by decide +kernel
theorem dX3_ofGoing_32 : decode cX3_ofGoing 32 = .ok (.ifCond .eq 7, 3) := by decide +kernel
theorem dX3_ofGoing_35 : decode cX3_ofGoing 35 = .ok (.iconst 1, 1) := by decide +kernel
theorem dX3_ofGoing_36 : decode cX3_ofGoing 36 = .ok (.goto 4, 3) := by decide +kernel
theorem dX3_ofGoing_39 : decode cX3_ofGoing 39 = .ok (.iconst 0, 1) := by decide +kernel
theorem dX3_ofGoing_40 : decode cX3_ofGoing 40 = .ok (.ireturn, 1) := by decide +kernel
theorem dX3_ofSealing_0 : decode cX3_ofSealing 0 = .ok (.aload_n 0, 1) := by decide +kernel
theorem dX3_ofSealing_1 : decode cX3_ofSealing 1 = .ok (.iload_n 2, 1) := by decide +kernel
theorem dX3_ofSealing_2 : decode cX3_ofSealing 2 = .ok (.invokestatic 114, 3) := by decide +kernel
theorem dX3_ofSealing_5 : decode cX3_ofSealing 5 = .ok (.iload_n 2, 1) := by decide +kernel
theorem dX3_ofSealing_6 : decode cX3_ofSealing 6 = .ok (.invokevirtual 32, 3) := by decide +kernel
theorem dX3_ofSealing_9 : decode cX3_ofSealing 9 = .ok (.ifCond .ne 31, 3) := by decide +kernel
theorem dX3_ofSealing_12 : decode cX3_ofSealing 12 = .ok (.aload_n 0, 1) := by decide +kernel
theorem dX3_ofSealing_13 : decode cX3_ofSealing 13 = .ok (.aload_n 1, 1) := by decide +kernel
theorem dX3_ofSealing_14 : decode cX3_ofSealing 14 = .ok (.getfield 117, 3) := by decide +kernel
theorem dX3_ofSealing_17 : decode cX3_ofSealing 17 = .ok (.iconst 2, 1) := by decide +kernel
theorem dX3_ofSealing_18 : decode cX3_ofSealing 18 = .ok (.if_icmp .ge 7, 3) := by decide +kernel
theorem dX3_ofSealing_21 : decode cX3_ofSealing 21 = .ok (.iconst 1, 1) := by decide +kernel
theorem dX3_ofSealing_22 : decode cX3_ofSealing 22 = .ok (.goto 4, 3) := by decide +kernel
theorem dX3_ofSealing_25 : decode cX3_ofSealing 25 = .ok (.iconst 0, 1) := by decide +kernel
theorem dX3_ofSealing_26 : decode cX3_ofSealing 26 = .ok (.bipush 12, 2) := by decide +kernel
theorem dX3_ofSealing_28 : decode cX3_ofSealing 28 = .ok (.iconst 2, 1) := by decide +kernel
theorem dX3_ofSealing_29 : decode cX3_ofSealing 29 = .ok (.aload_n 1, 1) := by decide +kernel
theorem dX3_ofSealing_30 : decode cX3_ofSealing 30 = .ok (.getfield 117, 3) := by decide +kernel
theorem dX3_ofSealing_33 : decode cX3_ofSealing 33 = .ok (.isub, 1) := by decide +kernel
theorem dX3_ofSealing_34 : decode cX3_ofSealing 34 = .ok (.invokevirtual 52, 3) := by decide +kernel
theorem dX3_ofSealing_37 : decode cX3_ofSealing 37 = .ok (.ifCond .eq 7, 3) := by decide +kernel
theorem dX3_ofSealing_40 : decode cX3_ofSealing 40 = .ok (.iconst 1, 1) := by decide +kernel
theorem dX3_ofSealing_41 : decode cX3_ofSealing 41 = .ok (.goto 4, 3) := by decide +kernel
theorem dX3_ofSealing_44 : decode cX3_ofSealing 44 = .ok (.iconst 0, 1) := by decide +kernel
theorem dX3_ofSealing_45 : decode cX3_ofSealing 45 = .ok (.ireturn, 1) := by decide +kernel
theorem dX3_ofMissing_0 : decode cX3_ofMissing 0 = .ok (.aload_n 0, 1) := by decide +kernel
theorem dX3_ofMissing_1 : decode cX3_ofMissing 1 = .ok (.iload_n 1, 1) := by decide +kernel
theorem dX3_ofMissing_2 : decode cX3_ofMissing 2 = .ok (.ifCond .ne 7, 3) := by decide +kernel
theorem dX3_ofMissing_5 : decode cX3_ofMissing 5 = .ok (.iconst 1, 1) := by decide +kernel
theorem dX3_ofMissing_6 : decode cX3_ofMissing 6 = .ok (.goto 4, 3) := by decide +kernel
theorem dX3_ofMissing_9 : decode cX3_ofMissing 9 = .ok (.iconst 0, 1) := by decide +kernel
theorem dX3_ofMissing_10 : decode cX3_ofMissing 10 = .ok (.iconst 3, 1) := by decide +kernel
theorem dX3_ofMissing_11 : decode cX3_ofMissing 11 = .ok (.iload_n 2, 1) := by decide +kernel
theorem dX3_ofMissing_12 : decode cX3_ofMissing 12 = .ok (.invokevirtual 52, 3) := by decide +kernel
theorem dX3_ofMissing_15 : decode cX3_ofMissing 15 = .ok (.ireturn, 1) := by decide +kernel
theorem dX3_keepIf_0 : decode cX3_keepIf 0 = .ok (.iload_n 1, 1) := by decide +kernel
theorem dX3_keepIf_1 : decode cX3_keepIf 1 = .ok (.ifCond .eq 18, 3) := by decide +kernel
theorem dX3_keepIf_4 : decode cX3_keepIf 4 = .ok (.aload_n 0, 1) := by decide +kernel
theorem dX3_keepIf_5 : decode cX3_keepIf 5 = .ok (.iload_n 2, 1) := by decide +kernel
theorem dX3_keepIf_6 : decode cX3_keepIf 6 = .ok (.putfield 120, 3) := by decide +kernel
theorem dX3_keepIf_9 : decode cX3_keepIf 9 = .ok (.aload_n 0, 1) := by decide +kernel
theorem dX3_keepIf_10 : decode cX3_keepIf 10 = .ok (.iload_n 3, 1) := by decide +kernel
theorem dX3_keepIf_11 : decode cX3_keepIf 11 = .ok (.putfield 123, 3) := by decide +kernel
theorem dX3_keepIf_14 : decode cX3_keepIf 14 = .ok (.aload_n 0, 1) := by decide +kernel
theorem dX3_keepIf_15 : decode cX3_keepIf 15 = .ok (.iconst 0, 1) := by decide +kernel
theorem dX3_keepIf_16 : decode cX3_keepIf 16 = .ok (.putfield 126, 3) := by decide +kernel
theorem dX3_keepIf_19 : decode cX3_keepIf 19 = .ok (.iload_n 1, 1) := by decide +kernel
theorem dX3_keepIf_20 : decode cX3_keepIf 20 = .ok (.ireturn, 1) := by decide +kernel
theorem dX4_init_0 : decode cX4_init 0 = .ok (.aload_n 0, 1) := by decide +kernel
theorem dX4_init_1 : decode cX4_init 1 = .ok (.invokespecial 1, 3) := by decide +kernel
theorem dX4_init_4 : decode cX4_init 4 = .ok (.aload_n 0, 1) := by decide +kernel
theorem dX4_init_5 : decode cX4_init 5 = .ok (.new 7, 3) := by decide +kernel
theorem dX4_init_8 : decode cX4_init 8 = .ok (.dup, 1) := by decide +kernel
theorem dX4_init_9 : decode cX4_init 9 = .ok (.invokespecial 9, 3) := by decide +kernel
theorem dX4_init_12 : decode cX4_init 12 = .ok (.putfield 10, 3) := by decide +kernel
theorem dX4_init_15 : decode cX4_init 15 = .ok (.aload_n 0, 1) := by decide +kernel
theorem dX4_init_16 : decode cX4_init 16 = .ok (.new 7, 3) := by decide +kernel
theorem dX4_init_19 : decode cX4_init 19 = .ok (.dup, 1) := by decide +kernel
theorem dX4_init_20 : decode cX4_init 20 = .ok (.invokespecial 9, 3) := by decide +kernel
theorem dX4_init_23 : decode cX4_init 23 = .ok (.putfield 16, 3) := by decide +kernel
theorem dX4_init_26 : decode cX4_init 26 = .ok (.aload_n 0, 1) := by decide +kernel
theorem dX4_init_27 : decode cX4_init 27 = .ok (.iconst 0, 1) := by decide +kernel
theorem dX4_init_28 : decode cX4_init 28 = .ok (.putfield 19, 3) := by decide +kernel
theorem dX4_init_31 : decode cX4_init 31 = .ok (.aload_n 0, 1) := by decide +kernel
theorem dX4_init_32 : decode cX4_init 32 = .ok (.new 23, 3) := by decide +kernel
theorem dX4_init_35 : decode cX4_init 35 = .ok (.dup, 1) := by decide +kernel
theorem dX4_init_36 : decode cX4_init 36 = .ok (.invokespecial 25, 3) := by decide +kernel
theorem dX4_init_39 : decode cX4_init 39 = .ok (.putfield 26, 3) := by decide +kernel
theorem dX4_init_42 : decode cX4_init 42 = .ok (.aload_n 0, 1) := by decide +kernel
theorem dX4_init_43 : decode cX4_init 43 = .ok (.new 30, 3) := by decide +kernel
theorem dX4_init_46 : decode cX4_init 46 = .ok (.dup, 1) := by decide +kernel
theorem dX4_init_47 : decode cX4_init 47 = .ok (.invokespecial 32, 3) := by decide +kernel
theorem dX4_init_50 : decode cX4_init 50 = .ok (.putfield 33, 3) := by decide +kernel
theorem dX4_init_53 : decode cX4_init 53 = .ok (.aload_n 0, 1) := by decide +kernel
theorem dX4_init_54 : decode cX4_init 54 = .ok (.new 37, 3) := by decide +kernel
theorem dX4_init_57 : decode cX4_init 57 = .ok (.dup, 1) := by decide +kernel
theorem dX4_init_58 : decode cX4_init 58 = .ok (.invokespecial 39, 3) := by decide +kernel
theorem dX4_init_61 : decode cX4_init 61 = .ok (.putfield 40, 3) := by decide +kernel
theorem dX4_init_64 : decode cX4_init 64 = .ok (.aload_n 0, 1) := by decide +kernel
theorem dX4_init_65 : decode cX4_init 65 = .ok (.iconst (-1), 1) := by decide +kernel
theorem dX4_init_66 : decode cX4_init 66 = .ok (.putfield 44, 3) := by decide +kernel
theorem dX4_init_69 : decode cX4_init 69 = .ok (.aload_n 0, 1) := by decide +kernel
theorem dX4_init_70 : decode cX4_init 70 = .ok (.new 48, 3) := by decide +kernel
theorem dX4_init_73 : decode cX4_init 73 = .ok (.dup, 1) := by decide +kernel
theorem dX4_init_74 : decode cX4_init 74 = .ok (.invokespecial 50, 3) := by decide +kernel
theorem dX4_init_77 : decode cX4_init 77 = .ok (.putfield 51, 3) := by decide +kernel
theorem dX4_init_80 : decode cX4_init 80 = .ok (.return_, 1) := by decide +kernel
theorem dX4_jar_0 : decode cX4_jar 0 = .ok (.aload_n 0, 1) := by decide +kernel
theorem dX4_jar_1 : decode cX4_jar 1 = .ok (.bipush 74, 2) := by decide +kernel
theorem dX4_jar_3 : decode cX4_jar 3 = .ok (.iload_n 1, 1) := by decide +kernel
theorem dX4_jar_4 : decode cX4_jar 4 = .ok (.iload_n 2, 1) := by decide +kernel
theorem dX4_jar_5 : decode cX4_jar 5 = .ok (.iconst 0, 1) := by decide +kernel
theorem dX4_jar_6 : decode cX4_jar 6 = .ok (.invokevirtual 55, 3) := by decide +kernel
theorem dX4_jar_9 : decode cX4_jar 9 = .ok (.ireturn, 1) := by decide +kernel
theorem dX4_bag_0 : decode cX4_bag 0 = .ok (.aload_n 0, 1) := by decide +kernel
theorem dX4_bag_1 : decode cX4_bag 1 = .ok (.bipush 66, 2) := by decide +kernel
theorem dX4_bag_3 : decode cX4_bag 3 = .ok (.iload_n 1, 1) := by decide +kernel
theorem dX4_bag_4 : decode cX4_bag 4 = .ok (.iconst 0, 1) := by decide +kernel
theorem dX4_bag_5 : decode cX4_bag 5 = .ok (.iconst 0, 1) := by decide +kernel
theorem dX4_bag_6 : decode cX4_bag 6 = .ok (.invokevirtual 55, 3) := by decide +kernel
theorem dX4_bag_9 : decode cX4_bag 9 = .ok (.ireturn, 1) := by decide +kernel
theorem dX4_fill_0 : decode cX4_fill 0 = .ok (.aload_n 0, 1) := by decide +kernel
theorem dX4_fill_1 : decode cX4_fill 1 = .ok (.bipush 102, 2) := by decide +kernel
theorem dX4_fill_3 : decode cX4_fill 3 = .ok (.iload_n 1, 1) := by decide +kernel
theorem dX4_fill_4 : decode cX4_fill 4 = .ok (.iload_n 2, 1) := by decide +kernel
theorem dX4_fill_5 : decode cX4_fill 5 = .ok (.iload_n 3, 1) := by decide +kernel
theorem dX4_fill_6 : decode cX4_fill 6 = .ok (.invokevirtual 55, 3) := by decide +kernel
theorem dX4_fill_9 : decode cX4_fill 9 = .ok (.ireturn, 1) := by decide +kernel
theorem dX4_empty_0 : decode cX4_empty 0 = .ok (.aload_n 0, 1) := by decide +kernel
theorem dX4_empty_1 : decode cX4_empty 1 = .ok (.bipush 101, 2) := by decide +kernel
theorem dX4_empty_3 : decode cX4_empty 3 = .ok (.iload_n 1, 1) := by decide +kernel
theorem dX4_empty_4 : decode cX4_empty 4 = .ok (.iload_n 2, 1) := by decide +kernel
theorem dX4_empty_5 : decode cX4_empty 5 = .ok (.iconst 0, 1) := by decide +kernel
theorem dX4_empty_6 : decode cX4_empty 6 = .ok (.invokevirtual 55, 3) := by decide +kernel
theorem dX4_empty_9 : decode cX4_empty 9 = .ok (.ireturn, 1) := by decide +kernel
theorem dX4_beat_0 : decode cX4_beat 0 = .ok (.aload_n 0, 1) := by decide +kernel
theorem dX4_beat_1 : decode cX4_beat 1 = .ok (.bipush 98, 2) := by decide +kernel
theorem dX4_beat_3 : decode cX4_beat 3 = .ok (.iload_n 1, 1) := by decide +kernel
theorem dX4_beat_4 : decode cX4_beat 4 = .ok (.iconst 0, 1) := by decide +kernel
theorem dX4_beat_5 : decode cX4_beat 5 = .ok (.iconst 0, 1) := by decide +kernel
theorem dX4_beat_6 : decode cX4_beat 6 = .ok (.invokevirtual 55, 3) := by decide +kernel
theorem dX4_beat_9 : decode cX4_beat 9 = .ok (.ireturn, 1) := by decide +kernel
theorem dX4_thumb_0 : decode cX4_thumb 0 = .ok (.aload_n 0, 1) := by decide +kernel
theorem dX4_thumb_1 : decode cX4_thumb 1 = .ok (.bipush 116, 2) := by decide +kernel
theorem dX4_thumb_3 : decode cX4_thumb 3 = .ok (.iload_n 1, 1) := by decide +kernel
theorem dX4_thumb_4 : decode cX4_thumb 4 = .ok (.iconst 0, 1) := by decide +kernel
theorem dX4_thumb_5 : decode cX4_thumb 5 = .ok (.iconst 0, 1) := by decide +kernel
theorem dX4_thumb_6 : decode cX4_thumb 6 = .ok (.invokevirtual 55, 3) := by decide +kernel
theorem dX4_thumb_9 : decode cX4_thumb 9 = .ok (.ireturn, 1) := by decide +kernel
theorem dX4_weigh_0 : decode cX4_weigh 0 = .ok (.aload_n 0, 1) := by decide +kernel
theorem dX4_weigh_1 : decode cX4_weigh 1 = .ok (.bipush 119, 2) := by decide +kernel
theorem dX4_weigh_3 : decode cX4_weigh 3 = .ok (.iload_n 1, 1) := by decide +kernel
theorem dX4_weigh_4 : decode cX4_weigh 4 = .ok (.iconst 0, 1) := by decide +kernel
theorem dX4_weigh_5 : decode cX4_weigh 5 = .ok (.iconst 0, 1) := by decide +kernel
theorem dX4_weigh_6 : decode cX4_weigh 6 = .ok (.invokevirtual 55, 3) := by decide +kernel
theorem dX4_weigh_9 : decode cX4_weigh 9 = .ok (.ireturn, 1) := by decide +kernel
theorem dX4_sell_0 : decode cX4_sell 0 = .ok (.aload_n 0, 1) := by decide +kernel
theorem dX4_sell_1 : decode cX4_sell 1 = .ok (.bipush 115, 2) := by decide +kernel
theorem dX4_sell_3 : decode cX4_sell 3 = .ok (.iload_n 1, 1) := by decide +kernel
theorem dX4_sell_4 : decode cX4_sell 4 = .ok (.iconst 0, 1) := by decide +kernel
theorem dX4_sell_5 : decode cX4_sell 5 = .ok (.iconst 0, 1) := by decide +kernel
theorem dX4_sell_6 : decode cX4_sell 6 = .ok (.invokevirtual 55, 3) := by decide +kernel
theorem dX4_sell_9 : decode cX4_sell 9 = .ok (.ireturn, 1) := by decide +kernel
theorem dX4_oath_0 : decode cX4_oath 0 = .ok (.aload_n 0, 1) := by decide +kernel
theorem dX4_oath_1 : decode cX4_oath 1 = .ok (.bipush 111, 2) := by decide +kernel
theorem dX4_oath_3 : decode cX4_oath 3 = .ok (.iconst 0, 1) := by decide +kernel
theorem dX4_oath_4 : decode cX4_oath 4 = .ok (.iconst 0, 1) := by decide +kernel
theorem dX4_oath_5 : decode cX4_oath 5 = .ok (.iconst 0, 1) := by decide +kernel
theorem dX4_oath_6 : decode cX4_oath 6 = .ok (.invokevirtual 55, 3) := by decide +kernel
theorem dX4_oath_9 : decode cX4_oath 9 = .ok (.ireturn, 1) := by decide +kernel
theorem dX4_go_0 : decode cX4_go 0 = .ok (.aload_n 0, 1) := by decide +kernel
theorem dX4_go_1 : decode cX4_go 1 = .ok (.bipush 103, 2) := by decide +kernel
theorem dX4_go_3 : decode cX4_go 3 = .ok (.iload_n 1, 1) := by decide +kernel
theorem dX4_go_4 : decode cX4_go 4 = .ok (.iconst 0, 1) := by decide +kernel
theorem dX4_go_5 : decode cX4_go 5 = .ok (.iconst 0, 1) := by decide +kernel
theorem dX4_go_6 : decode cX4_go 6 = .ok (.invokevirtual 55, 3) := by decide +kernel
theorem dX4_go_9 : decode cX4_go 9 = .ok (.ireturn, 1) := by decide +kernel
theorem dX4_seal_0 : decode cX4_seal 0 = .ok (.aload_n 0, 1) := by decide +kernel
theorem dX4_seal_1 : decode cX4_seal 1 = .ok (.bipush 120, 2) := by decide +kernel
theorem dX4_seal_3 : decode cX4_seal 3 = .ok (.iload_n 1, 1) := by decide +kernel
theorem dX4_seal_4 : decode cX4_seal 4 = .ok (.iconst 0, 1) := by decide +kernel
theorem dX4_seal_5 : decode cX4_seal 5 = .ok (.iconst 0, 1) := by decide +kernel
theorem dX4_seal_6 : decode cX4_seal 6 = .ok (.invokevirtual 55, 3) := by decide +kernel
theorem dX4_seal_9 : decode cX4_seal 9 = .ok (.ireturn, 1) := by decide +kernel
theorem dX4_days_0 : decode cX4_days 0 = .ok (.aload_n 0, 1) := by decide +kernel
theorem dX4_days_1 : decode cX4_days 1 = .ok (.bipush 110, 2) := by decide +kernel
theorem dX4_days_3 : decode cX4_days 3 = .ok (.iload_n 1, 1) := by decide +kernel
theorem dX4_days_4 : decode cX4_days 4 = .ok (.iconst 0, 1) := by decide +kernel
theorem dX4_days_5 : decode cX4_days 5 = .ok (.iconst 0, 1) := by decide +kernel
theorem dX4_days_6 : decode cX4_days 6 = .ok (.invokevirtual 55, 3) := by decide +kernel
theorem dX4_days_9 : decode cX4_days 9 = .ok (.ireturn, 1) := by decide +kernel
theorem dX4_jarOf_0 : decode cX4_jarOf 0 = .ok (.aload_n 0, 1) := by decide +kernel
theorem dX4_jarOf_1 : decode cX4_jarOf 1 = .ok (.getfield 10, 3) := by decide +kernel
theorem dX4_jarOf_4 : decode cX4_jarOf 4 = .ok (.iload_n 1, 1) := by decide +kernel
theorem dX4_jarOf_5 : decode cX4_jarOf 5 = .ok (.invokevirtual 59, 3) := by decide +kernel
theorem dX4_jarOf_8 : decode cX4_jarOf 8 = .ok (.ifCond .ne 13, 3) := by decide +kernel
theorem dX4_jarOf_11 : decode cX4_jarOf 11 = .ok (.new 63, 3) := by decide +kernel
theorem dX4_jarOf_14 : decode cX4_jarOf 14 = .ok (.dup, 1) := by decide +kernel
theorem dX4_jarOf_15 : decode cX4_jarOf 15 = .ok (.ldc 65, 2) := by decide +kernel
theorem dX4_jarOf_17 : decode cX4_jarOf 17 = .ok (.invokespecial 67, 3) := by decide +kernel
theorem dX4_jarOf_20 : decode cX4_jarOf 20 = .ok (.athrow, 1) := by decide +kernel
theorem dX4_jarOf_21 : decode cX4_jarOf 21 = .ok (.iload_n 2, 1) := by decide +kernel
theorem dX4_jarOf_22 : decode cX4_jarOf 22 = .ok (.ifCond .eq 15, 3) := by decide +kernel
theorem dX4_jarOf_25 : decode cX4_jarOf 25 = .ok (.aload_n 0, 1) := by decide +kernel
theorem dX4_jarOf_26 : decode cX4_jarOf 26 = .ok (.getfield 10, 3) := by decide +kernel
theorem dX4_jarOf_29 : decode cX4_jarOf 29 = .ok (.getfield 70, 3) := by decide +kernel
theorem dX4_jarOf_32 : decode cX4_jarOf 32 = .ok (.iload_n 1, 1) := by decide +kernel
theorem dX4_jarOf_33 : decode cX4_jarOf 33 = .ok (.iaload, 1) := by decide +kernel
theorem dX4_jarOf_34 : decode cX4_jarOf 34 = .ok (.goto 12, 3) := by decide +kernel
theorem dX4_jarOf_37 : decode cX4_jarOf 37 = .ok (.aload_n 0, 1) := by decide +kernel
theorem dX4_jarOf_38 : decode cX4_jarOf 38 = .ok (.getfield 10, 3) := by decide +kernel
theorem dX4_jarOf_41 : decode cX4_jarOf 41 = .ok (.getfield 74, 3) := by decide +kernel
theorem dX4_jarOf_44 : decode cX4_jarOf 44 = .ok (.iload_n 1, 1) := by decide +kernel
theorem dX4_jarOf_45 : decode cX4_jarOf 45 = .ok (.iaload, 1) := by decide +kernel
theorem dX4_jarOf_46 : decode cX4_jarOf 46 = .ok (.ireturn, 1) := by decide +kernel
theorem dX4_bagOf_0 : decode cX4_bagOf 0 = .ok (.aload_n 0, 1) := by decide +kernel
theorem dX4_bagOf_1 : decode cX4_bagOf 1 = .ok (.iload_n 1, 1) := by decide +kernel
theorem dX4_bagOf_2 : decode cX4_bagOf 2 = .ok (.invokevirtual 77, 3) := by decide +kernel
theorem dX4_bagOf_5 : decode cX4_bagOf 5 = .ok (.iload_n 2, 1) := by decide +kernel
theorem dX4_bagOf_6 : decode cX4_bagOf 6 = .ok (.tableswitch 97 0 5 #[38, 48, 58, 68, 78, 87], 38) := by decide +kernel
theorem dX4_bagOf_44 : decode cX4_bagOf 44 = .ok (.aload_n 0, 1) := by decide +kernel
theorem dX4_bagOf_45 : decode cX4_bagOf 45 = .ok (.getfield 10, 3) := by decide +kernel
theorem dX4_bagOf_48 : decode cX4_bagOf 48 = .ok (.getfield 81, 3) := by decide +kernel
theorem dX4_bagOf_51 : decode cX4_bagOf 51 = .ok (.iload_n 1, 1) := by decide +kernel
theorem dX4_bagOf_52 : decode cX4_bagOf 52 = .ok (.iaload, 1) := by decide +kernel
theorem dX4_bagOf_53 : decode cX4_bagOf 53 = .ok (.ireturn, 1) := by decide +kernel
theorem dX4_bagOf_54 : decode cX4_bagOf 54 = .ok (.aload_n 0, 1) := by decide +kernel
theorem dX4_bagOf_55 : decode cX4_bagOf 55 = .ok (.getfield 10, 3) := by decide +kernel
theorem dX4_bagOf_58 : decode cX4_bagOf 58 = .ok (.getfield 84, 3) := by decide +kernel
theorem dX4_bagOf_61 : decode cX4_bagOf 61 = .ok (.iload_n 1, 1) := by decide +kernel
theorem dX4_bagOf_62 : decode cX4_bagOf 62 = .ok (.iaload, 1) := by decide +kernel
theorem dX4_bagOf_63 : decode cX4_bagOf 63 = .ok (.ireturn, 1) := by decide +kernel
theorem dX4_bagOf_64 : decode cX4_bagOf 64 = .ok (.aload_n 0, 1) := by decide +kernel
theorem dX4_bagOf_65 : decode cX4_bagOf 65 = .ok (.getfield 10, 3) := by decide +kernel
theorem dX4_bagOf_68 : decode cX4_bagOf 68 = .ok (.getfield 87, 3) := by decide +kernel
theorem dX4_bagOf_71 : decode cX4_bagOf 71 = .ok (.iload_n 1, 1) := by decide +kernel
theorem dX4_bagOf_72 : decode cX4_bagOf 72 = .ok (.iaload, 1) := by decide +kernel
theorem dX4_bagOf_73 : decode cX4_bagOf 73 = .ok (.ireturn, 1) := by decide +kernel
theorem dX4_bagOf_74 : decode cX4_bagOf 74 = .ok (.aload_n 0, 1) := by decide +kernel
theorem dX4_bagOf_75 : decode cX4_bagOf 75 = .ok (.getfield 10, 3) := by decide +kernel
theorem dX4_bagOf_78 : decode cX4_bagOf 78 = .ok (.getfield 90, 3) := by decide +kernel
theorem dX4_bagOf_81 : decode cX4_bagOf 81 = .ok (.iload_n 1, 1) := by decide +kernel
theorem dX4_bagOf_82 : decode cX4_bagOf 82 = .ok (.iaload, 1) := by decide +kernel
theorem dX4_bagOf_83 : decode cX4_bagOf 83 = .ok (.ireturn, 1) := by decide +kernel
theorem dX4_bagOf_84 : decode cX4_bagOf 84 = .ok (.aload_n 0, 1) := by decide +kernel
theorem dX4_bagOf_85 : decode cX4_bagOf 85 = .ok (.getfield 10, 3) := by decide +kernel
theorem dX4_bagOf_88 : decode cX4_bagOf 88 = .ok (.iload_n 1, 1) := by decide +kernel
theorem dX4_bagOf_89 : decode cX4_bagOf 89 = .ok (.invokevirtual 93, 3) := by decide +kernel
theorem dX4_bagOf_92 : decode cX4_bagOf 92 = .ok (.ireturn, 1) := by decide +kernel
theorem dX4_bagOf_93 : decode cX4_bagOf 93 = .ok (.aload_n 0, 1) := by decide +kernel
theorem dX4_bagOf_94 : decode cX4_bagOf 94 = .ok (.getfield 10, 3) := by decide +kernel
theorem dX4_bagOf_97 : decode cX4_bagOf 97 = .ok (.getfield 97, 3) := by decide +kernel
theorem dX4_bagOf_100 : decode cX4_bagOf 100 = .ok (.iload_n 1, 1) := by decide +kernel
theorem dX4_bagOf_101 : decode cX4_bagOf 101 = .ok (.iaload, 1) := by decide +kernel
theorem dX4_bagOf_102 : decode cX4_bagOf 102 = .ok (.ireturn, 1) := by decide +kernel
theorem dX4_bagOf_103 : decode cX4_bagOf 103 = .ok (.new 100, 3) := by decide +kernel
theorem dX4_bagOf_106 : decode cX4_bagOf 106 = .ok (.dup, 1) := by decide +kernel
theorem dX4_bagOf_107 : decode cX4_bagOf 107 = .ok (.ldc 102, 2) := by decide +kernel
theorem dX4_bagOf_109 : decode cX4_bagOf 109 = .ok (.invokespecial 104, 3) := by decide +kernel
theorem dX4_bagOf_112 : decode cX4_bagOf 112 = .ok (.athrow, 1) := by decide +kernel
theorem dX4_weightOf_0 : decode cX4_weightOf 0 = .ok (.iload_n 1, 1) := by decide +kernel
theorem dX4_weightOf_1 : decode cX4_weightOf 1 = .ok (.invokestatic 105, 3) := by decide +kernel
theorem dX4_weightOf_4 : decode cX4_weightOf 4 = .ok (.ifCond .ne 13, 3) := by decide +kernel
theorem dX4_weightOf_7 : decode cX4_weightOf 7 = .ok (.new 63, 3) := by decide +kernel
theorem dX4_weightOf_10 : decode cX4_weightOf 10 = .ok (.dup, 1) := by decide +kernel
theorem dX4_weightOf_11 : decode cX4_weightOf 11 = .ok (.ldc 108, 2) := by decide +kernel
theorem dX4_weightOf_13 : decode cX4_weightOf 13 = .ok (.invokespecial 67, 3) := by decide +kernel
theorem dX4_weightOf_16 : decode cX4_weightOf 16 = .ok (.athrow, 1) := by decide +kernel
theorem dX4_weightOf_17 : decode cX4_weightOf 17 = .ok (.iload_n 2, 1) := by decide +kernel
theorem dX4_weightOf_18 : decode cX4_weightOf 18 = .ok (.tableswitch 64 0 3 #[30, 36, 45, 55], 30) := by decide +kernel
theorem dX4_weightOf_48 : decode cX4_weightOf 48 = .ok (.getstatic 110, 3) := by decide +kernel
theorem dX4_weightOf_51 : decode cX4_weightOf 51 = .ok (.iload_n 1, 1) := by decide +kernel
theorem dX4_weightOf_52 : decode cX4_weightOf 52 = .ok (.iaload, 1) := by decide +kernel
theorem dX4_weightOf_53 : decode cX4_weightOf 53 = .ok (.ireturn, 1) := by decide +kernel
theorem dX4_weightOf_54 : decode cX4_weightOf 54 = .ok (.aload_n 0, 1) := by decide +kernel
theorem dX4_weightOf_55 : decode cX4_weightOf 55 = .ok (.getfield 10, 3) := by decide +kernel
theorem dX4_weightOf_58 : decode cX4_weightOf 58 = .ok (.iload_n 1, 1) := by decide +kernel
theorem dX4_weightOf_59 : decode cX4_weightOf 59 = .ok (.invokevirtual 113, 3) := by decide +kernel
theorem dX4_weightOf_62 : decode cX4_weightOf 62 = .ok (.ireturn, 1) := by decide +kernel
theorem dX4_weightOf_63 : decode cX4_weightOf 63 = .ok (.aload_n 0, 1) := by decide +kernel
theorem dX4_weightOf_64 : decode cX4_weightOf 64 = .ok (.getfield 10, 3) := by decide +kernel
theorem dX4_weightOf_67 : decode cX4_weightOf 67 = .ok (.getfield 116, 3) := by decide +kernel
theorem dX4_weightOf_70 : decode cX4_weightOf 70 = .ok (.iload_n 1, 1) := by decide +kernel
theorem dX4_weightOf_71 : decode cX4_weightOf 71 = .ok (.iaload, 1) := by decide +kernel
theorem dX4_weightOf_72 : decode cX4_weightOf 72 = .ok (.ireturn, 1) := by decide +kernel
theorem dX4_weightOf_73 : decode cX4_weightOf 73 = .ok (.aload_n 0, 1) := by decide +kernel
theorem dX4_weightOf_74 : decode cX4_weightOf 74 = .ok (.getfield 10, 3) := by decide +kernel
theorem dX4_weightOf_77 : decode cX4_weightOf 77 = .ok (.iload_n 1, 1) := by decide +kernel
theorem dX4_weightOf_78 : decode cX4_weightOf 78 = .ok (.invokevirtual 119, 3) := by decide +kernel
theorem dX4_weightOf_81 : decode cX4_weightOf 81 = .ok (.ireturn, 1) := by decide +kernel
theorem dX4_weightOf_82 : decode cX4_weightOf 82 = .ok (.new 100, 3) := by decide +kernel
theorem dX4_weightOf_85 : decode cX4_weightOf 85 = .ok (.dup, 1) := by decide +kernel
theorem dX4_weightOf_86 : decode cX4_weightOf 86 = .ok (.ldc 122, 2) := by decide +kernel
theorem dX4_weightOf_88 : decode cX4_weightOf 88 = .ok (.invokespecial 104, 3) := by decide +kernel
theorem dX4_weightOf_91 : decode cX4_weightOf 91 = .ok (.athrow, 1) := by decide +kernel
theorem dX4_told_0 : decode cX4_told 0 = .ok (.aload_n 0, 1) := by decide +kernel
theorem dX4_told_1 : decode cX4_told 1 = .ok (.iload_n 1, 1) := by decide +kernel
theorem dX4_told_2 : decode cX4_told 2 = .ok (.invokevirtual 77, 3) := by decide +kernel
theorem dX4_told_5 : decode cX4_told 5 = .ok (.aload_n 0, 1) := by decide +kernel
theorem dX4_told_6 : decode cX4_told 6 = .ok (.getfield 10, 3) := by decide +kernel
theorem dX4_told_9 : decode cX4_told 9 = .ok (.aload_n 0, 1) := by decide +kernel
theorem dX4_told_10 : decode cX4_told 10 = .ok (.getfield 10, 3) := by decide +kernel
theorem dX4_told_13 : decode cX4_told 13 = .ok (.iload_n 1, 1) := by decide +kernel
theorem dX4_told_14 : decode cX4_told 14 = .ok (.invokevirtual 93, 3) := by decide +kernel
theorem dX4_told_17 : decode cX4_told 17 = .ok (.invokevirtual 124, 3) := by decide +kernel
theorem dX4_told_20 : decode cX4_told 20 = .ok (.invokestatic 127, 3) := by decide +kernel
theorem dX4_told_23 : decode cX4_told 23 = .ok (.ireturn, 1) := by decide +kernel
theorem dX4_toldAgain_0 : decode cX4_toldAgain 0 = .ok (.aload_n 0, 1) := by decide +kernel
theorem dX4_toldAgain_1 : decode cX4_toldAgain 1 = .ok (.iload_n 1, 1) := by decide +kernel
theorem dX4_toldAgain_2 : decode cX4_toldAgain 2 = .ok (.invokevirtual 77, 3) := by decide +kernel
theorem dX4_toldAgain_5 : decode cX4_toldAgain 5 = .ok (.aload_n 0, 1) := by decide +kernel
theorem dX4_toldAgain_6 : decode cX4_toldAgain 6 = .ok (.getfield 10, 3) := by decide +kernel
theorem dX4_toldAgain_9 : decode cX4_toldAgain 9 = .ok (.iload_n 1, 1) := by decide +kernel
theorem dX4_toldAgain_10 : decode cX4_toldAgain 10 = .ok (.invokevirtual 93, 3) := by decide +kernel
theorem dX4_toldAgain_13 : decode cX4_toldAgain 13 = .ok (.istore_n 2, 1) := by decide +kernel
theorem dX4_toldAgain_14 : decode cX4_toldAgain 14 = .ok (.iload_n 2, 1) := by decide +kernel
theorem dX4_toldAgain_15 : decode cX4_toldAgain 15 = .ok (.aload_n 0, 1) := by decide +kernel
theorem dX4_toldAgain_16 : decode cX4_toldAgain 16 = .ok (.getfield 10, 3) := by decide +kernel
theorem dX4_toldAgain_19 : decode cX4_toldAgain 19 = .ok (.iload_n 2, 1) := by decide +kernel
theorem dX4_toldAgain_20 : decode cX4_toldAgain 20 = .ok (.invokevirtual 130, 3) := by decide +kernel
theorem dX4_toldAgain_23 : decode cX4_toldAgain 23 = .ok (.isub, 1) := by decide +kernel
theorem dX4_toldAgain_24 : decode cX4_toldAgain 24 = .ok (.aload_n 0, 1) := by decide +kernel
theorem dX4_toldAgain_25 : decode cX4_toldAgain 25 = .ok (.getfield 10, 3) := by decide +kernel
theorem dX4_toldAgain_28 : decode cX4_toldAgain 28 = .ok (.aload_n 0, 1) := by decide +kernel
theorem dX4_toldAgain_29 : decode cX4_toldAgain 29 = .ok (.getfield 10, 3) := by decide +kernel
theorem dX4_toldAgain_32 : decode cX4_toldAgain 32 = .ok (.iload_n 2, 1) := by decide +kernel
theorem dX4_toldAgain_33 : decode cX4_toldAgain 33 = .ok (.invokevirtual 124, 3) := by decide +kernel
theorem dX4_toldAgain_36 : decode cX4_toldAgain 36 = .ok (.invokevirtual 133, 3) := by decide +kernel
theorem dX4_toldAgain_39 : decode cX4_toldAgain 39 = .ok (.iadd, 1) := by decide +kernel
theorem dX4_toldAgain_40 : decode cX4_toldAgain 40 = .ok (.ireturn, 1) := by decide +kernel
theorem dX4_onPan_0 : decode cX4_onPan 0 = .ok (.aload_n 0, 1) := by decide +kernel
theorem dX4_onPan_1 : decode cX4_onPan 1 = .ok (.iload_n 1, 1) := by decide +kernel
theorem dX4_onPan_2 : decode cX4_onPan 2 = .ok (.invokevirtual 77, 3) := by decide +kernel
theorem dX4_onPan_5 : decode cX4_onPan 5 = .ok (.aload_n 0, 1) := by decide +kernel
theorem dX4_onPan_6 : decode cX4_onPan 6 = .ok (.getfield 10, 3) := by decide +kernel
theorem dX4_onPan_9 : decode cX4_onPan 9 = .ok (.aload_n 0, 1) := by decide +kernel
theorem dX4_onPan_10 : decode cX4_onPan 10 = .ok (.getfield 10, 3) := by decide +kernel
theorem dX4_onPan_13 : decode cX4_onPan 13 = .ok (.iload_n 1, 1) := by decide +kernel
theorem dX4_onPan_14 : decode cX4_onPan 14 = .ok (.invokevirtual 93, 3) := by decide +kernel
theorem dX4_onPan_17 : decode cX4_onPan 17 = .ok (.invokevirtual 124, 3) := by decide +kernel
theorem dX4_onPan_20 : decode cX4_onPan 20 = .ok (.ireturn, 1) := by decide +kernel
theorem dX4_rest_0 : decode cX4_rest 0 = .ok (.aload_n 0, 1) := by decide +kernel
theorem dX4_rest_1 : decode cX4_rest 1 = .ok (.iload_n 1, 1) := by decide +kernel
theorem dX4_rest_2 : decode cX4_rest 2 = .ok (.invokevirtual 77, 3) := by decide +kernel
theorem dX4_rest_5 : decode cX4_rest 5 = .ok (.aload_n 0, 1) := by decide +kernel
theorem dX4_rest_6 : decode cX4_rest 6 = .ok (.getfield 10, 3) := by decide +kernel
theorem dX4_rest_9 : decode cX4_rest 9 = .ok (.aload_n 0, 1) := by decide +kernel
theorem dX4_rest_10 : decode cX4_rest 10 = .ok (.getfield 10, 3) := by decide +kernel
theorem dX4_rest_13 : decode cX4_rest 13 = .ok (.iload_n 1, 1) := by decide +kernel
theorem dX4_rest_14 : decode cX4_rest 14 = .ok (.invokevirtual 93, 3) := by decide +kernel
theorem dX4_rest_17 : decode cX4_rest 17 = .ok (.invokevirtual 130, 3) := by decide +kernel
theorem dX4_rest_20 : decode cX4_rest 20 = .ok (.ireturn, 1) := by decide +kernel
theorem dX4_honest_0 : decode cX4_honest 0 = .ok (.aload_n 0, 1) := by decide +kernel
theorem dX4_honest_1 : decode cX4_honest 1 = .ok (.iload_n 1, 1) := by decide +kernel
theorem dX4_honest_2 : decode cX4_honest 2 = .ok (.invokevirtual 77, 3) := by decide +kernel
theorem dX4_honest_5 : decode cX4_honest 5 = .ok (.aload_n 0, 1) := by decide +kernel
theorem dX4_honest_6 : decode cX4_honest 6 = .ok (.getfield 10, 3) := by decide +kernel
theorem dX4_honest_9 : decode cX4_honest 9 = .ok (.aload_n 0, 1) := by decide +kernel
theorem dX4_honest_10 : decode cX4_honest 10 = .ok (.getfield 10, 3) := by decide +kernel
theorem dX4_honest_13 : decode cX4_honest 13 = .ok (.getfield 81, 3) := by decide +kernel
theorem dX4_honest_16 : decode cX4_honest 16 = .ok (.iload_n 1, 1) := by decide +kernel
theorem dX4_honest_17 : decode cX4_honest 17 = .ok (.iaload, 1) := by decide +kernel
theorem dX4_honest_18 : decode cX4_honest 18 = .ok (.aload_n 0, 1) := by decide +kernel
theorem dX4_honest_19 : decode cX4_honest 19 = .ok (.getfield 10, 3) := by decide +kernel
theorem dX4_honest_22 : decode cX4_honest 22 = .ok (.getfield 90, 3) := by decide +kernel
theorem dX4_honest_25 : decode cX4_honest 25 = .ok (.iload_n 1, 1) := by decide +kernel
theorem dX4_honest_26 : decode cX4_honest 26 = .ok (.iaload, 1) := by decide +kernel
theorem dX4_honest_27 : decode cX4_honest 27 = .ok (.iadd, 1) := by decide +kernel
theorem dX4_honest_28 : decode cX4_honest 28 = .ok (.invokevirtual 124, 3) := by decide +kernel
theorem dX4_honest_31 : decode cX4_honest 31 = .ok (.invokestatic 127, 3) := by decide +kernel
theorem dX4_honest_34 : decode cX4_honest 34 = .ok (.ireturn, 1) := by decide +kernel
theorem dX4_pays_0 : decode cX4_pays 0 = .ok (.iload_n 1, 1) := by decide +kernel
theorem dX4_pays_1 : decode cX4_pays 1 = .ok (.invokestatic 136, 3) := by decide +kernel
theorem dX4_pays_4 : decode cX4_pays 4 = .ok (.iload_n 2, 1) := by decide +kernel
theorem dX4_pays_5 : decode cX4_pays 5 = .ok (.invokestatic 139, 3) := by decide +kernel
theorem dX4_pays_8 : decode cX4_pays 8 = .ok (.ifCond .ne 13, 3) := by decide +kernel
theorem dX4_pays_11 : decode cX4_pays 11 = .ok (.new 100, 3) := by decide +kernel
theorem dX4_pays_14 : decode cX4_pays 14 = .ok (.dup, 1) := by decide +kernel
theorem dX4_pays_15 : decode cX4_pays 15 = .ok (.ldc 142, 2) := by decide +kernel
theorem dX4_pays_17 : decode cX4_pays 17 = .ok (.invokespecial 104, 3) := by decide +kernel
theorem dX4_pays_20 : decode cX4_pays 20 = .ok (.athrow, 1) := by decide +kernel
theorem dX4_pays_21 : decode cX4_pays 21 = .ok (.iload_n 1, 1) := by decide +kernel
theorem dX4_pays_22 : decode cX4_pays 22 = .ok (.iload_n 2, 1) := by decide +kernel
theorem dX4_pays_23 : decode cX4_pays 23 = .ok (.invokestatic 144, 3) := by decide +kernel
theorem dX4_pays_26 : decode cX4_pays 26 = .ok (.ireturn, 1) := by decide +kernel
theorem dX4_wouldGet_0 : decode cX4_wouldGet 0 = .ok (.aload_n 0, 1) := by decide +kernel
theorem dX4_wouldGet_1 : decode cX4_wouldGet 1 = .ok (.iload_n 1, 1) := by decide +kernel
theorem dX4_wouldGet_2 : decode cX4_wouldGet 2 = .ok (.invokevirtual 77, 3) := by decide +kernel
theorem dX4_wouldGet_5 : decode cX4_wouldGet 5 = .ok (.iload_n 2, 1) := by decide +kernel
theorem dX4_wouldGet_6 : decode cX4_wouldGet 6 = .ok (.invokestatic 136, 3) := by decide +kernel
theorem dX4_wouldGet_9 : decode cX4_wouldGet 9 = .ok (.aload_n 0, 1) := by decide +kernel
theorem dX4_wouldGet_10 : decode cX4_wouldGet 10 = .ok (.iload_n 1, 1) := by decide +kernel
theorem dX4_wouldGet_11 : decode cX4_wouldGet 11 = .ok (.invokevirtual 148, 3) := by decide +kernel
theorem dX4_wouldGet_14 : decode cX4_wouldGet 14 = .ok (.aload_n 0, 1) := by decide +kernel
theorem dX4_wouldGet_15 : decode cX4_wouldGet 15 = .ok (.getfield 10, 3) := by decide +kernel
theorem dX4_wouldGet_18 : decode cX4_wouldGet 18 = .ok (.iload_n 1, 1) := by decide +kernel
theorem dX4_wouldGet_19 : decode cX4_wouldGet 19 = .ok (.iload_n 2, 1) := by decide +kernel
theorem dX4_wouldGet_20 : decode cX4_wouldGet 20 = .ok (.aload_n 0, 1) := by decide +kernel
theorem dX4_wouldGet_21 : decode cX4_wouldGet 21 = .ok (.getfield 10, 3) := by decide +kernel
theorem dX4_wouldGet_24 : decode cX4_wouldGet 24 = .ok (.iload_n 1, 1) := by decide +kernel
theorem dX4_wouldGet_25 : decode cX4_wouldGet 25 = .ok (.invokevirtual 151, 3) := by decide +kernel
theorem dX4_wouldGet_28 : decode cX4_wouldGet 28 = .ok (.invokevirtual 154, 3) := by decide +kernel
theorem dX4_wouldGet_31 : decode cX4_wouldGet 31 = .ok (.ireturn, 1) := by decide +kernel
theorem dX4_bestMarket_0 : decode cX4_bestMarket 0 = .ok (.aload_n 0, 1) := by decide +kernel
theorem dX4_bestMarket_1 : decode cX4_bestMarket 1 = .ok (.iload_n 1, 1) := by decide +kernel
theorem dX4_bestMarket_2 : decode cX4_bestMarket 2 = .ok (.invokevirtual 77, 3) := by decide +kernel
theorem dX4_bestMarket_5 : decode cX4_bestMarket 5 = .ok (.aload_n 0, 1) := by decide +kernel
theorem dX4_bestMarket_6 : decode cX4_bestMarket 6 = .ok (.iload_n 1, 1) := by decide +kernel
theorem dX4_bestMarket_7 : decode cX4_bestMarket 7 = .ok (.invokevirtual 148, 3) := by decide +kernel
theorem dX4_bestMarket_10 : decode cX4_bestMarket 10 = .ok (.aload_n 0, 1) := by decide +kernel
theorem dX4_bestMarket_11 : decode cX4_bestMarket 11 = .ok (.getfield 10, 3) := by decide +kernel
theorem dX4_bestMarket_14 : decode cX4_bestMarket 14 = .ok (.iload_n 1, 1) := by decide +kernel
theorem dX4_bestMarket_15 : decode cX4_bestMarket 15 = .ok (.invokevirtual 158, 3) := by decide +kernel
theorem dX4_bestMarket_18 : decode cX4_bestMarket 18 = .ok (.ireturn, 1) := by decide +kernel
theorem dX4_oathUntil_0 : decode cX4_oathUntil 0 = .ok (.iload_n 1, 1) := by decide +kernel
theorem dX4_oathUntil_1 : decode cX4_oathUntil 1 = .ok (.invokestatic 136, 3) := by decide +kernel
theorem dX4_oathUntil_4 : decode cX4_oathUntil 4 = .ok (.aload_n 0, 1) := by decide +kernel
theorem dX4_oathUntil_5 : decode cX4_oathUntil 5 = .ok (.getfield 10, 3) := by decide +kernel
theorem dX4_oathUntil_8 : decode cX4_oathUntil 8 = .ok (.iload_n 1, 1) := by decide +kernel
theorem dX4_oathUntil_9 : decode cX4_oathUntil 9 = .ok (.invokevirtual 161, 3) := by decide +kernel
theorem dX4_oathUntil_12 : decode cX4_oathUntil 12 = .ok (.ifCond .ne 13, 3) := by decide +kernel
theorem dX4_oathUntil_15 : decode cX4_oathUntil 15 = .ok (.new 164, 3) := by decide +kernel
theorem dX4_oathUntil_18 : decode cX4_oathUntil 18 = .ok (.dup, 1) := by decide +kernel
theorem dX4_oathUntil_19 : decode cX4_oathUntil 19 = .ok (.ldc 166, 2) := by decide +kernel
theorem dX4_oathUntil_21 : decode cX4_oathUntil 21 = .ok (.invokespecial 168, 3) := by decide +kernel
theorem dX4_oathUntil_24 : decode cX4_oathUntil 24 = .ok (.athrow, 1) := by decide +kernel
theorem dX4_oathUntil_25 : decode cX4_oathUntil 25 = .ok (.aload_n 0, 1) := by decide +kernel
theorem dX4_oathUntil_26 : decode cX4_oathUntil 26 = .ok (.getfield 10, 3) := by decide +kernel
theorem dX4_oathUntil_29 : decode cX4_oathUntil 29 = .ok (.getfield 169, 3) := by decide +kernel
theorem dX4_oathUntil_32 : decode cX4_oathUntil 32 = .ok (.iload_n 1, 1) := by decide +kernel
theorem dX4_oathUntil_33 : decode cX4_oathUntil 33 = .ok (.iaload, 1) := by decide +kernel
theorem dX4_oathUntil_34 : decode cX4_oathUntil 34 = .ok (.ireturn, 1) := by decide +kernel
theorem dX4_isNoticed_0 : decode cX4_isNoticed 0 = .ok (.iload_n 1, 1) := by decide +kernel
theorem dX4_isNoticed_1 : decode cX4_isNoticed 1 = .ok (.invokestatic 136, 3) := by decide +kernel
theorem dX4_isNoticed_4 : decode cX4_isNoticed 4 = .ok (.aload_n 0, 1) := by decide +kernel
theorem dX4_isNoticed_5 : decode cX4_isNoticed 5 = .ok (.getfield 10, 3) := by decide +kernel
theorem dX4_isNoticed_8 : decode cX4_isNoticed 8 = .ok (.getfield 172, 3) := by decide +kernel
theorem dX4_isNoticed_11 : decode cX4_isNoticed 11 = .ok (.getstatic 175, 3) := by decide +kernel
theorem dX4_isNoticed_14 : decode cX4_isNoticed 14 = .ok (.iload_n 1, 1) := by decide +kernel
theorem dX4_isNoticed_15 : decode cX4_isNoticed 15 = .ok (.iaload, 1) := by decide +kernel
theorem dX4_isNoticed_16 : decode cX4_isNoticed 16 = .ok (.if_icmp .le 7, 3) := by decide +kernel
theorem dX4_isNoticed_19 : decode cX4_isNoticed 19 = .ok (.iconst 1, 1) := by decide +kernel
theorem dX4_isNoticed_20 : decode cX4_isNoticed 20 = .ok (.goto 4, 3) := by decide +kernel
theorem dX4_isNoticed_23 : decode cX4_isNoticed 23 = .ok (.iconst 0, 1) := by decide +kernel
theorem dX4_isNoticed_24 : decode cX4_isNoticed 24 = .ok (.ireturn, 1) := by decide +kernel
theorem dX4_ranked_0 : decode cX4_ranked 0 = .ok (.aload_n 0, 1) := by decide +kernel
theorem dX4_ranked_1 : decode cX4_ranked 1 = .ok (.getfield 10, 3) := by decide +kernel
theorem dX4_ranked_4 : decode cX4_ranked 4 = .ok (.iload_n 1, 1) := by decide +kernel
theorem dX4_ranked_5 : decode cX4_ranked 5 = .ok (.invokevirtual 178, 3) := by decide +kernel
theorem dX4_ranked_8 : decode cX4_ranked 8 = .ok (.istore_n 2, 1) := by decide +kernel
theorem dX4_ranked_9 : decode cX4_ranked 9 = .ok (.iload_n 2, 1) := by decide +kernel
theorem dX4_ranked_10 : decode cX4_ranked 10 = .ok (.ifCond .ge 13, 3) := by decide +kernel
theorem dX4_ranked_13 : decode cX4_ranked 13 = .ok (.new 164, 3) := by decide +kernel
theorem dX4_ranked_16 : decode cX4_ranked 16 = .ok (.dup, 1) := by decide +kernel
theorem dX4_ranked_17 : decode cX4_ranked 17 = .ok (.ldc 181, 2) := by decide +kernel
theorem dX4_ranked_19 : decode cX4_ranked 19 = .ok (.invokespecial 168, 3) := by decide +kernel
theorem dX4_ranked_22 : decode cX4_ranked 22 = .ok (.athrow, 1) := by decide +kernel
theorem dX4_ranked_23 : decode cX4_ranked 23 = .ok (.iload_n 2, 1) := by decide +kernel
theorem dX4_ranked_24 : decode cX4_ranked 24 = .ok (.ireturn, 1) := by decide +kernel
theorem dX4_append_0 : decode cX4_append 0 = .ok (.aload_n 0, 1) := by decide +kernel
theorem dX4_append_1 : decode cX4_append 1 = .ok (.getfield 40, 3) := by decide +kernel
theorem dX4_append_4 : decode cX4_append 4 = .ok (.getfield 183, 3) := by decide +kernel
theorem dX4_append_7 : decode cX4_append 7 = .ok (.bipush 60, 2) := by decide +kernel
theorem dX4_append_9 : decode cX4_append 9 = .ok (.if_icmp .lt 13, 3) := by decide +kernel
theorem dX4_append_12 : decode cX4_append 12 = .ok (.new 186, 3) := by decide +kernel
theorem dX4_append_15 : decode cX4_append 15 = .ok (.dup, 1) := by decide +kernel
theorem dX4_append_16 : decode cX4_append 16 = .ok (.ldc 188, 2) := by decide +kernel
theorem dX4_append_18 : decode cX4_append 18 = .ok (.invokespecial 190, 3) := by decide +kernel
theorem dX4_append_21 : decode cX4_append 21 = .ok (.athrow, 1) := by decide +kernel
theorem dX4_append_22 : decode cX4_append 22 = .ok (.aload_n 0, 1) := by decide +kernel
theorem dX4_append_23 : decode cX4_append 23 = .ok (.getfield 40, 3) := by decide +kernel
theorem dX4_append_26 : decode cX4_append 26 = .ok (.getfield 191, 3) := by decide +kernel
theorem dX4_append_29 : decode cX4_append 29 = .ok (.aload_n 0, 1) := by decide +kernel
theorem dX4_append_30 : decode cX4_append 30 = .ok (.getfield 40, 3) := by decide +kernel
theorem dX4_append_33 : decode cX4_append 33 = .ok (.getfield 183, 3) := by decide +kernel
theorem dX4_append_36 : decode cX4_append 36 = .ok (.iload_n 1, 1) := by decide +kernel
theorem dX4_append_37 : decode cX4_append 37 = .ok (.castore, 1) := by decide +kernel
theorem dX4_append_38 : decode cX4_append 38 = .ok (.aload_n 0, 1) := by decide +kernel
theorem dX4_append_39 : decode cX4_append 39 = .ok (.getfield 40, 3) := by decide +kernel
theorem dX4_append_42 : decode cX4_append 42 = .ok (.dup, 1) := by decide +kernel
theorem dX4_append_43 : decode cX4_append 43 = .ok (.getfield 183, 3) := by decide +kernel
theorem dX4_append_46 : decode cX4_append 46 = .ok (.iconst 1, 1) := by decide +kernel
theorem dX4_append_47 : decode cX4_append 47 = .ok (.iadd, 1) := by decide +kernel
theorem dX4_append_48 : decode cX4_append 48 = .ok (.putfield 183, 3) := by decide +kernel
theorem dX4_append_51 : decode cX4_append 51 = .ok (.aload_n 0, 1) := by decide +kernel
theorem dX4_append_52 : decode cX4_append 52 = .ok (.getfield 40, 3) := by decide +kernel
theorem dX4_append_55 : decode cX4_append 55 = .ok (.getfield 183, 3) := by decide +kernel
theorem dX4_append_58 : decode cX4_append 58 = .ok (.ireturn, 1) := by decide +kernel
theorem dX4_commands_0 : decode cX4_commands 0 = .ok (.aload_n 0, 1) := by decide +kernel
theorem dX4_commands_1 : decode cX4_commands 1 = .ok (.getfield 40, 3) := by decide +kernel
theorem dX4_commands_4 : decode cX4_commands 4 = .ok (.invokevirtual 195, 3) := by decide +kernel
theorem dX4_commands_7 : decode cX4_commands 7 = .ok (.istore_n 1, 1) := by decide +kernel
theorem dX4_commands_8 : decode cX4_commands 8 = .ok (.aload_n 0, 1) := by decide +kernel
theorem dX4_commands_9 : decode cX4_commands 9 = .ok (.iload_n 1, 1) := by decide +kernel
theorem dX4_commands_10 : decode cX4_commands 10 = .ok (.ifCond .ge 13, 3) := by decide +kernel
theorem dX4_commands_13 : decode cX4_commands 13 = .ok (.aload_n 0, 1) := by decide +kernel
theorem dX4_commands_14 : decode cX4_commands 14 = .ok (.getfield 40, 3) := by decide +kernel
theorem dX4_commands_17 : decode cX4_commands 17 = .ok (.getfield 199, 3) := by decide +kernel
theorem dX4_commands_20 : decode cX4_commands 20 = .ok (.goto 4, 3) := by decide +kernel
theorem dX4_commands_23 : decode cX4_commands 23 = .ok (.iconst (-1), 1) := by decide +kernel
theorem dX4_commands_24 : decode cX4_commands 24 = .ok (.putfield 44, 3) := by decide +kernel
theorem dX4_commands_27 : decode cX4_commands 27 = .ok (.iload_n 1, 1) := by decide +kernel
theorem dX4_commands_28 : decode cX4_commands 28 = .ok (.ifCond .le 15, 3) := by decide +kernel
theorem dX4_commands_31 : decode cX4_commands 31 = .ok (.aload_n 0, 1) := by decide +kernel
theorem dX4_commands_32 : decode cX4_commands 32 = .ok (.iload_n 1, 1) := by decide +kernel
theorem dX4_commands_33 : decode cX4_commands 33 = .ok (.invokevirtual 202, 3) := by decide +kernel
theorem dX4_commands_36 : decode cX4_commands 36 = .ok (.ifCond .eq 7, 3) := by decide +kernel
theorem dX4_commands_39 : decode cX4_commands 39 = .ok (.iconst 1, 1) := by decide +kernel
theorem dX4_commands_40 : decode cX4_commands 40 = .ok (.goto 4, 3) := by decide +kernel
theorem dX4_commands_43 : decode cX4_commands 43 = .ok (.iconst 0, 1) := by decide +kernel
theorem dX4_commands_44 : decode cX4_commands 44 = .ok (.istore_n 2, 1) := by decide +kernel
theorem dX4_commands_45 : decode cX4_commands 45 = .ok (.aload_n 0, 1) := by decide +kernel
theorem dX4_commands_46 : decode cX4_commands 46 = .ok (.getfield 40, 3) := by decide +kernel
theorem dX4_commands_49 : decode cX4_commands 49 = .ok (.iconst 0, 1) := by decide +kernel
theorem dX4_commands_50 : decode cX4_commands 50 = .ok (.putfield 183, 3) := by decide +kernel
theorem dX4_commands_53 : decode cX4_commands 53 = .ok (.aload_n 0, 1) := by decide +kernel
theorem dX4_commands_54 : decode cX4_commands 54 = .ok (.getfield 44, 3) := by decide +kernel
theorem dX4_commands_57 : decode cX4_commands 57 = .ok (.ifCond .lt 13, 3) := by decide +kernel
theorem dX4_commands_60 : decode cX4_commands 60 = .ok (.new 100, 3) := by decide +kernel
theorem dX4_commands_63 : decode cX4_commands 63 = .ok (.dup, 1) := by decide +kernel
theorem dX4_commands_64 : decode cX4_commands 64 = .ok (.ldc 205, 2) := by decide +kernel
theorem dX4_commands_66 : decode cX4_commands 66 = .ok (.invokespecial 104, 3) := by decide +kernel
theorem dX4_commands_69 : decode cX4_commands 69 = .ok (.athrow, 1) := by decide +kernel
theorem dX4_commands_70 : decode cX4_commands 70 = .ok (.iload_n 2, 1) := by decide +kernel
theorem dX4_commands_71 : decode cX4_commands 71 = .ok (.ifCond .ne 13, 3) := by decide +kernel
theorem dX4_commands_74 : decode cX4_commands 74 = .ok (.new 207, 3) := by decide +kernel
theorem dX4_commands_77 : decode cX4_commands 77 = .ok (.dup, 1) := by decide +kernel
theorem dX4_commands_78 : decode cX4_commands 78 = .ok (.ldc 209, 2) := by decide +kernel
theorem dX4_commands_80 : decode cX4_commands 80 = .ok (.invokespecial 211, 3) := by decide +kernel
theorem dX4_commands_83 : decode cX4_commands 83 = .ok (.athrow, 1) := by decide +kernel
theorem dX4_commands_84 : decode cX4_commands 84 = .ok (.iload_n 1, 1) := by decide +kernel
theorem dX4_commands_85 : decode cX4_commands 85 = .ok (.ireturn, 1) := by decide +kernel
theorem dX4_faultPosition_0 : decode cX4_faultPosition 0 = .ok (.aload_n 0, 1) := by decide +kernel
theorem dX4_faultPosition_1 : decode cX4_faultPosition 1 = .ok (.getfield 44, 3) := by decide +kernel
theorem dX4_faultPosition_4 : decode cX4_faultPosition 4 = .ok (.ireturn, 1) := by decide +kernel
theorem dX4_reason_0 : decode cX4_reason 0 = .ok (.iload_n 1, 1) := by decide +kernel
theorem dX4_reason_1 : decode cX4_reason 1 = .ok (.ifCond .lt 8, 3) := by decide +kernel
theorem dX4_reason_4 : decode cX4_reason 4 = .ok (.iload_n 1, 1) := by decide +kernel
theorem dX4_reason_5 : decode cX4_reason 5 = .ok (.iconst 2, 1) := by decide +kernel
theorem dX4_reason_6 : decode cX4_reason 6 = .ok (.if_icmp .le 13, 3) := by decide +kernel
theorem dX4_reason_9 : decode cX4_reason 9 = .ok (.new 100, 3) := by decide +kernel
theorem dX4_reason_12 : decode cX4_reason 12 = .ok (.dup, 1) := by decide +kernel
theorem dX4_reason_13 : decode cX4_reason 13 = .ok (.ldc 212, 2) := by decide +kernel
theorem dX4_reason_15 : decode cX4_reason 15 = .ok (.invokespecial 104, 3) := by decide +kernel
theorem dX4_reason_18 : decode cX4_reason 18 = .ok (.athrow, 1) := by decide +kernel
theorem dX4_reason_19 : decode cX4_reason 19 = .ok (.aload_n 0, 1) := by decide +kernel
theorem dX4_reason_20 : decode cX4_reason 20 = .ok (.getfield 33, 3) := by decide +kernel
theorem dX4_reason_23 : decode cX4_reason 23 = .ok (.getfield 214, 3) := by decide +kernel
theorem dX4_reason_26 : decode cX4_reason 26 = .ok (.ifCond .ne 13, 3) := by decide +kernel
theorem dX4_reason_29 : decode cX4_reason 29 = .ok (.new 164, 3) := by decide +kernel
theorem dX4_reason_32 : decode cX4_reason 32 = .ok (.dup, 1) := by decide +kernel
theorem dX4_reason_33 : decode cX4_reason 33 = .ok (.ldc 217, 2) := by decide +kernel
theorem dX4_reason_35 : decode cX4_reason 35 = .ok (.invokespecial 168, 3) := by decide +kernel
theorem dX4_reason_38 : decode cX4_reason 38 = .ok (.athrow, 1) := by decide +kernel
theorem dX4_reason_39 : decode cX4_reason 39 = .ok (.iload_n 1, 1) := by decide +kernel
theorem dX4_reason_40 : decode cX4_reason 40 = .ok (.ifCond .ne 11, 3) := by decide +kernel
theorem dX4_reason_43 : decode cX4_reason 43 = .ok (.aload_n 0, 1) := by decide +kernel
theorem dX4_reason_44 : decode cX4_reason 44 = .ok (.getfield 33, 3) := by decide +kernel
theorem dX4_reason_47 : decode cX4_reason 47 = .ok (.getfield 214, 3) := by decide +kernel
theorem dX4_reason_50 : decode cX4_reason 50 = .ok (.ireturn, 1) := by decide +kernel
theorem dX4_reason_51 : decode cX4_reason 51 = .ok (.iload_n 1, 1) := by decide +kernel
theorem dX4_reason_52 : decode cX4_reason 52 = .ok (.iconst 1, 1) := by decide +kernel
theorem dX4_reason_53 : decode cX4_reason 53 = .ok (.if_icmp .ne 13, 3) := by decide +kernel
theorem dX4_reason_56 : decode cX4_reason 56 = .ok (.aload_n 0, 1) := by decide +kernel
theorem dX4_reason_57 : decode cX4_reason 57 = .ok (.getfield 33, 3) := by decide +kernel
theorem dX4_reason_60 : decode cX4_reason 60 = .ok (.getfield 219, 3) := by decide +kernel
theorem dX4_reason_63 : decode cX4_reason 63 = .ok (.goto 10, 3) := by decide +kernel
theorem dX4_reason_66 : decode cX4_reason 66 = .ok (.aload_n 0, 1) := by decide +kernel
theorem dX4_reason_67 : decode cX4_reason 67 = .ok (.getfield 33, 3) := by decide +kernel
theorem dX4_reason_70 : decode cX4_reason 70 = .ok (.getfield 222, 3) := by decide +kernel
theorem dX4_reason_73 : decode cX4_reason 73 = .ok (.ireturn, 1) := by decide +kernel
theorem dX4_line_0 : decode cX4_line 0 = .ok (.aload_n 0, 1) := by decide +kernel
theorem dX4_line_1 : decode cX4_line 1 = .ok (.iload_n 1, 1) := by decide +kernel
theorem dX4_line_2 : decode cX4_line 2 = .ok (.invokevirtual 77, 3) := by decide +kernel
theorem dX4_line_5 : decode cX4_line 5 = .ok (.aload_n 0, 1) := by decide +kernel
theorem dX4_line_6 : decode cX4_line 6 = .ok (.aload_n 0, 1) := by decide +kernel
theorem dX4_line_7 : decode cX4_line 7 = .ok (.getfield 10, 3) := by decide +kernel
theorem dX4_line_10 : decode cX4_line 10 = .ok (.aload_n 0, 1) := by decide +kernel
theorem dX4_line_11 : decode cX4_line 11 = .ok (.getfield 10, 3) := by decide +kernel
theorem dX4_line_14 : decode cX4_line 14 = .ok (.iload_n 1, 1) := by decide +kernel
theorem dX4_line_15 : decode cX4_line 15 = .ok (.invokevirtual 93, 3) := by decide +kernel
theorem dX4_line_18 : decode cX4_line 18 = .ok (.invokevirtual 124, 3) := by decide +kernel
theorem dX4_line_21 : decode cX4_line 21 = .ok (.invokevirtual 225, 3) := by decide +kernel
theorem dX4_line_24 : decode cX4_line 24 = .ok (.aload_n 0, 1) := by decide +kernel
theorem dX4_line_25 : decode cX4_line 25 = .ok (.getfield 51, 3) := by decide +kernel
theorem dX4_line_28 : decode cX4_line 28 = .ok (.invokevirtual 228, 3) := by decide +kernel
theorem dX4_line_31 : decode cX4_line 31 = .ok (.ireturn, 1) := by decide +kernel
theorem dX4_character_0 : decode cX4_character 0 = .ok (.iload_n 1, 1) := by decide +kernel
theorem dX4_character_1 : decode cX4_character 1 = .ok (.ifCond .lt 14, 3) := by decide +kernel
theorem dX4_character_4 : decode cX4_character 4 = .ok (.iload_n 1, 1) := by decide +kernel
theorem dX4_character_5 : decode cX4_character 5 = .ok (.aload_n 0, 1) := by decide +kernel
theorem dX4_character_6 : decode cX4_character 6 = .ok (.getfield 51, 3) := by decide +kernel
theorem dX4_character_9 : decode cX4_character 9 = .ok (.invokevirtual 228, 3) := by decide +kernel
theorem dX4_character_12 : decode cX4_character 12 = .ok (.if_icmp .lt 13, 3) := by decide +kernel
theorem dX4_character_15 : decode cX4_character 15 = .ok (.new 63, 3) := by decide +kernel
theorem dX4_character_18 : decode cX4_character 18 = .ok (.dup, 1) := by decide +kernel
theorem dX4_character_19 : decode cX4_character 19 = .ok (.ldc 230, 2) := by decide +kernel
theorem dX4_character_21 : decode cX4_character 21 = .ok (.invokespecial 67, 3) := by decide +kernel
theorem dX4_character_24 : decode cX4_character 24 = .ok (.athrow, 1) := by decide +kernel
theorem dX4_character_25 : decode cX4_character 25 = .ok (.aload_n 0, 1) := by decide +kernel
theorem dX4_character_26 : decode cX4_character 26 = .ok (.getfield 51, 3) := by decide +kernel
theorem dX4_character_29 : decode cX4_character 29 = .ok (.iload_n 1, 1) := by decide +kernel
theorem dX4_character_30 : decode cX4_character 30 = .ok (.invokevirtual 232, 3) := by decide +kernel
theorem dX4_character_33 : decode cX4_character 33 = .ok (.ireturn, 1) := by decide +kernel
theorem dX4_meanDust_0 : decode cX4_meanDust 0 = .ok (.aload_n 0, 1) := by decide +kernel
theorem dX4_meanDust_1 : decode cX4_meanDust 1 = .ok (.getfield 10, 3) := by decide +kernel
theorem dX4_meanDust_4 : decode cX4_meanDust 4 = .ok (.getfield 236, 3) := by decide +kernel
theorem dX4_meanDust_7 : decode cX4_meanDust 7 = .ok (.ifCond .ne 13, 3) := by decide +kernel
theorem dX4_meanDust_10 : decode cX4_meanDust 10 = .ok (.new 239, 3) := by decide +kernel
theorem dX4_meanDust_13 : decode cX4_meanDust 13 = .ok (.dup, 1) := by decide +kernel
theorem dX4_meanDust_14 : decode cX4_meanDust 14 = .ok (.ldc 241, 2) := by decide +kernel
theorem dX4_meanDust_16 : decode cX4_meanDust 16 = .ok (.invokespecial 243, 3) := by decide +kernel
theorem dX4_meanDust_19 : decode cX4_meanDust 19 = .ok (.athrow, 1) := by decide +kernel
theorem dX4_meanDust_20 : decode cX4_meanDust 20 = .ok (.aload_n 0, 1) := by decide +kernel
theorem dX4_meanDust_21 : decode cX4_meanDust 21 = .ok (.getfield 10, 3) := by decide +kernel
theorem dX4_meanDust_24 : decode cX4_meanDust 24 = .ok (.invokevirtual 244, 3) := by decide +kernel
theorem dX4_meanDust_27 : decode cX4_meanDust 27 = .ok (.i2f, 1) := by decide +kernel
theorem dX4_meanDust_28 : decode cX4_meanDust 28 = .ok (.aload_n 0, 1) := by decide +kernel
theorem dX4_meanDust_29 : decode cX4_meanDust 29 = .ok (.getfield 10, 3) := by decide +kernel
theorem dX4_meanDust_32 : decode cX4_meanDust 32 = .ok (.getfield 236, 3) := by decide +kernel
theorem dX4_meanDust_35 : decode cX4_meanDust 35 = .ok (.i2f, 1) := by decide +kernel
theorem dX4_meanDust_36 : decode cX4_meanDust 36 = .ok (.fdiv, 1) := by decide +kernel
theorem dX4_meanDust_37 : decode cX4_meanDust 37 = .ok (.freturn, 1) := by decide +kernel
theorem dX4_honestShare_0 : decode cX4_honestShare 0 = .ok (.aload_n 0, 1) := by decide +kernel
theorem dX4_honestShare_1 : decode cX4_honestShare 1 = .ok (.getfield 10, 3) := by decide +kernel
theorem dX4_honestShare_4 : decode cX4_honestShare 4 = .ok (.getfield 247, 3) := by decide +kernel
theorem dX4_honestShare_7 : decode cX4_honestShare 7 = .ok (.ifCond .ne 13, 3) := by decide +kernel
theorem dX4_honestShare_10 : decode cX4_honestShare 10 = .ok (.new 239, 3) := by decide +kernel
theorem dX4_honestShare_13 : decode cX4_honestShare 13 = .ok (.dup, 1) := by decide +kernel
theorem dX4_honestShare_14 : decode cX4_honestShare 14 = .ok (.ldc 250, 2) := by decide +kernel
theorem dX4_honestShare_16 : decode cX4_honestShare 16 = .ok (.invokespecial 243, 3) := by decide +kernel
theorem dX4_honestShare_19 : decode cX4_honestShare 19 = .ok (.athrow, 1) := by decide +kernel
theorem dX4_honestShare_20 : decode cX4_honestShare 20 = .ok (.aload_n 0, 1) := by decide +kernel
theorem dX4_honestShare_21 : decode cX4_honestShare 21 = .ok (.getfield 10, 3) := by decide +kernel
theorem dX4_honestShare_24 : decode cX4_honestShare 24 = .ok (.getfield 252, 3) := by decide +kernel
theorem dX4_honestShare_27 : decode cX4_honestShare 27 = .ok (.i2d, 1) := by decide +kernel
theorem dX4_honestShare_28 : decode cX4_honestShare 28 = .ok (.aload_n 0, 1) := by decide +kernel
theorem dX4_honestShare_29 : decode cX4_honestShare 29 = .ok (.getfield 10, 3) := by decide +kernel
theorem dX4_honestShare_32 : decode cX4_honestShare 32 = .ok (.getfield 247, 3) := by decide +kernel
theorem dX4_honestShare_35 : decode cX4_honestShare 35 = .ok (.i2d, 1) := by decide +kernel
theorem dX4_honestShare_36 : decode cX4_honestShare 36 = .ok (.ddiv, 1) := by decide +kernel
theorem dX4_honestShare_37 : decode cX4_honestShare 37 = .ok (.dreturn, 1) := by decide +kernel
theorem dX4_account_0 : decode cX4_account 0 = .ok (.iload_n 1, 1) := by decide +kernel
theorem dX4_account_1 : decode cX4_account 1 = .ok (.tableswitch 230 0 15 #[79, 87, 95, 103, 111, 119, 127, 145, 163, 171, 179, 187, 195, 203, 214, 222], 79) := by decide +kernel
theorem dX4_account_80 : decode cX4_account 80 = .ok (.aload_n 0, 1) := by decide +kernel
theorem dX4_account_81 : decode cX4_account 81 = .ok (.getfield 10, 3) := by decide +kernel
theorem dX4_account_84 : decode cX4_account 84 = .ok (.getfield 255, 3) := by decide +kernel
theorem dX4_account_87 : decode cX4_account 87 = .ok (.ireturn, 1) := by decide +kernel
theorem dX4_account_88 : decode cX4_account 88 = .ok (.aload_n 0, 1) := by decide +kernel
theorem dX4_account_89 : decode cX4_account 89 = .ok (.getfield 10, 3) := by decide +kernel
theorem dX4_account_92 : decode cX4_account 92 = .ok (.getfield 258, 3) := by decide +kernel
theorem dX4_account_95 : decode cX4_account 95 = .ok (.ireturn, 1) := by decide +kernel
theorem dX4_account_96 : decode cX4_account 96 = .ok (.aload_n 0, 1) := by decide +kernel
theorem dX4_account_97 : decode cX4_account 97 = .ok (.getfield 10, 3) := by decide +kernel
theorem dX4_account_100 : decode cX4_account 100 = .ok (.getfield 261, 3) := by decide +kernel
theorem dX4_account_103 : decode cX4_account 103 = .ok (.ireturn, 1) := by decide +kernel
theorem dX4_account_104 : decode cX4_account 104 = .ok (.aload_n 0, 1) := by decide +kernel
theorem dX4_account_105 : decode cX4_account 105 = .ok (.getfield 10, 3) := by decide +kernel
theorem dX4_account_108 : decode cX4_account 108 = .ok (.getfield 172, 3) := by decide +kernel
theorem dX4_account_111 : decode cX4_account 111 = .ok (.ireturn, 1) := by decide +kernel
theorem dX4_account_112 : decode cX4_account 112 = .ok (.aload_n 0, 1) := by decide +kernel
theorem dX4_account_113 : decode cX4_account 113 = .ok (.getfield 10, 3) := by decide +kernel
theorem dX4_account_116 : decode cX4_account 116 = .ok (.getfield 264, 3) := by decide +kernel
theorem dX4_account_119 : decode cX4_account 119 = .ok (.ireturn, 1) := by decide +kernel
theorem dX4_account_120 : decode cX4_account 120 = .ok (.aload_n 0, 1) := by decide +kernel
theorem dX4_account_121 : decode cX4_account 121 = .ok (.getfield 10, 3) := by decide +kernel
theorem dX4_account_124 : decode cX4_account 124 = .ok (.getfield 236, 3) := by decide +kernel
theorem dX4_account_127 : decode cX4_account 127 = .ok (.ireturn, 1) := by decide +kernel
theorem dX4_account_128 : decode cX4_account 128 = .ok (.aload_n 0, 1) := by decide +kernel
theorem dX4_account_129 : decode cX4_account 129 = .ok (.getfield 10, 3) := by decide +kernel
theorem dX4_account_132 : decode cX4_account 132 = .ok (.getfield 74, 3) := by decide +kernel
theorem dX4_account_135 : decode cX4_account 135 = .ok (.aload_n 0, 1) := by decide +kernel
theorem dX4_account_136 : decode cX4_account 136 = .ok (.getfield 10, 3) := by decide +kernel
theorem dX4_account_139 : decode cX4_account 139 = .ok (.getfield 264, 3) := by decide +kernel
theorem dX4_account_142 : decode cX4_account 142 = .ok (.invokestatic 267, 3) := by decide +kernel
theorem dX4_account_145 : decode cX4_account 145 = .ok (.ireturn, 1) := by decide +kernel
theorem dX4_account_146 : decode cX4_account 146 = .ok (.aload_n 0, 1) := by decide +kernel
theorem dX4_account_147 : decode cX4_account 147 = .ok (.getfield 10, 3) := by decide +kernel
theorem dX4_account_150 : decode cX4_account 150 = .ok (.getfield 90, 3) := by decide +kernel
theorem dX4_account_153 : decode cX4_account 153 = .ok (.aload_n 0, 1) := by decide +kernel
theorem dX4_account_154 : decode cX4_account 154 = .ok (.getfield 10, 3) := by decide +kernel
theorem dX4_account_157 : decode cX4_account 157 = .ok (.getfield 236, 3) := by decide +kernel
theorem dX4_account_160 : decode cX4_account 160 = .ok (.invokestatic 267, 3) := by decide +kernel
theorem dX4_account_163 : decode cX4_account 163 = .ok (.ireturn, 1) := by decide +kernel
theorem dX4_account_164 : decode cX4_account 164 = .ok (.aload_n 0, 1) := by decide +kernel
theorem dX4_account_165 : decode cX4_account 165 = .ok (.getfield 10, 3) := by decide +kernel
theorem dX4_account_168 : decode cX4_account 168 = .ok (.getfield 252, 3) := by decide +kernel
theorem dX4_account_171 : decode cX4_account 171 = .ok (.ireturn, 1) := by decide +kernel
theorem dX4_account_172 : decode cX4_account 172 = .ok (.aload_n 0, 1) := by decide +kernel
theorem dX4_account_173 : decode cX4_account 173 = .ok (.getfield 10, 3) := by decide +kernel
theorem dX4_account_176 : decode cX4_account 176 = .ok (.getfield 247, 3) := by decide +kernel
theorem dX4_account_179 : decode cX4_account 179 = .ok (.ireturn, 1) := by decide +kernel
theorem dX4_account_180 : decode cX4_account 180 = .ok (.aload_n 0, 1) := by decide +kernel
theorem dX4_account_181 : decode cX4_account 181 = .ok (.getfield 10, 3) := by decide +kernel
theorem dX4_account_184 : decode cX4_account 184 = .ok (.getfield 271, 3) := by decide +kernel
theorem dX4_account_187 : decode cX4_account 187 = .ok (.ireturn, 1) := by decide +kernel
theorem dX4_account_188 : decode cX4_account 188 = .ok (.aload_n 0, 1) := by decide +kernel
theorem dX4_account_189 : decode cX4_account 189 = .ok (.getfield 10, 3) := by decide +kernel
theorem dX4_account_192 : decode cX4_account 192 = .ok (.getfield 274, 3) := by decide +kernel
theorem dX4_account_195 : decode cX4_account 195 = .ok (.ireturn, 1) := by decide +kernel
theorem dX4_account_196 : decode cX4_account 196 = .ok (.aload_n 0, 1) := by decide +kernel
theorem dX4_account_197 : decode cX4_account 197 = .ok (.getfield 10, 3) := by decide +kernel
theorem dX4_account_200 : decode cX4_account 200 = .ok (.invokevirtual 277, 3) := by decide +kernel
theorem dX4_account_203 : decode cX4_account 203 = .ok (.ireturn, 1) := by decide +kernel
theorem dX4_account_204 : decode cX4_account 204 = .ok (.aload_n 0, 1) := by decide +kernel
theorem dX4_account_205 : decode cX4_account 205 = .ok (.getfield 10, 3) := by decide +kernel
theorem dX4_account_208 : decode cX4_account 208 = .ok (.sipush 255, 3) := by decide +kernel
theorem dX4_account_211 : decode cX4_account 211 = .ok (.invokevirtual 133, 3) := by decide +kernel
theorem dX4_account_214 : decode cX4_account 214 = .ok (.ireturn, 1) := by decide +kernel
theorem dX4_account_215 : decode cX4_account 215 = .ok (.aload_n 0, 1) := by decide +kernel
theorem dX4_account_216 : decode cX4_account 216 = .ok (.getfield 26, 3) := by decide +kernel
theorem dX4_account_219 : decode cX4_account 219 = .ok (.getfield 280, 3) := by decide +kernel
theorem dX4_account_222 : decode cX4_account 222 = .ok (.ireturn, 1) := by decide +kernel
theorem dX4_account_223 : decode cX4_account 223 = .ok (.aload_n 0, 1) := by decide +kernel
theorem dX4_account_224 : decode cX4_account 224 = .ok (.getfield 40, 3) := by decide +kernel
theorem dX4_account_227 : decode cX4_account 227 = .ok (.getfield 183, 3) := by decide +kernel
theorem dX4_account_230 : decode cX4_account 230 = .ok (.ireturn, 1) := by decide +kernel
theorem dX4_account_231 : decode cX4_account 231 = .ok (.new 100, 3) := by decide +kernel
theorem dX4_account_234 : decode cX4_account 234 = .ok (.dup, 1) := by decide +kernel
theorem dX4_account_235 : decode cX4_account 235 = .ok (.ldc_w 283, 3) := by decide +kernel
theorem dX4_account_238 : decode cX4_account 238 = .ok (.invokespecial 104, 3) := by decide +kernel
theorem dX4_account_241 : decode cX4_account 241 = .ok (.athrow, 1) := by decide +kernel
theorem dX4_undo_0 : decode cX4_undo 0 = .ok (.aload_n 0, 1) := by decide +kernel
theorem dX4_undo_1 : decode cX4_undo 1 = .ok (.getfield 26, 3) := by decide +kernel
theorem dX4_undo_4 : decode cX4_undo 4 = .ok (.getfield 280, 3) := by decide +kernel
theorem dX4_undo_7 : decode cX4_undo 7 = .ok (.ifCond .ne 14, 3) := by decide +kernel
theorem dX4_undo_10 : decode cX4_undo 10 = .ok (.new 186, 3) := by decide +kernel
theorem dX4_undo_13 : decode cX4_undo 13 = .ok (.dup, 1) := by decide +kernel
theorem dX4_undo_14 : decode cX4_undo 14 = .ok (.ldc_w 285, 3) := by decide +kernel
theorem dX4_undo_17 : decode cX4_undo 17 = .ok (.invokespecial 190, 3) := by decide +kernel
theorem dX4_undo_20 : decode cX4_undo 20 = .ok (.athrow, 1) := by decide +kernel
theorem dX4_undo_21 : decode cX4_undo 21 = .ok (.aload_n 0, 1) := by decide +kernel
theorem dX4_undo_22 : decode cX4_undo 22 = .ok (.getfield 26, 3) := by decide +kernel
theorem dX4_undo_25 : decode cX4_undo 25 = .ok (.aload_n 0, 1) := by decide +kernel
theorem dX4_undo_26 : decode cX4_undo 26 = .ok (.getfield 10, 3) := by decide +kernel
theorem dX4_undo_29 : decode cX4_undo 29 = .ok (.invokevirtual 287, 3) := by decide +kernel
theorem dX4_undo_32 : decode cX4_undo 32 = .ok (.aload_n 0, 1) := by decide +kernel
theorem dX4_undo_33 : decode cX4_undo 33 = .ok (.getfield 26, 3) := by decide +kernel
theorem dX4_undo_36 : decode cX4_undo 36 = .ok (.getfield 280, 3) := by decide +kernel
theorem dX4_undo_39 : decode cX4_undo 39 = .ok (.ireturn, 1) := by decide +kernel
theorem dX4_save_0 : decode cX4_save 0 = .ok (.aload_n 0, 1) := by decide +kernel
theorem dX4_save_1 : decode cX4_save 1 = .ok (.getfield 16, 3) := by decide +kernel
theorem dX4_save_4 : decode cX4_save 4 = .ok (.aload_n 0, 1) := by decide +kernel
theorem dX4_save_5 : decode cX4_save 5 = .ok (.getfield 10, 3) := by decide +kernel
theorem dX4_save_8 : decode cX4_save 8 = .ok (.invokevirtual 291, 3) := by decide +kernel
theorem dX4_save_11 : decode cX4_save 11 = .ok (.aload_n 0, 1) := by decide +kernel
theorem dX4_save_12 : decode cX4_save 12 = .ok (.iconst 1, 1) := by decide +kernel
theorem dX4_save_13 : decode cX4_save 13 = .ok (.putfield 19, 3) := by decide +kernel
theorem dX4_save_16 : decode cX4_save 16 = .ok (.aload_n 0, 1) := by decide +kernel
theorem dX4_save_17 : decode cX4_save 17 = .ok (.getfield 10, 3) := by decide +kernel
theorem dX4_save_20 : decode cX4_save 20 = .ok (.getfield 255, 3) := by decide +kernel
theorem dX4_save_23 : decode cX4_save 23 = .ok (.ireturn, 1) := by decide +kernel
theorem dX4_restore_0 : decode cX4_restore 0 = .ok (.aload_n 0, 1) := by decide +kernel
theorem dX4_restore_1 : decode cX4_restore 1 = .ok (.getfield 19, 3) := by decide +kernel
theorem dX4_restore_4 : decode cX4_restore 4 = .ok (.ifCond .ne 14, 3) := by decide +kernel
theorem dX4_restore_7 : decode cX4_restore 7 = .ok (.new 186, 3) := by decide +kernel
theorem dX4_restore_10 : decode cX4_restore 10 = .ok (.dup, 1) := by decide +kernel
theorem dX4_restore_11 : decode cX4_restore 11 = .ok (.ldc_w 294, 3) := by decide +kernel
theorem dX4_restore_14 : decode cX4_restore 14 = .ok (.invokespecial 190, 3) := by decide +kernel
theorem dX4_restore_17 : decode cX4_restore 17 = .ok (.athrow, 1) := by decide +kernel
theorem dX4_restore_18 : decode cX4_restore 18 = .ok (.aload_n 0, 1) := by decide +kernel
theorem dX4_restore_19 : decode cX4_restore 19 = .ok (.getfield 10, 3) := by decide +kernel
theorem dX4_restore_22 : decode cX4_restore 22 = .ok (.aload_n 0, 1) := by decide +kernel
theorem dX4_restore_23 : decode cX4_restore 23 = .ok (.getfield 16, 3) := by decide +kernel
theorem dX4_restore_26 : decode cX4_restore 26 = .ok (.invokevirtual 291, 3) := by decide +kernel
theorem dX4_restore_29 : decode cX4_restore 29 = .ok (.aload_n 0, 1) := by decide +kernel
theorem dX4_restore_30 : decode cX4_restore 30 = .ok (.getfield 26, 3) := by decide +kernel
theorem dX4_restore_33 : decode cX4_restore 33 = .ok (.iconst 0, 1) := by decide +kernel
theorem dX4_restore_34 : decode cX4_restore 34 = .ok (.putfield 280, 3) := by decide +kernel
theorem dX4_restore_37 : decode cX4_restore 37 = .ok (.aload_n 0, 1) := by decide +kernel
theorem dX4_restore_38 : decode cX4_restore 38 = .ok (.getfield 10, 3) := by decide +kernel
theorem dX4_restore_41 : decode cX4_restore 41 = .ok (.getfield 255, 3) := by decide +kernel
theorem dX4_restore_44 : decode cX4_restore 44 = .ok (.ireturn, 1) := by decide +kernel
theorem dX4_checkBag_0 : decode cX4_checkBag 0 = .ok (.aload_n 0, 1) := by decide +kernel
theorem dX4_checkBag_1 : decode cX4_checkBag 1 = .ok (.getfield 10, 3) := by decide +kernel
theorem dX4_checkBag_4 : decode cX4_checkBag 4 = .ok (.iload_n 1, 1) := by decide +kernel
theorem dX4_checkBag_5 : decode cX4_checkBag 5 = .ok (.invokevirtual 296, 3) := by decide +kernel
theorem dX4_checkBag_8 : decode cX4_checkBag 8 = .ok (.ifCond .ne 14, 3) := by decide +kernel
theorem dX4_checkBag_11 : decode cX4_checkBag 11 = .ok (.new 63, 3) := by decide +kernel
theorem dX4_checkBag_14 : decode cX4_checkBag 14 = .ok (.dup, 1) := by decide +kernel
theorem dX4_checkBag_15 : decode cX4_checkBag 15 = .ok (.ldc_w 299, 3) := by decide +kernel
theorem dX4_checkBag_18 : decode cX4_checkBag 18 = .ok (.invokespecial 67, 3) := by decide +kernel
theorem dX4_checkBag_21 : decode cX4_checkBag 21 = .ok (.athrow, 1) := by decide +kernel
theorem dX4_checkBag_22 : decode cX4_checkBag 22 = .ok (.return_, 1) := by decide +kernel
theorem dX4_checkMarket_0 : decode cX4_checkMarket 0 = .ok (.iload_n 0, 1) := by decide +kernel
theorem dX4_checkMarket_1 : decode cX4_checkMarket 1 = .ok (.invokestatic 301, 3) := by decide +kernel
theorem dX4_checkMarket_4 : decode cX4_checkMarket 4 = .ok (.ifCond .ne 14, 3) := by decide +kernel
theorem dX4_checkMarket_7 : decode cX4_checkMarket 7 = .ok (.new 63, 3) := by decide +kernel
theorem dX4_checkMarket_10 : decode cX4_checkMarket 10 = .ok (.dup, 1) := by decide +kernel
theorem dX4_checkMarket_11 : decode cX4_checkMarket 11 = .ok (.ldc_w 304, 3) := by decide +kernel
theorem dX4_checkMarket_14 : decode cX4_checkMarket 14 = .ok (.invokespecial 67, 3) := by decide +kernel
theorem dX4_checkMarket_17 : decode cX4_checkMarket 17 = .ok (.athrow, 1) := by decide +kernel
theorem dX4_checkMarket_18 : decode cX4_checkMarket 18 = .ok (.return_, 1) := by decide +kernel
theorem dX4_checkFilled_0 : decode cX4_checkFilled 0 = .ok (.aload_n 0, 1) := by decide +kernel
theorem dX4_checkFilled_1 : decode cX4_checkFilled 1 = .ok (.getfield 10, 3) := by decide +kernel
theorem dX4_checkFilled_4 : decode cX4_checkFilled 4 = .ok (.getfield 90, 3) := by decide +kernel
theorem dX4_checkFilled_7 : decode cX4_checkFilled 7 = .ok (.iload_n 1, 1) := by decide +kernel
theorem dX4_checkFilled_8 : decode cX4_checkFilled 8 = .ok (.iaload, 1) := by decide +kernel
theorem dX4_checkFilled_9 : decode cX4_checkFilled 9 = .ok (.ifCond .ne 14, 3) := by decide +kernel
theorem dX4_checkFilled_12 : decode cX4_checkFilled 12 = .ok (.new 164, 3) := by decide +kernel
theorem dX4_checkFilled_15 : decode cX4_checkFilled 15 = .ok (.dup, 1) := by decide +kernel
theorem dX4_checkFilled_16 : decode cX4_checkFilled 16 = .ok (.ldc_w 306, 3) := by decide +kernel
theorem dX4_checkFilled_19 : decode cX4_checkFilled 19 = .ok (.invokespecial 168, 3) := by decide +kernel
theorem dX4_checkFilled_22 : decode cX4_checkFilled 22 = .ok (.athrow, 1) := by decide +kernel
theorem dX4_checkFilled_23 : decode cX4_checkFilled 23 = .ok (.return_, 1) := by decide +kernel
theorem dX4_change_0 : decode cX4_change 0 = .ok (.aload_n 0, 1) := by decide +kernel
theorem dX4_change_1 : decode cX4_change 1 = .ok (.getfield 33, 3) := by decide +kernel
theorem dX4_change_4 : decode cX4_change 4 = .ok (.aload_n 0, 1) := by decide +kernel
theorem dX4_change_5 : decode cX4_change 5 = .ok (.getfield 10, 3) := by decide +kernel
theorem dX4_change_8 : decode cX4_change 8 = .ok (.iload_n 1, 1) := by decide +kernel
theorem dX4_change_9 : decode cX4_change 9 = .ok (.iload_n 2, 1) := by decide +kernel
theorem dX4_change_10 : decode cX4_change 10 = .ok (.iload_n 3, 1) := by decide +kernel
theorem dX4_change_11 : decode cX4_change 11 = .ok (.iload 4, 2) := by decide +kernel
theorem dX4_change_13 : decode cX4_change 13 = .ok (.invokevirtual 308, 3) := by decide +kernel
theorem dX4_change_16 : decode cX4_change 16 = .ok (.ifCond .eq 14, 3) := by decide +kernel
theorem dX4_change_19 : decode cX4_change 19 = .ok (.new 207, 3) := by decide +kernel
theorem dX4_change_22 : decode cX4_change 22 = .ok (.dup, 1) := by decide +kernel
theorem dX4_change_23 : decode cX4_change 23 = .ok (.ldc_w 312, 3) := by decide +kernel
theorem dX4_change_26 : decode cX4_change 26 = .ok (.invokespecial 211, 3) := by decide +kernel
theorem dX4_change_29 : decode cX4_change 29 = .ok (.athrow, 1) := by decide +kernel
theorem dX4_change_30 : decode cX4_change 30 = .ok (.aload_n 0, 1) := by decide +kernel
theorem dX4_change_31 : decode cX4_change 31 = .ok (.getfield 26, 3) := by decide +kernel
theorem dX4_change_34 : decode cX4_change 34 = .ok (.aload_n 0, 1) := by decide +kernel
theorem dX4_change_35 : decode cX4_change 35 = .ok (.getfield 10, 3) := by decide +kernel
theorem dX4_change_38 : decode cX4_change 38 = .ok (.invokevirtual 314, 3) := by decide +kernel
theorem dX4_change_41 : decode cX4_change 41 = .ok (.aload_n 0, 1) := by decide +kernel
theorem dX4_change_42 : decode cX4_change 42 = .ok (.getfield 26, 3) := by decide +kernel
theorem dX4_change_45 : decode cX4_change 45 = .ok (.invokevirtual 317, 3) := by decide +kernel
theorem dX4_change_48 : decode cX4_change 48 = .ok (.aload_n 0, 1) := by decide +kernel
theorem dX4_change_49 : decode cX4_change 49 = .ok (.getfield 10, 3) := by decide +kernel
theorem dX4_change_52 : decode cX4_change 52 = .ok (.iload_n 1, 1) := by decide +kernel
theorem dX4_change_53 : decode cX4_change 53 = .ok (.iload_n 2, 1) := by decide +kernel
theorem dX4_change_54 : decode cX4_change 54 = .ok (.iload_n 3, 1) := by decide +kernel
theorem dX4_change_55 : decode cX4_change 55 = .ok (.iload 4, 2) := by decide +kernel
theorem dX4_change_57 : decode cX4_change 57 = .ok (.invokevirtual 320, 3) := by decide +kernel
theorem dX4_change_60 : decode cX4_change 60 = .ok (.ireturn, 1) := by decide +kernel
theorem dX4_carryOutCommands_0 : decode cX4_carryOutCommands 0 = .ok (.aload_n 0, 1) := by decide +kernel
theorem dX4_carryOutCommands_1 : decode cX4_carryOutCommands 1 = .ok (.getfield 26, 3) := by decide +kernel
theorem dX4_carryOutCommands_4 : decode cX4_carryOutCommands 4 = .ok (.aload_n 0, 1) := by decide +kernel
theorem dX4_carryOutCommands_5 : decode cX4_carryOutCommands 5 = .ok (.getfield 10, 3) := by decide +kernel
theorem dX4_carryOutCommands_8 : decode cX4_carryOutCommands 8 = .ok (.invokevirtual 314, 3) := by decide +kernel
theorem dX4_carryOutCommands_11 : decode cX4_carryOutCommands 11 = .ok (.aload_n 0, 1) := by decide +kernel
theorem dX4_carryOutCommands_12 : decode cX4_carryOutCommands 12 = .ok (.getfield 40, 3) := by decide +kernel
theorem dX4_carryOutCommands_15 : decode cX4_carryOutCommands 15 = .ok (.iconst 0, 1) := by decide +kernel
theorem dX4_carryOutCommands_16 : decode cX4_carryOutCommands 16 = .ok (.putfield 199, 3) := by decide +kernel
theorem dX4_carryOutCommands_19 : decode cX4_carryOutCommands 19 = .ok (.aload_n 0, 1) := by decide +kernel
theorem dX4_carryOutCommands_20 : decode cX4_carryOutCommands 20 = .ok (.getfield 40, 3) := by decide +kernel
theorem dX4_carryOutCommands_23 : decode cX4_carryOutCommands 23 = .ok (.getfield 323, 3) := by decide +kernel
theorem dX4_carryOutCommands_26 : decode cX4_carryOutCommands 26 = .ok (.astore_n 2, 1) := by decide +kernel
theorem dX4_carryOutCommands_27 : decode cX4_carryOutCommands 27 = .ok (.iconst 0, 1) := by decide +kernel
theorem dX4_carryOutCommands_28 : decode cX4_carryOutCommands 28 = .ok (.istore_n 3, 1) := by decide +kernel
theorem dX4_carryOutCommands_29 : decode cX4_carryOutCommands 29 = .ok (.iload_n 3, 1) := by decide +kernel
theorem dX4_carryOutCommands_30 : decode cX4_carryOutCommands 30 = .ok (.iload_n 1, 1) := by decide +kernel
theorem dX4_carryOutCommands_31 : decode cX4_carryOutCommands 31 = .ok (.if_icmp .ge 92, 3) := by decide +kernel
theorem dX4_carryOutCommands_34 : decode cX4_carryOutCommands 34 = .ok (.aload_n 0, 1) := by decide +kernel
theorem dX4_carryOutCommands_35 : decode cX4_carryOutCommands 35 = .ok (.getfield 40, 3) := by decide +kernel
theorem dX4_carryOutCommands_38 : decode cX4_carryOutCommands 38 = .ok (.invokevirtual 326, 3) := by decide +kernel
theorem dX4_carryOutCommands_41 : decode cX4_carryOutCommands 41 = .ok (.pop, 1) := by decide +kernel
theorem dX4_carryOutCommands_42 : decode cX4_carryOutCommands 42 = .ok (.aload_n 0, 1) := by decide +kernel
theorem dX4_carryOutCommands_43 : decode cX4_carryOutCommands 43 = .ok (.getfield 33, 3) := by decide +kernel
theorem dX4_carryOutCommands_46 : decode cX4_carryOutCommands 46 = .ok (.aload_n 0, 1) := by decide +kernel
theorem dX4_carryOutCommands_47 : decode cX4_carryOutCommands 47 = .ok (.getfield 10, 3) := by decide +kernel
theorem dX4_carryOutCommands_50 : decode cX4_carryOutCommands 50 = .ok (.aload_n 0, 1) := by decide +kernel
theorem dX4_carryOutCommands_51 : decode cX4_carryOutCommands 51 = .ok (.getfield 40, 3) := by decide +kernel
theorem dX4_carryOutCommands_54 : decode cX4_carryOutCommands 54 = .ok (.getfield 330, 3) := by decide +kernel
theorem dX4_carryOutCommands_57 : decode cX4_carryOutCommands 57 = .ok (.aload_n 2, 1) := by decide +kernel
theorem dX4_carryOutCommands_58 : decode cX4_carryOutCommands 58 = .ok (.iconst 0, 1) := by decide +kernel
theorem dX4_carryOutCommands_59 : decode cX4_carryOutCommands 59 = .ok (.iaload, 1) := by decide +kernel
theorem dX4_carryOutCommands_60 : decode cX4_carryOutCommands 60 = .ok (.aload_n 2, 1) := by decide +kernel
theorem dX4_carryOutCommands_61 : decode cX4_carryOutCommands 61 = .ok (.iconst 1, 1) := by decide +kernel
theorem dX4_carryOutCommands_62 : decode cX4_carryOutCommands 62 = .ok (.iaload, 1) := by decide +kernel
theorem dX4_carryOutCommands_63 : decode cX4_carryOutCommands 63 = .ok (.aload_n 2, 1) := by decide +kernel
theorem dX4_carryOutCommands_64 : decode cX4_carryOutCommands 64 = .ok (.iconst 2, 1) := by decide +kernel
theorem dX4_carryOutCommands_65 : decode cX4_carryOutCommands 65 = .ok (.iaload, 1) := by decide +kernel
theorem dX4_carryOutCommands_66 : decode cX4_carryOutCommands 66 = .ok (.invokevirtual 308, 3) := by decide +kernel
theorem dX4_carryOutCommands_69 : decode cX4_carryOutCommands 69 = .ok (.ifCond .eq 24, 3) := by decide +kernel
theorem dX4_carryOutCommands_72 : decode cX4_carryOutCommands 72 = .ok (.aload_n 0, 1) := by decide +kernel
theorem dX4_carryOutCommands_73 : decode cX4_carryOutCommands 73 = .ok (.getfield 33, 3) := by decide +kernel
theorem dX4_carryOutCommands_76 : decode cX4_carryOutCommands 76 = .ok (.iload_n 3, 1) := by decide +kernel
theorem dX4_carryOutCommands_77 : decode cX4_carryOutCommands 77 = .ok (.putfield 222, 3) := by decide +kernel
theorem dX4_carryOutCommands_80 : decode cX4_carryOutCommands 80 = .ok (.aload_n 0, 1) := by decide +kernel
theorem dX4_carryOutCommands_81 : decode cX4_carryOutCommands 81 = .ok (.getfield 26, 3) := by decide +kernel
theorem dX4_carryOutCommands_84 : decode cX4_carryOutCommands 84 = .ok (.aload_n 0, 1) := by decide +kernel
theorem dX4_carryOutCommands_85 : decode cX4_carryOutCommands 85 = .ok (.getfield 10, 3) := by decide +kernel
theorem dX4_carryOutCommands_88 : decode cX4_carryOutCommands 88 = .ok (.invokevirtual 333, 3) := by decide +kernel
theorem dX4_carryOutCommands_91 : decode cX4_carryOutCommands 91 = .ok (.iconst 0, 1) := by decide +kernel
theorem dX4_carryOutCommands_92 : decode cX4_carryOutCommands 92 = .ok (.ireturn, 1) := by decide +kernel
theorem dX4_carryOutCommands_93 : decode cX4_carryOutCommands 93 = .ok (.aload_n 0, 1) := by decide +kernel
theorem dX4_carryOutCommands_94 : decode cX4_carryOutCommands 94 = .ok (.getfield 10, 3) := by decide +kernel
theorem dX4_carryOutCommands_97 : decode cX4_carryOutCommands 97 = .ok (.aload_n 0, 1) := by decide +kernel
theorem dX4_carryOutCommands_98 : decode cX4_carryOutCommands 98 = .ok (.getfield 40, 3) := by decide +kernel
theorem dX4_carryOutCommands_101 : decode cX4_carryOutCommands 101 = .ok (.getfield 330, 3) := by decide +kernel
theorem dX4_carryOutCommands_104 : decode cX4_carryOutCommands 104 = .ok (.aload_n 2, 1) := by decide +kernel
theorem dX4_carryOutCommands_105 : decode cX4_carryOutCommands 105 = .ok (.iconst 0, 1) := by decide +kernel
theorem dX4_carryOutCommands_106 : decode cX4_carryOutCommands 106 = .ok (.iaload, 1) := by decide +kernel
theorem dX4_carryOutCommands_107 : decode cX4_carryOutCommands 107 = .ok (.aload_n 2, 1) := by decide +kernel
theorem dX4_carryOutCommands_108 : decode cX4_carryOutCommands 108 = .ok (.iconst 1, 1) := by decide +kernel
theorem dX4_carryOutCommands_109 : decode cX4_carryOutCommands 109 = .ok (.iaload, 1) := by decide +kernel
theorem dX4_carryOutCommands_110 : decode cX4_carryOutCommands 110 = .ok (.aload_n 2, 1) := by decide +kernel
theorem dX4_carryOutCommands_111 : decode cX4_carryOutCommands 111 = .ok (.iconst 2, 1) := by decide +kernel
theorem dX4_carryOutCommands_112 : decode cX4_carryOutCommands 112 = .ok (.iaload, 1) := by decide +kernel
theorem dX4_carryOutCommands_113 : decode cX4_carryOutCommands 113 = .ok (.invokevirtual 320, 3) := by decide +kernel
theorem dX4_carryOutCommands_116 : decode cX4_carryOutCommands 116 = .ok (.pop, 1) := by decide +kernel
theorem dX4_carryOutCommands_117 : decode cX4_carryOutCommands 117 = .ok (.iinc 3 1, 3) := by decide +kernel
theorem dX4_carryOutCommands_120 : decode cX4_carryOutCommands 120 = .ok (.goto (-91), 3) := by decide +kernel
theorem dX4_carryOutCommands_123 : decode cX4_carryOutCommands 123 = .ok (.aload_n 0, 1) := by decide +kernel
theorem dX4_carryOutCommands_124 : decode cX4_carryOutCommands 124 = .ok (.getfield 26, 3) := by decide +kernel
theorem dX4_carryOutCommands_127 : decode cX4_carryOutCommands 127 = .ok (.invokevirtual 317, 3) := by decide +kernel
theorem dX4_carryOutCommands_130 : decode cX4_carryOutCommands 130 = .ok (.iconst 1, 1) := by decide +kernel
theorem dX4_carryOutCommands_131 : decode cX4_carryOutCommands 131 = .ok (.ireturn, 1) := by decide +kernel
theorem dX4_writeLine_0 : decode cX4_writeLine 0 = .ok (.aload_n 0, 1) := by decide +kernel
theorem dX4_writeLine_1 : decode cX4_writeLine 1 = .ok (.getfield 51, 3) := by decide +kernel
theorem dX4_writeLine_4 : decode cX4_writeLine 4 = .ok (.iconst 0, 1) := by decide +kernel
theorem dX4_writeLine_5 : decode cX4_writeLine 5 = .ok (.invokevirtual 336, 3) := by decide +kernel
theorem dX4_writeLine_8 : decode cX4_writeLine 8 = .ok (.bipush 7, 2) := by decide +kernel
theorem dX4_writeLine_10 : decode cX4_writeLine 10 = .ok (.istore_n 2, 1) := by decide +kernel
theorem dX4_writeLine_11 : decode cX4_writeLine 11 = .ok (.iload_n 2, 1) := by decide +kernel
theorem dX4_writeLine_12 : decode cX4_writeLine 12 = .ok (.ifCond .lt 50, 3) := by decide +kernel
theorem dX4_writeLine_15 : decode cX4_writeLine 15 = .ok (.iload_n 2, 1) := by decide +kernel
theorem dX4_writeLine_16 : decode cX4_writeLine 16 = .ok (.iload_n 1, 1) := by decide +kernel
theorem dX4_writeLine_17 : decode cX4_writeLine 17 = .ok (.invokestatic 339, 3) := by decide +kernel
theorem dX4_writeLine_20 : decode cX4_writeLine 20 = .ok (.ifCond .eq 36, 3) := by decide +kernel
theorem dX4_writeLine_23 : decode cX4_writeLine 23 = .ok (.aload_n 0, 1) := by decide +kernel
theorem dX4_writeLine_24 : decode cX4_writeLine 24 = .ok (.getfield 51, 3) := by decide +kernel
theorem dX4_writeLine_27 : decode cX4_writeLine 27 = .ok (.invokevirtual 228, 3) := by decide +kernel
theorem dX4_writeLine_30 : decode cX4_writeLine 30 = .ok (.ifCond .le 13, 3) := by decide +kernel
theorem dX4_writeLine_33 : decode cX4_writeLine 33 = .ok (.aload_n 0, 1) := by decide +kernel
theorem dX4_writeLine_34 : decode cX4_writeLine 34 = .ok (.getfield 51, 3) := by decide +kernel
theorem dX4_writeLine_37 : decode cX4_writeLine 37 = .ok (.bipush 43, 2) := by decide +kernel
theorem dX4_writeLine_39 : decode cX4_writeLine 39 = .ok (.invokevirtual 343, 3) := by decide +kernel
theorem dX4_writeLine_42 : decode cX4_writeLine 42 = .ok (.pop, 1) := by decide +kernel
theorem dX4_writeLine_43 : decode cX4_writeLine 43 = .ok (.aload_n 0, 1) := by decide +kernel
theorem dX4_writeLine_44 : decode cX4_writeLine 44 = .ok (.getfield 51, 3) := by decide +kernel
theorem dX4_writeLine_47 : decode cX4_writeLine 47 = .ok (.getstatic 110, 3) := by decide +kernel
theorem dX4_writeLine_50 : decode cX4_writeLine 50 = .ok (.iload_n 2, 1) := by decide +kernel
theorem dX4_writeLine_51 : decode cX4_writeLine 51 = .ok (.iaload, 1) := by decide +kernel
theorem dX4_writeLine_52 : decode cX4_writeLine 52 = .ok (.invokevirtual 347, 3) := by decide +kernel
theorem dX4_writeLine_55 : decode cX4_writeLine 55 = .ok (.pop, 1) := by decide +kernel
theorem dX4_writeLine_56 : decode cX4_writeLine 56 = .ok (.iinc 2 (-1), 3) := by decide +kernel
theorem dX4_writeLine_59 : decode cX4_writeLine 59 = .ok (.goto (-48), 3) := by decide +kernel
theorem dX4_writeLine_62 : decode cX4_writeLine 62 = .ok (.aload_n 0, 1) := by decide +kernel
theorem dX4_writeLine_63 : decode cX4_writeLine 63 = .ok (.getfield 51, 3) := by decide +kernel
theorem dX4_writeLine_66 : decode cX4_writeLine 66 = .ok (.bipush 61, 2) := by decide +kernel
theorem dX4_writeLine_68 : decode cX4_writeLine 68 = .ok (.invokevirtual 343, 3) := by decide +kernel
theorem dX4_writeLine_71 : decode cX4_writeLine 71 = .ok (.pop, 1) := by decide +kernel
theorem dX4_writeLine_72 : decode cX4_writeLine 72 = .ok (.aload_n 0, 1) := by decide +kernel
theorem dX4_writeLine_73 : decode cX4_writeLine 73 = .ok (.getfield 51, 3) := by decide +kernel
theorem dX4_writeLine_76 : decode cX4_writeLine 76 = .ok (.iload_n 1, 1) := by decide +kernel
theorem dX4_writeLine_77 : decode cX4_writeLine 77 = .ok (.invokestatic 127, 3) := by decide +kernel
theorem dX4_writeLine_80 : decode cX4_writeLine 80 = .ok (.invokevirtual 347, 3) := by decide +kernel
theorem dX4_writeLine_83 : decode cX4_writeLine 83 = .ok (.pop, 1) := by decide +kernel
theorem dX4_writeLine_84 : decode cX4_writeLine 84 = .ok (.return_, 1) := by decide +kernel
theorem dX4_isMarket_0 : decode cX4_isMarket 0 = .ok (.iload_n 0, 1) := by decide +kernel
theorem dX4_isMarket_1 : decode cX4_isMarket 1 = .ok (.ifCond .lt 12, 3) := by decide +kernel
theorem dX4_isMarket_4 : decode cX4_isMarket 4 = .ok (.iload_n 0, 1) := by decide +kernel
theorem dX4_isMarket_5 : decode cX4_isMarket 5 = .ok (.iconst 4, 1) := by decide +kernel
theorem dX4_isMarket_6 : decode cX4_isMarket 6 = .ok (.if_icmp .ge 7, 3) := by decide +kernel
theorem dX4_isMarket_9 : decode cX4_isMarket 9 = .ok (.iconst 1, 1) := by decide +kernel
theorem dX4_isMarket_10 : decode cX4_isMarket 10 = .ok (.goto 4, 3) := by decide +kernel
theorem dX4_isMarket_13 : decode cX4_isMarket 13 = .ok (.iconst 0, 1) := by decide +kernel
theorem dX4_isMarket_14 : decode cX4_isMarket 14 = .ok (.ireturn, 1) := by decide +kernel
theorem dX4_isSpice_0 : decode cX4_isSpice 0 = .ok (.iload_n 0, 1) := by decide +kernel
theorem dX4_isSpice_1 : decode cX4_isSpice 1 = .ok (.ifCond .lt 12, 3) := by decide +kernel
theorem dX4_isSpice_4 : decode cX4_isSpice 4 = .ok (.iload_n 0, 1) := by decide +kernel
theorem dX4_isSpice_5 : decode cX4_isSpice 5 = .ok (.iconst 5, 1) := by decide +kernel
theorem dX4_isSpice_6 : decode cX4_isSpice 6 = .ok (.if_icmp .ge 7, 3) := by decide +kernel
theorem dX4_isSpice_9 : decode cX4_isSpice 9 = .ok (.iconst 1, 1) := by decide +kernel
theorem dX4_isSpice_10 : decode cX4_isSpice 10 = .ok (.goto 4, 3) := by decide +kernel
theorem dX4_isSpice_13 : decode cX4_isSpice 13 = .ok (.iconst 0, 1) := by decide +kernel
theorem dX4_isSpice_14 : decode cX4_isSpice 14 = .ok (.ireturn, 1) := by decide +kernel
theorem dX4_isWeight_0 : decode cX4_isWeight 0 = .ok (.iload_n 0, 1) := by decide +kernel
theorem dX4_isWeight_1 : decode cX4_isWeight 1 = .ok (.ifCond .lt 13, 3) := by decide +kernel
theorem dX4_isWeight_4 : decode cX4_isWeight 4 = .ok (.iload_n 0, 1) := by decide +kernel
theorem dX4_isWeight_5 : decode cX4_isWeight 5 = .ok (.bipush 8, 2) := by decide +kernel
theorem dX4_isWeight_7 : decode cX4_isWeight 7 = .ok (.if_icmp .ge 7, 3) := by decide +kernel
theorem dX4_isWeight_10 : decode cX4_isWeight 10 = .ok (.iconst 1, 1) := by decide +kernel
theorem dX4_isWeight_11 : decode cX4_isWeight 11 = .ok (.goto 4, 3) := by decide +kernel
theorem dX4_isWeight_14 : decode cX4_isWeight 14 = .ok (.iconst 0, 1) := by decide +kernel
theorem dX4_isWeight_15 : decode cX4_isWeight 15 = .ok (.ireturn, 1) := by decide +kernel
theorem dX4_isAmong_0 : decode cX4_isAmong 0 = .ok (.iload_n 1, 1) := by decide +kernel
theorem dX4_isAmong_1 : decode cX4_isAmong 1 = .ok (.iload_n 0, 1) := by decide +kernel
theorem dX4_isAmong_2 : decode cX4_isAmong 2 = .ok (.ishr, 1) := by decide +kernel
theorem dX4_isAmong_3 : decode cX4_isAmong 3 = .ok (.iconst 1, 1) := by decide +kernel
theorem dX4_isAmong_4 : decode cX4_isAmong 4 = .ok (.iand, 1) := by decide +kernel
theorem dX4_isAmong_5 : decode cX4_isAmong 5 = .ok (.ifCond .eq 7, 3) := by decide +kernel
theorem dX4_isAmong_8 : decode cX4_isAmong 8 = .ok (.iconst 1, 1) := by decide +kernel
theorem dX4_isAmong_9 : decode cX4_isAmong 9 = .ok (.goto 4, 3) := by decide +kernel
theorem dX4_isAmong_12 : decode cX4_isAmong 12 = .ok (.iconst 0, 1) := by decide +kernel
theorem dX4_isAmong_13 : decode cX4_isAmong 13 = .ok (.ireturn, 1) := by decide +kernel
theorem dX4_priceOf_0 : decode cX4_priceOf 0 = .ok (.iconst 2, 1) := by decide +kernel
theorem dX4_priceOf_1 : decode cX4_priceOf 1 = .ok (.iconst 3, 1) := by decide +kernel
theorem dX4_priceOf_2 : decode cX4_priceOf 2 = .ok (.iload_n 1, 1) := by decide +kernel
theorem dX4_priceOf_3 : decode cX4_priceOf 3 = .ok (.imul, 1) := by decide +kernel
theorem dX4_priceOf_4 : decode cX4_priceOf 4 = .ok (.iconst 5, 1) := by decide +kernel
theorem dX4_priceOf_5 : decode cX4_priceOf 5 = .ok (.iload_n 0, 1) := by decide +kernel
theorem dX4_priceOf_6 : decode cX4_priceOf 6 = .ok (.imul, 1) := by decide +kernel
theorem dX4_priceOf_7 : decode cX4_priceOf 7 = .ok (.iadd, 1) := by decide +kernel
theorem dX4_priceOf_8 : decode cX4_priceOf 8 = .ok (.bipush 7, 2) := by decide +kernel
theorem dX4_priceOf_10 : decode cX4_priceOf 10 = .ok (.irem, 1) := by decide +kernel
theorem dX4_priceOf_11 : decode cX4_priceOf 11 = .ok (.iadd, 1) := by decide +kernel
theorem dX4_priceOf_12 : decode cX4_priceOf 12 = .ok (.ireturn, 1) := by decide +kernel
theorem dX4_toldBy_0 : decode cX4_toldBy 0 = .ok (.iconst 0, 1) := by decide +kernel
theorem dX4_toldBy_1 : decode cX4_toldBy 1 = .ok (.istore_n 1, 1) := by decide +kernel
theorem dX4_toldBy_2 : decode cX4_toldBy 2 = .ok (.iconst 0, 1) := by decide +kernel
theorem dX4_toldBy_3 : decode cX4_toldBy 3 = .ok (.istore_n 2, 1) := by decide +kernel
theorem dX4_toldBy_4 : decode cX4_toldBy 4 = .ok (.iload_n 2, 1) := by decide +kernel
theorem dX4_toldBy_5 : decode cX4_toldBy 5 = .ok (.bipush 8, 2) := by decide +kernel
theorem dX4_toldBy_7 : decode cX4_toldBy 7 = .ok (.if_icmp .ge 25, 3) := by decide +kernel
theorem dX4_toldBy_10 : decode cX4_toldBy 10 = .ok (.iload_n 2, 1) := by decide +kernel
theorem dX4_toldBy_11 : decode cX4_toldBy 11 = .ok (.iload_n 0, 1) := by decide +kernel
theorem dX4_toldBy_12 : decode cX4_toldBy 12 = .ok (.invokestatic 339, 3) := by decide +kernel
theorem dX4_toldBy_15 : decode cX4_toldBy 15 = .ok (.ifCond .eq 11, 3) := by decide +kernel
theorem dX4_toldBy_18 : decode cX4_toldBy 18 = .ok (.iload_n 1, 1) := by decide +kernel
theorem dX4_toldBy_19 : decode cX4_toldBy 19 = .ok (.getstatic 110, 3) := by decide +kernel
theorem dX4_toldBy_22 : decode cX4_toldBy 22 = .ok (.iload_n 2, 1) := by decide +kernel
theorem dX4_toldBy_23 : decode cX4_toldBy 23 = .ok (.iaload, 1) := by decide +kernel
theorem dX4_toldBy_24 : decode cX4_toldBy 24 = .ok (.iadd, 1) := by decide +kernel
theorem dX4_toldBy_25 : decode cX4_toldBy 25 = .ok (.istore_n 1, 1) := by decide +kernel
theorem dX4_toldBy_26 : decode cX4_toldBy 26 = .ok (.iinc 2 1, 3) := by decide +kernel
theorem dX4_toldBy_29 : decode cX4_toldBy 29 = .ok (.goto (-25), 3) := by decide +kernel
theorem dX4_toldBy_32 : decode cX4_toldBy 32 = .ok (.iload_n 1, 1) := by decide +kernel
theorem dX4_toldBy_33 : decode cX4_toldBy 33 = .ok (.ireturn, 1) := by decide +kernel
theorem dX4_sumOf_0 : decode cX4_sumOf 0 = .ok (.iconst 0, 1) := by decide +kernel
theorem dX4_sumOf_1 : decode cX4_sumOf 1 = .ok (.istore_n 2, 1) := by decide +kernel
theorem dX4_sumOf_2 : decode cX4_sumOf 2 = .ok (.iconst 0, 1) := by decide +kernel
theorem dX4_sumOf_3 : decode cX4_sumOf 3 = .ok (.istore_n 3, 1) := by decide +kernel
theorem dX4_sumOf_4 : decode cX4_sumOf 4 = .ok (.iload_n 3, 1) := by decide +kernel
theorem dX4_sumOf_5 : decode cX4_sumOf 5 = .ok (.iload_n 1, 1) := by decide +kernel
theorem dX4_sumOf_6 : decode cX4_sumOf 6 = .ok (.if_icmp .ge 21, 3) := by decide +kernel
theorem dX4_sumOf_9 : decode cX4_sumOf 9 = .ok (.iload_n 3, 1) := by decide +kernel
theorem dX4_sumOf_10 : decode cX4_sumOf 10 = .ok (.aload_n 0, 1) := by decide +kernel
theorem dX4_sumOf_11 : decode cX4_sumOf 11 = .ok (.arraylength, 1) := by decide +kernel
theorem dX4_sumOf_12 : decode cX4_sumOf 12 = .ok (.if_icmp .ge 15, 3) := by decide +kernel
theorem dX4_sumOf_15 : decode cX4_sumOf 15 = .ok (.iload_n 2, 1) := by decide +kernel
theorem dX4_sumOf_16 : decode cX4_sumOf 16 = .ok (.aload_n 0, 1) := by decide +kernel
theorem dX4_sumOf_17 : decode cX4_sumOf 17 = .ok (.iload_n 3, 1) := by decide +kernel
theorem dX4_sumOf_18 : decode cX4_sumOf 18 = .ok (.iaload, 1) := by decide +kernel
theorem dX4_sumOf_19 : decode cX4_sumOf 19 = .ok (.iadd, 1) := by decide +kernel
theorem dX4_sumOf_20 : decode cX4_sumOf 20 = .ok (.istore_n 2, 1) := by decide +kernel
theorem dX4_sumOf_21 : decode cX4_sumOf 21 = .ok (.iinc 3 1, 3) := by decide +kernel
theorem dX4_sumOf_24 : decode cX4_sumOf 24 = .ok (.goto (-20), 3) := by decide +kernel
theorem dX4_sumOf_27 : decode cX4_sumOf 27 = .ok (.iload_n 2, 1) := by decide +kernel
theorem dX4_sumOf_28 : decode cX4_sumOf 28 = .ok (.ireturn, 1) := by decide +kernel
