def am_cP (m : Nat) : Prop := tables_1[(am_mp m).1]? = some (.code (am_my m) (am_mc m) (am_mx m) (am_mr m))
set_option maxRecDepth 100000 in
theorem cw_1 : am_cP 1 := rfl
set_option maxRecDepth 100000 in
theorem cw_2 : am_cP 2 := rfl
set_option maxRecDepth 100000 in
theorem cw_3 : am_cP 3 := rfl
set_option maxRecDepth 100000 in
theorem cw_4 : am_cP 4 := rfl
set_option maxRecDepth 100000 in
theorem cw_5 : am_cP 5 := rfl
set_option maxRecDepth 100000 in
theorem cw_6 : am_cP 6 := rfl
set_option maxRecDepth 100000 in
theorem cw_7 : am_cP 7 := rfl
set_option maxRecDepth 100000 in
theorem cw_8 : am_cP 8 := rfl
set_option maxRecDepth 100000 in
theorem cw_9 : am_cP 9 := rfl
set_option maxRecDepth 100000 in
theorem cw_10 : am_cP 10 := rfl
set_option maxRecDepth 100000 in
theorem cw_11 : am_cP 11 := rfl
set_option maxRecDepth 100000 in
theorem cw_12 : am_cP 12 := rfl
set_option maxRecDepth 100000 in
theorem cw_13 : am_cP 13 := rfl
set_option maxRecDepth 100000 in
theorem cw_14 : am_cP 14 := rfl
set_option maxRecDepth 100000 in
theorem cw_15 : am_cP 15 := rfl
set_option maxRecDepth 100000 in
theorem cw_16 : am_cP 16 := rfl
set_option maxRecDepth 100000 in
theorem cw_17 : am_cP 17 := rfl
set_option maxRecDepth 100000 in
theorem cw_18 : am_cP 18 := rfl
set_option maxRecDepth 100000 in
theorem cw_19 : am_cP 19 := rfl
set_option maxRecDepth 100000 in
theorem cw_20 : am_cP 20 := rfl
set_option maxRecDepth 100000 in
theorem cw_21 : am_cP 21 := rfl
set_option maxRecDepth 100000 in
theorem cw_22 : am_cP 22 := rfl
set_option maxRecDepth 100000 in
theorem cw_23 : am_cP 23 := rfl
set_option maxRecDepth 100000 in
theorem cw_24 : am_cP 24 := rfl
set_option maxRecDepth 100000 in
theorem cw_25 : am_cP 25 := rfl
set_option maxRecDepth 100000 in
theorem cw_26 : am_cP 26 := rfl
set_option maxRecDepth 100000 in
theorem cw_27 : am_cP 27 := rfl
set_option maxRecDepth 100000 in
theorem cw_28 : am_cP 28 := rfl
set_option maxRecDepth 100000 in
theorem cw_29 : am_cP 29 := rfl
set_option maxRecDepth 100000 in
theorem cw_30 : am_cP 30 := rfl
set_option maxRecDepth 100000 in
theorem cw_31 : am_cP 31 := rfl
set_option maxRecDepth 100000 in
theorem cw_32 : am_cP 32 := rfl
set_option maxRecDepth 100000 in
theorem cw_33 : am_cP 33 := rfl
set_option maxRecDepth 100000 in
theorem cw_34 : am_cP 34 := rfl
set_option maxRecDepth 100000 in
theorem cw_35 : am_cP 35 := rfl
set_option maxRecDepth 100000 in
theorem cw_36 : am_cP 36 := rfl
set_option maxRecDepth 100000 in
theorem cw_37 : am_cP 37 := rfl
set_option maxRecDepth 100000 in
theorem cw_38 : am_cP 38 := rfl
set_option maxRecDepth 100000 in
theorem cw_39 : am_cP 39 := rfl
set_option maxRecDepth 100000 in
theorem cw_40 : am_cP 40 := rfl
set_option maxRecDepth 100000 in
theorem cw_41 : am_cP 41 := rfl
set_option maxRecDepth 100000 in
theorem cw_42 : am_cP 42 := rfl
set_option maxRecDepth 100000 in
theorem cw_43 : am_cP 43 := rfl
set_option maxRecDepth 100000 in
theorem cw_44 : am_cP 44 := rfl
set_option maxRecDepth 100000 in
theorem cw_45 : am_cP 45 := rfl
set_option maxRecDepth 100000 in
theorem cw_46 : am_cP 46 := rfl
set_option maxRecDepth 100000 in
theorem cw_47 : am_cP 47 := rfl
set_option maxRecDepth 100000 in
theorem cw_48 : am_cP 48 := rfl
set_option maxRecDepth 100000 in
theorem cw_49 : am_cP 49 := rfl
set_option maxRecDepth 100000 in
theorem cw_50 : am_cP 50 := rfl
set_option maxRecDepth 100000 in
theorem cw_51 : am_cP 51 := rfl
set_option maxRecDepth 100000 in
theorem cw_52 : am_cP 52 := rfl
set_option maxRecDepth 100000 in
theorem cw_53 : am_cP 53 := rfl
set_option maxRecDepth 100000 in
theorem cw_54 : am_cP 54 := rfl
set_option maxRecDepth 100000 in
theorem cw_55 : am_cP 55 := rfl
set_option maxRecDepth 100000 in
theorem cw_56 : am_cP 56 := rfl
set_option maxRecDepth 100000 in
theorem cw_57 : am_cP 57 := rfl
set_option maxRecDepth 100000 in
theorem cw_58 : am_cP 58 := rfl
set_option maxRecDepth 100000 in
theorem cw_59 : am_cP 59 := rfl
set_option maxRecDepth 100000 in
theorem cw_60 : am_cP 60 := rfl
set_option maxRecDepth 100000 in
theorem cw_61 : am_cP 61 := rfl
set_option maxRecDepth 100000 in
theorem cw_62 : am_cP 62 := rfl
set_option maxRecDepth 100000 in
theorem cw_63 : am_cP 63 := rfl
set_option maxRecDepth 100000 in
theorem cw_64 : am_cP 64 := rfl
set_option maxRecDepth 100000 in
theorem cw_65 : am_cP 65 := rfl
set_option maxRecDepth 100000 in
theorem cw_66 : am_cP 66 := rfl
set_option maxRecDepth 100000 in
theorem cw_67 : am_cP 67 := rfl
set_option maxRecDepth 100000 in
theorem cw_68 : am_cP 68 := rfl
set_option maxRecDepth 100000 in
theorem cw_69 : am_cP 69 := rfl
set_option maxRecDepth 100000 in
theorem cw_70 : am_cP 70 := rfl
set_option maxRecDepth 100000 in
theorem cw_71 : am_cP 71 := rfl
set_option maxRecDepth 100000 in
theorem cw_72 : am_cP 72 := rfl
set_option maxRecDepth 100000 in
theorem cw_73 : am_cP 73 := rfl
set_option maxRecDepth 100000 in
theorem cw_74 : am_cP 74 := rfl
set_option maxRecDepth 100000 in
theorem cw_75 : am_cP 75 := rfl
set_option maxRecDepth 100000 in
theorem cw_76 : am_cP 76 := rfl
set_option maxRecDepth 100000 in
theorem cw_77 : am_cP 77 := rfl
set_option maxRecDepth 100000 in
theorem cw_78 : am_cP 78 := rfl
set_option maxRecDepth 100000 in
theorem cw_79 : am_cP 79 := rfl
set_option maxRecDepth 100000 in
theorem cw_80 : am_cP 80 := rfl
set_option maxRecDepth 100000 in
theorem cw_81 : am_cP 81 := rfl
set_option maxRecDepth 100000 in
theorem cw_82 : am_cP 82 := rfl
set_option maxRecDepth 100000 in
theorem cw_83 : am_cP 83 := rfl
set_option maxRecDepth 100000 in
theorem cw_84 : am_cP 84 := rfl
set_option maxRecDepth 100000 in
theorem cw_85 : am_cP 85 := rfl
set_option maxRecDepth 100000 in
theorem cw_86 : am_cP 86 := rfl
set_option maxRecDepth 100000 in
theorem cw_87 : am_cP 87 := rfl
set_option maxRecDepth 100000 in
theorem cw_88 : am_cP 88 := rfl
set_option maxRecDepth 100000 in
theorem cw_89 : am_cP 89 := rfl
set_option maxRecDepth 100000 in
theorem cw_90 : am_cP 90 := rfl
set_option maxRecDepth 100000 in
theorem cw_91 : am_cP 91 := rfl
set_option maxRecDepth 100000 in
theorem cw_92 : am_cP 92 := rfl
set_option maxRecDepth 100000 in
theorem cw_93 : am_cP 93 := rfl
set_option maxRecDepth 100000 in
theorem cw_94 : am_cP 94 := rfl
set_option maxRecDepth 100000 in
theorem cw_95 : am_cP 95 := rfl
set_option maxRecDepth 100000 in
theorem cw_96 : am_cP 96 := rfl
set_option maxRecDepth 100000 in
theorem cw_97 : am_cP 97 := rfl
set_option maxRecDepth 100000 in
theorem cw_98 : am_cP 98 := rfl
set_option maxRecDepth 100000 in
theorem cw_99 : am_cP 99 := rfl
set_option maxRecDepth 100000 in
theorem cw_100 : am_cP 100 := rfl
set_option maxRecDepth 100000 in
theorem cw_101 : am_cP 101 := rfl
set_option maxRecDepth 100000 in
theorem cw_102 : am_cP 102 := rfl
set_option maxRecDepth 100000 in
theorem cw_103 : am_cP 103 := rfl
set_option maxRecDepth 100000 in
theorem cw_104 : am_cP 104 := rfl
set_option maxRecDepth 100000 in
theorem cw_105 : am_cP 105 := rfl
set_option maxRecDepth 100000 in
theorem cw_106 : am_cP 106 := rfl
set_option maxRecDepth 100000 in
theorem cw_107 : am_cP 107 := rfl
set_option maxRecDepth 100000 in
theorem cw_108 : am_cP 108 := rfl
set_option maxRecDepth 100000 in
theorem cw_109 : am_cP 109 := rfl
set_option maxRecDepth 100000 in
theorem cw_110 : am_cP 110 := rfl
set_option maxRecDepth 100000 in
theorem cw_111 : am_cP 111 := rfl
set_option maxRecDepth 100000 in
theorem cw_112 : am_cP 112 := rfl
set_option maxRecDepth 100000 in
theorem cw_113 : am_cP 113 := rfl
set_option maxRecDepth 100000 in
theorem cw_114 : am_cP 114 := rfl
set_option maxRecDepth 100000 in
theorem cw_115 : am_cP 115 := rfl
set_option maxRecDepth 100000 in
theorem cw_116 : am_cP 116 := rfl
set_option maxRecDepth 100000 in
theorem cw_117 : am_cP 117 := rfl
set_option maxRecDepth 100000 in
theorem cw_118 : am_cP 118 := rfl
set_option maxRecDepth 100000 in
theorem cw_119 : am_cP 119 := rfl
set_option maxRecDepth 100000 in
theorem cw_120 : am_cP 120 := rfl
set_option maxRecDepth 100000 in
theorem cw_121 : am_cP 121 := rfl
set_option maxRecDepth 100000 in
theorem cw_122 : am_cP 122 := rfl
set_option maxRecDepth 100000 in
theorem cw_123 : am_cP 123 := rfl
set_option maxRecDepth 100000 in
theorem cw_124 : am_cP 124 := rfl
set_option maxRecDepth 100000 in
theorem cw_125 : am_cP 125 := rfl
set_option maxRecDepth 100000 in
theorem cw_126 : am_cP 126 := rfl
set_option maxRecDepth 100000 in
theorem cw_127 : am_cP 127 := rfl
set_option maxRecDepth 100000 in
theorem cw_128 : am_cP 128 := rfl
set_option maxRecDepth 100000 in
theorem cw_129 : am_cP 129 := rfl
set_option maxRecDepth 100000 in
theorem cw_130 : am_cP 130 := rfl
set_option maxRecDepth 100000 in
theorem cw_131 : am_cP 131 := rfl
set_option maxRecDepth 100000 in
theorem cw_132 : am_cP 132 := rfl
set_option maxRecDepth 100000 in
theorem cw_133 : am_cP 133 := rfl
set_option maxRecDepth 100000 in
theorem cw_134 : am_cP 134 := rfl
set_option maxRecDepth 100000 in
theorem cw_135 : am_cP 135 := rfl
set_option maxRecDepth 100000 in
theorem cw_136 : am_cP 136 := rfl
set_option maxRecDepth 100000 in
theorem cw_137 : am_cP 137 := rfl
set_option maxRecDepth 100000 in
theorem cw_138 : am_cP 138 := rfl
set_option maxRecDepth 100000 in
theorem cw_139 : am_cP 139 := rfl
set_option maxRecDepth 100000 in
theorem cw_140 : am_cP 140 := rfl
set_option maxRecDepth 100000 in
theorem cw_141 : am_cP 141 := rfl
set_option maxRecDepth 100000 in
theorem cw_142 : am_cP 142 := rfl
set_option maxRecDepth 100000 in
theorem cw_143 : am_cP 143 := rfl
set_option maxRecDepth 100000 in
theorem cw_144 : am_cP 144 := rfl
set_option maxRecDepth 100000 in
theorem cw_145 : am_cP 145 := rfl
set_option maxRecDepth 100000 in
theorem cw_146 : am_cP 146 := rfl
set_option maxRecDepth 100000 in
theorem cw_147 : am_cP 147 := rfl
set_option maxRecDepth 100000 in
theorem cw_148 : am_cP 148 := rfl
set_option maxRecDepth 100000 in
theorem cw_149 : am_cP 149 := rfl
set_option maxRecDepth 100000 in
theorem cw_150 : am_cP 150 := rfl
set_option maxRecDepth 100000 in
theorem cw_151 : am_cP 151 := rfl
set_option maxRecDepth 100000 in
theorem cw_152 : am_cP 152 := rfl
set_option maxRecDepth 100000 in
theorem cw_153 : am_cP 153 := rfl
set_option maxRecDepth 100000 in
theorem cw_154 : am_cP 154 := rfl
set_option maxRecDepth 100000 in
theorem cw_155 : am_cP 155 := rfl
set_option maxRecDepth 100000 in
theorem cw_156 : am_cP 156 := rfl
set_option maxRecDepth 100000 in
theorem cw_157 : am_cP 157 := rfl
set_option maxRecDepth 100000 in
theorem cw_158 : am_cP 158 := rfl
set_option maxRecDepth 100000 in
theorem cw_159 : am_cP 159 := rfl
set_option maxRecDepth 100000 in
theorem cw_160 : am_cP 160 := rfl
set_option maxRecDepth 100000 in
theorem cw_161 : am_cP 161 := rfl
set_option maxRecDepth 100000 in
theorem cw_162 : am_cP 162 := rfl
set_option maxRecDepth 100000 in
theorem cw_163 : am_cP 163 := rfl
set_option maxRecDepth 100000 in
theorem cw_164 : am_cP 164 := rfl
set_option maxRecDepth 100000 in
theorem cw_165 : am_cP 165 := rfl
set_option maxRecDepth 100000 in
theorem cw_166 : am_cP 166 := rfl
set_option maxRecDepth 100000 in
theorem cw_167 : am_cP 167 := rfl
set_option maxRecDepth 100000 in
theorem cw_168 : am_cP 168 := rfl
set_option maxRecDepth 100000 in
theorem cw_169 : am_cP 169 := rfl
set_option maxRecDepth 100000 in
theorem cw_170 : am_cP 170 := rfl
set_option maxRecDepth 100000 in
theorem cw_171 : am_cP 171 := rfl
set_option maxRecDepth 100000 in
theorem cw_172 : am_cP 172 := rfl
set_option maxRecDepth 100000 in
theorem cw_173 : am_cP 173 := rfl
set_option maxRecDepth 100000 in
theorem cw_174 : am_cP 174 := rfl
set_option maxRecDepth 100000 in
theorem cw_175 : am_cP 175 := rfl
set_option maxRecDepth 100000 in
theorem cw_176 : am_cP 176 := rfl
set_option maxRecDepth 100000 in
theorem cw_177 : am_cP 177 := rfl
set_option maxRecDepth 100000 in
theorem cw_178 : am_cP 178 := rfl
set_option maxRecDepth 100000 in
theorem cw_179 : am_cP 179 := rfl
set_option maxRecDepth 100000 in
theorem cw_180 : am_cP 180 := rfl
set_option maxRecDepth 100000 in
theorem cw_181 : am_cP 181 := rfl
set_option maxRecDepth 100000 in
theorem cw_182 : am_cP 182 := rfl
set_option maxRecDepth 100000 in
theorem cw_183 : am_cP 183 := rfl
set_option maxRecDepth 100000 in
theorem cw_184 : am_cP 184 := rfl
set_option maxRecDepth 100000 in
theorem cw_185 : am_cP 185 := rfl
set_option maxRecDepth 100000 in
theorem cw_186 : am_cP 186 := rfl
set_option maxRecDepth 100000 in
theorem cw_187 : am_cP 187 := rfl
set_option maxRecDepth 100000 in
theorem cw_188 : am_cP 188 := rfl
set_option maxRecDepth 100000 in
theorem cw_189 : am_cP 189 := rfl
set_option maxRecDepth 100000 in
theorem cw_190 : am_cP 190 := rfl
set_option maxRecDepth 100000 in
theorem cw_191 : am_cP 191 := rfl
set_option maxRecDepth 100000 in
theorem cw_192 : am_cP 192 := rfl
set_option maxRecDepth 100000 in
theorem cw_193 : am_cP 193 := rfl
set_option maxRecDepth 100000 in
theorem cw_194 : am_cP 194 := rfl
set_option maxRecDepth 100000 in
theorem cw_195 : am_cP 195 := rfl
set_option maxRecDepth 100000 in
theorem cw_196 : am_cP 196 := rfl
set_option maxRecDepth 100000 in
theorem cw_197 : am_cP 197 := rfl
set_option maxRecDepth 100000 in
theorem cw_198 : am_cP 198 := rfl
set_option maxRecDepth 100000 in
theorem cw_199 : am_cP 199 := rfl
set_option maxRecDepth 100000 in
theorem cw_200 : am_cP 200 := rfl
set_option maxRecDepth 100000 in
theorem cw_201 : am_cP 201 := rfl
set_option maxRecDepth 100000 in
theorem cw_202 : am_cP 202 := rfl
set_option maxRecDepth 100000 in
theorem cw_203 : am_cP 203 := rfl
set_option maxRecDepth 100000 in
theorem cw_204 : am_cP 204 := rfl
set_option maxRecDepth 100000 in
theorem cw_205 : am_cP 205 := rfl
set_option maxRecDepth 100000 in
theorem cw_206 : am_cP 206 := rfl
set_option maxRecDepth 100000 in
theorem cw_207 : am_cP 207 := rfl
set_option maxRecDepth 100000 in
theorem cw_208 : am_cP 208 := rfl
set_option maxRecDepth 100000 in
theorem cw_209 : am_cP 209 := rfl
set_option maxRecDepth 100000 in
theorem cw_210 : am_cP 210 := rfl
set_option maxRecDepth 100000 in
theorem cw_211 : am_cP 211 := rfl
set_option maxRecDepth 100000 in
theorem cw_212 : am_cP 212 := rfl
set_option maxRecDepth 100000 in
theorem cw_213 : am_cP 213 := rfl
set_option maxRecDepth 100000 in
theorem cw_214 : am_cP 214 := rfl
set_option maxRecDepth 100000 in
theorem cw_215 : am_cP 215 := rfl
set_option maxRecDepth 100000 in
theorem cw_216 : am_cP 216 := rfl
set_option maxRecDepth 100000 in
theorem cw_217 : am_cP 217 := rfl
set_option maxRecDepth 100000 in
theorem cw_218 : am_cP 218 := rfl
set_option maxRecDepth 100000 in
theorem cw_219 : am_cP 219 := rfl
set_option maxRecDepth 100000 in
theorem cw_220 : am_cP 220 := rfl
set_option maxRecDepth 100000 in
theorem cw_221 : am_cP 221 := rfl
set_option maxRecDepth 100000 in
theorem cw_222 : am_cP 222 := rfl
set_option maxRecDepth 100000 in
theorem cw_223 : am_cP 223 := rfl
set_option maxRecDepth 100000 in
theorem cw_224 : am_cP 224 := rfl
set_option maxRecDepth 100000 in
theorem cw_225 : am_cP 225 := rfl
set_option maxRecDepth 100000 in
theorem cw_226 : am_cP 226 := rfl
set_option maxRecDepth 100000 in
theorem cw_227 : am_cP 227 := rfl
set_option maxRecDepth 100000 in
theorem cw_228 : am_cP 228 := rfl
set_option maxRecDepth 100000 in
theorem cw_229 : am_cP 229 := rfl
set_option maxRecDepth 100000 in
theorem cw_230 : am_cP 230 := rfl
set_option maxRecDepth 100000 in
theorem cw_231 : am_cP 231 := rfl
set_option maxRecDepth 100000 in
theorem cw_232 : am_cP 232 := rfl
set_option maxRecDepth 100000 in
theorem cw_233 : am_cP 233 := rfl
set_option maxRecDepth 100000 in
theorem cw_234 : am_cP 234 := rfl
set_option maxRecDepth 100000 in
theorem cw_235 : am_cP 235 := rfl
set_option maxRecDepth 100000 in
theorem cw_236 : am_cP 236 := rfl
set_option maxRecDepth 100000 in
theorem cw_237 : am_cP 237 := rfl
set_option maxRecDepth 100000 in
theorem cw_238 : am_cP 238 := rfl
set_option maxRecDepth 100000 in
theorem cw_239 : am_cP 239 := rfl
set_option maxRecDepth 100000 in
theorem cw_240 : am_cP 240 := rfl
set_option maxRecDepth 100000 in
theorem cw_241 : am_cP 241 := rfl
set_option maxRecDepth 100000 in
theorem cw_242 : am_cP 242 := rfl
set_option maxRecDepth 100000 in
theorem cw_243 : am_cP 243 := rfl
set_option maxRecDepth 100000 in
theorem cw_244 : am_cP 244 := rfl
set_option maxRecDepth 100000 in
theorem cw_245 : am_cP 245 := rfl
set_option maxRecDepth 100000 in
theorem cw_246 : am_cP 246 := rfl
set_option maxRecDepth 100000 in
theorem cw_247 : am_cP 247 := rfl
set_option maxRecDepth 100000 in
theorem cw_248 : am_cP 248 := rfl
set_option maxRecDepth 100000 in
theorem cw_249 : am_cP 249 := rfl
set_option maxRecDepth 100000 in
theorem cw_250 : am_cP 250 := rfl
set_option maxRecDepth 100000 in
theorem cw_251 : am_cP 251 := rfl
set_option maxRecDepth 100000 in
theorem cw_252 : am_cP 252 := rfl
set_option maxRecDepth 100000 in
theorem cw_253 : am_cP 253 := rfl
set_option maxRecDepth 100000 in
theorem cw_254 : am_cP 254 := rfl
set_option maxRecDepth 100000 in
theorem cw_255 : am_cP 255 := rfl
set_option maxRecDepth 100000 in
theorem cw_256 : am_cP 256 := rfl
set_option maxRecDepth 100000 in
theorem cw_257 : am_cP 257 := rfl
set_option maxRecDepth 100000 in
theorem cw_258 : am_cP 258 := rfl
set_option maxRecDepth 100000 in
theorem cw_259 : am_cP 259 := rfl
set_option maxRecDepth 100000 in
theorem cw_260 : am_cP 260 := rfl
set_option maxRecDepth 100000 in
theorem cw_261 : am_cP 261 := rfl
set_option maxRecDepth 100000 in
theorem cw_262 : am_cP 262 := rfl
set_option maxRecDepth 100000 in
theorem cw_263 : am_cP 263 := rfl
set_option maxRecDepth 100000 in
theorem cw_264 : am_cP 264 := rfl
set_option maxRecDepth 100000 in
theorem cw_265 : am_cP 265 := rfl
set_option maxRecDepth 100000 in
theorem cw_266 : am_cP 266 := rfl
set_option maxRecDepth 100000 in
theorem cw_267 : am_cP 267 := rfl
set_option maxRecDepth 100000 in
theorem cw_268 : am_cP 268 := rfl
set_option maxRecDepth 100000 in
theorem cw_269 : am_cP 269 := rfl
set_option maxRecDepth 100000 in
theorem cw_270 : am_cP 270 := rfl
set_option maxRecDepth 100000 in
theorem cw_271 : am_cP 271 := rfl
set_option maxRecDepth 100000 in
theorem cw_272 : am_cP 272 := rfl
set_option maxRecDepth 100000 in
theorem cw_273 : am_cP 273 := rfl
set_option maxRecDepth 100000 in
theorem cw_274 : am_cP 274 := rfl
set_option maxRecDepth 100000 in
theorem cw_275 : am_cP 275 := rfl
set_option maxRecDepth 100000 in
theorem cw_276 : am_cP 276 := rfl
set_option maxRecDepth 100000 in
theorem cw_277 : am_cP 277 := rfl
set_option maxRecDepth 100000 in
theorem cw_278 : am_cP 278 := rfl
set_option maxRecDepth 100000 in
theorem cw_279 : am_cP 279 := rfl
set_option maxRecDepth 100000 in
theorem cw_280 : am_cP 280 := rfl
set_option maxRecDepth 100000 in
theorem cw_281 : am_cP 281 := rfl
set_option maxRecDepth 100000 in
theorem cw_282 : am_cP 282 := rfl
set_option maxRecDepth 100000 in
theorem cw_283 : am_cP 283 := rfl
set_option maxRecDepth 100000 in
theorem cw_284 : am_cP 284 := rfl
set_option maxRecDepth 100000 in
theorem cw_285 : am_cP 285 := rfl
set_option maxRecDepth 100000 in
theorem cw_286 : am_cP 286 := rfl
set_option maxRecDepth 100000 in
theorem cw_287 : am_cP 287 := rfl
set_option maxRecDepth 100000 in
theorem cw_288 : am_cP 288 := rfl
set_option maxRecDepth 100000 in
theorem cw_289 : am_cP 289 := rfl
set_option maxRecDepth 100000 in
theorem cw_290 : am_cP 290 := rfl
set_option maxRecDepth 100000 in
theorem cw_291 : am_cP 291 := rfl
set_option maxRecDepth 100000 in
theorem cw_292 : am_cP 292 := rfl
set_option maxRecDepth 100000 in
theorem cw_293 : am_cP 293 := rfl
set_option maxRecDepth 100000 in
theorem cw_294 : am_cP 294 := rfl
set_option maxRecDepth 100000 in
theorem cw_295 : am_cP 295 := rfl
set_option maxRecDepth 100000 in
theorem cw_296 : am_cP 296 := rfl
set_option maxRecDepth 100000 in
theorem cw_297 : am_cP 297 := rfl
set_option maxRecDepth 100000 in
theorem cw_298 : am_cP 298 := rfl
set_option maxRecDepth 100000 in
theorem cw_299 : am_cP 299 := rfl
set_option maxRecDepth 100000 in
theorem cw_300 : am_cP 300 := rfl
set_option maxRecDepth 100000 in
theorem cw_301 : am_cP 301 := rfl
set_option maxRecDepth 100000 in
theorem cw_302 : am_cP 302 := rfl
set_option maxRecDepth 100000 in
theorem cw_303 : am_cP 303 := rfl
set_option maxRecDepth 100000 in
theorem cw_304 : am_cP 304 := rfl
set_option maxRecDepth 100000 in
theorem cw_305 : am_cP 305 := rfl
set_option maxRecDepth 100000 in
theorem cw_306 : am_cP 306 := rfl
set_option maxRecDepth 100000 in
theorem cw_307 : am_cP 307 := rfl
set_option maxRecDepth 100000 in
theorem cw_308 : am_cP 308 := rfl
set_option maxRecDepth 100000 in
theorem cw_309 : am_cP 309 := rfl
set_option maxRecDepth 100000 in
theorem cw_310 : am_cP 310 := rfl
set_option maxRecDepth 100000 in
theorem cw_311 : am_cP 311 := rfl
set_option maxRecDepth 100000 in
theorem cw_312 : am_cP 312 := rfl
set_option maxRecDepth 100000 in
theorem cw_313 : am_cP 313 := rfl
set_option maxRecDepth 100000 in
theorem cw_314 : am_cP 314 := rfl
set_option maxRecDepth 100000 in
theorem cw_315 : am_cP 315 := rfl
set_option maxRecDepth 100000 in
theorem cw_316 : am_cP 316 := rfl
set_option maxRecDepth 100000 in
theorem cw_317 : am_cP 317 := rfl
set_option maxRecDepth 100000 in
theorem cw_318 : am_cP 318 := rfl
set_option maxRecDepth 100000 in
theorem cw_319 : am_cP 319 := rfl
set_option maxRecDepth 100000 in
theorem cw_320 : am_cP 320 := rfl
set_option maxRecDepth 100000 in
theorem cw_321 : am_cP 321 := rfl
set_option maxRecDepth 100000 in
theorem cw_322 : am_cP 322 := rfl
set_option maxRecDepth 100000 in
theorem cw_323 : am_cP 323 := rfl
set_option maxRecDepth 100000 in
theorem cw_324 : am_cP 324 := rfl
set_option maxRecDepth 100000 in
theorem cw_325 : am_cP 325 := rfl
set_option maxRecDepth 100000 in
theorem cw_326 : am_cP 326 := rfl
set_option maxRecDepth 100000 in
theorem cw_327 : am_cP 327 := rfl
theorem cwt_1_2 : ∀ m, 1 ≤ m → m < 2 → am_cP m := fun m h1 h2 => (show m = 1 by omega) ▸ cw_1
theorem cwt_2_3 : ∀ m, 2 ≤ m → m < 3 → am_cP m := fun m h1 h2 => (show m = 2 by omega) ▸ cw_2
theorem cwt_1_3 : ∀ m, 1 ≤ m → m < 3 → am_cP m := fun m h1 h2 => if h : m < 2 then cwt_1_2 m h1 h else cwt_2_3 m (by omega) h2
theorem cwt_3_4 : ∀ m, 3 ≤ m → m < 4 → am_cP m := fun m h1 h2 => (show m = 3 by omega) ▸ cw_3
theorem cwt_4_5 : ∀ m, 4 ≤ m → m < 5 → am_cP m := fun m h1 h2 => (show m = 4 by omega) ▸ cw_4
theorem cwt_5_6 : ∀ m, 5 ≤ m → m < 6 → am_cP m := fun m h1 h2 => (show m = 5 by omega) ▸ cw_5
theorem cwt_4_6 : ∀ m, 4 ≤ m → m < 6 → am_cP m := fun m h1 h2 => if h : m < 5 then cwt_4_5 m h1 h else cwt_5_6 m (by omega) h2
theorem cwt_3_6 : ∀ m, 3 ≤ m → m < 6 → am_cP m := fun m h1 h2 => if h : m < 4 then cwt_3_4 m h1 h else cwt_4_6 m (by omega) h2
theorem cwt_1_6 : ∀ m, 1 ≤ m → m < 6 → am_cP m := fun m h1 h2 => if h : m < 3 then cwt_1_3 m h1 h else cwt_3_6 m (by omega) h2
theorem cwt_6_7 : ∀ m, 6 ≤ m → m < 7 → am_cP m := fun m h1 h2 => (show m = 6 by omega) ▸ cw_6
theorem cwt_7_8 : ∀ m, 7 ≤ m → m < 8 → am_cP m := fun m h1 h2 => (show m = 7 by omega) ▸ cw_7
theorem cwt_6_8 : ∀ m, 6 ≤ m → m < 8 → am_cP m := fun m h1 h2 => if h : m < 7 then cwt_6_7 m h1 h else cwt_7_8 m (by omega) h2
theorem cwt_8_9 : ∀ m, 8 ≤ m → m < 9 → am_cP m := fun m h1 h2 => (show m = 8 by omega) ▸ cw_8
theorem cwt_9_10 : ∀ m, 9 ≤ m → m < 10 → am_cP m := fun m h1 h2 => (show m = 9 by omega) ▸ cw_9
theorem cwt_10_11 : ∀ m, 10 ≤ m → m < 11 → am_cP m := fun m h1 h2 => (show m = 10 by omega) ▸ cw_10
theorem cwt_9_11 : ∀ m, 9 ≤ m → m < 11 → am_cP m := fun m h1 h2 => if h : m < 10 then cwt_9_10 m h1 h else cwt_10_11 m (by omega) h2
theorem cwt_8_11 : ∀ m, 8 ≤ m → m < 11 → am_cP m := fun m h1 h2 => if h : m < 9 then cwt_8_9 m h1 h else cwt_9_11 m (by omega) h2
theorem cwt_6_11 : ∀ m, 6 ≤ m → m < 11 → am_cP m := fun m h1 h2 => if h : m < 8 then cwt_6_8 m h1 h else cwt_8_11 m (by omega) h2
theorem cwt_1_11 : ∀ m, 1 ≤ m → m < 11 → am_cP m := fun m h1 h2 => if h : m < 6 then cwt_1_6 m h1 h else cwt_6_11 m (by omega) h2
theorem cwt_11_12 : ∀ m, 11 ≤ m → m < 12 → am_cP m := fun m h1 h2 => (show m = 11 by omega) ▸ cw_11
theorem cwt_12_13 : ∀ m, 12 ≤ m → m < 13 → am_cP m := fun m h1 h2 => (show m = 12 by omega) ▸ cw_12
theorem cwt_11_13 : ∀ m, 11 ≤ m → m < 13 → am_cP m := fun m h1 h2 => if h : m < 12 then cwt_11_12 m h1 h else cwt_12_13 m (by omega) h2
theorem cwt_13_14 : ∀ m, 13 ≤ m → m < 14 → am_cP m := fun m h1 h2 => (show m = 13 by omega) ▸ cw_13
theorem cwt_14_15 : ∀ m, 14 ≤ m → m < 15 → am_cP m := fun m h1 h2 => (show m = 14 by omega) ▸ cw_14
theorem cwt_15_16 : ∀ m, 15 ≤ m → m < 16 → am_cP m := fun m h1 h2 => (show m = 15 by omega) ▸ cw_15
theorem cwt_14_16 : ∀ m, 14 ≤ m → m < 16 → am_cP m := fun m h1 h2 => if h : m < 15 then cwt_14_15 m h1 h else cwt_15_16 m (by omega) h2
theorem cwt_13_16 : ∀ m, 13 ≤ m → m < 16 → am_cP m := fun m h1 h2 => if h : m < 14 then cwt_13_14 m h1 h else cwt_14_16 m (by omega) h2
theorem cwt_11_16 : ∀ m, 11 ≤ m → m < 16 → am_cP m := fun m h1 h2 => if h : m < 13 then cwt_11_13 m h1 h else cwt_13_16 m (by omega) h2
theorem cwt_16_17 : ∀ m, 16 ≤ m → m < 17 → am_cP m := fun m h1 h2 => (show m = 16 by omega) ▸ cw_16
theorem cwt_17_18 : ∀ m, 17 ≤ m → m < 18 → am_cP m := fun m h1 h2 => (show m = 17 by omega) ▸ cw_17
theorem cwt_16_18 : ∀ m, 16 ≤ m → m < 18 → am_cP m := fun m h1 h2 => if h : m < 17 then cwt_16_17 m h1 h else cwt_17_18 m (by omega) h2
theorem cwt_18_19 : ∀ m, 18 ≤ m → m < 19 → am_cP m := fun m h1 h2 => (show m = 18 by omega) ▸ cw_18
theorem cwt_19_20 : ∀ m, 19 ≤ m → m < 20 → am_cP m := fun m h1 h2 => (show m = 19 by omega) ▸ cw_19
theorem cwt_20_21 : ∀ m, 20 ≤ m → m < 21 → am_cP m := fun m h1 h2 => (show m = 20 by omega) ▸ cw_20
theorem cwt_19_21 : ∀ m, 19 ≤ m → m < 21 → am_cP m := fun m h1 h2 => if h : m < 20 then cwt_19_20 m h1 h else cwt_20_21 m (by omega) h2
theorem cwt_18_21 : ∀ m, 18 ≤ m → m < 21 → am_cP m := fun m h1 h2 => if h : m < 19 then cwt_18_19 m h1 h else cwt_19_21 m (by omega) h2
theorem cwt_16_21 : ∀ m, 16 ≤ m → m < 21 → am_cP m := fun m h1 h2 => if h : m < 18 then cwt_16_18 m h1 h else cwt_18_21 m (by omega) h2
theorem cwt_11_21 : ∀ m, 11 ≤ m → m < 21 → am_cP m := fun m h1 h2 => if h : m < 16 then cwt_11_16 m h1 h else cwt_16_21 m (by omega) h2
theorem cwt_1_21 : ∀ m, 1 ≤ m → m < 21 → am_cP m := fun m h1 h2 => if h : m < 11 then cwt_1_11 m h1 h else cwt_11_21 m (by omega) h2
theorem cwt_21_22 : ∀ m, 21 ≤ m → m < 22 → am_cP m := fun m h1 h2 => (show m = 21 by omega) ▸ cw_21
theorem cwt_22_23 : ∀ m, 22 ≤ m → m < 23 → am_cP m := fun m h1 h2 => (show m = 22 by omega) ▸ cw_22
theorem cwt_21_23 : ∀ m, 21 ≤ m → m < 23 → am_cP m := fun m h1 h2 => if h : m < 22 then cwt_21_22 m h1 h else cwt_22_23 m (by omega) h2
theorem cwt_23_24 : ∀ m, 23 ≤ m → m < 24 → am_cP m := fun m h1 h2 => (show m = 23 by omega) ▸ cw_23
theorem cwt_24_25 : ∀ m, 24 ≤ m → m < 25 → am_cP m := fun m h1 h2 => (show m = 24 by omega) ▸ cw_24
theorem cwt_25_26 : ∀ m, 25 ≤ m → m < 26 → am_cP m := fun m h1 h2 => (show m = 25 by omega) ▸ cw_25
theorem cwt_24_26 : ∀ m, 24 ≤ m → m < 26 → am_cP m := fun m h1 h2 => if h : m < 25 then cwt_24_25 m h1 h else cwt_25_26 m (by omega) h2
theorem cwt_23_26 : ∀ m, 23 ≤ m → m < 26 → am_cP m := fun m h1 h2 => if h : m < 24 then cwt_23_24 m h1 h else cwt_24_26 m (by omega) h2
theorem cwt_21_26 : ∀ m, 21 ≤ m → m < 26 → am_cP m := fun m h1 h2 => if h : m < 23 then cwt_21_23 m h1 h else cwt_23_26 m (by omega) h2
theorem cwt_26_27 : ∀ m, 26 ≤ m → m < 27 → am_cP m := fun m h1 h2 => (show m = 26 by omega) ▸ cw_26
theorem cwt_27_28 : ∀ m, 27 ≤ m → m < 28 → am_cP m := fun m h1 h2 => (show m = 27 by omega) ▸ cw_27
theorem cwt_26_28 : ∀ m, 26 ≤ m → m < 28 → am_cP m := fun m h1 h2 => if h : m < 27 then cwt_26_27 m h1 h else cwt_27_28 m (by omega) h2
theorem cwt_28_29 : ∀ m, 28 ≤ m → m < 29 → am_cP m := fun m h1 h2 => (show m = 28 by omega) ▸ cw_28
theorem cwt_29_30 : ∀ m, 29 ≤ m → m < 30 → am_cP m := fun m h1 h2 => (show m = 29 by omega) ▸ cw_29
theorem cwt_30_31 : ∀ m, 30 ≤ m → m < 31 → am_cP m := fun m h1 h2 => (show m = 30 by omega) ▸ cw_30
theorem cwt_29_31 : ∀ m, 29 ≤ m → m < 31 → am_cP m := fun m h1 h2 => if h : m < 30 then cwt_29_30 m h1 h else cwt_30_31 m (by omega) h2
theorem cwt_28_31 : ∀ m, 28 ≤ m → m < 31 → am_cP m := fun m h1 h2 => if h : m < 29 then cwt_28_29 m h1 h else cwt_29_31 m (by omega) h2
theorem cwt_26_31 : ∀ m, 26 ≤ m → m < 31 → am_cP m := fun m h1 h2 => if h : m < 28 then cwt_26_28 m h1 h else cwt_28_31 m (by omega) h2
theorem cwt_21_31 : ∀ m, 21 ≤ m → m < 31 → am_cP m := fun m h1 h2 => if h : m < 26 then cwt_21_26 m h1 h else cwt_26_31 m (by omega) h2
theorem cwt_31_32 : ∀ m, 31 ≤ m → m < 32 → am_cP m := fun m h1 h2 => (show m = 31 by omega) ▸ cw_31
theorem cwt_32_33 : ∀ m, 32 ≤ m → m < 33 → am_cP m := fun m h1 h2 => (show m = 32 by omega) ▸ cw_32
theorem cwt_31_33 : ∀ m, 31 ≤ m → m < 33 → am_cP m := fun m h1 h2 => if h : m < 32 then cwt_31_32 m h1 h else cwt_32_33 m (by omega) h2
theorem cwt_33_34 : ∀ m, 33 ≤ m → m < 34 → am_cP m := fun m h1 h2 => (show m = 33 by omega) ▸ cw_33
theorem cwt_34_35 : ∀ m, 34 ≤ m → m < 35 → am_cP m := fun m h1 h2 => (show m = 34 by omega) ▸ cw_34
theorem cwt_35_36 : ∀ m, 35 ≤ m → m < 36 → am_cP m := fun m h1 h2 => (show m = 35 by omega) ▸ cw_35
theorem cwt_34_36 : ∀ m, 34 ≤ m → m < 36 → am_cP m := fun m h1 h2 => if h : m < 35 then cwt_34_35 m h1 h else cwt_35_36 m (by omega) h2
theorem cwt_33_36 : ∀ m, 33 ≤ m → m < 36 → am_cP m := fun m h1 h2 => if h : m < 34 then cwt_33_34 m h1 h else cwt_34_36 m (by omega) h2
theorem cwt_31_36 : ∀ m, 31 ≤ m → m < 36 → am_cP m := fun m h1 h2 => if h : m < 33 then cwt_31_33 m h1 h else cwt_33_36 m (by omega) h2
theorem cwt_36_37 : ∀ m, 36 ≤ m → m < 37 → am_cP m := fun m h1 h2 => (show m = 36 by omega) ▸ cw_36
theorem cwt_37_38 : ∀ m, 37 ≤ m → m < 38 → am_cP m := fun m h1 h2 => (show m = 37 by omega) ▸ cw_37
theorem cwt_36_38 : ∀ m, 36 ≤ m → m < 38 → am_cP m := fun m h1 h2 => if h : m < 37 then cwt_36_37 m h1 h else cwt_37_38 m (by omega) h2
theorem cwt_38_39 : ∀ m, 38 ≤ m → m < 39 → am_cP m := fun m h1 h2 => (show m = 38 by omega) ▸ cw_38
theorem cwt_39_40 : ∀ m, 39 ≤ m → m < 40 → am_cP m := fun m h1 h2 => (show m = 39 by omega) ▸ cw_39
theorem cwt_40_41 : ∀ m, 40 ≤ m → m < 41 → am_cP m := fun m h1 h2 => (show m = 40 by omega) ▸ cw_40
theorem cwt_39_41 : ∀ m, 39 ≤ m → m < 41 → am_cP m := fun m h1 h2 => if h : m < 40 then cwt_39_40 m h1 h else cwt_40_41 m (by omega) h2
theorem cwt_38_41 : ∀ m, 38 ≤ m → m < 41 → am_cP m := fun m h1 h2 => if h : m < 39 then cwt_38_39 m h1 h else cwt_39_41 m (by omega) h2
theorem cwt_36_41 : ∀ m, 36 ≤ m → m < 41 → am_cP m := fun m h1 h2 => if h : m < 38 then cwt_36_38 m h1 h else cwt_38_41 m (by omega) h2
theorem cwt_31_41 : ∀ m, 31 ≤ m → m < 41 → am_cP m := fun m h1 h2 => if h : m < 36 then cwt_31_36 m h1 h else cwt_36_41 m (by omega) h2
theorem cwt_21_41 : ∀ m, 21 ≤ m → m < 41 → am_cP m := fun m h1 h2 => if h : m < 31 then cwt_21_31 m h1 h else cwt_31_41 m (by omega) h2
theorem cwt_1_41 : ∀ m, 1 ≤ m → m < 41 → am_cP m := fun m h1 h2 => if h : m < 21 then cwt_1_21 m h1 h else cwt_21_41 m (by omega) h2
theorem cwt_41_42 : ∀ m, 41 ≤ m → m < 42 → am_cP m := fun m h1 h2 => (show m = 41 by omega) ▸ cw_41
theorem cwt_42_43 : ∀ m, 42 ≤ m → m < 43 → am_cP m := fun m h1 h2 => (show m = 42 by omega) ▸ cw_42
theorem cwt_41_43 : ∀ m, 41 ≤ m → m < 43 → am_cP m := fun m h1 h2 => if h : m < 42 then cwt_41_42 m h1 h else cwt_42_43 m (by omega) h2
theorem cwt_43_44 : ∀ m, 43 ≤ m → m < 44 → am_cP m := fun m h1 h2 => (show m = 43 by omega) ▸ cw_43
theorem cwt_44_45 : ∀ m, 44 ≤ m → m < 45 → am_cP m := fun m h1 h2 => (show m = 44 by omega) ▸ cw_44
theorem cwt_45_46 : ∀ m, 45 ≤ m → m < 46 → am_cP m := fun m h1 h2 => (show m = 45 by omega) ▸ cw_45
theorem cwt_44_46 : ∀ m, 44 ≤ m → m < 46 → am_cP m := fun m h1 h2 => if h : m < 45 then cwt_44_45 m h1 h else cwt_45_46 m (by omega) h2
theorem cwt_43_46 : ∀ m, 43 ≤ m → m < 46 → am_cP m := fun m h1 h2 => if h : m < 44 then cwt_43_44 m h1 h else cwt_44_46 m (by omega) h2
theorem cwt_41_46 : ∀ m, 41 ≤ m → m < 46 → am_cP m := fun m h1 h2 => if h : m < 43 then cwt_41_43 m h1 h else cwt_43_46 m (by omega) h2
theorem cwt_46_47 : ∀ m, 46 ≤ m → m < 47 → am_cP m := fun m h1 h2 => (show m = 46 by omega) ▸ cw_46
theorem cwt_47_48 : ∀ m, 47 ≤ m → m < 48 → am_cP m := fun m h1 h2 => (show m = 47 by omega) ▸ cw_47
theorem cwt_46_48 : ∀ m, 46 ≤ m → m < 48 → am_cP m := fun m h1 h2 => if h : m < 47 then cwt_46_47 m h1 h else cwt_47_48 m (by omega) h2
theorem cwt_48_49 : ∀ m, 48 ≤ m → m < 49 → am_cP m := fun m h1 h2 => (show m = 48 by omega) ▸ cw_48
theorem cwt_49_50 : ∀ m, 49 ≤ m → m < 50 → am_cP m := fun m h1 h2 => (show m = 49 by omega) ▸ cw_49
theorem cwt_50_51 : ∀ m, 50 ≤ m → m < 51 → am_cP m := fun m h1 h2 => (show m = 50 by omega) ▸ cw_50
theorem cwt_49_51 : ∀ m, 49 ≤ m → m < 51 → am_cP m := fun m h1 h2 => if h : m < 50 then cwt_49_50 m h1 h else cwt_50_51 m (by omega) h2
theorem cwt_48_51 : ∀ m, 48 ≤ m → m < 51 → am_cP m := fun m h1 h2 => if h : m < 49 then cwt_48_49 m h1 h else cwt_49_51 m (by omega) h2
theorem cwt_46_51 : ∀ m, 46 ≤ m → m < 51 → am_cP m := fun m h1 h2 => if h : m < 48 then cwt_46_48 m h1 h else cwt_48_51 m (by omega) h2
theorem cwt_41_51 : ∀ m, 41 ≤ m → m < 51 → am_cP m := fun m h1 h2 => if h : m < 46 then cwt_41_46 m h1 h else cwt_46_51 m (by omega) h2
theorem cwt_51_52 : ∀ m, 51 ≤ m → m < 52 → am_cP m := fun m h1 h2 => (show m = 51 by omega) ▸ cw_51
theorem cwt_52_53 : ∀ m, 52 ≤ m → m < 53 → am_cP m := fun m h1 h2 => (show m = 52 by omega) ▸ cw_52
theorem cwt_51_53 : ∀ m, 51 ≤ m → m < 53 → am_cP m := fun m h1 h2 => if h : m < 52 then cwt_51_52 m h1 h else cwt_52_53 m (by omega) h2
theorem cwt_53_54 : ∀ m, 53 ≤ m → m < 54 → am_cP m := fun m h1 h2 => (show m = 53 by omega) ▸ cw_53
theorem cwt_54_55 : ∀ m, 54 ≤ m → m < 55 → am_cP m := fun m h1 h2 => (show m = 54 by omega) ▸ cw_54
theorem cwt_55_56 : ∀ m, 55 ≤ m → m < 56 → am_cP m := fun m h1 h2 => (show m = 55 by omega) ▸ cw_55
theorem cwt_54_56 : ∀ m, 54 ≤ m → m < 56 → am_cP m := fun m h1 h2 => if h : m < 55 then cwt_54_55 m h1 h else cwt_55_56 m (by omega) h2
theorem cwt_53_56 : ∀ m, 53 ≤ m → m < 56 → am_cP m := fun m h1 h2 => if h : m < 54 then cwt_53_54 m h1 h else cwt_54_56 m (by omega) h2
theorem cwt_51_56 : ∀ m, 51 ≤ m → m < 56 → am_cP m := fun m h1 h2 => if h : m < 53 then cwt_51_53 m h1 h else cwt_53_56 m (by omega) h2
theorem cwt_56_57 : ∀ m, 56 ≤ m → m < 57 → am_cP m := fun m h1 h2 => (show m = 56 by omega) ▸ cw_56
theorem cwt_57_58 : ∀ m, 57 ≤ m → m < 58 → am_cP m := fun m h1 h2 => (show m = 57 by omega) ▸ cw_57
theorem cwt_56_58 : ∀ m, 56 ≤ m → m < 58 → am_cP m := fun m h1 h2 => if h : m < 57 then cwt_56_57 m h1 h else cwt_57_58 m (by omega) h2
theorem cwt_58_59 : ∀ m, 58 ≤ m → m < 59 → am_cP m := fun m h1 h2 => (show m = 58 by omega) ▸ cw_58
theorem cwt_59_60 : ∀ m, 59 ≤ m → m < 60 → am_cP m := fun m h1 h2 => (show m = 59 by omega) ▸ cw_59
theorem cwt_60_61 : ∀ m, 60 ≤ m → m < 61 → am_cP m := fun m h1 h2 => (show m = 60 by omega) ▸ cw_60
theorem cwt_59_61 : ∀ m, 59 ≤ m → m < 61 → am_cP m := fun m h1 h2 => if h : m < 60 then cwt_59_60 m h1 h else cwt_60_61 m (by omega) h2
theorem cwt_58_61 : ∀ m, 58 ≤ m → m < 61 → am_cP m := fun m h1 h2 => if h : m < 59 then cwt_58_59 m h1 h else cwt_59_61 m (by omega) h2
theorem cwt_56_61 : ∀ m, 56 ≤ m → m < 61 → am_cP m := fun m h1 h2 => if h : m < 58 then cwt_56_58 m h1 h else cwt_58_61 m (by omega) h2
theorem cwt_51_61 : ∀ m, 51 ≤ m → m < 61 → am_cP m := fun m h1 h2 => if h : m < 56 then cwt_51_56 m h1 h else cwt_56_61 m (by omega) h2
theorem cwt_41_61 : ∀ m, 41 ≤ m → m < 61 → am_cP m := fun m h1 h2 => if h : m < 51 then cwt_41_51 m h1 h else cwt_51_61 m (by omega) h2
theorem cwt_61_62 : ∀ m, 61 ≤ m → m < 62 → am_cP m := fun m h1 h2 => (show m = 61 by omega) ▸ cw_61
theorem cwt_62_63 : ∀ m, 62 ≤ m → m < 63 → am_cP m := fun m h1 h2 => (show m = 62 by omega) ▸ cw_62
theorem cwt_61_63 : ∀ m, 61 ≤ m → m < 63 → am_cP m := fun m h1 h2 => if h : m < 62 then cwt_61_62 m h1 h else cwt_62_63 m (by omega) h2
theorem cwt_63_64 : ∀ m, 63 ≤ m → m < 64 → am_cP m := fun m h1 h2 => (show m = 63 by omega) ▸ cw_63
theorem cwt_64_65 : ∀ m, 64 ≤ m → m < 65 → am_cP m := fun m h1 h2 => (show m = 64 by omega) ▸ cw_64
theorem cwt_65_66 : ∀ m, 65 ≤ m → m < 66 → am_cP m := fun m h1 h2 => (show m = 65 by omega) ▸ cw_65
theorem cwt_64_66 : ∀ m, 64 ≤ m → m < 66 → am_cP m := fun m h1 h2 => if h : m < 65 then cwt_64_65 m h1 h else cwt_65_66 m (by omega) h2
theorem cwt_63_66 : ∀ m, 63 ≤ m → m < 66 → am_cP m := fun m h1 h2 => if h : m < 64 then cwt_63_64 m h1 h else cwt_64_66 m (by omega) h2
theorem cwt_61_66 : ∀ m, 61 ≤ m → m < 66 → am_cP m := fun m h1 h2 => if h : m < 63 then cwt_61_63 m h1 h else cwt_63_66 m (by omega) h2
theorem cwt_66_67 : ∀ m, 66 ≤ m → m < 67 → am_cP m := fun m h1 h2 => (show m = 66 by omega) ▸ cw_66
theorem cwt_67_68 : ∀ m, 67 ≤ m → m < 68 → am_cP m := fun m h1 h2 => (show m = 67 by omega) ▸ cw_67
theorem cwt_66_68 : ∀ m, 66 ≤ m → m < 68 → am_cP m := fun m h1 h2 => if h : m < 67 then cwt_66_67 m h1 h else cwt_67_68 m (by omega) h2
theorem cwt_68_69 : ∀ m, 68 ≤ m → m < 69 → am_cP m := fun m h1 h2 => (show m = 68 by omega) ▸ cw_68
theorem cwt_69_70 : ∀ m, 69 ≤ m → m < 70 → am_cP m := fun m h1 h2 => (show m = 69 by omega) ▸ cw_69
theorem cwt_70_71 : ∀ m, 70 ≤ m → m < 71 → am_cP m := fun m h1 h2 => (show m = 70 by omega) ▸ cw_70
theorem cwt_69_71 : ∀ m, 69 ≤ m → m < 71 → am_cP m := fun m h1 h2 => if h : m < 70 then cwt_69_70 m h1 h else cwt_70_71 m (by omega) h2
theorem cwt_68_71 : ∀ m, 68 ≤ m → m < 71 → am_cP m := fun m h1 h2 => if h : m < 69 then cwt_68_69 m h1 h else cwt_69_71 m (by omega) h2
theorem cwt_66_71 : ∀ m, 66 ≤ m → m < 71 → am_cP m := fun m h1 h2 => if h : m < 68 then cwt_66_68 m h1 h else cwt_68_71 m (by omega) h2
theorem cwt_61_71 : ∀ m, 61 ≤ m → m < 71 → am_cP m := fun m h1 h2 => if h : m < 66 then cwt_61_66 m h1 h else cwt_66_71 m (by omega) h2
theorem cwt_71_72 : ∀ m, 71 ≤ m → m < 72 → am_cP m := fun m h1 h2 => (show m = 71 by omega) ▸ cw_71
theorem cwt_72_73 : ∀ m, 72 ≤ m → m < 73 → am_cP m := fun m h1 h2 => (show m = 72 by omega) ▸ cw_72
theorem cwt_71_73 : ∀ m, 71 ≤ m → m < 73 → am_cP m := fun m h1 h2 => if h : m < 72 then cwt_71_72 m h1 h else cwt_72_73 m (by omega) h2
theorem cwt_73_74 : ∀ m, 73 ≤ m → m < 74 → am_cP m := fun m h1 h2 => (show m = 73 by omega) ▸ cw_73
theorem cwt_74_75 : ∀ m, 74 ≤ m → m < 75 → am_cP m := fun m h1 h2 => (show m = 74 by omega) ▸ cw_74
theorem cwt_75_76 : ∀ m, 75 ≤ m → m < 76 → am_cP m := fun m h1 h2 => (show m = 75 by omega) ▸ cw_75
theorem cwt_74_76 : ∀ m, 74 ≤ m → m < 76 → am_cP m := fun m h1 h2 => if h : m < 75 then cwt_74_75 m h1 h else cwt_75_76 m (by omega) h2
theorem cwt_73_76 : ∀ m, 73 ≤ m → m < 76 → am_cP m := fun m h1 h2 => if h : m < 74 then cwt_73_74 m h1 h else cwt_74_76 m (by omega) h2
theorem cwt_71_76 : ∀ m, 71 ≤ m → m < 76 → am_cP m := fun m h1 h2 => if h : m < 73 then cwt_71_73 m h1 h else cwt_73_76 m (by omega) h2
theorem cwt_76_77 : ∀ m, 76 ≤ m → m < 77 → am_cP m := fun m h1 h2 => (show m = 76 by omega) ▸ cw_76
theorem cwt_77_78 : ∀ m, 77 ≤ m → m < 78 → am_cP m := fun m h1 h2 => (show m = 77 by omega) ▸ cw_77
theorem cwt_78_79 : ∀ m, 78 ≤ m → m < 79 → am_cP m := fun m h1 h2 => (show m = 78 by omega) ▸ cw_78
theorem cwt_77_79 : ∀ m, 77 ≤ m → m < 79 → am_cP m := fun m h1 h2 => if h : m < 78 then cwt_77_78 m h1 h else cwt_78_79 m (by omega) h2
theorem cwt_76_79 : ∀ m, 76 ≤ m → m < 79 → am_cP m := fun m h1 h2 => if h : m < 77 then cwt_76_77 m h1 h else cwt_77_79 m (by omega) h2
theorem cwt_79_80 : ∀ m, 79 ≤ m → m < 80 → am_cP m := fun m h1 h2 => (show m = 79 by omega) ▸ cw_79
theorem cwt_80_81 : ∀ m, 80 ≤ m → m < 81 → am_cP m := fun m h1 h2 => (show m = 80 by omega) ▸ cw_80
theorem cwt_81_82 : ∀ m, 81 ≤ m → m < 82 → am_cP m := fun m h1 h2 => (show m = 81 by omega) ▸ cw_81
theorem cwt_80_82 : ∀ m, 80 ≤ m → m < 82 → am_cP m := fun m h1 h2 => if h : m < 81 then cwt_80_81 m h1 h else cwt_81_82 m (by omega) h2
theorem cwt_79_82 : ∀ m, 79 ≤ m → m < 82 → am_cP m := fun m h1 h2 => if h : m < 80 then cwt_79_80 m h1 h else cwt_80_82 m (by omega) h2
theorem cwt_76_82 : ∀ m, 76 ≤ m → m < 82 → am_cP m := fun m h1 h2 => if h : m < 79 then cwt_76_79 m h1 h else cwt_79_82 m (by omega) h2
theorem cwt_71_82 : ∀ m, 71 ≤ m → m < 82 → am_cP m := fun m h1 h2 => if h : m < 76 then cwt_71_76 m h1 h else cwt_76_82 m (by omega) h2
theorem cwt_61_82 : ∀ m, 61 ≤ m → m < 82 → am_cP m := fun m h1 h2 => if h : m < 71 then cwt_61_71 m h1 h else cwt_71_82 m (by omega) h2
theorem cwt_41_82 : ∀ m, 41 ≤ m → m < 82 → am_cP m := fun m h1 h2 => if h : m < 61 then cwt_41_61 m h1 h else cwt_61_82 m (by omega) h2
theorem cwt_1_82 : ∀ m, 1 ≤ m → m < 82 → am_cP m := fun m h1 h2 => if h : m < 41 then cwt_1_41 m h1 h else cwt_41_82 m (by omega) h2
theorem cwt_82_83 : ∀ m, 82 ≤ m → m < 83 → am_cP m := fun m h1 h2 => (show m = 82 by omega) ▸ cw_82
theorem cwt_83_84 : ∀ m, 83 ≤ m → m < 84 → am_cP m := fun m h1 h2 => (show m = 83 by omega) ▸ cw_83
theorem cwt_82_84 : ∀ m, 82 ≤ m → m < 84 → am_cP m := fun m h1 h2 => if h : m < 83 then cwt_82_83 m h1 h else cwt_83_84 m (by omega) h2
theorem cwt_84_85 : ∀ m, 84 ≤ m → m < 85 → am_cP m := fun m h1 h2 => (show m = 84 by omega) ▸ cw_84
theorem cwt_85_86 : ∀ m, 85 ≤ m → m < 86 → am_cP m := fun m h1 h2 => (show m = 85 by omega) ▸ cw_85
theorem cwt_86_87 : ∀ m, 86 ≤ m → m < 87 → am_cP m := fun m h1 h2 => (show m = 86 by omega) ▸ cw_86
theorem cwt_85_87 : ∀ m, 85 ≤ m → m < 87 → am_cP m := fun m h1 h2 => if h : m < 86 then cwt_85_86 m h1 h else cwt_86_87 m (by omega) h2
theorem cwt_84_87 : ∀ m, 84 ≤ m → m < 87 → am_cP m := fun m h1 h2 => if h : m < 85 then cwt_84_85 m h1 h else cwt_85_87 m (by omega) h2
theorem cwt_82_87 : ∀ m, 82 ≤ m → m < 87 → am_cP m := fun m h1 h2 => if h : m < 84 then cwt_82_84 m h1 h else cwt_84_87 m (by omega) h2
theorem cwt_87_88 : ∀ m, 87 ≤ m → m < 88 → am_cP m := fun m h1 h2 => (show m = 87 by omega) ▸ cw_87
theorem cwt_88_89 : ∀ m, 88 ≤ m → m < 89 → am_cP m := fun m h1 h2 => (show m = 88 by omega) ▸ cw_88
theorem cwt_87_89 : ∀ m, 87 ≤ m → m < 89 → am_cP m := fun m h1 h2 => if h : m < 88 then cwt_87_88 m h1 h else cwt_88_89 m (by omega) h2
theorem cwt_89_90 : ∀ m, 89 ≤ m → m < 90 → am_cP m := fun m h1 h2 => (show m = 89 by omega) ▸ cw_89
theorem cwt_90_91 : ∀ m, 90 ≤ m → m < 91 → am_cP m := fun m h1 h2 => (show m = 90 by omega) ▸ cw_90
theorem cwt_91_92 : ∀ m, 91 ≤ m → m < 92 → am_cP m := fun m h1 h2 => (show m = 91 by omega) ▸ cw_91
theorem cwt_90_92 : ∀ m, 90 ≤ m → m < 92 → am_cP m := fun m h1 h2 => if h : m < 91 then cwt_90_91 m h1 h else cwt_91_92 m (by omega) h2
theorem cwt_89_92 : ∀ m, 89 ≤ m → m < 92 → am_cP m := fun m h1 h2 => if h : m < 90 then cwt_89_90 m h1 h else cwt_90_92 m (by omega) h2
theorem cwt_87_92 : ∀ m, 87 ≤ m → m < 92 → am_cP m := fun m h1 h2 => if h : m < 89 then cwt_87_89 m h1 h else cwt_89_92 m (by omega) h2
theorem cwt_82_92 : ∀ m, 82 ≤ m → m < 92 → am_cP m := fun m h1 h2 => if h : m < 87 then cwt_82_87 m h1 h else cwt_87_92 m (by omega) h2
theorem cwt_92_93 : ∀ m, 92 ≤ m → m < 93 → am_cP m := fun m h1 h2 => (show m = 92 by omega) ▸ cw_92
theorem cwt_93_94 : ∀ m, 93 ≤ m → m < 94 → am_cP m := fun m h1 h2 => (show m = 93 by omega) ▸ cw_93
theorem cwt_92_94 : ∀ m, 92 ≤ m → m < 94 → am_cP m := fun m h1 h2 => if h : m < 93 then cwt_92_93 m h1 h else cwt_93_94 m (by omega) h2
theorem cwt_94_95 : ∀ m, 94 ≤ m → m < 95 → am_cP m := fun m h1 h2 => (show m = 94 by omega) ▸ cw_94
theorem cwt_95_96 : ∀ m, 95 ≤ m → m < 96 → am_cP m := fun m h1 h2 => (show m = 95 by omega) ▸ cw_95
theorem cwt_96_97 : ∀ m, 96 ≤ m → m < 97 → am_cP m := fun m h1 h2 => (show m = 96 by omega) ▸ cw_96
theorem cwt_95_97 : ∀ m, 95 ≤ m → m < 97 → am_cP m := fun m h1 h2 => if h : m < 96 then cwt_95_96 m h1 h else cwt_96_97 m (by omega) h2
theorem cwt_94_97 : ∀ m, 94 ≤ m → m < 97 → am_cP m := fun m h1 h2 => if h : m < 95 then cwt_94_95 m h1 h else cwt_95_97 m (by omega) h2
theorem cwt_92_97 : ∀ m, 92 ≤ m → m < 97 → am_cP m := fun m h1 h2 => if h : m < 94 then cwt_92_94 m h1 h else cwt_94_97 m (by omega) h2
theorem cwt_97_98 : ∀ m, 97 ≤ m → m < 98 → am_cP m := fun m h1 h2 => (show m = 97 by omega) ▸ cw_97
theorem cwt_98_99 : ∀ m, 98 ≤ m → m < 99 → am_cP m := fun m h1 h2 => (show m = 98 by omega) ▸ cw_98
theorem cwt_97_99 : ∀ m, 97 ≤ m → m < 99 → am_cP m := fun m h1 h2 => if h : m < 98 then cwt_97_98 m h1 h else cwt_98_99 m (by omega) h2
theorem cwt_99_100 : ∀ m, 99 ≤ m → m < 100 → am_cP m := fun m h1 h2 => (show m = 99 by omega) ▸ cw_99
theorem cwt_100_101 : ∀ m, 100 ≤ m → m < 101 → am_cP m := fun m h1 h2 => (show m = 100 by omega) ▸ cw_100
theorem cwt_101_102 : ∀ m, 101 ≤ m → m < 102 → am_cP m := fun m h1 h2 => (show m = 101 by omega) ▸ cw_101
theorem cwt_100_102 : ∀ m, 100 ≤ m → m < 102 → am_cP m := fun m h1 h2 => if h : m < 101 then cwt_100_101 m h1 h else cwt_101_102 m (by omega) h2
theorem cwt_99_102 : ∀ m, 99 ≤ m → m < 102 → am_cP m := fun m h1 h2 => if h : m < 100 then cwt_99_100 m h1 h else cwt_100_102 m (by omega) h2
theorem cwt_97_102 : ∀ m, 97 ≤ m → m < 102 → am_cP m := fun m h1 h2 => if h : m < 99 then cwt_97_99 m h1 h else cwt_99_102 m (by omega) h2
theorem cwt_92_102 : ∀ m, 92 ≤ m → m < 102 → am_cP m := fun m h1 h2 => if h : m < 97 then cwt_92_97 m h1 h else cwt_97_102 m (by omega) h2
theorem cwt_82_102 : ∀ m, 82 ≤ m → m < 102 → am_cP m := fun m h1 h2 => if h : m < 92 then cwt_82_92 m h1 h else cwt_92_102 m (by omega) h2
theorem cwt_102_103 : ∀ m, 102 ≤ m → m < 103 → am_cP m := fun m h1 h2 => (show m = 102 by omega) ▸ cw_102
theorem cwt_103_104 : ∀ m, 103 ≤ m → m < 104 → am_cP m := fun m h1 h2 => (show m = 103 by omega) ▸ cw_103
theorem cwt_102_104 : ∀ m, 102 ≤ m → m < 104 → am_cP m := fun m h1 h2 => if h : m < 103 then cwt_102_103 m h1 h else cwt_103_104 m (by omega) h2
theorem cwt_104_105 : ∀ m, 104 ≤ m → m < 105 → am_cP m := fun m h1 h2 => (show m = 104 by omega) ▸ cw_104
theorem cwt_105_106 : ∀ m, 105 ≤ m → m < 106 → am_cP m := fun m h1 h2 => (show m = 105 by omega) ▸ cw_105
theorem cwt_106_107 : ∀ m, 106 ≤ m → m < 107 → am_cP m := fun m h1 h2 => (show m = 106 by omega) ▸ cw_106
theorem cwt_105_107 : ∀ m, 105 ≤ m → m < 107 → am_cP m := fun m h1 h2 => if h : m < 106 then cwt_105_106 m h1 h else cwt_106_107 m (by omega) h2
theorem cwt_104_107 : ∀ m, 104 ≤ m → m < 107 → am_cP m := fun m h1 h2 => if h : m < 105 then cwt_104_105 m h1 h else cwt_105_107 m (by omega) h2
theorem cwt_102_107 : ∀ m, 102 ≤ m → m < 107 → am_cP m := fun m h1 h2 => if h : m < 104 then cwt_102_104 m h1 h else cwt_104_107 m (by omega) h2
theorem cwt_107_108 : ∀ m, 107 ≤ m → m < 108 → am_cP m := fun m h1 h2 => (show m = 107 by omega) ▸ cw_107
theorem cwt_108_109 : ∀ m, 108 ≤ m → m < 109 → am_cP m := fun m h1 h2 => (show m = 108 by omega) ▸ cw_108
theorem cwt_107_109 : ∀ m, 107 ≤ m → m < 109 → am_cP m := fun m h1 h2 => if h : m < 108 then cwt_107_108 m h1 h else cwt_108_109 m (by omega) h2
theorem cwt_109_110 : ∀ m, 109 ≤ m → m < 110 → am_cP m := fun m h1 h2 => (show m = 109 by omega) ▸ cw_109
theorem cwt_110_111 : ∀ m, 110 ≤ m → m < 111 → am_cP m := fun m h1 h2 => (show m = 110 by omega) ▸ cw_110
theorem cwt_111_112 : ∀ m, 111 ≤ m → m < 112 → am_cP m := fun m h1 h2 => (show m = 111 by omega) ▸ cw_111
theorem cwt_110_112 : ∀ m, 110 ≤ m → m < 112 → am_cP m := fun m h1 h2 => if h : m < 111 then cwt_110_111 m h1 h else cwt_111_112 m (by omega) h2
theorem cwt_109_112 : ∀ m, 109 ≤ m → m < 112 → am_cP m := fun m h1 h2 => if h : m < 110 then cwt_109_110 m h1 h else cwt_110_112 m (by omega) h2
theorem cwt_107_112 : ∀ m, 107 ≤ m → m < 112 → am_cP m := fun m h1 h2 => if h : m < 109 then cwt_107_109 m h1 h else cwt_109_112 m (by omega) h2
theorem cwt_102_112 : ∀ m, 102 ≤ m → m < 112 → am_cP m := fun m h1 h2 => if h : m < 107 then cwt_102_107 m h1 h else cwt_107_112 m (by omega) h2
theorem cwt_112_113 : ∀ m, 112 ≤ m → m < 113 → am_cP m := fun m h1 h2 => (show m = 112 by omega) ▸ cw_112
theorem cwt_113_114 : ∀ m, 113 ≤ m → m < 114 → am_cP m := fun m h1 h2 => (show m = 113 by omega) ▸ cw_113
theorem cwt_112_114 : ∀ m, 112 ≤ m → m < 114 → am_cP m := fun m h1 h2 => if h : m < 113 then cwt_112_113 m h1 h else cwt_113_114 m (by omega) h2
theorem cwt_114_115 : ∀ m, 114 ≤ m → m < 115 → am_cP m := fun m h1 h2 => (show m = 114 by omega) ▸ cw_114
theorem cwt_115_116 : ∀ m, 115 ≤ m → m < 116 → am_cP m := fun m h1 h2 => (show m = 115 by omega) ▸ cw_115
theorem cwt_116_117 : ∀ m, 116 ≤ m → m < 117 → am_cP m := fun m h1 h2 => (show m = 116 by omega) ▸ cw_116
theorem cwt_115_117 : ∀ m, 115 ≤ m → m < 117 → am_cP m := fun m h1 h2 => if h : m < 116 then cwt_115_116 m h1 h else cwt_116_117 m (by omega) h2
theorem cwt_114_117 : ∀ m, 114 ≤ m → m < 117 → am_cP m := fun m h1 h2 => if h : m < 115 then cwt_114_115 m h1 h else cwt_115_117 m (by omega) h2
theorem cwt_112_117 : ∀ m, 112 ≤ m → m < 117 → am_cP m := fun m h1 h2 => if h : m < 114 then cwt_112_114 m h1 h else cwt_114_117 m (by omega) h2
theorem cwt_117_118 : ∀ m, 117 ≤ m → m < 118 → am_cP m := fun m h1 h2 => (show m = 117 by omega) ▸ cw_117
theorem cwt_118_119 : ∀ m, 118 ≤ m → m < 119 → am_cP m := fun m h1 h2 => (show m = 118 by omega) ▸ cw_118
theorem cwt_119_120 : ∀ m, 119 ≤ m → m < 120 → am_cP m := fun m h1 h2 => (show m = 119 by omega) ▸ cw_119
theorem cwt_118_120 : ∀ m, 118 ≤ m → m < 120 → am_cP m := fun m h1 h2 => if h : m < 119 then cwt_118_119 m h1 h else cwt_119_120 m (by omega) h2
theorem cwt_117_120 : ∀ m, 117 ≤ m → m < 120 → am_cP m := fun m h1 h2 => if h : m < 118 then cwt_117_118 m h1 h else cwt_118_120 m (by omega) h2
theorem cwt_120_121 : ∀ m, 120 ≤ m → m < 121 → am_cP m := fun m h1 h2 => (show m = 120 by omega) ▸ cw_120
theorem cwt_121_122 : ∀ m, 121 ≤ m → m < 122 → am_cP m := fun m h1 h2 => (show m = 121 by omega) ▸ cw_121
theorem cwt_122_123 : ∀ m, 122 ≤ m → m < 123 → am_cP m := fun m h1 h2 => (show m = 122 by omega) ▸ cw_122
theorem cwt_121_123 : ∀ m, 121 ≤ m → m < 123 → am_cP m := fun m h1 h2 => if h : m < 122 then cwt_121_122 m h1 h else cwt_122_123 m (by omega) h2
theorem cwt_120_123 : ∀ m, 120 ≤ m → m < 123 → am_cP m := fun m h1 h2 => if h : m < 121 then cwt_120_121 m h1 h else cwt_121_123 m (by omega) h2
theorem cwt_117_123 : ∀ m, 117 ≤ m → m < 123 → am_cP m := fun m h1 h2 => if h : m < 120 then cwt_117_120 m h1 h else cwt_120_123 m (by omega) h2
theorem cwt_112_123 : ∀ m, 112 ≤ m → m < 123 → am_cP m := fun m h1 h2 => if h : m < 117 then cwt_112_117 m h1 h else cwt_117_123 m (by omega) h2
theorem cwt_102_123 : ∀ m, 102 ≤ m → m < 123 → am_cP m := fun m h1 h2 => if h : m < 112 then cwt_102_112 m h1 h else cwt_112_123 m (by omega) h2
theorem cwt_82_123 : ∀ m, 82 ≤ m → m < 123 → am_cP m := fun m h1 h2 => if h : m < 102 then cwt_82_102 m h1 h else cwt_102_123 m (by omega) h2
theorem cwt_123_124 : ∀ m, 123 ≤ m → m < 124 → am_cP m := fun m h1 h2 => (show m = 123 by omega) ▸ cw_123
theorem cwt_124_125 : ∀ m, 124 ≤ m → m < 125 → am_cP m := fun m h1 h2 => (show m = 124 by omega) ▸ cw_124
theorem cwt_123_125 : ∀ m, 123 ≤ m → m < 125 → am_cP m := fun m h1 h2 => if h : m < 124 then cwt_123_124 m h1 h else cwt_124_125 m (by omega) h2
theorem cwt_125_126 : ∀ m, 125 ≤ m → m < 126 → am_cP m := fun m h1 h2 => (show m = 125 by omega) ▸ cw_125
theorem cwt_126_127 : ∀ m, 126 ≤ m → m < 127 → am_cP m := fun m h1 h2 => (show m = 126 by omega) ▸ cw_126
theorem cwt_127_128 : ∀ m, 127 ≤ m → m < 128 → am_cP m := fun m h1 h2 => (show m = 127 by omega) ▸ cw_127
theorem cwt_126_128 : ∀ m, 126 ≤ m → m < 128 → am_cP m := fun m h1 h2 => if h : m < 127 then cwt_126_127 m h1 h else cwt_127_128 m (by omega) h2
theorem cwt_125_128 : ∀ m, 125 ≤ m → m < 128 → am_cP m := fun m h1 h2 => if h : m < 126 then cwt_125_126 m h1 h else cwt_126_128 m (by omega) h2
theorem cwt_123_128 : ∀ m, 123 ≤ m → m < 128 → am_cP m := fun m h1 h2 => if h : m < 125 then cwt_123_125 m h1 h else cwt_125_128 m (by omega) h2
theorem cwt_128_129 : ∀ m, 128 ≤ m → m < 129 → am_cP m := fun m h1 h2 => (show m = 128 by omega) ▸ cw_128
theorem cwt_129_130 : ∀ m, 129 ≤ m → m < 130 → am_cP m := fun m h1 h2 => (show m = 129 by omega) ▸ cw_129
theorem cwt_128_130 : ∀ m, 128 ≤ m → m < 130 → am_cP m := fun m h1 h2 => if h : m < 129 then cwt_128_129 m h1 h else cwt_129_130 m (by omega) h2
theorem cwt_130_131 : ∀ m, 130 ≤ m → m < 131 → am_cP m := fun m h1 h2 => (show m = 130 by omega) ▸ cw_130
theorem cwt_131_132 : ∀ m, 131 ≤ m → m < 132 → am_cP m := fun m h1 h2 => (show m = 131 by omega) ▸ cw_131
theorem cwt_132_133 : ∀ m, 132 ≤ m → m < 133 → am_cP m := fun m h1 h2 => (show m = 132 by omega) ▸ cw_132
theorem cwt_131_133 : ∀ m, 131 ≤ m → m < 133 → am_cP m := fun m h1 h2 => if h : m < 132 then cwt_131_132 m h1 h else cwt_132_133 m (by omega) h2
theorem cwt_130_133 : ∀ m, 130 ≤ m → m < 133 → am_cP m := fun m h1 h2 => if h : m < 131 then cwt_130_131 m h1 h else cwt_131_133 m (by omega) h2
theorem cwt_128_133 : ∀ m, 128 ≤ m → m < 133 → am_cP m := fun m h1 h2 => if h : m < 130 then cwt_128_130 m h1 h else cwt_130_133 m (by omega) h2
theorem cwt_123_133 : ∀ m, 123 ≤ m → m < 133 → am_cP m := fun m h1 h2 => if h : m < 128 then cwt_123_128 m h1 h else cwt_128_133 m (by omega) h2
theorem cwt_133_134 : ∀ m, 133 ≤ m → m < 134 → am_cP m := fun m h1 h2 => (show m = 133 by omega) ▸ cw_133
theorem cwt_134_135 : ∀ m, 134 ≤ m → m < 135 → am_cP m := fun m h1 h2 => (show m = 134 by omega) ▸ cw_134
theorem cwt_133_135 : ∀ m, 133 ≤ m → m < 135 → am_cP m := fun m h1 h2 => if h : m < 134 then cwt_133_134 m h1 h else cwt_134_135 m (by omega) h2
theorem cwt_135_136 : ∀ m, 135 ≤ m → m < 136 → am_cP m := fun m h1 h2 => (show m = 135 by omega) ▸ cw_135
theorem cwt_136_137 : ∀ m, 136 ≤ m → m < 137 → am_cP m := fun m h1 h2 => (show m = 136 by omega) ▸ cw_136
theorem cwt_137_138 : ∀ m, 137 ≤ m → m < 138 → am_cP m := fun m h1 h2 => (show m = 137 by omega) ▸ cw_137
theorem cwt_136_138 : ∀ m, 136 ≤ m → m < 138 → am_cP m := fun m h1 h2 => if h : m < 137 then cwt_136_137 m h1 h else cwt_137_138 m (by omega) h2
theorem cwt_135_138 : ∀ m, 135 ≤ m → m < 138 → am_cP m := fun m h1 h2 => if h : m < 136 then cwt_135_136 m h1 h else cwt_136_138 m (by omega) h2
theorem cwt_133_138 : ∀ m, 133 ≤ m → m < 138 → am_cP m := fun m h1 h2 => if h : m < 135 then cwt_133_135 m h1 h else cwt_135_138 m (by omega) h2
theorem cwt_138_139 : ∀ m, 138 ≤ m → m < 139 → am_cP m := fun m h1 h2 => (show m = 138 by omega) ▸ cw_138
theorem cwt_139_140 : ∀ m, 139 ≤ m → m < 140 → am_cP m := fun m h1 h2 => (show m = 139 by omega) ▸ cw_139
theorem cwt_138_140 : ∀ m, 138 ≤ m → m < 140 → am_cP m := fun m h1 h2 => if h : m < 139 then cwt_138_139 m h1 h else cwt_139_140 m (by omega) h2
theorem cwt_140_141 : ∀ m, 140 ≤ m → m < 141 → am_cP m := fun m h1 h2 => (show m = 140 by omega) ▸ cw_140
theorem cwt_141_142 : ∀ m, 141 ≤ m → m < 142 → am_cP m := fun m h1 h2 => (show m = 141 by omega) ▸ cw_141
theorem cwt_142_143 : ∀ m, 142 ≤ m → m < 143 → am_cP m := fun m h1 h2 => (show m = 142 by omega) ▸ cw_142
theorem cwt_141_143 : ∀ m, 141 ≤ m → m < 143 → am_cP m := fun m h1 h2 => if h : m < 142 then cwt_141_142 m h1 h else cwt_142_143 m (by omega) h2
theorem cwt_140_143 : ∀ m, 140 ≤ m → m < 143 → am_cP m := fun m h1 h2 => if h : m < 141 then cwt_140_141 m h1 h else cwt_141_143 m (by omega) h2
theorem cwt_138_143 : ∀ m, 138 ≤ m → m < 143 → am_cP m := fun m h1 h2 => if h : m < 140 then cwt_138_140 m h1 h else cwt_140_143 m (by omega) h2
theorem cwt_133_143 : ∀ m, 133 ≤ m → m < 143 → am_cP m := fun m h1 h2 => if h : m < 138 then cwt_133_138 m h1 h else cwt_138_143 m (by omega) h2
theorem cwt_123_143 : ∀ m, 123 ≤ m → m < 143 → am_cP m := fun m h1 h2 => if h : m < 133 then cwt_123_133 m h1 h else cwt_133_143 m (by omega) h2
theorem cwt_143_144 : ∀ m, 143 ≤ m → m < 144 → am_cP m := fun m h1 h2 => (show m = 143 by omega) ▸ cw_143
theorem cwt_144_145 : ∀ m, 144 ≤ m → m < 145 → am_cP m := fun m h1 h2 => (show m = 144 by omega) ▸ cw_144
theorem cwt_143_145 : ∀ m, 143 ≤ m → m < 145 → am_cP m := fun m h1 h2 => if h : m < 144 then cwt_143_144 m h1 h else cwt_144_145 m (by omega) h2
theorem cwt_145_146 : ∀ m, 145 ≤ m → m < 146 → am_cP m := fun m h1 h2 => (show m = 145 by omega) ▸ cw_145
theorem cwt_146_147 : ∀ m, 146 ≤ m → m < 147 → am_cP m := fun m h1 h2 => (show m = 146 by omega) ▸ cw_146
theorem cwt_147_148 : ∀ m, 147 ≤ m → m < 148 → am_cP m := fun m h1 h2 => (show m = 147 by omega) ▸ cw_147
theorem cwt_146_148 : ∀ m, 146 ≤ m → m < 148 → am_cP m := fun m h1 h2 => if h : m < 147 then cwt_146_147 m h1 h else cwt_147_148 m (by omega) h2
theorem cwt_145_148 : ∀ m, 145 ≤ m → m < 148 → am_cP m := fun m h1 h2 => if h : m < 146 then cwt_145_146 m h1 h else cwt_146_148 m (by omega) h2
theorem cwt_143_148 : ∀ m, 143 ≤ m → m < 148 → am_cP m := fun m h1 h2 => if h : m < 145 then cwt_143_145 m h1 h else cwt_145_148 m (by omega) h2
theorem cwt_148_149 : ∀ m, 148 ≤ m → m < 149 → am_cP m := fun m h1 h2 => (show m = 148 by omega) ▸ cw_148
theorem cwt_149_150 : ∀ m, 149 ≤ m → m < 150 → am_cP m := fun m h1 h2 => (show m = 149 by omega) ▸ cw_149
theorem cwt_148_150 : ∀ m, 148 ≤ m → m < 150 → am_cP m := fun m h1 h2 => if h : m < 149 then cwt_148_149 m h1 h else cwt_149_150 m (by omega) h2
theorem cwt_150_151 : ∀ m, 150 ≤ m → m < 151 → am_cP m := fun m h1 h2 => (show m = 150 by omega) ▸ cw_150
theorem cwt_151_152 : ∀ m, 151 ≤ m → m < 152 → am_cP m := fun m h1 h2 => (show m = 151 by omega) ▸ cw_151
theorem cwt_152_153 : ∀ m, 152 ≤ m → m < 153 → am_cP m := fun m h1 h2 => (show m = 152 by omega) ▸ cw_152
theorem cwt_151_153 : ∀ m, 151 ≤ m → m < 153 → am_cP m := fun m h1 h2 => if h : m < 152 then cwt_151_152 m h1 h else cwt_152_153 m (by omega) h2
theorem cwt_150_153 : ∀ m, 150 ≤ m → m < 153 → am_cP m := fun m h1 h2 => if h : m < 151 then cwt_150_151 m h1 h else cwt_151_153 m (by omega) h2
theorem cwt_148_153 : ∀ m, 148 ≤ m → m < 153 → am_cP m := fun m h1 h2 => if h : m < 150 then cwt_148_150 m h1 h else cwt_150_153 m (by omega) h2
theorem cwt_143_153 : ∀ m, 143 ≤ m → m < 153 → am_cP m := fun m h1 h2 => if h : m < 148 then cwt_143_148 m h1 h else cwt_148_153 m (by omega) h2
theorem cwt_153_154 : ∀ m, 153 ≤ m → m < 154 → am_cP m := fun m h1 h2 => (show m = 153 by omega) ▸ cw_153
theorem cwt_154_155 : ∀ m, 154 ≤ m → m < 155 → am_cP m := fun m h1 h2 => (show m = 154 by omega) ▸ cw_154
theorem cwt_153_155 : ∀ m, 153 ≤ m → m < 155 → am_cP m := fun m h1 h2 => if h : m < 154 then cwt_153_154 m h1 h else cwt_154_155 m (by omega) h2
theorem cwt_155_156 : ∀ m, 155 ≤ m → m < 156 → am_cP m := fun m h1 h2 => (show m = 155 by omega) ▸ cw_155
theorem cwt_156_157 : ∀ m, 156 ≤ m → m < 157 → am_cP m := fun m h1 h2 => (show m = 156 by omega) ▸ cw_156
theorem cwt_157_158 : ∀ m, 157 ≤ m → m < 158 → am_cP m := fun m h1 h2 => (show m = 157 by omega) ▸ cw_157
theorem cwt_156_158 : ∀ m, 156 ≤ m → m < 158 → am_cP m := fun m h1 h2 => if h : m < 157 then cwt_156_157 m h1 h else cwt_157_158 m (by omega) h2
theorem cwt_155_158 : ∀ m, 155 ≤ m → m < 158 → am_cP m := fun m h1 h2 => if h : m < 156 then cwt_155_156 m h1 h else cwt_156_158 m (by omega) h2
theorem cwt_153_158 : ∀ m, 153 ≤ m → m < 158 → am_cP m := fun m h1 h2 => if h : m < 155 then cwt_153_155 m h1 h else cwt_155_158 m (by omega) h2
theorem cwt_158_159 : ∀ m, 158 ≤ m → m < 159 → am_cP m := fun m h1 h2 => (show m = 158 by omega) ▸ cw_158
theorem cwt_159_160 : ∀ m, 159 ≤ m → m < 160 → am_cP m := fun m h1 h2 => (show m = 159 by omega) ▸ cw_159
theorem cwt_160_161 : ∀ m, 160 ≤ m → m < 161 → am_cP m := fun m h1 h2 => (show m = 160 by omega) ▸ cw_160
theorem cwt_159_161 : ∀ m, 159 ≤ m → m < 161 → am_cP m := fun m h1 h2 => if h : m < 160 then cwt_159_160 m h1 h else cwt_160_161 m (by omega) h2
theorem cwt_158_161 : ∀ m, 158 ≤ m → m < 161 → am_cP m := fun m h1 h2 => if h : m < 159 then cwt_158_159 m h1 h else cwt_159_161 m (by omega) h2
theorem cwt_161_162 : ∀ m, 161 ≤ m → m < 162 → am_cP m := fun m h1 h2 => (show m = 161 by omega) ▸ cw_161
theorem cwt_162_163 : ∀ m, 162 ≤ m → m < 163 → am_cP m := fun m h1 h2 => (show m = 162 by omega) ▸ cw_162
theorem cwt_163_164 : ∀ m, 163 ≤ m → m < 164 → am_cP m := fun m h1 h2 => (show m = 163 by omega) ▸ cw_163
theorem cwt_162_164 : ∀ m, 162 ≤ m → m < 164 → am_cP m := fun m h1 h2 => if h : m < 163 then cwt_162_163 m h1 h else cwt_163_164 m (by omega) h2
theorem cwt_161_164 : ∀ m, 161 ≤ m → m < 164 → am_cP m := fun m h1 h2 => if h : m < 162 then cwt_161_162 m h1 h else cwt_162_164 m (by omega) h2
theorem cwt_158_164 : ∀ m, 158 ≤ m → m < 164 → am_cP m := fun m h1 h2 => if h : m < 161 then cwt_158_161 m h1 h else cwt_161_164 m (by omega) h2
theorem cwt_153_164 : ∀ m, 153 ≤ m → m < 164 → am_cP m := fun m h1 h2 => if h : m < 158 then cwt_153_158 m h1 h else cwt_158_164 m (by omega) h2
theorem cwt_143_164 : ∀ m, 143 ≤ m → m < 164 → am_cP m := fun m h1 h2 => if h : m < 153 then cwt_143_153 m h1 h else cwt_153_164 m (by omega) h2
theorem cwt_123_164 : ∀ m, 123 ≤ m → m < 164 → am_cP m := fun m h1 h2 => if h : m < 143 then cwt_123_143 m h1 h else cwt_143_164 m (by omega) h2
theorem cwt_82_164 : ∀ m, 82 ≤ m → m < 164 → am_cP m := fun m h1 h2 => if h : m < 123 then cwt_82_123 m h1 h else cwt_123_164 m (by omega) h2
theorem cwt_1_164 : ∀ m, 1 ≤ m → m < 164 → am_cP m := fun m h1 h2 => if h : m < 82 then cwt_1_82 m h1 h else cwt_82_164 m (by omega) h2
theorem cwt_164_165 : ∀ m, 164 ≤ m → m < 165 → am_cP m := fun m h1 h2 => (show m = 164 by omega) ▸ cw_164
theorem cwt_165_166 : ∀ m, 165 ≤ m → m < 166 → am_cP m := fun m h1 h2 => (show m = 165 by omega) ▸ cw_165
theorem cwt_164_166 : ∀ m, 164 ≤ m → m < 166 → am_cP m := fun m h1 h2 => if h : m < 165 then cwt_164_165 m h1 h else cwt_165_166 m (by omega) h2
theorem cwt_166_167 : ∀ m, 166 ≤ m → m < 167 → am_cP m := fun m h1 h2 => (show m = 166 by omega) ▸ cw_166
theorem cwt_167_168 : ∀ m, 167 ≤ m → m < 168 → am_cP m := fun m h1 h2 => (show m = 167 by omega) ▸ cw_167
theorem cwt_168_169 : ∀ m, 168 ≤ m → m < 169 → am_cP m := fun m h1 h2 => (show m = 168 by omega) ▸ cw_168
theorem cwt_167_169 : ∀ m, 167 ≤ m → m < 169 → am_cP m := fun m h1 h2 => if h : m < 168 then cwt_167_168 m h1 h else cwt_168_169 m (by omega) h2
theorem cwt_166_169 : ∀ m, 166 ≤ m → m < 169 → am_cP m := fun m h1 h2 => if h : m < 167 then cwt_166_167 m h1 h else cwt_167_169 m (by omega) h2
theorem cwt_164_169 : ∀ m, 164 ≤ m → m < 169 → am_cP m := fun m h1 h2 => if h : m < 166 then cwt_164_166 m h1 h else cwt_166_169 m (by omega) h2
theorem cwt_169_170 : ∀ m, 169 ≤ m → m < 170 → am_cP m := fun m h1 h2 => (show m = 169 by omega) ▸ cw_169
theorem cwt_170_171 : ∀ m, 170 ≤ m → m < 171 → am_cP m := fun m h1 h2 => (show m = 170 by omega) ▸ cw_170
theorem cwt_169_171 : ∀ m, 169 ≤ m → m < 171 → am_cP m := fun m h1 h2 => if h : m < 170 then cwt_169_170 m h1 h else cwt_170_171 m (by omega) h2
theorem cwt_171_172 : ∀ m, 171 ≤ m → m < 172 → am_cP m := fun m h1 h2 => (show m = 171 by omega) ▸ cw_171
theorem cwt_172_173 : ∀ m, 172 ≤ m → m < 173 → am_cP m := fun m h1 h2 => (show m = 172 by omega) ▸ cw_172
theorem cwt_173_174 : ∀ m, 173 ≤ m → m < 174 → am_cP m := fun m h1 h2 => (show m = 173 by omega) ▸ cw_173
theorem cwt_172_174 : ∀ m, 172 ≤ m → m < 174 → am_cP m := fun m h1 h2 => if h : m < 173 then cwt_172_173 m h1 h else cwt_173_174 m (by omega) h2
theorem cwt_171_174 : ∀ m, 171 ≤ m → m < 174 → am_cP m := fun m h1 h2 => if h : m < 172 then cwt_171_172 m h1 h else cwt_172_174 m (by omega) h2
theorem cwt_169_174 : ∀ m, 169 ≤ m → m < 174 → am_cP m := fun m h1 h2 => if h : m < 171 then cwt_169_171 m h1 h else cwt_171_174 m (by omega) h2
theorem cwt_164_174 : ∀ m, 164 ≤ m → m < 174 → am_cP m := fun m h1 h2 => if h : m < 169 then cwt_164_169 m h1 h else cwt_169_174 m (by omega) h2
theorem cwt_174_175 : ∀ m, 174 ≤ m → m < 175 → am_cP m := fun m h1 h2 => (show m = 174 by omega) ▸ cw_174
theorem cwt_175_176 : ∀ m, 175 ≤ m → m < 176 → am_cP m := fun m h1 h2 => (show m = 175 by omega) ▸ cw_175
theorem cwt_174_176 : ∀ m, 174 ≤ m → m < 176 → am_cP m := fun m h1 h2 => if h : m < 175 then cwt_174_175 m h1 h else cwt_175_176 m (by omega) h2
theorem cwt_176_177 : ∀ m, 176 ≤ m → m < 177 → am_cP m := fun m h1 h2 => (show m = 176 by omega) ▸ cw_176
theorem cwt_177_178 : ∀ m, 177 ≤ m → m < 178 → am_cP m := fun m h1 h2 => (show m = 177 by omega) ▸ cw_177
theorem cwt_178_179 : ∀ m, 178 ≤ m → m < 179 → am_cP m := fun m h1 h2 => (show m = 178 by omega) ▸ cw_178
theorem cwt_177_179 : ∀ m, 177 ≤ m → m < 179 → am_cP m := fun m h1 h2 => if h : m < 178 then cwt_177_178 m h1 h else cwt_178_179 m (by omega) h2
theorem cwt_176_179 : ∀ m, 176 ≤ m → m < 179 → am_cP m := fun m h1 h2 => if h : m < 177 then cwt_176_177 m h1 h else cwt_177_179 m (by omega) h2
theorem cwt_174_179 : ∀ m, 174 ≤ m → m < 179 → am_cP m := fun m h1 h2 => if h : m < 176 then cwt_174_176 m h1 h else cwt_176_179 m (by omega) h2
theorem cwt_179_180 : ∀ m, 179 ≤ m → m < 180 → am_cP m := fun m h1 h2 => (show m = 179 by omega) ▸ cw_179
theorem cwt_180_181 : ∀ m, 180 ≤ m → m < 181 → am_cP m := fun m h1 h2 => (show m = 180 by omega) ▸ cw_180
theorem cwt_179_181 : ∀ m, 179 ≤ m → m < 181 → am_cP m := fun m h1 h2 => if h : m < 180 then cwt_179_180 m h1 h else cwt_180_181 m (by omega) h2
theorem cwt_181_182 : ∀ m, 181 ≤ m → m < 182 → am_cP m := fun m h1 h2 => (show m = 181 by omega) ▸ cw_181
theorem cwt_182_183 : ∀ m, 182 ≤ m → m < 183 → am_cP m := fun m h1 h2 => (show m = 182 by omega) ▸ cw_182
theorem cwt_183_184 : ∀ m, 183 ≤ m → m < 184 → am_cP m := fun m h1 h2 => (show m = 183 by omega) ▸ cw_183
theorem cwt_182_184 : ∀ m, 182 ≤ m → m < 184 → am_cP m := fun m h1 h2 => if h : m < 183 then cwt_182_183 m h1 h else cwt_183_184 m (by omega) h2
theorem cwt_181_184 : ∀ m, 181 ≤ m → m < 184 → am_cP m := fun m h1 h2 => if h : m < 182 then cwt_181_182 m h1 h else cwt_182_184 m (by omega) h2
theorem cwt_179_184 : ∀ m, 179 ≤ m → m < 184 → am_cP m := fun m h1 h2 => if h : m < 181 then cwt_179_181 m h1 h else cwt_181_184 m (by omega) h2
theorem cwt_174_184 : ∀ m, 174 ≤ m → m < 184 → am_cP m := fun m h1 h2 => if h : m < 179 then cwt_174_179 m h1 h else cwt_179_184 m (by omega) h2
theorem cwt_164_184 : ∀ m, 164 ≤ m → m < 184 → am_cP m := fun m h1 h2 => if h : m < 174 then cwt_164_174 m h1 h else cwt_174_184 m (by omega) h2
theorem cwt_184_185 : ∀ m, 184 ≤ m → m < 185 → am_cP m := fun m h1 h2 => (show m = 184 by omega) ▸ cw_184
theorem cwt_185_186 : ∀ m, 185 ≤ m → m < 186 → am_cP m := fun m h1 h2 => (show m = 185 by omega) ▸ cw_185
theorem cwt_184_186 : ∀ m, 184 ≤ m → m < 186 → am_cP m := fun m h1 h2 => if h : m < 185 then cwt_184_185 m h1 h else cwt_185_186 m (by omega) h2
theorem cwt_186_187 : ∀ m, 186 ≤ m → m < 187 → am_cP m := fun m h1 h2 => (show m = 186 by omega) ▸ cw_186
theorem cwt_187_188 : ∀ m, 187 ≤ m → m < 188 → am_cP m := fun m h1 h2 => (show m = 187 by omega) ▸ cw_187
theorem cwt_188_189 : ∀ m, 188 ≤ m → m < 189 → am_cP m := fun m h1 h2 => (show m = 188 by omega) ▸ cw_188
theorem cwt_187_189 : ∀ m, 187 ≤ m → m < 189 → am_cP m := fun m h1 h2 => if h : m < 188 then cwt_187_188 m h1 h else cwt_188_189 m (by omega) h2
theorem cwt_186_189 : ∀ m, 186 ≤ m → m < 189 → am_cP m := fun m h1 h2 => if h : m < 187 then cwt_186_187 m h1 h else cwt_187_189 m (by omega) h2
theorem cwt_184_189 : ∀ m, 184 ≤ m → m < 189 → am_cP m := fun m h1 h2 => if h : m < 186 then cwt_184_186 m h1 h else cwt_186_189 m (by omega) h2
theorem cwt_189_190 : ∀ m, 189 ≤ m → m < 190 → am_cP m := fun m h1 h2 => (show m = 189 by omega) ▸ cw_189
theorem cwt_190_191 : ∀ m, 190 ≤ m → m < 191 → am_cP m := fun m h1 h2 => (show m = 190 by omega) ▸ cw_190
theorem cwt_189_191 : ∀ m, 189 ≤ m → m < 191 → am_cP m := fun m h1 h2 => if h : m < 190 then cwt_189_190 m h1 h else cwt_190_191 m (by omega) h2
theorem cwt_191_192 : ∀ m, 191 ≤ m → m < 192 → am_cP m := fun m h1 h2 => (show m = 191 by omega) ▸ cw_191
theorem cwt_192_193 : ∀ m, 192 ≤ m → m < 193 → am_cP m := fun m h1 h2 => (show m = 192 by omega) ▸ cw_192
theorem cwt_193_194 : ∀ m, 193 ≤ m → m < 194 → am_cP m := fun m h1 h2 => (show m = 193 by omega) ▸ cw_193
theorem cwt_192_194 : ∀ m, 192 ≤ m → m < 194 → am_cP m := fun m h1 h2 => if h : m < 193 then cwt_192_193 m h1 h else cwt_193_194 m (by omega) h2
theorem cwt_191_194 : ∀ m, 191 ≤ m → m < 194 → am_cP m := fun m h1 h2 => if h : m < 192 then cwt_191_192 m h1 h else cwt_192_194 m (by omega) h2
theorem cwt_189_194 : ∀ m, 189 ≤ m → m < 194 → am_cP m := fun m h1 h2 => if h : m < 191 then cwt_189_191 m h1 h else cwt_191_194 m (by omega) h2
theorem cwt_184_194 : ∀ m, 184 ≤ m → m < 194 → am_cP m := fun m h1 h2 => if h : m < 189 then cwt_184_189 m h1 h else cwt_189_194 m (by omega) h2
theorem cwt_194_195 : ∀ m, 194 ≤ m → m < 195 → am_cP m := fun m h1 h2 => (show m = 194 by omega) ▸ cw_194
theorem cwt_195_196 : ∀ m, 195 ≤ m → m < 196 → am_cP m := fun m h1 h2 => (show m = 195 by omega) ▸ cw_195
theorem cwt_194_196 : ∀ m, 194 ≤ m → m < 196 → am_cP m := fun m h1 h2 => if h : m < 195 then cwt_194_195 m h1 h else cwt_195_196 m (by omega) h2
theorem cwt_196_197 : ∀ m, 196 ≤ m → m < 197 → am_cP m := fun m h1 h2 => (show m = 196 by omega) ▸ cw_196
theorem cwt_197_198 : ∀ m, 197 ≤ m → m < 198 → am_cP m := fun m h1 h2 => (show m = 197 by omega) ▸ cw_197
theorem cwt_198_199 : ∀ m, 198 ≤ m → m < 199 → am_cP m := fun m h1 h2 => (show m = 198 by omega) ▸ cw_198
theorem cwt_197_199 : ∀ m, 197 ≤ m → m < 199 → am_cP m := fun m h1 h2 => if h : m < 198 then cwt_197_198 m h1 h else cwt_198_199 m (by omega) h2
theorem cwt_196_199 : ∀ m, 196 ≤ m → m < 199 → am_cP m := fun m h1 h2 => if h : m < 197 then cwt_196_197 m h1 h else cwt_197_199 m (by omega) h2
theorem cwt_194_199 : ∀ m, 194 ≤ m → m < 199 → am_cP m := fun m h1 h2 => if h : m < 196 then cwt_194_196 m h1 h else cwt_196_199 m (by omega) h2
theorem cwt_199_200 : ∀ m, 199 ≤ m → m < 200 → am_cP m := fun m h1 h2 => (show m = 199 by omega) ▸ cw_199
theorem cwt_200_201 : ∀ m, 200 ≤ m → m < 201 → am_cP m := fun m h1 h2 => (show m = 200 by omega) ▸ cw_200
theorem cwt_201_202 : ∀ m, 201 ≤ m → m < 202 → am_cP m := fun m h1 h2 => (show m = 201 by omega) ▸ cw_201
theorem cwt_200_202 : ∀ m, 200 ≤ m → m < 202 → am_cP m := fun m h1 h2 => if h : m < 201 then cwt_200_201 m h1 h else cwt_201_202 m (by omega) h2
theorem cwt_199_202 : ∀ m, 199 ≤ m → m < 202 → am_cP m := fun m h1 h2 => if h : m < 200 then cwt_199_200 m h1 h else cwt_200_202 m (by omega) h2
theorem cwt_202_203 : ∀ m, 202 ≤ m → m < 203 → am_cP m := fun m h1 h2 => (show m = 202 by omega) ▸ cw_202
theorem cwt_203_204 : ∀ m, 203 ≤ m → m < 204 → am_cP m := fun m h1 h2 => (show m = 203 by omega) ▸ cw_203
theorem cwt_204_205 : ∀ m, 204 ≤ m → m < 205 → am_cP m := fun m h1 h2 => (show m = 204 by omega) ▸ cw_204
theorem cwt_203_205 : ∀ m, 203 ≤ m → m < 205 → am_cP m := fun m h1 h2 => if h : m < 204 then cwt_203_204 m h1 h else cwt_204_205 m (by omega) h2
theorem cwt_202_205 : ∀ m, 202 ≤ m → m < 205 → am_cP m := fun m h1 h2 => if h : m < 203 then cwt_202_203 m h1 h else cwt_203_205 m (by omega) h2
theorem cwt_199_205 : ∀ m, 199 ≤ m → m < 205 → am_cP m := fun m h1 h2 => if h : m < 202 then cwt_199_202 m h1 h else cwt_202_205 m (by omega) h2
theorem cwt_194_205 : ∀ m, 194 ≤ m → m < 205 → am_cP m := fun m h1 h2 => if h : m < 199 then cwt_194_199 m h1 h else cwt_199_205 m (by omega) h2
theorem cwt_184_205 : ∀ m, 184 ≤ m → m < 205 → am_cP m := fun m h1 h2 => if h : m < 194 then cwt_184_194 m h1 h else cwt_194_205 m (by omega) h2
theorem cwt_164_205 : ∀ m, 164 ≤ m → m < 205 → am_cP m := fun m h1 h2 => if h : m < 184 then cwt_164_184 m h1 h else cwt_184_205 m (by omega) h2
theorem cwt_205_206 : ∀ m, 205 ≤ m → m < 206 → am_cP m := fun m h1 h2 => (show m = 205 by omega) ▸ cw_205
theorem cwt_206_207 : ∀ m, 206 ≤ m → m < 207 → am_cP m := fun m h1 h2 => (show m = 206 by omega) ▸ cw_206
theorem cwt_205_207 : ∀ m, 205 ≤ m → m < 207 → am_cP m := fun m h1 h2 => if h : m < 206 then cwt_205_206 m h1 h else cwt_206_207 m (by omega) h2
theorem cwt_207_208 : ∀ m, 207 ≤ m → m < 208 → am_cP m := fun m h1 h2 => (show m = 207 by omega) ▸ cw_207
theorem cwt_208_209 : ∀ m, 208 ≤ m → m < 209 → am_cP m := fun m h1 h2 => (show m = 208 by omega) ▸ cw_208
theorem cwt_209_210 : ∀ m, 209 ≤ m → m < 210 → am_cP m := fun m h1 h2 => (show m = 209 by omega) ▸ cw_209
theorem cwt_208_210 : ∀ m, 208 ≤ m → m < 210 → am_cP m := fun m h1 h2 => if h : m < 209 then cwt_208_209 m h1 h else cwt_209_210 m (by omega) h2
theorem cwt_207_210 : ∀ m, 207 ≤ m → m < 210 → am_cP m := fun m h1 h2 => if h : m < 208 then cwt_207_208 m h1 h else cwt_208_210 m (by omega) h2
theorem cwt_205_210 : ∀ m, 205 ≤ m → m < 210 → am_cP m := fun m h1 h2 => if h : m < 207 then cwt_205_207 m h1 h else cwt_207_210 m (by omega) h2
theorem cwt_210_211 : ∀ m, 210 ≤ m → m < 211 → am_cP m := fun m h1 h2 => (show m = 210 by omega) ▸ cw_210
theorem cwt_211_212 : ∀ m, 211 ≤ m → m < 212 → am_cP m := fun m h1 h2 => (show m = 211 by omega) ▸ cw_211
theorem cwt_210_212 : ∀ m, 210 ≤ m → m < 212 → am_cP m := fun m h1 h2 => if h : m < 211 then cwt_210_211 m h1 h else cwt_211_212 m (by omega) h2
theorem cwt_212_213 : ∀ m, 212 ≤ m → m < 213 → am_cP m := fun m h1 h2 => (show m = 212 by omega) ▸ cw_212
theorem cwt_213_214 : ∀ m, 213 ≤ m → m < 214 → am_cP m := fun m h1 h2 => (show m = 213 by omega) ▸ cw_213
theorem cwt_214_215 : ∀ m, 214 ≤ m → m < 215 → am_cP m := fun m h1 h2 => (show m = 214 by omega) ▸ cw_214
theorem cwt_213_215 : ∀ m, 213 ≤ m → m < 215 → am_cP m := fun m h1 h2 => if h : m < 214 then cwt_213_214 m h1 h else cwt_214_215 m (by omega) h2
theorem cwt_212_215 : ∀ m, 212 ≤ m → m < 215 → am_cP m := fun m h1 h2 => if h : m < 213 then cwt_212_213 m h1 h else cwt_213_215 m (by omega) h2
theorem cwt_210_215 : ∀ m, 210 ≤ m → m < 215 → am_cP m := fun m h1 h2 => if h : m < 212 then cwt_210_212 m h1 h else cwt_212_215 m (by omega) h2
theorem cwt_205_215 : ∀ m, 205 ≤ m → m < 215 → am_cP m := fun m h1 h2 => if h : m < 210 then cwt_205_210 m h1 h else cwt_210_215 m (by omega) h2
theorem cwt_215_216 : ∀ m, 215 ≤ m → m < 216 → am_cP m := fun m h1 h2 => (show m = 215 by omega) ▸ cw_215
theorem cwt_216_217 : ∀ m, 216 ≤ m → m < 217 → am_cP m := fun m h1 h2 => (show m = 216 by omega) ▸ cw_216
theorem cwt_215_217 : ∀ m, 215 ≤ m → m < 217 → am_cP m := fun m h1 h2 => if h : m < 216 then cwt_215_216 m h1 h else cwt_216_217 m (by omega) h2
theorem cwt_217_218 : ∀ m, 217 ≤ m → m < 218 → am_cP m := fun m h1 h2 => (show m = 217 by omega) ▸ cw_217
theorem cwt_218_219 : ∀ m, 218 ≤ m → m < 219 → am_cP m := fun m h1 h2 => (show m = 218 by omega) ▸ cw_218
theorem cwt_219_220 : ∀ m, 219 ≤ m → m < 220 → am_cP m := fun m h1 h2 => (show m = 219 by omega) ▸ cw_219
theorem cwt_218_220 : ∀ m, 218 ≤ m → m < 220 → am_cP m := fun m h1 h2 => if h : m < 219 then cwt_218_219 m h1 h else cwt_219_220 m (by omega) h2
theorem cwt_217_220 : ∀ m, 217 ≤ m → m < 220 → am_cP m := fun m h1 h2 => if h : m < 218 then cwt_217_218 m h1 h else cwt_218_220 m (by omega) h2
theorem cwt_215_220 : ∀ m, 215 ≤ m → m < 220 → am_cP m := fun m h1 h2 => if h : m < 217 then cwt_215_217 m h1 h else cwt_217_220 m (by omega) h2
theorem cwt_220_221 : ∀ m, 220 ≤ m → m < 221 → am_cP m := fun m h1 h2 => (show m = 220 by omega) ▸ cw_220
theorem cwt_221_222 : ∀ m, 221 ≤ m → m < 222 → am_cP m := fun m h1 h2 => (show m = 221 by omega) ▸ cw_221
theorem cwt_220_222 : ∀ m, 220 ≤ m → m < 222 → am_cP m := fun m h1 h2 => if h : m < 221 then cwt_220_221 m h1 h else cwt_221_222 m (by omega) h2
theorem cwt_222_223 : ∀ m, 222 ≤ m → m < 223 → am_cP m := fun m h1 h2 => (show m = 222 by omega) ▸ cw_222
theorem cwt_223_224 : ∀ m, 223 ≤ m → m < 224 → am_cP m := fun m h1 h2 => (show m = 223 by omega) ▸ cw_223
theorem cwt_224_225 : ∀ m, 224 ≤ m → m < 225 → am_cP m := fun m h1 h2 => (show m = 224 by omega) ▸ cw_224
theorem cwt_223_225 : ∀ m, 223 ≤ m → m < 225 → am_cP m := fun m h1 h2 => if h : m < 224 then cwt_223_224 m h1 h else cwt_224_225 m (by omega) h2
theorem cwt_222_225 : ∀ m, 222 ≤ m → m < 225 → am_cP m := fun m h1 h2 => if h : m < 223 then cwt_222_223 m h1 h else cwt_223_225 m (by omega) h2
theorem cwt_220_225 : ∀ m, 220 ≤ m → m < 225 → am_cP m := fun m h1 h2 => if h : m < 222 then cwt_220_222 m h1 h else cwt_222_225 m (by omega) h2
theorem cwt_215_225 : ∀ m, 215 ≤ m → m < 225 → am_cP m := fun m h1 h2 => if h : m < 220 then cwt_215_220 m h1 h else cwt_220_225 m (by omega) h2
theorem cwt_205_225 : ∀ m, 205 ≤ m → m < 225 → am_cP m := fun m h1 h2 => if h : m < 215 then cwt_205_215 m h1 h else cwt_215_225 m (by omega) h2
theorem cwt_225_226 : ∀ m, 225 ≤ m → m < 226 → am_cP m := fun m h1 h2 => (show m = 225 by omega) ▸ cw_225
theorem cwt_226_227 : ∀ m, 226 ≤ m → m < 227 → am_cP m := fun m h1 h2 => (show m = 226 by omega) ▸ cw_226
theorem cwt_225_227 : ∀ m, 225 ≤ m → m < 227 → am_cP m := fun m h1 h2 => if h : m < 226 then cwt_225_226 m h1 h else cwt_226_227 m (by omega) h2
theorem cwt_227_228 : ∀ m, 227 ≤ m → m < 228 → am_cP m := fun m h1 h2 => (show m = 227 by omega) ▸ cw_227
theorem cwt_228_229 : ∀ m, 228 ≤ m → m < 229 → am_cP m := fun m h1 h2 => (show m = 228 by omega) ▸ cw_228
theorem cwt_229_230 : ∀ m, 229 ≤ m → m < 230 → am_cP m := fun m h1 h2 => (show m = 229 by omega) ▸ cw_229
theorem cwt_228_230 : ∀ m, 228 ≤ m → m < 230 → am_cP m := fun m h1 h2 => if h : m < 229 then cwt_228_229 m h1 h else cwt_229_230 m (by omega) h2
theorem cwt_227_230 : ∀ m, 227 ≤ m → m < 230 → am_cP m := fun m h1 h2 => if h : m < 228 then cwt_227_228 m h1 h else cwt_228_230 m (by omega) h2
theorem cwt_225_230 : ∀ m, 225 ≤ m → m < 230 → am_cP m := fun m h1 h2 => if h : m < 227 then cwt_225_227 m h1 h else cwt_227_230 m (by omega) h2
theorem cwt_230_231 : ∀ m, 230 ≤ m → m < 231 → am_cP m := fun m h1 h2 => (show m = 230 by omega) ▸ cw_230
theorem cwt_231_232 : ∀ m, 231 ≤ m → m < 232 → am_cP m := fun m h1 h2 => (show m = 231 by omega) ▸ cw_231
theorem cwt_230_232 : ∀ m, 230 ≤ m → m < 232 → am_cP m := fun m h1 h2 => if h : m < 231 then cwt_230_231 m h1 h else cwt_231_232 m (by omega) h2
theorem cwt_232_233 : ∀ m, 232 ≤ m → m < 233 → am_cP m := fun m h1 h2 => (show m = 232 by omega) ▸ cw_232
theorem cwt_233_234 : ∀ m, 233 ≤ m → m < 234 → am_cP m := fun m h1 h2 => (show m = 233 by omega) ▸ cw_233
theorem cwt_234_235 : ∀ m, 234 ≤ m → m < 235 → am_cP m := fun m h1 h2 => (show m = 234 by omega) ▸ cw_234
theorem cwt_233_235 : ∀ m, 233 ≤ m → m < 235 → am_cP m := fun m h1 h2 => if h : m < 234 then cwt_233_234 m h1 h else cwt_234_235 m (by omega) h2
theorem cwt_232_235 : ∀ m, 232 ≤ m → m < 235 → am_cP m := fun m h1 h2 => if h : m < 233 then cwt_232_233 m h1 h else cwt_233_235 m (by omega) h2
theorem cwt_230_235 : ∀ m, 230 ≤ m → m < 235 → am_cP m := fun m h1 h2 => if h : m < 232 then cwt_230_232 m h1 h else cwt_232_235 m (by omega) h2
theorem cwt_225_235 : ∀ m, 225 ≤ m → m < 235 → am_cP m := fun m h1 h2 => if h : m < 230 then cwt_225_230 m h1 h else cwt_230_235 m (by omega) h2
theorem cwt_235_236 : ∀ m, 235 ≤ m → m < 236 → am_cP m := fun m h1 h2 => (show m = 235 by omega) ▸ cw_235
theorem cwt_236_237 : ∀ m, 236 ≤ m → m < 237 → am_cP m := fun m h1 h2 => (show m = 236 by omega) ▸ cw_236
theorem cwt_235_237 : ∀ m, 235 ≤ m → m < 237 → am_cP m := fun m h1 h2 => if h : m < 236 then cwt_235_236 m h1 h else cwt_236_237 m (by omega) h2
theorem cwt_237_238 : ∀ m, 237 ≤ m → m < 238 → am_cP m := fun m h1 h2 => (show m = 237 by omega) ▸ cw_237
theorem cwt_238_239 : ∀ m, 238 ≤ m → m < 239 → am_cP m := fun m h1 h2 => (show m = 238 by omega) ▸ cw_238
theorem cwt_239_240 : ∀ m, 239 ≤ m → m < 240 → am_cP m := fun m h1 h2 => (show m = 239 by omega) ▸ cw_239
theorem cwt_238_240 : ∀ m, 238 ≤ m → m < 240 → am_cP m := fun m h1 h2 => if h : m < 239 then cwt_238_239 m h1 h else cwt_239_240 m (by omega) h2
theorem cwt_237_240 : ∀ m, 237 ≤ m → m < 240 → am_cP m := fun m h1 h2 => if h : m < 238 then cwt_237_238 m h1 h else cwt_238_240 m (by omega) h2
theorem cwt_235_240 : ∀ m, 235 ≤ m → m < 240 → am_cP m := fun m h1 h2 => if h : m < 237 then cwt_235_237 m h1 h else cwt_237_240 m (by omega) h2
theorem cwt_240_241 : ∀ m, 240 ≤ m → m < 241 → am_cP m := fun m h1 h2 => (show m = 240 by omega) ▸ cw_240
theorem cwt_241_242 : ∀ m, 241 ≤ m → m < 242 → am_cP m := fun m h1 h2 => (show m = 241 by omega) ▸ cw_241
theorem cwt_242_243 : ∀ m, 242 ≤ m → m < 243 → am_cP m := fun m h1 h2 => (show m = 242 by omega) ▸ cw_242
theorem cwt_241_243 : ∀ m, 241 ≤ m → m < 243 → am_cP m := fun m h1 h2 => if h : m < 242 then cwt_241_242 m h1 h else cwt_242_243 m (by omega) h2
theorem cwt_240_243 : ∀ m, 240 ≤ m → m < 243 → am_cP m := fun m h1 h2 => if h : m < 241 then cwt_240_241 m h1 h else cwt_241_243 m (by omega) h2
theorem cwt_243_244 : ∀ m, 243 ≤ m → m < 244 → am_cP m := fun m h1 h2 => (show m = 243 by omega) ▸ cw_243
theorem cwt_244_245 : ∀ m, 244 ≤ m → m < 245 → am_cP m := fun m h1 h2 => (show m = 244 by omega) ▸ cw_244
theorem cwt_245_246 : ∀ m, 245 ≤ m → m < 246 → am_cP m := fun m h1 h2 => (show m = 245 by omega) ▸ cw_245
theorem cwt_244_246 : ∀ m, 244 ≤ m → m < 246 → am_cP m := fun m h1 h2 => if h : m < 245 then cwt_244_245 m h1 h else cwt_245_246 m (by omega) h2
theorem cwt_243_246 : ∀ m, 243 ≤ m → m < 246 → am_cP m := fun m h1 h2 => if h : m < 244 then cwt_243_244 m h1 h else cwt_244_246 m (by omega) h2
theorem cwt_240_246 : ∀ m, 240 ≤ m → m < 246 → am_cP m := fun m h1 h2 => if h : m < 243 then cwt_240_243 m h1 h else cwt_243_246 m (by omega) h2
theorem cwt_235_246 : ∀ m, 235 ≤ m → m < 246 → am_cP m := fun m h1 h2 => if h : m < 240 then cwt_235_240 m h1 h else cwt_240_246 m (by omega) h2
theorem cwt_225_246 : ∀ m, 225 ≤ m → m < 246 → am_cP m := fun m h1 h2 => if h : m < 235 then cwt_225_235 m h1 h else cwt_235_246 m (by omega) h2
theorem cwt_205_246 : ∀ m, 205 ≤ m → m < 246 → am_cP m := fun m h1 h2 => if h : m < 225 then cwt_205_225 m h1 h else cwt_225_246 m (by omega) h2
theorem cwt_164_246 : ∀ m, 164 ≤ m → m < 246 → am_cP m := fun m h1 h2 => if h : m < 205 then cwt_164_205 m h1 h else cwt_205_246 m (by omega) h2
theorem cwt_246_247 : ∀ m, 246 ≤ m → m < 247 → am_cP m := fun m h1 h2 => (show m = 246 by omega) ▸ cw_246
theorem cwt_247_248 : ∀ m, 247 ≤ m → m < 248 → am_cP m := fun m h1 h2 => (show m = 247 by omega) ▸ cw_247
theorem cwt_246_248 : ∀ m, 246 ≤ m → m < 248 → am_cP m := fun m h1 h2 => if h : m < 247 then cwt_246_247 m h1 h else cwt_247_248 m (by omega) h2
theorem cwt_248_249 : ∀ m, 248 ≤ m → m < 249 → am_cP m := fun m h1 h2 => (show m = 248 by omega) ▸ cw_248
theorem cwt_249_250 : ∀ m, 249 ≤ m → m < 250 → am_cP m := fun m h1 h2 => (show m = 249 by omega) ▸ cw_249
theorem cwt_250_251 : ∀ m, 250 ≤ m → m < 251 → am_cP m := fun m h1 h2 => (show m = 250 by omega) ▸ cw_250
theorem cwt_249_251 : ∀ m, 249 ≤ m → m < 251 → am_cP m := fun m h1 h2 => if h : m < 250 then cwt_249_250 m h1 h else cwt_250_251 m (by omega) h2
theorem cwt_248_251 : ∀ m, 248 ≤ m → m < 251 → am_cP m := fun m h1 h2 => if h : m < 249 then cwt_248_249 m h1 h else cwt_249_251 m (by omega) h2
theorem cwt_246_251 : ∀ m, 246 ≤ m → m < 251 → am_cP m := fun m h1 h2 => if h : m < 248 then cwt_246_248 m h1 h else cwt_248_251 m (by omega) h2
theorem cwt_251_252 : ∀ m, 251 ≤ m → m < 252 → am_cP m := fun m h1 h2 => (show m = 251 by omega) ▸ cw_251
theorem cwt_252_253 : ∀ m, 252 ≤ m → m < 253 → am_cP m := fun m h1 h2 => (show m = 252 by omega) ▸ cw_252
theorem cwt_251_253 : ∀ m, 251 ≤ m → m < 253 → am_cP m := fun m h1 h2 => if h : m < 252 then cwt_251_252 m h1 h else cwt_252_253 m (by omega) h2
theorem cwt_253_254 : ∀ m, 253 ≤ m → m < 254 → am_cP m := fun m h1 h2 => (show m = 253 by omega) ▸ cw_253
theorem cwt_254_255 : ∀ m, 254 ≤ m → m < 255 → am_cP m := fun m h1 h2 => (show m = 254 by omega) ▸ cw_254
theorem cwt_255_256 : ∀ m, 255 ≤ m → m < 256 → am_cP m := fun m h1 h2 => (show m = 255 by omega) ▸ cw_255
theorem cwt_254_256 : ∀ m, 254 ≤ m → m < 256 → am_cP m := fun m h1 h2 => if h : m < 255 then cwt_254_255 m h1 h else cwt_255_256 m (by omega) h2
theorem cwt_253_256 : ∀ m, 253 ≤ m → m < 256 → am_cP m := fun m h1 h2 => if h : m < 254 then cwt_253_254 m h1 h else cwt_254_256 m (by omega) h2
theorem cwt_251_256 : ∀ m, 251 ≤ m → m < 256 → am_cP m := fun m h1 h2 => if h : m < 253 then cwt_251_253 m h1 h else cwt_253_256 m (by omega) h2
theorem cwt_246_256 : ∀ m, 246 ≤ m → m < 256 → am_cP m := fun m h1 h2 => if h : m < 251 then cwt_246_251 m h1 h else cwt_251_256 m (by omega) h2
theorem cwt_256_257 : ∀ m, 256 ≤ m → m < 257 → am_cP m := fun m h1 h2 => (show m = 256 by omega) ▸ cw_256
theorem cwt_257_258 : ∀ m, 257 ≤ m → m < 258 → am_cP m := fun m h1 h2 => (show m = 257 by omega) ▸ cw_257
theorem cwt_256_258 : ∀ m, 256 ≤ m → m < 258 → am_cP m := fun m h1 h2 => if h : m < 257 then cwt_256_257 m h1 h else cwt_257_258 m (by omega) h2
theorem cwt_258_259 : ∀ m, 258 ≤ m → m < 259 → am_cP m := fun m h1 h2 => (show m = 258 by omega) ▸ cw_258
theorem cwt_259_260 : ∀ m, 259 ≤ m → m < 260 → am_cP m := fun m h1 h2 => (show m = 259 by omega) ▸ cw_259
theorem cwt_260_261 : ∀ m, 260 ≤ m → m < 261 → am_cP m := fun m h1 h2 => (show m = 260 by omega) ▸ cw_260
theorem cwt_259_261 : ∀ m, 259 ≤ m → m < 261 → am_cP m := fun m h1 h2 => if h : m < 260 then cwt_259_260 m h1 h else cwt_260_261 m (by omega) h2
theorem cwt_258_261 : ∀ m, 258 ≤ m → m < 261 → am_cP m := fun m h1 h2 => if h : m < 259 then cwt_258_259 m h1 h else cwt_259_261 m (by omega) h2
theorem cwt_256_261 : ∀ m, 256 ≤ m → m < 261 → am_cP m := fun m h1 h2 => if h : m < 258 then cwt_256_258 m h1 h else cwt_258_261 m (by omega) h2
theorem cwt_261_262 : ∀ m, 261 ≤ m → m < 262 → am_cP m := fun m h1 h2 => (show m = 261 by omega) ▸ cw_261
theorem cwt_262_263 : ∀ m, 262 ≤ m → m < 263 → am_cP m := fun m h1 h2 => (show m = 262 by omega) ▸ cw_262
theorem cwt_261_263 : ∀ m, 261 ≤ m → m < 263 → am_cP m := fun m h1 h2 => if h : m < 262 then cwt_261_262 m h1 h else cwt_262_263 m (by omega) h2
theorem cwt_263_264 : ∀ m, 263 ≤ m → m < 264 → am_cP m := fun m h1 h2 => (show m = 263 by omega) ▸ cw_263
theorem cwt_264_265 : ∀ m, 264 ≤ m → m < 265 → am_cP m := fun m h1 h2 => (show m = 264 by omega) ▸ cw_264
theorem cwt_265_266 : ∀ m, 265 ≤ m → m < 266 → am_cP m := fun m h1 h2 => (show m = 265 by omega) ▸ cw_265
theorem cwt_264_266 : ∀ m, 264 ≤ m → m < 266 → am_cP m := fun m h1 h2 => if h : m < 265 then cwt_264_265 m h1 h else cwt_265_266 m (by omega) h2
theorem cwt_263_266 : ∀ m, 263 ≤ m → m < 266 → am_cP m := fun m h1 h2 => if h : m < 264 then cwt_263_264 m h1 h else cwt_264_266 m (by omega) h2
theorem cwt_261_266 : ∀ m, 261 ≤ m → m < 266 → am_cP m := fun m h1 h2 => if h : m < 263 then cwt_261_263 m h1 h else cwt_263_266 m (by omega) h2
theorem cwt_256_266 : ∀ m, 256 ≤ m → m < 266 → am_cP m := fun m h1 h2 => if h : m < 261 then cwt_256_261 m h1 h else cwt_261_266 m (by omega) h2
theorem cwt_246_266 : ∀ m, 246 ≤ m → m < 266 → am_cP m := fun m h1 h2 => if h : m < 256 then cwt_246_256 m h1 h else cwt_256_266 m (by omega) h2
theorem cwt_266_267 : ∀ m, 266 ≤ m → m < 267 → am_cP m := fun m h1 h2 => (show m = 266 by omega) ▸ cw_266
theorem cwt_267_268 : ∀ m, 267 ≤ m → m < 268 → am_cP m := fun m h1 h2 => (show m = 267 by omega) ▸ cw_267
theorem cwt_266_268 : ∀ m, 266 ≤ m → m < 268 → am_cP m := fun m h1 h2 => if h : m < 267 then cwt_266_267 m h1 h else cwt_267_268 m (by omega) h2
theorem cwt_268_269 : ∀ m, 268 ≤ m → m < 269 → am_cP m := fun m h1 h2 => (show m = 268 by omega) ▸ cw_268
theorem cwt_269_270 : ∀ m, 269 ≤ m → m < 270 → am_cP m := fun m h1 h2 => (show m = 269 by omega) ▸ cw_269
theorem cwt_270_271 : ∀ m, 270 ≤ m → m < 271 → am_cP m := fun m h1 h2 => (show m = 270 by omega) ▸ cw_270
theorem cwt_269_271 : ∀ m, 269 ≤ m → m < 271 → am_cP m := fun m h1 h2 => if h : m < 270 then cwt_269_270 m h1 h else cwt_270_271 m (by omega) h2
theorem cwt_268_271 : ∀ m, 268 ≤ m → m < 271 → am_cP m := fun m h1 h2 => if h : m < 269 then cwt_268_269 m h1 h else cwt_269_271 m (by omega) h2
theorem cwt_266_271 : ∀ m, 266 ≤ m → m < 271 → am_cP m := fun m h1 h2 => if h : m < 268 then cwt_266_268 m h1 h else cwt_268_271 m (by omega) h2
theorem cwt_271_272 : ∀ m, 271 ≤ m → m < 272 → am_cP m := fun m h1 h2 => (show m = 271 by omega) ▸ cw_271
theorem cwt_272_273 : ∀ m, 272 ≤ m → m < 273 → am_cP m := fun m h1 h2 => (show m = 272 by omega) ▸ cw_272
theorem cwt_271_273 : ∀ m, 271 ≤ m → m < 273 → am_cP m := fun m h1 h2 => if h : m < 272 then cwt_271_272 m h1 h else cwt_272_273 m (by omega) h2
theorem cwt_273_274 : ∀ m, 273 ≤ m → m < 274 → am_cP m := fun m h1 h2 => (show m = 273 by omega) ▸ cw_273
theorem cwt_274_275 : ∀ m, 274 ≤ m → m < 275 → am_cP m := fun m h1 h2 => (show m = 274 by omega) ▸ cw_274
theorem cwt_275_276 : ∀ m, 275 ≤ m → m < 276 → am_cP m := fun m h1 h2 => (show m = 275 by omega) ▸ cw_275
theorem cwt_274_276 : ∀ m, 274 ≤ m → m < 276 → am_cP m := fun m h1 h2 => if h : m < 275 then cwt_274_275 m h1 h else cwt_275_276 m (by omega) h2
theorem cwt_273_276 : ∀ m, 273 ≤ m → m < 276 → am_cP m := fun m h1 h2 => if h : m < 274 then cwt_273_274 m h1 h else cwt_274_276 m (by omega) h2
theorem cwt_271_276 : ∀ m, 271 ≤ m → m < 276 → am_cP m := fun m h1 h2 => if h : m < 273 then cwt_271_273 m h1 h else cwt_273_276 m (by omega) h2
theorem cwt_266_276 : ∀ m, 266 ≤ m → m < 276 → am_cP m := fun m h1 h2 => if h : m < 271 then cwt_266_271 m h1 h else cwt_271_276 m (by omega) h2
theorem cwt_276_277 : ∀ m, 276 ≤ m → m < 277 → am_cP m := fun m h1 h2 => (show m = 276 by omega) ▸ cw_276
theorem cwt_277_278 : ∀ m, 277 ≤ m → m < 278 → am_cP m := fun m h1 h2 => (show m = 277 by omega) ▸ cw_277
theorem cwt_276_278 : ∀ m, 276 ≤ m → m < 278 → am_cP m := fun m h1 h2 => if h : m < 277 then cwt_276_277 m h1 h else cwt_277_278 m (by omega) h2
theorem cwt_278_279 : ∀ m, 278 ≤ m → m < 279 → am_cP m := fun m h1 h2 => (show m = 278 by omega) ▸ cw_278
theorem cwt_279_280 : ∀ m, 279 ≤ m → m < 280 → am_cP m := fun m h1 h2 => (show m = 279 by omega) ▸ cw_279
theorem cwt_280_281 : ∀ m, 280 ≤ m → m < 281 → am_cP m := fun m h1 h2 => (show m = 280 by omega) ▸ cw_280
theorem cwt_279_281 : ∀ m, 279 ≤ m → m < 281 → am_cP m := fun m h1 h2 => if h : m < 280 then cwt_279_280 m h1 h else cwt_280_281 m (by omega) h2
theorem cwt_278_281 : ∀ m, 278 ≤ m → m < 281 → am_cP m := fun m h1 h2 => if h : m < 279 then cwt_278_279 m h1 h else cwt_279_281 m (by omega) h2
theorem cwt_276_281 : ∀ m, 276 ≤ m → m < 281 → am_cP m := fun m h1 h2 => if h : m < 278 then cwt_276_278 m h1 h else cwt_278_281 m (by omega) h2
theorem cwt_281_282 : ∀ m, 281 ≤ m → m < 282 → am_cP m := fun m h1 h2 => (show m = 281 by omega) ▸ cw_281
theorem cwt_282_283 : ∀ m, 282 ≤ m → m < 283 → am_cP m := fun m h1 h2 => (show m = 282 by omega) ▸ cw_282
theorem cwt_283_284 : ∀ m, 283 ≤ m → m < 284 → am_cP m := fun m h1 h2 => (show m = 283 by omega) ▸ cw_283
theorem cwt_282_284 : ∀ m, 282 ≤ m → m < 284 → am_cP m := fun m h1 h2 => if h : m < 283 then cwt_282_283 m h1 h else cwt_283_284 m (by omega) h2
theorem cwt_281_284 : ∀ m, 281 ≤ m → m < 284 → am_cP m := fun m h1 h2 => if h : m < 282 then cwt_281_282 m h1 h else cwt_282_284 m (by omega) h2
theorem cwt_284_285 : ∀ m, 284 ≤ m → m < 285 → am_cP m := fun m h1 h2 => (show m = 284 by omega) ▸ cw_284
theorem cwt_285_286 : ∀ m, 285 ≤ m → m < 286 → am_cP m := fun m h1 h2 => (show m = 285 by omega) ▸ cw_285
theorem cwt_286_287 : ∀ m, 286 ≤ m → m < 287 → am_cP m := fun m h1 h2 => (show m = 286 by omega) ▸ cw_286
theorem cwt_285_287 : ∀ m, 285 ≤ m → m < 287 → am_cP m := fun m h1 h2 => if h : m < 286 then cwt_285_286 m h1 h else cwt_286_287 m (by omega) h2
theorem cwt_284_287 : ∀ m, 284 ≤ m → m < 287 → am_cP m := fun m h1 h2 => if h : m < 285 then cwt_284_285 m h1 h else cwt_285_287 m (by omega) h2
theorem cwt_281_287 : ∀ m, 281 ≤ m → m < 287 → am_cP m := fun m h1 h2 => if h : m < 284 then cwt_281_284 m h1 h else cwt_284_287 m (by omega) h2
theorem cwt_276_287 : ∀ m, 276 ≤ m → m < 287 → am_cP m := fun m h1 h2 => if h : m < 281 then cwt_276_281 m h1 h else cwt_281_287 m (by omega) h2
theorem cwt_266_287 : ∀ m, 266 ≤ m → m < 287 → am_cP m := fun m h1 h2 => if h : m < 276 then cwt_266_276 m h1 h else cwt_276_287 m (by omega) h2
theorem cwt_246_287 : ∀ m, 246 ≤ m → m < 287 → am_cP m := fun m h1 h2 => if h : m < 266 then cwt_246_266 m h1 h else cwt_266_287 m (by omega) h2
theorem cwt_287_288 : ∀ m, 287 ≤ m → m < 288 → am_cP m := fun m h1 h2 => (show m = 287 by omega) ▸ cw_287
theorem cwt_288_289 : ∀ m, 288 ≤ m → m < 289 → am_cP m := fun m h1 h2 => (show m = 288 by omega) ▸ cw_288
theorem cwt_287_289 : ∀ m, 287 ≤ m → m < 289 → am_cP m := fun m h1 h2 => if h : m < 288 then cwt_287_288 m h1 h else cwt_288_289 m (by omega) h2
theorem cwt_289_290 : ∀ m, 289 ≤ m → m < 290 → am_cP m := fun m h1 h2 => (show m = 289 by omega) ▸ cw_289
theorem cwt_290_291 : ∀ m, 290 ≤ m → m < 291 → am_cP m := fun m h1 h2 => (show m = 290 by omega) ▸ cw_290
theorem cwt_291_292 : ∀ m, 291 ≤ m → m < 292 → am_cP m := fun m h1 h2 => (show m = 291 by omega) ▸ cw_291
theorem cwt_290_292 : ∀ m, 290 ≤ m → m < 292 → am_cP m := fun m h1 h2 => if h : m < 291 then cwt_290_291 m h1 h else cwt_291_292 m (by omega) h2
theorem cwt_289_292 : ∀ m, 289 ≤ m → m < 292 → am_cP m := fun m h1 h2 => if h : m < 290 then cwt_289_290 m h1 h else cwt_290_292 m (by omega) h2
theorem cwt_287_292 : ∀ m, 287 ≤ m → m < 292 → am_cP m := fun m h1 h2 => if h : m < 289 then cwt_287_289 m h1 h else cwt_289_292 m (by omega) h2
theorem cwt_292_293 : ∀ m, 292 ≤ m → m < 293 → am_cP m := fun m h1 h2 => (show m = 292 by omega) ▸ cw_292
theorem cwt_293_294 : ∀ m, 293 ≤ m → m < 294 → am_cP m := fun m h1 h2 => (show m = 293 by omega) ▸ cw_293
theorem cwt_292_294 : ∀ m, 292 ≤ m → m < 294 → am_cP m := fun m h1 h2 => if h : m < 293 then cwt_292_293 m h1 h else cwt_293_294 m (by omega) h2
theorem cwt_294_295 : ∀ m, 294 ≤ m → m < 295 → am_cP m := fun m h1 h2 => (show m = 294 by omega) ▸ cw_294
theorem cwt_295_296 : ∀ m, 295 ≤ m → m < 296 → am_cP m := fun m h1 h2 => (show m = 295 by omega) ▸ cw_295
theorem cwt_296_297 : ∀ m, 296 ≤ m → m < 297 → am_cP m := fun m h1 h2 => (show m = 296 by omega) ▸ cw_296
theorem cwt_295_297 : ∀ m, 295 ≤ m → m < 297 → am_cP m := fun m h1 h2 => if h : m < 296 then cwt_295_296 m h1 h else cwt_296_297 m (by omega) h2
theorem cwt_294_297 : ∀ m, 294 ≤ m → m < 297 → am_cP m := fun m h1 h2 => if h : m < 295 then cwt_294_295 m h1 h else cwt_295_297 m (by omega) h2
theorem cwt_292_297 : ∀ m, 292 ≤ m → m < 297 → am_cP m := fun m h1 h2 => if h : m < 294 then cwt_292_294 m h1 h else cwt_294_297 m (by omega) h2
theorem cwt_287_297 : ∀ m, 287 ≤ m → m < 297 → am_cP m := fun m h1 h2 => if h : m < 292 then cwt_287_292 m h1 h else cwt_292_297 m (by omega) h2
theorem cwt_297_298 : ∀ m, 297 ≤ m → m < 298 → am_cP m := fun m h1 h2 => (show m = 297 by omega) ▸ cw_297
theorem cwt_298_299 : ∀ m, 298 ≤ m → m < 299 → am_cP m := fun m h1 h2 => (show m = 298 by omega) ▸ cw_298
theorem cwt_297_299 : ∀ m, 297 ≤ m → m < 299 → am_cP m := fun m h1 h2 => if h : m < 298 then cwt_297_298 m h1 h else cwt_298_299 m (by omega) h2
theorem cwt_299_300 : ∀ m, 299 ≤ m → m < 300 → am_cP m := fun m h1 h2 => (show m = 299 by omega) ▸ cw_299
theorem cwt_300_301 : ∀ m, 300 ≤ m → m < 301 → am_cP m := fun m h1 h2 => (show m = 300 by omega) ▸ cw_300
theorem cwt_301_302 : ∀ m, 301 ≤ m → m < 302 → am_cP m := fun m h1 h2 => (show m = 301 by omega) ▸ cw_301
theorem cwt_300_302 : ∀ m, 300 ≤ m → m < 302 → am_cP m := fun m h1 h2 => if h : m < 301 then cwt_300_301 m h1 h else cwt_301_302 m (by omega) h2
theorem cwt_299_302 : ∀ m, 299 ≤ m → m < 302 → am_cP m := fun m h1 h2 => if h : m < 300 then cwt_299_300 m h1 h else cwt_300_302 m (by omega) h2
theorem cwt_297_302 : ∀ m, 297 ≤ m → m < 302 → am_cP m := fun m h1 h2 => if h : m < 299 then cwt_297_299 m h1 h else cwt_299_302 m (by omega) h2
theorem cwt_302_303 : ∀ m, 302 ≤ m → m < 303 → am_cP m := fun m h1 h2 => (show m = 302 by omega) ▸ cw_302
theorem cwt_303_304 : ∀ m, 303 ≤ m → m < 304 → am_cP m := fun m h1 h2 => (show m = 303 by omega) ▸ cw_303
theorem cwt_302_304 : ∀ m, 302 ≤ m → m < 304 → am_cP m := fun m h1 h2 => if h : m < 303 then cwt_302_303 m h1 h else cwt_303_304 m (by omega) h2
theorem cwt_304_305 : ∀ m, 304 ≤ m → m < 305 → am_cP m := fun m h1 h2 => (show m = 304 by omega) ▸ cw_304
theorem cwt_305_306 : ∀ m, 305 ≤ m → m < 306 → am_cP m := fun m h1 h2 => (show m = 305 by omega) ▸ cw_305
theorem cwt_306_307 : ∀ m, 306 ≤ m → m < 307 → am_cP m := fun m h1 h2 => (show m = 306 by omega) ▸ cw_306
theorem cwt_305_307 : ∀ m, 305 ≤ m → m < 307 → am_cP m := fun m h1 h2 => if h : m < 306 then cwt_305_306 m h1 h else cwt_306_307 m (by omega) h2
theorem cwt_304_307 : ∀ m, 304 ≤ m → m < 307 → am_cP m := fun m h1 h2 => if h : m < 305 then cwt_304_305 m h1 h else cwt_305_307 m (by omega) h2
theorem cwt_302_307 : ∀ m, 302 ≤ m → m < 307 → am_cP m := fun m h1 h2 => if h : m < 304 then cwt_302_304 m h1 h else cwt_304_307 m (by omega) h2
theorem cwt_297_307 : ∀ m, 297 ≤ m → m < 307 → am_cP m := fun m h1 h2 => if h : m < 302 then cwt_297_302 m h1 h else cwt_302_307 m (by omega) h2
theorem cwt_287_307 : ∀ m, 287 ≤ m → m < 307 → am_cP m := fun m h1 h2 => if h : m < 297 then cwt_287_297 m h1 h else cwt_297_307 m (by omega) h2
theorem cwt_307_308 : ∀ m, 307 ≤ m → m < 308 → am_cP m := fun m h1 h2 => (show m = 307 by omega) ▸ cw_307
theorem cwt_308_309 : ∀ m, 308 ≤ m → m < 309 → am_cP m := fun m h1 h2 => (show m = 308 by omega) ▸ cw_308
theorem cwt_307_309 : ∀ m, 307 ≤ m → m < 309 → am_cP m := fun m h1 h2 => if h : m < 308 then cwt_307_308 m h1 h else cwt_308_309 m (by omega) h2
theorem cwt_309_310 : ∀ m, 309 ≤ m → m < 310 → am_cP m := fun m h1 h2 => (show m = 309 by omega) ▸ cw_309
theorem cwt_310_311 : ∀ m, 310 ≤ m → m < 311 → am_cP m := fun m h1 h2 => (show m = 310 by omega) ▸ cw_310
theorem cwt_311_312 : ∀ m, 311 ≤ m → m < 312 → am_cP m := fun m h1 h2 => (show m = 311 by omega) ▸ cw_311
theorem cwt_310_312 : ∀ m, 310 ≤ m → m < 312 → am_cP m := fun m h1 h2 => if h : m < 311 then cwt_310_311 m h1 h else cwt_311_312 m (by omega) h2
theorem cwt_309_312 : ∀ m, 309 ≤ m → m < 312 → am_cP m := fun m h1 h2 => if h : m < 310 then cwt_309_310 m h1 h else cwt_310_312 m (by omega) h2
theorem cwt_307_312 : ∀ m, 307 ≤ m → m < 312 → am_cP m := fun m h1 h2 => if h : m < 309 then cwt_307_309 m h1 h else cwt_309_312 m (by omega) h2
theorem cwt_312_313 : ∀ m, 312 ≤ m → m < 313 → am_cP m := fun m h1 h2 => (show m = 312 by omega) ▸ cw_312
theorem cwt_313_314 : ∀ m, 313 ≤ m → m < 314 → am_cP m := fun m h1 h2 => (show m = 313 by omega) ▸ cw_313
theorem cwt_312_314 : ∀ m, 312 ≤ m → m < 314 → am_cP m := fun m h1 h2 => if h : m < 313 then cwt_312_313 m h1 h else cwt_313_314 m (by omega) h2
theorem cwt_314_315 : ∀ m, 314 ≤ m → m < 315 → am_cP m := fun m h1 h2 => (show m = 314 by omega) ▸ cw_314
theorem cwt_315_316 : ∀ m, 315 ≤ m → m < 316 → am_cP m := fun m h1 h2 => (show m = 315 by omega) ▸ cw_315
theorem cwt_316_317 : ∀ m, 316 ≤ m → m < 317 → am_cP m := fun m h1 h2 => (show m = 316 by omega) ▸ cw_316
theorem cwt_315_317 : ∀ m, 315 ≤ m → m < 317 → am_cP m := fun m h1 h2 => if h : m < 316 then cwt_315_316 m h1 h else cwt_316_317 m (by omega) h2
theorem cwt_314_317 : ∀ m, 314 ≤ m → m < 317 → am_cP m := fun m h1 h2 => if h : m < 315 then cwt_314_315 m h1 h else cwt_315_317 m (by omega) h2
theorem cwt_312_317 : ∀ m, 312 ≤ m → m < 317 → am_cP m := fun m h1 h2 => if h : m < 314 then cwt_312_314 m h1 h else cwt_314_317 m (by omega) h2
theorem cwt_307_317 : ∀ m, 307 ≤ m → m < 317 → am_cP m := fun m h1 h2 => if h : m < 312 then cwt_307_312 m h1 h else cwt_312_317 m (by omega) h2
theorem cwt_317_318 : ∀ m, 317 ≤ m → m < 318 → am_cP m := fun m h1 h2 => (show m = 317 by omega) ▸ cw_317
theorem cwt_318_319 : ∀ m, 318 ≤ m → m < 319 → am_cP m := fun m h1 h2 => (show m = 318 by omega) ▸ cw_318
theorem cwt_317_319 : ∀ m, 317 ≤ m → m < 319 → am_cP m := fun m h1 h2 => if h : m < 318 then cwt_317_318 m h1 h else cwt_318_319 m (by omega) h2
theorem cwt_319_320 : ∀ m, 319 ≤ m → m < 320 → am_cP m := fun m h1 h2 => (show m = 319 by omega) ▸ cw_319
theorem cwt_320_321 : ∀ m, 320 ≤ m → m < 321 → am_cP m := fun m h1 h2 => (show m = 320 by omega) ▸ cw_320
theorem cwt_321_322 : ∀ m, 321 ≤ m → m < 322 → am_cP m := fun m h1 h2 => (show m = 321 by omega) ▸ cw_321
theorem cwt_320_322 : ∀ m, 320 ≤ m → m < 322 → am_cP m := fun m h1 h2 => if h : m < 321 then cwt_320_321 m h1 h else cwt_321_322 m (by omega) h2
theorem cwt_319_322 : ∀ m, 319 ≤ m → m < 322 → am_cP m := fun m h1 h2 => if h : m < 320 then cwt_319_320 m h1 h else cwt_320_322 m (by omega) h2
theorem cwt_317_322 : ∀ m, 317 ≤ m → m < 322 → am_cP m := fun m h1 h2 => if h : m < 319 then cwt_317_319 m h1 h else cwt_319_322 m (by omega) h2
theorem cwt_322_323 : ∀ m, 322 ≤ m → m < 323 → am_cP m := fun m h1 h2 => (show m = 322 by omega) ▸ cw_322
theorem cwt_323_324 : ∀ m, 323 ≤ m → m < 324 → am_cP m := fun m h1 h2 => (show m = 323 by omega) ▸ cw_323
theorem cwt_324_325 : ∀ m, 324 ≤ m → m < 325 → am_cP m := fun m h1 h2 => (show m = 324 by omega) ▸ cw_324
theorem cwt_323_325 : ∀ m, 323 ≤ m → m < 325 → am_cP m := fun m h1 h2 => if h : m < 324 then cwt_323_324 m h1 h else cwt_324_325 m (by omega) h2
theorem cwt_322_325 : ∀ m, 322 ≤ m → m < 325 → am_cP m := fun m h1 h2 => if h : m < 323 then cwt_322_323 m h1 h else cwt_323_325 m (by omega) h2
theorem cwt_325_326 : ∀ m, 325 ≤ m → m < 326 → am_cP m := fun m h1 h2 => (show m = 325 by omega) ▸ cw_325
theorem cwt_326_327 : ∀ m, 326 ≤ m → m < 327 → am_cP m := fun m h1 h2 => (show m = 326 by omega) ▸ cw_326
theorem cwt_327_328 : ∀ m, 327 ≤ m → m < 328 → am_cP m := fun m h1 h2 => (show m = 327 by omega) ▸ cw_327
theorem cwt_326_328 : ∀ m, 326 ≤ m → m < 328 → am_cP m := fun m h1 h2 => if h : m < 327 then cwt_326_327 m h1 h else cwt_327_328 m (by omega) h2
theorem cwt_325_328 : ∀ m, 325 ≤ m → m < 328 → am_cP m := fun m h1 h2 => if h : m < 326 then cwt_325_326 m h1 h else cwt_326_328 m (by omega) h2
theorem cwt_322_328 : ∀ m, 322 ≤ m → m < 328 → am_cP m := fun m h1 h2 => if h : m < 325 then cwt_322_325 m h1 h else cwt_325_328 m (by omega) h2
theorem cwt_317_328 : ∀ m, 317 ≤ m → m < 328 → am_cP m := fun m h1 h2 => if h : m < 322 then cwt_317_322 m h1 h else cwt_322_328 m (by omega) h2
theorem cwt_307_328 : ∀ m, 307 ≤ m → m < 328 → am_cP m := fun m h1 h2 => if h : m < 317 then cwt_307_317 m h1 h else cwt_317_328 m (by omega) h2
theorem cwt_287_328 : ∀ m, 287 ≤ m → m < 328 → am_cP m := fun m h1 h2 => if h : m < 307 then cwt_287_307 m h1 h else cwt_307_328 m (by omega) h2
theorem cwt_246_328 : ∀ m, 246 ≤ m → m < 328 → am_cP m := fun m h1 h2 => if h : m < 287 then cwt_246_287 m h1 h else cwt_287_328 m (by omega) h2
theorem cwt_164_328 : ∀ m, 164 ≤ m → m < 328 → am_cP m := fun m h1 h2 => if h : m < 246 then cwt_164_246 m h1 h else cwt_246_328 m (by omega) h2
theorem cwt_1_328 : ∀ m, 1 ≤ m → m < 328 → am_cP m := fun m h1 h2 => if h : m < 164 then cwt_1_164 m h1 h else cwt_164_328 m (by omega) h2
