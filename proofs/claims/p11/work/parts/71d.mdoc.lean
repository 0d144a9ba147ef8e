theorem dX14_release_0 : decode cX14_release 0 = .ok (.aload_n 0, 1) := by decide +kernel
theorem dX14_release_1 : decode cX14_release 1 = .ok (.iconst 0, 1) := by decide +kernel
theorem dX14_release_2 : decode cX14_release 2 = .ok (.putfield 374, 3) := by decide +kernel
theorem dX14_release_5 : decode cX14_release 5 = .ok (.aload_n 0, 1) := by decide +kernel
theorem dX14_release_6 : decode cX14_release 6 = .ok (.aload_n 0, 1) := by decide +kernel
theorem dX14_release_7 : decode cX14_release 7 = .ok (.getfield 100, 3) := by decide +kernel
theorem dX14_release_10 : decode cX14_release 10 = .ok (.iload_n 1, 1) := by decide +kernel
theorem dX14_release_11 : decode cX14_release 11 = .ok (.baload, 1) := by decide +kernel
theorem dX14_release_12 : decode cX14_release 12 = .ok (.putfield 377, 3) := by decide +kernel
theorem dX14_release_15 : decode cX14_release 15 = .ok (.aload_n 0, 1) := by decide +kernel
theorem dX14_release_16 : decode cX14_release 16 = .ok (.aload_n 0, 1) := by decide +kernel
theorem dX14_release_17 : decode cX14_release 17 = .ok (.getfield 103, 3) := by decide +kernel
theorem dX14_release_20 : decode cX14_release 20 = .ok (.iload_n 1, 1) := by decide +kernel
theorem dX14_release_21 : decode cX14_release 21 = .ok (.iaload, 1) := by decide +kernel
theorem dX14_release_22 : decode cX14_release 22 = .ok (.putfield 380, 3) := by decide +kernel
theorem dX14_release_25 : decode cX14_release 25 = .ok (.aload_n 0, 1) := by decide +kernel
theorem dX14_release_26 : decode cX14_release 26 = .ok (.aload_n 0, 1) := by decide +kernel
theorem dX14_release_27 : decode cX14_release 27 = .ok (.getfield 109, 3) := by decide +kernel
theorem dX14_release_30 : decode cX14_release 30 = .ok (.iload_n 1, 1) := by decide +kernel
theorem dX14_release_31 : decode cX14_release 31 = .ok (.iaload, 1) := by decide +kernel
theorem dX14_release_32 : decode cX14_release 32 = .ok (.putfield 383, 3) := by decide +kernel
theorem dX14_release_35 : decode cX14_release 35 = .ok (.iconst 0, 1) := by decide +kernel
theorem dX14_release_36 : decode cX14_release 36 = .ok (.istore_n 2, 1) := by decide +kernel
theorem dX14_release_37 : decode cX14_release 37 = .ok (.iload_n 2, 1) := by decide +kernel
theorem dX14_release_38 : decode cX14_release 38 = .ok (.aload_n 0, 1) := by decide +kernel
theorem dX14_release_39 : decode cX14_release 39 = .ok (.getfield 383, 3) := by decide +kernel
theorem dX14_release_42 : decode cX14_release 42 = .ok (.if_icmp .ge 26, 3) := by decide +kernel
theorem dX14_release_45 : decode cX14_release 45 = .ok (.aload_n 0, 1) := by decide +kernel
theorem dX14_release_46 : decode cX14_release 46 = .ok (.getfield 68, 3) := by decide +kernel
theorem dX14_release_49 : decode cX14_release 49 = .ok (.iload_n 2, 1) := by decide +kernel
theorem dX14_release_50 : decode cX14_release 50 = .ok (.aload_n 0, 1) := by decide +kernel
theorem dX14_release_51 : decode cX14_release 51 = .ok (.getfield 106, 3) := by decide +kernel
theorem dX14_release_54 : decode cX14_release 54 = .ok (.bipush 20, 2) := by decide +kernel
theorem dX14_release_56 : decode cX14_release 56 = .ok (.iload_n 1, 1) := by decide +kernel
theorem dX14_release_57 : decode cX14_release 57 = .ok (.imul, 1) := by decide +kernel
theorem dX14_release_58 : decode cX14_release 58 = .ok (.iload_n 2, 1) := by decide +kernel
theorem dX14_release_59 : decode cX14_release 59 = .ok (.iadd, 1) := by decide +kernel
theorem dX14_release_60 : decode cX14_release 60 = .ok (.iaload, 1) := by decide +kernel
theorem dX14_release_61 : decode cX14_release 61 = .ok (.iastore, 1) := by decide +kernel
theorem dX14_release_62 : decode cX14_release 62 = .ok (.iinc 2 1, 3) := by decide +kernel
theorem dX14_release_65 : decode cX14_release 65 = .ok (.goto (-28), 3) := by decide +kernel
theorem dX14_release_68 : decode cX14_release 68 = .ok (.iload_n 1, 1) := by decide +kernel
theorem dX14_release_69 : decode cX14_release 69 = .ok (.istore_n 2, 1) := by decide +kernel
theorem dX14_release_70 : decode cX14_release 70 = .ok (.iload_n 2, 1) := by decide +kernel
theorem dX14_release_71 : decode cX14_release 71 = .ok (.iconst 1, 1) := by decide +kernel
theorem dX14_release_72 : decode cX14_release 72 = .ok (.iadd, 1) := by decide +kernel
theorem dX14_release_73 : decode cX14_release 73 = .ok (.aload_n 0, 1) := by decide +kernel
theorem dX14_release_74 : decode cX14_release 74 = .ok (.getfield 711, 3) := by decide +kernel
theorem dX14_release_77 : decode cX14_release 77 = .ok (.if_icmp .ge 192, 3) := by decide +kernel
theorem dX14_release_80 : decode cX14_release 80 = .ok (.aload_n 0, 1) := by decide +kernel
theorem dX14_release_81 : decode cX14_release 81 = .ok (.getfield 91, 3) := by decide +kernel
theorem dX14_release_84 : decode cX14_release 84 = .ok (.iload_n 2, 1) := by decide +kernel
theorem dX14_release_85 : decode cX14_release 85 = .ok (.aload_n 0, 1) := by decide +kernel
theorem dX14_release_86 : decode cX14_release 86 = .ok (.getfield 91, 3) := by decide +kernel
theorem dX14_release_89 : decode cX14_release 89 = .ok (.iload_n 2, 1) := by decide +kernel
theorem dX14_release_90 : decode cX14_release 90 = .ok (.iconst 1, 1) := by decide +kernel
theorem dX14_release_91 : decode cX14_release 91 = .ok (.iadd, 1) := by decide +kernel
theorem dX14_release_92 : decode cX14_release 92 = .ok (.aaload, 1) := by decide +kernel
theorem dX14_release_93 : decode cX14_release 93 = .ok (.aastore, 1) := by decide +kernel
theorem dX14_release_94 : decode cX14_release 94 = .ok (.aload_n 0, 1) := by decide +kernel
theorem dX14_release_95 : decode cX14_release 95 = .ok (.getfield 94, 3) := by decide +kernel
theorem dX14_release_98 : decode cX14_release 98 = .ok (.iload_n 2, 1) := by decide +kernel
theorem dX14_release_99 : decode cX14_release 99 = .ok (.aload_n 0, 1) := by decide +kernel
theorem dX14_release_100 : decode cX14_release 100 = .ok (.getfield 94, 3) := by decide +kernel
theorem dX14_release_103 : decode cX14_release 103 = .ok (.iload_n 2, 1) := by decide +kernel
theorem dX14_release_104 : decode cX14_release 104 = .ok (.iconst 1, 1) := by decide +kernel
theorem dX14_release_105 : decode cX14_release 105 = .ok (.iadd, 1) := by decide +kernel
theorem dX14_release_106 : decode cX14_release 106 = .ok (.baload, 1) := by decide +kernel
theorem dX14_release_107 : decode cX14_release 107 = .ok (.bastore, 1) := by decide +kernel
theorem dX14_release_108 : decode cX14_release 108 = .ok (.aload_n 0, 1) := by decide +kernel
theorem dX14_release_109 : decode cX14_release 109 = .ok (.getfield 97, 3) := by decide +kernel
theorem dX14_release_112 : decode cX14_release 112 = .ok (.iload_n 2, 1) := by decide +kernel
theorem dX14_release_113 : decode cX14_release 113 = .ok (.aload_n 0, 1) := by decide +kernel
theorem dX14_release_114 : decode cX14_release 114 = .ok (.getfield 97, 3) := by decide +kernel
theorem dX14_release_117 : decode cX14_release 117 = .ok (.iload_n 2, 1) := by decide +kernel
theorem dX14_release_118 : decode cX14_release 118 = .ok (.iconst 1, 1) := by decide +kernel
theorem dX14_release_119 : decode cX14_release 119 = .ok (.iadd, 1) := by decide +kernel
theorem dX14_release_120 : decode cX14_release 120 = .ok (.iaload, 1) := by decide +kernel
theorem dX14_release_121 : decode cX14_release 121 = .ok (.iastore, 1) := by decide +kernel
theorem dX14_release_122 : decode cX14_release 122 = .ok (.aload_n 0, 1) := by decide +kernel
theorem dX14_release_123 : decode cX14_release 123 = .ok (.getfield 100, 3) := by decide +kernel
theorem dX14_release_126 : decode cX14_release 126 = .ok (.iload_n 2, 1) := by decide +kernel
theorem dX14_release_127 : decode cX14_release 127 = .ok (.aload_n 0, 1) := by decide +kernel
theorem dX14_release_128 : decode cX14_release 128 = .ok (.getfield 100, 3) := by decide +kernel
theorem dX14_release_131 : decode cX14_release 131 = .ok (.iload_n 2, 1) := by decide +kernel
theorem dX14_release_132 : decode cX14_release 132 = .ok (.iconst 1, 1) := by decide +kernel
theorem dX14_release_133 : decode cX14_release 133 = .ok (.iadd, 1) := by decide +kernel
theorem dX14_release_134 : decode cX14_release 134 = .ok (.baload, 1) := by decide +kernel
theorem dX14_release_135 : decode cX14_release 135 = .ok (.bastore, 1) := by decide +kernel
theorem dX14_release_136 : decode cX14_release 136 = .ok (.aload_n 0, 1) := by decide +kernel
theorem dX14_release_137 : decode cX14_release 137 = .ok (.getfield 103, 3) := by decide +kernel
theorem dX14_release_140 : decode cX14_release 140 = .ok (.iload_n 2, 1) := by decide +kernel
theorem dX14_release_141 : decode cX14_release 141 = .ok (.aload_n 0, 1) := by decide +kernel
theorem dX14_release_142 : decode cX14_release 142 = .ok (.getfield 103, 3) := by decide +kernel
theorem dX14_release_145 : decode cX14_release 145 = .ok (.iload_n 2, 1) := by decide +kernel
theorem dX14_release_146 : decode cX14_release 146 = .ok (.iconst 1, 1) := by decide +kernel
theorem dX14_release_147 : decode cX14_release 147 = .ok (.iadd, 1) := by decide +kernel
theorem dX14_release_148 : decode cX14_release 148 = .ok (.iaload, 1) := by decide +kernel
theorem dX14_release_149 : decode cX14_release 149 = .ok (.iastore, 1) := by decide +kernel
theorem dX14_release_150 : decode cX14_release 150 = .ok (.aload_n 0, 1) := by decide +kernel
theorem dX14_release_151 : decode cX14_release 151 = .ok (.getfield 109, 3) := by decide +kernel
theorem dX14_release_154 : decode cX14_release 154 = .ok (.iload_n 2, 1) := by decide +kernel
theorem dX14_release_155 : decode cX14_release 155 = .ok (.aload_n 0, 1) := by decide +kernel
theorem dX14_release_156 : decode cX14_release 156 = .ok (.getfield 109, 3) := by decide +kernel
theorem dX14_release_159 : decode cX14_release 159 = .ok (.iload_n 2, 1) := by decide +kernel
theorem dX14_release_160 : decode cX14_release 160 = .ok (.iconst 1, 1) := by decide +kernel
theorem dX14_release_161 : decode cX14_release 161 = .ok (.iadd, 1) := by decide +kernel
theorem dX14_release_162 : decode cX14_release 162 = .ok (.iaload, 1) := by decide +kernel
theorem dX14_release_163 : decode cX14_release 163 = .ok (.iastore, 1) := by decide +kernel
theorem dX14_release_164 : decode cX14_release 164 = .ok (.aload_n 0, 1) := by decide +kernel
theorem dX14_release_165 : decode cX14_release 165 = .ok (.getfield 116, 3) := by decide +kernel
theorem dX14_release_168 : decode cX14_release 168 = .ok (.iload_n 2, 1) := by decide +kernel
theorem dX14_release_169 : decode cX14_release 169 = .ok (.aload_n 0, 1) := by decide +kernel
theorem dX14_release_170 : decode cX14_release 170 = .ok (.getfield 116, 3) := by decide +kernel
theorem dX14_release_173 : decode cX14_release 173 = .ok (.iload_n 2, 1) := by decide +kernel
theorem dX14_release_174 : decode cX14_release 174 = .ok (.iconst 1, 1) := by decide +kernel
theorem dX14_release_175 : decode cX14_release 175 = .ok (.iadd, 1) := by decide +kernel
theorem dX14_release_176 : decode cX14_release 176 = .ok (.iaload, 1) := by decide +kernel
theorem dX14_release_177 : decode cX14_release 177 = .ok (.iastore, 1) := by decide +kernel
theorem dX14_release_178 : decode cX14_release 178 = .ok (.iconst 0, 1) := by decide +kernel
theorem dX14_release_179 : decode cX14_release 179 = .ok (.istore_n 3, 1) := by decide +kernel
theorem dX14_release_180 : decode cX14_release 180 = .ok (.iload_n 3, 1) := by decide +kernel
theorem dX14_release_181 : decode cX14_release 181 = .ok (.bipush 20, 2) := by decide +kernel
theorem dX14_release_183 : decode cX14_release 183 = .ok (.if_icmp .ge 34, 3) := by decide +kernel
theorem dX14_release_186 : decode cX14_release 186 = .ok (.aload_n 0, 1) := by decide +kernel
theorem dX14_release_187 : decode cX14_release 187 = .ok (.getfield 106, 3) := by decide +kernel
theorem dX14_release_190 : decode cX14_release 190 = .ok (.bipush 20, 2) := by decide +kernel
theorem dX14_release_192 : decode cX14_release 192 = .ok (.iload_n 2, 1) := by decide +kernel
theorem dX14_release_193 : decode cX14_release 193 = .ok (.imul, 1) := by decide +kernel
theorem dX14_release_194 : decode cX14_release 194 = .ok (.iload_n 3, 1) := by decide +kernel
theorem dX14_release_195 : decode cX14_release 195 = .ok (.iadd, 1) := by decide +kernel
theorem dX14_release_196 : decode cX14_release 196 = .ok (.aload_n 0, 1) := by decide +kernel
theorem dX14_release_197 : decode cX14_release 197 = .ok (.getfield 106, 3) := by decide +kernel
theorem dX14_release_200 : decode cX14_release 200 = .ok (.bipush 20, 2) := by decide +kernel
theorem dX14_release_202 : decode cX14_release 202 = .ok (.iload_n 2, 1) := by decide +kernel
theorem dX14_release_203 : decode cX14_release 203 = .ok (.imul, 1) := by decide +kernel
theorem dX14_release_204 : decode cX14_release 204 = .ok (.bipush 20, 2) := by decide +kernel
theorem dX14_release_206 : decode cX14_release 206 = .ok (.iadd, 1) := by decide +kernel
theorem dX14_release_207 : decode cX14_release 207 = .ok (.iload_n 3, 1) := by decide +kernel
theorem dX14_release_208 : decode cX14_release 208 = .ok (.iadd, 1) := by decide +kernel
theorem dX14_release_209 : decode cX14_release 209 = .ok (.iaload, 1) := by decide +kernel
theorem dX14_release_210 : decode cX14_release 210 = .ok (.iastore, 1) := by decide +kernel
theorem dX14_release_211 : decode cX14_release 211 = .ok (.iinc 3 1, 3) := by decide +kernel
theorem dX14_release_214 : decode cX14_release 214 = .ok (.goto (-34), 3) := by decide +kernel
theorem dX14_release_217 : decode cX14_release 217 = .ok (.iconst 0, 1) := by decide +kernel
theorem dX14_release_218 : decode cX14_release 218 = .ok (.istore_n 3, 1) := by decide +kernel
theorem dX14_release_219 : decode cX14_release 219 = .ok (.iload_n 3, 1) := by decide +kernel
theorem dX14_release_220 : decode cX14_release 220 = .ok (.aload_n 0, 1) := by decide +kernel
theorem dX14_release_221 : decode cX14_release 221 = .ok (.getfield 116, 3) := by decide +kernel
theorem dX14_release_224 : decode cX14_release 224 = .ok (.iload_n 2, 1) := by decide +kernel
theorem dX14_release_225 : decode cX14_release 225 = .ok (.iaload, 1) := by decide +kernel
theorem dX14_release_226 : decode cX14_release 226 = .ok (.if_icmp .ge 37, 3) := by decide +kernel
theorem dX14_release_229 : decode cX14_release 229 = .ok (.aload_n 0, 1) := by decide +kernel
theorem dX14_release_230 : decode cX14_release 230 = .ok (.getfield 113, 3) := by decide +kernel
theorem dX14_release_233 : decode cX14_release 233 = .ok (.sipush 3100, 3) := by decide +kernel
theorem dX14_release_236 : decode cX14_release 236 = .ok (.iload_n 2, 1) := by decide +kernel
theorem dX14_release_237 : decode cX14_release 237 = .ok (.imul, 1) := by decide +kernel
theorem dX14_release_238 : decode cX14_release 238 = .ok (.iload_n 3, 1) := by decide +kernel
theorem dX14_release_239 : decode cX14_release 239 = .ok (.iadd, 1) := by decide +kernel
theorem dX14_release_240 : decode cX14_release 240 = .ok (.aload_n 0, 1) := by decide +kernel
theorem dX14_release_241 : decode cX14_release 241 = .ok (.getfield 113, 3) := by decide +kernel
theorem dX14_release_244 : decode cX14_release 244 = .ok (.sipush 3100, 3) := by decide +kernel
theorem dX14_release_247 : decode cX14_release 247 = .ok (.iload_n 2, 1) := by decide +kernel
theorem dX14_release_248 : decode cX14_release 248 = .ok (.imul, 1) := by decide +kernel
theorem dX14_release_249 : decode cX14_release 249 = .ok (.sipush 3100, 3) := by decide +kernel
theorem dX14_release_252 : decode cX14_release 252 = .ok (.iadd, 1) := by decide +kernel
theorem dX14_release_253 : decode cX14_release 253 = .ok (.iload_n 3, 1) := by decide +kernel
theorem dX14_release_254 : decode cX14_release 254 = .ok (.iadd, 1) := by decide +kernel
theorem dX14_release_255 : decode cX14_release 255 = .ok (.iaload, 1) := by decide +kernel
theorem dX14_release_256 : decode cX14_release 256 = .ok (.iastore, 1) := by decide +kernel
theorem dX14_release_257 : decode cX14_release 257 = .ok (.iinc 3 1, 3) := by decide +kernel
theorem dX14_release_260 : decode cX14_release 260 = .ok (.goto (-41), 3) := by decide +kernel
theorem dX14_release_263 : decode cX14_release 263 = .ok (.iinc 2 1, 3) := by decide +kernel
theorem dX14_release_266 : decode cX14_release 266 = .ok (.goto (-196), 3) := by decide +kernel
theorem dX14_release_269 : decode cX14_release 269 = .ok (.aload_n 0, 1) := by decide +kernel
theorem dX14_release_270 : decode cX14_release 270 = .ok (.dup, 1) := by decide +kernel
theorem dX14_release_271 : decode cX14_release 271 = .ok (.getfield 711, 3) := by decide +kernel
theorem dX14_release_274 : decode cX14_release 274 = .ok (.iconst 1, 1) := by decide +kernel
theorem dX14_release_275 : decode cX14_release 275 = .ok (.isub, 1) := by decide +kernel
theorem dX14_release_276 : decode cX14_release 276 = .ok (.putfield 711, 3) := by decide +kernel
theorem dX14_release_279 : decode cX14_release 279 = .ok (.return_, 1) := by decide +kernel
theorem dX14_modified_0 : decode cX14_modified 0 = .ok (.iconst 0, 1) := by decide +kernel
theorem dX14_modified_1 : decode cX14_modified 1 = .ok (.istore_n 2, 1) := by decide +kernel
theorem dX14_modified_2 : decode cX14_modified 2 = .ok (.iload_n 2, 1) := by decide +kernel
theorem dX14_modified_3 : decode cX14_modified 3 = .ok (.aload_n 0, 1) := by decide +kernel
theorem dX14_modified_4 : decode cX14_modified 4 = .ok (.getfield 711, 3) := by decide +kernel
theorem dX14_modified_7 : decode cX14_modified 7 = .ok (.if_icmp .ge 34, 3) := by decide +kernel
theorem dX14_modified_10 : decode cX14_modified 10 = .ok (.aload_n 0, 1) := by decide +kernel
theorem dX14_modified_11 : decode cX14_modified 11 = .ok (.getfield 91, 3) := by decide +kernel
theorem dX14_modified_14 : decode cX14_modified 14 = .ok (.iload_n 2, 1) := by decide +kernel
theorem dX14_modified_15 : decode cX14_modified 15 = .ok (.aaload, 1) := by decide +kernel
theorem dX14_modified_16 : decode cX14_modified 16 = .ok (.aload_n 1, 1) := by decide +kernel
theorem dX14_modified_17 : decode cX14_modified 17 = .ok (.if_acmp .ne 18, 3) := by decide +kernel
theorem dX14_modified_20 : decode cX14_modified 20 = .ok (.aload_n 0, 1) := by decide +kernel
theorem dX14_modified_21 : decode cX14_modified 21 = .ok (.iload_n 2, 1) := by decide +kernel
theorem dX14_modified_22 : decode cX14_modified 22 = .ok (.invokevirtual 718, 3) := by decide +kernel
theorem dX14_modified_25 : decode cX14_modified 25 = .ok (.aload_n 0, 1) := by decide +kernel
theorem dX14_modified_26 : decode cX14_modified 26 = .ok (.ldc_w 721, 3) := by decide +kernel
theorem dX14_modified_29 : decode cX14_modified 29 = .ok (.invokevirtual 425, 3) := by decide +kernel
theorem dX14_modified_32 : decode cX14_modified 32 = .ok (.goto (-30), 3) := by decide +kernel
theorem dX14_modified_35 : decode cX14_modified 35 = .ok (.iinc 2 1, 3) := by decide +kernel
theorem dX14_modified_38 : decode cX14_modified 38 = .ok (.goto (-36), 3) := by decide +kernel
theorem dX14_modified_41 : decode cX14_modified 41 = .ok (.return_, 1) := by decide +kernel
def EX14_release : List (Nat × Nat) := [(16, 36), (16, 37), (16, 39), (16, 40), (16, 48), (101, 0), (103, 0), (202, 0), (203, 0), (204, 0), (206, 0)]
def EX14_modified : List (Nat × Nat) := [(16, 3), (16, 4), (16, 6), (16, 36), (16, 37), (16, 39), (16, 40), (16, 48), (101, 0), (103, 0), (202, 0), (203, 0), (204, 0), (206, 0)]
set_option maxHeartbeats 4000000 in
set_option maxRecDepth 20000 in
theorem uX14_release (l : Launch) (dC : Nat → ClassId) (dI : Nat → Nat → Nat) (ca : Nat → ClassId) (base : Nat) (B : jF) (hB : jBok B) (hAp : jAp (dC, dI)) (hB14 : ∀ n G a H, B 14 n G a H ↔ jOb (dC, dI) 14 11 (F14 n G) a H) (hB16 : ∀ n G a H, B 16 n G a H ↔ jOb (dC, dI) 16 74 (F16 n G) a H) (hB101 : ∀ n G a H, B 101 n G a H ↔ jAr (dC, dI) (ca 1) (fun j z => True) n a H) (hB103 : ∀ n G a H, B 103 n G a H ↔ jAr (dC, dI) (ca 3) (fun j z => (z = 0 ∨ z = 1)) n a H) (hB202 : ∀ n G a H, B 202 n G a H ↔ jAq (dC, dI) (ca 4) (jQn 14 0) n G a H) (hB203 : ∀ n G a H, B 203 n G a H ↔ jAr (dC, dI) (ca 1) (fun j z => -3300 ≤ z.toInt ∧ z.toInt ≤ 20) n a H) (hB204 : ∀ n G a H, B 204 n G a H ↔ jAr (dC, dI) (ca 1) (fun j z => -3100 ≤ z.toInt ∧ z.toInt ≤ 3100) n a H) (hB206 : ∀ n G a H, B 206 n G a H ↔ jAr (dC, dI) (ca 1) (fun j z => 0 ≤ z.toInt ∧ z.toInt ≤ 40) n a H) (G0 : jT) (H0 : Heap) (r0 : Nat) (a1 : Int32) (pw : Int32) : Met l yX14_release (jw yX14_release cX14_release 4 none) ({ frames := 0, cells := 0, slots := 0, locals := 0 }) (va_Pc [.ref r0, .int a1] (fun U => U.heap = H0 ∧ jX B base G0 [] H0 ∧ jG dC dI ca base U ∧ jK2 dC dI ca U ∧ G0 r0 = some (16, 0) ∧ jP (dC, dI) G0 H0 [(r0, 16, 48, .int pw)] ∧ 0 ≤ a1.toInt ∧ a1.toInt < pw.toInt ∧ pw.toInt ≤ 12)) (va_Qv (S := Int32) (fun u => u.toInt = pw.toInt - 1) (fun u t => jRt (dC, dI) B base G0 EX14_release H0 [(r0, 16, 48, .int u)] t.heap) (jA base)) 0 0 (jA base) := by
  refine Met.ofW (cc := cX14_release) (maxL := 4) (ret := none) (by decide) rfl ?_
  intro p e s m args below meth c s₁ Bd hml hv
  obtain ⟨rfl, hH0, hX, hG, hK2, hg_r0, hP0, hp0, hp1, hp2⟩ := hv
  have hK := hG.1
  have hx := Bd.exec
  have hb := Bd.bytes
  have hr := Bd.returns
  have hts := atoms_spec (ws := (jw yX14_release cX14_release 4 none)) Bd.pre
  have htw : ∀ w ∈ jWl, w.before _ s = true := fun w h => hts w (List.mem_cons_of_mem _ h)
  have hown : s.vm.findClass RX14 = some m.cls := findClass_of_methodNamed Bd.named
  have hlocks := Bd.notSynchronized
  obtain ⟨Q, hQ⟩ : ∃ Q, Q = MQ below (va_Qv (S := Int32) (fun u => u.toInt = pw.toInt - 1) (fun u t => jRt (dC, dI) B base G0 EX14_release H0 [(r0, 16, 48, .int u)] t.heap) (jA base)) ([.ref r0, .int a1] : List Value).toArray s 0 0 (jA base) := ⟨_, rfl⟩
  rw [← hQ]
  have hl := lv_entry ([.ref r0, .int a1]) (n := 4) (Nat.le_of_ble_eq_true rfl)
  rw [lg_entry_eq]
  generalize (lg_sl ([.ref r0, .int a1]) ++ List.replicate (4 - (lg_sl ([.ref r0, .int a1])).length) Slot.unset).toArray = ls at hl ⊢
  have hl : lv_has ls 4 [(0, .ref r0), (1, .int a1)] := hl
  generalize hR : (headSpec (jw yX14_release cX14_release 4 none) ({ frames := 0, cells := 0, slots := 0, locals := 0 })).room = R
  subst hH0
  have hh : jSt (dC, dI) B base G0 G0 EX14_release s.heap 0 0 [(r0, 16, 48, .int pw)] [] [] s.heap [] := jSt.start hX hP0 jMc.nil jIs.nil
  clear hX hP0
  have hk0 : (0 : Int32).toInt = 0 := by decide
  have hk1 : (1 : Int32).toInt = 1 := by decide
  have hk20 : (20 : Int32).toInt = 20 := by decide
  have hk3100 : (3100 : Int32).toInt = 3100 := by decide
  have hly_16_36 := htw (u_lay RX14 TX14 36) (jWc_wsX140 _ (u_in_lay (by decide)))
  have hly_16_37 := htw (u_lay RX14 TX14 37) (jWc_wsX140 _ (u_in_lay (by decide)))
  have hly_16_38 := htw (u_lay RX14 TX14 38) (jWc_wsX140 _ (u_in_lay (by decide)))
  have hly_16_39 := htw (u_lay RX14 TX14 39) (jWc_wsX140 _ (u_in_lay (by decide)))
  have hly_16_40 := htw (u_lay RX14 TX14 40) (jWc_wsX140 _ (u_in_lay (by decide)))
  have hly_16_48 := htw (u_lay RX14 TX14 48) (jWc_wsX140 _ (u_in_lay (by decide)))
  have hly_16_49 := htw (u_lay RX14 TX14 49) (jWc_wsX140 _ (u_in_lay (by decide)))
  have hly_16_50 := htw (u_lay RX14 TX14 50) (jWc_wsX140 _ (u_in_lay (by decide)))
  have hly_16_51 := htw (u_lay RX14 TX14 51) (jWc_wsX140 _ (u_in_lay (by decide)))
  have hly_16_52 := htw (u_lay RX14 TX14 52) (jWc_wsX140 _ (u_in_lay (by decide)))
  have hly_16_53 := htw (u_lay RX14 TX14 53) (jWc_wsX140 _ (u_in_lay (by decide)))
  have hly_16_54 := htw (u_lay RX14 TX14 54) (jWc_wsX140 _ (u_in_lay (by decide)))
  have hly_16_55 := htw (u_lay RX14 TX14 55) (jWc_wsX140 _ (u_in_lay (by decide)))
  have hly_16_56 := htw (u_lay RX14 TX14 56) (jWc_wsX140 _ (u_in_lay (by decide)))
  have hly_16_57 := htw (u_lay RX14 TX14 57) (jWc_wsX140 _ (u_in_lay (by decide)))
  have hlk_374 := (htw (.fieldLink RX14 374 "ProofServerModel" "idNull" "Z") (jWr_50 _ (List.mem_of_getElem? (i := 10) rfl)))
  have hlk_100 := (htw (.fieldLink RX14 100 "ProofServerModel" "waitString" "[Z") (jWr_12 _ (List.mem_of_getElem? (i := 3) rfl)))
  have hlk_377 := (htw (.fieldLink RX14 377 "ProofServerModel" "idString" "Z") (jWr_53 _ (List.mem_of_getElem? (i := 19) rfl)))
  have hlk_103 := (htw (.fieldLink RX14 103 "ProofServerModel" "waitInt" "[I") (jWr_12 _ (List.mem_of_getElem? (i := 4) rfl)))
  have hlk_380 := (htw (.fieldLink RX14 380 "ProofServerModel" "idInt" "I") (jWr_53 _ (List.mem_of_getElem? (i := 21) rfl)))
  have hlk_109 := (htw (.fieldLink RX14 109 "ProofServerModel" "waitLength" "[I") (jWr_12 _ (List.mem_of_getElem? (i := 6) rfl)))
  have hlk_383 := (htw (.fieldLink RX14 383 "ProofServerModel" "idLength" "I") (jWr_53 _ (List.mem_of_getElem? (i := 20) rfl)))
  have hlk_68 := (htw (.fieldLink RX14 68 "ProofServerModel" "idUnits" "[I") (jWr_11 _ (List.mem_of_getElem? (i := 15) rfl)))
  have hlk_106 := (htw (.fieldLink RX14 106 "ProofServerModel" "waitUnits" "[I") (jWr_12 _ (List.mem_of_getElem? (i := 5) rfl)))
  have hlk_711 := (htw (.fieldLink RX14 711 "ProofServerModel" "waits" "I") (jWr_58 _ (List.mem_of_getElem? (i := 11) rfl)))
  have hlk_91 := (htw (.fieldLink RX14 91 "ProofServerModel" "waitOf" "[LProofServerModel$Document;") (jWr_12 _ (List.mem_of_getElem? (i := 0) rfl)))
  have hlk_94 := (htw (.fieldLink RX14 94 "ProofServerModel" "waitGoals" "[Z") (jWr_12 _ (List.mem_of_getElem? (i := 1) rfl)))
  have hlk_97 := (htw (.fieldLink RX14 97 "ProofServerModel" "waitNeed" "[I") (jWr_12 _ (List.mem_of_getElem? (i := 2) rfl)))
  have hlk_116 := (htw (.fieldLink RX14 116 "ProofServerModel" "waitNameLength" "[I") (jWr_12 _ (List.mem_of_getElem? (i := 9) rfl)))
  have hlk_113 := (htw (.fieldLink RX14 113 "ProofServerModel" "waitName" "[I") (jWr_12 _ (List.mem_of_getElem? (i := 8) rfl)))
  have hrg_a1 := jb_rng a1
  refine lv_aload_n hx hb dX14_release_0 rfl (lv_at hl 0 rfl) ?_
  refine lv_iconst (v := 0) hx hb dX14_release_1 (by decide) ?_
  refine j7_put hx hb hown hK hh hB hAp hB16 (C := RX14) (T := TX14) (N := 74) rfl (by decide) hg_r0 (i := 40) (by decide) hly_16_40 rfl hlk_374 rfl (ty := .boolean) (v := .int 0) (by decide +kernel) (jb_nz (Or.inl rfl)) (jb_fz (Or.inl rfl)) (⟨_, rfl, (Or.inl rfl)⟩) rfl (L1 := [(r0, 16, 48, .int pw)]) [0] rfl rfl rfl dX14_release_2 (fun H_1 locs_1 hh_1 => ?_)
  clear hh
  refine lv_aload_n hx hb dX14_release_5 rfl (lv_at hl 0 rfl) ?_
  refine lv_aload_n hx hb dX14_release_6 rfl (lv_at hl 0 rfl) ?_
  obtain ⟨v_2, hv_2, hh_3⟩ := hh_1.pin (C := RX14) (T := TX14) (N := 74) hB16 rfl (by decide) hg_r0 (i := 52) (by decide) rfl
  clear hh_1
  obtain ⟨waitString_4, rfl, hg_waitString_4⟩ := hv_2
  refine j7_read hx hb hown hK (C := RX14) (T := TX14) (N := 74) rfl hly_16_52 hlk_100 (hh_3.at 0 rfl) dX14_release_7 ?_
  refine lv_iload_n hx hb dX14_release_10 rfl (lv_at hl 1 rfl) ?_
  refine j7_zald hx hb hK hh_3 hB103 3 rfl (by decide) hg_waitString_4 (x := a1.toInt) (rfl) (by omega) dX14_release_11 (fun z_5 (hz_5 : (z_5 = 0 ∨ z_5 = 1)) => ?_)
  have hz_5' := jb_01 hz_5
  refine j7_put hx hb hown hK hh_3 hB hAp hB16 (C := RX14) (T := TX14) (N := 74) rfl (by decide) hg_r0 (i := 36) (by decide) hly_16_36 rfl hlk_377 rfl (ty := .boolean) (v := .int z_5) (by decide +kernel) (jb_nz (hz_5)) (jb_fz (hz_5)) (⟨_, rfl, (hz_5)⟩) rfl (L1 := [(r0, 16, 52, .ref waitString_4), (r0, 16, 40, .int 0), (r0, 16, 48, .int pw)]) [0, 1, 2] rfl rfl rfl dX14_release_12 (fun H_6 locs_6 hh_6 => ?_)
  clear hh_3
  refine lv_aload_n hx hb dX14_release_15 rfl (lv_at hl 0 rfl) ?_
  refine lv_aload_n hx hb dX14_release_16 rfl (lv_at hl 0 rfl) ?_
  obtain ⟨v_7, hv_7, hh_8⟩ := hh_6.pin (C := RX14) (T := TX14) (N := 74) hB16 rfl (by decide) hg_r0 (i := 53) (by decide) rfl
  clear hh_6
  obtain ⟨waitInt_9, rfl, hg_waitInt_9⟩ := hv_7
  refine j7_read hx hb hown hK (C := RX14) (T := TX14) (N := 74) rfl hly_16_53 hlk_103 (hh_8.at 0 rfl) dX14_release_17 ?_
  refine lv_iload_n hx hb dX14_release_20 rfl (lv_at hl 1 rfl) ?_
  refine j7_iald hx hb hK hh_8 hB101 1 rfl (by decide) hg_waitInt_9 (x := a1.toInt) (rfl) (by omega) dX14_release_21 (fun z_10 (hz_10 : True) => ?_)
  refine j7_put hx hb hown hK hh_8 hB hAp hB16 (C := RX14) (T := TX14) (N := 74) rfl (by decide) hg_r0 (i := 37) (by decide) hly_16_37 rfl hlk_380 rfl (ty := .int) (v := .int z_10) (by decide +kernel) rfl rfl (⟨_, rfl⟩) rfl (L1 := [(r0, 16, 53, .ref waitInt_9), (r0, 16, 36, .int z_5), (r0, 16, 52, .ref waitString_4), (r0, 16, 40, .int 0), (r0, 16, 48, .int pw)]) [0, 1, 2, 3, 4] rfl rfl rfl dX14_release_22 (fun H_11 locs_11 hh_11 => ?_)
  clear hh_8
  refine lv_aload_n hx hb dX14_release_25 rfl (lv_at hl 0 rfl) ?_
  refine lv_aload_n hx hb dX14_release_26 rfl (lv_at hl 0 rfl) ?_
  obtain ⟨v_12, hv_12, hh_13⟩ := hh_11.pin (C := RX14) (T := TX14) (N := 74) hB16 rfl (by decide) hg_r0 (i := 55) (by decide) rfl
  clear hh_11
  obtain ⟨waitLength_14, rfl, hg_waitLength_14⟩ := hv_12
  refine j7_read hx hb hown hK (C := RX14) (T := TX14) (N := 74) rfl hly_16_55 hlk_109 (hh_13.at 0 rfl) dX14_release_27 ?_
  refine lv_iload_n hx hb dX14_release_30 rfl (lv_at hl 1 rfl) ?_
  refine j7_iald hx hb hK hh_13 hB203 1 rfl (by decide) hg_waitLength_14 (x := a1.toInt) (rfl) (by omega) dX14_release_31 (fun z_15 (hz_15 : -3300 ≤ z_15.toInt ∧ z_15.toInt ≤ 20) => ?_)
  refine j7_put hx hb hown hK hh_13 hB hAp hB16 (C := RX14) (T := TX14) (N := 74) rfl (by decide) hg_r0 (i := 39) (by decide) hly_16_39 rfl hlk_383 rfl (ty := .int) (v := .int z_15) (by decide +kernel) rfl rfl (⟨_, rfl, by omega, by omega⟩) rfl (L1 := [(r0, 16, 55, .ref waitLength_14), (r0, 16, 37, .int z_10), (r0, 16, 53, .ref waitInt_9), (r0, 16, 36, .int z_5), (r0, 16, 52, .ref waitString_4), (r0, 16, 40, .int 0), (r0, 16, 48, .int pw)]) [0, 1, 2, 3, 4, 5, 6] rfl rfl rfl dX14_release_32 (fun H_16 locs_16 hh_16 => ?_)
  clear hh_13
  refine lv_iconst (v := 0) hx hb dX14_release_35 (by decide) ?_
  refine lv_istore_n (lv' := [(2, .int 0), (0, .ref r0), (1, .int a1)]) hx hb dX14_release_36 rfl hl (by decide) rfl (fun ls hl => ?_)
  have L37 : ∀ (N : Nat) (v2_17 : Int32) (H_17 : Heap) (locs_17 : List Loc), jSt (dC, dI) B base G0 G0 EX14_release s.heap 0 0 [(r0, 16, 39, .int z_15), (r0, 16, 55, .ref waitLength_14), (r0, 16, 37, .int z_10), (r0, 16, 53, .ref waitInt_9), (r0, 16, 36, .int z_5), (r0, 16, 52, .ref waitString_4), (r0, 16, 40, .int 0), (r0, 16, 48, .int pw)] [] [] H_17 locs_17 → (0 ≤ v2_17.toInt ∧ v2_17.toInt ≤ 20) → (20 - v2_17.toInt : Int) < N → ∀ ls : Array Slot, lv_has ls 4 [(0, .ref r0), (1, .int a1), (2, .int v2_17)] → W p l e R s m ([.ref r0, .int a1] : List Value).toArray below meth c H_17 locs_17 0 0 Q (F0 m 37 ls []) := by
    intro N
    induction N with
    | zero => intro v2_17 H_17 locs_17 hh_17  hi_17 hm; exact absurd hm (by omega)
    | succ N L37 =>
      intro v2_17 H_17 locs_17 hh_17  hi_17 hm_17 ls hl
      obtain ⟨hi_17_0, hi_17_1⟩ := hi_17
      refine lv_iload_n hx hb dX14_release_37 rfl (lv_at hl 2 rfl) ?_
      refine lv_aload_n hx hb dX14_release_38 rfl (lv_at hl 0 rfl) ?_
      refine j7_read hx hb hown hK (C := RX14) (T := TX14) (N := 74) rfl hly_16_39 hlk_383 (hh_17.at 0 rfl) dX14_release_39 ?_
      refine lv_icmp_ge (tgt := 68) hx hb dX14_release_42 (by decide) (fun c_18 => ?_) (fun c_18 => ?_)
      · skip
        have c_18' : v2_17.toInt ≥ z_15.toInt := jb_ge (rfl) (rfl) c_18
        refine lv_iload_n hx hb dX14_release_68 rfl (lv_at hl 1 rfl) ?_
        refine lv_istore_n (lv' := [(2, .int a1), (0, .ref r0), (1, .int a1)]) hx hb dX14_release_69 rfl hl (by decide) rfl (fun ls hl => ?_)
        have L70 : ∀ (N : Nat) (v2_19 : Int32) (H_19 : Heap) (locs_19 : List Loc), jSt (dC, dI) B base G0 G0 EX14_release s.heap 0 0 [(r0, 16, 39, .int z_15), (r0, 16, 55, .ref waitLength_14), (r0, 16, 37, .int z_10), (r0, 16, 53, .ref waitInt_9), (r0, 16, 36, .int z_5), (r0, 16, 52, .ref waitString_4), (r0, 16, 40, .int 0), (r0, 16, 48, .int pw)] [] [] H_19 locs_19 → (0 ≤ v2_19.toInt ∧ v2_19.toInt ≤ 12) → (((pw.toInt - v2_19.toInt).toNat : Int) : Int) < N → ∀ ls : Array Slot, lv_has ls 4 [(0, .ref r0), (1, .int a1), (2, .int v2_19)] → W p l e R s m ([.ref r0, .int a1] : List Value).toArray below meth c H_19 locs_19 0 0 Q (F0 m 70 ls []) := by
          intro N
          induction N with
          | zero => intro v2_19 H_19 locs_19 hh_19  hi_19 hm; exact absurd hm (by omega)
          | succ N L70 =>
            intro v2_19 H_19 locs_19 hh_19  hi_19 hm_19 ls hl
            obtain ⟨hi_19_0, hi_19_1⟩ := hi_19
            refine lv_iload_n hx hb dX14_release_70 rfl (lv_at hl 2 rfl) ?_
            refine lv_iconst (v := 1) hx hb dX14_release_71 (by decide) ?_
            refine lv_iadd hx hb dX14_release_72 ?_
            refine lv_topi (fun z_20 ez_20 => ?_)
            have hz_20 : z_20.toInt = v2_19.toInt + 1 := by rw [ez_20]; exact jb_iadd2 (rfl) ((by decide)) (by omega)
            refine lv_aload_n hx hb dX14_release_73 rfl (lv_at hl 0 rfl) ?_
            refine j7_read hx hb hown hK (C := RX14) (T := TX14) (N := 74) rfl hly_16_48 hlk_711 (hh_19.at 7 rfl) dX14_release_74 ?_
            refine lv_icmp_ge (tgt := 269) hx hb dX14_release_77 (by decide) (fun c_21 => ?_) (fun c_21 => ?_)
            · skip
              have c_21' : z_20.toInt ≥ pw.toInt := jb_ge (rfl) (rfl) c_21
              refine lv_aload_n hx hb dX14_release_269 rfl (lv_at hl 0 rfl) ?_
              refine lv_dup hx hb dX14_release_270 rfl ?_
              refine j7_read hx hb hown hK (C := RX14) (T := TX14) (N := 74) rfl hly_16_48 hlk_711 (hh_19.at 7 rfl) dX14_release_271 ?_
              refine lv_iconst (v := 1) hx hb dX14_release_274 (by decide) ?_
              refine lv_isub hx hb dX14_release_275 ?_
              refine lv_topi (fun z_22 ez_22 => ?_)
              have hz_22 : z_22.toInt = pw.toInt - 1 := by rw [ez_22]; exact jb_isub2 (rfl) ((by decide)) (by omega)
              refine j7_put hx hb hown hK hh_19 hB hAp hB16 (C := RX14) (T := TX14) (N := 74) rfl (by decide) hg_r0 (i := 48) (by decide) hly_16_48 rfl hlk_711 rfl (ty := .int) (v := .int z_22) (by decide +kernel) rfl rfl (⟨_, rfl, by omega, by omega⟩) rfl (L1 := [(r0, 16, 39, .int z_15), (r0, 16, 55, .ref waitLength_14), (r0, 16, 37, .int z_10), (r0, 16, 53, .ref waitInt_9), (r0, 16, 36, .int z_5), (r0, 16, 52, .ref waitString_4), (r0, 16, 40, .int 0)]) [0, 1, 2, 3, 4, 5, 6] rfl rfl rfl dX14_release_276 (fun H_23 locs_23 hh_23 => ?_)
              clear hh_19
              rw [hQ]
              exact W.vret hx hb hr (fun t ht hW => ⟨⟨z_22, rfl, by first | omega | rfl | assumption | decide | exact Or.inl rfl | exact Or.inr rfl | (simp only; omega), hh_23.rt (M1 := [(r0, 16, 48, .int z_22)]) [0] rfl ht⟩, by rw [ht]; try exact hh_23.1.1, fun q h9 hq => by rw [ht]; try exact hh_23.1.2.1 q h9 hq⟩) hh_23.1.2.2 dX14_release_279
            · skip
              have c_21' : z_20.toInt < pw.toInt := jb_ge_n (rfl) (rfl) c_21
              refine lv_aload_n hx hb dX14_release_80 rfl (lv_at hl 0 rfl) ?_
              obtain ⟨v_24, hv_24, hh_25⟩ := hh_19.pin (C := RX14) (T := TX14) (N := 74) hB16 rfl (by decide) hg_r0 (i := 49) (by decide) rfl
              clear hh_19
              obtain ⟨waitOf_26, rfl, hg_waitOf_26⟩ := hv_24
              refine j7_read hx hb hown hK (C := RX14) (T := TX14) (N := 74) rfl hly_16_49 hlk_91 (hh_25.at 0 rfl) dX14_release_81 ?_
              refine lv_iload_n hx hb dX14_release_84 rfl (lv_at hl 2 rfl) ?_
              refine lv_aload_n hx hb dX14_release_85 rfl (lv_at hl 0 rfl) ?_
              refine j7_read hx hb hown hK (C := RX14) (T := TX14) (N := 74) rfl hly_16_49 hlk_91 (hh_25.at 0 rfl) dX14_release_86 ?_
              refine lv_iload_n hx hb dX14_release_89 rfl (lv_at hl 2 rfl) ?_
              refine lv_iconst (v := 1) hx hb dX14_release_90 (by decide) ?_
              refine lv_iadd hx hb dX14_release_91 ?_
              refine lv_topi (fun z_27 ez_27 => ?_)
              have hz_27 : z_27.toInt = v2_19.toInt + 1 := by rw [ez_27]; exact jb_iadd2 (rfl) ((by decide)) (by omega)
              refine j7_qald hx hb hK2 hh_25 hB202 0 rfl (by decide) hg_waitOf_26 (x := z_27.toInt) (rfl) (by omega) dX14_release_92 (fun o_28 ho_28 => ?_)
              rcases ho_28 with rfl | ⟨el_29, rfl, hg_el_29⟩
              · simp only [va_rf]
                refine j7_qastN hx hb hK2 hh_25 hB hB202 0 rfl (by decide) (by decide) rfl rfl rfl hg_waitOf_26 (x := v2_19.toInt) (rfl) (by omega) (Or.inl rfl) dX14_release_93 (fun H_30 locs_30 hh_30 => ?_)
                clear hh_25
                refine lv_aload_n hx hb dX14_release_94 rfl (lv_at hl 0 rfl) ?_
                obtain ⟨v_31, hv_31, hh_32⟩ := hh_30.pin (C := RX14) (T := TX14) (N := 74) hB16 rfl (by decide) hg_r0 (i := 50) (by decide) rfl
                clear hh_30
                obtain ⟨waitGoals_33, rfl, hg_waitGoals_33⟩ := hv_31
                refine j7_read hx hb hown hK (C := RX14) (T := TX14) (N := 74) rfl hly_16_50 hlk_94 (hh_32.at 0 rfl) dX14_release_95 ?_
                refine lv_iload_n hx hb dX14_release_98 rfl (lv_at hl 2 rfl) ?_
                refine lv_aload_n hx hb dX14_release_99 rfl (lv_at hl 0 rfl) ?_
                refine j7_read hx hb hown hK (C := RX14) (T := TX14) (N := 74) rfl hly_16_50 hlk_94 (hh_32.at 0 rfl) dX14_release_100 ?_
                refine lv_iload_n hx hb dX14_release_103 rfl (lv_at hl 2 rfl) ?_
                refine lv_iconst (v := 1) hx hb dX14_release_104 (by decide) ?_
                refine lv_iadd hx hb dX14_release_105 ?_
                refine lv_topi (fun z_34 ez_34 => ?_)
                have hz_34 : z_34.toInt = v2_19.toInt + 1 := by rw [ez_34]; exact jb_iadd2 (rfl) ((by decide)) (by omega)
                refine j7_zald hx hb hK hh_32 hB103 3 rfl (by decide) hg_waitGoals_33 (x := z_34.toInt) (rfl) (by omega) dX14_release_106 (fun z_35 (hz_35 : (z_35 = 0 ∨ z_35 = 1)) => ?_)
                have hz_35' := jb_01 hz_35
                refine j7_zast hx hb hK hh_32 hB hB103 3 rfl (by decide) (by decide) rfl rfl rfl hg_waitGoals_33 (x := v2_19.toInt) (rfl) (by omega) (hz_35) (hz_35) dX14_release_107 (fun H_36 locs_36 hh_36 => ?_)
                clear hh_32
                refine lv_aload_n hx hb dX14_release_108 rfl (lv_at hl 0 rfl) ?_
                obtain ⟨v_37, hv_37, hh_38⟩ := hh_36.pin (C := RX14) (T := TX14) (N := 74) hB16 rfl (by decide) hg_r0 (i := 51) (by decide) rfl
                clear hh_36
                obtain ⟨waitNeed_39, rfl, hg_waitNeed_39⟩ := hv_37
                refine j7_read hx hb hown hK (C := RX14) (T := TX14) (N := 74) rfl hly_16_51 hlk_97 (hh_38.at 0 rfl) dX14_release_109 ?_
                refine lv_iload_n hx hb dX14_release_112 rfl (lv_at hl 2 rfl) ?_
                refine lv_aload_n hx hb dX14_release_113 rfl (lv_at hl 0 rfl) ?_
                refine j7_read hx hb hown hK (C := RX14) (T := TX14) (N := 74) rfl hly_16_51 hlk_97 (hh_38.at 0 rfl) dX14_release_114 ?_
                refine lv_iload_n hx hb dX14_release_117 rfl (lv_at hl 2 rfl) ?_
                refine lv_iconst (v := 1) hx hb dX14_release_118 (by decide) ?_
                refine lv_iadd hx hb dX14_release_119 ?_
                refine lv_topi (fun z_40 ez_40 => ?_)
                have hz_40 : z_40.toInt = v2_19.toInt + 1 := by rw [ez_40]; exact jb_iadd2 (rfl) ((by decide)) (by omega)
                refine j7_iald hx hb hK hh_38 hB206 1 rfl (by decide) hg_waitNeed_39 (x := z_40.toInt) (rfl) (by omega) dX14_release_120 (fun z_41 (hz_41 : 0 ≤ z_41.toInt ∧ z_41.toInt ≤ 40) => ?_)
                refine j7_iast hx hb hK hh_38 hB hB206 1 rfl (by decide) (by decide) rfl rfl rfl hg_waitNeed_39 (x := v2_19.toInt) (rfl) (by omega) (by first | omega | (refine ⟨?_, ?_⟩ <;> (first | omega | rfl | assumption | decide | exact Or.inl rfl | exact Or.inr rfl | (simp only; omega)))) dX14_release_121 (fun H_42 locs_42 hh_42 => ?_)
                clear hh_38
                refine lv_aload_n hx hb dX14_release_122 rfl (lv_at hl 0 rfl) ?_
                refine j7_read hx hb hown hK (C := RX14) (T := TX14) (N := 74) rfl hly_16_52 hlk_100 (hh_42.at 8 rfl) dX14_release_123 ?_
                refine lv_iload_n hx hb dX14_release_126 rfl (lv_at hl 2 rfl) ?_
                refine lv_aload_n hx hb dX14_release_127 rfl (lv_at hl 0 rfl) ?_
                refine j7_read hx hb hown hK (C := RX14) (T := TX14) (N := 74) rfl hly_16_52 hlk_100 (hh_42.at 8 rfl) dX14_release_128 ?_
                refine lv_iload_n hx hb dX14_release_131 rfl (lv_at hl 2 rfl) ?_
                refine lv_iconst (v := 1) hx hb dX14_release_132 (by decide) ?_
                refine lv_iadd hx hb dX14_release_133 ?_
                refine lv_topi (fun z_43 ez_43 => ?_)
                have hz_43 : z_43.toInt = v2_19.toInt + 1 := by rw [ez_43]; exact jb_iadd2 (rfl) ((by decide)) (by omega)
                refine j7_zald hx hb hK hh_42 hB103 3 rfl (by decide) hg_waitString_4 (x := z_43.toInt) (rfl) (by omega) dX14_release_134 (fun z_44 (hz_44 : (z_44 = 0 ∨ z_44 = 1)) => ?_)
                have hz_44' := jb_01 hz_44
                refine j7_zast hx hb hK hh_42 hB hB103 3 rfl (by decide) (by decide) rfl rfl rfl hg_waitString_4 (x := v2_19.toInt) (rfl) (by omega) (hz_44) (hz_44) dX14_release_135 (fun H_45 locs_45 hh_45 => ?_)
                clear hh_42
                refine lv_aload_n hx hb dX14_release_136 rfl (lv_at hl 0 rfl) ?_
                refine j7_read hx hb hown hK (C := RX14) (T := TX14) (N := 74) rfl hly_16_53 hlk_103 (hh_45.at 6 rfl) dX14_release_137 ?_
                refine lv_iload_n hx hb dX14_release_140 rfl (lv_at hl 2 rfl) ?_
                refine lv_aload_n hx hb dX14_release_141 rfl (lv_at hl 0 rfl) ?_
                refine j7_read hx hb hown hK (C := RX14) (T := TX14) (N := 74) rfl hly_16_53 hlk_103 (hh_45.at 6 rfl) dX14_release_142 ?_
                refine lv_iload_n hx hb dX14_release_145 rfl (lv_at hl 2 rfl) ?_
                refine lv_iconst (v := 1) hx hb dX14_release_146 (by decide) ?_
                refine lv_iadd hx hb dX14_release_147 ?_
                refine lv_topi (fun z_46 ez_46 => ?_)
                have hz_46 : z_46.toInt = v2_19.toInt + 1 := by rw [ez_46]; exact jb_iadd2 (rfl) ((by decide)) (by omega)
                refine j7_iald hx hb hK hh_45 hB101 1 rfl (by decide) hg_waitInt_9 (x := z_46.toInt) (rfl) (by omega) dX14_release_148 (fun z_47 (hz_47 : True) => ?_)
                refine j7_iast hx hb hK hh_45 hB hB101 1 rfl (by decide) (by decide) rfl rfl rfl hg_waitInt_9 (x := v2_19.toInt) (rfl) (by omega) (trivial) dX14_release_149 (fun H_48 locs_48 hh_48 => ?_)
                clear hh_45
                refine lv_aload_n hx hb dX14_release_150 rfl (lv_at hl 0 rfl) ?_
                refine j7_read hx hb hown hK (C := RX14) (T := TX14) (N := 74) rfl hly_16_55 hlk_109 (hh_48.at 4 rfl) dX14_release_151 ?_
                refine lv_iload_n hx hb dX14_release_154 rfl (lv_at hl 2 rfl) ?_
                refine lv_aload_n hx hb dX14_release_155 rfl (lv_at hl 0 rfl) ?_
                refine j7_read hx hb hown hK (C := RX14) (T := TX14) (N := 74) rfl hly_16_55 hlk_109 (hh_48.at 4 rfl) dX14_release_156 ?_
                refine lv_iload_n hx hb dX14_release_159 rfl (lv_at hl 2 rfl) ?_
                refine lv_iconst (v := 1) hx hb dX14_release_160 (by decide) ?_
                refine lv_iadd hx hb dX14_release_161 ?_
                refine lv_topi (fun z_49 ez_49 => ?_)
                have hz_49 : z_49.toInt = v2_19.toInt + 1 := by rw [ez_49]; exact jb_iadd2 (rfl) ((by decide)) (by omega)
                refine j7_iald hx hb hK hh_48 hB203 1 rfl (by decide) hg_waitLength_14 (x := z_49.toInt) (rfl) (by omega) dX14_release_162 (fun z_50 (hz_50 : -3300 ≤ z_50.toInt ∧ z_50.toInt ≤ 20) => ?_)
                refine j7_iast hx hb hK hh_48 hB hB203 1 rfl (by decide) (by decide) rfl rfl rfl hg_waitLength_14 (x := v2_19.toInt) (rfl) (by omega) (by first | omega | (refine ⟨?_, ?_⟩ <;> (first | omega | rfl | assumption | decide | exact Or.inl rfl | exact Or.inr rfl | (simp only; omega)))) dX14_release_163 (fun H_51 locs_51 hh_51 => ?_)
                clear hh_48
                refine lv_aload_n hx hb dX14_release_164 rfl (lv_at hl 0 rfl) ?_
                obtain ⟨v_52, hv_52, hh_53⟩ := hh_51.pin (C := RX14) (T := TX14) (N := 74) hB16 rfl (by decide) hg_r0 (i := 57) (by decide) rfl
                clear hh_51
                obtain ⟨waitNameLength_54, rfl, hg_waitNameLength_54⟩ := hv_52
                refine j7_read hx hb hown hK (C := RX14) (T := TX14) (N := 74) rfl hly_16_57 hlk_116 (hh_53.at 0 rfl) dX14_release_165 ?_
                refine lv_iload_n hx hb dX14_release_168 rfl (lv_at hl 2 rfl) ?_
                refine lv_aload_n hx hb dX14_release_169 rfl (lv_at hl 0 rfl) ?_
                refine j7_read hx hb hown hK (C := RX14) (T := TX14) (N := 74) rfl hly_16_57 hlk_116 (hh_53.at 0 rfl) dX14_release_170 ?_
                refine lv_iload_n hx hb dX14_release_173 rfl (lv_at hl 2 rfl) ?_
                refine lv_iconst (v := 1) hx hb dX14_release_174 (by decide) ?_
                refine lv_iadd hx hb dX14_release_175 ?_
                refine lv_topi (fun z_55 ez_55 => ?_)
                have hz_55 : z_55.toInt = v2_19.toInt + 1 := by rw [ez_55]; exact jb_iadd2 (rfl) ((by decide)) (by omega)
                refine j7_iald hx hb hK hh_53 hB204 1 rfl (by decide) hg_waitNameLength_54 (x := z_55.toInt) (rfl) (by omega) dX14_release_176 (fun z_56 (hz_56 : -3100 ≤ z_56.toInt ∧ z_56.toInt ≤ 3100) => ?_)
                refine j7_iast hx hb hK hh_53 hB hB204 1 rfl (by decide) (by decide) rfl rfl rfl hg_waitNameLength_54 (x := v2_19.toInt) (rfl) (by omega) (by first | omega | (refine ⟨?_, ?_⟩ <;> (first | omega | rfl | assumption | decide | exact Or.inl rfl | exact Or.inr rfl | (simp only; omega)))) dX14_release_177 (fun H_57 locs_57 hh_57 => ?_)
                clear hh_53
                refine lv_iconst (v := 0) hx hb dX14_release_178 (by decide) ?_
                refine lv_istore_n (lv' := [(3, .int 0), (0, .ref r0), (1, .int a1), (2, .int v2_19)]) hx hb dX14_release_179 rfl hl (by decide) rfl (fun ls hl => ?_)
                have L180 : ∀ (N : Nat) (v3_58 : Int32) (H_58 : Heap) (locs_58 : List Loc), jSt (dC, dI) B base G0 G0 EX14_release s.heap 0 0 [(r0, 16, 57, .ref waitNameLength_54), (r0, 16, 51, .ref waitNeed_39), (r0, 16, 50, .ref waitGoals_33), (r0, 16, 49, .ref waitOf_26), (r0, 16, 39, .int z_15), (r0, 16, 55, .ref waitLength_14), (r0, 16, 37, .int z_10), (r0, 16, 53, .ref waitInt_9), (r0, 16, 36, .int z_5), (r0, 16, 52, .ref waitString_4), (r0, 16, 40, .int 0), (r0, 16, 48, .int pw)] [] [] H_58 locs_58 → (0 ≤ v3_58.toInt ∧ v3_58.toInt ≤ 20) → (20 - v3_58.toInt : Int) < N → ∀ ls : Array Slot, lv_has ls 4 [(0, .ref r0), (1, .int a1), (2, .int v2_19), (3, .int v3_58)] → W p l e R s m ([.ref r0, .int a1] : List Value).toArray below meth c H_58 locs_58 0 0 Q (F0 m 180 ls []) := by
                  intro N
                  induction N with
                  | zero => intro v3_58 H_58 locs_58 hh_58  hi_58 hm; exact absurd hm (by omega)
                  | succ N L180 =>
                    intro v3_58 H_58 locs_58 hh_58  hi_58 hm_58 ls hl
                    obtain ⟨hi_58_0, hi_58_1⟩ := hi_58
                    refine lv_iload_n hx hb dX14_release_180 rfl (lv_at hl 3 rfl) ?_
                    refine lv_bipush (v := 20) hx hb dX14_release_181 (by decide) ?_
                    refine lv_icmp_ge (tgt := 217) hx hb dX14_release_183 (by decide) (fun c_59 => ?_) (fun c_59 => ?_)
                    · skip
                      have c_59' : v3_58.toInt ≥ 20 := jb_ge (rfl) ((by decide)) c_59
                      refine lv_iconst (v := 0) hx hb dX14_release_217 (by decide) ?_
                      refine lv_istore_n (lv' := [(3, .int 0), (0, .ref r0), (1, .int a1), (2, .int v2_19)]) hx hb dX14_release_218 rfl hl (by decide) rfl (fun ls hl => ?_)
                      have L219 : ∀ (N : Nat) (v3_60 : Int32) (H_60 : Heap) (locs_60 : List Loc), jSt (dC, dI) B base G0 G0 EX14_release s.heap 0 0 [(r0, 16, 57, .ref waitNameLength_54), (r0, 16, 51, .ref waitNeed_39), (r0, 16, 50, .ref waitGoals_33), (r0, 16, 49, .ref waitOf_26), (r0, 16, 39, .int z_15), (r0, 16, 55, .ref waitLength_14), (r0, 16, 37, .int z_10), (r0, 16, 53, .ref waitInt_9), (r0, 16, 36, .int z_5), (r0, 16, 52, .ref waitString_4), (r0, 16, 40, .int 0), (r0, 16, 48, .int pw)] [] [] H_60 locs_60 → (0 ≤ v3_60.toInt ∧ v3_60.toInt ≤ 3100) → (3100 - v3_60.toInt : Int) < N → ∀ ls : Array Slot, lv_has ls 4 [(0, .ref r0), (1, .int a1), (2, .int v2_19), (3, .int v3_60)] → W p l e R s m ([.ref r0, .int a1] : List Value).toArray below meth c H_60 locs_60 0 0 Q (F0 m 219 ls []) := by
                        intro N
                        induction N with
                        | zero => intro v3_60 H_60 locs_60 hh_60  hi_60 hm; exact absurd hm (by omega)
                        | succ N L219 =>
                          intro v3_60 H_60 locs_60 hh_60  hi_60 hm_60 ls hl
                          obtain ⟨hi_60_0, hi_60_1⟩ := hi_60
                          refine lv_iload_n hx hb dX14_release_219 rfl (lv_at hl 3 rfl) ?_
                          refine lv_aload_n hx hb dX14_release_220 rfl (lv_at hl 0 rfl) ?_
                          refine j7_read hx hb hown hK (C := RX14) (T := TX14) (N := 74) rfl hly_16_57 hlk_116 (hh_60.at 0 rfl) dX14_release_221 ?_
                          refine lv_iload_n hx hb dX14_release_224 rfl (lv_at hl 2 rfl) ?_
                          refine j7_iald hx hb hK hh_60 hB204 1 rfl (by decide) hg_waitNameLength_54 (x := v2_19.toInt) (rfl) (by omega) dX14_release_225 (fun z_61 (hz_61 : -3100 ≤ z_61.toInt ∧ z_61.toInt ≤ 3100) => ?_)
                          refine lv_icmp_ge (tgt := 263) hx hb dX14_release_226 (by decide) (fun c_62 => ?_) (fun c_62 => ?_)
                          · skip
                            have c_62' : v3_60.toInt ≥ z_61.toInt := jb_ge (rfl) (rfl) c_62
                            obtain ⟨z_63, ez_63⟩ : ∃ y : Int32, y = v2_19 + 1 := ⟨_, rfl⟩
                            refine lv_iinc (v := z_63) (lv' := [(2, .int z_63), (0, .ref r0), (1, .int a1), (3, .int v3_60)]) hx hb dX14_release_263 hl (k := 2) rfl (by rw [ez_63]; rfl) (by decide) rfl (fun ls hl => ?_)
                            have hz_63 : z_63.toInt = v2_19.toInt + 1 := by rw [ez_63]; exact jb_iadd2 (rfl) (by decide) (by omega)
                            refine lv_goto (tgt := 70) hx hb dX14_release_266 (by decide) ?_
                            exact L70 z_63 _ _ (hh_60.sub (L1 := [(r0, 16, 39, .int z_15), (r0, 16, 55, .ref waitLength_14), (r0, 16, 37, .int z_10), (r0, 16, 53, .ref waitInt_9), (r0, 16, 36, .int z_5), (r0, 16, 52, .ref waitString_4), (r0, 16, 40, .int 0), (r0, 16, 48, .int pw)]) [4, 5, 6, 7, 8, 9, 10, 11] rfl (M1 := []) [] rfl (I1 := []) [] rfl) (by first | omega | (refine ⟨?_, ?_⟩ <;> (first | omega | rfl | assumption | decide | exact Or.inl rfl | exact Or.inr rfl | (simp only; omega)))) (by omega) _ (lv_sub hl [1, 2, 0] rfl)
                          · skip
                            have c_62' : v3_60.toInt < z_61.toInt := jb_ge_n (rfl) (rfl) c_62
                            refine lv_aload_n hx hb dX14_release_229 rfl (lv_at hl 0 rfl) ?_
                            obtain ⟨v_64, hv_64, hh_65⟩ := hh_60.pin (C := RX14) (T := TX14) (N := 74) hB16 rfl (by decide) hg_r0 (i := 56) (by decide) rfl
                            clear hh_60
                            obtain ⟨waitName_66, rfl, hg_waitName_66⟩ := hv_64
                            refine j7_read hx hb hown hK (C := RX14) (T := TX14) (N := 74) rfl hly_16_56 hlk_113 (hh_65.at 0 rfl) dX14_release_230 ?_
                            refine lv_sipush (v := 3100) hx hb dX14_release_233 (by decide) ?_
                            refine lv_iload_n hx hb dX14_release_236 rfl (lv_at hl 2 rfl) ?_
                            refine lv_imul hx hb dX14_release_237 ?_
                            refine lv_topi (fun z_67 ez_67 => ?_)
                            have hz_67 : z_67.toInt = 3100 * v2_19.toInt := by rw [ez_67]; exact jb_imul2 ((by decide)) (rfl) (by omega)
                            refine lv_iload_n hx hb dX14_release_238 rfl (lv_at hl 3 rfl) ?_
                            refine lv_iadd hx hb dX14_release_239 ?_
                            refine lv_topi (fun z_68 ez_68 => ?_)
                            have hz_68 : z_68.toInt = z_67.toInt + v3_60.toInt := by rw [ez_68]; exact jb_iadd2 (rfl) (rfl) (by omega)
                            refine lv_aload_n hx hb dX14_release_240 rfl (lv_at hl 0 rfl) ?_
                            refine j7_read hx hb hown hK (C := RX14) (T := TX14) (N := 74) rfl hly_16_56 hlk_113 (hh_65.at 0 rfl) dX14_release_241 ?_
                            refine lv_sipush (v := 3100) hx hb dX14_release_244 (by decide) ?_
                            refine lv_iload_n hx hb dX14_release_247 rfl (lv_at hl 2 rfl) ?_
                            refine lv_imul hx hb dX14_release_248 ?_
                            refine lv_topi (fun z_69 ez_69 => ?_)
                            have hz_69 : z_69.toInt = 3100 * v2_19.toInt := by rw [ez_69]; exact jb_imul2 ((by decide)) (rfl) (by omega)
                            refine lv_sipush (v := 3100) hx hb dX14_release_249 (by decide) ?_
                            refine lv_iadd hx hb dX14_release_252 ?_
                            refine lv_topi (fun z_70 ez_70 => ?_)
                            have hz_70 : z_70.toInt = z_69.toInt + 3100 := by rw [ez_70]; exact jb_iadd2 (rfl) ((by decide)) (by omega)
                            refine lv_iload_n hx hb dX14_release_253 rfl (lv_at hl 3 rfl) ?_
                            refine lv_iadd hx hb dX14_release_254 ?_
                            refine lv_topi (fun z_71 ez_71 => ?_)
                            have hz_71 : z_71.toInt = z_70.toInt + v3_60.toInt := by rw [ez_71]; exact jb_iadd2 (rfl) (rfl) (by omega)
                            refine j7_iald hx hb hK hh_65 hB101 1 rfl (by decide) hg_waitName_66 (x := z_71.toInt) (rfl) (by omega) dX14_release_255 (fun z_72 (hz_72 : True) => ?_)
                            refine j7_iast hx hb hK hh_65 hB hB101 1 rfl (by decide) (by decide) rfl rfl rfl hg_waitName_66 (x := z_68.toInt) (rfl) (by omega) (trivial) dX14_release_256 (fun H_73 locs_73 hh_73 => ?_)
                            clear hh_65
                            obtain ⟨z_74, ez_74⟩ : ∃ y : Int32, y = v3_60 + 1 := ⟨_, rfl⟩
                            refine lv_iinc (v := z_74) (lv' := [(3, .int z_74), (0, .ref r0), (1, .int a1), (2, .int v2_19)]) hx hb dX14_release_257 hl (k := 3) rfl (by rw [ez_74]; rfl) (by decide) rfl (fun ls hl => ?_)
                            have hz_74 : z_74.toInt = v3_60.toInt + 1 := by rw [ez_74]; exact jb_iadd2 (rfl) (by decide) (by omega)
                            refine lv_goto (tgt := 219) hx hb dX14_release_260 (by decide) ?_
                            exact L219 z_74 _ _ (hh_73.sub (L1 := [(r0, 16, 57, .ref waitNameLength_54), (r0, 16, 51, .ref waitNeed_39), (r0, 16, 50, .ref waitGoals_33), (r0, 16, 49, .ref waitOf_26), (r0, 16, 39, .int z_15), (r0, 16, 55, .ref waitLength_14), (r0, 16, 37, .int z_10), (r0, 16, 53, .ref waitInt_9), (r0, 16, 36, .int z_5), (r0, 16, 52, .ref waitString_4), (r0, 16, 40, .int 0), (r0, 16, 48, .int pw)]) [1, 2, 3, 4, 5, 6, 7, 8, 9, 10, 11, 12] rfl (M1 := []) [] rfl (I1 := []) [] rfl) (by first | omega | (refine ⟨?_, ?_⟩ <;> (first | omega | rfl | assumption | decide | exact Or.inl rfl | exact Or.inr rfl | (simp only; omega)))) (by omega) _ (lv_sub hl [1, 2, 3, 0] rfl)
                      exact L219 (3100 - (0 : Int32).toInt : Int).toNat.succ 0 _ _ hh_58 (by first | omega | (refine ⟨?_, ?_⟩ <;> (first | omega | rfl | assumption | decide | exact Or.inl rfl | exact Or.inr rfl | (simp only; omega)))) (by omega) _ (lv_sub hl [1, 2, 3, 0] rfl)
                    · skip
                      have c_59' : v3_58.toInt < 20 := jb_ge_n (rfl) ((by decide)) c_59
                      refine lv_aload_n hx hb dX14_release_186 rfl (lv_at hl 0 rfl) ?_
                      obtain ⟨v_75, hv_75, hh_76⟩ := hh_58.pin (C := RX14) (T := TX14) (N := 74) hB16 rfl (by decide) hg_r0 (i := 54) (by decide) rfl
                      clear hh_58
                      obtain ⟨waitUnits_77, rfl, hg_waitUnits_77⟩ := hv_75
                      refine j7_read hx hb hown hK (C := RX14) (T := TX14) (N := 74) rfl hly_16_54 hlk_106 (hh_76.at 0 rfl) dX14_release_187 ?_
                      refine lv_bipush (v := 20) hx hb dX14_release_190 (by decide) ?_
                      refine lv_iload_n hx hb dX14_release_192 rfl (lv_at hl 2 rfl) ?_
                      refine lv_imul hx hb dX14_release_193 ?_
                      refine lv_topi (fun z_78 ez_78 => ?_)
                      have hz_78 : z_78.toInt = 20 * v2_19.toInt := by rw [ez_78]; exact jb_imul2 ((by decide)) (rfl) (by omega)
                      refine lv_iload_n hx hb dX14_release_194 rfl (lv_at hl 3 rfl) ?_
                      refine lv_iadd hx hb dX14_release_195 ?_
                      refine lv_topi (fun z_79 ez_79 => ?_)
                      have hz_79 : z_79.toInt = z_78.toInt + v3_58.toInt := by rw [ez_79]; exact jb_iadd2 (rfl) (rfl) (by omega)
                      refine lv_aload_n hx hb dX14_release_196 rfl (lv_at hl 0 rfl) ?_
                      refine j7_read hx hb hown hK (C := RX14) (T := TX14) (N := 74) rfl hly_16_54 hlk_106 (hh_76.at 0 rfl) dX14_release_197 ?_
                      refine lv_bipush (v := 20) hx hb dX14_release_200 (by decide) ?_
                      refine lv_iload_n hx hb dX14_release_202 rfl (lv_at hl 2 rfl) ?_
                      refine lv_imul hx hb dX14_release_203 ?_
                      refine lv_topi (fun z_80 ez_80 => ?_)
                      have hz_80 : z_80.toInt = 20 * v2_19.toInt := by rw [ez_80]; exact jb_imul2 ((by decide)) (rfl) (by omega)
                      refine lv_bipush (v := 20) hx hb dX14_release_204 (by decide) ?_
                      refine lv_iadd hx hb dX14_release_206 ?_
                      refine lv_topi (fun z_81 ez_81 => ?_)
                      have hz_81 : z_81.toInt = z_80.toInt + 20 := by rw [ez_81]; exact jb_iadd2 (rfl) ((by decide)) (by omega)
                      refine lv_iload_n hx hb dX14_release_207 rfl (lv_at hl 3 rfl) ?_
                      refine lv_iadd hx hb dX14_release_208 ?_
                      refine lv_topi (fun z_82 ez_82 => ?_)
                      have hz_82 : z_82.toInt = z_81.toInt + v3_58.toInt := by rw [ez_82]; exact jb_iadd2 (rfl) (rfl) (by omega)
                      refine j7_iald hx hb hK hh_76 hB101 1 rfl (by decide) hg_waitUnits_77 (x := z_82.toInt) (rfl) (by omega) dX14_release_209 (fun z_83 (hz_83 : True) => ?_)
                      refine j7_iast hx hb hK hh_76 hB hB101 1 rfl (by decide) (by decide) rfl rfl rfl hg_waitUnits_77 (x := z_79.toInt) (rfl) (by omega) (trivial) dX14_release_210 (fun H_84 locs_84 hh_84 => ?_)
                      clear hh_76
                      obtain ⟨z_85, ez_85⟩ : ∃ y : Int32, y = v3_58 + 1 := ⟨_, rfl⟩
                      refine lv_iinc (v := z_85) (lv' := [(3, .int z_85), (0, .ref r0), (1, .int a1), (2, .int v2_19)]) hx hb dX14_release_211 hl (k := 3) rfl (by rw [ez_85]; rfl) (by decide) rfl (fun ls hl => ?_)
                      have hz_85 : z_85.toInt = v3_58.toInt + 1 := by rw [ez_85]; exact jb_iadd2 (rfl) (by decide) (by omega)
                      refine lv_goto (tgt := 180) hx hb dX14_release_214 (by decide) ?_
                      exact L180 z_85 _ _ (hh_84.sub (L1 := [(r0, 16, 57, .ref waitNameLength_54), (r0, 16, 51, .ref waitNeed_39), (r0, 16, 50, .ref waitGoals_33), (r0, 16, 49, .ref waitOf_26), (r0, 16, 39, .int z_15), (r0, 16, 55, .ref waitLength_14), (r0, 16, 37, .int z_10), (r0, 16, 53, .ref waitInt_9), (r0, 16, 36, .int z_5), (r0, 16, 52, .ref waitString_4), (r0, 16, 40, .int 0), (r0, 16, 48, .int pw)]) [1, 2, 3, 4, 5, 6, 7, 8, 9, 10, 11, 12] rfl (M1 := []) [] rfl (I1 := []) [] rfl) (by first | omega | (refine ⟨?_, ?_⟩ <;> (first | omega | rfl | assumption | decide | exact Or.inl rfl | exact Or.inr rfl | (simp only; omega)))) (by omega) _ (lv_sub hl [1, 2, 3, 0] rfl)
                exact L180 (20 - (0 : Int32).toInt : Int).toNat.succ 0 _ _ hh_57 (by first | omega | (refine ⟨?_, ?_⟩ <;> (first | omega | rfl | assumption | decide | exact Or.inl rfl | exact Or.inr rfl | (simp only; omega)))) (by omega) _ (lv_sub hl [1, 2, 3, 0] rfl)
              · simp only [va_rf]
                refine j7_qast hx hb hK2 hh_25 hB hB202 0 rfl (by decide) (by decide) rfl rfl rfl hg_waitOf_26 (x := v2_19.toInt) (rfl) (by omega) hB14 (T := TX12) (N := 11) rfl (by decide) hg_el_29 (Or.inr ⟨_, rfl, hg_el_29⟩) dX14_release_93 (fun H_86 locs_86 hh_86 => ?_)
                clear hh_25
                refine lv_aload_n hx hb dX14_release_94 rfl (lv_at hl 0 rfl) ?_
                obtain ⟨v_87, hv_87, hh_88⟩ := hh_86.pin (C := RX14) (T := TX14) (N := 74) hB16 rfl (by decide) hg_r0 (i := 50) (by decide) rfl
                clear hh_86
                obtain ⟨waitGoals_89, rfl, hg_waitGoals_89⟩ := hv_87
                refine j7_read hx hb hown hK (C := RX14) (T := TX14) (N := 74) rfl hly_16_50 hlk_94 (hh_88.at 0 rfl) dX14_release_95 ?_
                refine lv_iload_n hx hb dX14_release_98 rfl (lv_at hl 2 rfl) ?_
                refine lv_aload_n hx hb dX14_release_99 rfl (lv_at hl 0 rfl) ?_
                refine j7_read hx hb hown hK (C := RX14) (T := TX14) (N := 74) rfl hly_16_50 hlk_94 (hh_88.at 0 rfl) dX14_release_100 ?_
                refine lv_iload_n hx hb dX14_release_103 rfl (lv_at hl 2 rfl) ?_
                refine lv_iconst (v := 1) hx hb dX14_release_104 (by decide) ?_
                refine lv_iadd hx hb dX14_release_105 ?_
                refine lv_topi (fun z_90 ez_90 => ?_)
                have hz_90 : z_90.toInt = v2_19.toInt + 1 := by rw [ez_90]; exact jb_iadd2 (rfl) ((by decide)) (by omega)
                refine j7_zald hx hb hK hh_88 hB103 3 rfl (by decide) hg_waitGoals_89 (x := z_90.toInt) (rfl) (by omega) dX14_release_106 (fun z_91 (hz_91 : (z_91 = 0 ∨ z_91 = 1)) => ?_)
                have hz_91' := jb_01 hz_91
                refine j7_zast hx hb hK hh_88 hB hB103 3 rfl (by decide) (by decide) rfl rfl rfl hg_waitGoals_89 (x := v2_19.toInt) (rfl) (by omega) (hz_91) (hz_91) dX14_release_107 (fun H_92 locs_92 hh_92 => ?_)
                clear hh_88
                refine lv_aload_n hx hb dX14_release_108 rfl (lv_at hl 0 rfl) ?_
                obtain ⟨v_93, hv_93, hh_94⟩ := hh_92.pin (C := RX14) (T := TX14) (N := 74) hB16 rfl (by decide) hg_r0 (i := 51) (by decide) rfl
                clear hh_92
                obtain ⟨waitNeed_95, rfl, hg_waitNeed_95⟩ := hv_93
                refine j7_read hx hb hown hK (C := RX14) (T := TX14) (N := 74) rfl hly_16_51 hlk_97 (hh_94.at 0 rfl) dX14_release_109 ?_
                refine lv_iload_n hx hb dX14_release_112 rfl (lv_at hl 2 rfl) ?_
                refine lv_aload_n hx hb dX14_release_113 rfl (lv_at hl 0 rfl) ?_
                refine j7_read hx hb hown hK (C := RX14) (T := TX14) (N := 74) rfl hly_16_51 hlk_97 (hh_94.at 0 rfl) dX14_release_114 ?_
                refine lv_iload_n hx hb dX14_release_117 rfl (lv_at hl 2 rfl) ?_
                refine lv_iconst (v := 1) hx hb dX14_release_118 (by decide) ?_
                refine lv_iadd hx hb dX14_release_119 ?_
                refine lv_topi (fun z_96 ez_96 => ?_)
                have hz_96 : z_96.toInt = v2_19.toInt + 1 := by rw [ez_96]; exact jb_iadd2 (rfl) ((by decide)) (by omega)
                refine j7_iald hx hb hK hh_94 hB206 1 rfl (by decide) hg_waitNeed_95 (x := z_96.toInt) (rfl) (by omega) dX14_release_120 (fun z_97 (hz_97 : 0 ≤ z_97.toInt ∧ z_97.toInt ≤ 40) => ?_)
                refine j7_iast hx hb hK hh_94 hB hB206 1 rfl (by decide) (by decide) rfl rfl rfl hg_waitNeed_95 (x := v2_19.toInt) (rfl) (by omega) (by first | omega | (refine ⟨?_, ?_⟩ <;> (first | omega | rfl | assumption | decide | exact Or.inl rfl | exact Or.inr rfl | (simp only; omega)))) dX14_release_121 (fun H_98 locs_98 hh_98 => ?_)
                clear hh_94
                refine lv_aload_n hx hb dX14_release_122 rfl (lv_at hl 0 rfl) ?_
                refine j7_read hx hb hown hK (C := RX14) (T := TX14) (N := 74) rfl hly_16_52 hlk_100 (hh_98.at 8 rfl) dX14_release_123 ?_
                refine lv_iload_n hx hb dX14_release_126 rfl (lv_at hl 2 rfl) ?_
                refine lv_aload_n hx hb dX14_release_127 rfl (lv_at hl 0 rfl) ?_
                refine j7_read hx hb hown hK (C := RX14) (T := TX14) (N := 74) rfl hly_16_52 hlk_100 (hh_98.at 8 rfl) dX14_release_128 ?_
                refine lv_iload_n hx hb dX14_release_131 rfl (lv_at hl 2 rfl) ?_
                refine lv_iconst (v := 1) hx hb dX14_release_132 (by decide) ?_
                refine lv_iadd hx hb dX14_release_133 ?_
                refine lv_topi (fun z_99 ez_99 => ?_)
                have hz_99 : z_99.toInt = v2_19.toInt + 1 := by rw [ez_99]; exact jb_iadd2 (rfl) ((by decide)) (by omega)
                refine j7_zald hx hb hK hh_98 hB103 3 rfl (by decide) hg_waitString_4 (x := z_99.toInt) (rfl) (by omega) dX14_release_134 (fun z_100 (hz_100 : (z_100 = 0 ∨ z_100 = 1)) => ?_)
                have hz_100' := jb_01 hz_100
                refine j7_zast hx hb hK hh_98 hB hB103 3 rfl (by decide) (by decide) rfl rfl rfl hg_waitString_4 (x := v2_19.toInt) (rfl) (by omega) (hz_100) (hz_100) dX14_release_135 (fun H_101 locs_101 hh_101 => ?_)
                clear hh_98
                refine lv_aload_n hx hb dX14_release_136 rfl (lv_at hl 0 rfl) ?_
                refine j7_read hx hb hown hK (C := RX14) (T := TX14) (N := 74) rfl hly_16_53 hlk_103 (hh_101.at 6 rfl) dX14_release_137 ?_
                refine lv_iload_n hx hb dX14_release_140 rfl (lv_at hl 2 rfl) ?_
                refine lv_aload_n hx hb dX14_release_141 rfl (lv_at hl 0 rfl) ?_
                refine j7_read hx hb hown hK (C := RX14) (T := TX14) (N := 74) rfl hly_16_53 hlk_103 (hh_101.at 6 rfl) dX14_release_142 ?_
                refine lv_iload_n hx hb dX14_release_145 rfl (lv_at hl 2 rfl) ?_
                refine lv_iconst (v := 1) hx hb dX14_release_146 (by decide) ?_
                refine lv_iadd hx hb dX14_release_147 ?_
                refine lv_topi (fun z_102 ez_102 => ?_)
                have hz_102 : z_102.toInt = v2_19.toInt + 1 := by rw [ez_102]; exact jb_iadd2 (rfl) ((by decide)) (by omega)
                refine j7_iald hx hb hK hh_101 hB101 1 rfl (by decide) hg_waitInt_9 (x := z_102.toInt) (rfl) (by omega) dX14_release_148 (fun z_103 (hz_103 : True) => ?_)
                refine j7_iast hx hb hK hh_101 hB hB101 1 rfl (by decide) (by decide) rfl rfl rfl hg_waitInt_9 (x := v2_19.toInt) (rfl) (by omega) (trivial) dX14_release_149 (fun H_104 locs_104 hh_104 => ?_)
                clear hh_101
                refine lv_aload_n hx hb dX14_release_150 rfl (lv_at hl 0 rfl) ?_
                refine j7_read hx hb hown hK (C := RX14) (T := TX14) (N := 74) rfl hly_16_55 hlk_109 (hh_104.at 4 rfl) dX14_release_151 ?_
                refine lv_iload_n hx hb dX14_release_154 rfl (lv_at hl 2 rfl) ?_
                refine lv_aload_n hx hb dX14_release_155 rfl (lv_at hl 0 rfl) ?_
                refine j7_read hx hb hown hK (C := RX14) (T := TX14) (N := 74) rfl hly_16_55 hlk_109 (hh_104.at 4 rfl) dX14_release_156 ?_
                refine lv_iload_n hx hb dX14_release_159 rfl (lv_at hl 2 rfl) ?_
                refine lv_iconst (v := 1) hx hb dX14_release_160 (by decide) ?_
                refine lv_iadd hx hb dX14_release_161 ?_
                refine lv_topi (fun z_105 ez_105 => ?_)
                have hz_105 : z_105.toInt = v2_19.toInt + 1 := by rw [ez_105]; exact jb_iadd2 (rfl) ((by decide)) (by omega)
                refine j7_iald hx hb hK hh_104 hB203 1 rfl (by decide) hg_waitLength_14 (x := z_105.toInt) (rfl) (by omega) dX14_release_162 (fun z_106 (hz_106 : -3300 ≤ z_106.toInt ∧ z_106.toInt ≤ 20) => ?_)
                refine j7_iast hx hb hK hh_104 hB hB203 1 rfl (by decide) (by decide) rfl rfl rfl hg_waitLength_14 (x := v2_19.toInt) (rfl) (by omega) (by first | omega | (refine ⟨?_, ?_⟩ <;> (first | omega | rfl | assumption | decide | exact Or.inl rfl | exact Or.inr rfl | (simp only; omega)))) dX14_release_163 (fun H_107 locs_107 hh_107 => ?_)
                clear hh_104
                refine lv_aload_n hx hb dX14_release_164 rfl (lv_at hl 0 rfl) ?_
                obtain ⟨v_108, hv_108, hh_109⟩ := hh_107.pin (C := RX14) (T := TX14) (N := 74) hB16 rfl (by decide) hg_r0 (i := 57) (by decide) rfl
                clear hh_107
                obtain ⟨waitNameLength_110, rfl, hg_waitNameLength_110⟩ := hv_108
                refine j7_read hx hb hown hK (C := RX14) (T := TX14) (N := 74) rfl hly_16_57 hlk_116 (hh_109.at 0 rfl) dX14_release_165 ?_
                refine lv_iload_n hx hb dX14_release_168 rfl (lv_at hl 2 rfl) ?_
                refine lv_aload_n hx hb dX14_release_169 rfl (lv_at hl 0 rfl) ?_
                refine j7_read hx hb hown hK (C := RX14) (T := TX14) (N := 74) rfl hly_16_57 hlk_116 (hh_109.at 0 rfl) dX14_release_170 ?_
                refine lv_iload_n hx hb dX14_release_173 rfl (lv_at hl 2 rfl) ?_
                refine lv_iconst (v := 1) hx hb dX14_release_174 (by decide) ?_
                refine lv_iadd hx hb dX14_release_175 ?_
                refine lv_topi (fun z_111 ez_111 => ?_)
                have hz_111 : z_111.toInt = v2_19.toInt + 1 := by rw [ez_111]; exact jb_iadd2 (rfl) ((by decide)) (by omega)
                refine j7_iald hx hb hK hh_109 hB204 1 rfl (by decide) hg_waitNameLength_110 (x := z_111.toInt) (rfl) (by omega) dX14_release_176 (fun z_112 (hz_112 : -3100 ≤ z_112.toInt ∧ z_112.toInt ≤ 3100) => ?_)
                refine j7_iast hx hb hK hh_109 hB hB204 1 rfl (by decide) (by decide) rfl rfl rfl hg_waitNameLength_110 (x := v2_19.toInt) (rfl) (by omega) (by first | omega | (refine ⟨?_, ?_⟩ <;> (first | omega | rfl | assumption | decide | exact Or.inl rfl | exact Or.inr rfl | (simp only; omega)))) dX14_release_177 (fun H_113 locs_113 hh_113 => ?_)
                clear hh_109
                refine lv_iconst (v := 0) hx hb dX14_release_178 (by decide) ?_
                refine lv_istore_n (lv' := [(3, .int 0), (0, .ref r0), (1, .int a1), (2, .int v2_19)]) hx hb dX14_release_179 rfl hl (by decide) rfl (fun ls hl => ?_)
                have L180 : ∀ (N : Nat) (v3_114 : Int32) (H_114 : Heap) (locs_114 : List Loc), jSt (dC, dI) B base G0 G0 EX14_release s.heap 0 0 [(r0, 16, 57, .ref waitNameLength_110), (r0, 16, 51, .ref waitNeed_95), (r0, 16, 50, .ref waitGoals_89), (r0, 16, 49, .ref waitOf_26), (r0, 16, 39, .int z_15), (r0, 16, 55, .ref waitLength_14), (r0, 16, 37, .int z_10), (r0, 16, 53, .ref waitInt_9), (r0, 16, 36, .int z_5), (r0, 16, 52, .ref waitString_4), (r0, 16, 40, .int 0), (r0, 16, 48, .int pw)] [] [] H_114 locs_114 → (0 ≤ v3_114.toInt ∧ v3_114.toInt ≤ 20) → (20 - v3_114.toInt : Int) < N → ∀ ls : Array Slot, lv_has ls 4 [(0, .ref r0), (1, .int a1), (2, .int v2_19), (3, .int v3_114)] → W p l e R s m ([.ref r0, .int a1] : List Value).toArray below meth c H_114 locs_114 0 0 Q (F0 m 180 ls []) := by
                  intro N
                  induction N with
                  | zero => intro v3_114 H_114 locs_114 hh_114  hi_114 hm; exact absurd hm (by omega)
                  | succ N L180 =>
                    intro v3_114 H_114 locs_114 hh_114  hi_114 hm_114 ls hl
                    obtain ⟨hi_114_0, hi_114_1⟩ := hi_114
                    refine lv_iload_n hx hb dX14_release_180 rfl (lv_at hl 3 rfl) ?_
                    refine lv_bipush (v := 20) hx hb dX14_release_181 (by decide) ?_
                    refine lv_icmp_ge (tgt := 217) hx hb dX14_release_183 (by decide) (fun c_115 => ?_) (fun c_115 => ?_)
                    · skip
                      have c_115' : v3_114.toInt ≥ 20 := jb_ge (rfl) ((by decide)) c_115
                      refine lv_iconst (v := 0) hx hb dX14_release_217 (by decide) ?_
                      refine lv_istore_n (lv' := [(3, .int 0), (0, .ref r0), (1, .int a1), (2, .int v2_19)]) hx hb dX14_release_218 rfl hl (by decide) rfl (fun ls hl => ?_)
                      have L219 : ∀ (N : Nat) (v3_116 : Int32) (H_116 : Heap) (locs_116 : List Loc), jSt (dC, dI) B base G0 G0 EX14_release s.heap 0 0 [(r0, 16, 57, .ref waitNameLength_110), (r0, 16, 51, .ref waitNeed_95), (r0, 16, 50, .ref waitGoals_89), (r0, 16, 49, .ref waitOf_26), (r0, 16, 39, .int z_15), (r0, 16, 55, .ref waitLength_14), (r0, 16, 37, .int z_10), (r0, 16, 53, .ref waitInt_9), (r0, 16, 36, .int z_5), (r0, 16, 52, .ref waitString_4), (r0, 16, 40, .int 0), (r0, 16, 48, .int pw)] [] [] H_116 locs_116 → (0 ≤ v3_116.toInt ∧ v3_116.toInt ≤ 3100) → (3100 - v3_116.toInt : Int) < N → ∀ ls : Array Slot, lv_has ls 4 [(0, .ref r0), (1, .int a1), (2, .int v2_19), (3, .int v3_116)] → W p l e R s m ([.ref r0, .int a1] : List Value).toArray below meth c H_116 locs_116 0 0 Q (F0 m 219 ls []) := by
                        intro N
                        induction N with
                        | zero => intro v3_116 H_116 locs_116 hh_116  hi_116 hm; exact absurd hm (by omega)
                        | succ N L219 =>
                          intro v3_116 H_116 locs_116 hh_116  hi_116 hm_116 ls hl
                          obtain ⟨hi_116_0, hi_116_1⟩ := hi_116
                          refine lv_iload_n hx hb dX14_release_219 rfl (lv_at hl 3 rfl) ?_
                          refine lv_aload_n hx hb dX14_release_220 rfl (lv_at hl 0 rfl) ?_
                          refine j7_read hx hb hown hK (C := RX14) (T := TX14) (N := 74) rfl hly_16_57 hlk_116 (hh_116.at 0 rfl) dX14_release_221 ?_
                          refine lv_iload_n hx hb dX14_release_224 rfl (lv_at hl 2 rfl) ?_
                          refine j7_iald hx hb hK hh_116 hB204 1 rfl (by decide) hg_waitNameLength_110 (x := v2_19.toInt) (rfl) (by omega) dX14_release_225 (fun z_117 (hz_117 : -3100 ≤ z_117.toInt ∧ z_117.toInt ≤ 3100) => ?_)
                          refine lv_icmp_ge (tgt := 263) hx hb dX14_release_226 (by decide) (fun c_118 => ?_) (fun c_118 => ?_)
                          · skip
                            have c_118' : v3_116.toInt ≥ z_117.toInt := jb_ge (rfl) (rfl) c_118
                            obtain ⟨z_119, ez_119⟩ : ∃ y : Int32, y = v2_19 + 1 := ⟨_, rfl⟩
                            refine lv_iinc (v := z_119) (lv' := [(2, .int z_119), (0, .ref r0), (1, .int a1), (3, .int v3_116)]) hx hb dX14_release_263 hl (k := 2) rfl (by rw [ez_119]; rfl) (by decide) rfl (fun ls hl => ?_)
                            have hz_119 : z_119.toInt = v2_19.toInt + 1 := by rw [ez_119]; exact jb_iadd2 (rfl) (by decide) (by omega)
                            refine lv_goto (tgt := 70) hx hb dX14_release_266 (by decide) ?_
                            exact L70 z_119 _ _ (hh_116.sub (L1 := [(r0, 16, 39, .int z_15), (r0, 16, 55, .ref waitLength_14), (r0, 16, 37, .int z_10), (r0, 16, 53, .ref waitInt_9), (r0, 16, 36, .int z_5), (r0, 16, 52, .ref waitString_4), (r0, 16, 40, .int 0), (r0, 16, 48, .int pw)]) [4, 5, 6, 7, 8, 9, 10, 11] rfl (M1 := []) [] rfl (I1 := []) [] rfl) (by first | omega | (refine ⟨?_, ?_⟩ <;> (first | omega | rfl | assumption | decide | exact Or.inl rfl | exact Or.inr rfl | (simp only; omega)))) (by omega) _ (lv_sub hl [1, 2, 0] rfl)
                          · skip
                            have c_118' : v3_116.toInt < z_117.toInt := jb_ge_n (rfl) (rfl) c_118
                            refine lv_aload_n hx hb dX14_release_229 rfl (lv_at hl 0 rfl) ?_
                            obtain ⟨v_120, hv_120, hh_121⟩ := hh_116.pin (C := RX14) (T := TX14) (N := 74) hB16 rfl (by decide) hg_r0 (i := 56) (by decide) rfl
                            clear hh_116
                            obtain ⟨waitName_122, rfl, hg_waitName_122⟩ := hv_120
                            refine j7_read hx hb hown hK (C := RX14) (T := TX14) (N := 74) rfl hly_16_56 hlk_113 (hh_121.at 0 rfl) dX14_release_230 ?_
                            refine lv_sipush (v := 3100) hx hb dX14_release_233 (by decide) ?_
                            refine lv_iload_n hx hb dX14_release_236 rfl (lv_at hl 2 rfl) ?_
                            refine lv_imul hx hb dX14_release_237 ?_
                            refine lv_topi (fun z_123 ez_123 => ?_)
                            have hz_123 : z_123.toInt = 3100 * v2_19.toInt := by rw [ez_123]; exact jb_imul2 ((by decide)) (rfl) (by omega)
                            refine lv_iload_n hx hb dX14_release_238 rfl (lv_at hl 3 rfl) ?_
                            refine lv_iadd hx hb dX14_release_239 ?_
                            refine lv_topi (fun z_124 ez_124 => ?_)
                            have hz_124 : z_124.toInt = z_123.toInt + v3_116.toInt := by rw [ez_124]; exact jb_iadd2 (rfl) (rfl) (by omega)
                            refine lv_aload_n hx hb dX14_release_240 rfl (lv_at hl 0 rfl) ?_
                            refine j7_read hx hb hown hK (C := RX14) (T := TX14) (N := 74) rfl hly_16_56 hlk_113 (hh_121.at 0 rfl) dX14_release_241 ?_
                            refine lv_sipush (v := 3100) hx hb dX14_release_244 (by decide) ?_
                            refine lv_iload_n hx hb dX14_release_247 rfl (lv_at hl 2 rfl) ?_
                            refine lv_imul hx hb dX14_release_248 ?_
                            refine lv_topi (fun z_125 ez_125 => ?_)
                            have hz_125 : z_125.toInt = 3100 * v2_19.toInt := by rw [ez_125]; exact jb_imul2 ((by decide)) (rfl) (by omega)
                            refine lv_sipush (v := 3100) hx hb dX14_release_249 (by decide) ?_
                            refine lv_iadd hx hb dX14_release_252 ?_
                            refine lv_topi (fun z_126 ez_126 => ?_)
                            have hz_126 : z_126.toInt = z_125.toInt + 3100 := by rw [ez_126]; exact jb_iadd2 (rfl) ((by decide)) (by omega)
                            refine lv_iload_n hx hb dX14_release_253 rfl (lv_at hl 3 rfl) ?_
                            refine lv_iadd hx hb dX14_release_254 ?_
                            refine lv_topi (fun z_127 ez_127 => ?_)
                            have hz_127 : z_127.toInt = z_126.toInt + v3_116.toInt := by rw [ez_127]; exact jb_iadd2 (rfl) (rfl) (by omega)
                            refine j7_iald hx hb hK hh_121 hB101 1 rfl (by decide) hg_waitName_122 (x := z_127.toInt) (rfl) (by omega) dX14_release_255 (fun z_128 (hz_128 : True) => ?_)
                            refine j7_iast hx hb hK hh_121 hB hB101 1 rfl (by decide) (by decide) rfl rfl rfl hg_waitName_122 (x := z_124.toInt) (rfl) (by omega) (trivial) dX14_release_256 (fun H_129 locs_129 hh_129 => ?_)
                            clear hh_121
                            obtain ⟨z_130, ez_130⟩ : ∃ y : Int32, y = v3_116 + 1 := ⟨_, rfl⟩
                            refine lv_iinc (v := z_130) (lv' := [(3, .int z_130), (0, .ref r0), (1, .int a1), (2, .int v2_19)]) hx hb dX14_release_257 hl (k := 3) rfl (by rw [ez_130]; rfl) (by decide) rfl (fun ls hl => ?_)
                            have hz_130 : z_130.toInt = v3_116.toInt + 1 := by rw [ez_130]; exact jb_iadd2 (rfl) (by decide) (by omega)
                            refine lv_goto (tgt := 219) hx hb dX14_release_260 (by decide) ?_
                            exact L219 z_130 _ _ (hh_129.sub (L1 := [(r0, 16, 57, .ref waitNameLength_110), (r0, 16, 51, .ref waitNeed_95), (r0, 16, 50, .ref waitGoals_89), (r0, 16, 49, .ref waitOf_26), (r0, 16, 39, .int z_15), (r0, 16, 55, .ref waitLength_14), (r0, 16, 37, .int z_10), (r0, 16, 53, .ref waitInt_9), (r0, 16, 36, .int z_5), (r0, 16, 52, .ref waitString_4), (r0, 16, 40, .int 0), (r0, 16, 48, .int pw)]) [1, 2, 3, 4, 5, 6, 7, 8, 9, 10, 11, 12] rfl (M1 := []) [] rfl (I1 := []) [] rfl) (by first | omega | (refine ⟨?_, ?_⟩ <;> (first | omega | rfl | assumption | decide | exact Or.inl rfl | exact Or.inr rfl | (simp only; omega)))) (by omega) _ (lv_sub hl [1, 2, 3, 0] rfl)
                      exact L219 (3100 - (0 : Int32).toInt : Int).toNat.succ 0 _ _ hh_114 (by first | omega | (refine ⟨?_, ?_⟩ <;> (first | omega | rfl | assumption | decide | exact Or.inl rfl | exact Or.inr rfl | (simp only; omega)))) (by omega) _ (lv_sub hl [1, 2, 3, 0] rfl)
                    · skip
                      have c_115' : v3_114.toInt < 20 := jb_ge_n (rfl) ((by decide)) c_115
                      refine lv_aload_n hx hb dX14_release_186 rfl (lv_at hl 0 rfl) ?_
                      obtain ⟨v_131, hv_131, hh_132⟩ := hh_114.pin (C := RX14) (T := TX14) (N := 74) hB16 rfl (by decide) hg_r0 (i := 54) (by decide) rfl
                      clear hh_114
                      obtain ⟨waitUnits_133, rfl, hg_waitUnits_133⟩ := hv_131
                      refine j7_read hx hb hown hK (C := RX14) (T := TX14) (N := 74) rfl hly_16_54 hlk_106 (hh_132.at 0 rfl) dX14_release_187 ?_
                      refine lv_bipush (v := 20) hx hb dX14_release_190 (by decide) ?_
                      refine lv_iload_n hx hb dX14_release_192 rfl (lv_at hl 2 rfl) ?_
                      refine lv_imul hx hb dX14_release_193 ?_
                      refine lv_topi (fun z_134 ez_134 => ?_)
                      have hz_134 : z_134.toInt = 20 * v2_19.toInt := by rw [ez_134]; exact jb_imul2 ((by decide)) (rfl) (by omega)
                      refine lv_iload_n hx hb dX14_release_194 rfl (lv_at hl 3 rfl) ?_
                      refine lv_iadd hx hb dX14_release_195 ?_
                      refine lv_topi (fun z_135 ez_135 => ?_)
                      have hz_135 : z_135.toInt = z_134.toInt + v3_114.toInt := by rw [ez_135]; exact jb_iadd2 (rfl) (rfl) (by omega)
                      refine lv_aload_n hx hb dX14_release_196 rfl (lv_at hl 0 rfl) ?_
                      refine j7_read hx hb hown hK (C := RX14) (T := TX14) (N := 74) rfl hly_16_54 hlk_106 (hh_132.at 0 rfl) dX14_release_197 ?_
                      refine lv_bipush (v := 20) hx hb dX14_release_200 (by decide) ?_
                      refine lv_iload_n hx hb dX14_release_202 rfl (lv_at hl 2 rfl) ?_
                      refine lv_imul hx hb dX14_release_203 ?_
                      refine lv_topi (fun z_136 ez_136 => ?_)
                      have hz_136 : z_136.toInt = 20 * v2_19.toInt := by rw [ez_136]; exact jb_imul2 ((by decide)) (rfl) (by omega)
                      refine lv_bipush (v := 20) hx hb dX14_release_204 (by decide) ?_
                      refine lv_iadd hx hb dX14_release_206 ?_
                      refine lv_topi (fun z_137 ez_137 => ?_)
                      have hz_137 : z_137.toInt = z_136.toInt + 20 := by rw [ez_137]; exact jb_iadd2 (rfl) ((by decide)) (by omega)
                      refine lv_iload_n hx hb dX14_release_207 rfl (lv_at hl 3 rfl) ?_
                      refine lv_iadd hx hb dX14_release_208 ?_
                      refine lv_topi (fun z_138 ez_138 => ?_)
                      have hz_138 : z_138.toInt = z_137.toInt + v3_114.toInt := by rw [ez_138]; exact jb_iadd2 (rfl) (rfl) (by omega)
                      refine j7_iald hx hb hK hh_132 hB101 1 rfl (by decide) hg_waitUnits_133 (x := z_138.toInt) (rfl) (by omega) dX14_release_209 (fun z_139 (hz_139 : True) => ?_)
                      refine j7_iast hx hb hK hh_132 hB hB101 1 rfl (by decide) (by decide) rfl rfl rfl hg_waitUnits_133 (x := z_135.toInt) (rfl) (by omega) (trivial) dX14_release_210 (fun H_140 locs_140 hh_140 => ?_)
                      clear hh_132
                      obtain ⟨z_141, ez_141⟩ : ∃ y : Int32, y = v3_114 + 1 := ⟨_, rfl⟩
                      refine lv_iinc (v := z_141) (lv' := [(3, .int z_141), (0, .ref r0), (1, .int a1), (2, .int v2_19)]) hx hb dX14_release_211 hl (k := 3) rfl (by rw [ez_141]; rfl) (by decide) rfl (fun ls hl => ?_)
                      have hz_141 : z_141.toInt = v3_114.toInt + 1 := by rw [ez_141]; exact jb_iadd2 (rfl) (by decide) (by omega)
                      refine lv_goto (tgt := 180) hx hb dX14_release_214 (by decide) ?_
                      exact L180 z_141 _ _ (hh_140.sub (L1 := [(r0, 16, 57, .ref waitNameLength_110), (r0, 16, 51, .ref waitNeed_95), (r0, 16, 50, .ref waitGoals_89), (r0, 16, 49, .ref waitOf_26), (r0, 16, 39, .int z_15), (r0, 16, 55, .ref waitLength_14), (r0, 16, 37, .int z_10), (r0, 16, 53, .ref waitInt_9), (r0, 16, 36, .int z_5), (r0, 16, 52, .ref waitString_4), (r0, 16, 40, .int 0), (r0, 16, 48, .int pw)]) [1, 2, 3, 4, 5, 6, 7, 8, 9, 10, 11, 12] rfl (M1 := []) [] rfl (I1 := []) [] rfl) (by first | omega | (refine ⟨?_, ?_⟩ <;> (first | omega | rfl | assumption | decide | exact Or.inl rfl | exact Or.inr rfl | (simp only; omega)))) (by omega) _ (lv_sub hl [1, 2, 3, 0] rfl)
                exact L180 (20 - (0 : Int32).toInt : Int).toNat.succ 0 _ _ hh_113 (by first | omega | (refine ⟨?_, ?_⟩ <;> (first | omega | rfl | assumption | decide | exact Or.inl rfl | exact Or.inr rfl | (simp only; omega)))) (by omega) _ (lv_sub hl [1, 2, 3, 0] rfl)
        exact L70 (((pw.toInt - (a1 : Int32).toInt).toNat : Int) : Int).toNat.succ a1 _ _ hh_17 (by first | omega | (refine ⟨?_, ?_⟩ <;> (first | omega | rfl | assumption | decide | exact Or.inl rfl | exact Or.inr rfl | (simp only; omega)))) (by omega) _ (lv_sub hl [1, 2, 0] rfl)
      · skip
        have c_18' : v2_17.toInt < z_15.toInt := jb_ge_n (rfl) (rfl) c_18
        refine lv_aload_n hx hb dX14_release_45 rfl (lv_at hl 0 rfl) ?_
        obtain ⟨v_142, hv_142, hh_143⟩ := hh_17.pin (C := RX14) (T := TX14) (N := 74) hB16 rfl (by decide) hg_r0 (i := 38) (by decide) rfl
        clear hh_17
        obtain ⟨idUnits_144, rfl, hg_idUnits_144⟩ := hv_142
        refine j7_read hx hb hown hK (C := RX14) (T := TX14) (N := 74) rfl hly_16_38 hlk_68 (hh_143.at 0 rfl) dX14_release_46 ?_
        refine lv_iload_n hx hb dX14_release_49 rfl (lv_at hl 2 rfl) ?_
        refine lv_aload_n hx hb dX14_release_50 rfl (lv_at hl 0 rfl) ?_
        obtain ⟨v_145, hv_145, hh_146⟩ := hh_143.pin (C := RX14) (T := TX14) (N := 74) hB16 rfl (by decide) hg_r0 (i := 54) (by decide) rfl
        clear hh_143
        obtain ⟨waitUnits_147, rfl, hg_waitUnits_147⟩ := hv_145
        refine j7_read hx hb hown hK (C := RX14) (T := TX14) (N := 74) rfl hly_16_54 hlk_106 (hh_146.at 0 rfl) dX14_release_51 ?_
        refine lv_bipush (v := 20) hx hb dX14_release_54 (by decide) ?_
        refine lv_iload_n hx hb dX14_release_56 rfl (lv_at hl 1 rfl) ?_
        refine lv_imul hx hb dX14_release_57 ?_
        refine lv_topi (fun z_148 ez_148 => ?_)
        have hz_148 : z_148.toInt = 20 * a1.toInt := by rw [ez_148]; exact jb_imul2 ((by decide)) (rfl) (by omega)
        refine lv_iload_n hx hb dX14_release_58 rfl (lv_at hl 2 rfl) ?_
        refine lv_iadd hx hb dX14_release_59 ?_
        refine lv_topi (fun z_149 ez_149 => ?_)
        have hz_149 : z_149.toInt = z_148.toInt + v2_17.toInt := by rw [ez_149]; exact jb_iadd2 (rfl) (rfl) (by omega)
        refine j7_iald hx hb hK hh_146 hB101 1 rfl (by decide) hg_waitUnits_147 (x := z_149.toInt) (rfl) (by omega) dX14_release_60 (fun z_150 (hz_150 : True) => ?_)
        refine j7_iast hx hb hK hh_146 hB hB101 1 rfl (by decide) (by decide) rfl rfl rfl hg_idUnits_144 (x := v2_17.toInt) (rfl) (by omega) (trivial) dX14_release_61 (fun H_151 locs_151 hh_151 => ?_)
        clear hh_146
        obtain ⟨z_152, ez_152⟩ : ∃ y : Int32, y = v2_17 + 1 := ⟨_, rfl⟩
        refine lv_iinc (v := z_152) (lv' := [(2, .int z_152), (0, .ref r0), (1, .int a1)]) hx hb dX14_release_62 hl (k := 2) rfl (by rw [ez_152]; rfl) (by decide) rfl (fun ls hl => ?_)
        have hz_152 : z_152.toInt = v2_17.toInt + 1 := by rw [ez_152]; exact jb_iadd2 (rfl) (by decide) (by omega)
        refine lv_goto (tgt := 37) hx hb dX14_release_65 (by decide) ?_
        exact L37 z_152 _ _ (hh_151.sub (L1 := [(r0, 16, 39, .int z_15), (r0, 16, 55, .ref waitLength_14), (r0, 16, 37, .int z_10), (r0, 16, 53, .ref waitInt_9), (r0, 16, 36, .int z_5), (r0, 16, 52, .ref waitString_4), (r0, 16, 40, .int 0), (r0, 16, 48, .int pw)]) [2, 3, 4, 5, 6, 7, 8, 9] rfl (M1 := []) [] rfl (I1 := []) [] rfl) (by first | omega | (refine ⟨?_, ?_⟩ <;> (first | omega | rfl | assumption | decide | exact Or.inl rfl | exact Or.inr rfl | (simp only; omega)))) (by omega) _ (lv_sub hl [1, 2, 0] rfl)
  exact L37 (20 - (0 : Int32).toInt : Int).toNat.succ 0 _ _ hh_16 (by first | omega | (refine ⟨?_, ?_⟩ <;> (first | omega | rfl | assumption | decide | exact Or.inl rfl | exact Or.inr rfl | (simp only; omega)))) (by omega) _ (lv_sub hl [1, 2, 0] rfl)
set_option maxHeartbeats 4000000 in
set_option maxRecDepth 20000 in
theorem uX14_modified (l : Launch) (dC : Nat → ClassId) (dI : Nat → Nat → Nat) (ca : Nat → ClassId) (base : Nat) (B : jF) (hB : jBok B) (hAp : jAp (dC, dI)) (hB14 : ∀ n G a H, B 14 n G a H ↔ jOb (dC, dI) 14 11 (F14 n G) a H) (hB16 : ∀ n G a H, B 16 n G a H ↔ jOb (dC, dI) 16 74 (F16 n G) a H) (hB101 : ∀ n G a H, B 101 n G a H ↔ jAr (dC, dI) (ca 1) (fun j z => True) n a H) (hB103 : ∀ n G a H, B 103 n G a H ↔ jAr (dC, dI) (ca 3) (fun j z => (z = 0 ∨ z = 1)) n a H) (hB202 : ∀ n G a H, B 202 n G a H ↔ jAq (dC, dI) (ca 4) (jQn 14 0) n G a H) (hB203 : ∀ n G a H, B 203 n G a H ↔ jAr (dC, dI) (ca 1) (fun j z => -3300 ≤ z.toInt ∧ z.toInt ≤ 20) n a H) (hB204 : ∀ n G a H, B 204 n G a H ↔ jAr (dC, dI) (ca 1) (fun j z => -3100 ≤ z.toInt ∧ z.toInt ≤ 3100) n a H) (hB206 : ∀ n G a H, B 206 n G a H ↔ jAr (dC, dI) (ca 1) (fun j z => 0 ≤ z.toInt ∧ z.toInt ≤ 40) n a H) (G0 : jT) (H0 : Heap) (r0 : Nat) (r1 : Nat) : Met l yX14_modified (jw yX14_modified cX14_modified 3 none) ({ frames := 15, cells := 0, slots := 0, locals := 526 }) (va_Pc [.ref r0, .ref r1] (fun U => U.heap = H0 ∧ jX B base G0 [] H0 ∧ jG dC dI ca base U ∧ jK2 dC dI ca U ∧ G0 r1 = some (14, 0) ∧ G0 r0 = some (16, 0) ∧ jP (dC, dI) G0 H0 [] ∧ True)) (va_Qv (S := Unit) (fun u => True) (fun u t => jRt (dC, dI) B base G0 EX14_modified H0 [] t.heap) (jA base)) 0 0 (jA base) := by
  refine Met.ofW (cc := cX14_modified) (maxL := 3) (ret := none) (by decide) rfl ?_
  intro p e s m args below meth c s₁ Bd hml hv
  obtain ⟨rfl, hH0, hX, hG, hK2, hg_r1, hg_r0, hP0, hp0⟩ := hv
  have hK := hG.1
  have hx := Bd.exec
  have hb := Bd.bytes
  have hr := Bd.returns
  have hts := atoms_spec (ws := (jw yX14_modified cX14_modified 3 none)) Bd.pre
  have htw : ∀ w ∈ jWl, w.before _ s = true := fun w h => hts w (List.mem_cons_of_mem _ h)
  have hown : s.vm.findClass RX14 = some m.cls := findClass_of_methodNamed Bd.named
  have hlocks := Bd.notSynchronized
  obtain ⟨Q, hQ⟩ : ∃ Q, Q = MQ below (va_Qv (S := Unit) (fun u => True) (fun u t => jRt (dC, dI) B base G0 EX14_modified H0 [] t.heap) (jA base)) ([.ref r0, .ref r1] : List Value).toArray s 0 0 (jA base) := ⟨_, rfl⟩
  rw [← hQ]
  have hl := lv_entry ([.ref r0, .ref r1]) (n := 3) (Nat.le_of_ble_eq_true rfl)
  rw [lg_entry_eq]
  generalize (lg_sl ([.ref r0, .ref r1]) ++ List.replicate (3 - (lg_sl ([.ref r0, .ref r1])).length) Slot.unset).toArray = ls at hl ⊢
  have hl : lv_has ls 3 [(0, .ref r0), (1, .ref r1)] := hl
  generalize hR : (headSpec (jw yX14_modified cX14_modified 3 none) ({ frames := 15, cells := 0, slots := 0, locals := 526 })).room = R
  subst hH0
  have hh : jSt (dC, dI) B base G0 G0 EX14_modified s.heap 0 0 [] [] [] s.heap [] := jSt.start hX hP0 jMc.nil jIs.nil
  clear hX hP0
  have hkm32801 : ((-32801) : Int32).toInt = (-32801) := by decide
  have hk0 : (0 : Int32).toInt = 0 := by decide
  have hk1 : (1 : Int32).toInt = 1 := by decide
  have hly_16_48 := htw (u_lay RX14 TX14 48) (jWc_wsX140 _ (u_in_lay (by decide)))
  have hly_16_49 := htw (u_lay RX14 TX14 49) (jWc_wsX140 _ (u_in_lay (by decide)))
  have hlk_711 := (htw (.fieldLink RX14 711 "ProofServerModel" "waits" "I") (jWr_58 _ (List.mem_of_getElem? (i := 11) rfl)))
  have hlk_91 := (htw (.fieldLink RX14 91 "ProofServerModel" "waitOf" "[LProofServerModel$Document;") (jWr_12 _ (List.mem_of_getElem? (i := 0) rfl)))
  have hcs_721 := htw (.constant RX14 721 (-32801)) (jWr_74 _ (List.mem_of_getElem? (i := 2) rfl))
  refine lv_iconst (v := 0) hx hb dX14_modified_0 (by decide) ?_
  refine lv_istore_n (lv' := [(2, .int 0), (0, .ref r0), (1, .ref r1)]) hx hb dX14_modified_1 rfl hl (by decide) rfl (fun ls hl => ?_)
  have L2 : ∀ (N : Nat) (v2_1 : Int32) (ww_1 : Int32) (H_1 : Heap) (locs_1 : List Loc), jSt (dC, dI) B base G0 G0 EX14_modified s.heap 0 0 [(r0, 16, 48, .int ww_1)] [] [] H_1 locs_1 → (0 ≤ v2_1.toInt ∧ v2_1.toInt ≤ ww_1.toInt ∧ ww_1.toInt ≤ 12) → (ww_1.toInt - v2_1.toInt : Int) < N → ∀ ls : Array Slot, lv_has ls 3 [(0, .ref r0), (1, .ref r1), (2, .int v2_1)] → W p l e R s m ([.ref r0, .ref r1] : List Value).toArray below meth c H_1 locs_1 0 0 Q (F0 m 2 ls []) := by
    intro N
    induction N with
    | zero => intro v2_1 ww_1 H_1 locs_1 hh_1  hi_1 hm; exact absurd hm (by omega)
    | succ N L2 =>
      intro v2_1 ww_1 H_1 locs_1 hh_1  hi_1 hm_1 ls hl
      obtain ⟨hi_1_0, hi_1_1, hi_1_2⟩ := hi_1
      refine lv_iload_n hx hb dX14_modified_2 rfl (lv_at hl 2 rfl) ?_
      refine lv_aload_n hx hb dX14_modified_3 rfl (lv_at hl 0 rfl) ?_
      refine j7_read hx hb hown hK (C := RX14) (T := TX14) (N := 74) rfl hly_16_48 hlk_711 (hh_1.at 0 rfl) dX14_modified_4 ?_
      refine lv_icmp_ge (tgt := 41) hx hb dX14_modified_7 (by decide) (fun c_2 => ?_) (fun c_2 => ?_)
      · skip
        have c_2' : v2_1.toInt ≥ ww_1.toInt := jb_ge (rfl) (rfl) c_2
        rw [hQ]
        exact W.vret hx hb hr (fun t ht hW => ⟨⟨(), rfl, trivial, hh_1.rt (M1 := []) [] rfl ht⟩, by rw [ht]; try exact hh_1.1.1, fun q h9 hq => by rw [ht]; try exact hh_1.1.2.1 q h9 hq⟩) hh_1.1.2.2 dX14_modified_41
      · skip
        have c_2' : v2_1.toInt < ww_1.toInt := jb_ge_n (rfl) (rfl) c_2
        refine lv_aload_n hx hb dX14_modified_10 rfl (lv_at hl 0 rfl) ?_
        obtain ⟨v_3, hv_3, hh_4⟩ := hh_1.pin (C := RX14) (T := TX14) (N := 74) hB16 rfl (by decide) hg_r0 (i := 49) (by decide) rfl
        clear hh_1
        obtain ⟨waitOf_5, rfl, hg_waitOf_5⟩ := hv_3
        refine j7_read hx hb hown hK (C := RX14) (T := TX14) (N := 74) rfl hly_16_49 hlk_91 (hh_4.at 0 rfl) dX14_modified_11 ?_
        refine lv_iload_n hx hb dX14_modified_14 rfl (lv_at hl 2 rfl) ?_
        refine j7_qald hx hb hK2 hh_4 hB202 0 rfl (by decide) hg_waitOf_5 (x := v2_1.toInt) (rfl) (by omega) dX14_modified_15 (fun o_6 ho_6 => ?_)
        rcases ho_6 with rfl | ⟨el_7, rfl, hg_el_7⟩
        · simp only [va_rf]
          refine lv_aload_n hx hb dX14_modified_16 rfl (lv_at hl 1 rfl) ?_
          refine lv_acmp_ne (rx := none) (ry := (some r1)) (tgt := 35) hx hb dX14_modified_17 (by decide) (fun c_8 => ?_) (fun c_8 => ?_)
          · skip
            obtain ⟨z_9, ez_9⟩ : ∃ y : Int32, y = v2_1 + 1 := ⟨_, rfl⟩
            refine lv_iinc (v := z_9) (lv' := [(2, .int z_9), (0, .ref r0), (1, .ref r1)]) hx hb dX14_modified_35 hl (k := 2) rfl (by rw [ez_9]; rfl) (by decide) rfl (fun ls hl => ?_)
            have hz_9 : z_9.toInt = v2_1.toInt + 1 := by rw [ez_9]; exact jb_iadd2 (rfl) (by decide) (by omega)
            refine lv_goto (tgt := 2) hx hb dX14_modified_38 (by decide) ?_
            exact L2 z_9 ww_1 _ _ (hh_4.sub (L1 := [(r0, 16, 48, .int ww_1)]) [1] rfl (M1 := []) [] rfl (I1 := []) [] rfl) (by first | omega | (refine ⟨?_, ?_, ?_⟩ <;> (first | omega | rfl | assumption | decide | exact Or.inl rfl | exact Or.inr rfl | (simp only; omega)))) (by omega) _ (lv_sub hl [1, 2, 0] rfl)
          · skip
            cases c_8
        · simp only [va_rf]
          refine lv_aload_n hx hb dX14_modified_16 rfl (lv_at hl 1 rfl) ?_
          refine lv_acmp_ne (rx := (some el_7)) (ry := (some r1)) (tgt := 35) hx hb dX14_modified_17 (by decide) (fun c_10 => ?_) (fun c_10 => ?_)
          · skip
            obtain ⟨z_11, ez_11⟩ : ∃ y : Int32, y = v2_1 + 1 := ⟨_, rfl⟩
            refine lv_iinc (v := z_11) (lv' := [(2, .int z_11), (0, .ref r0), (1, .ref r1)]) hx hb dX14_modified_35 hl (k := 2) rfl (by rw [ez_11]; rfl) (by decide) rfl (fun ls hl => ?_)
            have hz_11 : z_11.toInt = v2_1.toInt + 1 := by rw [ez_11]; exact jb_iadd2 (rfl) (by decide) (by omega)
            refine lv_goto (tgt := 2) hx hb dX14_modified_38 (by decide) ?_
            exact L2 z_11 ww_1 _ _ (hh_4.sub (L1 := [(r0, 16, 48, .int ww_1)]) [1] rfl (M1 := []) [] rfl (I1 := []) [] rfl) (by first | omega | (refine ⟨?_, ?_, ?_⟩ <;> (first | omega | rfl | assumption | decide | exact Or.inl rfl | exact Or.inr rfl | (simp only; omega)))) (by omega) _ (lv_sub hl [1, 2, 0] rfl)
          · skip
            refine lv_aload_n hx hb dX14_modified_20 rfl (lv_at hl 0 rfl) ?_
            refine lv_iload_n hx hb dX14_modified_21 rfl (lv_at hl 2 rfl) ?_
            refine va_callv (A0 := jA base) (H0 := s.heap) (va_runV (As := [.int v2_1]) (rest := []) ⟨hx, hb, hml, hown, hts⟩ (uX14_release l dC dI ca base B hB hAp hB14 hB16 hB101 hB103 hB202 hB203 hB204 hB206 G0 H_1 r0 v2_1 ww_1) (cwV 1 hts (jgV (jWr_69 _ (List.mem_of_getElem? (i := 15) rfl)) (jWr_69 _ (List.mem_of_getElem? (i := 16) rfl)) (jWr_69 _ (List.mem_of_getElem? (i := 17) rfl)) (jWr_1 _ (List.mem_of_getElem? (i := 5) rfl)) (jWr_69 _ (List.mem_of_getElem? (i := 18) rfl))) rfl rfl rfl (by decide +kernel) ⟨by rw [← hR]; exact Nat.le_of_ble_eq_true rfl, by rw [← hR]; exact Nat.le_of_ble_eq_true rfl⟩) ⟨fun a U g mk q => by obtain ⟨q0, q1, q2, qK, q10, q11, q12, q13⟩ := q; exact ⟨q0, q1, q2, jG.calling g mk a qK, (va_K.moved (Vm.Alike.refl U.vm) q10), q11, q12, q13⟩, hh_4.recv (C := RX14) (T := TX14) (N := 74) hB16 rfl (by decide) hg_r0 hK, fun U hU hW => ⟨rfl, hU, hh_4.2.1, hG.step hW hU hh_4.1, va_K.moved hW.alike hK2, hg_r0, (hh_4.2.2.1.sub (L1 := [(r0, 16, 48, .int ww_1)]) [1] rfl), by first | omega | (refine ⟨?_, ?_, ?_⟩ <;> (first | omega | rfl | assumption | decide | exact Or.inl rfl | exact Or.inr rfl | (simp only; omega)))⟩⟩ rfl rfl hl.1 rfl (lv_room (Nat.le_of_ble_eq_true rfl)) dX14_modified_22 ⟨Nat.zero_le _, Nat.zero_le _⟩) hh_4.1 (fun q _ h => h) (fun q h => h) (fun u_12 t_12 H_12 locs_12 ht_12 hvm_12 hr_13 hb_12 hz_12 hk_12 hS_12 => ?_)
            obtain ⟨qw_12, rfl⟩ : ∃ z, z = u_12 := ⟨_, rfl⟩
            rw [ht_12] at hb_12
            obtain ⟨hb_121, hb_122, hb_123, hb_124, hb_125⟩ := hb_12
            have hh_12 : jSt (dC, dI) B base G0 G0 EX14_modified s.heap 0 0 [(r0, 16, 48, .int qw_12), (r0, 16, 49, .ref waitOf_5)] [] [] H_12 locs_12 := ((hh_4.call hb_121 hb_122 hb_123 hb_124 hS_12 rfl (L1 := [(r0, 16, 49, .ref waitOf_5)]) [0] rfl rfl (M1 := []) [] rfl rfl (I1 := []) [] rfl rfl).more hb_125)
            clear hh_4 ht_12 hvm_12 hz_12 hk_12 hS_12 hb_121 hb_122 hb_123 hb_124 hb_125
            refine lv_aload_n hx hb dX14_modified_25 rfl (lv_at hl 0 rfl) ?_
            refine lv_ldcw hx hb hown hcs_721 dX14_modified_26 ?_
            refine va_callv (A0 := jA base) (H0 := s.heap) (va_runV (As := [.int (-32801)]) (rest := []) ⟨hx, hb, hml, hown, hts⟩ (uX14_error l dC dI ca base B hB hAp hB16 hB101 G0 H_12 r0 (-32801)) (cwV 1 hts (jgV (jWr_53 _ (List.mem_of_getElem? (i := 9) rfl)) (jWr_53 _ (List.mem_of_getElem? (i := 10) rfl)) (jWr_53 _ (List.mem_of_getElem? (i := 11) rfl)) (jWr_1 _ (List.mem_of_getElem? (i := 5) rfl)) (jWr_53 _ (List.mem_of_getElem? (i := 12) rfl))) rfl rfl rfl (by decide +kernel) ⟨by rw [← hR]; exact Nat.le_of_ble_eq_true rfl, by rw [← hR]; exact Nat.le_of_ble_eq_true rfl⟩) ⟨fun a U g mk q => by obtain ⟨q0, q1, q2, qK, q10, q11, q12⟩ := q; exact ⟨q0, q1, q2, jG.calling g mk a qK, q10, q11, q12⟩, hh_12.recv (C := RX14) (T := TX14) (N := 74) hB16 rfl (by decide) hg_r0 hK, fun U hU hW => ⟨rfl, hU, hh_12.2.1, hG.step hW hU hh_12.1, hg_r0, jP.nil, trivial⟩⟩ rfl rfl hl.1 rfl (lv_room (Nat.le_of_ble_eq_true rfl)) dX14_modified_29 ⟨Nat.zero_le _, Nat.zero_le _⟩) hh_12.1 (fun q _ h => h) (fun q h => h) (fun u_14 t_14 H_14 locs_14 ht_14 hvm_14 hr_15 hb_14 hz_14 hk_14 hS_14 => ?_)
            rw [ht_14] at hb_14
            obtain ⟨hb_141, hb_142, hb_143, hb_144, hb_145⟩ := hb_14
            have hh_14 : jSt (dC, dI) B base G0 G0 EX14_modified s.heap 0 0 [(r0, 16, 48, .int qw_12), (r0, 16, 49, .ref waitOf_5)] [] [] H_14 locs_14 := ((hh_12.call hb_141 hb_142 hb_143 hb_144 hS_14 rfl (L1 := [(r0, 16, 48, .int qw_12), (r0, 16, 49, .ref waitOf_5)]) [0, 1] rfl rfl (M1 := []) [] rfl rfl (I1 := []) [] rfl rfl).more hb_145)
            clear hh_12 ht_14 hvm_14 hz_14 hk_14 hS_14 hb_141 hb_142 hb_143 hb_144 hb_145
            refine lv_goto (tgt := 2) hx hb dX14_modified_32 (by decide) ?_
            exact L2 v2_1 qw_12 _ _ (hh_14.sub (L1 := [(r0, 16, 48, .int qw_12)]) [0] rfl (M1 := []) [] rfl (I1 := []) [] rfl) (by first | omega | (refine ⟨?_, ?_, ?_⟩ <;> (first | omega | rfl | assumption | decide | exact Or.inl rfl | exact Or.inr rfl | (simp only; omega)))) (by omega) _ (lv_sub hl [0, 1, 2] rfl)
  obtain ⟨v_16, hv_16, hh_17⟩ := hh.pin (C := RX14) (T := TX14) (N := 74) hB16 rfl (by decide) hg_r0 (i := 48) (by decide) rfl
  obtain ⟨waits_18, rfl, hlowaits_18, hhiwaits_18⟩ := hv_16
  exact L2 ((waits_18 : Int32).toInt - (0 : Int32).toInt : Int).toNat.succ 0 waits_18 _ _ hh_17 (by first | omega | (refine ⟨?_, ?_, ?_⟩ <;> (first | omega | rfl | assumption | decide | exact Or.inl rfl | exact Or.inr rfl | (simp only; omega)))) (by omega) _ (lv_sub hl [1, 2, 0] rfl)
