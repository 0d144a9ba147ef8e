theorem dX14_release_0 : decode cX14_release 0 = .ok (.aload_n 0, 1) := by decide +kernel
theorem dX14_release_1 : decode cX14_release 1 = .ok (.iconst 0, 1) := by decide +kernel
theorem dX14_release_2 : decode cX14_release 2 = .ok (.putfield 374, 3) := by decide +kernel
theorem dX14_release_5 : decode cX14_release 5 = .ok (.aload_n 0, 1) := by decide +kernel
theorem dX14_release_6 : decode cX14_release 6 = .ok (.aload_n 0, 1) := by decide +kernel
theorem dX14_release_7 : decode cX14_release 7 = .ok (.getfield 100, 3) := by decide +kernel
theorem dX14_release_10 : decode cX14_release 10 = .ok (.iload_n 1, 1) := by decide +kernel
theorem dX14_release_11 : decode cX14_release 11 = .ok (.baload, 1) := by decide +kernel
theorem dX14_release_12 : decode cX14_release 12 = .ok (.putfield 377, 3) := by decide +kernel
theorem dX14_release_15 : decode cX14_release 15 = .ok (.aload_n 0, 1) := by decide +kernel
theorem dX14_release_16 : decode cX14_release 16 = .ok (.aload_n 0, 1) := by decide +kernel
theorem dX14_release_17 : decode cX14_release 17 = .ok (.getfield 103, 3) := by decide +kernel
theorem dX14_release_20 : decode cX14_release 20 = .ok (.iload_n 1, 1) := by decide +kernel
theorem dX14_release_21 : decode cX14_release 21 = .ok (.iaload, 1) := by decide +kernel
theorem dX14_release_22 : decode cX14_release 22 = .ok (.putfield 380, 3) := by decide +kernel
theorem dX14_release_25 : decode cX14_release 25 = .ok (.aload_n 0, 1) := by decide +kernel
theorem dX14_release_26 : decode cX14_release 26 = .ok (.aload_n 0, 1) := by decide +kernel
theorem dX14_release_27 : decode cX14_release 27 = .ok (.getfield 109, 3) := by decide +kernel
theorem dX14_release_30 : decode cX14_release 30 = .ok (.iload_n 1, 1) := by decide +kernel
theorem dX14_release_31 : decode cX14_release 31 = .ok (.iaload, 1) := by decide +kernel
theorem dX14_release_32 : decode cX14_release 32 = .ok (.putfield 383, 3) := by decide +kernel
theorem dX14_release_35 : decode cX14_release 35 = .ok (.iconst 0, 1) := by decide +kernel
theorem dX14_release_36 : decode cX14_release 36 = .ok (.istore_n 2, 1) := by decide +kernel
theorem dX14_release_37 : decode cX14_release 37 = .ok (.iload_n 2, 1) := by decide +kernel
theorem dX14_release_38 : decode cX14_release 38 = .ok (.aload_n 0, 1) := by decide +kernel
theorem dX14_release_39 : decode cX14_release 39 = .ok (.getfield 383, 3) := by decide +kernel
theorem dX14_release_42 : decode cX14_release 42 = .ok (.if_icmp .ge 26, 3) := by decide +kernel
theorem dX14_release_45 : decode cX14_release 45 = .ok (.aload_n 0, 1) := by decide +kernel
theorem dX14_release_46 : decode cX14_release 46 = .ok (.getfield 68, 3) := by decide +kernel
theorem dX14_release_49 : decode cX14_release 49 = .ok (.iload_n 2, 1) := by decide +kernel
theorem dX14_release_50 : decode cX14_release 50 = .ok (.aload_n 0, 1) := by decide +kernel
theorem dX14_release_51 : decode cX14_release 51 = .ok (.getfield 106, 3) := by decide +kernel
theorem dX14_release_54 : decode cX14_release 54 = .ok (.bipush 20, 2) := by decide +kernel
theorem dX14_release_56 : decode cX14_release 56 = .ok (.iload_n 1, 1) := by decide +kernel
theorem dX14_release_57 : decode cX14_release 57 = .ok (.imul, 1) := by decide +kernel
theorem dX14_release_58 : decode cX14_release 58 = .ok (.iload_n 2, 1) := by decide +kernel
theorem dX14_release_59 : decode cX14_release 59 = .ok (.iadd, 1) := by decide +kernel
theorem dX14_release_60 : decode cX14_release 60 = .ok (.iaload, 1) := by decide +kernel
theorem dX14_release_61 : decode cX14_release 61 = .ok (.iastore, 1) := by decide +kernel
theorem dX14_release_62 : decode cX14_release 62 = .ok (.iinc 2 1, 3) := by decide +kernel
theorem dX14_release_65 : decode cX14_release 65 = .ok (.goto (-28), 3) := by decide +kernel
theorem dX14_release_68 : decode cX14_release 68 = .ok (.iload_n 1, 1) := by decide +kernel
theorem dX14_release_69 : decode cX14_release 69 = .ok (.istore_n 2, 1) := by decide +kernel
theorem dX14_release_70 : decode cX14_release 70 = .ok (.iload_n 2, 1) := by decide +kernel
theorem dX14_release_71 : decode cX14_release 71 = .ok (.iconst 1, 1) := by decide +kernel
theorem dX14_release_72 : decode cX14_release 72 = .ok (.iadd, 1) := by decide +kernel
theorem dX14_release_73 : decode cX14_release 73 = .ok (.aload_n 0, 1) := by decide +kernel
theorem dX14_release_74 : decode cX14_release 74 = .ok (.getfield 711, 3) := by decide +kernel
theorem dX14_release_77 : decode cX14_release 77 = .ok (.if_icmp .ge 192, 3) := by decide +kernel
theorem dX14_release_80 : decode cX14_release 80 = .ok (.aload_n 0, 1) := by decide +kernel
theorem dX14_release_81 : decode cX14_release 81 = .ok (.getfield 91, 3) := by decide +kernel
theorem dX14_release_84 : decode cX14_release 84 = .ok (.iload_n 2, 1) := by decide +kernel
theorem dX14_release_85 : decode cX14_release 85 = .ok (.aload_n 0, 1) := by decide +kernel
theorem dX14_release_86 : decode cX14_release 86 = .ok (.getfield 91, 3) := by decide +kernel
theorem dX14_release_89 : decode cX14_release 89 = .ok (.iload_n 2, 1) := by decide +kernel
theorem dX14_release_90 : decode cX14_release 90 = .ok (.iconst 1, 1) := by decide +kernel
theorem dX14_release_91 : decode cX14_release 91 = .ok (.iadd, 1) := by decide +kernel
theorem dX14_release_92 : decode cX14_release 92 = .ok (.aaload, 1) := by decide +kernel
theorem dX14_release_93 : decode cX14_release 93 = .ok (.aastore, 1) := by decide +kernel
theorem dX14_release_94 : decode cX14_release 94 = .ok (.aload_n 0, 1) := by decide +kernel
theorem dX14_release_95 : decode cX14_release 95 = .ok (.getfield 94, 3) := by decide +kernel
theorem dX14_release_98 : decode cX14_release 98 = .ok (.iload_n 2, 1) := by decide +kernel
theorem dX14_release_99 : decode cX14_release 99 = .ok (.aload_n 0, 1) := by decide +kernel
theorem dX14_release_100 : decode cX14_release 100 = .ok (.getfield 94, 3) := by decide +kernel
theorem dX14_release_103 : decode cX14_release 103 = .ok (.iload_n 2, 1) := by decide +kernel
theorem dX14_release_104 : decode cX14_release 104 = .ok (.iconst 1, 1) := by decide +kernel
theorem dX14_release_105 : decode cX14_release 105 = .ok (.iadd, 1) := by decide +kernel
theorem dX14_release_106 : decode cX14_release 106 = .ok (.baload, 1) := by decide +kernel
theorem dX14_release_107 : decode cX14_release 107 = .ok (.bastore, 1) := by decide +kernel
theorem dX14_release_108 : decode cX14_release 108 = .ok (.aload_n 0, 1) := by decide +kernel
theorem dX14_release_109 : decode cX14_release 109 = .ok (.getfield 97, 3) := by decide +kernel
theorem dX14_release_112 : decode cX14_release 112 = .ok (.iload_n 2, 1) := by decide +kernel
theorem dX14_release_113 : decode cX14_release 113 = .ok (.aload_n 0, 1) := by decide +kernel
theorem dX14_release_114 : decode cX14_release 114 = .ok (.getfield 97, 3) := by decide +kernel
theorem dX14_release_117 : decode cX14_release 117 = .ok (.iload_n 2, 1) := by decide +kernel
theorem dX14_release_118 : decode cX14_release 118 = .ok (.iconst 1, 1) := by decide +kernel
theorem dX14_release_119 : decode cX14_release 119 = .ok (.iadd, 1) := by decide +kernel
theorem dX14_release_120 : decode cX14_release 120 = .ok (.iaload, 1) := by decide +kernel
theorem dX14_release_121 : decode cX14_release 121 = .ok (.iastore, 1) := by decide +kernel
theorem dX14_release_122 : decode cX14_release 122 = .ok (.aload_n 0, 1) := by decide +kernel
theorem dX14_release_123 : decode cX14_release 123 = .ok (.getfield 100, 3) := by decide +kernel
theorem dX14_release_126 : decode cX14_release 126 = .ok (.iload_n 2, 1) := by decide +kernel
theorem dX14_release_127 : decode cX14_release 127 = .ok (.aload_n 0, 1) := by decide +kernel
theorem dX14_release_128 : decode cX14_release 128 = .ok (.getfield 100, 3) := by decide +kernel
theorem dX14_release_131 : decode cX14_release 131 = .ok (.iload_n 2, 1) := by decide +kernel
theorem dX14_release_132 : decode cX14_release 132 = .ok (.iconst 1, 1) := by decide +kernel
theorem dX14_release_133 : decode cX14_release 133 = .ok (.iadd, 1) := by decide +kernel
theorem dX14_release_134 : decode cX14_release 134 = .ok (.baload, 1) := by decide +kernel
theorem dX14_release_135 : decode cX14_release 135 = .ok (.bastore, 1) := by decide +kernel
theorem dX14_release_136 : decode cX14_release 136 = .ok (.aload_n 0, 1) := by decide +kernel
theorem dX14_release_137 : decode cX14_release 137 = .ok (.getfield 103, 3) := by decide +kernel
theorem dX14_release_140 : decode cX14_release 140 = .ok (.iload_n 2, 1) := by decide +kernel
theorem dX14_release_141 : decode cX14_release 141 = .ok (.aload_n 0, 1) := by decide +kernel
theorem dX14_release_142 : decode cX14_release 142 = .ok (.getfield 103, 3) := by decide +kernel
theorem dX14_release_145 : decode cX14_release 145 = .ok (.iload_n 2, 1) := by decide +kernel
theorem dX14_release_146 : decode cX14_release 146 = .ok (.iconst 1, 1) := by decide +kernel
theorem dX14_release_147 : decode cX14_release 147 = .ok (.iadd, 1) := by decide +kernel
theorem dX14_release_148 : decode cX14_release 148 = .ok (.iaload, 1) := by decide +kernel
theorem dX14_release_149 : decode cX14_release 149 = .ok (.iastore, 1) := by decide +kernel
theorem dX14_release_150 : decode cX14_release 150 = .ok (.aload_n 0, 1) := by decide +kernel
theorem dX14_release_151 : decode cX14_release 151 = .ok (.getfield 109, 3) := by decide +kernel
theorem dX14_release_154 : decode cX14_release 154 = .ok (.iload_n 2, 1) := by decide +kernel
theorem dX14_release_155 : decode cX14_release 155 = .ok (.aload_n 0, 1) := by decide +kernel
theorem dX14_release_156 : decode cX14_release 156 = .ok (.getfield 109, 3) := by decide +kernel
theorem dX14_release_159 : decode cX14_release 159 = .ok (.iload_n 2, 1) := by decide +kernel
theorem dX14_release_160 : decode cX14_release 160 = .ok (.iconst 1, 1) := by decide +kernel
theorem dX14_release_161 : decode cX14_release 161 = .ok (.iadd, 1) := by decide +kernel
theorem dX14_release_162 : decode cX14_release 162 = .ok (.iaload, 1) := by decide +kernel
theorem dX14_release_163 : decode cX14_release 163 = .ok (.iastore, 1) := by decide +kernel
theorem dX14_release_164 : decode cX14_release 164 = .ok (.aload_n 0, 1) := by decide +kernel
theorem dX14_release_165 : decode cX14_release 165 = .ok (.getfield 116, 3) := by decide +kernel
theorem dX14_release_168 : decode cX14_release 168 = .ok (.iload_n 2, 1) := by decide +kernel
theorem dX14_release_169 : decode cX14_release 169 = .ok (.aload_n 0, 1) := by decide +kernel
theorem dX14_release_170 : decode cX14_release 170 = .ok (.getfield 116, 3) := by decide +kernel
theorem dX14_release_173 : decode cX14_release 173 = .ok (.iload_n 2, 1) := by decide +kernel
theorem dX14_release_174 : decode cX14_release 174 = .ok (.iconst 1, 1) := by decide +kernel
theorem dX14_release_175 : decode cX14_release 175 = .ok (.iadd, 1) := by decide +kernel
theorem dX14_release_176 : decode cX14_release 176 = .ok (.iaload, 1) := by decide +kernel
theorem dX14_release_177 : decode cX14_release 177 = .ok (.iastore, 1) := by decide +kernel
theorem dX14_release_178 : decode cX14_release 178 = .ok (.iconst 0, 1) := by decide +kernel
theorem dX14_release_179 : decode cX14_release 179 = .ok (.istore_n 3, 1) := by decide +kernel
theorem dX14_release_180 : decode cX14_release 180 = .ok (.iload_n 3, 1) := by decide +kernel
theorem dX14_release_181 : decode cX14_release 181 = .ok (.bipush 20, 2) := by decide +kernel
theorem dX14_release_183 : decode cX14_release 183 = .ok (.if_icmp .ge 34, 3) := by decide +kernel
theorem dX14_release_186 : decode cX14_release 186 = .ok (.aload_n 0, 1) := by decide +kernel
theorem dX14_release_187 : decode cX14_release 187 = .ok (.getfield 106, 3) := by decide +kernel
theorem dX14_release_190 : decode cX14_release 190 = .ok (.bipush 20, 2) := by decide +kernel
theorem dX14_release_192 : decode cX14_release 192 = .ok (.iload_n 2, 1) := by decide +kernel
theorem dX14_release_193 : decode cX14_release 193 = .ok (.imul, 1) := by decide +kernel
theorem dX14_release_194 : decode cX14_release 194 = .ok (.iload_n 3, 1) := by decide +kernel
theorem dX14_release_195 : decode cX14_release 195 = .ok (.iadd, 1) := by decide +kernel
theorem dX14_release_196 : decode cX14_release 196 = .ok (.aload_n 0, 1) := by decide +kernel
theorem dX14_release_197 : decode cX14_release 197 = .ok (.getfield 106, 3) := by decide +kernel
theorem dX14_release_200 : decode cX14_release 200 = .ok (.bipush 20, 2) := by decide +kernel
theorem dX14_release_202 : decode cX14_release 202 = .ok (.iload_n 2, 1) := by decide +kernel
theorem dX14_release_203 : decode cX14_release 203 = .ok (.imul, 1) := by decide +kernel
theorem dX14_release_204 : decode cX14_release 204 = .ok (.bipush 20, 2) := by decide +kernel
theorem dX14_release_206 : decode cX14_release 206 = .ok (.iadd, 1) := by decide +kernel
theorem dX14_release_207 : decode cX14_release 207 = .ok (.iload_n 3, 1) := by decide +kernel
theorem dX14_release_208 : decode cX14_release 208 = .ok (.iadd, 1) := by decide +kernel
theorem dX14_release_209 : decode cX14_release 209 = .ok (.iaload, 1) := by decide +kernel
theorem dX14_release_210 : decode cX14_release 210 = .ok (.iastore, 1) := by decide +kernel
theorem dX14_release_211 : decode cX14_release 211 = .ok (.iinc 3 1, 3) := by decide +kernel
theorem dX14_release_214 : decode cX14_release 214 = .ok (.goto (-34), 3) := by decide +kernel
theorem dX14_release_217 : decode cX14_release 217 = .ok (.iconst 0, 1) := by decide +kernel
theorem dX14_release_218 : decode cX14_release 218 = .ok (.istore_n 3, 1) := by decide +kernel
theorem dX14_release_219 : decode cX14_release 219 = .ok (.iload_n 3, 1) := by decide +kernel
theorem dX14_release_220 : decode cX14_release 220 = .ok (.aload_n 0, 1) := by decide +kernel
theorem dX14_release_221 : decode cX14_release 221 = .ok (.getfield 116, 3) := by decide +kernel
theorem dX14_release_224 : decode cX14_release 224 = .ok (.iload_n 2, 1) := by decide +kernel
theorem dX14_release_225 : decode cX14_release 225 = .ok (.iaload, 1) := by decide +kernel
theorem dX14_release_226 : decode cX14_release 226 = .ok (.if_icmp .ge 37, 3) := by decide +kernel
theorem dX14_release_229 : decode cX14_release 229 = .ok (.aload_n 0, 1) := by decide +kernel
theorem dX14_release_230 : decode cX14_release 230 = .ok (.getfield 113, 3) := by decide +kernel
theorem dX14_release_233 : decode cX14_release 233 = .ok (.sipush 3100, 3) := by decide +kernel
theorem dX14_release_236 : decode cX14_release 236 = .ok (.iload_n 2, 1) := by decide +kernel
theorem dX14_release_237 : decode cX14_release 237 = .ok (.imul, 1) := by decide +kernel
theorem dX14_release_238 : decode cX14_release 238 = .ok (.iload_n 3, 1) := by decide +kernel
theorem dX14_release_239 : decode cX14_release 239 = .ok (.iadd, 1) := by decide +kernel
theorem dX14_release_240 : decode cX14_release 240 = .ok (.aload_n 0, 1) := by decide +kernel
theorem dX14_release_241 : decode cX14_release 241 = .ok (.getfield 113, 3) := by decide +kernel
theorem dX14_release_244 : decode cX14_release 244 = .ok (.sipush 3100, 3) := by decide +kernel
theorem dX14_release_247 : decode cX14_release 247 = .ok (.iload_n 2, 1) := by decide +kernel
theorem dX14_release_248 : decode cX14_release 248 = .ok (.imul, 1) := by decide +kernel
theorem dX14_release_249 : decode cX14_release 249 = .ok (.sipush 3100, 3) := by decide +kernel
theorem dX14_release_252 : decode cX14_release 252 = .ok (.iadd, 1) := by decide +kernel
theorem dX14_release_253 : decode cX14_release 253 = .ok (.iload_n 3, 1) := by decide +kernel
theorem dX14_release_254 : decode cX14_release 254 = .ok (.iadd, 1) := by decide +kernel
theorem dX14_release_255 : decode cX14_release 255 = .ok (.iaload, 1) := by decide +kernel
theorem dX14_release_256 : decode cX14_release 256 = .ok (.iastore, 1) := by decide +kernel
theorem dX14_release_257 : decode cX14_release 257 = .ok (.iinc 3 1, 3) := by decide +kernel
theorem dX14_release_260 : decode cX14_release 260 = .ok (.goto (-41), 3) := by decide +kernel
theorem dX14_release_263 : decode cX14_release 263 = .ok (.iinc 2 1, 3) := by decide +kernel
theorem dX14_release_266 : decode cX14_release 266 = .ok (.goto (-196), 3) := by decide +kernel
theorem dX14_release_269 : decode cX14_release 269 = .ok (.aload_n 0, 1) := by decide +kernel
theorem dX14_release_270 : decode cX14_release 270 = .ok (.dup, 1) := by decide +kernel
theorem dX14_release_271 : decode cX14_release 271 = .ok (.getfield 711, 3) := by decide +kernel
theorem dX14_release_274 : decode cX14_release 274 = .ok (.iconst 1, 1) := by decide +kernel
theorem dX14_release_275 : decode cX14_release 275 = .ok (.isub, 1) := by decide +kernel
theorem dX14_release_276 : decode cX14_release 276 = .ok (.putfield 711, 3) := by decide +kernel
theorem dX14_release_279 : decode cX14_release 279 = .ok (.return_, 1) := by decide +kernel
theorem dX14_modified_0 : decode cX14_modified 0 = .ok (.iconst 0, 1) := by decide +kernel
theorem dX14_modified_1 : decode cX14_modified 1 = .ok (.istore_n 2, 1) := by decide +kernel
theorem dX14_modified_2 : decode cX14_modified 2 = .ok (.iload_n 2, 1) := by decide +kernel
theorem dX14_modified_3 : decode cX14_modified 3 = .ok (.aload_n 0, 1) := by decide +kernel
theorem dX14_modified_4 : decode cX14_modified 4 = .ok (.getfield 711, 3) := by decide +kernel
theorem dX14_modified_7 : decode cX14_modified 7 = .ok (.if_icmp .ge 34, 3) := by decide +kernel
theorem dX14_modified_10 : decode cX14_modified 10 = .ok (.aload_n 0, 1) := by decide +kernel
theorem dX14_modified_11 : decode cX14_modified 11 = .ok (.getfield 91, 3) := by decide +kernel
theorem dX14_modified_14 : decode cX14_modified 14 = .ok (.iload_n 2, 1) := by decide +kernel
theorem dX14_modified_15 : decode cX14_modified 15 = .ok (.aaload, 1) := by decide +kernel
theorem dX14_modified_16 : decode cX14_modified 16 = .ok (.aload_n 1, 1) := by decide +kernel
theorem dX14_modified_17 : decode cX14_modified 17 = .ok (.if_acmp .ne 18, 3) := by decide +kernel
theorem dX14_modified_20 : decode cX14_modified 20 = .ok (.aload_n 0, 1) := by decide +kernel
theorem dX14_modified_21 : decode cX14_modified 21 = .ok (.iload_n 2, 1) := by decide +kernel
theorem dX14_modified_22 : decode cX14_modified 22 = .ok (.invokevirtual 718, 3) := by decide +kernel
theorem dX14_modified_25 : decode cX14_modified 25 = .ok (.aload_n 0, 1) := by decide +kernel
theorem dX14_modified_26 : decode cX14_modified 26 = .ok (.ldc_w 721, 3) := by decide +kernel
theorem dX14_modified_29 : decode cX14_modified 29 = .ok (.invokevirtual 425, 3) := by decide +kernel
theorem dX14_modified_32 : decode cX14_modified 32 = .ok (.goto (-30), 3) := by decide +kernel
theorem dX14_modified_35 : decode cX14_modified 35 = .ok (.iinc 2 1, 3) := by decide +kernel
theorem dX14_modified_38 : decode cX14_modified 38 = .ok (.goto (-36), 3) := by decide +kernel
theorem dX14_modified_41 : decode cX14_modified 41 = .ok (.return_, 1) := by decide +kernel
def EX14_release : List (Nat × Nat) := [(16, 36), (16, 37), (16, 39), (16, 40), (16, 48), (101, 0), (103, 0), (202, 0), (203, 0), (204, 0), (206, 0)]
def EX14_modified : List (Nat × Nat) := [(16, 3), (16, 4), (16, 6), (16, 36), (16, 37), (16, 39), (16, 40), (16, 48), (101, 0), (103, 0), (202, 0), (203, 0), (204, 0), (206, 0)]
set_option maxHeartbeats 4000000 in
set_option maxRecDepth 20000 in
theorem uX14_release (l : Launch) (dC : Nat → ClassId) (dI : Nat → Nat → Nat) (ca : Nat → ClassId) (base : Nat) (B : jF) (hB : jBok B) (hAp : jAp (dC, dI)) (hB14 : ∀ n G a H, B 14 n G a H ↔ jOb (dC, dI) 14 11 (F14 n G) a H) (hB16 : ∀ n G a H, B 16 n G a H ↔ jOb (dC, dI) 16 74 (F16 n G) a H) (hB101 : ∀ n G a H, B 101 n G a H ↔ jAr (dC, dI) (ca 1) (fun j z => True) n a H) (hB103 : ∀ n G a H, B 103 n G a H ↔ jAr (dC, dI) (ca 3) (fun j z => (z = 0 ∨ z = 1)) n a H) (hB202 : ∀ n G a H, B 202 n G a H ↔ jAq (dC, dI) (ca 4) (jQn 14 0) n G a H) (hB203 : ∀ n G a H, B 203 n G a H ↔ jAr (dC, dI) (ca 1) (fun j z => -3300 ≤ z.toInt ∧ z.toInt ≤ 20) n a H) (hB204 : ∀ n G a H, B 204 n G a H ↔ jAr (dC, dI) (ca 1) (fun j z => -3100 ≤ z.toInt ∧ z.toInt ≤ 3100) n a H) (hB206 : ∀ n G a H, B 206 n G a H ↔ jAr (dC, dI) (ca 1) (fun j z => 0 ≤ z.toInt ∧ z.toInt ≤ 40) n a H) (G0 : jT) (H0 : Heap) (r0 : Nat) (a1 : Int32) (pw : Int32) : Met l yX14_release (jw yX14_release cX14_release 4 none) ({ frames := 0, cells := 0, slots := 0, locals := 0 }) (va_Pc [.ref r0, .int a1] (fun U => U.heap = H0 ∧ jX B base G0 [] H0 ∧ jG dC dI ca base U ∧ jK2 dC dI ca U ∧ G0 r0 = some (16, 0) ∧ jP (dC, dI) G0 H0 [(r0, 16, 48, .int pw)] ∧ 0 ≤ a1.toInt ∧ a1.toInt < pw.toInt ∧ pw.toInt ≤ 12)) (va_Qv (S := Int32) (fun u => u.toInt = pw.toInt - 1) (fun u t => jRt (dC, dI) B base G0 EX14_release H0 [(r0, 16, 48, .int u)] t.heap) (jA base)) 0 0 (jA base) := by
  sorry
set_option maxHeartbeats 4000000 in
set_option maxRecDepth 20000 in
theorem uX14_modified (l : Launch) (dC : Nat → ClassId) (dI : Nat → Nat → Nat) (ca : Nat → ClassId) (base : Nat) (B : jF) (hB : jBok B) (hAp : jAp (dC, dI)) (hB14 : ∀ n G a H, B 14 n G a H ↔ jOb (dC, dI) 14 11 (F14 n G) a H) (hB16 : ∀ n G a H, B 16 n G a H ↔ jOb (dC, dI) 16 74 (F16 n G) a H) (hB101 : ∀ n G a H, B 101 n G a H ↔ jAr (dC, dI) (ca 1) (fun j z => True) n a H) (hB103 : ∀ n G a H, B 103 n G a H ↔ jAr (dC, dI) (ca 3) (fun j z => (z = 0 ∨ z = 1)) n a H) (hB202 : ∀ n G a H, B 202 n G a H ↔ jAq (dC, dI) (ca 4) (jQn 14 0) n G a H) (hB203 : ∀ n G a H, B 203 n G a H ↔ jAr (dC, dI) (ca 1) (fun j z => -3300 ≤ z.toInt ∧ z.toInt ≤ 20) n a H) (hB204 : ∀ n G a H, B 204 n G a H ↔ jAr (dC, dI) (ca 1) (fun j z => -3100 ≤ z.toInt ∧ z.toInt ≤ 3100) n a H) (hB206 : ∀ n G a H, B 206 n G a H ↔ jAr (dC, dI) (ca 1) (fun j z => 0 ≤ z.toInt ∧ z.toInt ≤ 40) n a H) (G0 : jT) (H0 : Heap) (r0 : Nat) (r1 : Nat) : Met l yX14_modified (jw yX14_modified cX14_modified 3 none) ({ frames := 15, cells := 0, slots := 0, locals := 526 }) (va_Pc [.ref r0, .ref r1] (fun U => U.heap = H0 ∧ jX B base G0 [] H0 ∧ jG dC dI ca base U ∧ jK2 dC dI ca U ∧ G0 r1 = some (14, 0) ∧ G0 r0 = some (16, 0) ∧ jP (dC, dI) G0 H0 [] ∧ True)) (va_Qv (S := Unit) (fun u => True) (fun u t => jRt (dC, dI) B base G0 EX14_modified H0 [] t.heap) (jA base)) 0 0 (jA base) := by
  refine Met.ofW (cc := cX14_modified) (maxL := 3) (ret := none) (by decide) rfl ?_
  intro p e s m args below meth c s₁ Bd hml hv
  obtain ⟨rfl, hH0, hX, hG, hK2, hg_r1, hg_r0, hP0, hp0⟩ := hv
  have hK := hG.1
  have hx := Bd.exec
  have hb := Bd.bytes
  have hr := Bd.returns
  have hts := atoms_spec (ws := (jw yX14_modified cX14_modified 3 none)) Bd.pre
  have htw : ∀ w ∈ jWl, w.before _ s = true := fun w h => hts w (List.mem_cons_of_mem _ h)
  have hown : s.vm.findClass RX14 = some m.cls := findClass_of_methodNamed Bd.named
  have hlocks := Bd.notSynchronized
  obtain ⟨Q, hQ⟩ : ∃ Q, Q = MQ below (va_Qv (S := Unit) (fun u => True) (fun u t => jRt (dC, dI) B base G0 EX14_modified H0 [] t.heap) (jA base)) ([.ref r0, .ref r1] : List Value).toArray s 0 0 (jA base) := ⟨_, rfl⟩
  rw [← hQ]
  have hl := lv_entry ([.ref r0, .ref r1]) (n := 3) (Nat.le_of_ble_eq_true rfl)
  rw [lg_entry_eq]
  generalize (lg_sl ([.ref r0, .ref r1]) ++ List.replicate (3 - (lg_sl ([.ref r0, .ref r1])).length) Slot.unset).toArray = ls at hl ⊢
  have hl : lv_has ls 3 [(0, .ref r0), (1, .ref r1)] := hl
  generalize hR : (headSpec (jw yX14_modified cX14_modified 3 none) ({ frames := 15, cells := 0, slots := 0, locals := 526 })).room = R
  subst hH0
  have hh : jSt (dC, dI) B base G0 G0 EX14_modified s.heap 0 0 [] [] [] s.heap [] := jSt.start hX hP0 jMc.nil jIs.nil
  clear hX hP0
  have hkm32801 : ((-32801) : Int32).toInt = (-32801) := by decide
  have hk0 : (0 : Int32).toInt = 0 := by decide
  have hk1 : (1 : Int32).toInt = 1 := by decide
  have hly_16_48 := htw (u_lay RX14 TX14 48) (jWc_wsX140 _ (u_in_lay (by decide)))
  have hly_16_49 := htw (u_lay RX14 TX14 49) (jWc_wsX140 _ (u_in_lay (by decide)))
  have hlk_711 := (htw (.fieldLink RX14 711 "ProofServerModel" "waits" "I") (jWr_58 _ (List.mem_of_getElem? (i := 11) rfl)))
  have hlk_91 := (htw (.fieldLink RX14 91 "ProofServerModel" "waitOf" "[LProofServerModel$Document;") (jWr_12 _ (List.mem_of_getElem? (i := 0) rfl)))
  have hcs_721 := htw (.constant RX14 721 (-32801)) (jWr_74 _ (List.mem_of_getElem? (i := 2) rfl))
  refine lv_iconst (v := 0) hx hb dX14_modified_0 (by decide) ?_
  refine lv_istore_n (lv' := [(2, .int 0), (0, .ref r0), (1, .ref r1)]) hx hb dX14_modified_1 rfl hl (by decide) rfl (fun ls hl => ?_)
  have L2 : ∀ (N : Nat) (v2_1 : Int32) (ww_1 : Int32) (H_1 : Heap) (locs_1 : List Loc), jSt (dC, dI) B base G0 G0 EX14_modified s.heap 0 0 [(r0, 16, 48, .int ww_1)] [] [] H_1 locs_1 → (0 ≤ v2_1.toInt ∧ v2_1.toInt ≤ ww_1.toInt ∧ ww_1.toInt ≤ 12) → (ww_1.toInt - v2_1.toInt : Int) < N → ∀ ls : Array Slot, lv_has ls 3 [(0, .ref r0), (1, .ref r1), (2, .int v2_1)] → W p l e R s m ([.ref r0, .ref r1] : List Value).toArray below meth c H_1 locs_1 0 0 Q (F0 m 2 ls []) := by
    intro N
    induction N with
    | zero => intro v2_1 ww_1 H_1 locs_1 hh_1  hi_1 hm; exact absurd hm (by omega)
    | succ N L2 =>
      intro v2_1 ww_1 H_1 locs_1 hh_1  hi_1 hm_1 ls hl
      obtain ⟨hi_1_0, hi_1_1, hi_1_2⟩ := hi_1
      refine lv_iload_n hx hb dX14_modified_2 rfl (lv_at hl 2 rfl) ?_
      refine lv_aload_n hx hb dX14_modified_3 rfl (lv_at hl 0 rfl) ?_
      refine j7_read hx hb hown hK (C := RX14) (T := TX14) (N := 74) rfl hly_16_48 hlk_711 (hh_1.at 0 rfl) dX14_modified_4 ?_
      refine lv_icmp_ge (tgt := 41) hx hb dX14_modified_7 (by decide) (fun c_2 => ?_) (fun c_2 => ?_)
      · skip
        have c_2' : v2_1.toInt ≥ ww_1.toInt := jb_ge (rfl) (rfl) c_2
        rw [hQ]
        exact W.vret hx hb hr (fun t ht hW => ⟨⟨(), rfl, trivial, hh_1.rt (M1 := []) [] rfl ht⟩, by rw [ht]; try exact hh_1.1.1, fun q h9 hq => by rw [ht]; try exact hh_1.1.2.1 q h9 hq⟩) hh_1.1.2.2 dX14_modified_41
      · skip
        have c_2' : v2_1.toInt < ww_1.toInt := jb_ge_n (rfl) (rfl) c_2
        refine lv_aload_n hx hb dX14_modified_10 rfl (lv_at hl 0 rfl) ?_
        obtain ⟨v_3, hv_3, hh_4⟩ := hh_1.pin (C := RX14) (T := TX14) (N := 74) hB16 rfl (by decide) hg_r0 (i := 49) (by decide) rfl
        clear hh_1
        obtain ⟨waitOf_5, rfl, hg_waitOf_5⟩ := hv_3
        refine j7_read hx hb hown hK (C := RX14) (T := TX14) (N := 74) rfl hly_16_49 hlk_91 (hh_4.at 0 rfl) dX14_modified_11 ?_
        refine lv_iload_n hx hb dX14_modified_14 rfl (lv_at hl 2 rfl) ?_
        refine j7_qald hx hb hK2 hh_4 hB202 0 rfl (by decide) hg_waitOf_5 (x := v2_1.toInt) (rfl) (by omega) dX14_modified_15 (fun o_6 ho_6 => ?_)
        rcases ho_6 with rfl | ⟨el_7, rfl, hg_el_7⟩
        · simp only [va_rf]
          refine lv_aload_n hx hb dX14_modified_16 rfl (lv_at hl 1 rfl) ?_
          refine lv_acmp_ne (rx := none) (ry := (some r1)) (tgt := 35) hx hb dX14_modified_17 (by decide) (fun c_8 => ?_) (fun c_8 => ?_)
          · skip
            obtain ⟨z_9, ez_9⟩ : ∃ y : Int32, y = v2_1 + 1 := ⟨_, rfl⟩
            refine lv_iinc (v := z_9) (lv' := [(2, .int z_9), (0, .ref r0), (1, .ref r1)]) hx hb dX14_modified_35 hl (k := 2) rfl (by rw [ez_9]; rfl) (by decide) rfl (fun ls hl => ?_)
            have hz_9 : z_9.toInt = v2_1.toInt + 1 := by rw [ez_9]; exact jb_iadd2 (rfl) (by decide) (by omega)
            refine lv_goto (tgt := 2) hx hb dX14_modified_38 (by decide) ?_
            exact L2 z_9 ww_1 _ _ (hh_4.sub (L1 := [(r0, 16, 48, .int ww_1)]) [1] rfl (M1 := []) [] rfl (I1 := []) [] rfl) (by first | omega | (refine ⟨?_, ?_, ?_⟩ <;> (first | omega | rfl | assumption | decide | exact Or.inl rfl | exact Or.inr rfl | (simp only; omega)))) (by omega) _ (lv_sub hl [1, 2, 0] rfl)
          · skip
            cases c_8
        · simp only [va_rf]
          refine lv_aload_n hx hb dX14_modified_16 rfl (lv_at hl 1 rfl) ?_
          refine lv_acmp_ne (rx := (some el_7)) (ry := (some r1)) (tgt := 35) hx hb dX14_modified_17 (by decide) (fun c_10 => ?_) (fun c_10 => ?_)
          · skip
            obtain ⟨z_11, ez_11⟩ : ∃ y : Int32, y = v2_1 + 1 := ⟨_, rfl⟩
            refine lv_iinc (v := z_11) (lv' := [(2, .int z_11), (0, .ref r0), (1, .ref r1)]) hx hb dX14_modified_35 hl (k := 2) rfl (by rw [ez_11]; rfl) (by decide) rfl (fun ls hl => ?_)
            have hz_11 : z_11.toInt = v2_1.toInt + 1 := by rw [ez_11]; exact jb_iadd2 (rfl) (by decide) (by omega)
            refine lv_goto (tgt := 2) hx hb dX14_modified_38 (by decide) ?_
            exact L2 z_11 ww_1 _ _ (hh_4.sub (L1 := [(r0, 16, 48, .int ww_1)]) [1] rfl (M1 := []) [] rfl (I1 := []) [] rfl) (by first | omega | (refine ⟨?_, ?_, ?_⟩ <;> (first | omega | rfl | assumption | decide | exact Or.inl rfl | exact Or.inr rfl | (simp only; omega)))) (by omega) _ (lv_sub hl [1, 2, 0] rfl)
          · skip
            refine lv_aload_n hx hb dX14_modified_20 rfl (lv_at hl 0 rfl) ?_
            refine lv_iload_n hx hb dX14_modified_21 rfl (lv_at hl 2 rfl) ?_
            refine va_callv (A0 := jA base) (H0 := s.heap) (va_runV (As := [.int v2_1]) (rest := []) ⟨hx, hb, hml, hown, hts⟩ (uX14_release l dC dI ca base B hB hAp hB14 hB16 hB101 hB103 hB202 hB203 hB204 hB206 G0 H_1 r0 v2_1 ww_1) (cwV 1 hts (jgV (jWr_69 _ (List.mem_of_getElem? (i := 15) rfl)) (jWr_69 _ (List.mem_of_getElem? (i := 16) rfl)) (jWr_69 _ (List.mem_of_getElem? (i := 17) rfl)) (jWr_1 _ (List.mem_of_getElem? (i := 5) rfl)) (jWr_69 _ (List.mem_of_getElem? (i := 18) rfl))) rfl rfl rfl (by decide +kernel) ⟨by rw [← hR]; exact Nat.le_of_ble_eq_true rfl, by rw [← hR]; exact Nat.le_of_ble_eq_true rfl⟩) ⟨fun a U g mk q => by obtain ⟨q0, q1, q2, qK, q10, q11, q12, q13⟩ := q; exact ⟨q0, q1, q2, jG.calling g mk a qK, (va_K.moved (Vm.Alike.refl U.vm) q10), q11, q12, q13⟩, hh_4.recv (C := RX14) (T := TX14) (N := 74) hB16 rfl (by decide) hg_r0 hK, fun U hU hW => ⟨rfl, hU, hh_4.2.1, hG.step hW hU hh_4.1, va_K.moved hW.alike hK2, hg_r0, (hh_4.2.2.1.sub (L1 := [(r0, 16, 48, .int ww_1)]) [1] rfl), by first | omega | (refine ⟨?_, ?_, ?_⟩ <;> (first | omega | rfl | assumption | decide | exact Or.inl rfl | exact Or.inr rfl | (simp only; omega)))⟩⟩ rfl rfl hl.1 rfl (lv_room (Nat.le_of_ble_eq_true rfl)) dX14_modified_22 ⟨Nat.zero_le _, Nat.zero_le _⟩) hh_4.1 (fun q _ h => h) (fun q h => h) (fun u_12 t_12 H_12 locs_12 ht_12 hvm_12 hr_13 hb_12 hz_12 hk_12 hS_12 => ?_)
            obtain ⟨qw_12, rfl⟩ : ∃ z, z = u_12 := ⟨_, rfl⟩
            rw [ht_12] at hb_12
            obtain ⟨hb_121, hb_122, hb_123, hb_124, hb_125⟩ := hb_12
            have hh_12 : jSt (dC, dI) B base G0 G0 EX14_modified s.heap 0 0 [(r0, 16, 48, .int qw_12), (r0, 16, 49, .ref waitOf_5)] [] [] H_12 locs_12 := ((hh_4.call hb_121 hb_122 hb_123 hb_124 hS_12 rfl (L1 := [(r0, 16, 49, .ref waitOf_5)]) [0] rfl rfl (M1 := []) [] rfl rfl (I1 := []) [] rfl rfl).more hb_125)
            clear hh_4 ht_12 hvm_12 hz_12 hk_12 hS_12 hb_121 hb_122 hb_123 hb_124 hb_125
            refine lv_aload_n hx hb dX14_modified_25 rfl (lv_at hl 0 rfl) ?_
            refine lv_ldcw hx hb hown hcs_721 dX14_modified_26 ?_
            refine va_callv (A0 := jA base) (H0 := s.heap) (va_runV (As := [.int (-32801)]) (rest := []) ⟨hx, hb, hml, hown, hts⟩ (uX14_error l dC dI ca base B hB hAp hB16 hB101 G0 H_12 r0 (-32801)) (cwV 1 hts (jgV (jWr_53 _ (List.mem_of_getElem? (i := 9) rfl)) (jWr_53 _ (List.mem_of_getElem? (i := 10) rfl)) (jWr_53 _ (List.mem_of_getElem? (i := 11) rfl)) (jWr_1 _ (List.mem_of_getElem? (i := 5) rfl)) (jWr_53 _ (List.mem_of_getElem? (i := 12) rfl))) rfl rfl rfl (by decide +kernel) ⟨by rw [← hR]; exact Nat.le_of_ble_eq_true rfl, by rw [← hR]; exact Nat.le_of_ble_eq_true rfl⟩) ⟨fun a U g mk q => by obtain ⟨q0, q1, q2, qK, q10, q11, q12⟩ := q; exact ⟨q0, q1, q2, jG.calling g mk a qK, q10, q11, q12⟩, hh_12.recv (C := RX14) (T := TX14) (N := 74) hB16 rfl (by decide) hg_r0 hK, fun U hU hW => ⟨rfl, hU, hh_12.2.1, hG.step hW hU hh_12.1, hg_r0, jP.nil, trivial⟩⟩ rfl rfl hl.1 rfl (lv_room (Nat.le_of_ble_eq_true rfl)) dX14_modified_29 ⟨Nat.zero_le _, Nat.zero_le _⟩) hh_12.1 (fun q _ h => h) (fun q h => h) (fun u_14 t_14 H_14 locs_14 ht_14 hvm_14 hr_15 hb_14 hz_14 hk_14 hS_14 => ?_)
            rw [ht_14] at hb_14
            obtain ⟨hb_141, hb_142, hb_143, hb_144, hb_145⟩ := hb_14
            have hh_14 : jSt (dC, dI) B base G0 G0 EX14_modified s.heap 0 0 [(r0, 16, 48, .int qw_12), (r0, 16, 49, .ref waitOf_5)] [] [] H_14 locs_14 := ((hh_12.call hb_141 hb_142 hb_143 hb_144 hS_14 rfl (L1 := [(r0, 16, 48, .int qw_12), (r0, 16, 49, .ref waitOf_5)]) [0, 1] rfl rfl (M1 := []) [] rfl rfl (I1 := []) [] rfl rfl).more hb_145)
            clear hh_12 ht_14 hvm_14 hz_14 hk_14 hS_14 hb_141 hb_142 hb_143 hb_144 hb_145
            refine lv_goto (tgt := 2) hx hb dX14_modified_32 (by decide) ?_
            exact L2 v2_1 qw_12 _ _ (hh_14.sub (L1 := [(r0, 16, 48, .int qw_12)]) [0] rfl (M1 := []) [] rfl (I1 := []) [] rfl) (by first | omega | (refine ⟨?_, ?_, ?_⟩ <;> (first | omega | rfl | assumption | decide | exact Or.inl rfl | exact Or.inr rfl | (simp only; omega)))) (by omega) _ (lv_sub hl [0, 1, 2] rfl)
  obtain ⟨v_16, hv_16, hh_17⟩ := hh.pin (C := RX14) (T := TX14) (N := 74) hB16 rfl (by decide) hg_r0 (i := 48) (by decide) rfl
  obtain ⟨waits_18, rfl, hlowaits_18, hhiwaits_18⟩ := hv_16
  exact L2 ((waits_18 : Int32).toInt - (0 : Int32).toInt : Int).toNat.succ 0 waits_18 _ _ hh_17 (by first | omega | (refine ⟨?_, ?_, ?_⟩ <;> (first | omega | rfl | assumption | decide | exact Or.inl rfl | exact Or.inr rfl | (simp only; omega)))) (by omega) _ (lv_sub hl [1, 2, 0] rfl)
