theorem dc_CmLaw_law_18 : decode code 18 = .ok (.iload_n 3, 1) := by decide +kernel
theorem dc_CmLaw_law_19 : decode code 19 = .ok (.aload_n 0, 1) := by decide +kernel
theorem dc_CmLaw_law_20 : decode code 20 = .ok (.arraylength, 1) := by decide +kernel
theorem dc_CmLaw_law_21 : decode code 21 = .ok (.iconst 5, 1) := by decide +kernel
theorem dc_CmLaw_law_22 : decode code 22 = .ok (.isub, 1) := by decide +kernel
theorem dc_CmLaw_law_23 : decode code 23 = .ok (.if_icmp .gt 529, 3) := by decide +kernel
theorem dc_CmLaw_law_26 : decode code 26 = .ok (.aload_n 0, 1) := by decide +kernel
theorem dc_CmLaw_law_27 : decode code 27 = .ok (.iload_n 3, 1) := by decide +kernel
theorem dc_CmLaw_law_28 : decode code 28 = .ok (.iaload, 1) := by decide +kernel
theorem dc_CmLaw_law_29 : decode code 29 = .ok (.bipush 15, 2) := by decide +kernel
theorem dc_CmLaw_law_31 : decode code 31 = .ok (.iand, 1) := by decide +kernel
theorem dc_CmLaw_law_32 : decode code 32 = .ok (.tableswitch 514 0 13 #[72, 115, 158, 211, 244, 257, 280, 323, 356, 389, 412, 445, 458, 471], 72) := by decide +kernel
theorem dc_CmLaw_law_104 : decode code 104 = .ok (.aload_n 1, 1) := by decide +kernel
theorem dc_CmLaw_law_105 : decode code 105 = .ok (.aload_n 0, 1) := by decide +kernel
theorem dc_CmLaw_law_106 : decode code 106 = .ok (.iload_n 3, 1) := by decide +kernel
theorem dc_CmLaw_law_107 : decode code 107 = .ok (.iconst 1, 1) := by decide +kernel
theorem dc_CmLaw_law_108 : decode code 108 = .ok (.iadd, 1) := by decide +kernel
theorem dc_CmLaw_law_109 : decode code 109 = .ok (.iaload, 1) := by decide +kernel
theorem dc_CmLaw_law_110 : decode code 110 = .ok (.aload_n 0, 1) := by decide +kernel
theorem dc_CmLaw_law_111 : decode code 111 = .ok (.iload_n 3, 1) := by decide +kernel
theorem dc_CmLaw_law_112 : decode code 112 = .ok (.iconst 2, 1) := by decide +kernel
theorem dc_CmLaw_law_113 : decode code 113 = .ok (.iadd, 1) := by decide +kernel
theorem dc_CmLaw_law_114 : decode code 114 = .ok (.iaload, 1) := by decide +kernel
theorem dc_CmLaw_law_115 : decode code 115 = .ok (.aload_n 0, 1) := by decide +kernel
theorem dc_CmLaw_law_116 : decode code 116 = .ok (.iload_n 3, 1) := by decide +kernel
theorem dc_CmLaw_law_117 : decode code 117 = .ok (.iconst 3, 1) := by decide +kernel
theorem dc_CmLaw_law_118 : decode code 118 = .ok (.iadd, 1) := by decide +kernel
theorem dc_CmLaw_law_119 : decode code 119 = .ok (.iaload, 1) := by decide +kernel
theorem dc_CmLaw_law_120 : decode code 120 = .ok (.invokevirtual 13, 3) := by decide +kernel
theorem lk_CmLaw_13 : zk_LV "ClosureMachineLaw" 13 mm_Cm_leaf := ⟨zk_in 188 (by decide +kernel) (by decide +kernel), zk_in 189 (by decide +kernel) (by decide +kernel), zk_in 190 (by decide +kernel) (by decide +kernel)⟩
theorem dc_CmLaw_law_123 : decode code 123 = .ok (.aload_n 2, 1) := by decide +kernel
theorem dc_CmLaw_law_124 : decode code 124 = .ok (.aload_n 0, 1) := by decide +kernel
theorem dc_CmLaw_law_125 : decode code 125 = .ok (.iload_n 3, 1) := by decide +kernel
theorem dc_CmLaw_law_126 : decode code 126 = .ok (.iconst 1, 1) := by decide +kernel
theorem dc_CmLaw_law_127 : decode code 127 = .ok (.iadd, 1) := by decide +kernel
theorem dc_CmLaw_law_128 : decode code 128 = .ok (.iaload, 1) := by decide +kernel
theorem dc_CmLaw_law_129 : decode code 129 = .ok (.aload_n 0, 1) := by decide +kernel
theorem dc_CmLaw_law_130 : decode code 130 = .ok (.iload_n 3, 1) := by decide +kernel
theorem dc_CmLaw_law_131 : decode code 131 = .ok (.iconst 2, 1) := by decide +kernel
theorem dc_CmLaw_law_132 : decode code 132 = .ok (.iadd, 1) := by decide +kernel
theorem dc_CmLaw_law_133 : decode code 133 = .ok (.iaload, 1) := by decide +kernel
theorem dc_CmLaw_law_134 : decode code 134 = .ok (.aload_n 0, 1) := by decide +kernel
theorem dc_CmLaw_law_135 : decode code 135 = .ok (.iload_n 3, 1) := by decide +kernel
theorem dc_CmLaw_law_136 : decode code 136 = .ok (.iconst 3, 1) := by decide +kernel
theorem dc_CmLaw_law_137 : decode code 137 = .ok (.iadd, 1) := by decide +kernel
theorem dc_CmLaw_law_138 : decode code 138 = .ok (.iaload, 1) := by decide +kernel
theorem dc_CmLaw_law_139 : decode code 139 = .ok (.invokevirtual 17, 3) := by decide +kernel
theorem lk_CmLaw_17 : zk_LV "ClosureMachineLaw" 17 mm_Mo_leaf := ⟨zk_in 835 (by decide +kernel) (by decide +kernel), zk_in 836 (by decide +kernel) (by decide +kernel), zk_in 837 (by decide +kernel) (by decide +kernel)⟩
theorem dc_CmLaw_law_142 : decode code 142 = .ok (.if_icmp .eq 404, 3) := by decide +kernel
theorem dc_CmLaw_law_546 : decode code 546 = .ok (.iinc 3 5, 3) := by decide +kernel
theorem dc_CmLaw_law_549 : decode code 549 = .ok (.goto (-531), 3) := by decide +kernel
theorem dc_CmLaw_law_552 : decode code 552 = .ok (.iconst 1, 1) := by decide +kernel
theorem dc_CmLaw_law_553 : decode code 553 = .ok (.ireturn, 1) := by decide +kernel
theorem dc_CmLaw_law_147 : decode code 147 = .ok (.aload_n 1, 1) := by decide +kernel
theorem dc_CmLaw_law_148 : decode code 148 = .ok (.aload_n 0, 1) := by decide +kernel
theorem dc_CmLaw_law_149 : decode code 149 = .ok (.iload_n 3, 1) := by decide +kernel
theorem dc_CmLaw_law_150 : decode code 150 = .ok (.iconst 1, 1) := by decide +kernel
theorem dc_CmLaw_law_151 : decode code 151 = .ok (.iadd, 1) := by decide +kernel
theorem dc_CmLaw_law_152 : decode code 152 = .ok (.iaload, 1) := by decide +kernel
theorem dc_CmLaw_law_153 : decode code 153 = .ok (.aload_n 0, 1) := by decide +kernel
theorem dc_CmLaw_law_154 : decode code 154 = .ok (.iload_n 3, 1) := by decide +kernel
theorem dc_CmLaw_law_155 : decode code 155 = .ok (.iconst 2, 1) := by decide +kernel
theorem dc_CmLaw_law_156 : decode code 156 = .ok (.iadd, 1) := by decide +kernel
theorem dc_CmLaw_law_157 : decode code 157 = .ok (.iaload, 1) := by decide +kernel
theorem dc_CmLaw_law_158 : decode code 158 = .ok (.aload_n 0, 1) := by decide +kernel
theorem dc_CmLaw_law_159 : decode code 159 = .ok (.iload_n 3, 1) := by decide +kernel
theorem dc_CmLaw_law_160 : decode code 160 = .ok (.iconst 3, 1) := by decide +kernel
theorem dc_CmLaw_law_161 : decode code 161 = .ok (.iadd, 1) := by decide +kernel
theorem dc_CmLaw_law_162 : decode code 162 = .ok (.iaload, 1) := by decide +kernel
theorem dc_CmLaw_law_163 : decode code 163 = .ok (.invokevirtual 18, 3) := by decide +kernel
theorem lk_CmLaw_18 : zk_LV "ClosureMachineLaw" 18 mm_Cm_join := ⟨zk_in 244 (by decide +kernel) (by decide +kernel), zk_in 245 (by decide +kernel) (by decide +kernel), zk_in 246 (by decide +kernel) (by decide +kernel)⟩
theorem dc_CmLaw_law_166 : decode code 166 = .ok (.aload_n 2, 1) := by decide +kernel
theorem dc_CmLaw_law_167 : decode code 167 = .ok (.aload_n 0, 1) := by decide +kernel
theorem dc_CmLaw_law_168 : decode code 168 = .ok (.iload_n 3, 1) := by decide +kernel
theorem dc_CmLaw_law_169 : decode code 169 = .ok (.iconst 1, 1) := by decide +kernel
theorem dc_CmLaw_law_170 : decode code 170 = .ok (.iadd, 1) := by decide +kernel
theorem dc_CmLaw_law_171 : decode code 171 = .ok (.iaload, 1) := by decide +kernel
theorem dc_CmLaw_law_172 : decode code 172 = .ok (.aload_n 0, 1) := by decide +kernel
theorem dc_CmLaw_law_173 : decode code 173 = .ok (.iload_n 3, 1) := by decide +kernel
theorem dc_CmLaw_law_174 : decode code 174 = .ok (.iconst 2, 1) := by decide +kernel
theorem dc_CmLaw_law_175 : decode code 175 = .ok (.iadd, 1) := by decide +kernel
theorem dc_CmLaw_law_176 : decode code 176 = .ok (.iaload, 1) := by decide +kernel
theorem dc_CmLaw_law_177 : decode code 177 = .ok (.aload_n 0, 1) := by decide +kernel
theorem dc_CmLaw_law_178 : decode code 178 = .ok (.iload_n 3, 1) := by decide +kernel
theorem dc_CmLaw_law_179 : decode code 179 = .ok (.iconst 3, 1) := by decide +kernel
theorem dc_CmLaw_law_180 : decode code 180 = .ok (.iadd, 1) := by decide +kernel
theorem dc_CmLaw_law_181 : decode code 181 = .ok (.iaload, 1) := by decide +kernel
theorem dc_CmLaw_law_182 : decode code 182 = .ok (.invokevirtual 21, 3) := by decide +kernel
theorem lk_CmLaw_21 : zk_LV "ClosureMachineLaw" 21 mm_Mo_join := ⟨zk_in 851 (by decide +kernel) (by decide +kernel), zk_in 852 (by decide +kernel) (by decide +kernel), zk_in 853 (by decide +kernel) (by decide +kernel)⟩
theorem dc_CmLaw_law_185 : decode code 185 = .ok (.if_icmp .eq 361, 3) := by decide +kernel
theorem dc_CmLaw_law_190 : decode code 190 = .ok (.aload_n 1, 1) := by decide +kernel
theorem dc_CmLaw_law_191 : decode code 191 = .ok (.aload_n 0, 1) := by decide +kernel
theorem dc_CmLaw_law_192 : decode code 192 = .ok (.iload_n 3, 1) := by decide +kernel
theorem dc_CmLaw_law_193 : decode code 193 = .ok (.iconst 1, 1) := by decide +kernel
theorem dc_CmLaw_law_194 : decode code 194 = .ok (.iadd, 1) := by decide +kernel
theorem dc_CmLaw_law_195 : decode code 195 = .ok (.iaload, 1) := by decide +kernel
theorem dc_CmLaw_law_196 : decode code 196 = .ok (.aload_n 0, 1) := by decide +kernel
theorem dc_CmLaw_law_197 : decode code 197 = .ok (.iload_n 3, 1) := by decide +kernel
theorem dc_CmLaw_law_198 : decode code 198 = .ok (.iconst 2, 1) := by decide +kernel
theorem dc_CmLaw_law_199 : decode code 199 = .ok (.iadd, 1) := by decide +kernel
theorem dc_CmLaw_law_200 : decode code 200 = .ok (.iaload, 1) := by decide +kernel
theorem dc_CmLaw_law_201 : decode code 201 = .ok (.aload_n 0, 1) := by decide +kernel
theorem dc_CmLaw_law_202 : decode code 202 = .ok (.iload_n 3, 1) := by decide +kernel
theorem dc_CmLaw_law_203 : decode code 203 = .ok (.iconst 3, 1) := by decide +kernel
theorem dc_CmLaw_law_204 : decode code 204 = .ok (.iadd, 1) := by decide +kernel
theorem dc_CmLaw_law_205 : decode code 205 = .ok (.iaload, 1) := by decide +kernel
theorem dc_CmLaw_law_206 : decode code 206 = .ok (.aload_n 0, 1) := by decide +kernel
theorem dc_CmLaw_law_207 : decode code 207 = .ok (.iload_n 3, 1) := by decide +kernel
theorem dc_CmLaw_law_208 : decode code 208 = .ok (.iconst 4, 1) := by decide +kernel
theorem dc_CmLaw_law_209 : decode code 209 = .ok (.iadd, 1) := by decide +kernel
theorem dc_CmLaw_law_210 : decode code 210 = .ok (.iaload, 1) := by decide +kernel
theorem dc_CmLaw_law_211 : decode code 211 = .ok (.invokevirtual 22, 3) := by decide +kernel
theorem lk_CmLaw_22 : zk_LV "ClosureMachineLaw" 22 mm_Cm_binder := ⟨zk_in 279 (by decide +kernel) (by decide +kernel), zk_in 280 (by decide +kernel) (by decide +kernel), zk_in 281 (by decide +kernel) (by decide +kernel)⟩
theorem dc_CmLaw_law_214 : decode code 214 = .ok (.aload_n 2, 1) := by decide +kernel
theorem dc_CmLaw_law_215 : decode code 215 = .ok (.aload_n 0, 1) := by decide +kernel
theorem dc_CmLaw_law_216 : decode code 216 = .ok (.iload_n 3, 1) := by decide +kernel
theorem dc_CmLaw_law_217 : decode code 217 = .ok (.iconst 1, 1) := by decide +kernel
theorem dc_CmLaw_law_218 : decode code 218 = .ok (.iadd, 1) := by decide +kernel
theorem dc_CmLaw_law_219 : decode code 219 = .ok (.iaload, 1) := by decide +kernel
theorem dc_CmLaw_law_220 : decode code 220 = .ok (.aload_n 0, 1) := by decide +kernel
theorem dc_CmLaw_law_221 : decode code 221 = .ok (.iload_n 3, 1) := by decide +kernel
theorem dc_CmLaw_law_222 : decode code 222 = .ok (.iconst 2, 1) := by decide +kernel
theorem dc_CmLaw_law_223 : decode code 223 = .ok (.iadd, 1) := by decide +kernel
theorem dc_CmLaw_law_224 : decode code 224 = .ok (.iaload, 1) := by decide +kernel
theorem dc_CmLaw_law_225 : decode code 225 = .ok (.aload_n 0, 1) := by decide +kernel
theorem dc_CmLaw_law_226 : decode code 226 = .ok (.iload_n 3, 1) := by decide +kernel
theorem dc_CmLaw_law_227 : decode code 227 = .ok (.iconst 3, 1) := by decide +kernel
theorem dc_CmLaw_law_228 : decode code 228 = .ok (.iadd, 1) := by decide +kernel
theorem dc_CmLaw_law_229 : decode code 229 = .ok (.iaload, 1) := by decide +kernel
theorem dc_CmLaw_law_230 : decode code 230 = .ok (.aload_n 0, 1) := by decide +kernel
theorem dc_CmLaw_law_231 : decode code 231 = .ok (.iload_n 3, 1) := by decide +kernel
theorem dc_CmLaw_law_232 : decode code 232 = .ok (.iconst 4, 1) := by decide +kernel
theorem dc_CmLaw_law_233 : decode code 233 = .ok (.iadd, 1) := by decide +kernel
theorem dc_CmLaw_law_234 : decode code 234 = .ok (.iaload, 1) := by decide +kernel
theorem dc_CmLaw_law_235 : decode code 235 = .ok (.invokevirtual 26, 3) := by decide +kernel
theorem lk_CmLaw_26 : zk_LV "ClosureMachineLaw" 26 mm_Mo_binder := ⟨zk_in 869 (by decide +kernel) (by decide +kernel), zk_in 870 (by decide +kernel) (by decide +kernel), zk_in 871 (by decide +kernel) (by decide +kernel)⟩
theorem dc_CmLaw_law_238 : decode code 238 = .ok (.if_icmp .eq 308, 3) := by decide +kernel
theorem dc_CmLaw_law_243 : decode code 243 = .ok (.aload_n 1, 1) := by decide +kernel
theorem dc_CmLaw_law_244 : decode code 244 = .ok (.aload_n 0, 1) := by decide +kernel
theorem dc_CmLaw_law_245 : decode code 245 = .ok (.iload_n 3, 1) := by decide +kernel
theorem dc_CmLaw_law_246 : decode code 246 = .ok (.iconst 1, 1) := by decide +kernel
theorem dc_CmLaw_law_247 : decode code 247 = .ok (.iadd, 1) := by decide +kernel
theorem dc_CmLaw_law_248 : decode code 248 = .ok (.iaload, 1) := by decide +kernel
theorem dc_CmLaw_law_249 : decode code 249 = .ok (.aload_n 0, 1) := by decide +kernel
theorem dc_CmLaw_law_250 : decode code 250 = .ok (.iload_n 3, 1) := by decide +kernel
theorem dc_CmLaw_law_251 : decode code 251 = .ok (.iconst 2, 1) := by decide +kernel
theorem dc_CmLaw_law_252 : decode code 252 = .ok (.iadd, 1) := by decide +kernel
theorem dc_CmLaw_law_253 : decode code 253 = .ok (.iaload, 1) := by decide +kernel
theorem dc_CmLaw_law_254 : decode code 254 = .ok (.invokevirtual 27, 3) := by decide +kernel
theorem lk_CmLaw_27 : zk_LV "ClosureMachineLaw" 27 mm_Cm_lift := ⟨zk_in 283 (by decide +kernel) (by decide +kernel), zk_in 284 (by decide +kernel) (by decide +kernel), zk_in 285 (by decide +kernel) (by decide +kernel)⟩
theorem dc_CmLaw_law_257 : decode code 257 = .ok (.aload_n 2, 1) := by decide +kernel
theorem dc_CmLaw_law_258 : decode code 258 = .ok (.aload_n 0, 1) := by decide +kernel
theorem dc_CmLaw_law_259 : decode code 259 = .ok (.iload_n 3, 1) := by decide +kernel
theorem dc_CmLaw_law_260 : decode code 260 = .ok (.iconst 1, 1) := by decide +kernel
theorem dc_CmLaw_law_261 : decode code 261 = .ok (.iadd, 1) := by decide +kernel
theorem dc_CmLaw_law_262 : decode code 262 = .ok (.iaload, 1) := by decide +kernel
theorem dc_CmLaw_law_263 : decode code 263 = .ok (.aload_n 0, 1) := by decide +kernel
theorem dc_CmLaw_law_264 : decode code 264 = .ok (.iload_n 3, 1) := by decide +kernel
theorem dc_CmLaw_law_265 : decode code 265 = .ok (.iconst 2, 1) := by decide +kernel
theorem dc_CmLaw_law_266 : decode code 266 = .ok (.iadd, 1) := by decide +kernel
theorem dc_CmLaw_law_267 : decode code 267 = .ok (.iaload, 1) := by decide +kernel
theorem dc_CmLaw_law_268 : decode code 268 = .ok (.invokevirtual 31, 3) := by decide +kernel
theorem lk_CmLaw_31 : zk_LV "ClosureMachineLaw" 31 mm_Mo_lift := ⟨zk_in 873 (by decide +kernel) (by decide +kernel), zk_in 874 (by decide +kernel) (by decide +kernel), zk_in 875 (by decide +kernel) (by decide +kernel)⟩
theorem dc_CmLaw_law_271 : decode code 271 = .ok (.if_icmp .eq 275, 3) := by decide +kernel
theorem dc_CmLaw_law_276 : decode code 276 = .ok (.aload_n 1, 1) := by decide +kernel
theorem dc_CmLaw_law_277 : decode code 277 = .ok (.invokevirtual 32, 3) := by decide +kernel
theorem lk_CmLaw_32 : zk_LV "ClosureMachineLaw" 32 mm_Cm_axiom := ⟨zk_in 303 (by decide +kernel) (by decide +kernel), zk_in 304 (by decide +kernel) (by decide +kernel), zk_in 305 (by decide +kernel) (by decide +kernel)⟩
theorem dc_CmLaw_law_280 : decode code 280 = .ok (.aload_n 2, 1) := by decide +kernel
theorem dc_CmLaw_law_281 : decode code 281 = .ok (.invokevirtual 36, 3) := by decide +kernel
theorem lk_CmLaw_36 : zk_LV "ClosureMachineLaw" 36 mm_Mo_axiom := ⟨zk_in 885 (by decide +kernel) (by decide +kernel), zk_in 886 (by decide +kernel) (by decide +kernel), zk_in 887 (by decide +kernel) (by decide +kernel)⟩
theorem dc_CmLaw_law_284 : decode code 284 = .ok (.if_icmp .eq 262, 3) := by decide +kernel
theorem dc_CmLaw_law_289 : decode code 289 = .ok (.aload_n 1, 1) := by decide +kernel
theorem dc_CmLaw_law_290 : decode code 290 = .ok (.aload_n 0, 1) := by decide +kernel
theorem dc_CmLaw_law_291 : decode code 291 = .ok (.iload_n 3, 1) := by decide +kernel
theorem dc_CmLaw_law_292 : decode code 292 = .ok (.iconst 1, 1) := by decide +kernel
theorem dc_CmLaw_law_293 : decode code 293 = .ok (.iadd, 1) := by decide +kernel
theorem dc_CmLaw_law_294 : decode code 294 = .ok (.iaload, 1) := by decide +kernel
theorem dc_CmLaw_law_295 : decode code 295 = .ok (.invokevirtual 37, 3) := by decide +kernel
theorem lk_CmLaw_37 : zk_LV "ClosureMachineLaw" 37 mm_Cm_def := ⟨zk_in 368 (by decide +kernel) (by decide +kernel), zk_in 369 (by decide +kernel) (by decide +kernel), zk_in 370 (by decide +kernel) (by decide +kernel)⟩
theorem dc_CmLaw_law_298 : decode code 298 = .ok (.aload_n 2, 1) := by decide +kernel
theorem dc_CmLaw_law_299 : decode code 299 = .ok (.aload_n 0, 1) := by decide +kernel
theorem dc_CmLaw_law_300 : decode code 300 = .ok (.iload_n 3, 1) := by decide +kernel
theorem dc_CmLaw_law_301 : decode code 301 = .ok (.iconst 1, 1) := by decide +kernel
theorem dc_CmLaw_law_302 : decode code 302 = .ok (.iadd, 1) := by decide +kernel
theorem dc_CmLaw_law_303 : decode code 303 = .ok (.iaload, 1) := by decide +kernel
theorem dc_CmLaw_law_304 : decode code 304 = .ok (.invokevirtual 41, 3) := by decide +kernel
theorem lk_CmLaw_41 : zk_LV "ClosureMachineLaw" 41 mm_Mo_def := ⟨zk_in 893 (by decide +kernel) (by decide +kernel), zk_in 894 (by decide +kernel) (by decide +kernel), zk_in 895 (by decide +kernel) (by decide +kernel)⟩
theorem dc_CmLaw_law_307 : decode code 307 = .ok (.if_icmp .eq 239, 3) := by decide +kernel
theorem dc_CmLaw_law_312 : decode code 312 = .ok (.aload_n 1, 1) := by decide +kernel
theorem dc_CmLaw_law_313 : decode code 313 = .ok (.aload_n 0, 1) := by decide +kernel
theorem dc_CmLaw_law_314 : decode code 314 = .ok (.iload_n 3, 1) := by decide +kernel
theorem dc_CmLaw_law_315 : decode code 315 = .ok (.iconst 1, 1) := by decide +kernel
theorem dc_CmLaw_law_316 : decode code 316 = .ok (.iadd, 1) := by decide +kernel
theorem dc_CmLaw_law_317 : decode code 317 = .ok (.iaload, 1) := by decide +kernel
theorem dc_CmLaw_law_318 : decode code 318 = .ok (.aload_n 0, 1) := by decide +kernel
theorem dc_CmLaw_law_319 : decode code 319 = .ok (.iload_n 3, 1) := by decide +kernel
theorem dc_CmLaw_law_320 : decode code 320 = .ok (.iconst 2, 1) := by decide +kernel
theorem dc_CmLaw_law_321 : decode code 321 = .ok (.iadd, 1) := by decide +kernel
theorem dc_CmLaw_law_322 : decode code 322 = .ok (.iaload, 1) := by decide +kernel
theorem dc_CmLaw_law_323 : decode code 323 = .ok (.aload_n 0, 1) := by decide +kernel
theorem dc_CmLaw_law_324 : decode code 324 = .ok (.iload_n 3, 1) := by decide +kernel
theorem dc_CmLaw_law_325 : decode code 325 = .ok (.iconst 3, 1) := by decide +kernel
theorem dc_CmLaw_law_326 : decode code 326 = .ok (.iadd, 1) := by decide +kernel
theorem dc_CmLaw_law_327 : decode code 327 = .ok (.iaload, 1) := by decide +kernel
theorem dc_CmLaw_law_328 : decode code 328 = .ok (.invokevirtual 42, 3) := by decide +kernel
theorem lk_CmLaw_42 : zk_LV "ClosureMachineLaw" 42 mm_Cm_family := ⟨zk_in 374 (by decide +kernel) (by decide +kernel), zk_in 375 (by decide +kernel) (by decide +kernel), zk_in 376 (by decide +kernel) (by decide +kernel)⟩
theorem dc_CmLaw_law_331 : decode code 331 = .ok (.aload_n 2, 1) := by decide +kernel
theorem dc_CmLaw_law_332 : decode code 332 = .ok (.aload_n 0, 1) := by decide +kernel
theorem dc_CmLaw_law_333 : decode code 333 = .ok (.iload_n 3, 1) := by decide +kernel
theorem dc_CmLaw_law_334 : decode code 334 = .ok (.iconst 1, 1) := by decide +kernel
theorem dc_CmLaw_law_335 : decode code 335 = .ok (.iadd, 1) := by decide +kernel
theorem dc_CmLaw_law_336 : decode code 336 = .ok (.iaload, 1) := by decide +kernel
theorem dc_CmLaw_law_337 : decode code 337 = .ok (.aload_n 0, 1) := by decide +kernel
theorem dc_CmLaw_law_338 : decode code 338 = .ok (.iload_n 3, 1) := by decide +kernel
theorem dc_CmLaw_law_339 : decode code 339 = .ok (.iconst 2, 1) := by decide +kernel
theorem dc_CmLaw_law_340 : decode code 340 = .ok (.iadd, 1) := by decide +kernel
theorem dc_CmLaw_law_341 : decode code 341 = .ok (.iaload, 1) := by decide +kernel
theorem dc_CmLaw_law_342 : decode code 342 = .ok (.aload_n 0, 1) := by decide +kernel
theorem dc_CmLaw_law_343 : decode code 343 = .ok (.iload_n 3, 1) := by decide +kernel
theorem dc_CmLaw_law_344 : decode code 344 = .ok (.iconst 3, 1) := by decide +kernel
theorem dc_CmLaw_law_345 : decode code 345 = .ok (.iadd, 1) := by decide +kernel
theorem dc_CmLaw_law_346 : decode code 346 = .ok (.iaload, 1) := by decide +kernel
theorem dc_CmLaw_law_347 : decode code 347 = .ok (.invokevirtual 45, 3) := by decide +kernel
theorem lk_CmLaw_45 : zk_LV "ClosureMachineLaw" 45 mm_Mo_family := ⟨zk_in 897 (by decide +kernel) (by decide +kernel), zk_in 898 (by decide +kernel) (by decide +kernel), zk_in 899 (by decide +kernel) (by decide +kernel)⟩
theorem dc_CmLaw_law_350 : decode code 350 = .ok (.if_icmp .eq 196, 3) := by decide +kernel
theorem dc_CmLaw_law_355 : decode code 355 = .ok (.aload_n 1, 1) := by decide +kernel
theorem dc_CmLaw_law_356 : decode code 356 = .ok (.aload_n 0, 1) := by decide +kernel
theorem dc_CmLaw_law_357 : decode code 357 = .ok (.iload_n 3, 1) := by decide +kernel
theorem dc_CmLaw_law_358 : decode code 358 = .ok (.iconst 1, 1) := by decide +kernel
theorem dc_CmLaw_law_359 : decode code 359 = .ok (.iadd, 1) := by decide +kernel
theorem dc_CmLaw_law_360 : decode code 360 = .ok (.iaload, 1) := by decide +kernel
theorem dc_CmLaw_law_361 : decode code 361 = .ok (.aload_n 0, 1) := by decide +kernel
theorem dc_CmLaw_law_362 : decode code 362 = .ok (.iload_n 3, 1) := by decide +kernel
theorem dc_CmLaw_law_363 : decode code 363 = .ok (.iconst 2, 1) := by decide +kernel
theorem dc_CmLaw_law_364 : decode code 364 = .ok (.iadd, 1) := by decide +kernel
theorem dc_CmLaw_law_365 : decode code 365 = .ok (.iaload, 1) := by decide +kernel
theorem dc_CmLaw_law_366 : decode code 366 = .ok (.invokevirtual 46, 3) := by decide +kernel
theorem lk_CmLaw_46 : zk_LV "ClosureMachineLaw" 46 mm_Cm_constructor := ⟨zk_in 384 (by decide +kernel) (by decide +kernel), zk_in 385 (by decide +kernel) (by decide +kernel), zk_in 386 (by decide +kernel) (by decide +kernel)⟩
theorem dc_CmLaw_law_369 : decode code 369 = .ok (.aload_n 2, 1) := by decide +kernel
theorem dc_CmLaw_law_370 : decode code 370 = .ok (.aload_n 0, 1) := by decide +kernel
theorem dc_CmLaw_law_371 : decode code 371 = .ok (.iload_n 3, 1) := by decide +kernel
theorem dc_CmLaw_law_372 : decode code 372 = .ok (.iconst 1, 1) := by decide +kernel
theorem dc_CmLaw_law_373 : decode code 373 = .ok (.iadd, 1) := by decide +kernel
theorem dc_CmLaw_law_374 : decode code 374 = .ok (.iaload, 1) := by decide +kernel
theorem dc_CmLaw_law_375 : decode code 375 = .ok (.aload_n 0, 1) := by decide +kernel
theorem dc_CmLaw_law_376 : decode code 376 = .ok (.iload_n 3, 1) := by decide +kernel
theorem dc_CmLaw_law_377 : decode code 377 = .ok (.iconst 2, 1) := by decide +kernel
theorem dc_CmLaw_law_378 : decode code 378 = .ok (.iadd, 1) := by decide +kernel
theorem dc_CmLaw_law_379 : decode code 379 = .ok (.iaload, 1) := by decide +kernel
theorem dc_CmLaw_law_380 : decode code 380 = .ok (.invokevirtual 49, 3) := by decide +kernel
theorem lk_CmLaw_49 : zk_LV "ClosureMachineLaw" 49 mm_Mo_constructor := ⟨zk_in 901 (by decide +kernel) (by decide +kernel), zk_in 902 (by decide +kernel) (by decide +kernel), zk_in 903 (by decide +kernel) (by decide +kernel)⟩
theorem dc_CmLaw_law_383 : decode code 383 = .ok (.if_icmp .eq 163, 3) := by decide +kernel
theorem dc_CmLaw_law_388 : decode code 388 = .ok (.aload_n 1, 1) := by decide +kernel
theorem dc_CmLaw_law_389 : decode code 389 = .ok (.aload_n 0, 1) := by decide +kernel
theorem dc_CmLaw_law_390 : decode code 390 = .ok (.iload_n 3, 1) := by decide +kernel
theorem dc_CmLaw_law_391 : decode code 391 = .ok (.iconst 1, 1) := by decide +kernel
theorem dc_CmLaw_law_392 : decode code 392 = .ok (.iadd, 1) := by decide +kernel
theorem dc_CmLaw_law_393 : decode code 393 = .ok (.iaload, 1) := by decide +kernel
theorem dc_CmLaw_law_394 : decode code 394 = .ok (.aload_n 0, 1) := by decide +kernel
theorem dc_CmLaw_law_395 : decode code 395 = .ok (.iload_n 3, 1) := by decide +kernel
theorem dc_CmLaw_law_396 : decode code 396 = .ok (.iconst 2, 1) := by decide +kernel
theorem dc_CmLaw_law_397 : decode code 397 = .ok (.iadd, 1) := by decide +kernel
theorem dc_CmLaw_law_398 : decode code 398 = .ok (.iaload, 1) := by decide +kernel
theorem dc_CmLaw_law_399 : decode code 399 = .ok (.invokevirtual 50, 3) := by decide +kernel
theorem lk_CmLaw_50 : zk_LV "ClosureMachineLaw" 50 mm_Cm_head := ⟨zk_in 419 (by decide +kernel) (by decide +kernel), zk_in 420 (by decide +kernel) (by decide +kernel), zk_in 421 (by decide +kernel) (by decide +kernel)⟩
theorem dc_CmLaw_law_402 : decode code 402 = .ok (.aload_n 2, 1) := by decide +kernel
theorem dc_CmLaw_law_403 : decode code 403 = .ok (.aload_n 0, 1) := by decide +kernel
theorem dc_CmLaw_law_404 : decode code 404 = .ok (.iload_n 3, 1) := by decide +kernel
theorem dc_CmLaw_law_405 : decode code 405 = .ok (.iconst 1, 1) := by decide +kernel
theorem dc_CmLaw_law_406 : decode code 406 = .ok (.iadd, 1) := by decide +kernel
theorem dc_CmLaw_law_407 : decode code 407 = .ok (.iaload, 1) := by decide +kernel
theorem dc_CmLaw_law_408 : decode code 408 = .ok (.aload_n 0, 1) := by decide +kernel
theorem dc_CmLaw_law_409 : decode code 409 = .ok (.iload_n 3, 1) := by decide +kernel
theorem dc_CmLaw_law_410 : decode code 410 = .ok (.iconst 2, 1) := by decide +kernel
theorem dc_CmLaw_law_411 : decode code 411 = .ok (.iadd, 1) := by decide +kernel
theorem dc_CmLaw_law_412 : decode code 412 = .ok (.iaload, 1) := by decide +kernel
theorem dc_CmLaw_law_413 : decode code 413 = .ok (.invokevirtual 53, 3) := by decide +kernel
theorem lk_CmLaw_53 : zk_LV "ClosureMachineLaw" 53 mm_Mo_head := ⟨zk_in 921 (by decide +kernel) (by decide +kernel), zk_in 922 (by decide +kernel) (by decide +kernel), zk_in 923 (by decide +kernel) (by decide +kernel)⟩
theorem dc_CmLaw_law_416 : decode code 416 = .ok (.if_icmp .eq 130, 3) := by decide +kernel
theorem dc_CmLaw_law_421 : decode code 421 = .ok (.aload_n 1, 1) := by decide +kernel
theorem dc_CmLaw_law_422 : decode code 422 = .ok (.aload_n 0, 1) := by decide +kernel
theorem dc_CmLaw_law_423 : decode code 423 = .ok (.iload_n 3, 1) := by decide +kernel
theorem dc_CmLaw_law_424 : decode code 424 = .ok (.iconst 1, 1) := by decide +kernel
theorem dc_CmLaw_law_425 : decode code 425 = .ok (.iadd, 1) := by decide +kernel
theorem dc_CmLaw_law_426 : decode code 426 = .ok (.iaload, 1) := by decide +kernel
theorem dc_CmLaw_law_427 : decode code 427 = .ok (.invokevirtual 54, 3) := by decide +kernel
theorem lk_CmLaw_54 : zk_LV "ClosureMachineLaw" 54 mm_Cm_found := ⟨zk_in 567 (by decide +kernel) (by decide +kernel), zk_in 568 (by decide +kernel) (by decide +kernel), zk_in 569 (by decide +kernel) (by decide +kernel)⟩
theorem dc_CmLaw_law_430 : decode code 430 = .ok (.aload_n 2, 1) := by decide +kernel
theorem dc_CmLaw_law_431 : decode code 431 = .ok (.aload_n 0, 1) := by decide +kernel
theorem dc_CmLaw_law_432 : decode code 432 = .ok (.iload_n 3, 1) := by decide +kernel
theorem dc_CmLaw_law_433 : decode code 433 = .ok (.iconst 1, 1) := by decide +kernel
theorem dc_CmLaw_law_434 : decode code 434 = .ok (.iadd, 1) := by decide +kernel
theorem dc_CmLaw_law_435 : decode code 435 = .ok (.iaload, 1) := by decide +kernel
theorem dc_CmLaw_law_436 : decode code 436 = .ok (.invokevirtual 57, 3) := by decide +kernel
theorem lk_CmLaw_57 : zk_LV "ClosureMachineLaw" 57 mm_Mo_found := ⟨zk_in 1011 (by decide +kernel) (by decide +kernel), zk_in 1012 (by decide +kernel) (by decide +kernel), zk_in 1013 (by decide +kernel) (by decide +kernel)⟩
theorem dc_CmLaw_law_439 : decode code 439 = .ok (.if_icmp .eq 107, 3) := by decide +kernel
theorem dc_CmLaw_law_444 : decode code 444 = .ok (.aload_n 1, 1) := by decide +kernel
theorem dc_CmLaw_law_445 : decode code 445 = .ok (.aload_n 0, 1) := by decide +kernel
theorem dc_CmLaw_law_446 : decode code 446 = .ok (.iload_n 3, 1) := by decide +kernel
theorem dc_CmLaw_law_447 : decode code 447 = .ok (.iconst 1, 1) := by decide +kernel
theorem dc_CmLaw_law_448 : decode code 448 = .ok (.iadd, 1) := by decide +kernel
theorem dc_CmLaw_law_449 : decode code 449 = .ok (.iaload, 1) := by decide +kernel
theorem dc_CmLaw_law_450 : decode code 450 = .ok (.aload_n 0, 1) := by decide +kernel
theorem dc_CmLaw_law_451 : decode code 451 = .ok (.iload_n 3, 1) := by decide +kernel
theorem dc_CmLaw_law_452 : decode code 452 = .ok (.iconst 2, 1) := by decide +kernel
theorem dc_CmLaw_law_453 : decode code 453 = .ok (.iadd, 1) := by decide +kernel
theorem dc_CmLaw_law_454 : decode code 454 = .ok (.iaload, 1) := by decide +kernel
theorem dc_CmLaw_law_455 : decode code 455 = .ok (.invokevirtual 58, 3) := by decide +kernel
theorem lk_CmLaw_58 : zk_LV "ClosureMachineLaw" 58 mm_Cm_normal := ⟨zk_in 571 (by decide +kernel) (by decide +kernel), zk_in 572 (by decide +kernel) (by decide +kernel), zk_in 573 (by decide +kernel) (by decide +kernel)⟩
theorem dc_CmLaw_law_458 : decode code 458 = .ok (.aload_n 2, 1) := by decide +kernel
theorem dc_CmLaw_law_459 : decode code 459 = .ok (.aload_n 0, 1) := by decide +kernel
theorem dc_CmLaw_law_460 : decode code 460 = .ok (.iload_n 3, 1) := by decide +kernel
theorem dc_CmLaw_law_461 : decode code 461 = .ok (.iconst 1, 1) := by decide +kernel
theorem dc_CmLaw_law_462 : decode code 462 = .ok (.iadd, 1) := by decide +kernel
theorem dc_CmLaw_law_463 : decode code 463 = .ok (.iaload, 1) := by decide +kernel
theorem dc_CmLaw_law_464 : decode code 464 = .ok (.aload_n 0, 1) := by decide +kernel
theorem dc_CmLaw_law_465 : decode code 465 = .ok (.iload_n 3, 1) := by decide +kernel
theorem dc_CmLaw_law_466 : decode code 466 = .ok (.iconst 2, 1) := by decide +kernel
theorem dc_CmLaw_law_467 : decode code 467 = .ok (.iadd, 1) := by decide +kernel
theorem dc_CmLaw_law_468 : decode code 468 = .ok (.iaload, 1) := by decide +kernel
theorem dc_CmLaw_law_469 : decode code 469 = .ok (.invokevirtual 61, 3) := by decide +kernel
theorem lk_CmLaw_61 : zk_LV "ClosureMachineLaw" 61 mm_Mo_normal := ⟨zk_in 1015 (by decide +kernel) (by decide +kernel), zk_in 1016 (by decide +kernel) (by decide +kernel), zk_in 1017 (by decide +kernel) (by decide +kernel)⟩
theorem dc_CmLaw_law_472 : decode code 472 = .ok (.if_icmp .eq 74, 3) := by decide +kernel
theorem dc_CmLaw_law_477 : decode code 477 = .ok (.aload_n 1, 1) := by decide +kernel
theorem dc_CmLaw_law_478 : decode code 478 = .ok (.invokevirtual 62, 3) := by decide +kernel
theorem lk_CmLaw_62 : zk_LV "ClosureMachineLaw" 62 mm_Cm_cost := ⟨zk_in 623 (by decide +kernel) (by decide +kernel), zk_in 624 (by decide +kernel) (by decide +kernel), zk_in 625 (by decide +kernel) (by decide +kernel)⟩
theorem dc_CmLaw_law_481 : decode code 481 = .ok (.aload_n 2, 1) := by decide +kernel
theorem dc_CmLaw_law_482 : decode code 482 = .ok (.invokevirtual 65, 3) := by decide +kernel
theorem lk_CmLaw_65 : zk_LV "ClosureMachineLaw" 65 mm_Mo_cost := ⟨zk_in 1042 (by decide +kernel) (by decide +kernel), zk_in 1043 (by decide +kernel) (by decide +kernel), zk_in 1044 (by decide +kernel) (by decide +kernel)⟩
theorem dc_CmLaw_law_485 : decode code 485 = .ok (.if_icmp .eq 61, 3) := by decide +kernel
theorem dc_CmLaw_law_490 : decode code 490 = .ok (.aload_n 1, 1) := by decide +kernel
theorem dc_CmLaw_law_491 : decode code 491 = .ok (.invokevirtual 66, 3) := by decide +kernel
theorem lk_CmLaw_66 : zk_LV "ClosureMachineLaw" 66 mm_Cm_terms := ⟨zk_in 627 (by decide +kernel) (by decide +kernel), zk_in 628 (by decide +kernel) (by decide +kernel), zk_in 629 (by decide +kernel) (by decide +kernel)⟩
theorem dc_CmLaw_law_494 : decode code 494 = .ok (.aload_n 2, 1) := by decide +kernel
theorem dc_CmLaw_law_495 : decode code 495 = .ok (.invokevirtual 69, 3) := by decide +kernel
theorem lk_CmLaw_69 : zk_LV "ClosureMachineLaw" 69 mm_Mo_terms := ⟨zk_in 877 (by decide +kernel) (by decide +kernel), zk_in 878 (by decide +kernel) (by decide +kernel), zk_in 879 (by decide +kernel) (by decide +kernel)⟩
theorem dc_CmLaw_law_498 : decode code 498 = .ok (.if_icmp .eq 48, 3) := by decide +kernel
theorem dc_CmLaw_law_503 : decode code 503 = .ok (.aload_n 1, 1) := by decide +kernel
theorem dc_CmLaw_law_504 : decode code 504 = .ok (.aload_n 0, 1) := by decide +kernel
theorem dc_CmLaw_law_505 : decode code 505 = .ok (.iload_n 3, 1) := by decide +kernel
theorem dc_CmLaw_law_506 : decode code 506 = .ok (.iconst 1, 1) := by decide +kernel
theorem dc_CmLaw_law_507 : decode code 507 = .ok (.iadd, 1) := by decide +kernel
theorem dc_CmLaw_law_508 : decode code 508 = .ok (.iaload, 1) := by decide +kernel
theorem dc_CmLaw_law_509 : decode code 509 = .ok (.aload_n 0, 1) := by decide +kernel
theorem dc_CmLaw_law_510 : decode code 510 = .ok (.iload_n 3, 1) := by decide +kernel
theorem dc_CmLaw_law_511 : decode code 511 = .ok (.iconst 2, 1) := by decide +kernel
theorem dc_CmLaw_law_512 : decode code 512 = .ok (.iadd, 1) := by decide +kernel
theorem dc_CmLaw_law_513 : decode code 513 = .ok (.iaload, 1) := by decide +kernel
theorem dc_CmLaw_law_514 : decode code 514 = .ok (.aload_n 0, 1) := by decide +kernel
theorem dc_CmLaw_law_515 : decode code 515 = .ok (.iload_n 3, 1) := by decide +kernel
theorem dc_CmLaw_law_516 : decode code 516 = .ok (.iconst 3, 1) := by decide +kernel
theorem dc_CmLaw_law_517 : decode code 517 = .ok (.iadd, 1) := by decide +kernel
theorem dc_CmLaw_law_518 : decode code 518 = .ok (.iaload, 1) := by decide +kernel
theorem dc_CmLaw_law_519 : decode code 519 = .ok (.invokevirtual 70, 3) := by decide +kernel
theorem lk_CmLaw_70 : zk_LV "ClosureMachineLaw" 70 mm_Cm_part := ⟨zk_in 635 (by decide +kernel) (by decide +kernel), zk_in 636 (by decide +kernel) (by decide +kernel), zk_in 637 (by decide +kernel) (by decide +kernel)⟩
theorem dc_CmLaw_law_522 : decode code 522 = .ok (.aload_n 2, 1) := by decide +kernel
theorem dc_CmLaw_law_523 : decode code 523 = .ok (.aload_n 0, 1) := by decide +kernel
theorem dc_CmLaw_law_524 : decode code 524 = .ok (.iload_n 3, 1) := by decide +kernel
theorem dc_CmLaw_law_525 : decode code 525 = .ok (.iconst 1, 1) := by decide +kernel
theorem dc_CmLaw_law_526 : decode code 526 = .ok (.iadd, 1) := by decide +kernel
theorem dc_CmLaw_law_527 : decode code 527 = .ok (.iaload, 1) := by decide +kernel
theorem dc_CmLaw_law_528 : decode code 528 = .ok (.aload_n 0, 1) := by decide +kernel
theorem dc_CmLaw_law_529 : decode code 529 = .ok (.iload_n 3, 1) := by decide +kernel
theorem dc_CmLaw_law_530 : decode code 530 = .ok (.iconst 2, 1) := by decide +kernel
theorem dc_CmLaw_law_531 : decode code 531 = .ok (.iadd, 1) := by decide +kernel
theorem dc_CmLaw_law_532 : decode code 532 = .ok (.iaload, 1) := by decide +kernel
theorem dc_CmLaw_law_533 : decode code 533 = .ok (.aload_n 0, 1) := by decide +kernel
theorem dc_CmLaw_law_534 : decode code 534 = .ok (.iload_n 3, 1) := by decide +kernel
theorem dc_CmLaw_law_535 : decode code 535 = .ok (.iconst 3, 1) := by decide +kernel
theorem dc_CmLaw_law_536 : decode code 536 = .ok (.iadd, 1) := by decide +kernel
theorem dc_CmLaw_law_537 : decode code 537 = .ok (.iaload, 1) := by decide +kernel
theorem dc_CmLaw_law_538 : decode code 538 = .ok (.invokevirtual 73, 3) := by decide +kernel
theorem lk_CmLaw_73 : zk_LV "ClosureMachineLaw" 73 mm_Mo_part := ⟨zk_in 881 (by decide +kernel) (by decide +kernel), zk_in 882 (by decide +kernel) (by decide +kernel), zk_in 883 (by decide +kernel) (by decide +kernel)⟩
theorem dc_CmLaw_law_541 : decode code 541 = .ok (.if_icmp .eq 5, 3) := by decide +kernel
theorem dc_CmLaw_law_0 : decode code 0 = .ok (.new 7, 3) := by decide +kernel
theorem nw_CmLaw_7 : zk_N "ClosureMachineLaw" 7 6 9 [.null, .null, .null, .null, .null, .int 0, .int 0, .int 0, .int 0] := ⟨rc_6, tc_6, yc_6, rfl, zk_in 14 (by decide +kernel) (by decide +kernel), zk_in 15 (by decide +kernel) (by decide +kernel), zk_in 1 (by decide +kernel) (by decide +kernel), yk_6, by decide +kernel⟩
theorem dc_CmLaw_law_3 : decode code 3 = .ok (.dup, 1) := by decide +kernel
theorem dc_CmLaw_law_4 : decode code 4 = .ok (.invokespecial 9, 3) := by decide +kernel
theorem lk_CmLaw_9 : zk_LI "ClosureMachineLaw" 9 mm_Cm_init := ⟨zk_in 16 (by decide +kernel) (by decide +kernel), zk_in 17 (by decide +kernel) (by decide +kernel), rfl, rfl⟩
theorem dc_CmLaw_law_7 : decode code 7 = .ok (.astore_n 1, 1) := by decide +kernel
theorem dc_CmLaw_law_8 : decode code 8 = .ok (.new 10, 3) := by decide +kernel
theorem nw_CmLaw_10 : zk_N "ClosureMachineLaw" 10 9 48 [.null, .null, .null, .null, .int 0, .int 0, .null, .null, .null, .null, .null, .null, .null, .null, .int 0, .null, .null, .null, .null, .int 0, .int 0, .int 0, .int 0, .int 0, .int 0, .null, .null, .null, .null, .int 0, .null, .null, .null, .int 0, .null, .null, .null, .null, .int 0, .null, .int 0, .null, .int 0, .int 0, .int 0, .int 0, .int 0, .int 0] := ⟨rc_9, tc_9, yc_9, rfl, zk_in 649 (by decide +kernel) (by decide +kernel), zk_in 650 (by decide +kernel) (by decide +kernel), zk_in 8 (by decide +kernel) (by decide +kernel), yk_9, by decide +kernel⟩
theorem dc_CmLaw_law_11 : decode code 11 = .ok (.dup, 1) := by decide +kernel
theorem dc_CmLaw_law_12 : decode code 12 = .ok (.invokespecial 12, 3) := by decide +kernel
theorem lk_CmLaw_12 : zk_LI "ClosureMachineLaw" 12 mm_Mo_init := ⟨zk_in 651 (by decide +kernel) (by decide +kernel), zk_in 652 (by decide +kernel) (by decide +kernel), rfl, rfl⟩
theorem dc_CmLaw_law_15 : decode code 15 = .ok (.astore_n 2, 1) := by decide +kernel
theorem dc_CmLaw_law_16 : decode code 16 = .ok (.iconst 0, 1) := by decide +kernel
theorem dc_CmLaw_law_17 : decode code 17 = .ok (.istore_n 3, 1) := by decide +kernel
