theorem g16 {o : Bool} {c : Nat → Int32} {n d m S : Nat} (h : gg o c n d 16 m S) : (c m = 159 ∧ gg o c n d 15 (m + 1) S) ∨ (¬ c m = 159 ∧ S = m ∧ 0 < n) := by
  cases n with
  | zero => exact h.elim
  | succ n =>
    rcases gg_out h with h | h
    · exact Or.inl ⟨h.1, gg_s _ _ _ _ _ h.2⟩
    · exact Or.inr ⟨h.1, h.2, Nat.succ_pos n⟩
theorem kb13 {x : Int32} (h : x = 1 ∨ x = 2 ∨ x = 3) : kb 1 x 3 := by
  rcases h with h | h | h <;> rw [h] <;> exact ⟨by decide +kernel, by decide +kernel⟩
theorem eS_f {f : Nat → Int32} {a : Nat → Nat → Int32} {t : Nat} {ob : Bool} (h : eS f a t ob) {k : Nat} {v : Int32} (n1 : (23 : Nat) ≠ k) (n2 : (25 : Nat) ≠ k) : eS (upd f k v) a t ob := ⟨h.1, by rw [pk_un n1]; exact h.2.1, by rw [pk_un n2]; exact h.2.2.1, h.2.2.2⟩
theorem mC_lS {f : Nat → Int32} {a : Nat → Nat → Int32} {t i : Nat} {ob : Bool} (hS : eS f a t ob) (h : ¬ mC (a 2) t i = 0) : (i : Int) < (a 2 (107 + t)).toInt := by
  unfold mC at h
  by_cases q : (i : Int) < (a 2 (107 + t)).toInt
  · exact q
  · rw [if_neg q] at h; exact absurd rfl h
theorem g16_le {f : Nat → Int32} {a : Nat → Nat → Int32} {t m S n : Nat} {ob o : Bool} {d : Nat} (hS : eS f a t ob) (e : (S : Int) = (a 2 (107 + t)).toInt) (h : (mC (a 2) t m = 159 ∧ gg o (mC (a 2) t) n d 15 (m + 1) S) ∨ (¬ mC (a 2) t m = 159 ∧ S = m ∧ 0 < n)) : m ≤ 401 := by
  have := hS.2.2.2.2
  rcases h with h | h
  · have := mC_lt hS (ne_0 h.1 (by decide +kernel)); omega
  · omega
theorem dX12_tells_0 : decode cX12_tells 0 = .ok (.aload_n 0, 1) := by decide +kernel
theorem dX12_tells_1 : decode cX12_tells 1 = .ok (.getfield 24, 3) := by decide +kernel
theorem dX12_tells_4 : decode cX12_tells 4 = .ok (.bipush 106, 2) := by decide +kernel
theorem dX12_tells_6 : decode cX12_tells 6 = .ok (.iaload, 1) := by decide +kernel
theorem dX12_tells_7 : decode cX12_tells 7 = .ok (.iconst (-1), 1) := by decide +kernel
theorem dX12_tells_8 : decode cX12_tells 8 = .ok (.if_icmp .ne 6, 3) := by decide +kernel
theorem dX12_tells_11 : decode cX12_tells 11 = .ok (.iload 5, 2) := by decide +kernel
theorem dX12_tells_13 : decode cX12_tells 13 = .ok (.ireturn, 1) := by decide +kernel
theorem dX12_tells_14 : decode cX12_tells 14 = .ok (.aload_n 0, 1) := by decide +kernel
theorem dX12_tells_15 : decode cX12_tells 15 = .ok (.getfield 59, 3) := by decide +kernel
theorem dX12_tells_18 : decode cX12_tells 18 = .ok (.iconst 0, 1) := by decide +kernel
theorem dX12_tells_19 : decode cX12_tells 19 = .ok (.iload_n 2, 1) := by decide +kernel
theorem dX12_tells_20 : decode cX12_tells 20 = .ok (.iastore, 1) := by decide +kernel
theorem dX12_tells_21 : decode cX12_tells 21 = .ok (.aload_n 0, 1) := by decide +kernel
theorem dX12_tells_22 : decode cX12_tells 22 = .ok (.getfield 59, 3) := by decide +kernel
theorem dX12_tells_25 : decode cX12_tells 25 = .ok (.iconst 1, 1) := by decide +kernel
theorem dX12_tells_26 : decode cX12_tells 26 = .ok (.aload_n 0, 1) := by decide +kernel
theorem dX12_tells_27 : decode cX12_tells 27 = .ok (.getfield 24, 3) := by decide +kernel
theorem dX12_tells_30 : decode cX12_tells 30 = .ok (.bipush 69, 2) := by decide +kernel
theorem dX12_tells_32 : decode cX12_tells 32 = .ok (.iload_n 2, 1) := by decide +kernel
theorem dX12_tells_33 : decode cX12_tells 33 = .ok (.iadd, 1) := by decide +kernel
theorem dX12_tells_34 : decode cX12_tells 34 = .ok (.iaload, 1) := by decide +kernel
theorem dX12_tells_35 : decode cX12_tells 35 = .ok (.iastore, 1) := by decide +kernel
theorem dX12_tells_36 : decode cX12_tells 36 = .ok (.aload_n 0, 1) := by decide +kernel
theorem dX12_tells_37 : decode cX12_tells 37 = .ok (.getfield 59, 3) := by decide +kernel
theorem dX12_tells_40 : decode cX12_tells 40 = .ok (.iconst 2, 1) := by decide +kernel
theorem dX12_tells_41 : decode cX12_tells 41 = .ok (.iload_n 3, 1) := by decide +kernel
theorem dX12_tells_42 : decode cX12_tells 42 = .ok (.iastore, 1) := by decide +kernel
theorem dX12_tells_43 : decode cX12_tells 43 = .ok (.aload_n 0, 1) := by decide +kernel
theorem dX12_tells_44 : decode cX12_tells 44 = .ok (.getfield 59, 3) := by decide +kernel
theorem dX12_tells_47 : decode cX12_tells 47 = .ok (.iconst 3, 1) := by decide +kernel
theorem dX12_tells_48 : decode cX12_tells 48 = .ok (.aload_n 0, 1) := by decide +kernel
theorem dX12_tells_49 : decode cX12_tells 49 = .ok (.iload_n 2, 1) := by decide +kernel
theorem dX12_tells_50 : decode cX12_tells 50 = .ok (.iload_n 3, 1) := by decide +kernel
theorem dX12_tells_51 : decode cX12_tells 51 = .ok (.invokevirtual 305, 3) := by decide +kernel
theorem dX12_tells_54 : decode cX12_tells 54 = .ok (.ifCond .eq 7, 3) := by decide +kernel
theorem dX12_tells_57 : decode cX12_tells 57 = .ok (.iconst 1, 1) := by decide +kernel
theorem dX12_tells_58 : decode cX12_tells 58 = .ok (.goto 4, 3) := by decide +kernel
theorem dX12_tells_61 : decode cX12_tells 61 = .ok (.iconst 0, 1) := by decide +kernel
theorem dX12_tells_62 : decode cX12_tells 62 = .ok (.iastore, 1) := by decide +kernel
theorem dX12_tells_63 : decode cX12_tells 63 = .ok (.aload_n 0, 1) := by decide +kernel
theorem dX12_tells_64 : decode cX12_tells 64 = .ok (.getfield 59, 3) := by decide +kernel
theorem dX12_tells_67 : decode cX12_tells 67 = .ok (.iconst 4, 1) := by decide +kernel
theorem dX12_tells_68 : decode cX12_tells 68 = .ok (.aload_n 0, 1) := by decide +kernel
theorem dX12_tells_69 : decode cX12_tells 69 = .ok (.getfield 24, 3) := by decide +kernel
theorem dX12_tells_72 : decode cX12_tells 72 = .ok (.bipush 53, 2) := by decide +kernel
theorem dX12_tells_74 : decode cX12_tells 74 = .ok (.iload_n 3, 1) := by decide +kernel
theorem dX12_tells_75 : decode cX12_tells 75 = .ok (.iadd, 1) := by decide +kernel
theorem dX12_tells_76 : decode cX12_tells 76 = .ok (.iaload, 1) := by decide +kernel
theorem dX12_tells_77 : decode cX12_tells 77 = .ok (.iastore, 1) := by decide +kernel
theorem dX12_tells_78 : decode cX12_tells 78 = .ok (.aload_n 0, 1) := by decide +kernel
theorem dX12_tells_79 : decode cX12_tells 79 = .ok (.getfield 59, 3) := by decide +kernel
theorem dX12_tells_82 : decode cX12_tells 82 = .ok (.iconst 5, 1) := by decide +kernel
theorem dX12_tells_83 : decode cX12_tells 83 = .ok (.aload_n 0, 1) := by decide +kernel
theorem dX12_tells_84 : decode cX12_tells 84 = .ok (.iload_n 2, 1) := by decide +kernel
theorem dX12_tells_85 : decode cX12_tells 85 = .ok (.iload_n 3, 1) := by decide +kernel
theorem dX12_tells_86 : decode cX12_tells 86 = .ok (.invokevirtual 308, 3) := by decide +kernel
theorem dX12_tells_89 : decode cX12_tells 89 = .ok (.iastore, 1) := by decide +kernel
theorem dX12_tells_90 : decode cX12_tells 90 = .ok (.aload_n 0, 1) := by decide +kernel
theorem dX12_tells_91 : decode cX12_tells 91 = .ok (.getfield 59, 3) := by decide +kernel
theorem dX12_tells_94 : decode cX12_tells 94 = .ok (.bipush 6, 2) := by decide +kernel
theorem dX12_tells_96 : decode cX12_tells 96 = .ok (.aload_n 0, 1) := by decide +kernel
theorem dX12_tells_97 : decode cX12_tells 97 = .ok (.getfield 24, 3) := by decide +kernel
theorem dX12_tells_100 : decode cX12_tells 100 = .ok (.bipush 101, 2) := by decide +kernel
theorem dX12_tells_102 : decode cX12_tells 102 = .ok (.iaload, 1) := by decide +kernel
theorem dX12_tells_103 : decode cX12_tells 103 = .ok (.iastore, 1) := by decide +kernel
theorem dX12_tells_104 : decode cX12_tells 104 = .ok (.aload_n 0, 1) := by decide +kernel
theorem dX12_tells_105 : decode cX12_tells 105 = .ok (.getfield 59, 3) := by decide +kernel
theorem dX12_tells_108 : decode cX12_tells 108 = .ok (.bipush 7, 2) := by decide +kernel
theorem dX12_tells_110 : decode cX12_tells 110 = .ok (.aload_n 0, 1) := by decide +kernel
theorem dX12_tells_111 : decode cX12_tells 111 = .ok (.getfield 24, 3) := by decide +kernel
theorem dX12_tells_114 : decode cX12_tells 114 = .ok (.iconst 0, 1) := by decide +kernel
theorem dX12_tells_115 : decode cX12_tells 115 = .ok (.iload_n 3, 1) := by decide +kernel
theorem dX12_tells_116 : decode cX12_tells 116 = .ok (.iadd, 1) := by decide +kernel
theorem dX12_tells_117 : decode cX12_tells 117 = .ok (.iaload, 1) := by decide +kernel
theorem dX12_tells_118 : decode cX12_tells 118 = .ok (.iastore, 1) := by decide +kernel
theorem dX12_tells_119 : decode cX12_tells 119 = .ok (.aload_n 0, 1) := by decide +kernel
theorem dX12_tells_120 : decode cX12_tells 120 = .ok (.getfield 59, 3) := by decide +kernel
theorem dX12_tells_123 : decode cX12_tells 123 = .ok (.bipush 8, 2) := by decide +kernel
theorem dX12_tells_125 : decode cX12_tells 125 = .ok (.aload_n 0, 1) := by decide +kernel
theorem dX12_tells_126 : decode cX12_tells 126 = .ok (.getfield 24, 3) := by decide +kernel
theorem dX12_tells_129 : decode cX12_tells 129 = .ok (.bipush 10, 2) := by decide +kernel
theorem dX12_tells_131 : decode cX12_tells 131 = .ok (.iload_n 2, 1) := by decide +kernel
theorem dX12_tells_132 : decode cX12_tells 132 = .ok (.iadd, 1) := by decide +kernel
theorem dX12_tells_133 : decode cX12_tells 133 = .ok (.iaload, 1) := by decide +kernel
theorem dX12_tells_134 : decode cX12_tells 134 = .ok (.iastore, 1) := by decide +kernel
theorem dX12_tells_135 : decode cX12_tells 135 = .ok (.aload_n 0, 1) := by decide +kernel
theorem dX12_tells_136 : decode cX12_tells 136 = .ok (.getfield 59, 3) := by decide +kernel
theorem dX12_tells_139 : decode cX12_tells 139 = .ok (.bipush 9, 2) := by decide +kernel
theorem dX12_tells_141 : decode cX12_tells 141 = .ok (.aload_n 0, 1) := by decide +kernel
theorem dX12_tells_142 : decode cX12_tells 142 = .ok (.getfield 24, 3) := by decide +kernel
theorem dX12_tells_145 : decode cX12_tells 145 = .ok (.bipush 22, 2) := by decide +kernel
theorem dX12_tells_147 : decode cX12_tells 147 = .ok (.iaload, 1) := by decide +kernel
theorem dX12_tells_148 : decode cX12_tells 148 = .ok (.iastore, 1) := by decide +kernel
theorem dX12_tells_149 : decode cX12_tells 149 = .ok (.aload_n 0, 1) := by decide +kernel
theorem dX12_tells_150 : decode cX12_tells 150 = .ok (.iconst 0, 1) := by decide +kernel
theorem dX12_tells_151 : decode cX12_tells 151 = .ok (.putfield 275, 3) := by decide +kernel
theorem dX12_tells_154 : decode cX12_tells 154 = .ok (.iload 5, 2) := by decide +kernel
theorem dX12_tells_156 : decode cX12_tells 156 = .ok (.i2l, 1) := by decide +kernel
theorem dX12_tells_157 : decode cX12_tells 157 = .ok (.lstore 6, 2) := by decide +kernel
theorem dX12_tells_159 : decode cX12_tells 159 = .ok (.aload_n 0, 1) := by decide +kernel
theorem dX12_tells_160 : decode cX12_tells 160 = .ok (.sipush 400, 3) := by decide +kernel
theorem dX12_tells_163 : decode cX12_tells 163 = .ok (.aload_n 0, 1) := by decide +kernel
theorem dX12_tells_164 : decode cX12_tells 164 = .ok (.getfield 24, 3) := by decide +kernel
theorem dX12_tells_167 : decode cX12_tells 167 = .ok (.bipush 106, 2) := by decide +kernel
theorem dX12_tells_169 : decode cX12_tells 169 = .ok (.iaload, 1) := by decide +kernel
theorem dX12_tells_170 : decode cX12_tells 170 = .ok (.imul, 1) := by decide +kernel
theorem dX12_tells_171 : decode cX12_tells 171 = .ok (.putfield 245, 3) := by decide +kernel
theorem dX12_tells_174 : decode cX12_tells 174 = .ok (.aload_n 0, 1) := by decide +kernel
theorem dX12_tells_175 : decode cX12_tells 175 = .ok (.aload_n 0, 1) := by decide +kernel
theorem dX12_tells_176 : decode cX12_tells 176 = .ok (.getfield 245, 3) := by decide +kernel
theorem dX12_tells_179 : decode cX12_tells 179 = .ok (.aload_n 0, 1) := by decide +kernel
theorem dX12_tells_180 : decode cX12_tells 180 = .ok (.getfield 24, 3) := by decide +kernel
theorem dX12_tells_183 : decode cX12_tells 183 = .ok (.bipush 107, 2) := by decide +kernel
theorem dX12_tells_185 : decode cX12_tells 185 = .ok (.aload_n 0, 1) := by decide +kernel
theorem dX12_tells_186 : decode cX12_tells 186 = .ok (.getfield 24, 3) := by decide +kernel
theorem dX12_tells_189 : decode cX12_tells 189 = .ok (.bipush 106, 2) := by decide +kernel
theorem dX12_tells_191 : decode cX12_tells 191 = .ok (.iaload, 1) := by decide +kernel
theorem dX12_tells_192 : decode cX12_tells 192 = .ok (.iadd, 1) := by decide +kernel
theorem dX12_tells_193 : decode cX12_tells 193 = .ok (.iaload, 1) := by decide +kernel
theorem dX12_tells_194 : decode cX12_tells 194 = .ok (.iadd, 1) := by decide +kernel
theorem dX12_tells_195 : decode cX12_tells 195 = .ok (.putfield 242, 3) := by decide +kernel
theorem dX12_tells_198 : decode cX12_tells 198 = .ok (.aload_n 0, 1) := by decide +kernel
theorem dX12_tells_199 : decode cX12_tells 199 = .ok (.getfield 245, 3) := by decide +kernel
theorem dX12_tells_202 : decode cX12_tells 202 = .ok (.aload_n 0, 1) := by decide +kernel
theorem dX12_tells_203 : decode cX12_tells 203 = .ok (.getfield 242, 3) := by decide +kernel
theorem dX12_tells_206 : decode cX12_tells 206 = .ok (.if_icmp .ge 145, 3) := by decide +kernel
theorem dX12_tells_209 : decode cX12_tells 209 = .ok (.aload_n 0, 1) := by decide +kernel
theorem dX12_tells_210 : decode cX12_tells 210 = .ok (.aload_n 0, 1) := by decide +kernel
theorem dX12_tells_211 : decode cX12_tells 211 = .ok (.getfield 245, 3) := by decide +kernel
theorem dX12_tells_214 : decode cX12_tells 214 = .ok (.invokevirtual 248, 3) := by decide +kernel
theorem dX12_tells_217 : decode cX12_tells 217 = .ok (.istore 8, 2) := by decide +kernel
theorem dX12_tells_219 : decode cX12_tells 219 = .ok (.aload_n 0, 1) := by decide +kernel
theorem dX12_tells_220 : decode cX12_tells 220 = .ok (.iconst 0, 1) := by decide +kernel
theorem dX12_tells_221 : decode cX12_tells 221 = .ok (.putfield 255, 3) := by decide +kernel
theorem dX12_tells_224 : decode cX12_tells 224 = .ok (.aload_n 0, 1) := by decide +kernel
theorem dX12_tells_225 : decode cX12_tells 225 = .ok (.dup, 1) := by decide +kernel
theorem dX12_tells_226 : decode cX12_tells 226 = .ok (.getfield 245, 3) := by decide +kernel
theorem dX12_tells_229 : decode cX12_tells 229 = .ok (.iconst 1, 1) := by decide +kernel
theorem dX12_tells_230 : decode cX12_tells 230 = .ok (.iadd, 1) := by decide +kernel
theorem dX12_tells_231 : decode cX12_tells 231 = .ok (.putfield 245, 3) := by decide +kernel
theorem dX12_tells_234 : decode cX12_tells 234 = .ok (.iload 8, 2) := by decide +kernel
theorem dX12_tells_236 : decode cX12_tells 236 = .ok (.iconst 4, 1) := by decide +kernel
theorem dX12_tells_237 : decode cX12_tells 237 = .ok (.if_icmp .ne 7, 3) := by decide +kernel
theorem dX12_tells_240 : decode cX12_tells 240 = .ok (.lconst 1, 1) := by decide +kernel
theorem dX12_tells_241 : decode cX12_tells 241 = .ok (.goto 8, 3) := by decide +kernel
theorem dX12_tells_244 : decode cX12_tells 244 = .ok (.aload_n 0, 1) := by decide +kernel
theorem dX12_tells_245 : decode cX12_tells 245 = .ok (.iconst 1, 1) := by decide +kernel
theorem dX12_tells_246 : decode cX12_tells 246 = .ok (.invokevirtual 272, 3) := by decide +kernel
theorem dX12_tells_249 : decode cX12_tells 249 = .ok (.lstore 9, 2) := by decide +kernel
theorem dX12_tells_251 : decode cX12_tells 251 = .ok (.aload_n 0, 1) := by decide +kernel
theorem dX12_tells_252 : decode cX12_tells 252 = .ok (.getfield 255, 3) := by decide +kernel
theorem dX12_tells_255 : decode cX12_tells 255 = .ok (.istore 11, 2) := by decide +kernel
theorem dX12_tells_257 : decode cX12_tells 257 = .ok (.aload_n 0, 1) := by decide +kernel
theorem dX12_tells_258 : decode cX12_tells 258 = .ok (.iconst 0, 1) := by decide +kernel
theorem dX12_tells_259 : decode cX12_tells 259 = .ok (.putfield 255, 3) := by decide +kernel
theorem dX12_tells_262 : decode cX12_tells 262 = .ok (.aload_n 0, 1) := by decide +kernel
theorem dX12_tells_263 : decode cX12_tells 263 = .ok (.iconst 5, 1) := by decide +kernel
theorem dX12_tells_264 : decode cX12_tells 264 = .ok (.invokevirtual 269, 3) := by decide +kernel
theorem dX12_tells_267 : decode cX12_tells 267 = .ok (.ifCond .eq 11, 3) := by decide +kernel
theorem dX12_tells_270 : decode cX12_tells 270 = .ok (.aload_n 0, 1) := by decide +kernel
theorem dX12_tells_271 : decode cX12_tells 271 = .ok (.iconst 1, 1) := by decide +kernel
theorem dX12_tells_272 : decode cX12_tells 272 = .ok (.invokevirtual 299, 3) := by decide +kernel
theorem dX12_tells_275 : decode cX12_tells 275 = .ok (.ifCond .eq 7, 3) := by decide +kernel
theorem dX12_tells_278 : decode cX12_tells 278 = .ok (.iconst 1, 1) := by decide +kernel
theorem dX12_tells_279 : decode cX12_tells 279 = .ok (.goto 4, 3) := by decide +kernel
theorem dX12_tells_282 : decode cX12_tells 282 = .ok (.iconst 0, 1) := by decide +kernel
theorem dX12_tells_283 : decode cX12_tells 283 = .ok (.istore 12, 2) := by decide +kernel
theorem dX12_tells_285 : decode cX12_tells 285 = .ok (.iload 8, 2) := by decide +kernel
theorem dX12_tells_287 : decode cX12_tells 287 = .ok (.iload_n 1, 1) := by decide +kernel
theorem dX12_tells_288 : decode cX12_tells 288 = .ok (.if_icmp .ne 50, 3) := by decide +kernel
theorem dX12_tells_291 : decode cX12_tells 291 = .ok (.iload 12, 2) := by decide +kernel
theorem dX12_tells_293 : decode cX12_tells 293 = .ok (.ifCond .eq 45, 3) := by decide +kernel
theorem dX12_tells_296 : decode cX12_tells 296 = .ok (.aload_n 0, 1) := by decide +kernel
theorem dX12_tells_297 : decode cX12_tells 297 = .ok (.getfield 255, 3) := by decide +kernel
theorem dX12_tells_300 : decode cX12_tells 300 = .ok (.ifCond .ne 38, 3) := by decide +kernel
theorem dX12_tells_303 : decode cX12_tells 303 = .ok (.iload 11, 2) := by decide +kernel
theorem dX12_tells_305 : decode cX12_tells 305 = .ok (.ifCond .ne 33, 3) := by decide +kernel
theorem dX12_tells_308 : decode cX12_tells 308 = .ok (.lload 9, 2) := by decide +kernel
theorem dX12_tells_310 : decode cX12_tells 310 = .ok (.lconst 0, 1) := by decide +kernel
theorem dX12_tells_311 : decode cX12_tells 311 = .ok (.lcmp, 1) := by decide +kernel
theorem dX12_tells_312 : decode cX12_tells 312 = .ok (.ifCond .ge 7, 3) := by decide +kernel
theorem dX12_tells_315 : decode cX12_tells 315 = .ok (.lconst 0, 1) := by decide +kernel
theorem dX12_tells_316 : decode cX12_tells 316 = .ok (.goto 20, 3) := by decide +kernel
theorem dX12_tells_319 : decode cX12_tells 319 = .ok (.lload 9, 2) := by decide +kernel
theorem dX12_tells_321 : decode cX12_tells 321 = .ok (.iload 4, 2) := by decide +kernel
theorem dX12_tells_323 : decode cX12_tells 323 = .ok (.i2l, 1) := by decide +kernel
theorem dX12_tells_324 : decode cX12_tells 324 = .ok (.lcmp, 1) := by decide +kernel
theorem dX12_tells_325 : decode cX12_tells 325 = .ok (.ifCond .le 9, 3) := by decide +kernel
theorem dX12_tells_328 : decode cX12_tells 328 = .ok (.iload 4, 2) := by decide +kernel
theorem dX12_tells_330 : decode cX12_tells 330 = .ok (.i2l, 1) := by decide +kernel
theorem dX12_tells_331 : decode cX12_tells 331 = .ok (.goto 5, 3) := by decide +kernel
theorem dX12_tells_334 : decode cX12_tells 334 = .ok (.lload 9, 2) := by decide +kernel
theorem dX12_tells_336 : decode cX12_tells 336 = .ok (.lstore 6, 2) := by decide +kernel
theorem dX12_tells_338 : decode cX12_tells 338 = .ok (.aload_n 0, 1) := by decide +kernel
theorem dX12_tells_339 : decode cX12_tells 339 = .ok (.dup, 1) := by decide +kernel
theorem dX12_tells_340 : decode cX12_tells 340 = .ok (.getfield 245, 3) := by decide +kernel
theorem dX12_tells_343 : decode cX12_tells 343 = .ok (.iconst 1, 1) := by decide +kernel
theorem dX12_tells_344 : decode cX12_tells 344 = .ok (.iadd, 1) := by decide +kernel
theorem dX12_tells_345 : decode cX12_tells 345 = .ok (.putfield 245, 3) := by decide +kernel
theorem dX12_tells_348 : decode cX12_tells 348 = .ok (.goto (-150), 3) := by decide +kernel
theorem dX12_tells_351 : decode cX12_tells 351 = .ok (.lload 6, 2) := by decide +kernel
theorem dX12_tells_353 : decode cX12_tells 353 = .ok (.l2i, 1) := by decide +kernel
theorem dX12_tells_354 : decode cX12_tells 354 = .ok (.ireturn, 1) := by decide +kernel
theorem wt7_35 : Cond.methodLink RX12 305 yX12_hasCraft ∈ kG := kt7 35 rfl rfl
theorem wt7_37 : Cond.instanceMethod yX12_hasCraft ∈ kG := kt7 37 rfl rfl
theorem wp5_5 : Cond.selects RX12 yX12_hasCraft yX12_hasCraft ∈ kG := kp5 5 rfl rfl
theorem wt7_38 : Cond.code yX12_hasCraft cX12_hasCraft 3 (some .boolean) ∈ kG := kt7 38 rfl rfl
theorem cl_1 : (1 : Int32).toNatClampNeg = 1 := by decide +kernel
theorem cl_2 : (2 : Int32).toNatClampNeg = 2 := by decide +kernel
theorem cl_3 : (3 : Int32).toNatClampNeg = 3 := by decide +kernel
theorem cl_4 : (4 : Int32).toNatClampNeg = 4 := by decide +kernel
theorem cl_5 : (5 : Int32).toNatClampNeg = 5 := by decide +kernel
theorem cl_6 : (6 : Int32).toNatClampNeg = 6 := by decide +kernel
theorem cl_7 : (7 : Int32).toNatClampNeg = 7 := by decide +kernel
theorem cl_8 : (8 : Int32).toNatClampNeg = 8 := by decide +kernel
theorem cl_9 : (9 : Int32).toNatClampNeg = 9 := by decide +kernel
theorem cl_101 : (101 : Int32).toNatClampNeg = 101 := by decide +kernel
theorem kc_101 : kb 101 101 101 := ⟨by decide +kernel, by decide +kernel⟩
theorem kc_106 : kb 106 106 106 := ⟨by decide +kernel, by decide +kernel⟩
theorem kc_107 : kb 107 107 107 := ⟨by decide +kernel, by decide +kernel⟩
theorem kc_400 : kb 400 400 400 := ⟨by decide +kernel, by decide +kernel⟩
theorem kcl_1 : kbl 1 1 1 := ⟨by decide +kernel, by decide +kernel⟩
set_option maxHeartbeats 4000000 in
set_option maxRecDepth 100000 in
theorem m_tells  (l : Launch) {D : va_G} {K : Nat → ClassId} (o : Nat) (r : Nat → Nat) (f : Nat → Int32) (a : Nat → Nat → Int32) (g : Nat → Int64) (hI : mI f a) (hd : Int32) (bd : Int32) (pt : Int32) (hi : Int32) (wo : Int32) (bhd : kb 1 hd 4) (bbd : kb 0 bd 5) (bpt : kb 0 pt 9) (bhi : kb 0 hi 20) (bwo : kb 0 wo 20)   : kI l yX12_tells (Cond.code yX12_tells cX12_tells 13 (some .int) :: kG) (rmD 48 0 0) D (tysK K) [.ref o, .int hd, .int bd, .int pt, .int hi, .int wo] (mW K o r f a g) (fun v (u : mS) => kb 0 v 20 ∧ mI u.1 u.2.1 ∧ mE (XR []) f a u.1 u.2.1 ∧ mZ [22, 23, 24, 25] [26] f a u.1 u.2.1) (fun u => mW K o r u.1 u.2.1 u.2.2) 0 0 := by
  refine kI.of (cc := cX12_tells) (maxL := 13) (ret := (some .int)) (by decide) rfl (Nat.le_of_ble_eq_true rfl) ?_
  intro p e s m below meth c A hx hb hr hml hown hts hlocks hnm hK hP hD hS hA ls hl
  have hE : mE (XR []) f a f a := mE_rf
  have hZ : mZ [22, 23, 24, 25] [26] f a f a := mZ_rf
  have hg : ∀ w ∈ kG, w.before _ s = true := fun w h => hts w (List.mem_cons_of_mem _ h)
  have hown : s.vm.findClass RX12 = some m.cls := hown
  have hl : lv_has ls 13 [(0, .ref o), (1, .int hd), (2, .int bd), (3, .int pt), (4, .int hi), (5, .int wo)] := hl
  refine lv_aload_n hx hb dX12_tells_0 rfl (lv_at hl 0 rfl) ?_
  refine va_get (D := D) (ci := 12) (v := .ref (r 2)) (C := RX12) (T := TX12) (N := 48) hx hb hg inC12 hown hK hP 0 rfl rfl 2 (by decide) (hg _ wt5_162) (fun _ h9 => h9) rfl dX12_tells_1 ?_
  refine lv_bipush (v := 106) hx hb dX12_tells_4 (by decide) ?_
  refine va_iald hx hb hK hP 2 0 rfl rfl (kb_in kc_106 (by decide) (by decide)) dX12_tells_6 ?_
  refine lv_topi (fun t1 et1 => ?_)
  rw [cl_106] at et1
  have b2 : kb (-1) t1 5 := kb_eq et1 (aI_at hI.2.1 2 106 (by decide) (by decide))
  refine lv_iconst (v := (-1)) hx hb dX12_tells_7 (by decide) ?_
  refine lv_icmp_ne (tgt := 14) hx hb dX12_tells_8 (by decide) (fun c3 => ?_) (fun c3 => ?_)
  · have b4 : kb 0 t1 5 := kr_nel c3 b2 kc_m1 (by decide)
    refine lv_aload_n hx hb dX12_tells_14 rfl (lv_at hl 0 rfl) ?_
    refine va_get (D := D) (ci := 12) (v := .ref (r 26)) (C := RX12) (T := TX12) (N := 48) hx hb hg inC12 hown hK hP 0 rfl rfl 26 (by decide) (hg _ wt5_186) (fun _ h9 => h9) rfl dX12_tells_15 ?_
    refine lv_iconst (v := 0) hx hb dX12_tells_18 (by decide) ?_
    refine lv_iload_n hx hb dX12_tells_19 rfl (lv_at hl 2 rfl) ?_
    refine va_iast hx hb hK hP hD hS 12 0 rfl rfl (kb_in kc_0 (by decide) (by decide)) dX12_tells_20 (fun H locs hP hD hS => ?_)
    rw [cl_0] at hP hD
    have hP : va_P D vwCl (mW K o r f (va_up a 26 (upd (a 26) 0 bd)) g) H := hP
    have hD : va_D A (mW K o r f (va_up a 26 (upd (a 26) 0 bd)) g) := hD
    refine k_gen (P := fun z => va_P D vwCl (mW K o r f z g) H ∧ va_D A (mW K o r f z g) ∧ (mI f z) ∧ (mE (XR []) f a f z) ∧ (mZ [22, 23, 24, 25] [26] f a f z)) (va_up a 26 (upd (a 26) 0 bd)) ⟨hP, hD, (mI_s hI (aI_free hI.2.1 26 _ (fun j => ⟨by show (mBa 26 j).1 ≤ _; exact Int.le_refl _, by show _ ≤ (mBa 26 j).2; exact Int.le_refl _⟩)) (by decide) (by decide)), (mE_s hE (by decide) (by decide) (by decide) (by decide)), (mZ_a hZ rfl)⟩ (fun a_5 ea_5 hq => ?_)
    obtain ⟨hP, hD, hI, hE, hZ⟩ := hq
    refine lv_aload_n hx hb dX12_tells_21 rfl (lv_at hl 0 rfl) ?_
    refine va_get (D := D) (ci := 12) (v := .ref (r 26)) (C := RX12) (T := TX12) (N := 48) hx hb hg inC12 hown hK hP 0 rfl rfl 26 (by decide) (hg _ wt5_186) (fun _ h9 => h9) rfl dX12_tells_22 ?_
    refine lv_iconst (v := 1) hx hb dX12_tells_25 (by decide) ?_
    refine lv_aload_n hx hb dX12_tells_26 rfl (lv_at hl 0 rfl) ?_
    refine va_get (D := D) (ci := 12) (v := .ref (r 2)) (C := RX12) (T := TX12) (N := 48) hx hb hg inC12 hown hK hP 0 rfl rfl 2 (by decide) (hg _ wt5_162) (fun _ h9 => h9) rfl dX12_tells_27 ?_
    refine lv_bipush (v := 69) hx hb dX12_tells_30 (by decide) ?_
    refine lv_iload_n hx hb dX12_tells_32 rfl (lv_at hl 2 rfl) ?_
    refine lv_iadd hx hb dX12_tells_33 ?_
    refine lv_topi (fun t6 et6 => ?_)
    have b7 : kb 69 t6 74 := kb_eq et6 (kb_add kc_69 bbd (by decide) (by decide))
    have qt6 : t6.toInt = 69 + bd.toInt := by rw [et6]; exact kt_cadd kc_69 bbd (by decide) (by decide)
    refine va_iald hx hb hK hP 2 0 rfl rfl (kb_in b7 (by decide) (by decide)) dX12_tells_34 ?_
    refine lv_topi (fun t8 et8 => ?_)
    have b9 : kb 0 t8 9 := kb_eq et8 (aI_ld hI.2.1 2 69 6 b7 (by decide) (by decide) (by decide +kernel))
    refine va_iast hx hb hK hP hD hS 12 0 rfl rfl (kb_in kc_1 (by decide) (by decide)) dX12_tells_35 (fun H locs hP hD hS => ?_)
    rw [cl_1] at hP hD
    have hP : va_P D vwCl (mW K o r f (va_up a_5 26 (upd (a_5 26) 1 t8)) g) H := hP
    have hD : va_D A (mW K o r f (va_up a_5 26 (upd (a_5 26) 1 t8)) g) := hD
    refine k_gen (P := fun z => va_P D vwCl (mW K o r f z g) H ∧ va_D A (mW K o r f z g) ∧ (mI f z) ∧ (mE (XR []) f a f z) ∧ (mZ [22, 23, 24, 25] [26] f a f z)) (va_up a_5 26 (upd (a_5 26) 1 t8)) ⟨hP, hD, (mI_s hI (aI_free hI.2.1 26 _ (fun j => ⟨by show (mBa 26 j).1 ≤ _; exact Int.le_refl _, by show _ ≤ (mBa 26 j).2; exact Int.le_refl _⟩)) (by decide) (by decide)), (mE_s hE (by decide) (by decide) (by decide) (by decide)), (mZ_a hZ rfl)⟩ (fun a_10 ea_10 hq => ?_)
    obtain ⟨hP, hD, hI, hE, hZ⟩ := hq
    refine lv_aload_n hx hb dX12_tells_36 rfl (lv_at hl 0 rfl) ?_
    refine va_get (D := D) (ci := 12) (v := .ref (r 26)) (C := RX12) (T := TX12) (N := 48) hx hb hg inC12 hown hK hP 0 rfl rfl 26 (by decide) (hg _ wt5_186) (fun _ h9 => h9) rfl dX12_tells_37 ?_
    refine lv_iconst (v := 2) hx hb dX12_tells_40 (by decide) ?_
    refine lv_iload_n hx hb dX12_tells_41 rfl (lv_at hl 3 rfl) ?_
    refine va_iast hx hb hK hP hD hS 12 0 rfl rfl (kb_in kc_2 (by decide) (by decide)) dX12_tells_42 (fun H locs hP hD hS => ?_)
    rw [cl_2] at hP hD
    have hP : va_P D vwCl (mW K o r f (va_up a_10 26 (upd (a_10 26) 2 pt)) g) H := hP
    have hD : va_D A (mW K o r f (va_up a_10 26 (upd (a_10 26) 2 pt)) g) := hD
    refine k_gen (P := fun z => va_P D vwCl (mW K o r f z g) H ∧ va_D A (mW K o r f z g) ∧ (mI f z) ∧ (mE (XR []) f a f z) ∧ (mZ [22, 23, 24, 25] [26] f a f z)) (va_up a_10 26 (upd (a_10 26) 2 pt)) ⟨hP, hD, (mI_s hI (aI_free hI.2.1 26 _ (fun j => ⟨by show (mBa 26 j).1 ≤ _; exact Int.le_refl _, by show _ ≤ (mBa 26 j).2; exact Int.le_refl _⟩)) (by decide) (by decide)), (mE_s hE (by decide) (by decide) (by decide) (by decide)), (mZ_a hZ rfl)⟩ (fun a_11 ea_11 hq => ?_)
    obtain ⟨hP, hD, hI, hE, hZ⟩ := hq
    refine lv_aload_n hx hb dX12_tells_43 rfl (lv_at hl 0 rfl) ?_
    refine va_get (D := D) (ci := 12) (v := .ref (r 26)) (C := RX12) (T := TX12) (N := 48) hx hb hg inC12 hown hK hP 0 rfl rfl 26 (by decide) (hg _ wt5_186) (fun _ h9 => h9) rfl dX12_tells_44 ?_
    refine lv_iconst (v := 3) hx hb dX12_tells_47 (by decide) ?_
    refine lv_aload_n hx hb dX12_tells_48 rfl (lv_at hl 0 rfl) ?_
    refine lv_iload_n hx hb dX12_tells_49 rfl (lv_at hl 2 rfl) ?_
    refine lv_iload_n hx hb dX12_tells_50 rfl (lv_at hl 3 rfl) ?_
    refine kI.callV (As := [.int bd, .int pt]) (rest := [.int 3, .ref (r 26)]) ⟨hx, hb, hml, hown, hg⟩ (m_hasCraft l o r f a_11 g hI bd pt bbd bpt ) (cwV 2 hg (kgV wt7_35 wt7_37 wp5_5 wt1_14 wt7_38) rfl rfl rfl (by decide +kernel) ⟨by decide, by decide⟩) hK hP hD hS hA mIs [] rfl (wr := []) rfl rfl rfl (fun i h => by cases h) 0 12 rfl rfl rfl hl.1 rfl (Nat.le_of_ble_eq_true rfl) dX12_tells_51 ⟨Nat.le_refl _, Nat.le_refl _⟩ (fun v13 u14 H locs hw12 hP hD hS => ?_)
    have hP : va_P D vwCl (mW K o r f a_11 g) H := hP
    have hD : va_D A (mW K o r f a_11 g) := hD
    have jn18 : ∀ (H : Heap) (locs : List Loc) (ls : Array Slot) (z17 : Int32), (kb 0 z17 1) → va_P D vwCl (mW K o r f a_11 g) H → va_D A (mW K o r f a_11 g) → va_S A s.heap H locs → lv_has ls 13 [(0, .ref o), (1, .int hd), (2, .int bd), (3, .int pt), (4, .int hi), (5, .int wo)] → W p l e (rmD 48 0 0) s m ([.ref o, .int hd, .int bd, .int pt, .int hi, .int wo] : List Value).toArray below meth c H locs 0 0 (kQi D (tysK K) (fun v (u : mS) => kb 0 v 20 ∧ mI u.1 u.2.1 ∧ mE (XR []) f a u.1 u.2.1 ∧ mZ [22, 23, 24, 25] [26] f a u.1 u.2.1) (fun u => mW K o r u.1 u.2.1 u.2.2) A below ([.ref o, .int hd, .int bd, .int pt, .int hi, .int wo] : List Value).toArray s 0 0) (F0 m 62 ls [.int z17, .int 3, .ref (r 26)]) := by
      intro  H locs ls z17 b19 hP hD hS hl
      refine va_iast hx hb hK hP hD hS 12 0 rfl rfl (kb_in kc_3 (by decide) (by decide)) dX12_tells_62 (fun H locs hP hD hS => ?_)
      rw [cl_3] at hP hD
      have hP : va_P D vwCl (mW K o r f (va_up a_11 26 (upd (a_11 26) 3 z17)) g) H := hP
      have hD : va_D A (mW K o r f (va_up a_11 26 (upd (a_11 26) 3 z17)) g) := hD
      refine k_gen (P := fun z => va_P D vwCl (mW K o r f z g) H ∧ va_D A (mW K o r f z g) ∧ (mI f z) ∧ (mE (XR []) f a f z) ∧ (mZ [22, 23, 24, 25] [26] f a f z)) (va_up a_11 26 (upd (a_11 26) 3 z17)) ⟨hP, hD, (mI_s hI (aI_free hI.2.1 26 _ (fun j => ⟨by show (mBa 26 j).1 ≤ _; exact Int.le_refl _, by show _ ≤ (mBa 26 j).2; exact Int.le_refl _⟩)) (by decide) (by decide)), (mE_s hE (by decide) (by decide) (by decide) (by decide)), (mZ_a hZ rfl)⟩ (fun a_20 ea_20 hq => ?_)
      obtain ⟨hP, hD, hI, hE, hZ⟩ := hq
      refine lv_aload_n hx hb dX12_tells_63 rfl (lv_at hl 0 rfl) ?_
      refine va_get (D := D) (ci := 12) (v := .ref (r 26)) (C := RX12) (T := TX12) (N := 48) hx hb hg inC12 hown hK hP 0 rfl rfl 26 (by decide) (hg _ wt5_186) (fun _ h9 => h9) rfl dX12_tells_64 ?_
      refine lv_iconst (v := 4) hx hb dX12_tells_67 (by decide) ?_
      refine lv_aload_n hx hb dX12_tells_68 rfl (lv_at hl 0 rfl) ?_
      refine va_get (D := D) (ci := 12) (v := .ref (r 2)) (C := RX12) (T := TX12) (N := 48) hx hb hg inC12 hown hK hP 0 rfl rfl 2 (by decide) (hg _ wt5_162) (fun _ h9 => h9) rfl dX12_tells_69 ?_
      refine lv_bipush (v := 53) hx hb dX12_tells_72 (by decide) ?_
      refine lv_iload_n hx hb dX12_tells_74 rfl (lv_at hl 3 rfl) ?_
      refine lv_iadd hx hb dX12_tells_75 ?_
      refine lv_topi (fun t21 et21 => ?_)
      have b22 : kb 53 t21 62 := kb_eq et21 (kb_add kc_53 bpt (by decide) (by decide))
      have qt21 : t21.toInt = 53 + pt.toInt := by rw [et21]; exact kt_cadd kc_53 bpt (by decide) (by decide)
      refine va_iald hx hb hK hP 2 0 rfl rfl (kb_in b22 (by decide) (by decide)) dX12_tells_76 ?_
      refine lv_topi (fun t23 et23 => ?_)
      refine va_iast hx hb hK hP hD hS 12 0 rfl rfl (kb_in kc_4 (by decide) (by decide)) dX12_tells_77 (fun H locs hP hD hS => ?_)
      rw [cl_4] at hP hD
      have hP : va_P D vwCl (mW K o r f (va_up a_20 26 (upd (a_20 26) 4 t23)) g) H := hP
      have hD : va_D A (mW K o r f (va_up a_20 26 (upd (a_20 26) 4 t23)) g) := hD
      refine k_gen (P := fun z => va_P D vwCl (mW K o r f z g) H ∧ va_D A (mW K o r f z g) ∧ (mI f z) ∧ (mE (XR []) f a f z) ∧ (mZ [22, 23, 24, 25] [26] f a f z)) (va_up a_20 26 (upd (a_20 26) 4 t23)) ⟨hP, hD, (mI_s hI (aI_free hI.2.1 26 _ (fun j => ⟨by show (mBa 26 j).1 ≤ _; exact Int.le_refl _, by show _ ≤ (mBa 26 j).2; exact Int.le_refl _⟩)) (by decide) (by decide)), (mE_s hE (by decide) (by decide) (by decide) (by decide)), (mZ_a hZ rfl)⟩ (fun a_24 ea_24 hq => ?_)
      obtain ⟨hP, hD, hI, hE, hZ⟩ := hq
      refine lv_aload_n hx hb dX12_tells_78 rfl (lv_at hl 0 rfl) ?_
      refine va_get (D := D) (ci := 12) (v := .ref (r 26)) (C := RX12) (T := TX12) (N := 48) hx hb hg inC12 hown hK hP 0 rfl rfl 26 (by decide) (hg _ wt5_186) (fun _ h9 => h9) rfl dX12_tells_79 ?_
      refine lv_iconst (v := 5) hx hb dX12_tells_82 (by decide) ?_
      refine lv_aload_n hx hb dX12_tells_83 rfl (lv_at hl 0 rfl) ?_
      refine lv_iload_n hx hb dX12_tells_84 rfl (lv_at hl 2 rfl) ?_
      refine lv_iload_n hx hb dX12_tells_85 rfl (lv_at hl 3 rfl) ?_
      refine kI.callV (As := [.int bd, .int pt]) (rest := [.int 5, .ref (r 26)]) ⟨hx, hb, hml, hown, hg⟩ (m_others l o r f a_24 g hI bd pt (kb_w bbd (by decide) (by decide)) ) (cwV 2 hg (kgV wt7_43 wt7_45 wp5_7 wt1_14 wt7_46) rfl rfl rfl (by decide +kernel) ⟨by decide, by decide⟩) hK hP hD hS hA mIs [] rfl (wr := []) rfl rfl rfl (fun i h => by cases h) 0 12 rfl rfl rfl hl.1 rfl (Nat.le_of_ble_eq_true rfl) dX12_tells_86 ⟨Nat.le_refl _, Nat.le_refl _⟩ (fun v26 u27 H locs hw25 hP hD hS => ?_)
      have hP : va_P D vwCl (mW K o r f a_24 g) H := hP
      have hD : va_D A (mW K o r f a_24 g) := hD
      refine va_iast hx hb hK hP hD hS 12 0 rfl rfl (kb_in kc_5 (by decide) (by decide)) dX12_tells_89 (fun H locs hP hD hS => ?_)
      rw [cl_5] at hP hD
      have hP : va_P D vwCl (mW K o r f (va_up a_24 26 (upd (a_24 26) 5 v26)) g) H := hP
      have hD : va_D A (mW K o r f (va_up a_24 26 (upd (a_24 26) 5 v26)) g) := hD
      refine k_gen (P := fun z => va_P D vwCl (mW K o r f z g) H ∧ va_D A (mW K o r f z g) ∧ (mI f z) ∧ (mE (XR []) f a f z) ∧ (mZ [22, 23, 24, 25] [26] f a f z)) (va_up a_24 26 (upd (a_24 26) 5 v26)) ⟨hP, hD, (mI_s hI (aI_free hI.2.1 26 _ (fun j => ⟨by show (mBa 26 j).1 ≤ _; exact Int.le_refl _, by show _ ≤ (mBa 26 j).2; exact Int.le_refl _⟩)) (by decide) (by decide)), (mE_s hE (by decide) (by decide) (by decide) (by decide)), (mZ_a hZ rfl)⟩ (fun a_28 ea_28 hq => ?_)
      obtain ⟨hP, hD, hI, hE, hZ⟩ := hq
      refine lv_aload_n hx hb dX12_tells_90 rfl (lv_at hl 0 rfl) ?_
      refine va_get (D := D) (ci := 12) (v := .ref (r 26)) (C := RX12) (T := TX12) (N := 48) hx hb hg inC12 hown hK hP 0 rfl rfl 26 (by decide) (hg _ wt5_186) (fun _ h9 => h9) rfl dX12_tells_91 ?_
      refine lv_bipush (v := 6) hx hb dX12_tells_94 (by decide) ?_
      refine lv_aload_n hx hb dX12_tells_96 rfl (lv_at hl 0 rfl) ?_
      refine va_get (D := D) (ci := 12) (v := .ref (r 2)) (C := RX12) (T := TX12) (N := 48) hx hb hg inC12 hown hK hP 0 rfl rfl 2 (by decide) (hg _ wt5_162) (fun _ h9 => h9) rfl dX12_tells_97 ?_
      refine lv_bipush (v := 101) hx hb dX12_tells_100 (by decide) ?_
      refine va_iald hx hb hK hP 2 0 rfl rfl (kb_in kc_101 (by decide) (by decide)) dX12_tells_102 ?_
      refine lv_topi (fun t29 et29 => ?_)
      rw [cl_101] at et29
      refine va_iast hx hb hK hP hD hS 12 0 rfl rfl (kb_in kc_6 (by decide) (by decide)) dX12_tells_103 (fun H locs hP hD hS => ?_)
      rw [cl_6] at hP hD
      have hP : va_P D vwCl (mW K o r f (va_up a_28 26 (upd (a_28 26) 6 t29)) g) H := hP
      have hD : va_D A (mW K o r f (va_up a_28 26 (upd (a_28 26) 6 t29)) g) := hD
      refine k_gen (P := fun z => va_P D vwCl (mW K o r f z g) H ∧ va_D A (mW K o r f z g) ∧ (mI f z) ∧ (mE (XR []) f a f z) ∧ (mZ [22, 23, 24, 25] [26] f a f z)) (va_up a_28 26 (upd (a_28 26) 6 t29)) ⟨hP, hD, (mI_s hI (aI_free hI.2.1 26 _ (fun j => ⟨by show (mBa 26 j).1 ≤ _; exact Int.le_refl _, by show _ ≤ (mBa 26 j).2; exact Int.le_refl _⟩)) (by decide) (by decide)), (mE_s hE (by decide) (by decide) (by decide) (by decide)), (mZ_a hZ rfl)⟩ (fun a_30 ea_30 hq => ?_)
      obtain ⟨hP, hD, hI, hE, hZ⟩ := hq
      refine lv_aload_n hx hb dX12_tells_104 rfl (lv_at hl 0 rfl) ?_
      refine va_get (D := D) (ci := 12) (v := .ref (r 26)) (C := RX12) (T := TX12) (N := 48) hx hb hg inC12 hown hK hP 0 rfl rfl 26 (by decide) (hg _ wt5_186) (fun _ h9 => h9) rfl dX12_tells_105 ?_
      refine lv_bipush (v := 7) hx hb dX12_tells_108 (by decide) ?_
      refine lv_aload_n hx hb dX12_tells_110 rfl (lv_at hl 0 rfl) ?_
      refine va_get (D := D) (ci := 12) (v := .ref (r 2)) (C := RX12) (T := TX12) (N := 48) hx hb hg inC12 hown hK hP 0 rfl rfl 2 (by decide) (hg _ wt5_162) (fun _ h9 => h9) rfl dX12_tells_111 ?_
      refine lv_iconst (v := 0) hx hb dX12_tells_114 (by decide) ?_
      refine lv_iload_n hx hb dX12_tells_115 rfl (lv_at hl 3 rfl) ?_
      refine lv_iadd hx hb dX12_tells_116 ?_
      refine k_top (z := pt) (Int32.zero_add _) ?_
      refine va_iald hx hb hK hP 2 0 rfl rfl (kb_in bpt (by decide) (by decide)) dX12_tells_117 ?_
      refine lv_topi (fun t31 et31 => ?_)
      have b32 : kb 0 t31 99 := kb_eq et31 (aI_ld hI.2.1 2 0 10 bpt (by decide) (by decide) (by decide +kernel))
      refine va_iast hx hb hK hP hD hS 12 0 rfl rfl (kb_in kc_7 (by decide) (by decide)) dX12_tells_118 (fun H locs hP hD hS => ?_)
      rw [cl_7] at hP hD
      have hP : va_P D vwCl (mW K o r f (va_up a_30 26 (upd (a_30 26) 7 t31)) g) H := hP
      have hD : va_D A (mW K o r f (va_up a_30 26 (upd (a_30 26) 7 t31)) g) := hD
      refine k_gen (P := fun z => va_P D vwCl (mW K o r f z g) H ∧ va_D A (mW K o r f z g) ∧ (mI f z) ∧ (mE (XR []) f a f z) ∧ (mZ [22, 23, 24, 25] [26] f a f z)) (va_up a_30 26 (upd (a_30 26) 7 t31)) ⟨hP, hD, (mI_s hI (aI_free hI.2.1 26 _ (fun j => ⟨by show (mBa 26 j).1 ≤ _; exact Int.le_refl _, by show _ ≤ (mBa 26 j).2; exact Int.le_refl _⟩)) (by decide) (by decide)), (mE_s hE (by decide) (by decide) (by decide) (by decide)), (mZ_a hZ rfl)⟩ (fun a_33 ea_33 hq => ?_)
      obtain ⟨hP, hD, hI, hE, hZ⟩ := hq
      refine lv_aload_n hx hb dX12_tells_119 rfl (lv_at hl 0 rfl) ?_
      refine va_get (D := D) (ci := 12) (v := .ref (r 26)) (C := RX12) (T := TX12) (N := 48) hx hb hg inC12 hown hK hP 0 rfl rfl 26 (by decide) (hg _ wt5_186) (fun _ h9 => h9) rfl dX12_tells_120 ?_
      refine lv_bipush (v := 8) hx hb dX12_tells_123 (by decide) ?_
      refine lv_aload_n hx hb dX12_tells_125 rfl (lv_at hl 0 rfl) ?_
      refine va_get (D := D) (ci := 12) (v := .ref (r 2)) (C := RX12) (T := TX12) (N := 48) hx hb hg inC12 hown hK hP 0 rfl rfl 2 (by decide) (hg _ wt5_162) (fun _ h9 => h9) rfl dX12_tells_126 ?_
      refine lv_bipush (v := 10) hx hb dX12_tells_129 (by decide) ?_
      refine lv_iload_n hx hb dX12_tells_131 rfl (lv_at hl 2 rfl) ?_
      refine lv_iadd hx hb dX12_tells_132 ?_
      refine lv_topi (fun t34 et34 => ?_)
      have b35 : kb 10 t34 15 := kb_eq et34 (kb_add kc_10 bbd (by decide) (by decide))
      have qt34 : t34.toInt = 10 + bd.toInt := by rw [et34]; exact kt_cadd kc_10 bbd (by decide) (by decide)
      refine va_iald hx hb hK hP 2 0 rfl rfl (kb_in b35 (by decide) (by decide)) dX12_tells_133 ?_
      refine lv_topi (fun t36 et36 => ?_)
      have b37 : kb 0 t36 99 := kb_eq et36 (aI_ld hI.2.1 2 10 6 b35 (by decide) (by decide) (by decide +kernel))
      refine va_iast hx hb hK hP hD hS 12 0 rfl rfl (kb_in kc_8 (by decide) (by decide)) dX12_tells_134 (fun H locs hP hD hS => ?_)
      rw [cl_8] at hP hD
      have hP : va_P D vwCl (mW K o r f (va_up a_33 26 (upd (a_33 26) 8 t36)) g) H := hP
      have hD : va_D A (mW K o r f (va_up a_33 26 (upd (a_33 26) 8 t36)) g) := hD
      refine k_gen (P := fun z => va_P D vwCl (mW K o r f z g) H ∧ va_D A (mW K o r f z g) ∧ (mI f z) ∧ (mE (XR []) f a f z) ∧ (mZ [22, 23, 24, 25] [26] f a f z)) (va_up a_33 26 (upd (a_33 26) 8 t36)) ⟨hP, hD, (mI_s hI (aI_free hI.2.1 26 _ (fun j => ⟨by show (mBa 26 j).1 ≤ _; exact Int.le_refl _, by show _ ≤ (mBa 26 j).2; exact Int.le_refl _⟩)) (by decide) (by decide)), (mE_s hE (by decide) (by decide) (by decide) (by decide)), (mZ_a hZ rfl)⟩ (fun a_38 ea_38 hq => ?_)
      obtain ⟨hP, hD, hI, hE, hZ⟩ := hq
      refine lv_aload_n hx hb dX12_tells_135 rfl (lv_at hl 0 rfl) ?_
      refine va_get (D := D) (ci := 12) (v := .ref (r 26)) (C := RX12) (T := TX12) (N := 48) hx hb hg inC12 hown hK hP 0 rfl rfl 26 (by decide) (hg _ wt5_186) (fun _ h9 => h9) rfl dX12_tells_136 ?_
      refine lv_bipush (v := 9) hx hb dX12_tells_139 (by decide) ?_
      refine lv_aload_n hx hb dX12_tells_141 rfl (lv_at hl 0 rfl) ?_
      refine va_get (D := D) (ci := 12) (v := .ref (r 2)) (C := RX12) (T := TX12) (N := 48) hx hb hg inC12 hown hK hP 0 rfl rfl 2 (by decide) (hg _ wt5_162) (fun _ h9 => h9) rfl dX12_tells_142 ?_
      refine lv_bipush (v := 22) hx hb dX12_tells_145 (by decide) ?_
      refine va_iald hx hb hK hP 2 0 rfl rfl (kb_in kc_22 (by decide) (by decide)) dX12_tells_147 ?_
      refine lv_topi (fun t39 et39 => ?_)
      rw [cl_22] at et39
      refine va_iast hx hb hK hP hD hS 12 0 rfl rfl (kb_in kc_9 (by decide) (by decide)) dX12_tells_148 (fun H locs hP hD hS => ?_)
      rw [cl_9] at hP hD
      have hP : va_P D vwCl (mW K o r f (va_up a_38 26 (upd (a_38 26) 9 t39)) g) H := hP
      have hD : va_D A (mW K o r f (va_up a_38 26 (upd (a_38 26) 9 t39)) g) := hD
      refine k_gen (P := fun z => va_P D vwCl (mW K o r f z g) H ∧ va_D A (mW K o r f z g) ∧ (mI f z) ∧ (mE (XR []) f a f z) ∧ (mZ [22, 23, 24, 25] [26] f a f z)) (va_up a_38 26 (upd (a_38 26) 9 t39)) ⟨hP, hD, (mI_s hI (aI_free hI.2.1 26 _ (fun j => ⟨by show (mBa 26 j).1 ≤ _; exact Int.le_refl _, by show _ ≤ (mBa 26 j).2; exact Int.le_refl _⟩)) (by decide) (by decide)), (mE_s hE (by decide) (by decide) (by decide) (by decide)), (mZ_a hZ rfl)⟩ (fun a_40 ea_40 hq => ?_)
      obtain ⟨hP, hD, hI, hE, hZ⟩ := hq
      refine lv_aload_n hx hb dX12_tells_149 rfl (lv_at hl 0 rfl) ?_
      refine lv_iconst (v := 0) hx hb dX12_tells_150 (by decide) ?_
      refine va_put (D := D) (ci := 12) (v := .int 0) (ty := .boolean) (C := RX12) (T := TX12) (N := 48) hx hb hg inC12 tyX12 tyX12_ok nmX12 hown hK hP hD hS 0 rfl rfl 25 (by decide) (hg _ wt5_185) (fun _ h9 => h9) rfl (by decide +kernel) rfl rfl (Nat.le_of_ble_eq_true rfl) dX12_tells_151 (fun H locs hP hD hS => ?_)
      have hP : va_P D vwCl (mW K o r (upd f 25 0) a_40 g) H := hP
      have hD : va_D A (mW K o r (upd f 25 0) a_40 g) := hD
      refine k_gen (P := fun z => va_P D vwCl (mW K o r z a_40 g) H ∧ va_D A (mW K o r z a_40 g) ∧ (mI z a_40) ∧ (mE (XR []) f a z a_40) ∧ (mZ [22, 23, 24, 25] [26] f a z a_40)) (upd f 25 0) ⟨hP, hD, (mI_f hI (fI_st hI.1 25 kc_0 (by decide) (by decide))), (mE_f hE (by decide)), (mZ_f hZ rfl)⟩ (fun f_41 ef_41 hq => ?_)
      obtain ⟨hP, hD, hI, hE, hZ⟩ := hq
      refine lv_iload hx hb dX12_tells_154 (lv_at hl 5 rfl) ?_
      refine lv_i2l hx hb dX12_tells_156 rfl ?_
      refine lv_topl (fun t42 et42 => ?_)
      have b43 : kbl 0 t42 20 := kbl_eq et42 (kbl_i2l bwo)
      refine lv_lstore (lv' := [(6, .long t42), (0, .ref o), (1, .int hd), (2, .int bd), (3, .int pt), (4, .int hi), (5, .int wo)]) hx hb dX12_tells_157 hl (by decide) rfl (fun ls hl => ?_)
      refine lv_aload_n hx hb dX12_tells_159 rfl (lv_at hl 1 rfl) ?_
      refine lv_sipush (v := 400) hx hb dX12_tells_160 (by decide) ?_
      refine lv_aload_n hx hb dX12_tells_163 rfl (lv_at hl 1 rfl) ?_
      refine va_get (D := D) (ci := 12) (v := .ref (r 2)) (C := RX12) (T := TX12) (N := 48) hx hb hg inC12 hown hK hP 0 rfl rfl 2 (by decide) (hg _ wt5_162) (fun _ h9 => h9) rfl dX12_tells_164 ?_
      refine lv_bipush (v := 106) hx hb dX12_tells_167 (by decide) ?_
      refine va_iald hx hb hK hP 2 0 rfl rfl (kb_in kc_106 (by decide) (by decide)) dX12_tells_169 ?_
      refine k_top (z := t1) (by rw [cl_106]; exact ((show a_40 2 106 = a_38 2 106 from by rw [← ea_40]; rfl).trans ((show a_38 2 106 = a_33 2 106 from by rw [← ea_38]; rfl).trans ((show a_33 2 106 = a_30 2 106 from by rw [← ea_33]; rfl).trans ((show a_30 2 106 = a_28 2 106 from by rw [← ea_30]; rfl).trans ((show a_28 2 106 = a_24 2 106 from by rw [← ea_28]; rfl).trans ((show a_24 2 106 = a_20 2 106 from by rw [← ea_24]; rfl).trans ((show a_20 2 106 = a_11 2 106 from by rw [← ea_20]; rfl).trans ((show a_11 2 106 = a_10 2 106 from by rw [← ea_11]; rfl).trans ((show a_10 2 106 = a_5 2 106 from by rw [← ea_10]; rfl).trans ((show a_5 2 106 = a 2 106 from by rw [← ea_5]; rfl).trans et1.symm))))))))))) ?_
      refine lv_imul hx hb dX12_tells_170 ?_
      refine lv_topi (fun t44 et44 => ?_)
      have b45 : kb 0 t44 2000 := kb_eq et44 (kb_mul kc_400 b4 (by decide) (by decide) (by decide))
      have qt44 : t44.toInt = 400 * t1.toInt := by rw [et44]; exact kt_cmul kc_400 b4 (by decide) (by decide) (by decide)
      refine va_put (D := D) (ci := 12) (v := .int t44) (ty := .int) (C := RX12) (T := TX12) (N := 48) hx hb hg inC12 tyX12 tyX12_ok nmX12 hown hK hP hD hS 0 rfl rfl 22 (by decide) (hg _ wt5_182) (fun _ h9 => h9) rfl (by decide +kernel) rfl rfl (Nat.le_of_ble_eq_true rfl) dX12_tells_171 (fun H locs hP hD hS => ?_)
      have hP : va_P D vwCl (mW K o r (upd f_41 22 t44) a_40 g) H := hP
      have hD : va_D A (mW K o r (upd f_41 22 t44) a_40 g) := hD
      refine k_gen (P := fun z => va_P D vwCl (mW K o r z a_40 g) H ∧ va_D A (mW K o r z a_40 g) ∧ (mI z a_40) ∧ (mE (XR []) f a z a_40) ∧ (mZ [22, 23, 24, 25] [26] f a z a_40)) (upd f_41 22 t44) ⟨hP, hD, (mI_f hI (fI_st hI.1 22 (kb_any _) (by decide) (by decide))), (mE_f hE (by decide)), (mZ_f hZ rfl)⟩ (fun f_46 ef_46 hq => ?_)
      obtain ⟨hP, hD, hI, hE, hZ⟩ := hq
      refine lv_aload_n hx hb dX12_tells_174 rfl (lv_at hl 1 rfl) ?_
      refine lv_aload_n hx hb dX12_tells_175 rfl (lv_at hl 1 rfl) ?_
      refine va_get (D := D) (ci := 12) (v := .int (f_46 22)) (C := RX12) (T := TX12) (N := 48) hx hb hg inC12 hown hK hP 0 rfl rfl 22 (by decide) (hg _ wt5_182) (fun _ h9 => h9) rfl dX12_tells_176 ?_
      refine k_top (z := t44) (show f_46 22 = t44 from by rw [← ef_46]; rfl) ?_
      refine lv_aload_n hx hb dX12_tells_179 rfl (lv_at hl 1 rfl) ?_
      refine va_get (D := D) (ci := 12) (v := .ref (r 2)) (C := RX12) (T := TX12) (N := 48) hx hb hg inC12 hown hK hP 0 rfl rfl 2 (by decide) (hg _ wt5_162) (fun _ h9 => h9) rfl dX12_tells_180 ?_
      refine lv_bipush (v := 107) hx hb dX12_tells_183 (by decide) ?_
      refine lv_aload_n hx hb dX12_tells_185 rfl (lv_at hl 1 rfl) ?_
      refine va_get (D := D) (ci := 12) (v := .ref (r 2)) (C := RX12) (T := TX12) (N := 48) hx hb hg inC12 hown hK hP 0 rfl rfl 2 (by decide) (hg _ wt5_162) (fun _ h9 => h9) rfl dX12_tells_186 ?_
      refine lv_bipush (v := 106) hx hb dX12_tells_189 (by decide) ?_
      refine va_iald hx hb hK hP 2 0 rfl rfl (kb_in kc_106 (by decide) (by decide)) dX12_tells_191 ?_
      refine k_top (z := t1) (by rw [cl_106]; exact ((show a_40 2 106 = a_38 2 106 from by rw [← ea_40]; rfl).trans ((show a_38 2 106 = a_33 2 106 from by rw [← ea_38]; rfl).trans ((show a_33 2 106 = a_30 2 106 from by rw [← ea_33]; rfl).trans ((show a_30 2 106 = a_28 2 106 from by rw [← ea_30]; rfl).trans ((show a_28 2 106 = a_24 2 106 from by rw [← ea_28]; rfl).trans ((show a_24 2 106 = a_20 2 106 from by rw [← ea_24]; rfl).trans ((show a_20 2 106 = a_11 2 106 from by rw [← ea_20]; rfl).trans ((show a_11 2 106 = a_10 2 106 from by rw [← ea_11]; rfl).trans ((show a_10 2 106 = a_5 2 106 from by rw [← ea_10]; rfl).trans ((show a_5 2 106 = a 2 106 from by rw [← ea_5]; rfl).trans et1.symm))))))))))) ?_
      refine lv_iadd hx hb dX12_tells_192 ?_
      refine lv_topi (fun t47 et47 => ?_)
      have b48 : kb 107 t47 112 := kb_eq et47 (kb_add kc_107 b4 (by decide) (by decide))
      have qt47 : t47.toInt = 107 + t1.toInt := by rw [et47]; exact kt_cadd kc_107 b4 (by decide) (by decide)
      refine va_iald hx hb hK hP 2 0 rfl rfl (kb_in b48 (by decide) (by decide)) dX12_tells_193 ?_
      refine lv_topi (fun t49 et49 => ?_)
      have b50 : kb 0 t49 400 := kb_eq et49 (aI_ld hI.2.1 2 107 6 b48 (by decide) (by decide) (by decide +kernel))
      refine lv_iadd hx hb dX12_tells_194 ?_
      refine lv_topi (fun t51 et51 => ?_)
      have b52 : kb 0 t51 2400 := kb_eq et51 (kb_add b45 b50 (by decide) (by decide))
      have qt51 : t51.toInt = t44.toInt + t49.toInt := by rw [et51]; exact kt_add b45 b50 (by decide) (by decide)
      refine va_put (D := D) (ci := 12) (v := .int t51) (ty := .int) (C := RX12) (T := TX12) (N := 48) hx hb hg inC12 tyX12 tyX12_ok nmX12 hown hK hP hD hS 0 rfl rfl 23 (by decide) (hg _ wt5_183) (fun _ h9 => h9) rfl (by decide +kernel) rfl rfl (Nat.le_of_ble_eq_true rfl) dX12_tells_195 (fun H locs hP hD hS => ?_)
      have hP : va_P D vwCl (mW K o r (upd f_46 23 t51) a_40 g) H := hP
      have hD : va_D A (mW K o r (upd f_46 23 t51) a_40 g) := hD
      refine k_gen (P := fun z => va_P D vwCl (mW K o r z a_40 g) H ∧ va_D A (mW K o r z a_40 g) ∧ (mI z a_40) ∧ (mE (XR []) f a z a_40) ∧ (mZ [22, 23, 24, 25] [26] f a z a_40)) (upd f_46 23 t51) ⟨hP, hD, (mI_f hI (fI_st hI.1 23 (kb_any _) (by decide) (by decide))), (mE_f hE (by decide)), (mZ_f hZ rfl)⟩ (fun f_53 ef_53 hq => ?_)
      obtain ⟨hP, hD, hI, hE, hZ⟩ := hq
      obtain ⟨t, ht⟩ : ∃ t : Nat, (t : Int) = t1.toInt := ⟨t1.toInt.toNat, by have h1 := (b4).1; omega⟩
      have ht6 : t < 6 := by have h1 := (b4).2; omega
      have hix : t47.toNatClampNeg = 107 + t := by have h1 := kb_cl b48 (by decide); omega
      have hsz : a_40 2 (107 + t) = t49 := by rw [← hix]; exact et49.symm
      have hk0 : eS f_53 a_40 t false := ⟨by omega, by rw [(show f_53 23 = t51 from by rw [← ef_53]; rfl), hsz, qt51, qt44]; omega, ((show f_53 25 = f_46 25 from by rw [← ef_53]; rfl).trans ((show f_46 25 = f_41 25 from by rw [← ef_46]; rfl).trans (show f_41 25 = 0 from by rw [← ef_41]; rfl))), by rw [hsz]; exact (b50).1, by rw [hsz]; exact (b50).2⟩
      have hg0 : t44.toInt = 400 * (t : Int) + ((0 : Nat) : Int) := by rw [qt44]; omega
      obtain ⟨S, hSz⟩ : ∃ S : Nat, (S : Int) = (a_40 2 (107 + t)).toInt := ⟨(a_40 2 (107 + t)).toInt.toNat, by have h1 := hk0.2.2.2.1; omega⟩
      obtain ⟨n0, hn0⟩ : ∃ n0 : Nat, ((S : Int) ≤ ((0 : Nat) : Int) ∧ 0 < n0) ∨ gg false (mC (a_40 2) t) n0 8 15 0 S := by
        rcases hI.2.2.1 t ht6 with h | ⟨n, h⟩
        · exact ⟨1, Or.inl ⟨by omega, by decide⟩⟩
        · exact ⟨n, Or.inr (by have : S = (a_40 2 (107 + t)).toInt.toNat := (by omega); rw [this]; exact h)⟩
      have lp56 : ∀ (n57 : Nat) (i : Nat) (F55 : Nat → Int32) (H : Heap) (locs : List Loc) (ls : Array Slot) (y54 : Int64), (((S : Int) ≤ (i : Int) ∧ 0 < n57) ∨ gg false (mC (a_40 2) t) n57 8 15 i S) → (mI F55 a_40) → (mE (XR []) f a F55 a_40) → (mZ [22, 23, 24, 25] [26] f a F55 a_40) → (eS F55 a_40 t false) → (kbl 0 y54 20) → ((F55 22).toInt = 400 * (t : Int) + (i : Int)) → va_P D vwCl (mW K o r F55 a_40 g) H → va_D A (mW K o r F55 a_40 g) → va_S A s.heap H locs → lv_has ls 13 [(6, .long y54), (0, .ref o), (1, .int hd), (2, .int bd), (3, .int pt), (4, .int hi), (5, .int wo)] → W p l e (rmD 48 0 0) s m ([.ref o, .int hd, .int bd, .int pt, .int hi, .int wo] : List Value).toArray below meth c H locs 0 0 (kQi D (tysK K) (fun v (u : mS) => kb 0 v 20 ∧ mI u.1 u.2.1 ∧ mE (XR []) f a u.1 u.2.1 ∧ mZ [22, 23, 24, 25] [26] f a u.1 u.2.1) (fun u => mW K o r u.1 u.2.1 u.2.2) A below ([.ref o, .int hd, .int bd, .int pt, .int hi, .int wo] : List Value).toArray s 0 0) (F0 m 198 ls []) := by
        intro n57
        induction n57 with
        | zero =>
          intro i F55  H locs ls y54 hmlp56 hI hE hZ hk0 b58 hvlp56_0 hP hD hS hl
          exact (hmlp56.elim (fun h => absurd h.2 (by decide)) (fun h => h) : False).elim
        | succ n57 ihlp56 =>
          intro i F55  H locs ls y54 hmlp56 hI hE hZ hk0 b58 hvlp56_0 hP hD hS hl
          obtain ⟨gv59, egv59⟩ : ∃ z : Int32, z = F55 22 := ⟨_, rfl⟩
          have hg60 : gv59.toInt = 400 * (t : Int) + ((i : Nat) : Int) := by rw [egv59]; exact hvlp56_0
          rcases hmlp56 with hfin | hcl
          · refine lv_aload_n hx hb dX12_tells_198 rfl (lv_at hl 1 rfl) ?_
            refine va_get (D := D) (ci := 12) (v := .int (F55 22)) (C := RX12) (T := TX12) (N := 48) hx hb hg inC12 hown hK hP 0 rfl rfl 22 (by decide) (hg _ wt5_182) (fun _ h9 => h9) rfl dX12_tells_199 ?_
            refine k_top (z := gv59) egv59.symm ?_
            refine lv_aload_n hx hb dX12_tells_202 rfl (lv_at hl 1 rfl) ?_
            refine va_get (D := D) (ci := 12) (v := .int (F55 23)) (C := RX12) (T := TX12) (N := 48) hx hb hg inC12 hown hK hP 0 rfl rfl 23 (by decide) (hg _ wt5_183) (fun _ h9 => h9) rfl dX12_tells_203 ?_
            refine lv_topi (fun t61 et61 => ?_)
            refine lv_icmp_ge (tgt := 351) hx hb dX12_tells_206 (by decide) (fun c62 => ?_) (fun c62 => ?_)
            · have h63 := (kc_le c62)
              refine lv_lload hx hb dX12_tells_351 (lv_at hl 0 rfl) ?_
              refine lv_l2i hx hb dX12_tells_353 rfl ?_
              refine lv_topi (fun t64 et64 => ?_)
              have b65 : kb 0 t64 20 := kb_eq et64 (kb_l2i b58 (by decide) (by decide))
              exact kI_ret (v := t64) hx hb hr hlocks rfl hK hS dX12_tells_354 (F55, a_40, g) hP hD ⟨b65, hI, hE, hZ⟩
            · exact absurd (kc_nle c62) (by have w1 := congrArg Int32.toInt et61.symm; have w2 := hk0.2.1; have w3 := hg60; omega)
          · obtain ⟨m1, h11, h16⟩ := gg_out hcl
            rcases gG_out (gG_of h11) with ⟨h1, mm, hs, h12⟩ | ⟨h1, h12⟩
            · have h16 := g16 h16
              have b66 : kb 0 gv59 2799 := kb_go hk0 (mC_lt hk0 (kb_nz (kb13 h1) (by decide))) hg60
              rcases gG_out h12 with ⟨h2, h3⟩ | ⟨h2, hj⟩
              · refine lv_aload_n hx hb dX12_tells_198 rfl (lv_at hl 1 rfl) ?_
                refine va_get (D := D) (ci := 12) (v := .int (F55 22)) (C := RX12) (T := TX12) (N := 48) hx hb hg inC12 hown hK hP 0 rfl rfl 22 (by decide) (hg _ wt5_182) (fun _ h9 => h9) rfl dX12_tells_199 ?_
                refine k_top (z := gv59) egv59.symm ?_
                refine lv_aload_n hx hb dX12_tells_202 rfl (lv_at hl 1 rfl) ?_
                refine va_get (D := D) (ci := 12) (v := .int (F55 23)) (C := RX12) (T := TX12) (N := 48) hx hb hg inC12 hown hK hP 0 rfl rfl 23 (by decide) (hg _ wt5_183) (fun _ h9 => h9) rfl dX12_tells_203 ?_
                refine lv_topi (fun t67 et67 => ?_)
                refine lv_icmp_ge (tgt := 351) hx hb dX12_tells_206 (by decide) (fun c68 => ?_) (fun c68 => ?_)
                · exact absurd (kc_le c68) (by have w1 := congrArg Int32.toInt et67.symm; have w2 := hk0.2.1; have w3 := hg60; have w4 := mC_lS hk0 (kb_nz (kb13 h1) (by decide)); omega)
                · have h69 := (kc_nle c68)
                  have b70 : kb 1 t67 2147483647 := kr_lt2 h69 b66 (kb_any t67) (by decide)
                  refine lv_aload_n hx hb dX12_tells_209 rfl (lv_at hl 1 rfl) ?_
                  refine lv_aload_n hx hb dX12_tells_210 rfl (lv_at hl 1 rfl) ?_
                  refine va_get (D := D) (ci := 12) (v := .int (F55 22)) (C := RX12) (T := TX12) (N := 48) hx hb hg inC12 hown hK hP 0 rfl rfl 22 (by decide) (hg _ wt5_182) (fun _ h9 => h9) rfl dX12_tells_211 ?_
                  refine k_top (z := gv59) egv59.symm ?_
                  refine kI.callV (As := [.int gv59]) (rest := []) ⟨hx, hb, hml, hown, hg⟩ (m_codeAt l o r F55 a_40 g hI gv59  t (i) false hk0 hg60) (cwV 1 hg (kgV wt7_47 wt7_49 wp5_8 wt1_14 wt7_50) rfl rfl rfl (by decide +kernel) ⟨by decide, by decide⟩) hK hP hD hS hA mIs [] rfl (wr := []) rfl rfl rfl (fun i h => by cases h) 0 12 rfl rfl rfl hl.1 rfl (Nat.le_of_ble_eq_true rfl) dX12_tells_214 ⟨Nat.le_refl _, Nat.le_refl _⟩ (fun v72 u73 H locs hw71 hP hD hS => ?_)
                  have hP : va_P D vwCl (mW K o r F55 a_40 g) H := hP
                  have hD : va_D A (mW K o r F55 a_40 g) := hD
                  have b74 : kb 1 v72 3 := kb_eq hw71.2 (kb13 h1)
                  refine lv_istore (lv' := [(8, .int v72), (6, .long y54), (0, .ref o), (1, .int hd), (2, .int bd), (3, .int pt), (4, .int hi), (5, .int wo)]) hx hb dX12_tells_217 hl (by decide) rfl (fun ls hl => ?_)
                  refine lv_aload_n hx hb dX12_tells_219 rfl (lv_at hl 2 rfl) ?_
                  refine lv_iconst (v := 0) hx hb dX12_tells_220 (by decide) ?_
                  refine va_put (D := D) (ci := 12) (v := .int 0) (ty := .boolean) (C := RX12) (T := TX12) (N := 48) hx hb hg inC12 tyX12 tyX12_ok nmX12 hown hK hP hD hS 0 rfl rfl 24 (by decide) (hg _ wt5_184) (fun _ h9 => h9) rfl (by decide +kernel) rfl rfl (Nat.le_of_ble_eq_true rfl) dX12_tells_221 (fun H locs hP hD hS => ?_)
                  have hP : va_P D vwCl (mW K o r (upd F55 24 0) a_40 g) H := hP
                  have hD : va_D A (mW K o r (upd F55 24 0) a_40 g) := hD
                  refine k_gen (P := fun z => va_P D vwCl (mW K o r z a_40 g) H ∧ va_D A (mW K o r z a_40 g) ∧ (mI z a_40) ∧ (mE (XR []) f a z a_40) ∧ (mZ [22, 23, 24, 25] [26] f a z a_40) ∧ (eS z a_40 t false)) (upd F55 24 0) ⟨hP, hD, (mI_f hI (fI_st hI.1 24 kc_0 (by decide) (by decide))), (mE_f hE (by decide)), (mZ_f hZ rfl), (eS_f hk0 (by decide) (by decide))⟩ (fun f_75 ef_75 hq => ?_)
                  obtain ⟨hP, hD, hI, hE, hZ, hk0⟩ := hq
                  refine lv_aload_n hx hb dX12_tells_224 rfl (lv_at hl 2 rfl) ?_
                  refine lv_dup hx hb dX12_tells_225 rfl ?_
                  refine va_get (D := D) (ci := 12) (v := .int (f_75 22)) (C := RX12) (T := TX12) (N := 48) hx hb hg inC12 hown hK hP 0 rfl rfl 22 (by decide) (hg _ wt5_182) (fun _ h9 => h9) rfl dX12_tells_226 ?_
                  refine k_top (z := gv59) ((show f_75 22 = F55 22 from by rw [← ef_75]; rfl).trans egv59.symm) ?_
                  refine lv_iconst (v := 1) hx hb dX12_tells_229 (by decide) ?_
                  refine lv_iadd hx hb dX12_tells_230 ?_
                  refine lv_topi (fun t76 et76 => ?_)
                  have b77 : kb 1 t76 2800 := kb_eq et76 (kb_add b66 kc_1 (by decide) (by decide))
                  have qt76 : t76.toInt = gv59.toInt + 1 := by rw [et76]; exact kt_addc b66 kc_1 (by decide) (by decide)
                  have hg78 : t76.toInt = 400 * (t : Int) + ((i + 1 : Nat) : Int) := by rw [qt76, hg60]; omega
                  refine va_put (D := D) (ci := 12) (v := .int t76) (ty := .int) (C := RX12) (T := TX12) (N := 48) hx hb hg inC12 tyX12 tyX12_ok nmX12 hown hK hP hD hS 0 rfl rfl 22 (by decide) (hg _ wt5_182) (fun _ h9 => h9) rfl (by decide +kernel) rfl rfl (Nat.le_of_ble_eq_true rfl) dX12_tells_231 (fun H locs hP hD hS => ?_)
                  have hP : va_P D vwCl (mW K o r (upd f_75 22 t76) a_40 g) H := hP
                  have hD : va_D A (mW K o r (upd f_75 22 t76) a_40 g) := hD
                  refine k_gen (P := fun z => va_P D vwCl (mW K o r z a_40 g) H ∧ va_D A (mW K o r z a_40 g) ∧ (mI z a_40) ∧ (mE (XR []) f a z a_40) ∧ (mZ [22, 23, 24, 25] [26] f a z a_40) ∧ (eS z a_40 t false)) (upd f_75 22 t76) ⟨hP, hD, (mI_f hI (fI_st hI.1 22 (kb_any _) (by decide) (by decide))), (mE_f hE (by decide)), (mZ_f hZ rfl), (eS_f hk0 (by decide) (by decide))⟩ (fun f_79 ef_79 hq => ?_)
                  obtain ⟨hP, hD, hI, hE, hZ, hk0⟩ := hq
                  refine lv_iload hx hb dX12_tells_234 (lv_at hl 0 rfl) ?_
                  refine lv_iconst (v := 4) hx hb dX12_tells_236 (by decide) ?_
                  refine lv_icmp_ne (tgt := 244) hx hb dX12_tells_237 (by decide) (fun c87 => ?_) (fun c87 => ?_)
                  · refine lv_aload_n hx hb dX12_tells_244 rfl (lv_at hl 2 rfl) ?_
                    refine lv_iconst (v := 1) hx hb dX12_tells_245 (by decide) ?_
                    refine kL.callV (As := [.int 1]) (rest := []) ⟨hx, hb, hml, hown, hg⟩ ((m_allSum 8) l o r f_79 a_40 g hI 1 (kb_w kc_1 (by decide) (by decide)) t (i + 1) (mm) false hk0 (by rw [(show f_79 22 = t76 from by rw [← ef_79]; rfl)]; exact hg78) hs) (cwV 1 hg (kgV wt7_51 wt7_53 wp5_9 wt1_14 wt7_54) rfl rfl rfl (by decide +kernel) ⟨by decide, by decide⟩) hK hP hD hS hA mIs [] rfl (wr := []) rfl rfl rfl (fun i h => by cases h) 0 12 rfl rfl rfl hl.1 rfl (Nat.le_of_ble_eq_true rfl) dX12_tells_246 ⟨Nat.le_refl _, Nat.le_refl _⟩ (fun v89 u90 H locs hw88 hP hD hS => ?_)
                    have hP : va_P D vwCl (mW K o r u90 a_40 g) H := hP
                    have hD : va_D A (mW K o r u90 a_40 g) := hD
                    have hI : mI u90 a_40 := hw88.2.1
                    have eE91 : fE [22, 24] f_79 u90 := hw88.2.2.1
                    have hE : mE (XR []) f a u90 a_40 := mE_fE hE eE91 (by decide)
                    have hZ : mZ [22, 23, 24, 25] [26] f a u90 a_40 := mZ_fE hZ (fE_w (by decide) eE91)
                    have hk0 : eS u90 a_40 t false := eS_fE eE91 hk0 (by decide) (by decide)
                    obtain ⟨gv92, egv92⟩ : ∃ z : Int32, z = u90 22 := ⟨_, rfl⟩
                    have hg93 : gv92.toInt = 400 * (t : Int) + ((mm : Nat) : Int) := by rw [egv92]; exact hw88.2.2.2
                    have b94 : kb 0 gv92 2799 := kb_go hk0 (mC_lt hk0 (ne_0 h2 (by decide +kernel))) hg93
                    refine lv_lstore (lv' := [(9, .long v89), (8, .int v72), (6, .long y54), (0, .ref o), (1, .int hd), (2, .int bd), (3, .int pt), (4, .int hi), (5, .int wo)]) hx hb dX12_tells_249 hl (by decide) rfl (fun ls hl => ?_)
                    refine lv_aload_n hx hb dX12_tells_251 rfl (lv_at hl 3 rfl) ?_
                    refine va_get (D := D) (ci := 12) (v := .int (u90 24)) (C := RX12) (T := TX12) (N := 48) hx hb hg inC12 hown hK hP 0 rfl rfl 24 (by decide) (hg _ wt5_184) (fun _ h9 => h9) rfl dX12_tells_252 ?_
                    refine lv_topi (fun t95 et95 => ?_)
                    have b96 : kb 0 t95 1 := kb_eq et95 (fI_at hI.1 24 (by decide) (by decide))
                    refine lv_istore (lv' := [(11, .int t95), (9, .long v89), (8, .int v72), (6, .long y54), (0, .ref o), (1, .int hd), (2, .int bd), (3, .int pt), (4, .int hi), (5, .int wo)]) hx hb dX12_tells_255 hl (by decide) rfl (fun ls hl => ?_)
                    refine lv_aload_n hx hb dX12_tells_257 rfl (lv_at hl 4 rfl) ?_
                    refine lv_iconst (v := 0) hx hb dX12_tells_258 (by decide) ?_
                    refine va_put (D := D) (ci := 12) (v := .int 0) (ty := .boolean) (C := RX12) (T := TX12) (N := 48) hx hb hg inC12 tyX12 tyX12_ok nmX12 hown hK hP hD hS 0 rfl rfl 24 (by decide) (hg _ wt5_184) (fun _ h9 => h9) rfl (by decide +kernel) rfl rfl (Nat.le_of_ble_eq_true rfl) dX12_tells_259 (fun H locs hP hD hS => ?_)
                    have hP : va_P D vwCl (mW K o r (upd u90 24 0) a_40 g) H := hP
                    have hD : va_D A (mW K o r (upd u90 24 0) a_40 g) := hD
                    refine k_gen (P := fun z => va_P D vwCl (mW K o r z a_40 g) H ∧ va_D A (mW K o r z a_40 g) ∧ (mI z a_40) ∧ (mE (XR []) f a z a_40) ∧ (mZ [22, 23, 24, 25] [26] f a z a_40) ∧ (eS z a_40 t false)) (upd u90 24 0) ⟨hP, hD, (mI_f hI (fI_st hI.1 24 kc_0 (by decide) (by decide))), (mE_f hE (by decide)), (mZ_f hZ rfl), (eS_f hk0 (by decide) (by decide))⟩ (fun f_97 ef_97 hq => ?_)
                    obtain ⟨hP, hD, hI, hE, hZ, hk0⟩ := hq
                    refine lv_aload_n hx hb dX12_tells_262 rfl (lv_at hl 4 rfl) ?_
                    refine lv_iconst (v := 5) hx hb dX12_tells_263 (by decide) ?_
                    refine kI.callV (As := [.int 5]) (rest := []) ⟨hx, hb, hml, hown, hg⟩ (m_passes0 l o r f_97 a_40 g hI 5 (kb_w kc_5 (by decide) (by decide)) t (mm) false hk0 (by rw [((show f_97 22 = u90 22 from by rw [← ef_97]; rfl).trans egv92.symm)]; exact hg93)) (cwV 1 hg (kgV wt7_63 wt7_65 wp5_12 wt1_14 wt7_66) rfl rfl rfl (by decide +kernel) ⟨by decide, by decide⟩) hK hP hD hS hA mIs [] rfl (wr := []) rfl rfl rfl (fun i h => by cases h) 0 12 rfl rfl rfl hl.1 rfl (Nat.le_of_ble_eq_true rfl) dX12_tells_264 ⟨Nat.le_refl _, Nat.le_refl _⟩ (fun v99 u100 H locs hw98 hP hD hS => ?_)
                    have hP : va_P D vwCl (mW K o r u100 a_40 g) H := hP
                    have hD : va_D A (mW K o r u100 a_40 g) := hD
                    have hI : mI u100 a_40 := hw98.2.1
                    have eE101 : fE [22] f_97 u100 := hw98.2.2.1
                    have hE : mE (XR []) f a u100 a_40 := mE_fE hE eE101 (by decide)
                    have hZ : mZ [22, 23, 24, 25] [26] f a u100 a_40 := mZ_fE hZ (fE_w (by decide) eE101)
                    have hk0 : eS u100 a_40 t false := eS_fE eE101 hk0 (by decide) (by decide)
                    have hz102 := pass_y hw98.2.2.2 h2
                    refine k_top (z := 1) hz102.1 ?_
                    obtain ⟨gv103, egv103⟩ : ∃ z : Int32, z = u100 22 := ⟨_, rfl⟩
                    have hg104 : gv103.toInt = 400 * (t : Int) + ((mm + 1 : Nat) : Int) := by rw [egv103]; exact hz102.2
                    refine lv_if_eq (tgt := 278) hx hb dX12_tells_267 (by decide) (fun c127 => ?_) (fun c127 => ?_)
                    · exact kb_dj c127 kc_1 kc_0 (by decide)
                    · refine lv_aload_n hx hb dX12_tells_270 rfl (lv_at hl 4 rfl) ?_
                      refine lv_iconst (v := 1) hx hb dX12_tells_271 (by decide) ?_
                      refine kI.callV (As := [.int 1]) (rest := []) ⟨hx, hb, hml, hown, hg⟩ ((m_allTest 8) l o r u100 a_40 g hI 1 (kb_w kc_1 (by decide) (by decide)) t (mm + 1) (m1) false hk0 (by rw [egv103.symm]; exact hg104) h3) (cwV 1 hg (kgV wt7_80 wt7_82 wp5_15 wt1_14 wt7_83) rfl rfl rfl (by decide +kernel) ⟨by decide, by decide⟩) hK hP hD hS hA mIs [] rfl (wr := []) rfl rfl rfl (fun i h => by cases h) 0 12 rfl rfl rfl hl.1 rfl (Nat.le_of_ble_eq_true rfl) dX12_tells_272 ⟨Nat.le_refl _, Nat.le_refl _⟩ (fun v129 u130 H locs hw128 hP hD hS => ?_)
                      have hP : va_P D vwCl (mW K o r u130 a_40 g) H := hP
                      have hD : va_D A (mW K o r u130 a_40 g) := hD
                      have hI : mI u130 a_40 := hw128.2.1
                      have eE131 : fE [22, 24] u100 u130 := hw128.2.2.1
                      have hE : mE (XR []) f a u130 a_40 := mE_fE hE eE131 (by decide)
                      have hZ : mZ [22, 23, 24, 25] [26] f a u130 a_40 := mZ_fE hZ (fE_w (by decide) eE131)
                      have hk0 : eS u130 a_40 t false := eS_fE eE131 hk0 (by decide) (by decide)
                      obtain ⟨gv132, egv132⟩ : ∃ z : Int32, z = u130 22 := ⟨_, rfl⟩
                      have hg133 : gv132.toInt = 400 * (t : Int) + ((m1 : Nat) : Int) := by rw [egv132]; exact hw128.2.2.2
                      have b134 : kb 0 gv132 2801 := kb_go1 hk0 (g16_le hk0 hSz h16) hg133
                      have jn138 : ∀ (H : Heap) (locs : List Loc) (ls : Array Slot) (z137 : Int32), (kb 0 z137 1) → va_P D vwCl (mW K o r u130 a_40 g) H → va_D A (mW K o r u130 a_40 g) → va_S A s.heap H locs → lv_has ls 13 [(11, .int t95), (9, .long v89), (8, .int v72), (6, .long y54), (0, .ref o), (1, .int hd), (2, .int bd), (3, .int pt), (4, .int hi), (5, .int wo)] → W p l e (rmD 48 0 0) s m ([.ref o, .int hd, .int bd, .int pt, .int hi, .int wo] : List Value).toArray below meth c H locs 0 0 (kQi D (tysK K) (fun v (u : mS) => kb 0 v 20 ∧ mI u.1 u.2.1 ∧ mE (XR []) f a u.1 u.2.1 ∧ mZ [22, 23, 24, 25] [26] f a u.1 u.2.1) (fun u => mW K o r u.1 u.2.1 u.2.2) A below ([.ref o, .int hd, .int bd, .int pt, .int hi, .int wo] : List Value).toArray s 0 0) (F0 m 283 ls [.int z137]) := by
                        intro  H locs ls z137 b139 hP hD hS hl
                        refine lv_istore (lv' := [(12, .int z137), (11, .int t95), (9, .long v89), (8, .int v72), (6, .long y54), (0, .ref o), (1, .int hd), (2, .int bd), (3, .int pt), (4, .int hi), (5, .int wo)]) hx hb dX12_tells_283 hl (by decide) rfl (fun ls hl => ?_)
                        refine lv_iload hx hb dX12_tells_285 (lv_at hl 3 rfl) ?_
                        refine lv_iload_n hx hb dX12_tells_287 rfl (lv_at hl 6 rfl) ?_
                        have jn186 : ∀ (H : Heap) (locs : List Loc) (ls : Array Slot) (y185 : Int64), (kbl 0 y185 20) → va_P D vwCl (mW K o r u130 a_40 g) H → va_D A (mW K o r u130 a_40 g) → va_S A s.heap H locs → lv_has ls 13 [(12, .int z137), (11, .int t95), (9, .long v89), (8, .int v72), (6, .long y185), (0, .ref o), (1, .int hd), (2, .int bd), (3, .int pt), (4, .int hi), (5, .int wo)] → W p l e (rmD 48 0 0) s m ([.ref o, .int hd, .int bd, .int pt, .int hi, .int wo] : List Value).toArray below meth c H locs 0 0 (kQi D (tysK K) (fun v (u : mS) => kb 0 v 20 ∧ mI u.1 u.2.1 ∧ mE (XR []) f a u.1 u.2.1 ∧ mZ [22, 23, 24, 25] [26] f a u.1 u.2.1) (fun u => mW K o r u.1 u.2.1 u.2.2) A below ([.ref o, .int hd, .int bd, .int pt, .int hi, .int wo] : List Value).toArray s 0 0) (F0 m 338 ls []) := by
                          intro  H locs ls y185 b187 hP hD hS hl
                          refine lv_aload_n hx hb dX12_tells_338 rfl (lv_at hl 5 rfl) ?_
                          refine lv_dup hx hb dX12_tells_339 rfl ?_
                          refine va_get (D := D) (ci := 12) (v := .int (u130 22)) (C := RX12) (T := TX12) (N := 48) hx hb hg inC12 hown hK hP 0 rfl rfl 22 (by decide) (hg _ wt5_182) (fun _ h9 => h9) rfl dX12_tells_340 ?_
                          refine k_top (z := gv132) egv132.symm ?_
                          refine lv_iconst (v := 1) hx hb dX12_tells_343 (by decide) ?_
                          refine lv_iadd hx hb dX12_tells_344 ?_
                          refine lv_topi (fun t188 et188 => ?_)
                          have b189 : kb 1 t188 2802 := kb_eq et188 (kb_add b134 kc_1 (by decide) (by decide))
                          have qt188 : t188.toInt = gv132.toInt + 1 := by rw [et188]; exact kt_addc b134 kc_1 (by decide) (by decide)
                          have hg190 : t188.toInt = 400 * (t : Int) + ((m1 + 1 : Nat) : Int) := by rw [qt188, hg133]; omega
                          refine va_put (D := D) (ci := 12) (v := .int t188) (ty := .int) (C := RX12) (T := TX12) (N := 48) hx hb hg inC12 tyX12 tyX12_ok nmX12 hown hK hP hD hS 0 rfl rfl 22 (by decide) (hg _ wt5_182) (fun _ h9 => h9) rfl (by decide +kernel) rfl rfl (Nat.le_of_ble_eq_true rfl) dX12_tells_345 (fun H locs hP hD hS => ?_)
                          have hP : va_P D vwCl (mW K o r (upd u130 22 t188) a_40 g) H := hP
                          have hD : va_D A (mW K o r (upd u130 22 t188) a_40 g) := hD
                          refine k_gen (P := fun z => va_P D vwCl (mW K o r z a_40 g) H ∧ va_D A (mW K o r z a_40 g) ∧ (mI z a_40) ∧ (mE (XR []) f a z a_40) ∧ (mZ [22, 23, 24, 25] [26] f a z a_40) ∧ (eS z a_40 t false)) (upd u130 22 t188) ⟨hP, hD, (mI_f hI (fI_st hI.1 22 (kb_any _) (by decide) (by decide))), (mE_f hE (by decide)), (mZ_f hZ rfl), (eS_f hk0 (by decide) (by decide))⟩ (fun f_191 ef_191 hq => ?_)
                          obtain ⟨hP, hD, hI, hE, hZ, hk0⟩ := hq
                          refine lv_goto (tgt := 198) hx hb dX12_tells_348 (by decide) ?_
                          exact ihlp56 (m1 + 1) f_191 _ _ _ y185 (h16.elim (fun h => Or.inr h.2) (fun h => Or.inl ⟨by omega, h.2.2⟩)) hI hE hZ hk0 b187 (by rw [(show f_191 22 = t188 from by rw [← ef_191]; rfl)]; exact hg190) hP hD hS (lv_sub hl [4, 5, 6, 7, 8, 9, 10] rfl)
                        refine lv_icmp_ne (tgt := 338) hx hb dX12_tells_288 (by decide) (fun c192 => ?_) (fun c192 => ?_)
                        · exact jn186 _ _ _ y54 b58 hP hD hS (lv_sub hl [0, 1, 2, 3, 4, 5, 6, 7, 8, 9, 10] rfl)
                        · have b193 : kb 1 hd 3 := kb_eq c192.symm b74
                          refine lv_iload hx hb dX12_tells_291 (lv_at hl 0 rfl) ?_
                          refine lv_if_eq (tgt := 338) hx hb dX12_tells_293 (by decide) (fun c194 => ?_) (fun c194 => ?_)
                          · have b195 : kb 0 z137 0 := kb_eq c194 kc_0
                            exact jn186 _ _ _ y54 b58 hP hD hS (lv_sub hl [0, 1, 2, 3, 4, 5, 6, 7, 8, 9, 10] rfl)
                          · have b196 : kb 1 z137 1 := kr_nel c194 b139 kc_0 (by decide)
                            refine lv_aload_n hx hb dX12_tells_296 rfl (lv_at hl 5 rfl) ?_
                            refine va_get (D := D) (ci := 12) (v := .int (u130 24)) (C := RX12) (T := TX12) (N := 48) hx hb hg inC12 hown hK hP 0 rfl rfl 24 (by decide) (hg _ wt5_184) (fun _ h9 => h9) rfl dX12_tells_297 ?_
                            refine lv_topi (fun t197 et197 => ?_)
                            have b198 : kb 0 t197 1 := kb_eq et197 (fI_at hI.1 24 (by decide) (by decide))
                            refine lv_if_ne (tgt := 338) hx hb dX12_tells_300 (by decide) (fun c199 => ?_) (fun c199 => ?_)
                            · have b200 : kb 1 t197 1 := kr_nel c199 b198 kc_0 (by decide)
                              exact jn186 _ _ _ y54 b58 hP hD hS (lv_sub hl [0, 1, 2, 3, 4, 5, 6, 7, 8, 9, 10] rfl)
                            · have b201 : kb 0 t197 0 := kb_eq c199 kc_0
                              refine lv_iload hx hb dX12_tells_303 (lv_at hl 1 rfl) ?_
                              refine lv_if_ne (tgt := 338) hx hb dX12_tells_305 (by decide) (fun c202 => ?_) (fun c202 => ?_)
                              · have b203 : kb 1 t95 1 := kr_nel c202 b96 kc_0 (by decide)
                                exact jn186 _ _ _ y54 b58 hP hD hS (lv_sub hl [0, 1, 2, 3, 4, 5, 6, 7, 8, 9, 10] rfl)
                              · have b204 : kb 0 t95 0 := kb_eq c202 kc_0
                                refine lv_lload hx hb dX12_tells_308 (lv_at hl 2 rfl) ?_
                                refine lv_lconst (v := 0) hx hb dX12_tells_310 (by decide) ?_
                                refine W.lcmp hx hb dX12_tells_311 ?_
                                refine lv_topi (fun t205 et205 => ?_)
                                have jn221 : ∀ (H : Heap) (locs : List Loc) (ls : Array Slot) (z220 : Int64), (kbl 0 z220 20) → va_P D vwCl (mW K o r u130 a_40 g) H → va_D A (mW K o r u130 a_40 g) → va_S A s.heap H locs → lv_has ls 13 [(12, .int z137), (11, .int t95), (9, .long v89), (8, .int v72), (6, .long y54), (0, .ref o), (1, .int hd), (2, .int bd), (3, .int pt), (4, .int hi), (5, .int wo)] → W p l e (rmD 48 0 0) s m ([.ref o, .int hd, .int bd, .int pt, .int hi, .int wo] : List Value).toArray below meth c H locs 0 0 (kQi D (tysK K) (fun v (u : mS) => kb 0 v 20 ∧ mI u.1 u.2.1 ∧ mE (XR []) f a u.1 u.2.1 ∧ mZ [22, 23, 24, 25] [26] f a u.1 u.2.1) (fun u => mW K o r u.1 u.2.1 u.2.2) A below ([.ref o, .int hd, .int bd, .int pt, .int hi, .int wo] : List Value).toArray s 0 0) (F0 m 336 ls [.long z220]) := by
                                  intro  H locs ls z220 b222 hP hD hS hl
                                  refine lv_lstore (lv' := [(6, .long z220), (12, .int z137), (11, .int t95), (9, .long v89), (8, .int v72), (0, .ref o), (1, .int hd), (2, .int bd), (3, .int pt), (4, .int hi), (5, .int wo)]) hx hb dX12_tells_336 hl (by decide) rfl (fun ls hl => ?_)
                                  exact jn186 _ _ _ z220 b222 hP hD hS (lv_sub hl [1, 2, 3, 4, 0, 5, 6, 7, 8, 9, 10] rfl)
                                refine lv_if_ge (tgt := 319) hx hb dX12_tells_312 (by decide) (fun c223 => ?_) (fun c223 => ?_)
                                · have h224 := klc_ge (et205 ▸ c223)
                                  have b225 : kbl 0 v89 9223372036854775807 := klr_le2 h224 kcl_0 (kbl_any v89)
                                  refine lv_lload hx hb dX12_tells_319 (lv_at hl 2 rfl) ?_
                                  refine lv_iload hx hb dX12_tells_321 (lv_at hl 9 rfl) ?_
                                  refine lv_i2l hx hb dX12_tells_323 rfl ?_
                                  refine lv_topl (fun t226 et226 => ?_)
                                  have b227 : kbl 0 t226 20 := kbl_eq et226 (kbl_i2l bhi)
                                  refine W.lcmp hx hb dX12_tells_324 ?_
                                  refine lv_topi (fun t228 et228 => ?_)
                                  refine lv_if_le (tgt := 334) hx hb dX12_tells_325 (by decide) (fun c229 => ?_) (fun c229 => ?_)
                                  · have h230 := klc_le (et228 ▸ c229)
                                    have b231 : kbl 0 v89 20 := klr_le1 h230 b225 b227
                                    refine lv_lload hx hb dX12_tells_334 (lv_at hl 2 rfl) ?_
                                    exact jn221 _ _ _ v89 b231 hP hD hS (lv_sub hl [0, 1, 2, 3, 4, 5, 6, 7, 8, 9, 10] rfl)
                                  · have h232 := klc_nle (et228 ▸ c229)
                                    have b233 : kbl 1 v89 9223372036854775807 := klr_lt2 h232 b227 b225 (by decide)
                                    refine lv_iload hx hb dX12_tells_328 (lv_at hl 9 rfl) ?_
                                    refine lv_i2l hx hb dX12_tells_330 rfl ?_
                                    refine lv_topl (fun t234 et234 => ?_)
                                    have b235 : kbl 0 t234 20 := kbl_eq et234 (kbl_i2l bhi)
                                    refine lv_goto (tgt := 336) hx hb dX12_tells_331 (by decide) ?_
                                    exact jn221 _ _ _ t234 b235 hP hD hS (lv_sub hl [0, 1, 2, 3, 4, 5, 6, 7, 8, 9, 10] rfl)
                                · have h236 := klc_nge (et205 ▸ c223)
                                  have b237 : kbl (-9223372036854775808) v89 (-1) := klr_lt1 h236 (kbl_any v89) kcl_0 (by decide)
                                  refine lv_lconst (v := 0) hx hb dX12_tells_315 (by decide) ?_
                                  refine lv_goto (tgt := 336) hx hb dX12_tells_316 (by decide) ?_
                                  exact jn221 _ _ _ 0 (kbl_w kcl_0 (by decide) (by decide)) hP hD hS (lv_sub hl [0, 1, 2, 3, 4, 5, 6, 7, 8, 9, 10] rfl)
                      refine lv_if_eq (tgt := 282) hx hb dX12_tells_275 (by decide) (fun c238 => ?_) (fun c238 => ?_)
                      · have b239 : kb 0 v129 0 := kb_eq c238 kc_0
                        refine lv_iconst (v := 0) hx hb dX12_tells_282 (by decide) ?_
                        exact jn138 _ _ _ 0 (kb_w kc_0 (by decide) (by decide)) hP hD hS (lv_sub hl [0, 1, 2, 3, 4, 5, 6, 7, 8, 9] rfl)
                      · have b240 : kb 1 v129 1 := kr_nel c238 hw128.1 kc_0 (by decide)
                        refine lv_iconst (v := 1) hx hb dX12_tells_278 (by decide) ?_
                        refine lv_goto (tgt := 283) hx hb dX12_tells_279 (by decide) ?_
                        exact jn138 _ _ _ 1 (kb_w kc_1 (by decide) (by decide)) hP hD hS (lv_sub hl [0, 1, 2, 3, 4, 5, 6, 7, 8, 9] rfl)
                  · exact kb_dj c87 b74 kc_4 (by decide)
              · rw [hj] at h16
                refine lv_aload_n hx hb dX12_tells_198 rfl (lv_at hl 1 rfl) ?_
                refine va_get (D := D) (ci := 12) (v := .int (F55 22)) (C := RX12) (T := TX12) (N := 48) hx hb hg inC12 hown hK hP 0 rfl rfl 22 (by decide) (hg _ wt5_182) (fun _ h9 => h9) rfl dX12_tells_199 ?_
                refine k_top (z := gv59) egv59.symm ?_
                refine lv_aload_n hx hb dX12_tells_202 rfl (lv_at hl 1 rfl) ?_
                refine va_get (D := D) (ci := 12) (v := .int (F55 23)) (C := RX12) (T := TX12) (N := 48) hx hb hg inC12 hown hK hP 0 rfl rfl 23 (by decide) (hg _ wt5_183) (fun _ h9 => h9) rfl dX12_tells_203 ?_
                refine lv_topi (fun t241 et241 => ?_)
                refine lv_icmp_ge (tgt := 351) hx hb dX12_tells_206 (by decide) (fun c242 => ?_) (fun c242 => ?_)
                · exact absurd (kc_le c242) (by have w1 := congrArg Int32.toInt et241.symm; have w2 := hk0.2.1; have w3 := hg60; have w4 := mC_lS hk0 (kb_nz (kb13 h1) (by decide)); omega)
                · have h243 := (kc_nle c242)
                  have b244 : kb 1 t241 2147483647 := kr_lt2 h243 b66 (kb_any t241) (by decide)
                  refine lv_aload_n hx hb dX12_tells_209 rfl (lv_at hl 1 rfl) ?_
                  refine lv_aload_n hx hb dX12_tells_210 rfl (lv_at hl 1 rfl) ?_
                  refine va_get (D := D) (ci := 12) (v := .int (F55 22)) (C := RX12) (T := TX12) (N := 48) hx hb hg inC12 hown hK hP 0 rfl rfl 22 (by decide) (hg _ wt5_182) (fun _ h9 => h9) rfl dX12_tells_211 ?_
                  refine k_top (z := gv59) egv59.symm ?_
                  refine kI.callV (As := [.int gv59]) (rest := []) ⟨hx, hb, hml, hown, hg⟩ (m_codeAt l o r F55 a_40 g hI gv59  t (i) false hk0 hg60) (cwV 1 hg (kgV wt7_47 wt7_49 wp5_8 wt1_14 wt7_50) rfl rfl rfl (by decide +kernel) ⟨by decide, by decide⟩) hK hP hD hS hA mIs [] rfl (wr := []) rfl rfl rfl (fun i h => by cases h) 0 12 rfl rfl rfl hl.1 rfl (Nat.le_of_ble_eq_true rfl) dX12_tells_214 ⟨Nat.le_refl _, Nat.le_refl _⟩ (fun v246 u247 H locs hw245 hP hD hS => ?_)
                  have hP : va_P D vwCl (mW K o r F55 a_40 g) H := hP
                  have hD : va_D A (mW K o r F55 a_40 g) := hD
                  have b248 : kb 1 v246 3 := kb_eq hw245.2 (kb13 h1)
                  refine lv_istore (lv' := [(8, .int v246), (6, .long y54), (0, .ref o), (1, .int hd), (2, .int bd), (3, .int pt), (4, .int hi), (5, .int wo)]) hx hb dX12_tells_217 hl (by decide) rfl (fun ls hl => ?_)
                  refine lv_aload_n hx hb dX12_tells_219 rfl (lv_at hl 2 rfl) ?_
                  refine lv_iconst (v := 0) hx hb dX12_tells_220 (by decide) ?_
                  refine va_put (D := D) (ci := 12) (v := .int 0) (ty := .boolean) (C := RX12) (T := TX12) (N := 48) hx hb hg inC12 tyX12 tyX12_ok nmX12 hown hK hP hD hS 0 rfl rfl 24 (by decide) (hg _ wt5_184) (fun _ h9 => h9) rfl (by decide +kernel) rfl rfl (Nat.le_of_ble_eq_true rfl) dX12_tells_221 (fun H locs hP hD hS => ?_)
                  have hP : va_P D vwCl (mW K o r (upd F55 24 0) a_40 g) H := hP
                  have hD : va_D A (mW K o r (upd F55 24 0) a_40 g) := hD
                  refine k_gen (P := fun z => va_P D vwCl (mW K o r z a_40 g) H ∧ va_D A (mW K o r z a_40 g) ∧ (mI z a_40) ∧ (mE (XR []) f a z a_40) ∧ (mZ [22, 23, 24, 25] [26] f a z a_40) ∧ (eS z a_40 t false)) (upd F55 24 0) ⟨hP, hD, (mI_f hI (fI_st hI.1 24 kc_0 (by decide) (by decide))), (mE_f hE (by decide)), (mZ_f hZ rfl), (eS_f hk0 (by decide) (by decide))⟩ (fun f_249 ef_249 hq => ?_)
                  obtain ⟨hP, hD, hI, hE, hZ, hk0⟩ := hq
                  refine lv_aload_n hx hb dX12_tells_224 rfl (lv_at hl 2 rfl) ?_
                  refine lv_dup hx hb dX12_tells_225 rfl ?_
                  refine va_get (D := D) (ci := 12) (v := .int (f_249 22)) (C := RX12) (T := TX12) (N := 48) hx hb hg inC12 hown hK hP 0 rfl rfl 22 (by decide) (hg _ wt5_182) (fun _ h9 => h9) rfl dX12_tells_226 ?_
                  refine k_top (z := gv59) ((show f_249 22 = F55 22 from by rw [← ef_249]; rfl).trans egv59.symm) ?_
                  refine lv_iconst (v := 1) hx hb dX12_tells_229 (by decide) ?_
                  refine lv_iadd hx hb dX12_tells_230 ?_
                  refine lv_topi (fun t250 et250 => ?_)
                  have b251 : kb 1 t250 2800 := kb_eq et250 (kb_add b66 kc_1 (by decide) (by decide))
                  have qt250 : t250.toInt = gv59.toInt + 1 := by rw [et250]; exact kt_addc b66 kc_1 (by decide) (by decide)
                  have hg252 : t250.toInt = 400 * (t : Int) + ((i + 1 : Nat) : Int) := by rw [qt250, hg60]; omega
                  refine va_put (D := D) (ci := 12) (v := .int t250) (ty := .int) (C := RX12) (T := TX12) (N := 48) hx hb hg inC12 tyX12 tyX12_ok nmX12 hown hK hP hD hS 0 rfl rfl 22 (by decide) (hg _ wt5_182) (fun _ h9 => h9) rfl (by decide +kernel) rfl rfl (Nat.le_of_ble_eq_true rfl) dX12_tells_231 (fun H locs hP hD hS => ?_)
                  have hP : va_P D vwCl (mW K o r (upd f_249 22 t250) a_40 g) H := hP
                  have hD : va_D A (mW K o r (upd f_249 22 t250) a_40 g) := hD
                  refine k_gen (P := fun z => va_P D vwCl (mW K o r z a_40 g) H ∧ va_D A (mW K o r z a_40 g) ∧ (mI z a_40) ∧ (mE (XR []) f a z a_40) ∧ (mZ [22, 23, 24, 25] [26] f a z a_40) ∧ (eS z a_40 t false)) (upd f_249 22 t250) ⟨hP, hD, (mI_f hI (fI_st hI.1 22 (kb_any _) (by decide) (by decide))), (mE_f hE (by decide)), (mZ_f hZ rfl), (eS_f hk0 (by decide) (by decide))⟩ (fun f_253 ef_253 hq => ?_)
                  obtain ⟨hP, hD, hI, hE, hZ, hk0⟩ := hq
                  refine lv_iload hx hb dX12_tells_234 (lv_at hl 0 rfl) ?_
                  refine lv_iconst (v := 4) hx hb dX12_tells_236 (by decide) ?_
                  refine lv_icmp_ne (tgt := 244) hx hb dX12_tells_237 (by decide) (fun c261 => ?_) (fun c261 => ?_)
                  · refine lv_aload_n hx hb dX12_tells_244 rfl (lv_at hl 2 rfl) ?_
                    refine lv_iconst (v := 1) hx hb dX12_tells_245 (by decide) ?_
                    refine kL.callV (As := [.int 1]) (rest := []) ⟨hx, hb, hml, hown, hg⟩ ((m_allSum 8) l o r f_253 a_40 g hI 1 (kb_w kc_1 (by decide) (by decide)) t (i + 1) (mm) false hk0 (by rw [(show f_253 22 = t250 from by rw [← ef_253]; rfl)]; exact hg252) hs) (cwV 1 hg (kgV wt7_51 wt7_53 wp5_9 wt1_14 wt7_54) rfl rfl rfl (by decide +kernel) ⟨by decide, by decide⟩) hK hP hD hS hA mIs [] rfl (wr := []) rfl rfl rfl (fun i h => by cases h) 0 12 rfl rfl rfl hl.1 rfl (Nat.le_of_ble_eq_true rfl) dX12_tells_246 ⟨Nat.le_refl _, Nat.le_refl _⟩ (fun v263 u264 H locs hw262 hP hD hS => ?_)
                    have hP : va_P D vwCl (mW K o r u264 a_40 g) H := hP
                    have hD : va_D A (mW K o r u264 a_40 g) := hD
                    have hI : mI u264 a_40 := hw262.2.1
                    have eE265 : fE [22, 24] f_253 u264 := hw262.2.2.1
                    have hE : mE (XR []) f a u264 a_40 := mE_fE hE eE265 (by decide)
                    have hZ : mZ [22, 23, 24, 25] [26] f a u264 a_40 := mZ_fE hZ (fE_w (by decide) eE265)
                    have hk0 : eS u264 a_40 t false := eS_fE eE265 hk0 (by decide) (by decide)
                    obtain ⟨gv266, egv266⟩ : ∃ z : Int32, z = u264 22 := ⟨_, rfl⟩
                    have hg267 : gv266.toInt = 400 * (t : Int) + ((mm : Nat) : Int) := by rw [egv266]; exact hw262.2.2.2
                    have b268 : kb 0 gv266 2801 := kb_go1 hk0 (g16_le hk0 hSz h16) hg267
                    refine lv_lstore (lv' := [(9, .long v263), (8, .int v246), (6, .long y54), (0, .ref o), (1, .int hd), (2, .int bd), (3, .int pt), (4, .int hi), (5, .int wo)]) hx hb dX12_tells_249 hl (by decide) rfl (fun ls hl => ?_)
                    refine lv_aload_n hx hb dX12_tells_251 rfl (lv_at hl 3 rfl) ?_
                    refine va_get (D := D) (ci := 12) (v := .int (u264 24)) (C := RX12) (T := TX12) (N := 48) hx hb hg inC12 hown hK hP 0 rfl rfl 24 (by decide) (hg _ wt5_184) (fun _ h9 => h9) rfl dX12_tells_252 ?_
                    refine lv_topi (fun t269 et269 => ?_)
                    have b270 : kb 0 t269 1 := kb_eq et269 (fI_at hI.1 24 (by decide) (by decide))
                    refine lv_istore (lv' := [(11, .int t269), (9, .long v263), (8, .int v246), (6, .long y54), (0, .ref o), (1, .int hd), (2, .int bd), (3, .int pt), (4, .int hi), (5, .int wo)]) hx hb dX12_tells_255 hl (by decide) rfl (fun ls hl => ?_)
                    refine lv_aload_n hx hb dX12_tells_257 rfl (lv_at hl 4 rfl) ?_
                    refine lv_iconst (v := 0) hx hb dX12_tells_258 (by decide) ?_
                    refine va_put (D := D) (ci := 12) (v := .int 0) (ty := .boolean) (C := RX12) (T := TX12) (N := 48) hx hb hg inC12 tyX12 tyX12_ok nmX12 hown hK hP hD hS 0 rfl rfl 24 (by decide) (hg _ wt5_184) (fun _ h9 => h9) rfl (by decide +kernel) rfl rfl (Nat.le_of_ble_eq_true rfl) dX12_tells_259 (fun H locs hP hD hS => ?_)
                    have hP : va_P D vwCl (mW K o r (upd u264 24 0) a_40 g) H := hP
                    have hD : va_D A (mW K o r (upd u264 24 0) a_40 g) := hD
                    refine k_gen (P := fun z => va_P D vwCl (mW K o r z a_40 g) H ∧ va_D A (mW K o r z a_40 g) ∧ (mI z a_40) ∧ (mE (XR []) f a z a_40) ∧ (mZ [22, 23, 24, 25] [26] f a z a_40) ∧ (eS z a_40 t false)) (upd u264 24 0) ⟨hP, hD, (mI_f hI (fI_st hI.1 24 kc_0 (by decide) (by decide))), (mE_f hE (by decide)), (mZ_f hZ rfl), (eS_f hk0 (by decide) (by decide))⟩ (fun f_271 ef_271 hq => ?_)
                    obtain ⟨hP, hD, hI, hE, hZ, hk0⟩ := hq
                    refine lv_aload_n hx hb dX12_tells_262 rfl (lv_at hl 4 rfl) ?_
                    refine lv_iconst (v := 5) hx hb dX12_tells_263 (by decide) ?_
                    refine kI.callV (As := [.int 5]) (rest := []) ⟨hx, hb, hml, hown, hg⟩ (m_passes0 l o r f_271 a_40 g hI 5 (kb_w kc_5 (by decide) (by decide)) t (mm) false hk0 (by rw [((show f_271 22 = u264 22 from by rw [← ef_271]; rfl).trans egv266.symm)]; exact hg267)) (cwV 1 hg (kgV wt7_63 wt7_65 wp5_12 wt1_14 wt7_66) rfl rfl rfl (by decide +kernel) ⟨by decide, by decide⟩) hK hP hD hS hA mIs [] rfl (wr := []) rfl rfl rfl (fun i h => by cases h) 0 12 rfl rfl rfl hl.1 rfl (Nat.le_of_ble_eq_true rfl) dX12_tells_264 ⟨Nat.le_refl _, Nat.le_refl _⟩ (fun v273 u274 H locs hw272 hP hD hS => ?_)
                    have hP : va_P D vwCl (mW K o r u274 a_40 g) H := hP
                    have hD : va_D A (mW K o r u274 a_40 g) := hD
                    have hI : mI u274 a_40 := hw272.2.1
                    have eE275 : fE [22] f_271 u274 := hw272.2.2.1
                    have hE : mE (XR []) f a u274 a_40 := mE_fE hE eE275 (by decide)
                    have hZ : mZ [22, 23, 24, 25] [26] f a u274 a_40 := mZ_fE hZ (fE_w (by decide) eE275)
                    have hk0 : eS u274 a_40 t false := eS_fE eE275 hk0 (by decide) (by decide)
                    have hz276 := pass_n hw272.2.2.2 h2
                    refine k_top (z := 0) hz276.1 ?_
                    obtain ⟨gv277, egv277⟩ : ∃ z : Int32, z = u274 22 := ⟨_, rfl⟩
                    have hg278 : gv277.toInt = 400 * (t : Int) + ((mm : Nat) : Int) := by rw [egv277]; exact hz276.2
                    have b279 : kb 0 gv277 2801 := kb_go1 hk0 (g16_le hk0 hSz h16) hg278
                    refine lv_if_eq (tgt := 278) hx hb dX12_tells_267 (by decide) (fun c280 => ?_) (fun c280 => ?_)
                    · refine lv_iconst (v := 1) hx hb dX12_tells_278 (by decide) ?_
                      refine lv_goto (tgt := 283) hx hb dX12_tells_279 (by decide) ?_
                      refine lv_istore (lv' := [(12, .int 1), (11, .int t269), (9, .long v263), (8, .int v246), (6, .long y54), (0, .ref o), (1, .int hd), (2, .int bd), (3, .int pt), (4, .int hi), (5, .int wo)]) hx hb dX12_tells_283 hl (by decide) rfl (fun ls hl => ?_)
                      refine lv_iload hx hb dX12_tells_285 (lv_at hl 3 rfl) ?_
                      refine lv_iload_n hx hb dX12_tells_287 rfl (lv_at hl 6 rfl) ?_
                      have jn321 : ∀ (H : Heap) (locs : List Loc) (ls : Array Slot) (y320 : Int64), (kbl 0 y320 20) → va_P D vwCl (mW K o r u274 a_40 g) H → va_D A (mW K o r u274 a_40 g) → va_S A s.heap H locs → lv_has ls 13 [(12, .int 1), (11, .int t269), (9, .long v263), (8, .int v246), (6, .long y320), (0, .ref o), (1, .int hd), (2, .int bd), (3, .int pt), (4, .int hi), (5, .int wo)] → W p l e (rmD 48 0 0) s m ([.ref o, .int hd, .int bd, .int pt, .int hi, .int wo] : List Value).toArray below meth c H locs 0 0 (kQi D (tysK K) (fun v (u : mS) => kb 0 v 20 ∧ mI u.1 u.2.1 ∧ mE (XR []) f a u.1 u.2.1 ∧ mZ [22, 23, 24, 25] [26] f a u.1 u.2.1) (fun u => mW K o r u.1 u.2.1 u.2.2) A below ([.ref o, .int hd, .int bd, .int pt, .int hi, .int wo] : List Value).toArray s 0 0) (F0 m 338 ls []) := by
                        intro  H locs ls y320 b322 hP hD hS hl
                        refine lv_aload_n hx hb dX12_tells_338 rfl (lv_at hl 5 rfl) ?_
                        refine lv_dup hx hb dX12_tells_339 rfl ?_
                        refine va_get (D := D) (ci := 12) (v := .int (u274 22)) (C := RX12) (T := TX12) (N := 48) hx hb hg inC12 hown hK hP 0 rfl rfl 22 (by decide) (hg _ wt5_182) (fun _ h9 => h9) rfl dX12_tells_340 ?_
                        refine k_top (z := gv277) egv277.symm ?_
                        refine lv_iconst (v := 1) hx hb dX12_tells_343 (by decide) ?_
                        refine lv_iadd hx hb dX12_tells_344 ?_
                        refine lv_topi (fun t323 et323 => ?_)
                        have b324 : kb 1 t323 2802 := kb_eq et323 (kb_add b279 kc_1 (by decide) (by decide))
                        have qt323 : t323.toInt = gv277.toInt + 1 := by rw [et323]; exact kt_addc b279 kc_1 (by decide) (by decide)
                        have hg325 : t323.toInt = 400 * (t : Int) + ((mm + 1 : Nat) : Int) := by rw [qt323, hg278]; omega
                        refine va_put (D := D) (ci := 12) (v := .int t323) (ty := .int) (C := RX12) (T := TX12) (N := 48) hx hb hg inC12 tyX12 tyX12_ok nmX12 hown hK hP hD hS 0 rfl rfl 22 (by decide) (hg _ wt5_182) (fun _ h9 => h9) rfl (by decide +kernel) rfl rfl (Nat.le_of_ble_eq_true rfl) dX12_tells_345 (fun H locs hP hD hS => ?_)
                        have hP : va_P D vwCl (mW K o r (upd u274 22 t323) a_40 g) H := hP
                        have hD : va_D A (mW K o r (upd u274 22 t323) a_40 g) := hD
                        refine k_gen (P := fun z => va_P D vwCl (mW K o r z a_40 g) H ∧ va_D A (mW K o r z a_40 g) ∧ (mI z a_40) ∧ (mE (XR []) f a z a_40) ∧ (mZ [22, 23, 24, 25] [26] f a z a_40) ∧ (eS z a_40 t false)) (upd u274 22 t323) ⟨hP, hD, (mI_f hI (fI_st hI.1 22 (kb_any _) (by decide) (by decide))), (mE_f hE (by decide)), (mZ_f hZ rfl), (eS_f hk0 (by decide) (by decide))⟩ (fun f_326 ef_326 hq => ?_)
                        obtain ⟨hP, hD, hI, hE, hZ, hk0⟩ := hq
                        refine lv_goto (tgt := 198) hx hb dX12_tells_348 (by decide) ?_
                        exact ihlp56 (mm + 1) f_326 _ _ _ y320 (h16.elim (fun h => Or.inr h.2) (fun h => Or.inl ⟨by omega, h.2.2⟩)) hI hE hZ hk0 b322 (by rw [(show f_326 22 = t323 from by rw [← ef_326]; rfl)]; exact hg325) hP hD hS (lv_sub hl [4, 5, 6, 7, 8, 9, 10] rfl)
                      refine lv_icmp_ne (tgt := 338) hx hb dX12_tells_288 (by decide) (fun c327 => ?_) (fun c327 => ?_)
                      · exact jn321 _ _ _ y54 b58 hP hD hS (lv_sub hl [0, 1, 2, 3, 4, 5, 6, 7, 8, 9, 10] rfl)
                      · have b328 : kb 1 hd 3 := kb_eq c327.symm b248
                        refine lv_iload hx hb dX12_tells_291 (lv_at hl 0 rfl) ?_
                        refine lv_if_eq (tgt := 338) hx hb dX12_tells_293 (by decide) (fun c329 => ?_) (fun c329 => ?_)
                        · exact kb_dj c329 kc_1 kc_0 (by decide)
                        · refine lv_aload_n hx hb dX12_tells_296 rfl (lv_at hl 5 rfl) ?_
                          refine va_get (D := D) (ci := 12) (v := .int (u274 24)) (C := RX12) (T := TX12) (N := 48) hx hb hg inC12 hown hK hP 0 rfl rfl 24 (by decide) (hg _ wt5_184) (fun _ h9 => h9) rfl dX12_tells_297 ?_
                          refine k_top (z := 0) ((eE275 24 (by decide)).trans (show f_271 24 = 0 from by rw [← ef_271]; rfl)) ?_
                          refine lv_if_ne (tgt := 338) hx hb dX12_tells_300 (by decide) (fun c330 => ?_) (fun c330 => ?_)
                          · exact kb_nsame c330 kc_0 kc_0
                          · refine lv_iload hx hb dX12_tells_303 (lv_at hl 1 rfl) ?_
                            refine lv_if_ne (tgt := 338) hx hb dX12_tells_305 (by decide) (fun c331 => ?_) (fun c331 => ?_)
                            · have b332 : kb 1 t269 1 := kr_nel c331 b270 kc_0 (by decide)
                              exact jn321 _ _ _ y54 b58 hP hD hS (lv_sub hl [0, 1, 2, 3, 4, 5, 6, 7, 8, 9, 10] rfl)
                            · have b333 : kb 0 t269 0 := kb_eq c331 kc_0
                              refine lv_lload hx hb dX12_tells_308 (lv_at hl 2 rfl) ?_
                              refine lv_lconst (v := 0) hx hb dX12_tells_310 (by decide) ?_
                              refine W.lcmp hx hb dX12_tells_311 ?_
                              refine lv_topi (fun t334 et334 => ?_)
                              have jn350 : ∀ (H : Heap) (locs : List Loc) (ls : Array Slot) (z349 : Int64), (kbl 0 z349 20) → va_P D vwCl (mW K o r u274 a_40 g) H → va_D A (mW K o r u274 a_40 g) → va_S A s.heap H locs → lv_has ls 13 [(12, .int 1), (11, .int t269), (9, .long v263), (8, .int v246), (6, .long y54), (0, .ref o), (1, .int hd), (2, .int bd), (3, .int pt), (4, .int hi), (5, .int wo)] → W p l e (rmD 48 0 0) s m ([.ref o, .int hd, .int bd, .int pt, .int hi, .int wo] : List Value).toArray below meth c H locs 0 0 (kQi D (tysK K) (fun v (u : mS) => kb 0 v 20 ∧ mI u.1 u.2.1 ∧ mE (XR []) f a u.1 u.2.1 ∧ mZ [22, 23, 24, 25] [26] f a u.1 u.2.1) (fun u => mW K o r u.1 u.2.1 u.2.2) A below ([.ref o, .int hd, .int bd, .int pt, .int hi, .int wo] : List Value).toArray s 0 0) (F0 m 336 ls [.long z349]) := by
                                intro  H locs ls z349 b351 hP hD hS hl
                                refine lv_lstore (lv' := [(6, .long z349), (12, .int 1), (11, .int t269), (9, .long v263), (8, .int v246), (0, .ref o), (1, .int hd), (2, .int bd), (3, .int pt), (4, .int hi), (5, .int wo)]) hx hb dX12_tells_336 hl (by decide) rfl (fun ls hl => ?_)
                                exact jn321 _ _ _ z349 b351 hP hD hS (lv_sub hl [1, 2, 3, 4, 0, 5, 6, 7, 8, 9, 10] rfl)
                              refine lv_if_ge (tgt := 319) hx hb dX12_tells_312 (by decide) (fun c352 => ?_) (fun c352 => ?_)
                              · have h353 := klc_ge (et334 ▸ c352)
                                have b354 : kbl 0 v263 9223372036854775807 := klr_le2 h353 kcl_0 (kbl_any v263)
                                refine lv_lload hx hb dX12_tells_319 (lv_at hl 2 rfl) ?_
                                refine lv_iload hx hb dX12_tells_321 (lv_at hl 9 rfl) ?_
                                refine lv_i2l hx hb dX12_tells_323 rfl ?_
                                refine lv_topl (fun t355 et355 => ?_)
                                have b356 : kbl 0 t355 20 := kbl_eq et355 (kbl_i2l bhi)
                                refine W.lcmp hx hb dX12_tells_324 ?_
                                refine lv_topi (fun t357 et357 => ?_)
                                refine lv_if_le (tgt := 334) hx hb dX12_tells_325 (by decide) (fun c358 => ?_) (fun c358 => ?_)
                                · have h359 := klc_le (et357 ▸ c358)
                                  have b360 : kbl 0 v263 20 := klr_le1 h359 b354 b356
                                  refine lv_lload hx hb dX12_tells_334 (lv_at hl 2 rfl) ?_
                                  exact jn350 _ _ _ v263 b360 hP hD hS (lv_sub hl [0, 1, 2, 3, 4, 5, 6, 7, 8, 9, 10] rfl)
                                · have h361 := klc_nle (et357 ▸ c358)
                                  have b362 : kbl 1 v263 9223372036854775807 := klr_lt2 h361 b356 b354 (by decide)
                                  refine lv_iload hx hb dX12_tells_328 (lv_at hl 9 rfl) ?_
                                  refine lv_i2l hx hb dX12_tells_330 rfl ?_
                                  refine lv_topl (fun t363 et363 => ?_)
                                  have b364 : kbl 0 t363 20 := kbl_eq et363 (kbl_i2l bhi)
                                  refine lv_goto (tgt := 336) hx hb dX12_tells_331 (by decide) ?_
                                  exact jn350 _ _ _ t363 b364 hP hD hS (lv_sub hl [0, 1, 2, 3, 4, 5, 6, 7, 8, 9, 10] rfl)
                              · have h365 := klc_nge (et334 ▸ c352)
                                have b366 : kbl (-9223372036854775808) v263 (-1) := klr_lt1 h365 (kbl_any v263) kcl_0 (by decide)
                                refine lv_lconst (v := 0) hx hb dX12_tells_315 (by decide) ?_
                                refine lv_goto (tgt := 336) hx hb dX12_tells_316 (by decide) ?_
                                exact jn350 _ _ _ 0 (kbl_w kcl_0 (by decide) (by decide)) hP hD hS (lv_sub hl [0, 1, 2, 3, 4, 5, 6, 7, 8, 9, 10] rfl)
                    · exact kb_nsame c280 kc_0 kc_0
                  · exact kb_dj c261 b248 kc_4 (by decide)
            · have h16 := g16 h16
              have b367 : kb 0 gv59 2799 := kb_go hk0 (mC_lt hk0 (ne_0 h1 (by decide +kernel))) hg60
              rcases gG_out h12 with ⟨h2, h3⟩ | ⟨h2, hj⟩
              · refine lv_aload_n hx hb dX12_tells_198 rfl (lv_at hl 1 rfl) ?_
                refine va_get (D := D) (ci := 12) (v := .int (F55 22)) (C := RX12) (T := TX12) (N := 48) hx hb hg inC12 hown hK hP 0 rfl rfl 22 (by decide) (hg _ wt5_182) (fun _ h9 => h9) rfl dX12_tells_199 ?_
                refine k_top (z := gv59) egv59.symm ?_
                refine lv_aload_n hx hb dX12_tells_202 rfl (lv_at hl 1 rfl) ?_
                refine va_get (D := D) (ci := 12) (v := .int (F55 23)) (C := RX12) (T := TX12) (N := 48) hx hb hg inC12 hown hK hP 0 rfl rfl 23 (by decide) (hg _ wt5_183) (fun _ h9 => h9) rfl dX12_tells_203 ?_
                refine lv_topi (fun t368 et368 => ?_)
                refine lv_icmp_ge (tgt := 351) hx hb dX12_tells_206 (by decide) (fun c369 => ?_) (fun c369 => ?_)
                · exact absurd (kc_le c369) (by have w1 := congrArg Int32.toInt et368.symm; have w2 := hk0.2.1; have w3 := hg60; have w4 := mC_lS hk0 (ne_0 h1 (by decide +kernel)); omega)
                · have h370 := (kc_nle c369)
                  have b371 : kb 1 t368 2147483647 := kr_lt2 h370 b367 (kb_any t368) (by decide)
                  refine lv_aload_n hx hb dX12_tells_209 rfl (lv_at hl 1 rfl) ?_
                  refine lv_aload_n hx hb dX12_tells_210 rfl (lv_at hl 1 rfl) ?_
                  refine va_get (D := D) (ci := 12) (v := .int (F55 22)) (C := RX12) (T := TX12) (N := 48) hx hb hg inC12 hown hK hP 0 rfl rfl 22 (by decide) (hg _ wt5_182) (fun _ h9 => h9) rfl dX12_tells_211 ?_
                  refine k_top (z := gv59) egv59.symm ?_
                  refine kI.callV (As := [.int gv59]) (rest := []) ⟨hx, hb, hml, hown, hg⟩ (m_codeAt l o r F55 a_40 g hI gv59  t (i) false hk0 hg60) (cwV 1 hg (kgV wt7_47 wt7_49 wp5_8 wt1_14 wt7_50) rfl rfl rfl (by decide +kernel) ⟨by decide, by decide⟩) hK hP hD hS hA mIs [] rfl (wr := []) rfl rfl rfl (fun i h => by cases h) 0 12 rfl rfl rfl hl.1 rfl (Nat.le_of_ble_eq_true rfl) dX12_tells_214 ⟨Nat.le_refl _, Nat.le_refl _⟩ (fun v373 u374 H locs hw372 hP hD hS => ?_)
                  have hP : va_P D vwCl (mW K o r F55 a_40 g) H := hP
                  have hD : va_D A (mW K o r F55 a_40 g) := hD
                  refine k_top (z := 4) (hw372.2.trans h1) ?_
                  refine lv_istore (lv' := [(8, .int 4), (6, .long y54), (0, .ref o), (1, .int hd), (2, .int bd), (3, .int pt), (4, .int hi), (5, .int wo)]) hx hb dX12_tells_217 hl (by decide) rfl (fun ls hl => ?_)
                  refine lv_aload_n hx hb dX12_tells_219 rfl (lv_at hl 2 rfl) ?_
                  refine lv_iconst (v := 0) hx hb dX12_tells_220 (by decide) ?_
                  refine va_put (D := D) (ci := 12) (v := .int 0) (ty := .boolean) (C := RX12) (T := TX12) (N := 48) hx hb hg inC12 tyX12 tyX12_ok nmX12 hown hK hP hD hS 0 rfl rfl 24 (by decide) (hg _ wt5_184) (fun _ h9 => h9) rfl (by decide +kernel) rfl rfl (Nat.le_of_ble_eq_true rfl) dX12_tells_221 (fun H locs hP hD hS => ?_)
                  have hP : va_P D vwCl (mW K o r (upd F55 24 0) a_40 g) H := hP
                  have hD : va_D A (mW K o r (upd F55 24 0) a_40 g) := hD
                  refine k_gen (P := fun z => va_P D vwCl (mW K o r z a_40 g) H ∧ va_D A (mW K o r z a_40 g) ∧ (mI z a_40) ∧ (mE (XR []) f a z a_40) ∧ (mZ [22, 23, 24, 25] [26] f a z a_40) ∧ (eS z a_40 t false)) (upd F55 24 0) ⟨hP, hD, (mI_f hI (fI_st hI.1 24 kc_0 (by decide) (by decide))), (mE_f hE (by decide)), (mZ_f hZ rfl), (eS_f hk0 (by decide) (by decide))⟩ (fun f_375 ef_375 hq => ?_)
                  obtain ⟨hP, hD, hI, hE, hZ, hk0⟩ := hq
                  refine lv_aload_n hx hb dX12_tells_224 rfl (lv_at hl 2 rfl) ?_
                  refine lv_dup hx hb dX12_tells_225 rfl ?_
                  refine va_get (D := D) (ci := 12) (v := .int (f_375 22)) (C := RX12) (T := TX12) (N := 48) hx hb hg inC12 hown hK hP 0 rfl rfl 22 (by decide) (hg _ wt5_182) (fun _ h9 => h9) rfl dX12_tells_226 ?_
                  refine k_top (z := gv59) ((show f_375 22 = F55 22 from by rw [← ef_375]; rfl).trans egv59.symm) ?_
                  refine lv_iconst (v := 1) hx hb dX12_tells_229 (by decide) ?_
                  refine lv_iadd hx hb dX12_tells_230 ?_
                  refine lv_topi (fun t376 et376 => ?_)
                  have b377 : kb 1 t376 2800 := kb_eq et376 (kb_add b367 kc_1 (by decide) (by decide))
                  have qt376 : t376.toInt = gv59.toInt + 1 := by rw [et376]; exact kt_addc b367 kc_1 (by decide) (by decide)
                  have hg378 : t376.toInt = 400 * (t : Int) + ((i + 1 : Nat) : Int) := by rw [qt376, hg60]; omega
                  have b379 : kb 0 t376 2799 := kb_go hk0 (mC_lt hk0 (ne_0 h2 (by decide +kernel))) hg378
                  refine va_put (D := D) (ci := 12) (v := .int t376) (ty := .int) (C := RX12) (T := TX12) (N := 48) hx hb hg inC12 tyX12 tyX12_ok nmX12 hown hK hP hD hS 0 rfl rfl 22 (by decide) (hg _ wt5_182) (fun _ h9 => h9) rfl (by decide +kernel) rfl rfl (Nat.le_of_ble_eq_true rfl) dX12_tells_231 (fun H locs hP hD hS => ?_)
                  have hP : va_P D vwCl (mW K o r (upd f_375 22 t376) a_40 g) H := hP
                  have hD : va_D A (mW K o r (upd f_375 22 t376) a_40 g) := hD
                  refine k_gen (P := fun z => va_P D vwCl (mW K o r z a_40 g) H ∧ va_D A (mW K o r z a_40 g) ∧ (mI z a_40) ∧ (mE (XR []) f a z a_40) ∧ (mZ [22, 23, 24, 25] [26] f a z a_40) ∧ (eS z a_40 t false)) (upd f_375 22 t376) ⟨hP, hD, (mI_f hI (fI_st hI.1 22 (kb_any _) (by decide) (by decide))), (mE_f hE (by decide)), (mZ_f hZ rfl), (eS_f hk0 (by decide) (by decide))⟩ (fun f_380 ef_380 hq => ?_)
                  obtain ⟨hP, hD, hI, hE, hZ, hk0⟩ := hq
                  refine lv_iload hx hb dX12_tells_234 (lv_at hl 0 rfl) ?_
                  refine lv_iconst (v := 4) hx hb dX12_tells_236 (by decide) ?_
                  refine lv_icmp_ne (tgt := 244) hx hb dX12_tells_237 (by decide) (fun c381 => ?_) (fun c381 => ?_)
                  · exact kb_nsame c381 kc_4 kc_4
                  · refine lv_lconst (v := 1) hx hb dX12_tells_240 (by decide) ?_
                    refine lv_goto (tgt := 249) hx hb dX12_tells_241 (by decide) ?_
                    refine lv_lstore (lv' := [(9, .long 1), (8, .int 4), (6, .long y54), (0, .ref o), (1, .int hd), (2, .int bd), (3, .int pt), (4, .int hi), (5, .int wo)]) hx hb dX12_tells_249 hl (by decide) rfl (fun ls hl => ?_)
                    refine lv_aload_n hx hb dX12_tells_251 rfl (lv_at hl 3 rfl) ?_
                    refine va_get (D := D) (ci := 12) (v := .int (f_380 24)) (C := RX12) (T := TX12) (N := 48) hx hb hg inC12 hown hK hP 0 rfl rfl 24 (by decide) (hg _ wt5_184) (fun _ h9 => h9) rfl dX12_tells_252 ?_
                    refine k_top (z := 0) ((show f_380 24 = f_375 24 from by rw [← ef_380]; rfl).trans (show f_375 24 = 0 from by rw [← ef_375]; rfl)) ?_
                    refine lv_istore (lv' := [(11, .int 0), (9, .long 1), (8, .int 4), (6, .long y54), (0, .ref o), (1, .int hd), (2, .int bd), (3, .int pt), (4, .int hi), (5, .int wo)]) hx hb dX12_tells_255 hl (by decide) rfl (fun ls hl => ?_)
                    refine lv_aload_n hx hb dX12_tells_257 rfl (lv_at hl 4 rfl) ?_
                    refine lv_iconst (v := 0) hx hb dX12_tells_258 (by decide) ?_
                    refine va_put (D := D) (ci := 12) (v := .int 0) (ty := .boolean) (C := RX12) (T := TX12) (N := 48) hx hb hg inC12 tyX12 tyX12_ok nmX12 hown hK hP hD hS 0 rfl rfl 24 (by decide) (hg _ wt5_184) (fun _ h9 => h9) rfl (by decide +kernel) rfl rfl (Nat.le_of_ble_eq_true rfl) dX12_tells_259 (fun H locs hP hD hS => ?_)
                    have hP : va_P D vwCl (mW K o r (upd f_380 24 0) a_40 g) H := hP
                    have hD : va_D A (mW K o r (upd f_380 24 0) a_40 g) := hD
                    refine k_gen (P := fun z => va_P D vwCl (mW K o r z a_40 g) H ∧ va_D A (mW K o r z a_40 g) ∧ (mI z a_40) ∧ (mE (XR []) f a z a_40) ∧ (mZ [22, 23, 24, 25] [26] f a z a_40) ∧ (eS z a_40 t false)) (upd f_380 24 0) ⟨hP, hD, (mI_f hI (fI_st hI.1 24 kc_0 (by decide) (by decide))), (mE_f hE (by decide)), (mZ_f hZ rfl), (eS_f hk0 (by decide) (by decide))⟩ (fun f_382 ef_382 hq => ?_)
                    obtain ⟨hP, hD, hI, hE, hZ, hk0⟩ := hq
                    refine lv_aload_n hx hb dX12_tells_262 rfl (lv_at hl 4 rfl) ?_
                    refine lv_iconst (v := 5) hx hb dX12_tells_263 (by decide) ?_
                    refine kI.callV (As := [.int 5]) (rest := []) ⟨hx, hb, hml, hown, hg⟩ (m_passes0 l o r f_382 a_40 g hI 5 (kb_w kc_5 (by decide) (by decide)) t (i + 1) false hk0 (by rw [((show f_382 22 = f_380 22 from by rw [← ef_382]; rfl).trans (show f_380 22 = t376 from by rw [← ef_380]; rfl))]; exact hg378)) (cwV 1 hg (kgV wt7_63 wt7_65 wp5_12 wt1_14 wt7_66) rfl rfl rfl (by decide +kernel) ⟨by decide, by decide⟩) hK hP hD hS hA mIs [] rfl (wr := []) rfl rfl rfl (fun i h => by cases h) 0 12 rfl rfl rfl hl.1 rfl (Nat.le_of_ble_eq_true rfl) dX12_tells_264 ⟨Nat.le_refl _, Nat.le_refl _⟩ (fun v384 u385 H locs hw383 hP hD hS => ?_)
                    have hP : va_P D vwCl (mW K o r u385 a_40 g) H := hP
                    have hD : va_D A (mW K o r u385 a_40 g) := hD
                    have hI : mI u385 a_40 := hw383.2.1
                    have eE386 : fE [22] f_382 u385 := hw383.2.2.1
                    have hE : mE (XR []) f a u385 a_40 := mE_fE hE eE386 (by decide)
                    have hZ : mZ [22, 23, 24, 25] [26] f a u385 a_40 := mZ_fE hZ (fE_w (by decide) eE386)
                    have hk0 : eS u385 a_40 t false := eS_fE eE386 hk0 (by decide) (by decide)
                    have hz387 := pass_y hw383.2.2.2 h2
                    refine k_top (z := 1) hz387.1 ?_
                    obtain ⟨gv388, egv388⟩ : ∃ z : Int32, z = u385 22 := ⟨_, rfl⟩
                    have hg389 : gv388.toInt = 400 * (t : Int) + ((i + 1 + 1 : Nat) : Int) := by rw [egv388]; exact hz387.2
                    refine lv_if_eq (tgt := 278) hx hb dX12_tells_267 (by decide) (fun c412 => ?_) (fun c412 => ?_)
                    · exact kb_dj c412 kc_1 kc_0 (by decide)
                    · refine lv_aload_n hx hb dX12_tells_270 rfl (lv_at hl 4 rfl) ?_
                      refine lv_iconst (v := 1) hx hb dX12_tells_271 (by decide) ?_
                      refine kI.callV (As := [.int 1]) (rest := []) ⟨hx, hb, hml, hown, hg⟩ ((m_allTest 8) l o r u385 a_40 g hI 1 (kb_w kc_1 (by decide) (by decide)) t (i + 1 + 1) (m1) false hk0 (by rw [egv388.symm]; exact hg389) h3) (cwV 1 hg (kgV wt7_80 wt7_82 wp5_15 wt1_14 wt7_83) rfl rfl rfl (by decide +kernel) ⟨by decide, by decide⟩) hK hP hD hS hA mIs [] rfl (wr := []) rfl rfl rfl (fun i h => by cases h) 0 12 rfl rfl rfl hl.1 rfl (Nat.le_of_ble_eq_true rfl) dX12_tells_272 ⟨Nat.le_refl _, Nat.le_refl _⟩ (fun v414 u415 H locs hw413 hP hD hS => ?_)
                      have hP : va_P D vwCl (mW K o r u415 a_40 g) H := hP
                      have hD : va_D A (mW K o r u415 a_40 g) := hD
                      have hI : mI u415 a_40 := hw413.2.1
                      have eE416 : fE [22, 24] u385 u415 := hw413.2.2.1
                      have hE : mE (XR []) f a u415 a_40 := mE_fE hE eE416 (by decide)
                      have hZ : mZ [22, 23, 24, 25] [26] f a u415 a_40 := mZ_fE hZ (fE_w (by decide) eE416)
                      have hk0 : eS u415 a_40 t false := eS_fE eE416 hk0 (by decide) (by decide)
                      obtain ⟨gv417, egv417⟩ : ∃ z : Int32, z = u415 22 := ⟨_, rfl⟩
                      have hg418 : gv417.toInt = 400 * (t : Int) + ((m1 : Nat) : Int) := by rw [egv417]; exact hw413.2.2.2
                      have b419 : kb 0 gv417 2801 := kb_go1 hk0 (g16_le hk0 hSz h16) hg418
                      have jn423 : ∀ (H : Heap) (locs : List Loc) (ls : Array Slot) (z422 : Int32), (kb 0 z422 1) → va_P D vwCl (mW K o r u415 a_40 g) H → va_D A (mW K o r u415 a_40 g) → va_S A s.heap H locs → lv_has ls 13 [(11, .int 0), (9, .long 1), (8, .int 4), (6, .long y54), (0, .ref o), (1, .int hd), (2, .int bd), (3, .int pt), (4, .int hi), (5, .int wo)] → W p l e (rmD 48 0 0) s m ([.ref o, .int hd, .int bd, .int pt, .int hi, .int wo] : List Value).toArray below meth c H locs 0 0 (kQi D (tysK K) (fun v (u : mS) => kb 0 v 20 ∧ mI u.1 u.2.1 ∧ mE (XR []) f a u.1 u.2.1 ∧ mZ [22, 23, 24, 25] [26] f a u.1 u.2.1) (fun u => mW K o r u.1 u.2.1 u.2.2) A below ([.ref o, .int hd, .int bd, .int pt, .int hi, .int wo] : List Value).toArray s 0 0) (F0 m 283 ls [.int z422]) := by
                        intro  H locs ls z422 b424 hP hD hS hl
                        refine lv_istore (lv' := [(12, .int z422), (11, .int 0), (9, .long 1), (8, .int 4), (6, .long y54), (0, .ref o), (1, .int hd), (2, .int bd), (3, .int pt), (4, .int hi), (5, .int wo)]) hx hb dX12_tells_283 hl (by decide) rfl (fun ls hl => ?_)
                        refine lv_iload hx hb dX12_tells_285 (lv_at hl 3 rfl) ?_
                        refine lv_iload_n hx hb dX12_tells_287 rfl (lv_at hl 6 rfl) ?_
                        have jn465 : ∀ (H : Heap) (locs : List Loc) (ls : Array Slot) (y464 : Int64), (kbl 0 y464 20) → va_P D vwCl (mW K o r u415 a_40 g) H → va_D A (mW K o r u415 a_40 g) → va_S A s.heap H locs → lv_has ls 13 [(12, .int z422), (11, .int 0), (9, .long 1), (8, .int 4), (6, .long y464), (0, .ref o), (1, .int hd), (2, .int bd), (3, .int pt), (4, .int hi), (5, .int wo)] → W p l e (rmD 48 0 0) s m ([.ref o, .int hd, .int bd, .int pt, .int hi, .int wo] : List Value).toArray below meth c H locs 0 0 (kQi D (tysK K) (fun v (u : mS) => kb 0 v 20 ∧ mI u.1 u.2.1 ∧ mE (XR []) f a u.1 u.2.1 ∧ mZ [22, 23, 24, 25] [26] f a u.1 u.2.1) (fun u => mW K o r u.1 u.2.1 u.2.2) A below ([.ref o, .int hd, .int bd, .int pt, .int hi, .int wo] : List Value).toArray s 0 0) (F0 m 338 ls []) := by
                          intro  H locs ls y464 b466 hP hD hS hl
                          refine lv_aload_n hx hb dX12_tells_338 rfl (lv_at hl 5 rfl) ?_
                          refine lv_dup hx hb dX12_tells_339 rfl ?_
                          refine va_get (D := D) (ci := 12) (v := .int (u415 22)) (C := RX12) (T := TX12) (N := 48) hx hb hg inC12 hown hK hP 0 rfl rfl 22 (by decide) (hg _ wt5_182) (fun _ h9 => h9) rfl dX12_tells_340 ?_
                          refine k_top (z := gv417) egv417.symm ?_
                          refine lv_iconst (v := 1) hx hb dX12_tells_343 (by decide) ?_
                          refine lv_iadd hx hb dX12_tells_344 ?_
                          refine lv_topi (fun t467 et467 => ?_)
                          have b468 : kb 1 t467 2802 := kb_eq et467 (kb_add b419 kc_1 (by decide) (by decide))
                          have qt467 : t467.toInt = gv417.toInt + 1 := by rw [et467]; exact kt_addc b419 kc_1 (by decide) (by decide)
                          have hg469 : t467.toInt = 400 * (t : Int) + ((m1 + 1 : Nat) : Int) := by rw [qt467, hg418]; omega
                          refine va_put (D := D) (ci := 12) (v := .int t467) (ty := .int) (C := RX12) (T := TX12) (N := 48) hx hb hg inC12 tyX12 tyX12_ok nmX12 hown hK hP hD hS 0 rfl rfl 22 (by decide) (hg _ wt5_182) (fun _ h9 => h9) rfl (by decide +kernel) rfl rfl (Nat.le_of_ble_eq_true rfl) dX12_tells_345 (fun H locs hP hD hS => ?_)
                          have hP : va_P D vwCl (mW K o r (upd u415 22 t467) a_40 g) H := hP
                          have hD : va_D A (mW K o r (upd u415 22 t467) a_40 g) := hD
                          refine k_gen (P := fun z => va_P D vwCl (mW K o r z a_40 g) H ∧ va_D A (mW K o r z a_40 g) ∧ (mI z a_40) ∧ (mE (XR []) f a z a_40) ∧ (mZ [22, 23, 24, 25] [26] f a z a_40) ∧ (eS z a_40 t false)) (upd u415 22 t467) ⟨hP, hD, (mI_f hI (fI_st hI.1 22 (kb_any _) (by decide) (by decide))), (mE_f hE (by decide)), (mZ_f hZ rfl), (eS_f hk0 (by decide) (by decide))⟩ (fun f_470 ef_470 hq => ?_)
                          obtain ⟨hP, hD, hI, hE, hZ, hk0⟩ := hq
                          refine lv_goto (tgt := 198) hx hb dX12_tells_348 (by decide) ?_
                          exact ihlp56 (m1 + 1) f_470 _ _ _ y464 (h16.elim (fun h => Or.inr h.2) (fun h => Or.inl ⟨by omega, h.2.2⟩)) hI hE hZ hk0 b466 (by rw [(show f_470 22 = t467 from by rw [← ef_470]; rfl)]; exact hg469) hP hD hS (lv_sub hl [4, 5, 6, 7, 8, 9, 10] rfl)
                        refine lv_icmp_ne (tgt := 338) hx hb dX12_tells_288 (by decide) (fun c471 => ?_) (fun c471 => ?_)
                        · exact jn465 _ _ _ y54 b58 hP hD hS (lv_sub hl [0, 1, 2, 3, 4, 5, 6, 7, 8, 9, 10] rfl)
                        · have b472 : kb 4 hd 4 := kb_eq c471.symm kc_4
                          refine lv_iload hx hb dX12_tells_291 (lv_at hl 0 rfl) ?_
                          refine lv_if_eq (tgt := 338) hx hb dX12_tells_293 (by decide) (fun c473 => ?_) (fun c473 => ?_)
                          · have b474 : kb 0 z422 0 := kb_eq c473 kc_0
                            exact jn465 _ _ _ y54 b58 hP hD hS (lv_sub hl [0, 1, 2, 3, 4, 5, 6, 7, 8, 9, 10] rfl)
                          · have b475 : kb 1 z422 1 := kr_nel c473 b424 kc_0 (by decide)
                            refine lv_aload_n hx hb dX12_tells_296 rfl (lv_at hl 5 rfl) ?_
                            refine va_get (D := D) (ci := 12) (v := .int (u415 24)) (C := RX12) (T := TX12) (N := 48) hx hb hg inC12 hown hK hP 0 rfl rfl 24 (by decide) (hg _ wt5_184) (fun _ h9 => h9) rfl dX12_tells_297 ?_
                            refine lv_topi (fun t476 et476 => ?_)
                            have b477 : kb 0 t476 1 := kb_eq et476 (fI_at hI.1 24 (by decide) (by decide))
                            refine lv_if_ne (tgt := 338) hx hb dX12_tells_300 (by decide) (fun c478 => ?_) (fun c478 => ?_)
                            · have b479 : kb 1 t476 1 := kr_nel c478 b477 kc_0 (by decide)
                              exact jn465 _ _ _ y54 b58 hP hD hS (lv_sub hl [0, 1, 2, 3, 4, 5, 6, 7, 8, 9, 10] rfl)
                            · have b480 : kb 0 t476 0 := kb_eq c478 kc_0
                              refine lv_iload hx hb dX12_tells_303 (lv_at hl 1 rfl) ?_
                              refine lv_if_ne (tgt := 338) hx hb dX12_tells_305 (by decide) (fun c481 => ?_) (fun c481 => ?_)
                              · exact kb_nsame c481 kc_0 kc_0
                              · refine lv_lload hx hb dX12_tells_308 (lv_at hl 2 rfl) ?_
                                refine lv_lconst (v := 0) hx hb dX12_tells_310 (by decide) ?_
                                refine W.lcmp hx hb dX12_tells_311 ?_
                                refine lv_topi (fun t482 et482 => ?_)
                                have jn496 : ∀ (H : Heap) (locs : List Loc) (ls : Array Slot) (z495 : Int64), (kbl 0 z495 20) → va_P D vwCl (mW K o r u415 a_40 g) H → va_D A (mW K o r u415 a_40 g) → va_S A s.heap H locs → lv_has ls 13 [(12, .int z422), (11, .int 0), (9, .long 1), (8, .int 4), (6, .long y54), (0, .ref o), (1, .int hd), (2, .int bd), (3, .int pt), (4, .int hi), (5, .int wo)] → W p l e (rmD 48 0 0) s m ([.ref o, .int hd, .int bd, .int pt, .int hi, .int wo] : List Value).toArray below meth c H locs 0 0 (kQi D (tysK K) (fun v (u : mS) => kb 0 v 20 ∧ mI u.1 u.2.1 ∧ mE (XR []) f a u.1 u.2.1 ∧ mZ [22, 23, 24, 25] [26] f a u.1 u.2.1) (fun u => mW K o r u.1 u.2.1 u.2.2) A below ([.ref o, .int hd, .int bd, .int pt, .int hi, .int wo] : List Value).toArray s 0 0) (F0 m 336 ls [.long z495]) := by
                                  intro  H locs ls z495 b497 hP hD hS hl
                                  refine lv_lstore (lv' := [(6, .long z495), (12, .int z422), (11, .int 0), (9, .long 1), (8, .int 4), (0, .ref o), (1, .int hd), (2, .int bd), (3, .int pt), (4, .int hi), (5, .int wo)]) hx hb dX12_tells_336 hl (by decide) rfl (fun ls hl => ?_)
                                  exact jn465 _ _ _ z495 b497 hP hD hS (lv_sub hl [1, 2, 3, 4, 0, 5, 6, 7, 8, 9, 10] rfl)
                                refine lv_if_ge (tgt := 319) hx hb dX12_tells_312 (by decide) (fun c498 => ?_) (fun c498 => ?_)
                                · have h499 := klc_ge (et482 ▸ c498)
                                  refine lv_lload hx hb dX12_tells_319 (lv_at hl 2 rfl) ?_
                                  refine lv_iload hx hb dX12_tells_321 (lv_at hl 9 rfl) ?_
                                  refine lv_i2l hx hb dX12_tells_323 rfl ?_
                                  refine lv_topl (fun t500 et500 => ?_)
                                  have b501 : kbl 0 t500 20 := kbl_eq et500 (kbl_i2l bhi)
                                  refine W.lcmp hx hb dX12_tells_324 ?_
                                  refine lv_topi (fun t502 et502 => ?_)
                                  refine lv_if_le (tgt := 334) hx hb dX12_tells_325 (by decide) (fun c503 => ?_) (fun c503 => ?_)
                                  · have h504 := klc_le (et502 ▸ c503)
                                    have b505 : kbl 1 t500 20 := klr_le2 h504 kcl_1 b501
                                    refine lv_lload hx hb dX12_tells_334 (lv_at hl 2 rfl) ?_
                                    exact jn496 _ _ _ 1 (kbl_w kcl_1 (by decide) (by decide)) hP hD hS (lv_sub hl [0, 1, 2, 3, 4, 5, 6, 7, 8, 9, 10] rfl)
                                  · have h506 := klc_nle (et502 ▸ c503)
                                    have b507 : kbl 0 t500 0 := klr_lt1 h506 b501 kcl_1 (by decide)
                                    refine lv_iload hx hb dX12_tells_328 (lv_at hl 9 rfl) ?_
                                    refine lv_i2l hx hb dX12_tells_330 rfl ?_
                                    refine lv_topl (fun t508 et508 => ?_)
                                    have b509 : kbl 0 t508 20 := kbl_eq et508 (kbl_i2l bhi)
                                    refine lv_goto (tgt := 336) hx hb dX12_tells_331 (by decide) ?_
                                    exact jn496 _ _ _ t508 b509 hP hD hS (lv_sub hl [0, 1, 2, 3, 4, 5, 6, 7, 8, 9, 10] rfl)
                                · have h510 := klc_nge (et482 ▸ c498)
                                  refine lv_lconst (v := 0) hx hb dX12_tells_315 (by decide) ?_
                                  refine lv_goto (tgt := 336) hx hb dX12_tells_316 (by decide) ?_
                                  exact jn496 _ _ _ 0 (kbl_w kcl_0 (by decide) (by decide)) hP hD hS (lv_sub hl [0, 1, 2, 3, 4, 5, 6, 7, 8, 9, 10] rfl)
                      refine lv_if_eq (tgt := 282) hx hb dX12_tells_275 (by decide) (fun c511 => ?_) (fun c511 => ?_)
                      · have b512 : kb 0 v414 0 := kb_eq c511 kc_0
                        refine lv_iconst (v := 0) hx hb dX12_tells_282 (by decide) ?_
                        exact jn423 _ _ _ 0 (kb_w kc_0 (by decide) (by decide)) hP hD hS (lv_sub hl [0, 1, 2, 3, 4, 5, 6, 7, 8, 9] rfl)
                      · have b513 : kb 1 v414 1 := kr_nel c511 hw413.1 kc_0 (by decide)
                        refine lv_iconst (v := 1) hx hb dX12_tells_278 (by decide) ?_
                        refine lv_goto (tgt := 283) hx hb dX12_tells_279 (by decide) ?_
                        exact jn423 _ _ _ 1 (kb_w kc_1 (by decide) (by decide)) hP hD hS (lv_sub hl [0, 1, 2, 3, 4, 5, 6, 7, 8, 9] rfl)
              · rw [hj] at h16
                refine lv_aload_n hx hb dX12_tells_198 rfl (lv_at hl 1 rfl) ?_
                refine va_get (D := D) (ci := 12) (v := .int (F55 22)) (C := RX12) (T := TX12) (N := 48) hx hb hg inC12 hown hK hP 0 rfl rfl 22 (by decide) (hg _ wt5_182) (fun _ h9 => h9) rfl dX12_tells_199 ?_
                refine k_top (z := gv59) egv59.symm ?_
                refine lv_aload_n hx hb dX12_tells_202 rfl (lv_at hl 1 rfl) ?_
                refine va_get (D := D) (ci := 12) (v := .int (F55 23)) (C := RX12) (T := TX12) (N := 48) hx hb hg inC12 hown hK hP 0 rfl rfl 23 (by decide) (hg _ wt5_183) (fun _ h9 => h9) rfl dX12_tells_203 ?_
                refine lv_topi (fun t514 et514 => ?_)
                refine lv_icmp_ge (tgt := 351) hx hb dX12_tells_206 (by decide) (fun c515 => ?_) (fun c515 => ?_)
                · exact absurd (kc_le c515) (by have w1 := congrArg Int32.toInt et514.symm; have w2 := hk0.2.1; have w3 := hg60; have w4 := mC_lS hk0 (ne_0 h1 (by decide +kernel)); omega)
                · have h516 := (kc_nle c515)
                  have b517 : kb 1 t514 2147483647 := kr_lt2 h516 b367 (kb_any t514) (by decide)
                  refine lv_aload_n hx hb dX12_tells_209 rfl (lv_at hl 1 rfl) ?_
                  refine lv_aload_n hx hb dX12_tells_210 rfl (lv_at hl 1 rfl) ?_
                  refine va_get (D := D) (ci := 12) (v := .int (F55 22)) (C := RX12) (T := TX12) (N := 48) hx hb hg inC12 hown hK hP 0 rfl rfl 22 (by decide) (hg _ wt5_182) (fun _ h9 => h9) rfl dX12_tells_211 ?_
                  refine k_top (z := gv59) egv59.symm ?_
                  refine kI.callV (As := [.int gv59]) (rest := []) ⟨hx, hb, hml, hown, hg⟩ (m_codeAt l o r F55 a_40 g hI gv59  t (i) false hk0 hg60) (cwV 1 hg (kgV wt7_47 wt7_49 wp5_8 wt1_14 wt7_50) rfl rfl rfl (by decide +kernel) ⟨by decide, by decide⟩) hK hP hD hS hA mIs [] rfl (wr := []) rfl rfl rfl (fun i h => by cases h) 0 12 rfl rfl rfl hl.1 rfl (Nat.le_of_ble_eq_true rfl) dX12_tells_214 ⟨Nat.le_refl _, Nat.le_refl _⟩ (fun v519 u520 H locs hw518 hP hD hS => ?_)
                  have hP : va_P D vwCl (mW K o r F55 a_40 g) H := hP
                  have hD : va_D A (mW K o r F55 a_40 g) := hD
                  refine k_top (z := 4) (hw518.2.trans h1) ?_
                  refine lv_istore (lv' := [(8, .int 4), (6, .long y54), (0, .ref o), (1, .int hd), (2, .int bd), (3, .int pt), (4, .int hi), (5, .int wo)]) hx hb dX12_tells_217 hl (by decide) rfl (fun ls hl => ?_)
                  refine lv_aload_n hx hb dX12_tells_219 rfl (lv_at hl 2 rfl) ?_
                  refine lv_iconst (v := 0) hx hb dX12_tells_220 (by decide) ?_
                  refine va_put (D := D) (ci := 12) (v := .int 0) (ty := .boolean) (C := RX12) (T := TX12) (N := 48) hx hb hg inC12 tyX12 tyX12_ok nmX12 hown hK hP hD hS 0 rfl rfl 24 (by decide) (hg _ wt5_184) (fun _ h9 => h9) rfl (by decide +kernel) rfl rfl (Nat.le_of_ble_eq_true rfl) dX12_tells_221 (fun H locs hP hD hS => ?_)
                  have hP : va_P D vwCl (mW K o r (upd F55 24 0) a_40 g) H := hP
                  have hD : va_D A (mW K o r (upd F55 24 0) a_40 g) := hD
                  refine k_gen (P := fun z => va_P D vwCl (mW K o r z a_40 g) H ∧ va_D A (mW K o r z a_40 g) ∧ (mI z a_40) ∧ (mE (XR []) f a z a_40) ∧ (mZ [22, 23, 24, 25] [26] f a z a_40) ∧ (eS z a_40 t false)) (upd F55 24 0) ⟨hP, hD, (mI_f hI (fI_st hI.1 24 kc_0 (by decide) (by decide))), (mE_f hE (by decide)), (mZ_f hZ rfl), (eS_f hk0 (by decide) (by decide))⟩ (fun f_521 ef_521 hq => ?_)
                  obtain ⟨hP, hD, hI, hE, hZ, hk0⟩ := hq
                  refine lv_aload_n hx hb dX12_tells_224 rfl (lv_at hl 2 rfl) ?_
                  refine lv_dup hx hb dX12_tells_225 rfl ?_
                  refine va_get (D := D) (ci := 12) (v := .int (f_521 22)) (C := RX12) (T := TX12) (N := 48) hx hb hg inC12 hown hK hP 0 rfl rfl 22 (by decide) (hg _ wt5_182) (fun _ h9 => h9) rfl dX12_tells_226 ?_
                  refine k_top (z := gv59) ((show f_521 22 = F55 22 from by rw [← ef_521]; rfl).trans egv59.symm) ?_
                  refine lv_iconst (v := 1) hx hb dX12_tells_229 (by decide) ?_
                  refine lv_iadd hx hb dX12_tells_230 ?_
                  refine lv_topi (fun t522 et522 => ?_)
                  have b523 : kb 1 t522 2800 := kb_eq et522 (kb_add b367 kc_1 (by decide) (by decide))
                  have qt522 : t522.toInt = gv59.toInt + 1 := by rw [et522]; exact kt_addc b367 kc_1 (by decide) (by decide)
                  have hg524 : t522.toInt = 400 * (t : Int) + ((i + 1 : Nat) : Int) := by rw [qt522, hg60]; omega
                  have b525 : kb 0 t522 2801 := kb_go1 hk0 (g16_le hk0 hSz h16) hg524
                  refine va_put (D := D) (ci := 12) (v := .int t522) (ty := .int) (C := RX12) (T := TX12) (N := 48) hx hb hg inC12 tyX12 tyX12_ok nmX12 hown hK hP hD hS 0 rfl rfl 22 (by decide) (hg _ wt5_182) (fun _ h9 => h9) rfl (by decide +kernel) rfl rfl (Nat.le_of_ble_eq_true rfl) dX12_tells_231 (fun H locs hP hD hS => ?_)
                  have hP : va_P D vwCl (mW K o r (upd f_521 22 t522) a_40 g) H := hP
                  have hD : va_D A (mW K o r (upd f_521 22 t522) a_40 g) := hD
                  refine k_gen (P := fun z => va_P D vwCl (mW K o r z a_40 g) H ∧ va_D A (mW K o r z a_40 g) ∧ (mI z a_40) ∧ (mE (XR []) f a z a_40) ∧ (mZ [22, 23, 24, 25] [26] f a z a_40) ∧ (eS z a_40 t false)) (upd f_521 22 t522) ⟨hP, hD, (mI_f hI (fI_st hI.1 22 (kb_any _) (by decide) (by decide))), (mE_f hE (by decide)), (mZ_f hZ rfl), (eS_f hk0 (by decide) (by decide))⟩ (fun f_526 ef_526 hq => ?_)
                  obtain ⟨hP, hD, hI, hE, hZ, hk0⟩ := hq
                  refine lv_iload hx hb dX12_tells_234 (lv_at hl 0 rfl) ?_
                  refine lv_iconst (v := 4) hx hb dX12_tells_236 (by decide) ?_
                  refine lv_icmp_ne (tgt := 244) hx hb dX12_tells_237 (by decide) (fun c527 => ?_) (fun c527 => ?_)
                  · exact kb_nsame c527 kc_4 kc_4
                  · refine lv_lconst (v := 1) hx hb dX12_tells_240 (by decide) ?_
                    refine lv_goto (tgt := 249) hx hb dX12_tells_241 (by decide) ?_
                    refine lv_lstore (lv' := [(9, .long 1), (8, .int 4), (6, .long y54), (0, .ref o), (1, .int hd), (2, .int bd), (3, .int pt), (4, .int hi), (5, .int wo)]) hx hb dX12_tells_249 hl (by decide) rfl (fun ls hl => ?_)
                    refine lv_aload_n hx hb dX12_tells_251 rfl (lv_at hl 3 rfl) ?_
                    refine va_get (D := D) (ci := 12) (v := .int (f_526 24)) (C := RX12) (T := TX12) (N := 48) hx hb hg inC12 hown hK hP 0 rfl rfl 24 (by decide) (hg _ wt5_184) (fun _ h9 => h9) rfl dX12_tells_252 ?_
                    refine k_top (z := 0) ((show f_526 24 = f_521 24 from by rw [← ef_526]; rfl).trans (show f_521 24 = 0 from by rw [← ef_521]; rfl)) ?_
                    refine lv_istore (lv' := [(11, .int 0), (9, .long 1), (8, .int 4), (6, .long y54), (0, .ref o), (1, .int hd), (2, .int bd), (3, .int pt), (4, .int hi), (5, .int wo)]) hx hb dX12_tells_255 hl (by decide) rfl (fun ls hl => ?_)
                    refine lv_aload_n hx hb dX12_tells_257 rfl (lv_at hl 4 rfl) ?_
                    refine lv_iconst (v := 0) hx hb dX12_tells_258 (by decide) ?_
                    refine va_put (D := D) (ci := 12) (v := .int 0) (ty := .boolean) (C := RX12) (T := TX12) (N := 48) hx hb hg inC12 tyX12 tyX12_ok nmX12 hown hK hP hD hS 0 rfl rfl 24 (by decide) (hg _ wt5_184) (fun _ h9 => h9) rfl (by decide +kernel) rfl rfl (Nat.le_of_ble_eq_true rfl) dX12_tells_259 (fun H locs hP hD hS => ?_)
                    have hP : va_P D vwCl (mW K o r (upd f_526 24 0) a_40 g) H := hP
                    have hD : va_D A (mW K o r (upd f_526 24 0) a_40 g) := hD
                    refine k_gen (P := fun z => va_P D vwCl (mW K o r z a_40 g) H ∧ va_D A (mW K o r z a_40 g) ∧ (mI z a_40) ∧ (mE (XR []) f a z a_40) ∧ (mZ [22, 23, 24, 25] [26] f a z a_40) ∧ (eS z a_40 t false)) (upd f_526 24 0) ⟨hP, hD, (mI_f hI (fI_st hI.1 24 kc_0 (by decide) (by decide))), (mE_f hE (by decide)), (mZ_f hZ rfl), (eS_f hk0 (by decide) (by decide))⟩ (fun f_528 ef_528 hq => ?_)
                    obtain ⟨hP, hD, hI, hE, hZ, hk0⟩ := hq
                    refine lv_aload_n hx hb dX12_tells_262 rfl (lv_at hl 4 rfl) ?_
                    refine lv_iconst (v := 5) hx hb dX12_tells_263 (by decide) ?_
                    refine kI.callV (As := [.int 5]) (rest := []) ⟨hx, hb, hml, hown, hg⟩ (m_passes0 l o r f_528 a_40 g hI 5 (kb_w kc_5 (by decide) (by decide)) t (i + 1) false hk0 (by rw [((show f_528 22 = f_526 22 from by rw [← ef_528]; rfl).trans (show f_526 22 = t522 from by rw [← ef_526]; rfl))]; exact hg524)) (cwV 1 hg (kgV wt7_63 wt7_65 wp5_12 wt1_14 wt7_66) rfl rfl rfl (by decide +kernel) ⟨by decide, by decide⟩) hK hP hD hS hA mIs [] rfl (wr := []) rfl rfl rfl (fun i h => by cases h) 0 12 rfl rfl rfl hl.1 rfl (Nat.le_of_ble_eq_true rfl) dX12_tells_264 ⟨Nat.le_refl _, Nat.le_refl _⟩ (fun v530 u531 H locs hw529 hP hD hS => ?_)
                    have hP : va_P D vwCl (mW K o r u531 a_40 g) H := hP
                    have hD : va_D A (mW K o r u531 a_40 g) := hD
                    have hI : mI u531 a_40 := hw529.2.1
                    have eE532 : fE [22] f_528 u531 := hw529.2.2.1
                    have hE : mE (XR []) f a u531 a_40 := mE_fE hE eE532 (by decide)
                    have hZ : mZ [22, 23, 24, 25] [26] f a u531 a_40 := mZ_fE hZ (fE_w (by decide) eE532)
                    have hk0 : eS u531 a_40 t false := eS_fE eE532 hk0 (by decide) (by decide)
                    have hz533 := pass_n hw529.2.2.2 h2
                    refine k_top (z := 0) hz533.1 ?_
                    obtain ⟨gv534, egv534⟩ : ∃ z : Int32, z = u531 22 := ⟨_, rfl⟩
                    have hg535 : gv534.toInt = 400 * (t : Int) + ((i + 1 : Nat) : Int) := by rw [egv534]; exact hz533.2
                    have b536 : kb 0 gv534 2801 := kb_go1 hk0 (g16_le hk0 hSz h16) hg535
                    refine lv_if_eq (tgt := 278) hx hb dX12_tells_267 (by decide) (fun c537 => ?_) (fun c537 => ?_)
                    · refine lv_iconst (v := 1) hx hb dX12_tells_278 (by decide) ?_
                      refine lv_goto (tgt := 283) hx hb dX12_tells_279 (by decide) ?_
                      refine lv_istore (lv' := [(12, .int 1), (11, .int 0), (9, .long 1), (8, .int 4), (6, .long y54), (0, .ref o), (1, .int hd), (2, .int bd), (3, .int pt), (4, .int hi), (5, .int wo)]) hx hb dX12_tells_283 hl (by decide) rfl (fun ls hl => ?_)
                      refine lv_iload hx hb dX12_tells_285 (lv_at hl 3 rfl) ?_
                      refine lv_iload_n hx hb dX12_tells_287 rfl (lv_at hl 6 rfl) ?_
                      have jn572 : ∀ (H : Heap) (locs : List Loc) (ls : Array Slot) (y571 : Int64), (kbl 0 y571 20) → va_P D vwCl (mW K o r u531 a_40 g) H → va_D A (mW K o r u531 a_40 g) → va_S A s.heap H locs → lv_has ls 13 [(12, .int 1), (11, .int 0), (9, .long 1), (8, .int 4), (6, .long y571), (0, .ref o), (1, .int hd), (2, .int bd), (3, .int pt), (4, .int hi), (5, .int wo)] → W p l e (rmD 48 0 0) s m ([.ref o, .int hd, .int bd, .int pt, .int hi, .int wo] : List Value).toArray below meth c H locs 0 0 (kQi D (tysK K) (fun v (u : mS) => kb 0 v 20 ∧ mI u.1 u.2.1 ∧ mE (XR []) f a u.1 u.2.1 ∧ mZ [22, 23, 24, 25] [26] f a u.1 u.2.1) (fun u => mW K o r u.1 u.2.1 u.2.2) A below ([.ref o, .int hd, .int bd, .int pt, .int hi, .int wo] : List Value).toArray s 0 0) (F0 m 338 ls []) := by
                        intro  H locs ls y571 b573 hP hD hS hl
                        refine lv_aload_n hx hb dX12_tells_338 rfl (lv_at hl 5 rfl) ?_
                        refine lv_dup hx hb dX12_tells_339 rfl ?_
                        refine va_get (D := D) (ci := 12) (v := .int (u531 22)) (C := RX12) (T := TX12) (N := 48) hx hb hg inC12 hown hK hP 0 rfl rfl 22 (by decide) (hg _ wt5_182) (fun _ h9 => h9) rfl dX12_tells_340 ?_
                        refine k_top (z := gv534) egv534.symm ?_
                        refine lv_iconst (v := 1) hx hb dX12_tells_343 (by decide) ?_
                        refine lv_iadd hx hb dX12_tells_344 ?_
                        refine lv_topi (fun t574 et574 => ?_)
                        have b575 : kb 1 t574 2802 := kb_eq et574 (kb_add b536 kc_1 (by decide) (by decide))
                        have qt574 : t574.toInt = gv534.toInt + 1 := by rw [et574]; exact kt_addc b536 kc_1 (by decide) (by decide)
                        have hg576 : t574.toInt = 400 * (t : Int) + ((i + 1 + 1 : Nat) : Int) := by rw [qt574, hg535]; omega
                        refine va_put (D := D) (ci := 12) (v := .int t574) (ty := .int) (C := RX12) (T := TX12) (N := 48) hx hb hg inC12 tyX12 tyX12_ok nmX12 hown hK hP hD hS 0 rfl rfl 22 (by decide) (hg _ wt5_182) (fun _ h9 => h9) rfl (by decide +kernel) rfl rfl (Nat.le_of_ble_eq_true rfl) dX12_tells_345 (fun H locs hP hD hS => ?_)
                        have hP : va_P D vwCl (mW K o r (upd u531 22 t574) a_40 g) H := hP
                        have hD : va_D A (mW K o r (upd u531 22 t574) a_40 g) := hD
                        refine k_gen (P := fun z => va_P D vwCl (mW K o r z a_40 g) H ∧ va_D A (mW K o r z a_40 g) ∧ (mI z a_40) ∧ (mE (XR []) f a z a_40) ∧ (mZ [22, 23, 24, 25] [26] f a z a_40) ∧ (eS z a_40 t false)) (upd u531 22 t574) ⟨hP, hD, (mI_f hI (fI_st hI.1 22 (kb_any _) (by decide) (by decide))), (mE_f hE (by decide)), (mZ_f hZ rfl), (eS_f hk0 (by decide) (by decide))⟩ (fun f_577 ef_577 hq => ?_)
                        obtain ⟨hP, hD, hI, hE, hZ, hk0⟩ := hq
                        refine lv_goto (tgt := 198) hx hb dX12_tells_348 (by decide) ?_
                        exact ihlp56 (i + 1 + 1) f_577 _ _ _ y571 (h16.elim (fun h => Or.inr h.2) (fun h => Or.inl ⟨by omega, h.2.2⟩)) hI hE hZ hk0 b573 (by rw [(show f_577 22 = t574 from by rw [← ef_577]; rfl)]; exact hg576) hP hD hS (lv_sub hl [4, 5, 6, 7, 8, 9, 10] rfl)
                      refine lv_icmp_ne (tgt := 338) hx hb dX12_tells_288 (by decide) (fun c578 => ?_) (fun c578 => ?_)
                      · exact jn572 _ _ _ y54 b58 hP hD hS (lv_sub hl [0, 1, 2, 3, 4, 5, 6, 7, 8, 9, 10] rfl)
                      · have b579 : kb 4 hd 4 := kb_eq c578.symm kc_4
                        refine lv_iload hx hb dX12_tells_291 (lv_at hl 0 rfl) ?_
                        refine lv_if_eq (tgt := 338) hx hb dX12_tells_293 (by decide) (fun c580 => ?_) (fun c580 => ?_)
                        · exact kb_dj c580 kc_1 kc_0 (by decide)
                        · refine lv_aload_n hx hb dX12_tells_296 rfl (lv_at hl 5 rfl) ?_
                          refine va_get (D := D) (ci := 12) (v := .int (u531 24)) (C := RX12) (T := TX12) (N := 48) hx hb hg inC12 hown hK hP 0 rfl rfl 24 (by decide) (hg _ wt5_184) (fun _ h9 => h9) rfl dX12_tells_297 ?_
                          refine k_top (z := 0) ((eE532 24 (by decide)).trans (show f_528 24 = 0 from by rw [← ef_528]; rfl)) ?_
                          refine lv_if_ne (tgt := 338) hx hb dX12_tells_300 (by decide) (fun c581 => ?_) (fun c581 => ?_)
                          · exact kb_nsame c581 kc_0 kc_0
                          · refine lv_iload hx hb dX12_tells_303 (lv_at hl 1 rfl) ?_
                            refine lv_if_ne (tgt := 338) hx hb dX12_tells_305 (by decide) (fun c582 => ?_) (fun c582 => ?_)
                            · exact kb_nsame c582 kc_0 kc_0
                            · refine lv_lload hx hb dX12_tells_308 (lv_at hl 2 rfl) ?_
                              refine lv_lconst (v := 0) hx hb dX12_tells_310 (by decide) ?_
                              refine W.lcmp hx hb dX12_tells_311 ?_
                              refine lv_topi (fun t583 et583 => ?_)
                              have jn597 : ∀ (H : Heap) (locs : List Loc) (ls : Array Slot) (z596 : Int64), (kbl 0 z596 20) → va_P D vwCl (mW K o r u531 a_40 g) H → va_D A (mW K o r u531 a_40 g) → va_S A s.heap H locs → lv_has ls 13 [(12, .int 1), (11, .int 0), (9, .long 1), (8, .int 4), (6, .long y54), (0, .ref o), (1, .int hd), (2, .int bd), (3, .int pt), (4, .int hi), (5, .int wo)] → W p l e (rmD 48 0 0) s m ([.ref o, .int hd, .int bd, .int pt, .int hi, .int wo] : List Value).toArray below meth c H locs 0 0 (kQi D (tysK K) (fun v (u : mS) => kb 0 v 20 ∧ mI u.1 u.2.1 ∧ mE (XR []) f a u.1 u.2.1 ∧ mZ [22, 23, 24, 25] [26] f a u.1 u.2.1) (fun u => mW K o r u.1 u.2.1 u.2.2) A below ([.ref o, .int hd, .int bd, .int pt, .int hi, .int wo] : List Value).toArray s 0 0) (F0 m 336 ls [.long z596]) := by
                                intro  H locs ls z596 b598 hP hD hS hl
                                refine lv_lstore (lv' := [(6, .long z596), (12, .int 1), (11, .int 0), (9, .long 1), (8, .int 4), (0, .ref o), (1, .int hd), (2, .int bd), (3, .int pt), (4, .int hi), (5, .int wo)]) hx hb dX12_tells_336 hl (by decide) rfl (fun ls hl => ?_)
                                exact jn572 _ _ _ z596 b598 hP hD hS (lv_sub hl [1, 2, 3, 4, 0, 5, 6, 7, 8, 9, 10] rfl)
                              refine lv_if_ge (tgt := 319) hx hb dX12_tells_312 (by decide) (fun c599 => ?_) (fun c599 => ?_)
                              · have h600 := klc_ge (et583 ▸ c599)
                                refine lv_lload hx hb dX12_tells_319 (lv_at hl 2 rfl) ?_
                                refine lv_iload hx hb dX12_tells_321 (lv_at hl 9 rfl) ?_
                                refine lv_i2l hx hb dX12_tells_323 rfl ?_
                                refine lv_topl (fun t601 et601 => ?_)
                                have b602 : kbl 0 t601 20 := kbl_eq et601 (kbl_i2l bhi)
                                refine W.lcmp hx hb dX12_tells_324 ?_
                                refine lv_topi (fun t603 et603 => ?_)
                                refine lv_if_le (tgt := 334) hx hb dX12_tells_325 (by decide) (fun c604 => ?_) (fun c604 => ?_)
                                · have h605 := klc_le (et603 ▸ c604)
                                  have b606 : kbl 1 t601 20 := klr_le2 h605 kcl_1 b602
                                  refine lv_lload hx hb dX12_tells_334 (lv_at hl 2 rfl) ?_
                                  exact jn597 _ _ _ 1 (kbl_w kcl_1 (by decide) (by decide)) hP hD hS (lv_sub hl [0, 1, 2, 3, 4, 5, 6, 7, 8, 9, 10] rfl)
                                · have h607 := klc_nle (et603 ▸ c604)
                                  have b608 : kbl 0 t601 0 := klr_lt1 h607 b602 kcl_1 (by decide)
                                  refine lv_iload hx hb dX12_tells_328 (lv_at hl 9 rfl) ?_
                                  refine lv_i2l hx hb dX12_tells_330 rfl ?_
                                  refine lv_topl (fun t609 et609 => ?_)
                                  have b610 : kbl 0 t609 20 := kbl_eq et609 (kbl_i2l bhi)
                                  refine lv_goto (tgt := 336) hx hb dX12_tells_331 (by decide) ?_
                                  exact jn597 _ _ _ t609 b610 hP hD hS (lv_sub hl [0, 1, 2, 3, 4, 5, 6, 7, 8, 9, 10] rfl)
                              · have h611 := klc_nge (et583 ▸ c599)
                                refine lv_lconst (v := 0) hx hb dX12_tells_315 (by decide) ?_
                                refine lv_goto (tgt := 336) hx hb dX12_tells_316 (by decide) ?_
                                exact jn597 _ _ _ 0 (kbl_w kcl_0 (by decide) (by decide)) hP hD hS (lv_sub hl [0, 1, 2, 3, 4, 5, 6, 7, 8, 9, 10] rfl)
                    · exact kb_nsame c537 kc_0 kc_0
      exact lp56 (n0) (0) f_53 _ _ _ t42 (hn0) hI hE hZ hk0 b43 (by rw [((show f_53 22 = f_46 22 from by rw [← ef_53]; rfl).trans (show f_46 22 = t44 from by rw [← ef_46]; rfl))]; exact hg0) hP hD hS (lv_sub hl [0, 1, 2, 3, 4, 5, 6] rfl)
    refine lv_if_eq (tgt := 61) hx hb dX12_tells_54 (by decide) (fun c612 => ?_) (fun c612 => ?_)
    · have b613 : kb 0 v13 0 := kb_eq c612 kc_0
      refine lv_iconst (v := 0) hx hb dX12_tells_61 (by decide) ?_
      exact jn18 _ _ _ 0 (kb_w kc_0 (by decide) (by decide)) hP hD hS (lv_sub hl [0, 1, 2, 3, 4, 5] rfl)
    · have b614 : kb 1 v13 1 := kr_nel c612 hw12 kc_0 (by decide)
      refine lv_iconst (v := 1) hx hb dX12_tells_57 (by decide) ?_
      refine lv_goto (tgt := 62) hx hb dX12_tells_58 (by decide) ?_
      exact jn18 _ _ _ 1 (kb_w kc_1 (by decide) (by decide)) hP hD hS (lv_sub hl [0, 1, 2, 3, 4, 5] rfl)
  · have b615 : kb (-1) t1 (-1) := kb_eq c3 kc_m1
    refine lv_iload hx hb dX12_tells_11 (lv_at hl 5 rfl) ?_
    exact kI_ret (v := wo) hx hb hr hlocks rfl hK hS dX12_tells_13 (f, a, g) hP hD ⟨bwo, hI, hE, hZ⟩
