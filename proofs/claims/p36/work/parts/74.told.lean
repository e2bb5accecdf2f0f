theorem dL_told_0 : decode cL_told 0 = .ok (.aload_n 0, 1) := by decide +kernel
theorem dL_told_1 : decode cL_told 1 = .ok (.iload_n 1, 1) := by decide +kernel
theorem dL_told_2 : decode cL_told 2 = .ok (.invokevirtual 53, 3) := by decide +kernel
theorem dL_told_5 : decode cL_told 5 = .ok (.ifCond .ge 5, 3) := by decide +kernel
theorem dL_told_8 : decode cL_told 8 = .ok (.iconst (-1), 1) := by decide +kernel
theorem dL_told_9 : decode cL_told 9 = .ok (.ireturn, 1) := by decide +kernel
theorem dL_told_10 : decode cL_told 10 = .ok (.iconst 0, 1) := by decide +kernel
theorem dL_told_11 : decode cL_told 11 = .ok (.istore 5, 2) := by decide +kernel
theorem dL_told_13 : decode cL_told 13 = .ok (.ldc 58, 2) := by decide +kernel
theorem dL_told_15 : decode cL_told 15 = .ok (.astore 6, 2) := by decide +kernel
theorem dL_told_17 : decode cL_told 17 = .ok (.iconst 0, 1) := by decide +kernel
theorem dL_told_18 : decode cL_told 18 = .ok (.istore 7, 2) := by decide +kernel
theorem dL_told_20 : decode cL_told 20 = .ok (.iload 7, 2) := by decide +kernel
theorem dL_told_22 : decode cL_told 22 = .ok (.aload 4, 2) := by decide +kernel
theorem dL_told_24 : decode cL_told 24 = .ok (.arraylength, 1) := by decide +kernel
theorem dL_told_25 : decode cL_told 25 = .ok (.if_icmp .ge 162, 3) := by decide +kernel
theorem dL_told_28 : decode cL_told 28 = .ok (.aload 4, 2) := by decide +kernel
theorem dL_told_30 : decode cL_told 30 = .ok (.iload 7, 2) := by decide +kernel
theorem dL_told_32 : decode cL_told 32 = .ok (.iaload, 1) := by decide +kernel
theorem dL_told_33 : decode cL_told 33 = .ok (.ifCond .ne 6, 3) := by decide +kernel
theorem dL_told_36 : decode cL_told 36 = .ok (.goto 145, 3) := by decide +kernel
theorem dL_told_39 : decode cL_told 39 = .ok (.iinc 5 1, 3) := by decide +kernel
theorem dL_told_42 : decode cL_told 42 = .ok (.ldc 58, 2) := by decide +kernel
theorem dL_told_44 : decode cL_told 44 = .ok (.astore 8, 2) := by decide +kernel
theorem dL_told_46 : decode cL_told 46 = .ok (.aload_n 2, 1) := by decide +kernel
theorem dL_told_47 : decode cL_told 47 = .ok (.iload_n 3, 1) := by decide +kernel
theorem dL_told_48 : decode cL_told 48 = .ok (.invokestatic 45, 3) := by decide +kernel
theorem dL_told_51 : decode cL_told 51 = .ok (.iload 7, 2) := by decide +kernel
theorem dL_told_53 : decode cL_told 53 = .ok (.iadd, 1) := by decide +kernel
theorem dL_told_54 : decode cL_told 54 = .ok (.aaload, 1) := by decide +kernel
theorem dL_told_55 : decode cL_told 55 = .ok (.astore 9, 2) := by decide +kernel
theorem dL_told_57 : decode cL_told 57 = .ok (.aload 9, 2) := by decide +kernel
theorem dL_told_59 : decode cL_told 59 = .ok (.arraylength, 1) := by decide +kernel
theorem dL_told_60 : decode cL_told 60 = .ok (.istore 10, 2) := by decide +kernel
theorem dL_told_62 : decode cL_told 62 = .ok (.iconst 0, 1) := by decide +kernel
theorem dL_told_63 : decode cL_told 63 = .ok (.istore 11, 2) := by decide +kernel
theorem dL_told_65 : decode cL_told 65 = .ok (.iload 11, 2) := by decide +kernel
theorem dL_told_67 : decode cL_told 67 = .ok (.iload 10, 2) := by decide +kernel
theorem dL_told_69 : decode cL_told 69 = .ok (.if_icmp .ge 38, 3) := by decide +kernel
theorem dL_told_72 : decode cL_told 72 = .ok (.aload 9, 2) := by decide +kernel
theorem dL_told_74 : decode cL_told 74 = .ok (.iload 11, 2) := by decide +kernel
theorem dL_told_76 : decode cL_told 76 = .ok (.iaload, 1) := by decide +kernel
theorem dL_told_77 : decode cL_told 77 = .ok (.istore 12, 2) := by decide +kernel
theorem dL_told_79 : decode cL_told 79 = .ok (.new 60, 3) := by decide +kernel
theorem dL_told_82 : decode cL_told 82 = .ok (.dup, 1) := by decide +kernel
theorem dL_told_83 : decode cL_told 83 = .ok (.invokespecial 62, 3) := by decide +kernel
theorem dL_told_86 : decode cL_told 86 = .ok (.aload 8, 2) := by decide +kernel
theorem dL_told_88 : decode cL_told 88 = .ok (.invokevirtual 63, 3) := by decide +kernel
theorem dL_told_91 : decode cL_told 91 = .ok (.iload 12, 2) := by decide +kernel
theorem dL_told_93 : decode cL_told 93 = .ok (.invokevirtual 67, 3) := by decide +kernel
theorem dL_told_96 : decode cL_told 96 = .ok (.invokevirtual 70, 3) := by decide +kernel
theorem dL_told_99 : decode cL_told 99 = .ok (.astore 8, 2) := by decide +kernel
theorem dL_told_101 : decode cL_told 101 = .ok (.iinc 11 1, 3) := by decide +kernel
theorem dL_told_104 : decode cL_told 104 = .ok (.goto (-39), 3) := by decide +kernel
theorem dL_told_107 : decode cL_told 107 = .ok (.new 60, 3) := by decide +kernel
theorem dL_told_110 : decode cL_told 110 = .ok (.dup, 1) := by decide +kernel
theorem dL_told_111 : decode cL_told 111 = .ok (.invokespecial 62, 3) := by decide +kernel
theorem dL_told_114 : decode cL_told 114 = .ok (.aload 6, 2) := by decide +kernel
theorem dL_told_116 : decode cL_told 116 = .ok (.invokevirtual 63, 3) := by decide +kernel
theorem dL_told_119 : decode cL_told 119 = .ok (.aload 4, 2) := by decide +kernel
theorem dL_told_121 : decode cL_told 121 = .ok (.iload 7, 2) := by decide +kernel
theorem dL_told_123 : decode cL_told 123 = .ok (.iaload, 1) := by decide +kernel
theorem dL_told_124 : decode cL_told 124 = .ok (.ifCond .ge 8, 3) := by decide +kernel
theorem dL_told_127 : decode cL_told 127 = .ok (.ldc 74, 2) := by decide +kernel
theorem dL_told_129 : decode cL_told 129 = .ok (.goto 18, 3) := by decide +kernel
theorem dL_told_132 : decode cL_told 132 = .ok (.aload 6, 2) := by decide +kernel
theorem dL_told_134 : decode cL_told 134 = .ok (.invokevirtual 76, 3) := by decide +kernel
theorem dL_told_137 : decode cL_told 137 = .ok (.ifCond .le 8, 3) := by decide +kernel
theorem dL_told_140 : decode cL_told 140 = .ok (.ldc 82, 2) := by decide +kernel
theorem dL_told_142 : decode cL_told 142 = .ok (.goto 5, 3) := by decide +kernel
theorem dL_told_145 : decode cL_told 145 = .ok (.ldc 58, 2) := by decide +kernel
theorem dL_told_147 : decode cL_told 147 = .ok (.invokevirtual 63, 3) := by decide +kernel
theorem dL_told_150 : decode cL_told 150 = .ok (.aload 4, 2) := by decide +kernel
theorem dL_told_152 : decode cL_told 152 = .ok (.iload 7, 2) := by decide +kernel
theorem dL_told_154 : decode cL_told 154 = .ok (.iaload, 1) := by decide +kernel
theorem dL_told_155 : decode cL_told 155 = .ok (.invokestatic 84, 3) := by decide +kernel
theorem dL_told_158 : decode cL_told 158 = .ok (.invokevirtual 67, 3) := by decide +kernel
theorem dL_told_161 : decode cL_told 161 = .ok (.ldc 87, 2) := by decide +kernel
theorem dL_told_163 : decode cL_told 163 = .ok (.invokevirtual 63, 3) := by decide +kernel
theorem dL_told_166 : decode cL_told 166 = .ok (.aload 8, 2) := by decide +kernel
theorem dL_told_168 : decode cL_told 168 = .ok (.invokevirtual 63, 3) := by decide +kernel
theorem dL_told_171 : decode cL_told 171 = .ok (.ldc 89, 2) := by decide +kernel
theorem dL_told_173 : decode cL_told 173 = .ok (.invokevirtual 63, 3) := by decide +kernel
theorem dL_told_176 : decode cL_told 176 = .ok (.invokevirtual 70, 3) := by decide +kernel
theorem dL_told_179 : decode cL_told 179 = .ok (.astore 6, 2) := by decide +kernel
theorem dL_told_181 : decode cL_told 181 = .ok (.iinc 7 1, 3) := by decide +kernel
theorem dL_told_184 : decode cL_told 184 = .ok (.goto (-164), 3) := by decide +kernel
theorem dL_told_187 : decode cL_told 187 = .ok (.iload 5, 2) := by decide +kernel
theorem dL_told_189 : decode cL_told 189 = .ok (.ifCond .ne 92, 3) := by decide +kernel
theorem dL_told_192 : decode cL_told 192 = .ok (.ldc 58, 2) := by decide +kernel
theorem dL_told_194 : decode cL_told 194 = .ok (.astore 7, 2) := by decide +kernel
theorem dL_told_196 : decode cL_told 196 = .ok (.aload_n 2, 1) := by decide +kernel
theorem dL_told_197 : decode cL_told 197 = .ok (.iload_n 3, 1) := by decide +kernel
theorem dL_told_198 : decode cL_told 198 = .ok (.invokestatic 45, 3) := by decide +kernel
theorem dL_told_201 : decode cL_told 201 = .ok (.aaload, 1) := by decide +kernel
theorem dL_told_202 : decode cL_told 202 = .ok (.astore 8, 2) := by decide +kernel
theorem dL_told_204 : decode cL_told 204 = .ok (.aload 8, 2) := by decide +kernel
theorem dL_told_206 : decode cL_told 206 = .ok (.arraylength, 1) := by decide +kernel
theorem dL_told_207 : decode cL_told 207 = .ok (.istore 9, 2) := by decide +kernel
theorem dL_told_209 : decode cL_told 209 = .ok (.iconst 0, 1) := by decide +kernel
theorem dL_told_210 : decode cL_told 210 = .ok (.istore 10, 2) := by decide +kernel
theorem dL_told_212 : decode cL_told 212 = .ok (.iload 10, 2) := by decide +kernel
theorem dL_told_214 : decode cL_told 214 = .ok (.iload 9, 2) := by decide +kernel
theorem dL_told_216 : decode cL_told 216 = .ok (.if_icmp .ge 38, 3) := by decide +kernel
theorem dL_told_219 : decode cL_told 219 = .ok (.aload 8, 2) := by decide +kernel
theorem dL_told_221 : decode cL_told 221 = .ok (.iload 10, 2) := by decide +kernel
theorem dL_told_223 : decode cL_told 223 = .ok (.iaload, 1) := by decide +kernel
theorem dL_told_224 : decode cL_told 224 = .ok (.istore 11, 2) := by decide +kernel
theorem dL_told_226 : decode cL_told 226 = .ok (.new 60, 3) := by decide +kernel
theorem dL_told_229 : decode cL_told 229 = .ok (.dup, 1) := by decide +kernel
theorem dL_told_230 : decode cL_told 230 = .ok (.invokespecial 62, 3) := by decide +kernel
theorem dL_told_233 : decode cL_told 233 = .ok (.aload 7, 2) := by decide +kernel
theorem dL_told_235 : decode cL_told 235 = .ok (.invokevirtual 63, 3) := by decide +kernel
theorem dL_told_238 : decode cL_told 238 = .ok (.iload 11, 2) := by decide +kernel
theorem dL_told_240 : decode cL_told 240 = .ok (.invokevirtual 67, 3) := by decide +kernel
theorem dL_told_243 : decode cL_told 243 = .ok (.invokevirtual 70, 3) := by decide +kernel
theorem dL_told_246 : decode cL_told 246 = .ok (.astore 7, 2) := by decide +kernel
theorem dL_told_248 : decode cL_told 248 = .ok (.iinc 10 1, 3) := by decide +kernel
theorem dL_told_251 : decode cL_told 251 = .ok (.goto (-39), 3) := by decide +kernel
theorem dL_told_254 : decode cL_told 254 = .ok (.new 60, 3) := by decide +kernel
theorem dL_told_257 : decode cL_told 257 = .ok (.dup, 1) := by decide +kernel
theorem dL_told_258 : decode cL_told 258 = .ok (.invokespecial 62, 3) := by decide +kernel
theorem dL_told_261 : decode cL_told 261 = .ok (.ldc 91, 2) := by decide +kernel
theorem dL_told_263 : decode cL_told 263 = .ok (.invokevirtual 63, 3) := by decide +kernel
theorem dL_told_266 : decode cL_told 266 = .ok (.aload 7, 2) := by decide +kernel
theorem dL_told_268 : decode cL_told 268 = .ok (.invokevirtual 63, 3) := by decide +kernel
theorem dL_told_271 : decode cL_told 271 = .ok (.ldc 89, 2) := by decide +kernel
theorem dL_told_273 : decode cL_told 273 = .ok (.invokevirtual 63, 3) := by decide +kernel
theorem dL_told_276 : decode cL_told 276 = .ok (.invokevirtual 70, 3) := by decide +kernel
theorem dL_told_279 : decode cL_told 279 = .ok (.astore 6, 2) := by decide +kernel
theorem dL_told_281 : decode cL_told 281 = .ok (.aload 6, 2) := by decide +kernel
theorem dL_told_283 : decode cL_told 283 = .ok (.invokevirtual 76, 3) := by decide +kernel
theorem dL_told_286 : decode cL_told 286 = .ok (.bipush 72, 2) := by decide +kernel
theorem dL_told_288 : decode cL_told 288 = .ok (.if_icmp .le 6, 3) := by decide +kernel
theorem dL_told_291 : decode cL_told 291 = .ok (.bipush (-2), 2) := by decide +kernel
theorem dL_told_293 : decode cL_told 293 = .ok (.ireturn, 1) := by decide +kernel
theorem dL_told_294 : decode cL_told 294 = .ok (.iconst 0, 1) := by decide +kernel
theorem dL_told_295 : decode cL_told 295 = .ok (.istore 7, 2) := by decide +kernel
theorem dL_told_297 : decode cL_told 297 = .ok (.iload 7, 2) := by decide +kernel
theorem dL_told_299 : decode cL_told 299 = .ok (.aload 6, 2) := by decide +kernel
theorem dL_told_301 : decode cL_told 301 = .ok (.invokevirtual 76, 3) := by decide +kernel
theorem dL_told_304 : decode cL_told 304 = .ok (.if_icmp .ge 30, 3) := by decide +kernel
theorem dL_told_307 : decode cL_told 307 = .ok (.aload_n 0, 1) := by decide +kernel
theorem dL_told_308 : decode cL_told 308 = .ok (.aload 6, 2) := by decide +kernel
theorem dL_told_310 : decode cL_told 310 = .ok (.iload 7, 2) := by decide +kernel
theorem dL_told_312 : decode cL_told 312 = .ok (.invokevirtual 93, 3) := by decide +kernel
theorem dL_told_315 : decode cL_told 315 = .ok (.invokevirtual 97, 3) := by decide +kernel
theorem dL_told_318 : decode cL_told 318 = .ok (.iload 7, 2) := by decide +kernel
theorem dL_told_320 : decode cL_told 320 = .ok (.iconst 1, 1) := by decide +kernel
theorem dL_told_321 : decode cL_told 321 = .ok (.iadd, 1) := by decide +kernel
theorem dL_told_322 : decode cL_told 322 = .ok (.if_icmp .eq 6, 3) := by decide +kernel
theorem dL_told_325 : decode cL_told 325 = .ok (.bipush (-3), 2) := by decide +kernel
theorem dL_told_327 : decode cL_told 327 = .ok (.ireturn, 1) := by decide +kernel
theorem dL_told_328 : decode cL_told 328 = .ok (.iinc 7 1, 3) := by decide +kernel
theorem dL_told_331 : decode cL_told 331 = .ok (.goto (-34), 3) := by decide +kernel
theorem dL_told_334 : decode cL_told 334 = .ok (.aload_n 0, 1) := by decide +kernel
theorem dL_told_335 : decode cL_told 335 = .ok (.iload_n 1, 1) := by decide +kernel
theorem dL_told_336 : decode cL_told 336 = .ok (.invokevirtual 100, 3) := by decide +kernel
theorem dL_told_339 : decode cL_told 339 = .ok (.iload 5, 2) := by decide +kernel
theorem dL_told_341 : decode cL_told 341 = .ok (.if_icmp .ne 8, 3) := by decide +kernel
theorem dL_told_344 : decode cL_told 344 = .ok (.iload 5, 2) := by decide +kernel
theorem dL_told_346 : decode cL_told 346 = .ok (.goto 5, 3) := by decide +kernel
theorem dL_told_349 : decode cL_told 349 = .ok (.bipush (-4), 2) := by decide +kernel
theorem dL_told_351 : decode cL_told 351 = .ok (.ireturn, 1) := by decide +kernel
theorem pk_L_told : xk_S yL_told cL_told 13 (some .int) 5 := ⟨mw_3_208, mw_1_0, mw_3_209, by decide +kernel⟩
theorem rw_lt : ∀ k, k < 67 → ∀ j, j < sl k → sc k j < 10 := by decide +kernel
theorem rwT_lt (k : Nat) (hk : k < 67) : ∀ c ∈ rwT k, c < 256 := by
  intro c hc
  obtain ⟨j, hj, rfl⟩ := List.mem_map.mp hc
  have := rw_lt k hk j (by simpa using hj)
  omega
theorem jdg_lt {x : Nat} (h : x < 100) : ∀ c ∈ jdg x, c < 256 := by
  intro c hc
  unfold jdg at hc
  split at hc
  · simp at hc; omega
  · simp at hc; omega
theorem sgT_lt (T : List Nat) (x : Int32) : ∀ c ∈ sgT T x, c < 256 := by
  intro c hc
  unfold sgT at hc
  split at hc
  · simp at hc; omega
  · split at hc
    · simp at hc
    · simp at hc; omega
theorem txP_lt (D0 : Nat) (f : Nat → Int32) : ∀ k, (∀ j, j < k → D0 + j < 67) → (∀ j, j < k → absN (f j) < 100) → ∀ c ∈ txP D0 f k, c < 256
  | 0, _, _, c, hc => by cases hc
  | k + 1, h1, h2, c, hc => by
    have ih := txP_lt D0 f k (fun j hj => h1 j (by omega)) (fun j hj => h2 j (by omega))
    have hc' : c ∈ (if f k = 0 then txP D0 f k else tmT (txP D0 f k) (f k) (D0 + k)) := hc
    split at hc'
    · exact ih c hc'
    · unfold tmT at hc'
      simp only [List.mem_append, List.mem_singleton] at hc'
      rcases hc' with ((((h | h) | h) | h) | h) | h
      · exact ih c h
      · exact sgT_lt _ _ c h
      · exact jdg_lt (h2 k (by omega)) c h
      · omega
      · exact rwT_lt _ (h1 k (by omega)) c h
      · omega
theorem txF_lt (n : Nat) (f : Nat → Int32) (hD : qz_D n + qz_N n ≤ 45) (hN : 0 < qz_N n) (hf : ∀ p, p < qz_N n → absN (f p) < 100) : ∀ c ∈ txF n f, c < 256 := by
  intro c hc
  unfold txF at hc
  split at hc
  · simp only [List.mem_append, List.mem_cons, List.not_mem_nil, or_false] at hc
    rcases hc with ((h | h) | h) | h
    · omega
    · omega
    · exact rwT_lt _ (by omega) c h
    · omega
  · exact txP_lt _ f _ (fun j hj => by omega) hf c hc
theorem txF_le (n : Nat) (f : Nat → Int32) (hs : ∀ j, j < 67 → sl j ≤ 8) (hD : qz_D n + qz_N n ≤ 45) (hN : 0 < qz_N n) (h4 : tmN f (qz_N n) ≤ 4) : (txF n f).length ≤ 52 := by
  unfold txF
  split
  · simp only [List.length_append, rwT_len, List.length_cons, List.length_nil]
    have := hs (qz_D n) (by omega)
    omega
  · have := txP_le (qz_D n) f (qz_N n) (fun j hj => hs _ (by omega))
    omega
theorem tk_one (T : List Nat) (k : Nat) (h : k < T.length) : T.take k ++ [T.getD k 0] = T.take (k + 1) := by
  rw [List.take_succ, List.getD, List.getElem?_eq_getElem h]
  rfl
def rwP (K : Nat) (r : Nat) : List Nat := (List.range r).map (fun j => 48 + sc K j)
theorem rwP_s (K r : Nat) (h : sc K r < 10) : rwP K r ++ jdg (sc K r) = rwP K (r + 1) := by
  unfold rwP jdg
  rw [if_pos h, List.range_succ, List.map_append]
  rfl
theorem rwP_len (K r : Nat) : (rwP K r).length = r := by unfold rwP; simp
set_option maxHeartbeats 16000000 in
set_option maxRecDepth 20000 in
theorem c_L_told (l : Launch) (D : va_G) (cyI cyJ cyB cyQ : ClassId) (G a g kk kv B : Nat → Nat) (al v n s0 sz : Nat) (fv : Nat → Int32) (σ : CS) (S : Nat → SV) (hR : Rc σ S []) (hs : s0 < 4) (hn : n < 8) (hf : ∀ p, p < qz_N n → -20 ≤ (fv p).toInt ∧ (fv p).toInt ≤ 20) (h4 : tmN fv (qz_N n) ≤ 4) : ym_i (S := CS) l yL_told (Cond.code yL_told cL_told 13 (some .int) :: xg_tbl) { frames := 8, cells := 1030, slots := 135000, locals := 260 } D xcl (ytys cyI cyJ cyB cyQ) (fun A U H => xs_T G A U H ∧ (ZA al B A U H ∧ (ZJ g A U H ∧ (ZK kk kv A U H ∧ ZI v (qz_N n) fv A U H)))) sz [.ref (a 0), .int (nI s0), .ref al, .int (nI n), .ref v] (wdS a cyI cyJ σ) (fun r u => r = nI (tmN fv (qz_N n)) ∧ Rc u (upS S s0 (some (n, cutF n fv))) []) (fun u => wdS a cyI cyJ u) 1030 135000 := by
  obtain ⟨hD1, hD2, hD3⟩ := D_small n hn
  have hN1 : 0 < qz_N n := by show 0 < qz_D (n + 1) - qz_D n; omega
  have hN2 : qz_N n ≤ 15 := hD2
  have hN3 : qz_D n + qz_N n ≤ 45 := by show qz_D n + (qz_D (n + 1) - qz_D n) ≤ 45; omega
  have habs : ∀ p, p < qz_N n → absN (fv p) < 100 := fun p hp => by have := (abs_ok (hf p hp).1 (hf p hp).2).1; omega
  have hle := txF_le n fv sl_small hN3 hN1 h4
  refine ym_of (own := RL) (by decide) rfl rfl (Nat.le_of_ble_eq_true rfl) ?_
  intro p0 e s m args below meth c ls Q A H hQ hAe hH hin Cx hsz hP hD hS hl
  have Cx1 := Cx
  obtain ⟨⟨hx, hb, hml, hown, hts⟩, hr, hlocks, hK, hA, hT⟩ := Cx1
  have hl : lv_has ls 13 [(0, .ref (a 0)), (1, .int (nI s0)), (2, .ref al), (3, .int (nI n)), (4, .ref v)] := hl
  have hP : va_P D xcl (wdS a cyI cyJ σ ++ []) H := by rw [List.append_nil]; exact hP
  have hD : va_D A (wdS a cyI cyJ σ ++ []) := by rw [List.append_nil]; exact hD
  refine lv_aload_n hx hb dL_told_0 rfl (lv_at hl 0 rfl) ?_
  refine lv_iload_n hx hb dL_told_1 rfl (lv_at hl 1 rfl) ?_
  obtain ⟨σ1, r1, hR1, hr1, hM1⟩ := mm_clear l D cyI cyJ G a H.size hR hs
  refine yr_i Cx hP hD hS (yq_front (S := Unit) (wdS a cyI cyJ σ) ([]) (fun _ => wdS a cyI cyJ σ1) 28 (fun _ => rfl)) (yx_V (n := 1) (As := [.int (nI s0)]) (rest := []) Cx hP hD hS hl (yq_front (S := Unit) (wdS a cyI cyJ σ) ([]) (fun _ => wdS a cyI cyJ σ1) 28 (fun _ => rfl)) (y_K2 hK) (fz_xs G) (fun hF => (fz_give (fz_xs G) hT.1 hS hF)) (ym_xi hM1) pk_X9_clear mw_3_6 ⟨rfl, rfl, Nat.le_of_ble_eq_true rfl, Nat.le_of_ble_eq_true rfl⟩ (va_recv (ci := 9) hK hP rfl (q0 := 0) rfl) rfl rfl (Nat.le_of_ble_eq_true rfl) ⟨Nat.le_of_ble_eq_true rfl, Nat.le_of_ble_eq_true rfl⟩ dL_told_2) (fun r_1 u_1 H locs hp hP hD hS => ?_)
  have hP : va_P D xcl (wdS a cyI cyJ σ1 ++ []) H := hP
  have hD : va_D A (wdS a cyI cyJ σ1 ++ []) := hD
  rw [show r_1 = r1 from hp]
  refine lv_if_ge (tgt := 10) hx hb dL_told_5 (by decide) (fun _ => ?_) (fun hc => absurd (Int32.not_lt.mp hr1) hc)
  refine lv_iconst (v := (0 : Int32)) hx hb dL_told_10 (by decide) ?_
  refine lv_istore (lv' := [(5, .int (0 : Int32)), (0, .ref (a 0)), (1, .int (nI s0)), (2, .ref al), (3, .int (nI n)), (4, .ref v)]) hx hb dL_told_11 hl (by decide) rfl (fun ls hl => ?_)
  refine va_ldcS hx hb hown (hT.2.2.2.1 0 (by decide)).2 dL_told_13 ?_
  refine lv_astore (lv' := [(6, .ref (kk 0)), (5, .int (0 : Int32)), (0, .ref (a 0)), (1, .int (nI s0)), (2, .ref al), (3, .int (nI n)), (4, .ref v)]) hx hb dL_told_15 hl (by decide) rfl (fun ls hl => ?_)
  refine lv_iconst (v := (0 : Int32)) hx hb dL_told_17 (by decide) ?_
  refine lv_istore (lv' := [(7, .int (0 : Int32)), (6, .ref (kk 0)), (5, .int (0 : Int32)), (0, .ref (a 0)), (1, .int (nI s0)), (2, .ref al), (3, .int (nI n)), (4, .ref v)]) hx hb dL_told_18 hl (by decide) rfl (fun ls hl => ?_)
  have w_281 : ∀ (E : va_W) (t : Nat) (H : Heap) (locs : List Loc) (ls : Array Slot), SOK cyB E (kk 0) t (txF n fv) → va_P D xcl (wdS a cyI cyJ σ1 ++ E) H → va_D A (wdS a cyI cyJ σ1 ++ E) → va_S A s.heap H locs → lv_has ls 13 [(6, .ref t), (5, .int (nI (tmN fv (qz_N n)))), (0, .ref (a 0)), (1, .int (nI s0)), (2, .ref al), (3, .int (nI n)), (4, .ref v)] → W p0 l e { frames := 8, cells := 1030, slots := 135000, locals := 260 } s m args below meth c H locs (1000) (130000) Q (F0 m 281 ls []) := by
    intro E t H locs ls hsok hP hD hS hl
    refine lv_aload hx hb dL_told_281 (lv_at hl 0 rfl) ?_
    obtain ⟨v_2, hz_3⟩ := sok_give (wc := []) (C := wdS a cyI cyJ σ1) (E := E) hts hK hP hD hS hA (hT.2.2.2.1 0 (by decide)).1 hsok
    refine yr_i Cx hP hD hS (yq_none (S := Unit) (wdS a cyI cyJ σ1 ++ E)) (yx_V (n := 0) (As := []) (rest := []) Cx hP hD hS hl (yq_none (S := Unit) (wdS a cyI cyJ σ1 ++ E)) hK (fz_and (fz_ZJ g) (fz_ZS t v_2 (txF n fv).length (tf (txF n fv)))) (fun hF => ⟨fz_give (fz_ZJ g) hT.2.2.1 hS hF, hz_3⟩) (c_J0_length_8abf5 l D cyI cyJ cyB cyQ g H.size t v_2 (txF n fv).length (tf (txF n fv))) pk_J0_length_8abf5 mw_4_203 ⟨rfl, rfl, Nat.le_of_ble_eq_true rfl, Nat.le_of_ble_eq_true rfl⟩ (y_recvO hz_3.1) rfl rfl (Nat.le_of_ble_eq_true rfl) ⟨(show (1000) + 0 ≤ (1030 : Nat) by omega), (show (130000) + 0 ≤ (135000 : Nat) by omega)⟩ dL_told_283) (fun r_2 u_4 H locs hp hP hD hS => ?_)
    have hP : va_P D xcl (wdS a cyI cyJ σ1 ++ E) H := hP
    have hD : va_D A (wdS a cyI cyJ σ1 ++ E) := hD
    rw [show r_2 = nI (txF n fv).length from hp]
    refine lv_bipush (v := (72 : Int32)) hx hb dL_told_286 (by decide) ?_
    refine lv_icmp_le (tgt := 294) hx hb dL_told_288 (by decide) (fun _ => ?_) (fun hc => absurd (show nI (txF n fv).length ≤ (72 : Int32) from nI_le (b := 72) (by omega) (by decide)) hc)
    refine lv_iconst (v := (0 : Int32)) hx hb dL_told_294 (by decide) ?_
    refine lv_istore (lv' := [(7, .int (0 : Int32)), (6, .ref t), (5, .int (nI (tmN fv (qz_N n)))), (0, .ref (a 0)), (1, .int (nI s0)), (2, .ref al), (3, .int (nI n)), (4, .ref v)]) hx hb dL_told_295 hl (by decide) rfl (fun ls hl => ?_)
    have w_297 : ∀ (d k : Nat) (τ : CS) (H : Heap) (locs : List Loc) (ls : Array Slot), k + d = (txF n fv).length → Rc τ (upS S s0 none) ((txF n fv).take k) → va_P D xcl (wdS a cyI cyJ τ ++ E) H → va_D A (wdS a cyI cyJ τ ++ E) → va_S A s.heap H locs → lv_has ls 13 [(7, .int (nI k)), (6, .ref t), (5, .int (nI (tmN fv (qz_N n)))), (0, .ref (a 0)), (1, .int (nI s0)), (2, .ref al), (3, .int (nI n)), (4, .ref v)] → W p0 l e { frames := 8, cells := 1030, slots := 135000, locals := 260 } s m args below meth c H locs (1000) (130000) Q (F0 m 297 ls []) := by
      intro d
      induction d with
      | zero =>
        intro k τ H locs ls hk hRk hP hD hS hl
        refine lv_iload hx hb dL_told_297 (lv_at hl 0 rfl) ?_
        refine lv_aload hx hb dL_told_299 (lv_at hl 1 rfl) ?_
        obtain ⟨v_5, hz_6⟩ := sok_give (wc := []) (C := wdS a cyI cyJ τ) (E := E) hts hK hP hD hS hA (hT.2.2.2.1 0 (by decide)).1 hsok
        refine yr_i Cx hP hD hS (yq_none (S := Unit) (wdS a cyI cyJ τ ++ E)) (yx_V (n := 0) (As := []) (rest := [.int (nI k)]) Cx hP hD hS hl (yq_none (S := Unit) (wdS a cyI cyJ τ ++ E)) hK (fz_and (fz_ZJ g) (fz_ZS t v_5 (txF n fv).length (tf (txF n fv)))) (fun hF => ⟨fz_give (fz_ZJ g) hT.2.2.1 hS hF, hz_6⟩) (c_J0_length_8abf5 l D cyI cyJ cyB cyQ g H.size t v_5 (txF n fv).length (tf (txF n fv))) pk_J0_length_8abf5 mw_4_203 ⟨rfl, rfl, Nat.le_of_ble_eq_true rfl, Nat.le_of_ble_eq_true rfl⟩ (y_recvO hz_6.1) rfl rfl (Nat.le_of_ble_eq_true rfl) ⟨(show (1000) + 0 ≤ (1030 : Nat) by omega), (show (130000) + 0 ≤ (135000 : Nat) by omega)⟩ dL_told_301) (fun r_3 u_7 H locs hp hP hD hS => ?_)
        have hP : va_P D xcl (wdS a cyI cyJ τ ++ E) H := hP
        have hD : va_D A (wdS a cyI cyJ τ ++ E) := hD
        rw [show r_3 = nI (txF n fv).length from hp]
        refine lv_icmp_ge (tgt := 334) hx hb dL_told_304 (by decide) (fun _ => ?_) (fun hc => absurd (nI_le (by omega) (by omega)) hc)
        refine lv_aload_n hx hb dL_told_334 rfl (lv_at hl 3 rfl) ?_
        refine lv_iload_n hx hb dL_told_335 rfl (lv_at hl 4 rfl) ?_
        have hRk : Rc τ (upS S s0 none) (txF n fv) := by rw [List.take_of_length_le (by omega)] at hRk; exact hRk
        obtain ⟨σ3, hR3, hM3⟩ := mm_reads l D cyI cyJ G a H.size hRk hs hn hf h4
        refine yr_i Cx hP hD hS (yq_front (S := Unit) (wdS a cyI cyJ τ) E (fun _ => wdS a cyI cyJ σ3) 28 (fun _ => rfl)) (yx_V (n := 1) (As := [.int (nI s0)]) (rest := []) Cx hP hD hS hl (yq_front (S := Unit) (wdS a cyI cyJ τ) E (fun _ => wdS a cyI cyJ σ3) 28 (fun _ => rfl)) (y_K2 hK) (fz_xs G) (fun hF => (fz_give (fz_xs G) hT.1 hS hF)) (ym_xi hM3) pk_X9_reads mw_5_11 ⟨rfl, rfl, Nat.le_of_ble_eq_true rfl, Nat.le_of_ble_eq_true rfl⟩ (va_recv (ci := 9) hK hP rfl (q0 := 0) rfl) rfl rfl (Nat.le_of_ble_eq_true rfl) ⟨(show (1000) + 0 ≤ (1030 : Nat) by omega), (show (130000) + 0 ≤ (135000 : Nat) by omega)⟩ dL_told_336) (fun r_4 u_8 H locs hp hP hD hS => ?_)
        have hP : va_P D xcl (wdS a cyI cyJ σ3 ++ E) H := hP
        have hD : va_D A (wdS a cyI cyJ σ3 ++ E) := hD
        rw [show r_4 = nI (tmN fv (qz_N n)) from hp]
        refine lv_iload hx hb dL_told_339 (lv_at hl 2 rfl) ?_
        refine lv_icmp_ne (tgt := 349) hx hb dL_told_341 (by decide) (fun hc => absurd (show nI (tmN fv (qz_N n)) = nI (tmN fv (qz_N n)) from rfl) hc) (fun _ => ?_)
        refine lv_iload hx hb dL_told_344 (lv_at hl 2 rfl) ?_
        refine lv_goto (tgt := 351) hx hb dL_told_346 (by decide) ?_
        refine W.widen (k := 1030) (n := 135000) (by omega) (by omega) ?_
        have hP := (y_sub hP hD (List.sublist_append_left (wdS a cyI cyJ σ3) E)).1
        have eU : upS (upS S s0 none) s0 (some (n, cutF n fv)) = upS S s0 (some (n, cutF n fv)) := by funext j; unfold upS; split <;> rfl
        rw [eU] at hR3
        have hD := y_D_iff.mpr ⟨((y_D_iff.mp hD).1.sublist ((List.sublist_append_left (wdS a cyI cyJ σ3) E).map _)), fun x hx => (y_D_iff.mp hD).2 x (List.mem_append_left _ hx)⟩
        subst hAe
        rw [← hQ]
        exact ye_iret (post := (fun r u => r = nI (tmN fv (qz_N n)) ∧ Rc u (upS S s0 (some (n, cutF n fv))) [])) (w1 := (fun u => wdS a cyI cyJ u)) σ3 Cx ⟨rfl, hR3⟩ rfl hP hD hS dL_told_351
      | succ d ihd =>
        intro k τ H locs ls hk hRk hP hD hS hl
        refine lv_iload hx hb dL_told_297 (lv_at hl 0 rfl) ?_
        refine lv_aload hx hb dL_told_299 (lv_at hl 1 rfl) ?_
        obtain ⟨v_9, hz_10⟩ := sok_give (wc := []) (C := wdS a cyI cyJ τ) (E := E) hts hK hP hD hS hA (hT.2.2.2.1 0 (by decide)).1 hsok
        refine yr_i Cx hP hD hS (yq_none (S := Unit) (wdS a cyI cyJ τ ++ E)) (yx_V (n := 0) (As := []) (rest := [.int (nI k)]) Cx hP hD hS hl (yq_none (S := Unit) (wdS a cyI cyJ τ ++ E)) hK (fz_and (fz_ZJ g) (fz_ZS t v_9 (txF n fv).length (tf (txF n fv)))) (fun hF => ⟨fz_give (fz_ZJ g) hT.2.2.1 hS hF, hz_10⟩) (c_J0_length_8abf5 l D cyI cyJ cyB cyQ g H.size t v_9 (txF n fv).length (tf (txF n fv))) pk_J0_length_8abf5 mw_4_203 ⟨rfl, rfl, Nat.le_of_ble_eq_true rfl, Nat.le_of_ble_eq_true rfl⟩ (y_recvO hz_10.1) rfl rfl (Nat.le_of_ble_eq_true rfl) ⟨(show (1000) + 0 ≤ (1030 : Nat) by omega), (show (130000) + 0 ≤ (135000 : Nat) by omega)⟩ dL_told_301) (fun r_3 u_11 H locs hp hP hD hS => ?_)
        have hP : va_P D xcl (wdS a cyI cyJ τ ++ E) H := hP
        have hD : va_D A (wdS a cyI cyJ τ ++ E) := hD
        rw [show r_3 = nI (txF n fv).length from hp]
        refine lv_icmp_ge (tgt := 334) hx hb dL_told_304 (by decide) (fun hc => absurd hc (nI_ge (by omega) (by omega))) (fun _ => ?_)
        refine lv_aload_n hx hb dL_told_307 rfl (lv_at hl 3 rfl) ?_
        refine lv_aload hx hb dL_told_308 (lv_at hl 1 rfl) ?_
        refine lv_iload hx hb dL_told_310 (lv_at hl 0 rfl) ?_
        have hch : ((txF n fv).getD k 0) < 256 := by have h9 : ((txF n fv).getD k 0) = (txF n fv)[k]'(by omega) := (by simp [List.getD, List.getElem?_eq_getElem (show k < (txF n fv).length by omega)]); rw [h9]; exact txF_lt n fv hN3 hN1 habs _ (List.getElem_mem _)
        obtain ⟨v_12, hz_13⟩ := sok_give (wc := []) (C := wdS a cyI cyJ τ) (E := E) hts hK hP hD hS hA (hT.2.2.2.1 0 (by decide)).1 hsok
        refine yr_i Cx hP hD hS (yq_none (S := Unit) (wdS a cyI cyJ τ ++ E)) (yx_V (n := 1) (As := [.int (nI k)]) (rest := [.ref (a 0)]) Cx hP hD hS hl (yq_none (S := Unit) (wdS a cyI cyJ τ ++ E)) hK (fz_and (fz_ZJ g) (fz_ZS t v_12 (txF n fv).length (tf (txF n fv)))) (fun hF => ⟨fz_give (fz_ZJ g) hT.2.2.1 hS hF, hz_13⟩) (c_J0_charAt_5068e l D cyI cyJ cyB cyQ g H.size t v_12 (txF n fv).length (tf (txF n fv)) k ((txF n fv).getD k 0) (by omega) (by omega) hch rfl) pk_J0_charAt_5068e mw_4_211 ⟨rfl, rfl, Nat.le_of_ble_eq_true rfl, Nat.le_of_ble_eq_true rfl⟩ (y_recvO hz_13.1) rfl rfl (Nat.le_of_ble_eq_true rfl) ⟨(show (1000) + 0 ≤ (1030 : Nat) by omega), (show (130000) + 0 ≤ (135000 : Nat) by omega)⟩ dL_told_312) (fun r_4 u_14 H locs hp hP hD hS => ?_)
        have hP : va_P D xcl (wdS a cyI cyJ τ ++ E) H := hP
        have hD : va_D A (wdS a cyI cyJ τ ++ E) := hD
        rw [show r_4 = nI ((txF n fv).getD k 0) from hp]
        have hlk : ((txF n fv).take k).length = k := by rw [List.length_take]; omega
        obtain ⟨τ2, hR2, hM2⟩ := mm_letter l D cyI cyJ G a H.size hRk (by omega) hch
        refine yr_i Cx hP hD hS (yq_front (S := Unit) (wdS a cyI cyJ τ) E (fun _ => wdS a cyI cyJ τ2) 28 (fun _ => rfl)) (yx_V (n := 1) (As := [.int (nI ((txF n fv).getD k 0))]) (rest := []) Cx hP hD hS hl (yq_front (S := Unit) (wdS a cyI cyJ τ) E (fun _ => wdS a cyI cyJ τ2) 28 (fun _ => rfl)) (y_K2 hK) (fz_xs G) (fun hF => (fz_give (fz_xs G) hT.1 hS hF)) (ym_xi hM2) pk_X9_letter mw_4_235 ⟨rfl, rfl, Nat.le_of_ble_eq_true rfl, Nat.le_of_ble_eq_true rfl⟩ (va_recv (ci := 9) hK hP rfl (q0 := 0) rfl) rfl rfl (Nat.le_of_ble_eq_true rfl) ⟨(show (1000) + 0 ≤ (1030 : Nat) by omega), (show (130000) + 0 ≤ (135000 : Nat) by omega)⟩ dL_told_315) (fun r_5 u_15 H locs hp hP hD hS => ?_)
        have hP : va_P D xcl (wdS a cyI cyJ τ2 ++ E) H := hP
        have hD : va_D A (wdS a cyI cyJ τ2 ++ E) := hD
        rw [show r_5 = nI (k + 1) from hp.trans (by rw [hlk])]
        refine lv_iload hx hb dL_told_318 (lv_at hl 0 rfl) ?_
        refine lv_iconst (v := (1 : Int32)) hx hb dL_told_320 (by decide) ?_
        refine lv_iadd hx hb dL_told_321 ?_
        rw [nI_1 k]
        refine lv_icmp_eq (tgt := 328) hx hb dL_told_322 (by decide) (fun _ => ?_) (fun hc => absurd rfl hc)
        refine lv_iinc (v := ((nI k) + (1 : Int32))) (lv' := [(7, .int ((nI k) + (1 : Int32))), (6, .ref t), (5, .int (nI (tmN fv (qz_N n)))), (0, .ref (a 0)), (1, .int (nI s0)), (2, .ref al), (3, .int (nI n)), (4, .ref v)]) hx hb dL_told_328 hl (k := 0) rfl rfl (by decide) rfl (fun ls hl => ?_)
        refine lv_goto (tgt := 297) hx hb dL_told_331 (by decide) ?_
        rw [show ((nI k) + (1 : Int32)) = (nI (k + 1)) from (nI_1 k)] at hl
        rw [tk_one _ _ (show k < (txF n fv).length by omega)] at hR2
        exact ihd (k + 1) τ2 H _ ls (by omega) hR2 hP hD hS (lv_sub hl [0, 1, 2, 3, 4, 5, 6, 7] rfl)
    exact w_297 (txF n fv).length 0 σ1 H _ ls (by omega) hR1 hP hD hS (lv_sub hl [0, 1, 2, 3, 4, 5, 6, 7] rfl)
  have w_20 : ∀ (d k : Nat) (E : va_W) (t : Nat) (H : Heap) (locs : List Loc) (ls : Array Slot), k + d = qz_N n → SOK cyB E (kk 0) t (txP (qz_D n) fv k) → va_P D xcl (wdS a cyI cyJ σ1 ++ E) H → va_D A (wdS a cyI cyJ σ1 ++ E) → va_S A s.heap H locs → lv_has ls 13 [(7, .int (nI k)), (6, .ref t), (5, .int (nI (tmN fv k))), (0, .ref (a 0)), (1, .int (nI s0)), (2, .ref al), (3, .int (nI n)), (4, .ref v)] → W p0 l e { frames := 8, cells := 1030, slots := 135000, locals := 260 } s m args below meth c H locs (60 * k) (7800 * k) Q (F0 m 20 ls []) := by
    intro d
    induction d with
    | zero =>
      intro k E t H locs ls hk hsok hP hD hS hl
      obtain rfl : k = qz_N n := by omega
      refine lv_iload hx hb dL_told_20 (lv_at hl 0 rfl) ?_
      refine lv_aload hx hb dL_told_22 (lv_at hl 7 rfl) ?_
      refine yf_len hx hb (va_T.kept hT.2.2.2.2 hS.2.1) dL_told_24 ?_
      refine lv_icmp_ge (tgt := 187) hx hb dL_told_25 (by decide) (fun _ => ?_) (fun hc => absurd (Int32.le_refl _) hc)
      refine lv_iload hx hb dL_told_187 (lv_at hl 2 rfl) ?_
      refine lv_if_ne (tgt := 281) hx hb dL_told_189 (by decide) (fun hc => ?_) (fun hc => ?_)
      · have hne : ¬ (tmN fv (qz_N n)) = 0 := fun h9 => hc (by rw [h9]; rfl)
        have eT : txP (qz_D n) fv (qz_N n) = txF n fv := (if_neg hne).symm
        rw [eT] at hsok
        refine W.widen (k := 1000) (n := 130000) (by omega) (by omega) ?_
        exact w_281 E t H _ ls hsok hP hD hS (lv_sub hl [1, 2, 3, 4, 5, 6, 7] rfl)
      · have he0 : (tmN fv (qz_N n)) = 0 := (nI_eq (b := 0) (by omega) (by decide)).mp hc
        refine va_ldcS hx hb hown (hT.2.2.2.1 0 (by decide)).2 dL_told_192 ?_
        refine lv_astore (lv' := [(7, .ref (kk 0)), (6, .ref t), (5, .int (nI (tmN fv (qz_N n)))), (0, .ref (a 0)), (1, .int (nI s0)), (2, .ref al), (3, .int (nI n)), (4, .ref v)]) hx hb dL_told_194 hl (by decide) rfl (fun ls hl => ?_)
        refine lv_aload_n hx hb dL_told_196 rfl (lv_at hl 5 rfl) ?_
        refine lv_iload_n hx hb dL_told_197 rfl (lv_at hl 6 rfl) ?_
        refine yr_i Cx hP hD hS (yq_none (S := Unit) (wdS a cyI cyJ σ1 ++ E)) (yx_S (n := 1) (As := [.int (nI n)]) (rest := [.ref al]) Cx hP hD hS hl (yq_none (S := Unit) (wdS a cyI cyJ σ1 ++ E)) hK fz_0 (fun hF => trivial) (c_L_first l D cyI cyJ cyB cyQ H.size n (by omega)) pk_L_first mw_3_176 ⟨rfl, rfl, Nat.le_of_ble_eq_true rfl, Nat.le_of_ble_eq_true rfl⟩ rfl rfl (Nat.le_of_ble_eq_true rfl) ⟨(show (60 * qz_N n) + 1 ≤ (1030 : Nat) by omega), (show (7800 * qz_N n) + 10 ≤ (135000 : Nat) by omega)⟩ dL_told_198) (fun r_2 u_16 H locs hp hP hD hS => ?_)
        have hP : va_P D xcl (wdS a cyI cyJ σ1 ++ E) H := hP
        have hD : va_D A (wdS a cyI cyJ σ1 ++ E) := hD
        rw [hp]
        refine yf_qld hx hb (va_T.kept hT.2.1.1 hS.2.1) rfl (vp_in_nI (by omega) (by omega)) dL_told_201 ?_
        rw [nI_clamp (by omega)]
        refine lv_astore (lv' := [(8, .ref (B (qz_D n))), (7, .ref (kk 0)), (6, .ref t), (5, .int (nI (tmN fv (qz_N n)))), (0, .ref (a 0)), (1, .int (nI s0)), (2, .ref al), (3, .int (nI n)), (4, .ref v)]) hx hb dL_told_202 hl (by decide) rfl (fun ls hl => ?_)
        refine lv_aload hx hb dL_told_204 (lv_at hl 0 rfl) ?_
        refine yf_len hx hb (va_T.kept (hT.2.1.2 (qz_D n) (by omega)) hS.2.1) dL_told_206 ?_
        refine lv_istore (lv' := [(9, .int (nI (sl (qz_D n)))), (8, .ref (B (qz_D n))), (7, .ref (kk 0)), (6, .ref t), (5, .int (nI (tmN fv (qz_N n)))), (0, .ref (a 0)), (1, .int (nI s0)), (2, .ref al), (3, .int (nI n)), (4, .ref v)]) hx hb dL_told_207 hl (by decide) rfl (fun ls hl => ?_)
        refine lv_iconst (v := (0 : Int32)) hx hb dL_told_209 (by decide) ?_
        refine lv_istore (lv' := [(10, .int (0 : Int32)), (9, .int (nI (sl (qz_D n)))), (8, .ref (B (qz_D n))), (7, .ref (kk 0)), (6, .ref t), (5, .int (nI (tmN fv (qz_N n)))), (0, .ref (a 0)), (1, .int (nI s0)), (2, .ref al), (3, .int (nI n)), (4, .ref v)]) hx hb dL_told_210 hl (by decide) rfl (fun ls hl => ?_)
        have hs8 := sl_small (qz_D n) (by omega)
        have w_212 : ∀ (d2 r : Nat) (E2 : va_W) (rr : Nat) (H : Heap) (locs : List Loc) (ls : Array Slot), r + d2 = sl (qz_D n) → SOK cyB E2 (kk 0) rr (rwP (qz_D n) r) → va_P D xcl (wdS a cyI cyJ σ1 ++ E2) H → va_D A (wdS a cyI cyJ σ1 ++ E2) → va_S A s.heap H locs → lv_has ls 13 [(10, .int (nI r)), (9, .int (nI (sl (qz_D n)))), (8, .ref (B (qz_D n))), (7, .ref rr), (5, .int (nI (tmN fv (qz_N n)))), (0, .ref (a 0)), (1, .int (nI s0)), (2, .ref al), (3, .int (nI n)), (4, .ref v)] → W p0 l e { frames := 8, cells := 1030, slots := 135000, locals := 260 } s m args below meth c H locs ((60 * qz_N n + 1) + 6 * r) ((7800 * qz_N n + 10) + 750 * r) Q (F0 m 212 ls []) := by
          intro d2
          induction d2 with
          | zero =>
            intro r E2 rr H locs ls hr hrr  hP hD hS hl
            obtain rfl : r = sl (qz_D n) := by omega
            have hrr : SOK cyB E2 (kk 0) rr (rwT (qz_D n)) := hrr
            refine lv_iload hx hb dL_told_212 (lv_at hl 0 rfl) ?_
            refine lv_iload hx hb dL_told_214 (lv_at hl 1 rfl) ?_
            refine lv_icmp_ge (tgt := 254) hx hb dL_told_216 (by decide) (fun _ => ?_) (fun hc => absurd (Int32.le_refl _) hc)
            have hs8 := sl_small (qz_D n) (by omega)
            refine va_new (ci := 11) (fs := [.null, .int 0, .int 0, .int 0]) (C := RJ4) (T := TJ4) (N := 4) hx hb hts wJ4_in tyJ4 tyJ4_ok hown (hts _ mw_3_211) (hts _ mw_3_212) (hts _ mw_1_15) hK hP hD hS hA rfl (fun j hj => by rcases (show j = 0 ∨ j = 1 ∨ j = 2 ∨ j = 3 by omega) with rfl | rfl | rfl | rfl <;> rfl) (show ((60 * qz_N n + 1) + 6 * sl (qz_D n)) + 1 ≤ (1030 : Nat) by omega) (show ((7800 * qz_N n + 10) + 750 * sl (qz_D n)) + 4 ≤ (135000 : Nat) by omega) dL_told_254 (fun q_17 H hP hD hS => ?_)
            have hPD : va_P D xcl ([((q_17, .inr (11, [.null, .int (0 : Int32), .int (0 : Int32), .int (0 : Int32)])) : Nat × va_E)] ++ (wdS a cyI cyJ σ1 ++ E2)) H ∧ va_D A ([((q_17, .inr (11, [.null, .int (0 : Int32), .int (0 : Int32), .int (0 : Int32)])) : Nat × va_E)] ++ (wdS a cyI cyJ σ1 ++ E2)) := y_perm hP hD List.perm_append_comm
            obtain ⟨hP, hD⟩ := hPD
            refine lv_dup hx hb dL_told_257 rfl ?_
            refine yr_v Cx hP hD hS (yq_front (S := Nat) [((q_17, .inr (11, [.null, .int (0 : Int32), .int (0 : Int32), .int (0 : Int32)])) : Nat × va_E)] (wdS a cyI cyJ σ1 ++ E2) (fun u_18 => [((q_17, .inr (11, [.ref u_18, .int (0 : Int32), .int (0 : Int32), .int (0 : Int32)])) : Nat × va_E), ((u_18, .inl (cyB, 16, .inl (fun _ => (0 : Int32)))) : Nat × va_E)]) 2 (fun _ => rfl)) (yx_I (n := 0) (As := []) (rest := [.ref q_17]) Cx hP hD hS hl (yq_front (S := Nat) [((q_17, .inr (11, [.null, .int (0 : Int32), .int (0 : Int32), .int (0 : Int32)])) : Nat × va_E)] (wdS a cyI cyJ σ1 ++ E2) (fun u_18 => [((q_17, .inr (11, [.ref u_18, .int (0 : Int32), .int (0 : Int32), .int (0 : Int32)])) : Nat × va_E), ((u_18, .inl (cyB, 16, .inl (fun _ => (0 : Int32)))) : Nat × va_E)]) 2 (fun _ => rfl)) hK (fz_ZJ g) (fun hF => (fz_give (fz_ZJ g) hT.2.2.1 hS hF)) (c_J4_init_da8c8 l D cyI cyJ cyB cyQ g H.size q_17) pk_J4_init_da8c8 mw_3_213 ⟨rfl, rfl, Nat.le_of_ble_eq_true rfl, Nat.le_of_ble_eq_true rfl⟩ rfl rfl (Nat.le_of_ble_eq_true rfl) ⟨(show (((60 * qz_N n + 1) + 6 * sl (qz_D n)) + 1) + 1 ≤ (1030 : Nat) by omega), (show (((7800 * qz_N n + 10) + 750 * sl (qz_D n)) + 4) + 16 ≤ (135000 : Nat) by omega)⟩ dL_told_258) (fun u_18 H locs hp hP hD hS => ?_)
            have hP : va_P D xcl ([((q_17, .inr (11, [.ref u_18, .int (0 : Int32), .int (0 : Int32), .int (0 : Int32)])) : Nat × va_E), ((u_18, .inl (cyB, 16, .inl (fun _ => (0 : Int32)))) : Nat × va_E)] ++ (wdS a cyI cyJ σ1 ++ E2)) H := hP
            have hD : va_D A ([((q_17, .inr (11, [.ref u_18, .int (0 : Int32), .int (0 : Int32), .int (0 : Int32)])) : Nat × va_E), ((u_18, .inl (cyB, 16, .inl (fun _ => (0 : Int32)))) : Nat × va_E)] ++ (wdS a cyI cyJ σ1 ++ E2)) := hD
            have hP : va_P D xcl ([(sbc q_17 u_18 0 (([] : List Nat).length)), (byc cyB u_18 16 (fun _ => (0 : Int32)))] ++ (wdS a cyI cyJ σ1 ++ E2)) H := hP
            have hD : va_D A ([(sbc q_17 u_18 0 (([] : List Nat).length)), (byc cyB u_18 16 (fun _ => (0 : Int32)))] ++ (wdS a cyI cyJ σ1 ++ E2)) := hD
            refine va_ldcS hx hb hown (hT.2.2.2.1 5 (by decide)).2 dL_told_261 ?_
            refine yr_r Cx hP hD hS (yq_front (S := (Nat × Nat × (Nat → Int32))) [(sbc q_17 u_18 0 (([] : List Nat).length)), (byc cyB u_18 16 (fun _ => (0 : Int32)))] (wdS a cyI cyJ σ1 ++ E2) (fun u_19 => [(sbc q_17 u_19.1 0 (([] : List Nat).length + (kT.getD 5 []).length)), (byc cyB u_19.1 u_19.2.1 u_19.2.2)]) 2 (fun _ => rfl)) (yx_V (n := 1) (As := [.ref (kk 5)]) (rest := []) Cx hP hD hS hl (yq_front (S := (Nat × Nat × (Nat → Int32))) [(sbc q_17 u_18 0 (([] : List Nat).length)), (byc cyB u_18 16 (fun _ => (0 : Int32)))] (wdS a cyI cyJ σ1 ++ E2) (fun u_19 => [(sbc q_17 u_19.1 0 (([] : List Nat).length + (kT.getD 5 []).length)), (byc cyB u_19.1 u_19.2.1 u_19.2.2)]) 2 (fun _ => rfl)) hK (fz_and (fz_ZJ g) (fz_ZS (kk 5) (kv 5) (kT.getD 5 []).length (tf (kT.getD 5 [])))) (fun hF => ⟨fz_give (fz_ZJ g) hT.2.2.1 hS hF, (fz_give (fz_ZS _ _ _ _) (hT.2.2.2.1 5 (by omega)).1 hS hF)⟩) (c_J4_append_15ec4 l D cyI cyJ cyB cyQ g H.size q_17 u_18 16 (fun _ => (0 : Int32)) 0 ([] : List Nat).length (kk 5) (kv 5) (kT.getD 5 []).length (tf (kT.getD 5 [])) blOK_0.2.1 blOK_0.1 (by decide) blOK_0.2.2.1 (tf_fit _)) pk_J4_append_15ec4 mw_4_3 ⟨rfl, rfl, Nat.le_of_ble_eq_true rfl, Nat.le_of_ble_eq_true rfl⟩ (va_recv hK hP rfl (q0 := 0) rfl) rfl rfl (Nat.le_of_ble_eq_true rfl) ⟨(show ((((60 * qz_N n + 1) + 6 * sl (qz_D n)) + 1) + 1) + 1 ≤ (1030 : Nat) by omega), (show ((((7800 * qz_N n + 10) + 750 * sl (qz_D n)) + 4) + 16) + 242 ≤ (135000 : Nat) by omega)⟩ dL_told_263) (fun u_19 H locs hp hP hD hS => ?_)
            have hP : va_P D xcl ([(sbc q_17 u_19.1 0 (([] : List Nat).length + (kT.getD 5 []).length)), (byc cyB u_19.1 u_19.2.1 u_19.2.2)] ++ (wdS a cyI cyJ σ1 ++ E2)) H := hP
            have hD : va_D A ([(sbc q_17 u_19.1 0 (([] : List Nat).length + (kT.getD 5 []).length)), (byc cyB u_19.1 u_19.2.1 u_19.2.2)] ++ (wdS a cyI cyJ σ1 ++ E2)) := hD
            have hB_20 := blOK_app blOK_0 hp.1 hp.2.1 hp.2.2.1 hp.2.2.2.1 hp.2.2.2.2
            have eL : ([] : List Nat).length + (kT.getD 5 []).length = (([] : List Nat) ++ (kT.getD 5 [])).length := List.length_append.symm
            rw [eL] at hP hD
            have hP : va_P D xcl ([(sbc q_17 u_19.1 0 ((([] : List Nat) ++ (kT.getD 5 [])).length)), (byc cyB u_19.1 u_19.2.1 u_19.2.2)] ++ (wdS a cyI cyJ σ1 ++ E2)) H := hP
            have hD : va_D A ([(sbc q_17 u_19.1 0 ((([] : List Nat) ++ (kT.getD 5 [])).length)), (byc cyB u_19.1 u_19.2.1 u_19.2.2)] ++ (wdS a cyI cyJ σ1 ++ E2)) := hD
            refine lv_aload hx hb dL_told_266 (lv_at hl 3 rfl) ?_
            obtain ⟨v_21, hz_22⟩ := sok_give (wc := [(sbc q_17 u_19.1 0 ((([] : List Nat) ++ (kT.getD 5 [])).length)), (byc cyB u_19.1 u_19.2.1 u_19.2.2)]) (C := wdS a cyI cyJ σ1) (E := E2) hts hK hP hD hS hA (hT.2.2.2.1 0 (by decide)).1 hrr
            refine yr_r Cx hP hD hS (yq_front (S := (Nat × Nat × (Nat → Int32))) [(sbc q_17 u_19.1 0 ((([] : List Nat) ++ (kT.getD 5 [])).length)), (byc cyB u_19.1 u_19.2.1 u_19.2.2)] (wdS a cyI cyJ σ1 ++ E2) (fun u_23 => [(sbc q_17 u_23.1 0 ((([] : List Nat) ++ (kT.getD 5 [])).length + (rwT (qz_D n)).length)), (byc cyB u_23.1 u_23.2.1 u_23.2.2)]) 2 (fun _ => rfl)) (yx_V (n := 1) (As := [.ref rr]) (rest := []) Cx hP hD hS hl (yq_front (S := (Nat × Nat × (Nat → Int32))) [(sbc q_17 u_19.1 0 ((([] : List Nat) ++ (kT.getD 5 [])).length)), (byc cyB u_19.1 u_19.2.1 u_19.2.2)] (wdS a cyI cyJ σ1 ++ E2) (fun u_23 => [(sbc q_17 u_23.1 0 ((([] : List Nat) ++ (kT.getD 5 [])).length + (rwT (qz_D n)).length)), (byc cyB u_23.1 u_23.2.1 u_23.2.2)]) 2 (fun _ => rfl)) hK (fz_and (fz_ZJ g) (fz_ZS rr v_21 (rwT (qz_D n)).length (tf (rwT (qz_D n))))) (fun hF => ⟨fz_give (fz_ZJ g) hT.2.2.1 hS hF, hz_22⟩) (c_J4_append_15ec4 l D cyI cyJ cyB cyQ g H.size q_17 u_19.1 u_19.2.1 u_19.2.2 0 (([] : List Nat) ++ (kT.getD 5 [])).length rr v_21 (rwT (qz_D n)).length (tf (rwT (qz_D n))) hB_20.2.1 hB_20.1 (by rw [rwT_len]; show 2 + _ ≤ 121; omega) hB_20.2.2.1 (tf_fit _)) pk_J4_append_15ec4 mw_4_3 ⟨rfl, rfl, Nat.le_of_ble_eq_true rfl, Nat.le_of_ble_eq_true rfl⟩ (va_recv hK hP rfl (q0 := 0) rfl) rfl rfl (Nat.le_of_ble_eq_true rfl) ⟨(show (((((60 * qz_N n + 1) + 6 * sl (qz_D n)) + 1) + 1) + 1) + 1 ≤ (1030 : Nat) by omega), (show (((((7800 * qz_N n + 10) + 750 * sl (qz_D n)) + 4) + 16) + 242) + 242 ≤ (135000 : Nat) by omega)⟩ dL_told_268) (fun u_23 H locs hp hP hD hS => ?_)
            have hP : va_P D xcl ([(sbc q_17 u_23.1 0 ((([] : List Nat) ++ (kT.getD 5 [])).length + (rwT (qz_D n)).length)), (byc cyB u_23.1 u_23.2.1 u_23.2.2)] ++ (wdS a cyI cyJ σ1 ++ E2)) H := hP
            have hD : va_D A ([(sbc q_17 u_23.1 0 ((([] : List Nat) ++ (kT.getD 5 [])).length + (rwT (qz_D n)).length)), (byc cyB u_23.1 u_23.2.1 u_23.2.2)] ++ (wdS a cyI cyJ σ1 ++ E2)) := hD
            have hB_24 := blOK_app hB_20 hp.1 hp.2.1 hp.2.2.1 hp.2.2.2.1 hp.2.2.2.2
            have eL : (([] : List Nat) ++ (kT.getD 5 [])).length + (rwT (qz_D n)).length = ((([] : List Nat) ++ (kT.getD 5 [])) ++ (rwT (qz_D n))).length := List.length_append.symm
            rw [eL] at hP hD
            have hP : va_P D xcl ([(sbc q_17 u_23.1 0 (((([] : List Nat) ++ (kT.getD 5 [])) ++ (rwT (qz_D n))).length)), (byc cyB u_23.1 u_23.2.1 u_23.2.2)] ++ (wdS a cyI cyJ σ1 ++ E2)) H := hP
            have hD : va_D A ([(sbc q_17 u_23.1 0 (((([] : List Nat) ++ (kT.getD 5 [])) ++ (rwT (qz_D n))).length)), (byc cyB u_23.1 u_23.2.1 u_23.2.2)] ++ (wdS a cyI cyJ σ1 ++ E2)) := hD
            refine va_ldcS hx hb hown (hT.2.2.2.1 4 (by decide)).2 dL_told_271 ?_
            refine yr_r Cx hP hD hS (yq_front (S := (Nat × Nat × (Nat → Int32))) [(sbc q_17 u_23.1 0 (((([] : List Nat) ++ (kT.getD 5 [])) ++ (rwT (qz_D n))).length)), (byc cyB u_23.1 u_23.2.1 u_23.2.2)] (wdS a cyI cyJ σ1 ++ E2) (fun u_25 => [(sbc q_17 u_25.1 0 (((([] : List Nat) ++ (kT.getD 5 [])) ++ (rwT (qz_D n))).length + (kT.getD 4 []).length)), (byc cyB u_25.1 u_25.2.1 u_25.2.2)]) 2 (fun _ => rfl)) (yx_V (n := 1) (As := [.ref (kk 4)]) (rest := []) Cx hP hD hS hl (yq_front (S := (Nat × Nat × (Nat → Int32))) [(sbc q_17 u_23.1 0 (((([] : List Nat) ++ (kT.getD 5 [])) ++ (rwT (qz_D n))).length)), (byc cyB u_23.1 u_23.2.1 u_23.2.2)] (wdS a cyI cyJ σ1 ++ E2) (fun u_25 => [(sbc q_17 u_25.1 0 (((([] : List Nat) ++ (kT.getD 5 [])) ++ (rwT (qz_D n))).length + (kT.getD 4 []).length)), (byc cyB u_25.1 u_25.2.1 u_25.2.2)]) 2 (fun _ => rfl)) hK (fz_and (fz_ZJ g) (fz_ZS (kk 4) (kv 4) (kT.getD 4 []).length (tf (kT.getD 4 [])))) (fun hF => ⟨fz_give (fz_ZJ g) hT.2.2.1 hS hF, (fz_give (fz_ZS _ _ _ _) (hT.2.2.2.1 4 (by omega)).1 hS hF)⟩) (c_J4_append_15ec4 l D cyI cyJ cyB cyQ g H.size q_17 u_23.1 u_23.2.1 u_23.2.2 0 ((([] : List Nat) ++ (kT.getD 5 [])) ++ (rwT (qz_D n))).length (kk 4) (kv 4) (kT.getD 4 []).length (tf (kT.getD 4 [])) hB_24.2.1 hB_24.1 (by rw [List.length_append, rwT_len]; show 2 + _ + 1 ≤ 121; omega) hB_24.2.2.1 (tf_fit _)) pk_J4_append_15ec4 mw_4_3 ⟨rfl, rfl, Nat.le_of_ble_eq_true rfl, Nat.le_of_ble_eq_true rfl⟩ (va_recv hK hP rfl (q0 := 0) rfl) rfl rfl (Nat.le_of_ble_eq_true rfl) ⟨(show ((((((60 * qz_N n + 1) + 6 * sl (qz_D n)) + 1) + 1) + 1) + 1) + 1 ≤ (1030 : Nat) by omega), (show ((((((7800 * qz_N n + 10) + 750 * sl (qz_D n)) + 4) + 16) + 242) + 242) + 242 ≤ (135000 : Nat) by omega)⟩ dL_told_273) (fun u_25 H locs hp hP hD hS => ?_)
            have hP : va_P D xcl ([(sbc q_17 u_25.1 0 (((([] : List Nat) ++ (kT.getD 5 [])) ++ (rwT (qz_D n))).length + (kT.getD 4 []).length)), (byc cyB u_25.1 u_25.2.1 u_25.2.2)] ++ (wdS a cyI cyJ σ1 ++ E2)) H := hP
            have hD : va_D A ([(sbc q_17 u_25.1 0 (((([] : List Nat) ++ (kT.getD 5 [])) ++ (rwT (qz_D n))).length + (kT.getD 4 []).length)), (byc cyB u_25.1 u_25.2.1 u_25.2.2)] ++ (wdS a cyI cyJ σ1 ++ E2)) := hD
            have hB_26 := blOK_app hB_24 hp.1 hp.2.1 hp.2.2.1 hp.2.2.2.1 hp.2.2.2.2
            have eL : ((([] : List Nat) ++ (kT.getD 5 [])) ++ (rwT (qz_D n))).length + (kT.getD 4 []).length = (((([] : List Nat) ++ (kT.getD 5 [])) ++ (rwT (qz_D n))) ++ (kT.getD 4 [])).length := List.length_append.symm
            rw [eL] at hP hD
            have hP : va_P D xcl ([(sbc q_17 u_25.1 0 ((((([] : List Nat) ++ (kT.getD 5 [])) ++ (rwT (qz_D n))) ++ (kT.getD 4 [])).length)), (byc cyB u_25.1 u_25.2.1 u_25.2.2)] ++ (wdS a cyI cyJ σ1 ++ E2)) H := hP
            have hD : va_D A ([(sbc q_17 u_25.1 0 ((((([] : List Nat) ++ (kT.getD 5 [])) ++ (rwT (qz_D n))) ++ (kT.getD 4 [])).length)), (byc cyB u_25.1 u_25.2.1 u_25.2.2)] ++ (wdS a cyI cyJ σ1 ++ E2)) := hD
            refine yr_r Cx hP hD hS (yq_front (S := (Nat × Nat × (Nat → Int32))) [(sbc q_17 u_25.1 0 ((((([] : List Nat) ++ (kT.getD 5 [])) ++ (rwT (qz_D n))) ++ (kT.getD 4 [])).length)), (byc cyB u_25.1 u_25.2.1 u_25.2.2)] (wdS a cyI cyJ σ1 ++ E2) (fun u_27 => [(sbc q_17 u_25.1 0 ((((([] : List Nat) ++ (kT.getD 5 [])) ++ (rwT (qz_D n))) ++ (kT.getD 4 [])).length)), (byc cyB u_25.1 u_25.2.1 u_25.2.2), (stc u_27.1 u_27.2.1), (byc cyB u_27.2.1 (((([] : List Nat) ++ (kT.getD 5 [])) ++ (rwT (qz_D n))) ++ (kT.getD 4 [])).length u_27.2.2)]) 4 (fun _ => rfl)) (yx_V (n := 0) (As := []) (rest := []) Cx hP hD hS hl (yq_front (S := (Nat × Nat × (Nat → Int32))) [(sbc q_17 u_25.1 0 ((((([] : List Nat) ++ (kT.getD 5 [])) ++ (rwT (qz_D n))) ++ (kT.getD 4 [])).length)), (byc cyB u_25.1 u_25.2.1 u_25.2.2)] (wdS a cyI cyJ σ1 ++ E2) (fun u_27 => [(sbc q_17 u_25.1 0 ((((([] : List Nat) ++ (kT.getD 5 [])) ++ (rwT (qz_D n))) ++ (kT.getD 4 [])).length)), (byc cyB u_25.1 u_25.2.1 u_25.2.2), (stc u_27.1 u_27.2.1), (byc cyB u_27.2.1 (((([] : List Nat) ++ (kT.getD 5 [])) ++ (rwT (qz_D n))) ++ (kT.getD 4 [])).length u_27.2.2)]) 4 (fun _ => rfl)) hK (fz_ZJ g) (fun hF => (fz_give (fz_ZJ g) hT.2.2.1 hS hF)) (c_J4_toString_0e30d l D cyI cyJ cyB cyQ g H.size q_17 u_25.1 u_25.2.1 u_25.2.2 0 (((([] : List Nat) ++ (kT.getD 5 [])) ++ (rwT (qz_D n))) ++ (kT.getD 4 [])).length hB_26.1 hB_26.2.1 hB_26.2.2.1) pk_J4_toString_0e30d mw_4_142 ⟨rfl, rfl, Nat.le_of_ble_eq_true rfl, Nat.le_of_ble_eq_true rfl⟩ (va_recv hK hP rfl (q0 := 0) rfl) rfl rfl (Nat.le_of_ble_eq_true rfl) ⟨(show (((((((60 * qz_N n + 1) + 6 * sl (qz_D n)) + 1) + 1) + 1) + 1) + 1) + 2 ≤ (1030 : Nat) by omega), (show (((((((7800 * qz_N n + 10) + 750 * sl (qz_D n)) + 4) + 16) + 242) + 242) + 242) + 246 ≤ (135000 : Nat) by omega)⟩ dL_told_276) (fun u_27 H locs hp hP hD hS => ?_)
            have hP : va_P D xcl ([(sbc q_17 u_25.1 0 ((((([] : List Nat) ++ (kT.getD 5 [])) ++ (rwT (qz_D n))) ++ (kT.getD 4 [])).length)), (byc cyB u_25.1 u_25.2.1 u_25.2.2), (stc u_27.1 u_27.2.1), (byc cyB u_27.2.1 (((([] : List Nat) ++ (kT.getD 5 [])) ++ (rwT (qz_D n))) ++ (kT.getD 4 [])).length u_27.2.2)] ++ (wdS a cyI cyJ σ1 ++ E2)) H := hP
            have hD : va_D A ([(sbc q_17 u_25.1 0 ((((([] : List Nat) ++ (kT.getD 5 [])) ++ (rwT (qz_D n))) ++ (kT.getD 4 [])).length)), (byc cyB u_25.1 u_25.2.1 u_25.2.2), (stc u_27.1 u_27.2.1), (byc cyB u_27.2.1 (((([] : List Nat) ++ (kT.getD 5 [])) ++ (rwT (qz_D n))) ++ (kT.getD 4 [])).length u_27.2.2)] ++ (wdS a cyI cyJ σ1 ++ E2)) := hD
            have hPD : va_P D xcl (wdS a cyI cyJ σ1 ++ ([stc u_27.1 u_27.2.1, byc cyB u_27.2.1 (((([] : List Nat) ++ (kT.getD 5 [])) ++ (rwT (qz_D n))) ++ (kT.getD 4 [])).length (tf (((([] : List Nat) ++ (kT.getD 5 [])) ++ (rwT (qz_D n))) ++ (kT.getD 4 [])))] ++ E2)) H ∧ va_D A (wdS a cyI cyJ σ1 ++ ([stc u_27.1 u_27.2.1, byc cyB u_27.2.1 (((([] : List Nat) ++ (kT.getD 5 [])) ++ (rwT (qz_D n))) ++ (kT.getD 4 [])).length (tf (((([] : List Nat) ++ (kT.getD 5 [])) ++ (rwT (qz_D n))) ++ (kT.getD 4 [])))] ++ E2)) := yb_str hP hD hB_26 hp
            obtain ⟨hP, hD⟩ := hPD
            refine lv_astore (lv' := [(6, .ref u_27.1), (10, .int (nI (sl (qz_D n)))), (9, .int (nI (sl (qz_D n)))), (8, .ref (B (qz_D n))), (7, .ref rr), (5, .int (nI (tmN fv (qz_N n)))), (0, .ref (a 0)), (1, .int (nI s0)), (2, .ref al), (3, .int (nI n)), (4, .ref v)]) hx hb dL_told_279 hl (by decide) rfl (fun ls hl => ?_)
            have eT : (((([] : List Nat) ++ (kT.getD 5 [])) ++ (rwT (qz_D n))) ++ (kT.getD 4 [])) = txF n fv := by unfold txF; rw [if_pos he0]; rfl
            rw [eT] at hP hD
            refine W.widen (k := 1000) (n := 130000) (by omega) (by omega) ?_
            exact w_281 _ u_27.1 H _ ls (Or.inr ⟨u_27.2.1, List.mem_cons_self, List.mem_cons_of_mem _ List.mem_cons_self⟩) hP hD hS (lv_sub hl [0, 5, 6, 7, 8, 9, 10] rfl)
          | succ d2 ihd2 =>
            intro r E2 rr H locs ls hr hrr  hP hD hS hl
            have hcr := rw_lt (qz_D n) (by omega) r (by omega)
            have hlr := rwP_len (qz_D n) r
            have hs8 := sl_small (qz_D n) (by omega)
            refine lv_iload hx hb dL_told_212 (lv_at hl 0 rfl) ?_
            refine lv_iload hx hb dL_told_214 (lv_at hl 1 rfl) ?_
            refine lv_icmp_ge (tgt := 254) hx hb dL_told_216 (by decide) (fun hc => absurd hc (nI_ge (by omega) (by omega))) (fun _ => ?_)
            refine lv_aload hx hb dL_told_219 (lv_at hl 2 rfl) ?_
            refine lv_iload hx hb dL_told_221 (lv_at hl 0 rfl) ?_
            refine yf_ild hx hb (va_T.kept (hT.2.1.2 (qz_D n) (by omega)) hS.2.1) (vp_in_nI (by omega) (by omega)) (v := (nI (sc (qz_D n) r))) (by rw [nI_clamp (by omega)]; rfl) dL_told_223 ?_
            refine lv_istore (lv' := [(11, .int (nI (sc (qz_D n) r))), (10, .int (nI r)), (9, .int (nI (sl (qz_D n)))), (8, .ref (B (qz_D n))), (7, .ref rr), (5, .int (nI (tmN fv (qz_N n)))), (0, .ref (a 0)), (1, .int (nI s0)), (2, .ref al), (3, .int (nI n)), (4, .ref v)]) hx hb dL_told_224 hl (by decide) rfl (fun ls hl => ?_)
            refine va_new (ci := 11) (fs := [.null, .int 0, .int 0, .int 0]) (C := RJ4) (T := TJ4) (N := 4) hx hb hts wJ4_in tyJ4 tyJ4_ok hown (hts _ mw_3_211) (hts _ mw_3_212) (hts _ mw_1_15) hK hP hD hS hA rfl (fun j hj => by rcases (show j = 0 ∨ j = 1 ∨ j = 2 ∨ j = 3 by omega) with rfl | rfl | rfl | rfl <;> rfl) (show ((60 * qz_N n + 1) + 6 * r) + 1 ≤ (1030 : Nat) by omega) (show ((7800 * qz_N n + 10) + 750 * r) + 4 ≤ (135000 : Nat) by omega) dL_told_226 (fun q_28 H hP hD hS => ?_)
            have hPD : va_P D xcl ([((q_28, .inr (11, [.null, .int (0 : Int32), .int (0 : Int32), .int (0 : Int32)])) : Nat × va_E)] ++ (wdS a cyI cyJ σ1 ++ E2)) H ∧ va_D A ([((q_28, .inr (11, [.null, .int (0 : Int32), .int (0 : Int32), .int (0 : Int32)])) : Nat × va_E)] ++ (wdS a cyI cyJ σ1 ++ E2)) := y_perm hP hD List.perm_append_comm
            obtain ⟨hP, hD⟩ := hPD
            refine lv_dup hx hb dL_told_229 rfl ?_
            refine yr_v Cx hP hD hS (yq_front (S := Nat) [((q_28, .inr (11, [.null, .int (0 : Int32), .int (0 : Int32), .int (0 : Int32)])) : Nat × va_E)] (wdS a cyI cyJ σ1 ++ E2) (fun u_29 => [((q_28, .inr (11, [.ref u_29, .int (0 : Int32), .int (0 : Int32), .int (0 : Int32)])) : Nat × va_E), ((u_29, .inl (cyB, 16, .inl (fun _ => (0 : Int32)))) : Nat × va_E)]) 2 (fun _ => rfl)) (yx_I (n := 0) (As := []) (rest := [.ref q_28]) Cx hP hD hS hl (yq_front (S := Nat) [((q_28, .inr (11, [.null, .int (0 : Int32), .int (0 : Int32), .int (0 : Int32)])) : Nat × va_E)] (wdS a cyI cyJ σ1 ++ E2) (fun u_29 => [((q_28, .inr (11, [.ref u_29, .int (0 : Int32), .int (0 : Int32), .int (0 : Int32)])) : Nat × va_E), ((u_29, .inl (cyB, 16, .inl (fun _ => (0 : Int32)))) : Nat × va_E)]) 2 (fun _ => rfl)) hK (fz_ZJ g) (fun hF => (fz_give (fz_ZJ g) hT.2.2.1 hS hF)) (c_J4_init_da8c8 l D cyI cyJ cyB cyQ g H.size q_28) pk_J4_init_da8c8 mw_3_213 ⟨rfl, rfl, Nat.le_of_ble_eq_true rfl, Nat.le_of_ble_eq_true rfl⟩ rfl rfl (Nat.le_of_ble_eq_true rfl) ⟨(show (((60 * qz_N n + 1) + 6 * r) + 1) + 1 ≤ (1030 : Nat) by omega), (show (((7800 * qz_N n + 10) + 750 * r) + 4) + 16 ≤ (135000 : Nat) by omega)⟩ dL_told_230) (fun u_29 H locs hp hP hD hS => ?_)
            have hP : va_P D xcl ([((q_28, .inr (11, [.ref u_29, .int (0 : Int32), .int (0 : Int32), .int (0 : Int32)])) : Nat × va_E), ((u_29, .inl (cyB, 16, .inl (fun _ => (0 : Int32)))) : Nat × va_E)] ++ (wdS a cyI cyJ σ1 ++ E2)) H := hP
            have hD : va_D A ([((q_28, .inr (11, [.ref u_29, .int (0 : Int32), .int (0 : Int32), .int (0 : Int32)])) : Nat × va_E), ((u_29, .inl (cyB, 16, .inl (fun _ => (0 : Int32)))) : Nat × va_E)] ++ (wdS a cyI cyJ σ1 ++ E2)) := hD
            have hP : va_P D xcl ([(sbc q_28 u_29 0 (([] : List Nat).length)), (byc cyB u_29 16 (fun _ => (0 : Int32)))] ++ (wdS a cyI cyJ σ1 ++ E2)) H := hP
            have hD : va_D A ([(sbc q_28 u_29 0 (([] : List Nat).length)), (byc cyB u_29 16 (fun _ => (0 : Int32)))] ++ (wdS a cyI cyJ σ1 ++ E2)) := hD
            refine lv_aload hx hb dL_told_233 (lv_at hl 4 rfl) ?_
            obtain ⟨v_30, hz_31⟩ := sok_give (wc := [(sbc q_28 u_29 0 (([] : List Nat).length)), (byc cyB u_29 16 (fun _ => (0 : Int32)))]) (C := wdS a cyI cyJ σ1) (E := E2) hts hK hP hD hS hA (hT.2.2.2.1 0 (by decide)).1 hrr
            refine yr_r Cx hP hD hS (yq_front (S := (Nat × Nat × (Nat → Int32))) [(sbc q_28 u_29 0 (([] : List Nat).length)), (byc cyB u_29 16 (fun _ => (0 : Int32)))] (wdS a cyI cyJ σ1 ++ E2) (fun u_32 => [(sbc q_28 u_32.1 0 (([] : List Nat).length + (rwP (qz_D n) r).length)), (byc cyB u_32.1 u_32.2.1 u_32.2.2)]) 2 (fun _ => rfl)) (yx_V (n := 1) (As := [.ref rr]) (rest := []) Cx hP hD hS hl (yq_front (S := (Nat × Nat × (Nat → Int32))) [(sbc q_28 u_29 0 (([] : List Nat).length)), (byc cyB u_29 16 (fun _ => (0 : Int32)))] (wdS a cyI cyJ σ1 ++ E2) (fun u_32 => [(sbc q_28 u_32.1 0 (([] : List Nat).length + (rwP (qz_D n) r).length)), (byc cyB u_32.1 u_32.2.1 u_32.2.2)]) 2 (fun _ => rfl)) hK (fz_and (fz_ZJ g) (fz_ZS rr v_30 (rwP (qz_D n) r).length (tf (rwP (qz_D n) r)))) (fun hF => ⟨fz_give (fz_ZJ g) hT.2.2.1 hS hF, hz_31⟩) (c_J4_append_15ec4 l D cyI cyJ cyB cyQ g H.size q_28 u_29 16 (fun _ => (0 : Int32)) 0 ([] : List Nat).length rr v_30 (rwP (qz_D n) r).length (tf (rwP (qz_D n) r)) blOK_0.2.1 blOK_0.1 (by simp only [List.length_nil]; omega) blOK_0.2.2.1 (tf_fit _)) pk_J4_append_15ec4 mw_4_3 ⟨rfl, rfl, Nat.le_of_ble_eq_true rfl, Nat.le_of_ble_eq_true rfl⟩ (va_recv hK hP rfl (q0 := 0) rfl) rfl rfl (Nat.le_of_ble_eq_true rfl) ⟨(show ((((60 * qz_N n + 1) + 6 * r) + 1) + 1) + 1 ≤ (1030 : Nat) by omega), (show ((((7800 * qz_N n + 10) + 750 * r) + 4) + 16) + 242 ≤ (135000 : Nat) by omega)⟩ dL_told_235) (fun u_32 H locs hp hP hD hS => ?_)
            have hP : va_P D xcl ([(sbc q_28 u_32.1 0 (([] : List Nat).length + (rwP (qz_D n) r).length)), (byc cyB u_32.1 u_32.2.1 u_32.2.2)] ++ (wdS a cyI cyJ σ1 ++ E2)) H := hP
            have hD : va_D A ([(sbc q_28 u_32.1 0 (([] : List Nat).length + (rwP (qz_D n) r).length)), (byc cyB u_32.1 u_32.2.1 u_32.2.2)] ++ (wdS a cyI cyJ σ1 ++ E2)) := hD
            have hB_33 := blOK_app blOK_0 hp.1 hp.2.1 hp.2.2.1 hp.2.2.2.1 hp.2.2.2.2
            have eL : ([] : List Nat).length + (rwP (qz_D n) r).length = (([] : List Nat) ++ (rwP (qz_D n) r)).length := List.length_append.symm
            rw [eL] at hP hD
            have hP : va_P D xcl ([(sbc q_28 u_32.1 0 ((([] : List Nat) ++ (rwP (qz_D n) r)).length)), (byc cyB u_32.1 u_32.2.1 u_32.2.2)] ++ (wdS a cyI cyJ σ1 ++ E2)) H := hP
            have hD : va_D A ([(sbc q_28 u_32.1 0 ((([] : List Nat) ++ (rwP (qz_D n) r)).length)), (byc cyB u_32.1 u_32.2.1 u_32.2.2)] ++ (wdS a cyI cyJ σ1 ++ E2)) := hD
            refine lv_iload hx hb dL_told_238 (lv_at hl 0 rfl) ?_
            refine yr_r Cx hP hD hS (yq_front (S := (Nat × Nat × (Nat → Int32))) [(sbc q_28 u_32.1 0 ((([] : List Nat) ++ (rwP (qz_D n) r)).length)), (byc cyB u_32.1 u_32.2.1 u_32.2.2)] (wdS a cyI cyJ σ1 ++ E2) (fun u_34 => [(sbc q_28 u_34.1 0 ((([] : List Nat) ++ (rwP (qz_D n) r)).length + (jdg (sc (qz_D n) r)).length)), (byc cyB u_34.1 u_34.2.1 u_34.2.2)]) 2 (fun _ => rfl)) (yx_V (n := 1) (As := [.int (nI (sc (qz_D n) r))]) (rest := []) Cx hP hD hS hl (yq_front (S := (Nat × Nat × (Nat → Int32))) [(sbc q_28 u_32.1 0 ((([] : List Nat) ++ (rwP (qz_D n) r)).length)), (byc cyB u_32.1 u_32.2.1 u_32.2.2)] (wdS a cyI cyJ σ1 ++ E2) (fun u_34 => [(sbc q_28 u_34.1 0 ((([] : List Nat) ++ (rwP (qz_D n) r)).length + (jdg (sc (qz_D n) r)).length)), (byc cyB u_34.1 u_34.2.1 u_34.2.2)]) 2 (fun _ => rfl)) hK (fz_ZJ g) (fun hF => (fz_give (fz_ZJ g) hT.2.2.1 hS hF)) (c_J4_append_bf812 l D cyI cyJ cyB cyQ g H.size q_28 u_32.1 u_32.2.1 u_32.2.2 0 (([] : List Nat) ++ (rwP (qz_D n) r)).length (sc (qz_D n) r) (by omega) hB_33.2.1 hB_33.1 (by have := jdg_le (sc (qz_D n) r); simp only [List.length_append, List.length_nil]; omega) hB_33.2.2.1) pk_J4_append_bf812 mw_4_117 ⟨rfl, rfl, Nat.le_of_ble_eq_true rfl, Nat.le_of_ble_eq_true rfl⟩ (va_recv hK hP rfl (q0 := 0) rfl) rfl rfl (Nat.le_of_ble_eq_true rfl) ⟨(show (((((60 * qz_N n + 1) + 6 * r) + 1) + 1) + 1) + 1 ≤ (1030 : Nat) by omega), (show (((((7800 * qz_N n + 10) + 750 * r) + 4) + 16) + 242) + 242 ≤ (135000 : Nat) by omega)⟩ dL_told_240) (fun u_34 H locs hp hP hD hS => ?_)
            have hP : va_P D xcl ([(sbc q_28 u_34.1 0 ((([] : List Nat) ++ (rwP (qz_D n) r)).length + (jdg (sc (qz_D n) r)).length)), (byc cyB u_34.1 u_34.2.1 u_34.2.2)] ++ (wdS a cyI cyJ σ1 ++ E2)) H := hP
            have hD : va_D A ([(sbc q_28 u_34.1 0 ((([] : List Nat) ++ (rwP (qz_D n) r)).length + (jdg (sc (qz_D n) r)).length)), (byc cyB u_34.1 u_34.2.1 u_34.2.2)] ++ (wdS a cyI cyJ σ1 ++ E2)) := hD
            have hB_35 := blOK_app (T1 := (jdg (sc (qz_D n) r))) hB_33 hp.1 hp.2.1 hp.2.2.1 hp.2.2.2.1 hp.2.2.2.2
            have eL : (([] : List Nat) ++ (rwP (qz_D n) r)).length + (jdg (sc (qz_D n) r)).length = ((([] : List Nat) ++ (rwP (qz_D n) r)) ++ (jdg (sc (qz_D n) r))).length := List.length_append.symm
            rw [eL] at hP hD
            have hP : va_P D xcl ([(sbc q_28 u_34.1 0 (((([] : List Nat) ++ (rwP (qz_D n) r)) ++ (jdg (sc (qz_D n) r))).length)), (byc cyB u_34.1 u_34.2.1 u_34.2.2)] ++ (wdS a cyI cyJ σ1 ++ E2)) H := hP
            have hD : va_D A ([(sbc q_28 u_34.1 0 (((([] : List Nat) ++ (rwP (qz_D n) r)) ++ (jdg (sc (qz_D n) r))).length)), (byc cyB u_34.1 u_34.2.1 u_34.2.2)] ++ (wdS a cyI cyJ σ1 ++ E2)) := hD
            refine yr_r Cx hP hD hS (yq_front (S := (Nat × Nat × (Nat → Int32))) [(sbc q_28 u_34.1 0 (((([] : List Nat) ++ (rwP (qz_D n) r)) ++ (jdg (sc (qz_D n) r))).length)), (byc cyB u_34.1 u_34.2.1 u_34.2.2)] (wdS a cyI cyJ σ1 ++ E2) (fun u_36 => [(sbc q_28 u_34.1 0 (((([] : List Nat) ++ (rwP (qz_D n) r)) ++ (jdg (sc (qz_D n) r))).length)), (byc cyB u_34.1 u_34.2.1 u_34.2.2), (stc u_36.1 u_36.2.1), (byc cyB u_36.2.1 ((([] : List Nat) ++ (rwP (qz_D n) r)) ++ (jdg (sc (qz_D n) r))).length u_36.2.2)]) 4 (fun _ => rfl)) (yx_V (n := 0) (As := []) (rest := []) Cx hP hD hS hl (yq_front (S := (Nat × Nat × (Nat → Int32))) [(sbc q_28 u_34.1 0 (((([] : List Nat) ++ (rwP (qz_D n) r)) ++ (jdg (sc (qz_D n) r))).length)), (byc cyB u_34.1 u_34.2.1 u_34.2.2)] (wdS a cyI cyJ σ1 ++ E2) (fun u_36 => [(sbc q_28 u_34.1 0 (((([] : List Nat) ++ (rwP (qz_D n) r)) ++ (jdg (sc (qz_D n) r))).length)), (byc cyB u_34.1 u_34.2.1 u_34.2.2), (stc u_36.1 u_36.2.1), (byc cyB u_36.2.1 ((([] : List Nat) ++ (rwP (qz_D n) r)) ++ (jdg (sc (qz_D n) r))).length u_36.2.2)]) 4 (fun _ => rfl)) hK (fz_ZJ g) (fun hF => (fz_give (fz_ZJ g) hT.2.2.1 hS hF)) (c_J4_toString_0e30d l D cyI cyJ cyB cyQ g H.size q_28 u_34.1 u_34.2.1 u_34.2.2 0 ((([] : List Nat) ++ (rwP (qz_D n) r)) ++ (jdg (sc (qz_D n) r))).length hB_35.1 hB_35.2.1 hB_35.2.2.1) pk_J4_toString_0e30d mw_4_142 ⟨rfl, rfl, Nat.le_of_ble_eq_true rfl, Nat.le_of_ble_eq_true rfl⟩ (va_recv hK hP rfl (q0 := 0) rfl) rfl rfl (Nat.le_of_ble_eq_true rfl) ⟨(show ((((((60 * qz_N n + 1) + 6 * r) + 1) + 1) + 1) + 1) + 2 ≤ (1030 : Nat) by omega), (show ((((((7800 * qz_N n + 10) + 750 * r) + 4) + 16) + 242) + 242) + 246 ≤ (135000 : Nat) by omega)⟩ dL_told_243) (fun u_36 H locs hp hP hD hS => ?_)
            have hP : va_P D xcl ([(sbc q_28 u_34.1 0 (((([] : List Nat) ++ (rwP (qz_D n) r)) ++ (jdg (sc (qz_D n) r))).length)), (byc cyB u_34.1 u_34.2.1 u_34.2.2), (stc u_36.1 u_36.2.1), (byc cyB u_36.2.1 ((([] : List Nat) ++ (rwP (qz_D n) r)) ++ (jdg (sc (qz_D n) r))).length u_36.2.2)] ++ (wdS a cyI cyJ σ1 ++ E2)) H := hP
            have hD : va_D A ([(sbc q_28 u_34.1 0 (((([] : List Nat) ++ (rwP (qz_D n) r)) ++ (jdg (sc (qz_D n) r))).length)), (byc cyB u_34.1 u_34.2.1 u_34.2.2), (stc u_36.1 u_36.2.1), (byc cyB u_36.2.1 ((([] : List Nat) ++ (rwP (qz_D n) r)) ++ (jdg (sc (qz_D n) r))).length u_36.2.2)] ++ (wdS a cyI cyJ σ1 ++ E2)) := hD
            have hPD : va_P D xcl (wdS a cyI cyJ σ1 ++ ([stc u_36.1 u_36.2.1, byc cyB u_36.2.1 ((([] : List Nat) ++ (rwP (qz_D n) r)) ++ (jdg (sc (qz_D n) r))).length (tf ((([] : List Nat) ++ (rwP (qz_D n) r)) ++ (jdg (sc (qz_D n) r))))] ++ E2)) H ∧ va_D A (wdS a cyI cyJ σ1 ++ ([stc u_36.1 u_36.2.1, byc cyB u_36.2.1 ((([] : List Nat) ++ (rwP (qz_D n) r)) ++ (jdg (sc (qz_D n) r))).length (tf ((([] : List Nat) ++ (rwP (qz_D n) r)) ++ (jdg (sc (qz_D n) r))))] ++ E2)) := yb_str hP hD hB_35 hp
            obtain ⟨hP, hD⟩ := hPD
            refine lv_astore (lv' := [(7, .ref u_36.1), (11, .int (nI (sc (qz_D n) r))), (10, .int (nI r)), (9, .int (nI (sl (qz_D n)))), (8, .ref (B (qz_D n))), (5, .int (nI (tmN fv (qz_N n)))), (0, .ref (a 0)), (1, .int (nI s0)), (2, .ref al), (3, .int (nI n)), (4, .ref v)]) hx hb dL_told_246 hl (by decide) rfl (fun ls hl => ?_)
            refine lv_iinc (v := ((nI r) + (1 : Int32))) (lv' := [(10, .int ((nI r) + (1 : Int32))), (7, .ref u_36.1), (11, .int (nI (sc (qz_D n) r))), (9, .int (nI (sl (qz_D n)))), (8, .ref (B (qz_D n))), (5, .int (nI (tmN fv (qz_N n)))), (0, .ref (a 0)), (1, .int (nI s0)), (2, .ref al), (3, .int (nI n)), (4, .ref v)]) hx hb dL_told_248 hl (k := 2) rfl rfl (by decide) rfl (fun ls hl => ?_)
            refine lv_goto (tgt := 212) hx hb dL_told_251 (by decide) ?_
            rw [show ((nI r) + (1 : Int32)) = (nI (r + 1)) from (nI_1 r)] at hl
            have eT : ((([] : List Nat) ++ (rwP (qz_D n) r)) ++ (jdg (sc (qz_D n) r))) = rwP (qz_D n) (r + 1) := by rw [List.nil_append]; exact rwP_s (qz_D n) r hcr
            rw [eT] at hP hD
            refine W.widen (k := (60 * qz_N n + 1) + 6 * (r + 1)) (n := (7800 * qz_N n + 10) + 750 * (r + 1)) (by omega) (by omega) ?_
            exact ihd2 (r + 1) ([stc u_36.1 u_36.2.1, byc cyB u_36.2.1 (rwP (qz_D n) (r + 1)).length (tf (rwP (qz_D n) (r + 1)))] ++ E2) u_36.1 H _ ls (by omega) (Or.inr ⟨u_36.2.1, List.mem_cons_self, List.mem_cons_of_mem _ List.mem_cons_self⟩)  hP hD hS (lv_sub hl [0, 3, 4, 1, 5, 6, 7, 8, 9, 10] rfl)
        exact w_212 (sl (qz_D n)) 0 E (kk 0) H _ ls (by omega) (Or.inl ⟨rfl, rfl⟩)  hP hD hS (lv_sub hl [0, 1, 2, 3, 5, 6, 7, 8, 9, 10] rfl)
    | succ d ihd =>
      intro k E t H locs ls hk hsok hP hD hS hl
      have hfk := hf k (by omega)
      have hab := abs_ok hfk.1 hfk.2
      refine lv_iload hx hb dL_told_20 (lv_at hl 0 rfl) ?_
      refine lv_aload hx hb dL_told_22 (lv_at hl 7 rfl) ?_
      refine yf_len hx hb (va_T.kept hT.2.2.2.2 hS.2.1) dL_told_24 ?_
      refine lv_icmp_ge (tgt := 187) hx hb dL_told_25 (by decide) (fun hc => absurd hc (nI_ge (by omega) (by omega))) (fun _ => ?_)
      refine lv_aload hx hb dL_told_28 (lv_at hl 7 rfl) ?_
      refine lv_iload hx hb dL_told_30 (lv_at hl 0 rfl) ?_
      refine yf_ild hx hb (va_T.kept hT.2.2.2.2 hS.2.1) (vp_in_nI (by omega) (by omega)) (v := (fv k)) (by rw [nI_clamp (by omega)]) dL_told_32 ?_
      refine lv_if_ne (tgt := 39) hx hb dL_told_33 (by decide) (fun hc => ?_) (fun hc => ?_)
      · have eT : txP (qz_D n) fv (k + 1) = tmT (txP (qz_D n) fv k) (fv k) (qz_D n + k) := if_neg hc
        have eM : tmN fv (k + 1) = tmN fv k + 1 := if_neg hc
        have hmono := tmN_mono fv (k + 1) d
        rw [show k + 1 + d = qz_N n by omega, eM] at hmono
        have htl := txP_le (qz_D n) fv k (fun j hj => sl_small _ (by omega))
        have hs8 := sl_small (qz_D n + k) (by omega)
        refine lv_iinc (v := ((nI (tmN fv k)) + (1 : Int32))) (lv' := [(5, .int ((nI (tmN fv k)) + (1 : Int32))), (7, .int (nI k)), (6, .ref t), (0, .ref (a 0)), (1, .int (nI s0)), (2, .ref al), (3, .int (nI n)), (4, .ref v)]) hx hb dL_told_39 hl (k := 2) rfl rfl (by decide) rfl (fun ls hl => ?_)
        rw [show ((nI (tmN fv k)) + (1 : Int32)) = (nI (tmN fv (k + 1))) from ((nI_1 (tmN fv k)).trans (congrArg nI eM.symm))] at hl
        refine va_ldcS hx hb hown (hT.2.2.2.1 0 (by decide)).2 dL_told_42 ?_
        refine lv_astore (lv' := [(8, .ref (kk 0)), (5, .int (nI (tmN fv (k + 1)))), (7, .int (nI k)), (6, .ref t), (0, .ref (a 0)), (1, .int (nI s0)), (2, .ref al), (3, .int (nI n)), (4, .ref v)]) hx hb dL_told_44 hl (by decide) rfl (fun ls hl => ?_)
        refine lv_aload_n hx hb dL_told_46 rfl (lv_at hl 6 rfl) ?_
        refine lv_iload_n hx hb dL_told_47 rfl (lv_at hl 7 rfl) ?_
        refine yr_i Cx hP hD hS (yq_none (S := Unit) (wdS a cyI cyJ σ1 ++ E)) (yx_S (n := 1) (As := [.int (nI n)]) (rest := [.ref al]) Cx hP hD hS hl (yq_none (S := Unit) (wdS a cyI cyJ σ1 ++ E)) hK fz_0 (fun hF => trivial) (c_L_first l D cyI cyJ cyB cyQ H.size n (by omega)) pk_L_first mw_3_176 ⟨rfl, rfl, Nat.le_of_ble_eq_true rfl, Nat.le_of_ble_eq_true rfl⟩ rfl rfl (Nat.le_of_ble_eq_true rfl) ⟨(show (60 * k) + 1 ≤ (1030 : Nat) by omega), (show (7800 * k) + 10 ≤ (135000 : Nat) by omega)⟩ dL_told_48) (fun r_2 u_37 H locs hp hP hD hS => ?_)
        have hP : va_P D xcl (wdS a cyI cyJ σ1 ++ E) H := hP
        have hD : va_D A (wdS a cyI cyJ σ1 ++ E) := hD
        rw [hp]
        refine lv_iload hx hb dL_told_51 (lv_at hl 2 rfl) ?_
        refine lv_iadd hx hb dL_told_53 ?_
        rw [nI_add (qz_D n) k]
        refine yf_qld hx hb (va_T.kept hT.2.1.1 hS.2.1) rfl (vp_in_nI (by omega) (by omega)) dL_told_54 ?_
        rw [nI_clamp (by omega)]
        refine lv_astore (lv' := [(9, .ref (B (qz_D n + k))), (8, .ref (kk 0)), (5, .int (nI (tmN fv (k + 1)))), (7, .int (nI k)), (6, .ref t), (0, .ref (a 0)), (1, .int (nI s0)), (2, .ref al), (3, .int (nI n)), (4, .ref v)]) hx hb dL_told_55 hl (by decide) rfl (fun ls hl => ?_)
        refine lv_aload hx hb dL_told_57 (lv_at hl 0 rfl) ?_
        refine yf_len hx hb (va_T.kept (hT.2.1.2 (qz_D n + k) (by omega)) hS.2.1) dL_told_59 ?_
        refine lv_istore (lv' := [(10, .int (nI (sl (qz_D n + k)))), (9, .ref (B (qz_D n + k))), (8, .ref (kk 0)), (5, .int (nI (tmN fv (k + 1)))), (7, .int (nI k)), (6, .ref t), (0, .ref (a 0)), (1, .int (nI s0)), (2, .ref al), (3, .int (nI n)), (4, .ref v)]) hx hb dL_told_60 hl (by decide) rfl (fun ls hl => ?_)
        refine lv_iconst (v := (0 : Int32)) hx hb dL_told_62 (by decide) ?_
        refine lv_istore (lv' := [(11, .int (0 : Int32)), (10, .int (nI (sl (qz_D n + k)))), (9, .ref (B (qz_D n + k))), (8, .ref (kk 0)), (5, .int (nI (tmN fv (k + 1)))), (7, .int (nI k)), (6, .ref t), (0, .ref (a 0)), (1, .int (nI s0)), (2, .ref al), (3, .int (nI n)), (4, .ref v)]) hx hb dL_told_63 hl (by decide) rfl (fun ls hl => ?_)
        have w_65 : ∀ (d2 r : Nat) (E2 : va_W) (rr : Nat) (H : Heap) (locs : List Loc) (ls : Array Slot), r + d2 = sl (qz_D n + k) → SOK cyB E2 (kk 0) rr (rwP (qz_D n + k) r) → SOK cyB E2 (kk 0) t (txP (qz_D n) fv k) → va_P D xcl (wdS a cyI cyJ σ1 ++ E2) H → va_D A (wdS a cyI cyJ σ1 ++ E2) → va_S A s.heap H locs → lv_has ls 13 [(11, .int (nI r)), (10, .int (nI (sl (qz_D n + k)))), (9, .ref (B (qz_D n + k))), (8, .ref rr), (5, .int (nI (tmN fv (k + 1)))), (7, .int (nI k)), (6, .ref t), (0, .ref (a 0)), (1, .int (nI s0)), (2, .ref al), (3, .int (nI n)), (4, .ref v)] → W p0 l e { frames := 8, cells := 1030, slots := 135000, locals := 260 } s m args below meth c H locs ((60 * k + 1) + 6 * r) ((7800 * k + 10) + 750 * r) Q (F0 m 65 ls []) := by
          intro d2
          induction d2 with
          | zero =>
            intro r E2 rr H locs ls hr hrr hx0 hP hD hS hl
            obtain rfl : r = sl (qz_D n + k) := by omega
            have hrr : SOK cyB E2 (kk 0) rr (rwT (qz_D n + k)) := hrr
            refine lv_iload hx hb dL_told_65 (lv_at hl 0 rfl) ?_
            refine lv_iload hx hb dL_told_67 (lv_at hl 1 rfl) ?_
            refine lv_icmp_ge (tgt := 107) hx hb dL_told_69 (by decide) (fun _ => ?_) (fun hc => absurd (Int32.le_refl _) hc)
            refine va_new (ci := 11) (fs := [.null, .int 0, .int 0, .int 0]) (C := RJ4) (T := TJ4) (N := 4) hx hb hts wJ4_in tyJ4 tyJ4_ok hown (hts _ mw_3_211) (hts _ mw_3_212) (hts _ mw_1_15) hK hP hD hS hA rfl (fun j hj => by rcases (show j = 0 ∨ j = 1 ∨ j = 2 ∨ j = 3 by omega) with rfl | rfl | rfl | rfl <;> rfl) (show ((60 * k + 1) + 6 * sl (qz_D n + k)) + 1 ≤ (1030 : Nat) by omega) (show ((7800 * k + 10) + 750 * sl (qz_D n + k)) + 4 ≤ (135000 : Nat) by omega) dL_told_107 (fun q_38 H hP hD hS => ?_)
            have hPD : va_P D xcl ([((q_38, .inr (11, [.null, .int (0 : Int32), .int (0 : Int32), .int (0 : Int32)])) : Nat × va_E)] ++ (wdS a cyI cyJ σ1 ++ E2)) H ∧ va_D A ([((q_38, .inr (11, [.null, .int (0 : Int32), .int (0 : Int32), .int (0 : Int32)])) : Nat × va_E)] ++ (wdS a cyI cyJ σ1 ++ E2)) := y_perm hP hD List.perm_append_comm
            obtain ⟨hP, hD⟩ := hPD
            refine lv_dup hx hb dL_told_110 rfl ?_
            refine yr_v Cx hP hD hS (yq_front (S := Nat) [((q_38, .inr (11, [.null, .int (0 : Int32), .int (0 : Int32), .int (0 : Int32)])) : Nat × va_E)] (wdS a cyI cyJ σ1 ++ E2) (fun u_39 => [((q_38, .inr (11, [.ref u_39, .int (0 : Int32), .int (0 : Int32), .int (0 : Int32)])) : Nat × va_E), ((u_39, .inl (cyB, 16, .inl (fun _ => (0 : Int32)))) : Nat × va_E)]) 2 (fun _ => rfl)) (yx_I (n := 0) (As := []) (rest := [.ref q_38]) Cx hP hD hS hl (yq_front (S := Nat) [((q_38, .inr (11, [.null, .int (0 : Int32), .int (0 : Int32), .int (0 : Int32)])) : Nat × va_E)] (wdS a cyI cyJ σ1 ++ E2) (fun u_39 => [((q_38, .inr (11, [.ref u_39, .int (0 : Int32), .int (0 : Int32), .int (0 : Int32)])) : Nat × va_E), ((u_39, .inl (cyB, 16, .inl (fun _ => (0 : Int32)))) : Nat × va_E)]) 2 (fun _ => rfl)) hK (fz_ZJ g) (fun hF => (fz_give (fz_ZJ g) hT.2.2.1 hS hF)) (c_J4_init_da8c8 l D cyI cyJ cyB cyQ g H.size q_38) pk_J4_init_da8c8 mw_3_213 ⟨rfl, rfl, Nat.le_of_ble_eq_true rfl, Nat.le_of_ble_eq_true rfl⟩ rfl rfl (Nat.le_of_ble_eq_true rfl) ⟨(show (((60 * k + 1) + 6 * sl (qz_D n + k)) + 1) + 1 ≤ (1030 : Nat) by omega), (show (((7800 * k + 10) + 750 * sl (qz_D n + k)) + 4) + 16 ≤ (135000 : Nat) by omega)⟩ dL_told_111) (fun u_39 H locs hp hP hD hS => ?_)
            have hP : va_P D xcl ([((q_38, .inr (11, [.ref u_39, .int (0 : Int32), .int (0 : Int32), .int (0 : Int32)])) : Nat × va_E), ((u_39, .inl (cyB, 16, .inl (fun _ => (0 : Int32)))) : Nat × va_E)] ++ (wdS a cyI cyJ σ1 ++ E2)) H := hP
            have hD : va_D A ([((q_38, .inr (11, [.ref u_39, .int (0 : Int32), .int (0 : Int32), .int (0 : Int32)])) : Nat × va_E), ((u_39, .inl (cyB, 16, .inl (fun _ => (0 : Int32)))) : Nat × va_E)] ++ (wdS a cyI cyJ σ1 ++ E2)) := hD
            have hP : va_P D xcl ([(sbc q_38 u_39 0 (([] : List Nat).length)), (byc cyB u_39 16 (fun _ => (0 : Int32)))] ++ (wdS a cyI cyJ σ1 ++ E2)) H := hP
            have hD : va_D A ([(sbc q_38 u_39 0 (([] : List Nat).length)), (byc cyB u_39 16 (fun _ => (0 : Int32)))] ++ (wdS a cyI cyJ σ1 ++ E2)) := hD
            refine lv_aload hx hb dL_told_114 (lv_at hl 6 rfl) ?_
            obtain ⟨v_40, hz_41⟩ := sok_give (wc := [(sbc q_38 u_39 0 (([] : List Nat).length)), (byc cyB u_39 16 (fun _ => (0 : Int32)))]) (C := wdS a cyI cyJ σ1) (E := E2) hts hK hP hD hS hA (hT.2.2.2.1 0 (by decide)).1 hx0
            refine yr_r Cx hP hD hS (yq_front (S := (Nat × Nat × (Nat → Int32))) [(sbc q_38 u_39 0 (([] : List Nat).length)), (byc cyB u_39 16 (fun _ => (0 : Int32)))] (wdS a cyI cyJ σ1 ++ E2) (fun u_42 => [(sbc q_38 u_42.1 0 (([] : List Nat).length + (txP (qz_D n) fv k).length)), (byc cyB u_42.1 u_42.2.1 u_42.2.2)]) 2 (fun _ => rfl)) (yx_V (n := 1) (As := [.ref t]) (rest := []) Cx hP hD hS hl (yq_front (S := (Nat × Nat × (Nat → Int32))) [(sbc q_38 u_39 0 (([] : List Nat).length)), (byc cyB u_39 16 (fun _ => (0 : Int32)))] (wdS a cyI cyJ σ1 ++ E2) (fun u_42 => [(sbc q_38 u_42.1 0 (([] : List Nat).length + (txP (qz_D n) fv k).length)), (byc cyB u_42.1 u_42.2.1 u_42.2.2)]) 2 (fun _ => rfl)) hK (fz_and (fz_ZJ g) (fz_ZS t v_40 (txP (qz_D n) fv k).length (tf (txP (qz_D n) fv k)))) (fun hF => ⟨fz_give (fz_ZJ g) hT.2.2.1 hS hF, hz_41⟩) (c_J4_append_15ec4 l D cyI cyJ cyB cyQ g H.size q_38 u_39 16 (fun _ => (0 : Int32)) 0 ([] : List Nat).length t v_40 (txP (qz_D n) fv k).length (tf (txP (qz_D n) fv k)) blOK_0.2.1 blOK_0.1 (by simp only [List.length_nil]; omega) blOK_0.2.2.1 (tf_fit _)) pk_J4_append_15ec4 mw_4_3 ⟨rfl, rfl, Nat.le_of_ble_eq_true rfl, Nat.le_of_ble_eq_true rfl⟩ (va_recv hK hP rfl (q0 := 0) rfl) rfl rfl (Nat.le_of_ble_eq_true rfl) ⟨(show ((((60 * k + 1) + 6 * sl (qz_D n + k)) + 1) + 1) + 1 ≤ (1030 : Nat) by omega), (show ((((7800 * k + 10) + 750 * sl (qz_D n + k)) + 4) + 16) + 242 ≤ (135000 : Nat) by omega)⟩ dL_told_116) (fun u_42 H locs hp hP hD hS => ?_)
            have hP : va_P D xcl ([(sbc q_38 u_42.1 0 (([] : List Nat).length + (txP (qz_D n) fv k).length)), (byc cyB u_42.1 u_42.2.1 u_42.2.2)] ++ (wdS a cyI cyJ σ1 ++ E2)) H := hP
            have hD : va_D A ([(sbc q_38 u_42.1 0 (([] : List Nat).length + (txP (qz_D n) fv k).length)), (byc cyB u_42.1 u_42.2.1 u_42.2.2)] ++ (wdS a cyI cyJ σ1 ++ E2)) := hD
            have hB_43 := blOK_app blOK_0 hp.1 hp.2.1 hp.2.2.1 hp.2.2.2.1 hp.2.2.2.2
            have eL : ([] : List Nat).length + (txP (qz_D n) fv k).length = (([] : List Nat) ++ (txP (qz_D n) fv k)).length := List.length_append.symm
            rw [eL] at hP hD
            have hP : va_P D xcl ([(sbc q_38 u_42.1 0 ((([] : List Nat) ++ (txP (qz_D n) fv k)).length)), (byc cyB u_42.1 u_42.2.1 u_42.2.2)] ++ (wdS a cyI cyJ σ1 ++ E2)) H := hP
            have hD : va_D A ([(sbc q_38 u_42.1 0 ((([] : List Nat) ++ (txP (qz_D n) fv k)).length)), (byc cyB u_42.1 u_42.2.1 u_42.2.2)] ++ (wdS a cyI cyJ σ1 ++ E2)) := hD
            refine lv_aload hx hb dL_told_119 (lv_at hl 11 rfl) ?_
            refine lv_iload hx hb dL_told_121 (lv_at hl 5 rfl) ?_
            refine yf_ild hx hb (va_T.kept hT.2.2.2.2 hS.2.1) (vp_in_nI (by omega) (by omega)) (v := (fv k)) (by rw [nI_clamp (by omega)]) dL_told_123 ?_
            have w_147 : ∀ (i : Nat) (H : Heap) (locs : List Loc) (ls : Array Slot), i < 6 → (kT.getD i []) = sgT (txP (qz_D n) fv k) (fv k) → va_P D xcl ([(sbc q_38 u_42.1 0 ((([] : List Nat) ++ (txP (qz_D n) fv k)).length)), (byc cyB u_42.1 u_42.2.1 u_42.2.2)] ++ (wdS a cyI cyJ σ1 ++ E2)) H → va_D A ([(sbc q_38 u_42.1 0 ((([] : List Nat) ++ (txP (qz_D n) fv k)).length)), (byc cyB u_42.1 u_42.2.1 u_42.2.2)] ++ (wdS a cyI cyJ σ1 ++ E2)) → va_S A s.heap H locs → lv_has ls 13 [(11, .int (nI (sl (qz_D n + k)))), (10, .int (nI (sl (qz_D n + k)))), (9, .ref (B (qz_D n + k))), (8, .ref rr), (5, .int (nI (tmN fv (k + 1)))), (7, .int (nI k)), (6, .ref t), (0, .ref (a 0)), (1, .int (nI s0)), (2, .ref al), (3, .int (nI n)), (4, .ref v)] → W p0 l e { frames := 8, cells := 1030, slots := 135000, locals := 260 } s m args below meth c H locs (((((60 * k + 1) + 6 * sl (qz_D n + k)) + 1) + 1) + 1) (((((7800 * k + 10) + 750 * sl (qz_D n + k)) + 4) + 16) + 242) Q (F0 m 147 ls [.ref (kk i), .ref q_38]) := by
              intro i H locs ls hi6 hkt hP hD hS hl
              have hsg := sgT_le (txP (qz_D n) fv k) (fv k)
              refine yr_r Cx hP hD hS (yq_front (S := (Nat × Nat × (Nat → Int32))) [(sbc q_38 u_42.1 0 ((([] : List Nat) ++ (txP (qz_D n) fv k)).length)), (byc cyB u_42.1 u_42.2.1 u_42.2.2)] (wdS a cyI cyJ σ1 ++ E2) (fun u_44 => [(sbc q_38 u_44.1 0 ((([] : List Nat) ++ (txP (qz_D n) fv k)).length + (kT.getD i []).length)), (byc cyB u_44.1 u_44.2.1 u_44.2.2)]) 2 (fun _ => rfl)) (yx_V (n := 1) (As := [.ref (kk i)]) (rest := []) Cx hP hD hS hl (yq_front (S := (Nat × Nat × (Nat → Int32))) [(sbc q_38 u_42.1 0 ((([] : List Nat) ++ (txP (qz_D n) fv k)).length)), (byc cyB u_42.1 u_42.2.1 u_42.2.2)] (wdS a cyI cyJ σ1 ++ E2) (fun u_44 => [(sbc q_38 u_44.1 0 ((([] : List Nat) ++ (txP (qz_D n) fv k)).length + (kT.getD i []).length)), (byc cyB u_44.1 u_44.2.1 u_44.2.2)]) 2 (fun _ => rfl)) hK (fz_and (fz_ZJ g) (fz_ZS (kk i) (kv i) (kT.getD i []).length (tf (kT.getD i [])))) (fun hF => ⟨fz_give (fz_ZJ g) hT.2.2.1 hS hF, (fz_give (fz_ZS _ _ _ _) (hT.2.2.2.1 i (by omega)).1 hS hF)⟩) (c_J4_append_15ec4 l D cyI cyJ cyB cyQ g H.size q_38 u_42.1 u_42.2.1 u_42.2.2 0 (([] : List Nat) ++ (txP (qz_D n) fv k)).length (kk i) (kv i) (kT.getD i []).length (tf (kT.getD i [])) hB_43.2.1 hB_43.1 (by rw [hkt, List.nil_append]; omega) hB_43.2.2.1 (tf_fit _)) pk_J4_append_15ec4 mw_4_3 ⟨rfl, rfl, Nat.le_of_ble_eq_true rfl, Nat.le_of_ble_eq_true rfl⟩ (va_recv hK hP rfl (q0 := 0) rfl) rfl rfl (Nat.le_of_ble_eq_true rfl) ⟨(show (((((60 * k + 1) + 6 * sl (qz_D n + k)) + 1) + 1) + 1) + 1 ≤ (1030 : Nat) by omega), (show (((((7800 * k + 10) + 750 * sl (qz_D n + k)) + 4) + 16) + 242) + 242 ≤ (135000 : Nat) by omega)⟩ dL_told_147) (fun u_44 H locs hp hP hD hS => ?_)
              have hP : va_P D xcl ([(sbc q_38 u_44.1 0 ((([] : List Nat) ++ (txP (qz_D n) fv k)).length + (kT.getD i []).length)), (byc cyB u_44.1 u_44.2.1 u_44.2.2)] ++ (wdS a cyI cyJ σ1 ++ E2)) H := hP
              have hD : va_D A ([(sbc q_38 u_44.1 0 ((([] : List Nat) ++ (txP (qz_D n) fv k)).length + (kT.getD i []).length)), (byc cyB u_44.1 u_44.2.1 u_44.2.2)] ++ (wdS a cyI cyJ σ1 ++ E2)) := hD
              have hB_45 := blOK_app hB_43 hp.1 hp.2.1 hp.2.2.1 hp.2.2.2.1 hp.2.2.2.2
              have eL : (([] : List Nat) ++ (txP (qz_D n) fv k)).length + (kT.getD i []).length = ((([] : List Nat) ++ (txP (qz_D n) fv k)) ++ (kT.getD i [])).length := List.length_append.symm
              rw [eL] at hP hD
              have hP : va_P D xcl ([(sbc q_38 u_44.1 0 (((([] : List Nat) ++ (txP (qz_D n) fv k)) ++ (kT.getD i [])).length)), (byc cyB u_44.1 u_44.2.1 u_44.2.2)] ++ (wdS a cyI cyJ σ1 ++ E2)) H := hP
              have hD : va_D A ([(sbc q_38 u_44.1 0 (((([] : List Nat) ++ (txP (qz_D n) fv k)) ++ (kT.getD i [])).length)), (byc cyB u_44.1 u_44.2.1 u_44.2.2)] ++ (wdS a cyI cyJ σ1 ++ E2)) := hD
              rw [hkt] at hP hD
              have hB_45' := hB_45
              rw [hkt] at hB_45'
              have hP : va_P D xcl ([(sbc q_38 u_44.1 0 (((([] : List Nat) ++ (txP (qz_D n) fv k)) ++ sgT (txP (qz_D n) fv k) (fv k)).length)), (byc cyB u_44.1 u_44.2.1 u_44.2.2)] ++ (wdS a cyI cyJ σ1 ++ E2)) H := hP
              have hD : va_D A ([(sbc q_38 u_44.1 0 (((([] : List Nat) ++ (txP (qz_D n) fv k)) ++ sgT (txP (qz_D n) fv k) (fv k)).length)), (byc cyB u_44.1 u_44.2.1 u_44.2.2)] ++ (wdS a cyI cyJ σ1 ++ E2)) := hD
              refine lv_aload hx hb dL_told_150 (lv_at hl 11 rfl) ?_
              refine lv_iload hx hb dL_told_152 (lv_at hl 5 rfl) ?_
              refine yf_ild hx hb (va_T.kept hT.2.2.2.2 hS.2.1) (vp_in_nI (by omega) (by omega)) (v := (fv k)) (by rw [nI_clamp (by omega)]) dL_told_154 ?_
              refine va_mabs hx hb (hml.trans hl.1.symm) hown (hts _ mw_4_205) (hts _ mw_4_206) (hts _ mw_1_12) (hts _ mw_4_207) (Nat.le_of_ble_eq_true rfl) (Nat.le_of_ble_eq_true rfl) (show ((((((60 * k + 1) + 6 * sl (qz_D n + k)) + 1) + 1) + 1) + 1) ≤ (1030 : Nat) by omega) (show ((((((7800 * k + 10) + 750 * sl (qz_D n + k)) + 4) + 16) + 242) + 242) ≤ (135000 : Nat) by omega) dL_told_155 ?_
              rw [hab.2]
              have hrl := rwT_len (qz_D n + k)
              have hjl := jdg_le (absN (fv k))
              have h3l : (kT.getD 3 []).length = 1 := rfl
              have h4l : (kT.getD 4 []).length = 1 := rfl
              refine yr_r Cx hP hD hS (yq_front (S := (Nat × Nat × (Nat → Int32))) [(sbc q_38 u_44.1 0 (((([] : List Nat) ++ (txP (qz_D n) fv k)) ++ sgT (txP (qz_D n) fv k) (fv k)).length)), (byc cyB u_44.1 u_44.2.1 u_44.2.2)] (wdS a cyI cyJ σ1 ++ E2) (fun u_46 => [(sbc q_38 u_46.1 0 (((([] : List Nat) ++ (txP (qz_D n) fv k)) ++ sgT (txP (qz_D n) fv k) (fv k)).length + (jdg (absN (fv k))).length)), (byc cyB u_46.1 u_46.2.1 u_46.2.2)]) 2 (fun _ => rfl)) (yx_V (n := 1) (As := [.int (nI (absN (fv k)))]) (rest := []) Cx hP hD hS hl (yq_front (S := (Nat × Nat × (Nat → Int32))) [(sbc q_38 u_44.1 0 (((([] : List Nat) ++ (txP (qz_D n) fv k)) ++ sgT (txP (qz_D n) fv k) (fv k)).length)), (byc cyB u_44.1 u_44.2.1 u_44.2.2)] (wdS a cyI cyJ σ1 ++ E2) (fun u_46 => [(sbc q_38 u_46.1 0 (((([] : List Nat) ++ (txP (qz_D n) fv k)) ++ sgT (txP (qz_D n) fv k) (fv k)).length + (jdg (absN (fv k))).length)), (byc cyB u_46.1 u_46.2.1 u_46.2.2)]) 2 (fun _ => rfl)) hK (fz_ZJ g) (fun hF => (fz_give (fz_ZJ g) hT.2.2.1 hS hF)) (c_J4_append_bf812 l D cyI cyJ cyB cyQ g H.size q_38 u_44.1 u_44.2.1 u_44.2.2 0 ((([] : List Nat) ++ (txP (qz_D n) fv k)) ++ sgT (txP (qz_D n) fv k) (fv k)).length (absN (fv k)) (by omega) hB_45'.2.1 hB_45'.1 (by simp only [List.length_append, List.length_nil]; omega) hB_45'.2.2.1) pk_J4_append_bf812 mw_4_117 ⟨rfl, rfl, Nat.le_of_ble_eq_true rfl, Nat.le_of_ble_eq_true rfl⟩ (va_recv hK hP rfl (q0 := 0) rfl) rfl rfl (Nat.le_of_ble_eq_true rfl) ⟨(show ((((((60 * k + 1) + 6 * sl (qz_D n + k)) + 1) + 1) + 1) + 1) + 1 ≤ (1030 : Nat) by omega), (show ((((((7800 * k + 10) + 750 * sl (qz_D n + k)) + 4) + 16) + 242) + 242) + 242 ≤ (135000 : Nat) by omega)⟩ dL_told_158) (fun u_46 H locs hp hP hD hS => ?_)
              have hP : va_P D xcl ([(sbc q_38 u_46.1 0 (((([] : List Nat) ++ (txP (qz_D n) fv k)) ++ sgT (txP (qz_D n) fv k) (fv k)).length + (jdg (absN (fv k))).length)), (byc cyB u_46.1 u_46.2.1 u_46.2.2)] ++ (wdS a cyI cyJ σ1 ++ E2)) H := hP
              have hD : va_D A ([(sbc q_38 u_46.1 0 (((([] : List Nat) ++ (txP (qz_D n) fv k)) ++ sgT (txP (qz_D n) fv k) (fv k)).length + (jdg (absN (fv k))).length)), (byc cyB u_46.1 u_46.2.1 u_46.2.2)] ++ (wdS a cyI cyJ σ1 ++ E2)) := hD
              have hB_47 := blOK_app (T1 := (jdg (absN (fv k)))) hB_45' hp.1 hp.2.1 hp.2.2.1 hp.2.2.2.1 hp.2.2.2.2
              have eL : ((([] : List Nat) ++ (txP (qz_D n) fv k)) ++ sgT (txP (qz_D n) fv k) (fv k)).length + (jdg (absN (fv k))).length = (((([] : List Nat) ++ (txP (qz_D n) fv k)) ++ sgT (txP (qz_D n) fv k) (fv k)) ++ (jdg (absN (fv k)))).length := List.length_append.symm
              rw [eL] at hP hD
              have hP : va_P D xcl ([(sbc q_38 u_46.1 0 ((((([] : List Nat) ++ (txP (qz_D n) fv k)) ++ sgT (txP (qz_D n) fv k) (fv k)) ++ (jdg (absN (fv k)))).length)), (byc cyB u_46.1 u_46.2.1 u_46.2.2)] ++ (wdS a cyI cyJ σ1 ++ E2)) H := hP
              have hD : va_D A ([(sbc q_38 u_46.1 0 ((((([] : List Nat) ++ (txP (qz_D n) fv k)) ++ sgT (txP (qz_D n) fv k) (fv k)) ++ (jdg (absN (fv k)))).length)), (byc cyB u_46.1 u_46.2.1 u_46.2.2)] ++ (wdS a cyI cyJ σ1 ++ E2)) := hD
              refine va_ldcS hx hb hown (hT.2.2.2.1 3 (by decide)).2 dL_told_161 ?_
              refine yr_r Cx hP hD hS (yq_front (S := (Nat × Nat × (Nat → Int32))) [(sbc q_38 u_46.1 0 ((((([] : List Nat) ++ (txP (qz_D n) fv k)) ++ sgT (txP (qz_D n) fv k) (fv k)) ++ (jdg (absN (fv k)))).length)), (byc cyB u_46.1 u_46.2.1 u_46.2.2)] (wdS a cyI cyJ σ1 ++ E2) (fun u_48 => [(sbc q_38 u_48.1 0 ((((([] : List Nat) ++ (txP (qz_D n) fv k)) ++ sgT (txP (qz_D n) fv k) (fv k)) ++ (jdg (absN (fv k)))).length + (kT.getD 3 []).length)), (byc cyB u_48.1 u_48.2.1 u_48.2.2)]) 2 (fun _ => rfl)) (yx_V (n := 1) (As := [.ref (kk 3)]) (rest := []) Cx hP hD hS hl (yq_front (S := (Nat × Nat × (Nat → Int32))) [(sbc q_38 u_46.1 0 ((((([] : List Nat) ++ (txP (qz_D n) fv k)) ++ sgT (txP (qz_D n) fv k) (fv k)) ++ (jdg (absN (fv k)))).length)), (byc cyB u_46.1 u_46.2.1 u_46.2.2)] (wdS a cyI cyJ σ1 ++ E2) (fun u_48 => [(sbc q_38 u_48.1 0 ((((([] : List Nat) ++ (txP (qz_D n) fv k)) ++ sgT (txP (qz_D n) fv k) (fv k)) ++ (jdg (absN (fv k)))).length + (kT.getD 3 []).length)), (byc cyB u_48.1 u_48.2.1 u_48.2.2)]) 2 (fun _ => rfl)) hK (fz_and (fz_ZJ g) (fz_ZS (kk 3) (kv 3) (kT.getD 3 []).length (tf (kT.getD 3 [])))) (fun hF => ⟨fz_give (fz_ZJ g) hT.2.2.1 hS hF, (fz_give (fz_ZS _ _ _ _) (hT.2.2.2.1 3 (by omega)).1 hS hF)⟩) (c_J4_append_15ec4 l D cyI cyJ cyB cyQ g H.size q_38 u_46.1 u_46.2.1 u_46.2.2 0 (((([] : List Nat) ++ (txP (qz_D n) fv k)) ++ sgT (txP (qz_D n) fv k) (fv k)) ++ (jdg (absN (fv k)))).length (kk 3) (kv 3) (kT.getD 3 []).length (tf (kT.getD 3 [])) hB_47.2.1 hB_47.1 (by simp only [List.length_append, List.length_nil]; omega) hB_47.2.2.1 (tf_fit _)) pk_J4_append_15ec4 mw_4_3 ⟨rfl, rfl, Nat.le_of_ble_eq_true rfl, Nat.le_of_ble_eq_true rfl⟩ (va_recv hK hP rfl (q0 := 0) rfl) rfl rfl (Nat.le_of_ble_eq_true rfl) ⟨(show (((((((60 * k + 1) + 6 * sl (qz_D n + k)) + 1) + 1) + 1) + 1) + 1) + 1 ≤ (1030 : Nat) by omega), (show (((((((7800 * k + 10) + 750 * sl (qz_D n + k)) + 4) + 16) + 242) + 242) + 242) + 242 ≤ (135000 : Nat) by omega)⟩ dL_told_163) (fun u_48 H locs hp hP hD hS => ?_)
              have hP : va_P D xcl ([(sbc q_38 u_48.1 0 ((((([] : List Nat) ++ (txP (qz_D n) fv k)) ++ sgT (txP (qz_D n) fv k) (fv k)) ++ (jdg (absN (fv k)))).length + (kT.getD 3 []).length)), (byc cyB u_48.1 u_48.2.1 u_48.2.2)] ++ (wdS a cyI cyJ σ1 ++ E2)) H := hP
              have hD : va_D A ([(sbc q_38 u_48.1 0 ((((([] : List Nat) ++ (txP (qz_D n) fv k)) ++ sgT (txP (qz_D n) fv k) (fv k)) ++ (jdg (absN (fv k)))).length + (kT.getD 3 []).length)), (byc cyB u_48.1 u_48.2.1 u_48.2.2)] ++ (wdS a cyI cyJ σ1 ++ E2)) := hD
              have hB_49 := blOK_app hB_47 hp.1 hp.2.1 hp.2.2.1 hp.2.2.2.1 hp.2.2.2.2
              have eL : (((([] : List Nat) ++ (txP (qz_D n) fv k)) ++ sgT (txP (qz_D n) fv k) (fv k)) ++ (jdg (absN (fv k)))).length + (kT.getD 3 []).length = ((((([] : List Nat) ++ (txP (qz_D n) fv k)) ++ sgT (txP (qz_D n) fv k) (fv k)) ++ (jdg (absN (fv k)))) ++ (kT.getD 3 [])).length := List.length_append.symm
              rw [eL] at hP hD
              have hP : va_P D xcl ([(sbc q_38 u_48.1 0 (((((([] : List Nat) ++ (txP (qz_D n) fv k)) ++ sgT (txP (qz_D n) fv k) (fv k)) ++ (jdg (absN (fv k)))) ++ (kT.getD 3 [])).length)), (byc cyB u_48.1 u_48.2.1 u_48.2.2)] ++ (wdS a cyI cyJ σ1 ++ E2)) H := hP
              have hD : va_D A ([(sbc q_38 u_48.1 0 (((((([] : List Nat) ++ (txP (qz_D n) fv k)) ++ sgT (txP (qz_D n) fv k) (fv k)) ++ (jdg (absN (fv k)))) ++ (kT.getD 3 [])).length)), (byc cyB u_48.1 u_48.2.1 u_48.2.2)] ++ (wdS a cyI cyJ σ1 ++ E2)) := hD
              refine lv_aload hx hb dL_told_166 (lv_at hl 3 rfl) ?_
              obtain ⟨v_50, hz_51⟩ := sok_give (wc := [(sbc q_38 u_48.1 0 (((((([] : List Nat) ++ (txP (qz_D n) fv k)) ++ sgT (txP (qz_D n) fv k) (fv k)) ++ (jdg (absN (fv k)))) ++ (kT.getD 3 [])).length)), (byc cyB u_48.1 u_48.2.1 u_48.2.2)]) (C := wdS a cyI cyJ σ1) (E := E2) hts hK hP hD hS hA (hT.2.2.2.1 0 (by decide)).1 hrr
              refine yr_r Cx hP hD hS (yq_front (S := (Nat × Nat × (Nat → Int32))) [(sbc q_38 u_48.1 0 (((((([] : List Nat) ++ (txP (qz_D n) fv k)) ++ sgT (txP (qz_D n) fv k) (fv k)) ++ (jdg (absN (fv k)))) ++ (kT.getD 3 [])).length)), (byc cyB u_48.1 u_48.2.1 u_48.2.2)] (wdS a cyI cyJ σ1 ++ E2) (fun u_52 => [(sbc q_38 u_52.1 0 (((((([] : List Nat) ++ (txP (qz_D n) fv k)) ++ sgT (txP (qz_D n) fv k) (fv k)) ++ (jdg (absN (fv k)))) ++ (kT.getD 3 [])).length + (rwT (qz_D n + k)).length)), (byc cyB u_52.1 u_52.2.1 u_52.2.2)]) 2 (fun _ => rfl)) (yx_V (n := 1) (As := [.ref rr]) (rest := []) Cx hP hD hS hl (yq_front (S := (Nat × Nat × (Nat → Int32))) [(sbc q_38 u_48.1 0 (((((([] : List Nat) ++ (txP (qz_D n) fv k)) ++ sgT (txP (qz_D n) fv k) (fv k)) ++ (jdg (absN (fv k)))) ++ (kT.getD 3 [])).length)), (byc cyB u_48.1 u_48.2.1 u_48.2.2)] (wdS a cyI cyJ σ1 ++ E2) (fun u_52 => [(sbc q_38 u_52.1 0 (((((([] : List Nat) ++ (txP (qz_D n) fv k)) ++ sgT (txP (qz_D n) fv k) (fv k)) ++ (jdg (absN (fv k)))) ++ (kT.getD 3 [])).length + (rwT (qz_D n + k)).length)), (byc cyB u_52.1 u_52.2.1 u_52.2.2)]) 2 (fun _ => rfl)) hK (fz_and (fz_ZJ g) (fz_ZS rr v_50 (rwT (qz_D n + k)).length (tf (rwT (qz_D n + k))))) (fun hF => ⟨fz_give (fz_ZJ g) hT.2.2.1 hS hF, hz_51⟩) (c_J4_append_15ec4 l D cyI cyJ cyB cyQ g H.size q_38 u_48.1 u_48.2.1 u_48.2.2 0 ((((([] : List Nat) ++ (txP (qz_D n) fv k)) ++ sgT (txP (qz_D n) fv k) (fv k)) ++ (jdg (absN (fv k)))) ++ (kT.getD 3 [])).length rr v_50 (rwT (qz_D n + k)).length (tf (rwT (qz_D n + k))) hB_49.2.1 hB_49.1 (by simp only [List.length_append, List.length_nil]; omega) hB_49.2.2.1 (tf_fit _)) pk_J4_append_15ec4 mw_4_3 ⟨rfl, rfl, Nat.le_of_ble_eq_true rfl, Nat.le_of_ble_eq_true rfl⟩ (va_recv hK hP rfl (q0 := 0) rfl) rfl rfl (Nat.le_of_ble_eq_true rfl) ⟨(show ((((((((60 * k + 1) + 6 * sl (qz_D n + k)) + 1) + 1) + 1) + 1) + 1) + 1) + 1 ≤ (1030 : Nat) by omega), (show ((((((((7800 * k + 10) + 750 * sl (qz_D n + k)) + 4) + 16) + 242) + 242) + 242) + 242) + 242 ≤ (135000 : Nat) by omega)⟩ dL_told_168) (fun u_52 H locs hp hP hD hS => ?_)
              have hP : va_P D xcl ([(sbc q_38 u_52.1 0 (((((([] : List Nat) ++ (txP (qz_D n) fv k)) ++ sgT (txP (qz_D n) fv k) (fv k)) ++ (jdg (absN (fv k)))) ++ (kT.getD 3 [])).length + (rwT (qz_D n + k)).length)), (byc cyB u_52.1 u_52.2.1 u_52.2.2)] ++ (wdS a cyI cyJ σ1 ++ E2)) H := hP
              have hD : va_D A ([(sbc q_38 u_52.1 0 (((((([] : List Nat) ++ (txP (qz_D n) fv k)) ++ sgT (txP (qz_D n) fv k) (fv k)) ++ (jdg (absN (fv k)))) ++ (kT.getD 3 [])).length + (rwT (qz_D n + k)).length)), (byc cyB u_52.1 u_52.2.1 u_52.2.2)] ++ (wdS a cyI cyJ σ1 ++ E2)) := hD
              have hB_53 := blOK_app hB_49 hp.1 hp.2.1 hp.2.2.1 hp.2.2.2.1 hp.2.2.2.2
              have eL : ((((([] : List Nat) ++ (txP (qz_D n) fv k)) ++ sgT (txP (qz_D n) fv k) (fv k)) ++ (jdg (absN (fv k)))) ++ (kT.getD 3 [])).length + (rwT (qz_D n + k)).length = (((((([] : List Nat) ++ (txP (qz_D n) fv k)) ++ sgT (txP (qz_D n) fv k) (fv k)) ++ (jdg (absN (fv k)))) ++ (kT.getD 3 [])) ++ (rwT (qz_D n + k))).length := List.length_append.symm
              rw [eL] at hP hD
              have hP : va_P D xcl ([(sbc q_38 u_52.1 0 ((((((([] : List Nat) ++ (txP (qz_D n) fv k)) ++ sgT (txP (qz_D n) fv k) (fv k)) ++ (jdg (absN (fv k)))) ++ (kT.getD 3 [])) ++ (rwT (qz_D n + k))).length)), (byc cyB u_52.1 u_52.2.1 u_52.2.2)] ++ (wdS a cyI cyJ σ1 ++ E2)) H := hP
              have hD : va_D A ([(sbc q_38 u_52.1 0 ((((((([] : List Nat) ++ (txP (qz_D n) fv k)) ++ sgT (txP (qz_D n) fv k) (fv k)) ++ (jdg (absN (fv k)))) ++ (kT.getD 3 [])) ++ (rwT (qz_D n + k))).length)), (byc cyB u_52.1 u_52.2.1 u_52.2.2)] ++ (wdS a cyI cyJ σ1 ++ E2)) := hD
              refine va_ldcS hx hb hown (hT.2.2.2.1 4 (by decide)).2 dL_told_171 ?_
              refine yr_r Cx hP hD hS (yq_front (S := (Nat × Nat × (Nat → Int32))) [(sbc q_38 u_52.1 0 ((((((([] : List Nat) ++ (txP (qz_D n) fv k)) ++ sgT (txP (qz_D n) fv k) (fv k)) ++ (jdg (absN (fv k)))) ++ (kT.getD 3 [])) ++ (rwT (qz_D n + k))).length)), (byc cyB u_52.1 u_52.2.1 u_52.2.2)] (wdS a cyI cyJ σ1 ++ E2) (fun u_54 => [(sbc q_38 u_54.1 0 ((((((([] : List Nat) ++ (txP (qz_D n) fv k)) ++ sgT (txP (qz_D n) fv k) (fv k)) ++ (jdg (absN (fv k)))) ++ (kT.getD 3 [])) ++ (rwT (qz_D n + k))).length + (kT.getD 4 []).length)), (byc cyB u_54.1 u_54.2.1 u_54.2.2)]) 2 (fun _ => rfl)) (yx_V (n := 1) (As := [.ref (kk 4)]) (rest := []) Cx hP hD hS hl (yq_front (S := (Nat × Nat × (Nat → Int32))) [(sbc q_38 u_52.1 0 ((((((([] : List Nat) ++ (txP (qz_D n) fv k)) ++ sgT (txP (qz_D n) fv k) (fv k)) ++ (jdg (absN (fv k)))) ++ (kT.getD 3 [])) ++ (rwT (qz_D n + k))).length)), (byc cyB u_52.1 u_52.2.1 u_52.2.2)] (wdS a cyI cyJ σ1 ++ E2) (fun u_54 => [(sbc q_38 u_54.1 0 ((((((([] : List Nat) ++ (txP (qz_D n) fv k)) ++ sgT (txP (qz_D n) fv k) (fv k)) ++ (jdg (absN (fv k)))) ++ (kT.getD 3 [])) ++ (rwT (qz_D n + k))).length + (kT.getD 4 []).length)), (byc cyB u_54.1 u_54.2.1 u_54.2.2)]) 2 (fun _ => rfl)) hK (fz_and (fz_ZJ g) (fz_ZS (kk 4) (kv 4) (kT.getD 4 []).length (tf (kT.getD 4 [])))) (fun hF => ⟨fz_give (fz_ZJ g) hT.2.2.1 hS hF, (fz_give (fz_ZS _ _ _ _) (hT.2.2.2.1 4 (by omega)).1 hS hF)⟩) (c_J4_append_15ec4 l D cyI cyJ cyB cyQ g H.size q_38 u_52.1 u_52.2.1 u_52.2.2 0 (((((([] : List Nat) ++ (txP (qz_D n) fv k)) ++ sgT (txP (qz_D n) fv k) (fv k)) ++ (jdg (absN (fv k)))) ++ (kT.getD 3 [])) ++ (rwT (qz_D n + k))).length (kk 4) (kv 4) (kT.getD 4 []).length (tf (kT.getD 4 [])) hB_53.2.1 hB_53.1 (by simp only [List.length_append, List.length_nil]; omega) hB_53.2.2.1 (tf_fit _)) pk_J4_append_15ec4 mw_4_3 ⟨rfl, rfl, Nat.le_of_ble_eq_true rfl, Nat.le_of_ble_eq_true rfl⟩ (va_recv hK hP rfl (q0 := 0) rfl) rfl rfl (Nat.le_of_ble_eq_true rfl) ⟨(show (((((((((60 * k + 1) + 6 * sl (qz_D n + k)) + 1) + 1) + 1) + 1) + 1) + 1) + 1) + 1 ≤ (1030 : Nat) by omega), (show (((((((((7800 * k + 10) + 750 * sl (qz_D n + k)) + 4) + 16) + 242) + 242) + 242) + 242) + 242) + 242 ≤ (135000 : Nat) by omega)⟩ dL_told_173) (fun u_54 H locs hp hP hD hS => ?_)
              have hP : va_P D xcl ([(sbc q_38 u_54.1 0 ((((((([] : List Nat) ++ (txP (qz_D n) fv k)) ++ sgT (txP (qz_D n) fv k) (fv k)) ++ (jdg (absN (fv k)))) ++ (kT.getD 3 [])) ++ (rwT (qz_D n + k))).length + (kT.getD 4 []).length)), (byc cyB u_54.1 u_54.2.1 u_54.2.2)] ++ (wdS a cyI cyJ σ1 ++ E2)) H := hP
              have hD : va_D A ([(sbc q_38 u_54.1 0 ((((((([] : List Nat) ++ (txP (qz_D n) fv k)) ++ sgT (txP (qz_D n) fv k) (fv k)) ++ (jdg (absN (fv k)))) ++ (kT.getD 3 [])) ++ (rwT (qz_D n + k))).length + (kT.getD 4 []).length)), (byc cyB u_54.1 u_54.2.1 u_54.2.2)] ++ (wdS a cyI cyJ σ1 ++ E2)) := hD
              have hB_55 := blOK_app hB_53 hp.1 hp.2.1 hp.2.2.1 hp.2.2.2.1 hp.2.2.2.2
              have eL : (((((([] : List Nat) ++ (txP (qz_D n) fv k)) ++ sgT (txP (qz_D n) fv k) (fv k)) ++ (jdg (absN (fv k)))) ++ (kT.getD 3 [])) ++ (rwT (qz_D n + k))).length + (kT.getD 4 []).length = ((((((([] : List Nat) ++ (txP (qz_D n) fv k)) ++ sgT (txP (qz_D n) fv k) (fv k)) ++ (jdg (absN (fv k)))) ++ (kT.getD 3 [])) ++ (rwT (qz_D n + k))) ++ (kT.getD 4 [])).length := List.length_append.symm
              rw [eL] at hP hD
              have hP : va_P D xcl ([(sbc q_38 u_54.1 0 (((((((([] : List Nat) ++ (txP (qz_D n) fv k)) ++ sgT (txP (qz_D n) fv k) (fv k)) ++ (jdg (absN (fv k)))) ++ (kT.getD 3 [])) ++ (rwT (qz_D n + k))) ++ (kT.getD 4 [])).length)), (byc cyB u_54.1 u_54.2.1 u_54.2.2)] ++ (wdS a cyI cyJ σ1 ++ E2)) H := hP
              have hD : va_D A ([(sbc q_38 u_54.1 0 (((((((([] : List Nat) ++ (txP (qz_D n) fv k)) ++ sgT (txP (qz_D n) fv k) (fv k)) ++ (jdg (absN (fv k)))) ++ (kT.getD 3 [])) ++ (rwT (qz_D n + k))) ++ (kT.getD 4 [])).length)), (byc cyB u_54.1 u_54.2.1 u_54.2.2)] ++ (wdS a cyI cyJ σ1 ++ E2)) := hD
              refine yr_r Cx hP hD hS (yq_front (S := (Nat × Nat × (Nat → Int32))) [(sbc q_38 u_54.1 0 (((((((([] : List Nat) ++ (txP (qz_D n) fv k)) ++ sgT (txP (qz_D n) fv k) (fv k)) ++ (jdg (absN (fv k)))) ++ (kT.getD 3 [])) ++ (rwT (qz_D n + k))) ++ (kT.getD 4 [])).length)), (byc cyB u_54.1 u_54.2.1 u_54.2.2)] (wdS a cyI cyJ σ1 ++ E2) (fun u_56 => [(sbc q_38 u_54.1 0 (((((((([] : List Nat) ++ (txP (qz_D n) fv k)) ++ sgT (txP (qz_D n) fv k) (fv k)) ++ (jdg (absN (fv k)))) ++ (kT.getD 3 [])) ++ (rwT (qz_D n + k))) ++ (kT.getD 4 [])).length)), (byc cyB u_54.1 u_54.2.1 u_54.2.2), (stc u_56.1 u_56.2.1), (byc cyB u_56.2.1 ((((((([] : List Nat) ++ (txP (qz_D n) fv k)) ++ sgT (txP (qz_D n) fv k) (fv k)) ++ (jdg (absN (fv k)))) ++ (kT.getD 3 [])) ++ (rwT (qz_D n + k))) ++ (kT.getD 4 [])).length u_56.2.2)]) 4 (fun _ => rfl)) (yx_V (n := 0) (As := []) (rest := []) Cx hP hD hS hl (yq_front (S := (Nat × Nat × (Nat → Int32))) [(sbc q_38 u_54.1 0 (((((((([] : List Nat) ++ (txP (qz_D n) fv k)) ++ sgT (txP (qz_D n) fv k) (fv k)) ++ (jdg (absN (fv k)))) ++ (kT.getD 3 [])) ++ (rwT (qz_D n + k))) ++ (kT.getD 4 [])).length)), (byc cyB u_54.1 u_54.2.1 u_54.2.2)] (wdS a cyI cyJ σ1 ++ E2) (fun u_56 => [(sbc q_38 u_54.1 0 (((((((([] : List Nat) ++ (txP (qz_D n) fv k)) ++ sgT (txP (qz_D n) fv k) (fv k)) ++ (jdg (absN (fv k)))) ++ (kT.getD 3 [])) ++ (rwT (qz_D n + k))) ++ (kT.getD 4 [])).length)), (byc cyB u_54.1 u_54.2.1 u_54.2.2), (stc u_56.1 u_56.2.1), (byc cyB u_56.2.1 ((((((([] : List Nat) ++ (txP (qz_D n) fv k)) ++ sgT (txP (qz_D n) fv k) (fv k)) ++ (jdg (absN (fv k)))) ++ (kT.getD 3 [])) ++ (rwT (qz_D n + k))) ++ (kT.getD 4 [])).length u_56.2.2)]) 4 (fun _ => rfl)) hK (fz_ZJ g) (fun hF => (fz_give (fz_ZJ g) hT.2.2.1 hS hF)) (c_J4_toString_0e30d l D cyI cyJ cyB cyQ g H.size q_38 u_54.1 u_54.2.1 u_54.2.2 0 ((((((([] : List Nat) ++ (txP (qz_D n) fv k)) ++ sgT (txP (qz_D n) fv k) (fv k)) ++ (jdg (absN (fv k)))) ++ (kT.getD 3 [])) ++ (rwT (qz_D n + k))) ++ (kT.getD 4 [])).length hB_55.1 hB_55.2.1 hB_55.2.2.1) pk_J4_toString_0e30d mw_4_142 ⟨rfl, rfl, Nat.le_of_ble_eq_true rfl, Nat.le_of_ble_eq_true rfl⟩ (va_recv hK hP rfl (q0 := 0) rfl) rfl rfl (Nat.le_of_ble_eq_true rfl) ⟨(show ((((((((((60 * k + 1) + 6 * sl (qz_D n + k)) + 1) + 1) + 1) + 1) + 1) + 1) + 1) + 1) + 2 ≤ (1030 : Nat) by omega), (show ((((((((((7800 * k + 10) + 750 * sl (qz_D n + k)) + 4) + 16) + 242) + 242) + 242) + 242) + 242) + 242) + 246 ≤ (135000 : Nat) by omega)⟩ dL_told_176) (fun u_56 H locs hp hP hD hS => ?_)
              have hP : va_P D xcl ([(sbc q_38 u_54.1 0 (((((((([] : List Nat) ++ (txP (qz_D n) fv k)) ++ sgT (txP (qz_D n) fv k) (fv k)) ++ (jdg (absN (fv k)))) ++ (kT.getD 3 [])) ++ (rwT (qz_D n + k))) ++ (kT.getD 4 [])).length)), (byc cyB u_54.1 u_54.2.1 u_54.2.2), (stc u_56.1 u_56.2.1), (byc cyB u_56.2.1 ((((((([] : List Nat) ++ (txP (qz_D n) fv k)) ++ sgT (txP (qz_D n) fv k) (fv k)) ++ (jdg (absN (fv k)))) ++ (kT.getD 3 [])) ++ (rwT (qz_D n + k))) ++ (kT.getD 4 [])).length u_56.2.2)] ++ (wdS a cyI cyJ σ1 ++ E2)) H := hP
              have hD : va_D A ([(sbc q_38 u_54.1 0 (((((((([] : List Nat) ++ (txP (qz_D n) fv k)) ++ sgT (txP (qz_D n) fv k) (fv k)) ++ (jdg (absN (fv k)))) ++ (kT.getD 3 [])) ++ (rwT (qz_D n + k))) ++ (kT.getD 4 [])).length)), (byc cyB u_54.1 u_54.2.1 u_54.2.2), (stc u_56.1 u_56.2.1), (byc cyB u_56.2.1 ((((((([] : List Nat) ++ (txP (qz_D n) fv k)) ++ sgT (txP (qz_D n) fv k) (fv k)) ++ (jdg (absN (fv k)))) ++ (kT.getD 3 [])) ++ (rwT (qz_D n + k))) ++ (kT.getD 4 [])).length u_56.2.2)] ++ (wdS a cyI cyJ σ1 ++ E2)) := hD
              have hPD : va_P D xcl (wdS a cyI cyJ σ1 ++ ([stc u_56.1 u_56.2.1, byc cyB u_56.2.1 ((((((([] : List Nat) ++ (txP (qz_D n) fv k)) ++ sgT (txP (qz_D n) fv k) (fv k)) ++ (jdg (absN (fv k)))) ++ (kT.getD 3 [])) ++ (rwT (qz_D n + k))) ++ (kT.getD 4 [])).length (tf ((((((([] : List Nat) ++ (txP (qz_D n) fv k)) ++ sgT (txP (qz_D n) fv k) (fv k)) ++ (jdg (absN (fv k)))) ++ (kT.getD 3 [])) ++ (rwT (qz_D n + k))) ++ (kT.getD 4 [])))] ++ E2)) H ∧ va_D A (wdS a cyI cyJ σ1 ++ ([stc u_56.1 u_56.2.1, byc cyB u_56.2.1 ((((((([] : List Nat) ++ (txP (qz_D n) fv k)) ++ sgT (txP (qz_D n) fv k) (fv k)) ++ (jdg (absN (fv k)))) ++ (kT.getD 3 [])) ++ (rwT (qz_D n + k))) ++ (kT.getD 4 [])).length (tf ((((((([] : List Nat) ++ (txP (qz_D n) fv k)) ++ sgT (txP (qz_D n) fv k) (fv k)) ++ (jdg (absN (fv k)))) ++ (kT.getD 3 [])) ++ (rwT (qz_D n + k))) ++ (kT.getD 4 [])))] ++ E2)) := yb_str hP hD hB_55 hp
              obtain ⟨hP, hD⟩ := hPD
              refine lv_astore (lv' := [(6, .ref u_56.1), (11, .int (nI (sl (qz_D n + k)))), (10, .int (nI (sl (qz_D n + k)))), (9, .ref (B (qz_D n + k))), (8, .ref rr), (5, .int (nI (tmN fv (k + 1)))), (7, .int (nI k)), (0, .ref (a 0)), (1, .int (nI s0)), (2, .ref al), (3, .int (nI n)), (4, .ref v)]) hx hb dL_told_179 hl (by decide) rfl (fun ls hl => ?_)
              refine lv_iinc (v := ((nI k) + (1 : Int32))) (lv' := [(7, .int ((nI k) + (1 : Int32))), (6, .ref u_56.1), (11, .int (nI (sl (qz_D n + k)))), (10, .int (nI (sl (qz_D n + k)))), (9, .ref (B (qz_D n + k))), (8, .ref rr), (5, .int (nI (tmN fv (k + 1)))), (0, .ref (a 0)), (1, .int (nI s0)), (2, .ref al), (3, .int (nI n)), (4, .ref v)]) hx hb dL_told_181 hl (k := 6) rfl rfl (by decide) rfl (fun ls hl => ?_)
              refine lv_goto (tgt := 20) hx hb dL_told_184 (by decide) ?_
              have eT2 : ((((((([] : List Nat) ++ (txP (qz_D n) fv k)) ++ sgT (txP (qz_D n) fv k) (fv k)) ++ (jdg (absN (fv k)))) ++ (kT.getD 3 [])) ++ (rwT (qz_D n + k))) ++ (kT.getD 4 [])) = txP (qz_D n) fv (k + 1) := by rw [eT]; rfl
              rw [eT2] at hP hD
              rw [show ((nI k) + (1 : Int32)) = (nI (k + 1)) from (nI_1 k)] at hl
              refine W.widen (k := 60 * (k + 1)) (n := 7800 * (k + 1)) (by omega) (by omega) ?_
              exact ihd (k + 1) _ u_56.1 H _ ls (by omega) (Or.inr ⟨u_56.2.1, List.mem_cons_self, List.mem_cons_of_mem _ List.mem_cons_self⟩) hP hD hS (lv_sub hl [0, 1, 6, 7, 8, 9, 10, 11] rfl)
            refine lv_if_ge (tgt := 132) hx hb dL_told_124 (by decide) (fun hc2 => ?_) (fun hc2 => ?_)
            · have hnl : ¬ fv k < 0 := Int32.not_lt.mpr hc2
              refine lv_aload hx hb dL_told_132 (lv_at hl 6 rfl) ?_
              obtain ⟨v_57, hz_58⟩ := sok_give (wc := [(sbc q_38 u_42.1 0 ((([] : List Nat) ++ (txP (qz_D n) fv k)).length)), (byc cyB u_42.1 u_42.2.1 u_42.2.2)]) (C := wdS a cyI cyJ σ1) (E := E2) hts hK hP hD hS hA (hT.2.2.2.1 0 (by decide)).1 hx0
              refine yr_i Cx hP hD hS (yq_none (S := Unit) ([(sbc q_38 u_42.1 0 ((([] : List Nat) ++ (txP (qz_D n) fv k)).length)), (byc cyB u_42.1 u_42.2.1 u_42.2.2)] ++ (wdS a cyI cyJ σ1 ++ E2))) (yx_V (n := 0) (As := []) (rest := [.ref q_38]) Cx hP hD hS hl (yq_none (S := Unit) ([(sbc q_38 u_42.1 0 ((([] : List Nat) ++ (txP (qz_D n) fv k)).length)), (byc cyB u_42.1 u_42.2.1 u_42.2.2)] ++ (wdS a cyI cyJ σ1 ++ E2))) hK (fz_and (fz_ZJ g) (fz_ZS t v_57 (txP (qz_D n) fv k).length (tf (txP (qz_D n) fv k)))) (fun hF => ⟨fz_give (fz_ZJ g) hT.2.2.1 hS hF, (fz_ZS _ _ _ _).2.2 _ _ _ _ (fun q9 h9 => by rcases h9 with ⟨k9, e9, h9⟩ | h9; exact absurd h9 (by simp); exact Or.inr h9) hz_58⟩) (c_J0_length_8abf5 l D cyI cyJ cyB cyQ g H.size t v_57 (txP (qz_D n) fv k).length (tf (txP (qz_D n) fv k))) pk_J0_length_8abf5 mw_4_203 ⟨rfl, rfl, Nat.le_of_ble_eq_true rfl, Nat.le_of_ble_eq_true rfl⟩ (y_recvO hz_58.1) rfl rfl (Nat.le_of_ble_eq_true rfl) ⟨(show (((((60 * k + 1) + 6 * sl (qz_D n + k)) + 1) + 1) + 1) + 0 ≤ (1030 : Nat) by omega), (show (((((7800 * k + 10) + 750 * sl (qz_D n + k)) + 4) + 16) + 242) + 0 ≤ (135000 : Nat) by omega)⟩ dL_told_134) (fun r_5 u_59 H locs hp hP hD hS => ?_)
              have hP : va_P D xcl ([(sbc q_38 u_42.1 0 ((([] : List Nat) ++ (txP (qz_D n) fv k)).length)), (byc cyB u_42.1 u_42.2.1 u_42.2.2)] ++ (wdS a cyI cyJ σ1 ++ E2)) H := hP
              have hD : va_D A ([(sbc q_38 u_42.1 0 ((([] : List Nat) ++ (txP (qz_D n) fv k)).length)), (byc cyB u_42.1 u_42.2.1 u_42.2.2)] ++ (wdS a cyI cyJ σ1 ++ E2)) := hD
              rw [show r_5 = nI (txP (qz_D n) fv k).length from hp]
              refine lv_if_le (tgt := 145) hx hb dL_told_137 (by decide) (fun hc3 => ?_) (fun hc3 => ?_)
              · have h0 : (txP (qz_D n) fv k).length = 0 := by have := (nI_leI (b := 0) (by omega) (by decide)).mp hc3; omega
                refine va_ldcS hx hb hown (hT.2.2.2.1 0 (by decide)).2 dL_told_145 ?_
                exact w_147 0 H _ ls (by decide) (by show [] = sgT _ _; unfold sgT; rw [if_neg hnl, if_pos h0]) hP hD hS (lv_sub hl [0, 1, 2, 3, 4, 5, 6, 7, 8, 9, 10, 11] rfl)
              · have h0 : ¬ (txP (qz_D n) fv k).length = 0 := fun h9 => hc3 (by rw [h9]; decide)
                refine va_ldcS hx hb hown (hT.2.2.2.1 2 (by decide)).2 dL_told_140 ?_
                refine lv_goto (tgt := 147) hx hb dL_told_142 (by decide) ?_
                exact w_147 2 H _ ls (by decide) (by show [43] = sgT _ _; unfold sgT; rw [if_neg hnl, if_neg h0]) hP hD hS (lv_sub hl [0, 1, 2, 3, 4, 5, 6, 7, 8, 9, 10, 11] rfl)
            · have hlt : fv k < 0 := Int32.not_le.mp hc2
              refine va_ldcS hx hb hown (hT.2.2.2.1 1 (by decide)).2 dL_told_127 ?_
              refine lv_goto (tgt := 147) hx hb dL_told_129 (by decide) ?_
              exact w_147 1 H _ ls (by decide) (if_pos hlt).symm hP hD hS (lv_sub hl [0, 1, 2, 3, 4, 5, 6, 7, 8, 9, 10, 11] rfl)
          | succ d2 ihd2 =>
            intro r E2 rr H locs ls hr hrr hx0 hP hD hS hl
            have hcr := rw_lt (qz_D n + k) (by omega) r (by omega)
            have hlr := rwP_len (qz_D n + k) r
            have hs8 := sl_small (qz_D n + k) (by omega)
            refine lv_iload hx hb dL_told_65 (lv_at hl 0 rfl) ?_
            refine lv_iload hx hb dL_told_67 (lv_at hl 1 rfl) ?_
            refine lv_icmp_ge (tgt := 107) hx hb dL_told_69 (by decide) (fun hc => absurd hc (nI_ge (by omega) (by omega))) (fun _ => ?_)
            refine lv_aload hx hb dL_told_72 (lv_at hl 2 rfl) ?_
            refine lv_iload hx hb dL_told_74 (lv_at hl 0 rfl) ?_
            refine yf_ild hx hb (va_T.kept (hT.2.1.2 (qz_D n + k) (by omega)) hS.2.1) (vp_in_nI (by omega) (by omega)) (v := (nI (sc (qz_D n + k) r))) (by rw [nI_clamp (by omega)]; rfl) dL_told_76 ?_
            refine lv_istore (lv' := [(12, .int (nI (sc (qz_D n + k) r))), (11, .int (nI r)), (10, .int (nI (sl (qz_D n + k)))), (9, .ref (B (qz_D n + k))), (8, .ref rr), (5, .int (nI (tmN fv (k + 1)))), (7, .int (nI k)), (6, .ref t), (0, .ref (a 0)), (1, .int (nI s0)), (2, .ref al), (3, .int (nI n)), (4, .ref v)]) hx hb dL_told_77 hl (by decide) rfl (fun ls hl => ?_)
            refine va_new (ci := 11) (fs := [.null, .int 0, .int 0, .int 0]) (C := RJ4) (T := TJ4) (N := 4) hx hb hts wJ4_in tyJ4 tyJ4_ok hown (hts _ mw_3_211) (hts _ mw_3_212) (hts _ mw_1_15) hK hP hD hS hA rfl (fun j hj => by rcases (show j = 0 ∨ j = 1 ∨ j = 2 ∨ j = 3 by omega) with rfl | rfl | rfl | rfl <;> rfl) (show ((60 * k + 1) + 6 * r) + 1 ≤ (1030 : Nat) by omega) (show ((7800 * k + 10) + 750 * r) + 4 ≤ (135000 : Nat) by omega) dL_told_79 (fun q_60 H hP hD hS => ?_)
            have hPD : va_P D xcl ([((q_60, .inr (11, [.null, .int (0 : Int32), .int (0 : Int32), .int (0 : Int32)])) : Nat × va_E)] ++ (wdS a cyI cyJ σ1 ++ E2)) H ∧ va_D A ([((q_60, .inr (11, [.null, .int (0 : Int32), .int (0 : Int32), .int (0 : Int32)])) : Nat × va_E)] ++ (wdS a cyI cyJ σ1 ++ E2)) := y_perm hP hD List.perm_append_comm
            obtain ⟨hP, hD⟩ := hPD
            refine lv_dup hx hb dL_told_82 rfl ?_
            refine yr_v Cx hP hD hS (yq_front (S := Nat) [((q_60, .inr (11, [.null, .int (0 : Int32), .int (0 : Int32), .int (0 : Int32)])) : Nat × va_E)] (wdS a cyI cyJ σ1 ++ E2) (fun u_61 => [((q_60, .inr (11, [.ref u_61, .int (0 : Int32), .int (0 : Int32), .int (0 : Int32)])) : Nat × va_E), ((u_61, .inl (cyB, 16, .inl (fun _ => (0 : Int32)))) : Nat × va_E)]) 2 (fun _ => rfl)) (yx_I (n := 0) (As := []) (rest := [.ref q_60]) Cx hP hD hS hl (yq_front (S := Nat) [((q_60, .inr (11, [.null, .int (0 : Int32), .int (0 : Int32), .int (0 : Int32)])) : Nat × va_E)] (wdS a cyI cyJ σ1 ++ E2) (fun u_61 => [((q_60, .inr (11, [.ref u_61, .int (0 : Int32), .int (0 : Int32), .int (0 : Int32)])) : Nat × va_E), ((u_61, .inl (cyB, 16, .inl (fun _ => (0 : Int32)))) : Nat × va_E)]) 2 (fun _ => rfl)) hK (fz_ZJ g) (fun hF => (fz_give (fz_ZJ g) hT.2.2.1 hS hF)) (c_J4_init_da8c8 l D cyI cyJ cyB cyQ g H.size q_60) pk_J4_init_da8c8 mw_3_213 ⟨rfl, rfl, Nat.le_of_ble_eq_true rfl, Nat.le_of_ble_eq_true rfl⟩ rfl rfl (Nat.le_of_ble_eq_true rfl) ⟨(show (((60 * k + 1) + 6 * r) + 1) + 1 ≤ (1030 : Nat) by omega), (show (((7800 * k + 10) + 750 * r) + 4) + 16 ≤ (135000 : Nat) by omega)⟩ dL_told_83) (fun u_61 H locs hp hP hD hS => ?_)
            have hP : va_P D xcl ([((q_60, .inr (11, [.ref u_61, .int (0 : Int32), .int (0 : Int32), .int (0 : Int32)])) : Nat × va_E), ((u_61, .inl (cyB, 16, .inl (fun _ => (0 : Int32)))) : Nat × va_E)] ++ (wdS a cyI cyJ σ1 ++ E2)) H := hP
            have hD : va_D A ([((q_60, .inr (11, [.ref u_61, .int (0 : Int32), .int (0 : Int32), .int (0 : Int32)])) : Nat × va_E), ((u_61, .inl (cyB, 16, .inl (fun _ => (0 : Int32)))) : Nat × va_E)] ++ (wdS a cyI cyJ σ1 ++ E2)) := hD
            have hP : va_P D xcl ([(sbc q_60 u_61 0 (([] : List Nat).length)), (byc cyB u_61 16 (fun _ => (0 : Int32)))] ++ (wdS a cyI cyJ σ1 ++ E2)) H := hP
            have hD : va_D A ([(sbc q_60 u_61 0 (([] : List Nat).length)), (byc cyB u_61 16 (fun _ => (0 : Int32)))] ++ (wdS a cyI cyJ σ1 ++ E2)) := hD
            refine lv_aload hx hb dL_told_86 (lv_at hl 4 rfl) ?_
            obtain ⟨v_62, hz_63⟩ := sok_give (wc := [(sbc q_60 u_61 0 (([] : List Nat).length)), (byc cyB u_61 16 (fun _ => (0 : Int32)))]) (C := wdS a cyI cyJ σ1) (E := E2) hts hK hP hD hS hA (hT.2.2.2.1 0 (by decide)).1 hrr
            refine yr_r Cx hP hD hS (yq_front (S := (Nat × Nat × (Nat → Int32))) [(sbc q_60 u_61 0 (([] : List Nat).length)), (byc cyB u_61 16 (fun _ => (0 : Int32)))] (wdS a cyI cyJ σ1 ++ E2) (fun u_64 => [(sbc q_60 u_64.1 0 (([] : List Nat).length + (rwP (qz_D n + k) r).length)), (byc cyB u_64.1 u_64.2.1 u_64.2.2)]) 2 (fun _ => rfl)) (yx_V (n := 1) (As := [.ref rr]) (rest := []) Cx hP hD hS hl (yq_front (S := (Nat × Nat × (Nat → Int32))) [(sbc q_60 u_61 0 (([] : List Nat).length)), (byc cyB u_61 16 (fun _ => (0 : Int32)))] (wdS a cyI cyJ σ1 ++ E2) (fun u_64 => [(sbc q_60 u_64.1 0 (([] : List Nat).length + (rwP (qz_D n + k) r).length)), (byc cyB u_64.1 u_64.2.1 u_64.2.2)]) 2 (fun _ => rfl)) hK (fz_and (fz_ZJ g) (fz_ZS rr v_62 (rwP (qz_D n + k) r).length (tf (rwP (qz_D n + k) r)))) (fun hF => ⟨fz_give (fz_ZJ g) hT.2.2.1 hS hF, hz_63⟩) (c_J4_append_15ec4 l D cyI cyJ cyB cyQ g H.size q_60 u_61 16 (fun _ => (0 : Int32)) 0 ([] : List Nat).length rr v_62 (rwP (qz_D n + k) r).length (tf (rwP (qz_D n + k) r)) blOK_0.2.1 blOK_0.1 (by simp only [List.length_nil]; omega) blOK_0.2.2.1 (tf_fit _)) pk_J4_append_15ec4 mw_4_3 ⟨rfl, rfl, Nat.le_of_ble_eq_true rfl, Nat.le_of_ble_eq_true rfl⟩ (va_recv hK hP rfl (q0 := 0) rfl) rfl rfl (Nat.le_of_ble_eq_true rfl) ⟨(show ((((60 * k + 1) + 6 * r) + 1) + 1) + 1 ≤ (1030 : Nat) by omega), (show ((((7800 * k + 10) + 750 * r) + 4) + 16) + 242 ≤ (135000 : Nat) by omega)⟩ dL_told_88) (fun u_64 H locs hp hP hD hS => ?_)
            have hP : va_P D xcl ([(sbc q_60 u_64.1 0 (([] : List Nat).length + (rwP (qz_D n + k) r).length)), (byc cyB u_64.1 u_64.2.1 u_64.2.2)] ++ (wdS a cyI cyJ σ1 ++ E2)) H := hP
            have hD : va_D A ([(sbc q_60 u_64.1 0 (([] : List Nat).length + (rwP (qz_D n + k) r).length)), (byc cyB u_64.1 u_64.2.1 u_64.2.2)] ++ (wdS a cyI cyJ σ1 ++ E2)) := hD
            have hB_65 := blOK_app blOK_0 hp.1 hp.2.1 hp.2.2.1 hp.2.2.2.1 hp.2.2.2.2
            have eL : ([] : List Nat).length + (rwP (qz_D n + k) r).length = (([] : List Nat) ++ (rwP (qz_D n + k) r)).length := List.length_append.symm
            rw [eL] at hP hD
            have hP : va_P D xcl ([(sbc q_60 u_64.1 0 ((([] : List Nat) ++ (rwP (qz_D n + k) r)).length)), (byc cyB u_64.1 u_64.2.1 u_64.2.2)] ++ (wdS a cyI cyJ σ1 ++ E2)) H := hP
            have hD : va_D A ([(sbc q_60 u_64.1 0 ((([] : List Nat) ++ (rwP (qz_D n + k) r)).length)), (byc cyB u_64.1 u_64.2.1 u_64.2.2)] ++ (wdS a cyI cyJ σ1 ++ E2)) := hD
            refine lv_iload hx hb dL_told_91 (lv_at hl 0 rfl) ?_
            refine yr_r Cx hP hD hS (yq_front (S := (Nat × Nat × (Nat → Int32))) [(sbc q_60 u_64.1 0 ((([] : List Nat) ++ (rwP (qz_D n + k) r)).length)), (byc cyB u_64.1 u_64.2.1 u_64.2.2)] (wdS a cyI cyJ σ1 ++ E2) (fun u_66 => [(sbc q_60 u_66.1 0 ((([] : List Nat) ++ (rwP (qz_D n + k) r)).length + (jdg (sc (qz_D n + k) r)).length)), (byc cyB u_66.1 u_66.2.1 u_66.2.2)]) 2 (fun _ => rfl)) (yx_V (n := 1) (As := [.int (nI (sc (qz_D n + k) r))]) (rest := []) Cx hP hD hS hl (yq_front (S := (Nat × Nat × (Nat → Int32))) [(sbc q_60 u_64.1 0 ((([] : List Nat) ++ (rwP (qz_D n + k) r)).length)), (byc cyB u_64.1 u_64.2.1 u_64.2.2)] (wdS a cyI cyJ σ1 ++ E2) (fun u_66 => [(sbc q_60 u_66.1 0 ((([] : List Nat) ++ (rwP (qz_D n + k) r)).length + (jdg (sc (qz_D n + k) r)).length)), (byc cyB u_66.1 u_66.2.1 u_66.2.2)]) 2 (fun _ => rfl)) hK (fz_ZJ g) (fun hF => (fz_give (fz_ZJ g) hT.2.2.1 hS hF)) (c_J4_append_bf812 l D cyI cyJ cyB cyQ g H.size q_60 u_64.1 u_64.2.1 u_64.2.2 0 (([] : List Nat) ++ (rwP (qz_D n + k) r)).length (sc (qz_D n + k) r) (by omega) hB_65.2.1 hB_65.1 (by have := jdg_le (sc (qz_D n + k) r); simp only [List.length_append, List.length_nil]; omega) hB_65.2.2.1) pk_J4_append_bf812 mw_4_117 ⟨rfl, rfl, Nat.le_of_ble_eq_true rfl, Nat.le_of_ble_eq_true rfl⟩ (va_recv hK hP rfl (q0 := 0) rfl) rfl rfl (Nat.le_of_ble_eq_true rfl) ⟨(show (((((60 * k + 1) + 6 * r) + 1) + 1) + 1) + 1 ≤ (1030 : Nat) by omega), (show (((((7800 * k + 10) + 750 * r) + 4) + 16) + 242) + 242 ≤ (135000 : Nat) by omega)⟩ dL_told_93) (fun u_66 H locs hp hP hD hS => ?_)
            have hP : va_P D xcl ([(sbc q_60 u_66.1 0 ((([] : List Nat) ++ (rwP (qz_D n + k) r)).length + (jdg (sc (qz_D n + k) r)).length)), (byc cyB u_66.1 u_66.2.1 u_66.2.2)] ++ (wdS a cyI cyJ σ1 ++ E2)) H := hP
            have hD : va_D A ([(sbc q_60 u_66.1 0 ((([] : List Nat) ++ (rwP (qz_D n + k) r)).length + (jdg (sc (qz_D n + k) r)).length)), (byc cyB u_66.1 u_66.2.1 u_66.2.2)] ++ (wdS a cyI cyJ σ1 ++ E2)) := hD
            have hB_67 := blOK_app (T1 := (jdg (sc (qz_D n + k) r))) hB_65 hp.1 hp.2.1 hp.2.2.1 hp.2.2.2.1 hp.2.2.2.2
            have eL : (([] : List Nat) ++ (rwP (qz_D n + k) r)).length + (jdg (sc (qz_D n + k) r)).length = ((([] : List Nat) ++ (rwP (qz_D n + k) r)) ++ (jdg (sc (qz_D n + k) r))).length := List.length_append.symm
            rw [eL] at hP hD
            have hP : va_P D xcl ([(sbc q_60 u_66.1 0 (((([] : List Nat) ++ (rwP (qz_D n + k) r)) ++ (jdg (sc (qz_D n + k) r))).length)), (byc cyB u_66.1 u_66.2.1 u_66.2.2)] ++ (wdS a cyI cyJ σ1 ++ E2)) H := hP
            have hD : va_D A ([(sbc q_60 u_66.1 0 (((([] : List Nat) ++ (rwP (qz_D n + k) r)) ++ (jdg (sc (qz_D n + k) r))).length)), (byc cyB u_66.1 u_66.2.1 u_66.2.2)] ++ (wdS a cyI cyJ σ1 ++ E2)) := hD
            refine yr_r Cx hP hD hS (yq_front (S := (Nat × Nat × (Nat → Int32))) [(sbc q_60 u_66.1 0 (((([] : List Nat) ++ (rwP (qz_D n + k) r)) ++ (jdg (sc (qz_D n + k) r))).length)), (byc cyB u_66.1 u_66.2.1 u_66.2.2)] (wdS a cyI cyJ σ1 ++ E2) (fun u_68 => [(sbc q_60 u_66.1 0 (((([] : List Nat) ++ (rwP (qz_D n + k) r)) ++ (jdg (sc (qz_D n + k) r))).length)), (byc cyB u_66.1 u_66.2.1 u_66.2.2), (stc u_68.1 u_68.2.1), (byc cyB u_68.2.1 ((([] : List Nat) ++ (rwP (qz_D n + k) r)) ++ (jdg (sc (qz_D n + k) r))).length u_68.2.2)]) 4 (fun _ => rfl)) (yx_V (n := 0) (As := []) (rest := []) Cx hP hD hS hl (yq_front (S := (Nat × Nat × (Nat → Int32))) [(sbc q_60 u_66.1 0 (((([] : List Nat) ++ (rwP (qz_D n + k) r)) ++ (jdg (sc (qz_D n + k) r))).length)), (byc cyB u_66.1 u_66.2.1 u_66.2.2)] (wdS a cyI cyJ σ1 ++ E2) (fun u_68 => [(sbc q_60 u_66.1 0 (((([] : List Nat) ++ (rwP (qz_D n + k) r)) ++ (jdg (sc (qz_D n + k) r))).length)), (byc cyB u_66.1 u_66.2.1 u_66.2.2), (stc u_68.1 u_68.2.1), (byc cyB u_68.2.1 ((([] : List Nat) ++ (rwP (qz_D n + k) r)) ++ (jdg (sc (qz_D n + k) r))).length u_68.2.2)]) 4 (fun _ => rfl)) hK (fz_ZJ g) (fun hF => (fz_give (fz_ZJ g) hT.2.2.1 hS hF)) (c_J4_toString_0e30d l D cyI cyJ cyB cyQ g H.size q_60 u_66.1 u_66.2.1 u_66.2.2 0 ((([] : List Nat) ++ (rwP (qz_D n + k) r)) ++ (jdg (sc (qz_D n + k) r))).length hB_67.1 hB_67.2.1 hB_67.2.2.1) pk_J4_toString_0e30d mw_4_142 ⟨rfl, rfl, Nat.le_of_ble_eq_true rfl, Nat.le_of_ble_eq_true rfl⟩ (va_recv hK hP rfl (q0 := 0) rfl) rfl rfl (Nat.le_of_ble_eq_true rfl) ⟨(show ((((((60 * k + 1) + 6 * r) + 1) + 1) + 1) + 1) + 2 ≤ (1030 : Nat) by omega), (show ((((((7800 * k + 10) + 750 * r) + 4) + 16) + 242) + 242) + 246 ≤ (135000 : Nat) by omega)⟩ dL_told_96) (fun u_68 H locs hp hP hD hS => ?_)
            have hP : va_P D xcl ([(sbc q_60 u_66.1 0 (((([] : List Nat) ++ (rwP (qz_D n + k) r)) ++ (jdg (sc (qz_D n + k) r))).length)), (byc cyB u_66.1 u_66.2.1 u_66.2.2), (stc u_68.1 u_68.2.1), (byc cyB u_68.2.1 ((([] : List Nat) ++ (rwP (qz_D n + k) r)) ++ (jdg (sc (qz_D n + k) r))).length u_68.2.2)] ++ (wdS a cyI cyJ σ1 ++ E2)) H := hP
            have hD : va_D A ([(sbc q_60 u_66.1 0 (((([] : List Nat) ++ (rwP (qz_D n + k) r)) ++ (jdg (sc (qz_D n + k) r))).length)), (byc cyB u_66.1 u_66.2.1 u_66.2.2), (stc u_68.1 u_68.2.1), (byc cyB u_68.2.1 ((([] : List Nat) ++ (rwP (qz_D n + k) r)) ++ (jdg (sc (qz_D n + k) r))).length u_68.2.2)] ++ (wdS a cyI cyJ σ1 ++ E2)) := hD
            have hPD : va_P D xcl (wdS a cyI cyJ σ1 ++ ([stc u_68.1 u_68.2.1, byc cyB u_68.2.1 ((([] : List Nat) ++ (rwP (qz_D n + k) r)) ++ (jdg (sc (qz_D n + k) r))).length (tf ((([] : List Nat) ++ (rwP (qz_D n + k) r)) ++ (jdg (sc (qz_D n + k) r))))] ++ E2)) H ∧ va_D A (wdS a cyI cyJ σ1 ++ ([stc u_68.1 u_68.2.1, byc cyB u_68.2.1 ((([] : List Nat) ++ (rwP (qz_D n + k) r)) ++ (jdg (sc (qz_D n + k) r))).length (tf ((([] : List Nat) ++ (rwP (qz_D n + k) r)) ++ (jdg (sc (qz_D n + k) r))))] ++ E2)) := yb_str hP hD hB_67 hp
            obtain ⟨hP, hD⟩ := hPD
            refine lv_astore (lv' := [(8, .ref u_68.1), (12, .int (nI (sc (qz_D n + k) r))), (11, .int (nI r)), (10, .int (nI (sl (qz_D n + k)))), (9, .ref (B (qz_D n + k))), (5, .int (nI (tmN fv (k + 1)))), (7, .int (nI k)), (6, .ref t), (0, .ref (a 0)), (1, .int (nI s0)), (2, .ref al), (3, .int (nI n)), (4, .ref v)]) hx hb dL_told_99 hl (by decide) rfl (fun ls hl => ?_)
            refine lv_iinc (v := ((nI r) + (1 : Int32))) (lv' := [(11, .int ((nI r) + (1 : Int32))), (8, .ref u_68.1), (12, .int (nI (sc (qz_D n + k) r))), (10, .int (nI (sl (qz_D n + k)))), (9, .ref (B (qz_D n + k))), (5, .int (nI (tmN fv (k + 1)))), (7, .int (nI k)), (6, .ref t), (0, .ref (a 0)), (1, .int (nI s0)), (2, .ref al), (3, .int (nI n)), (4, .ref v)]) hx hb dL_told_101 hl (k := 2) rfl rfl (by decide) rfl (fun ls hl => ?_)
            refine lv_goto (tgt := 65) hx hb dL_told_104 (by decide) ?_
            rw [show ((nI r) + (1 : Int32)) = (nI (r + 1)) from (nI_1 r)] at hl
            have eT : ((([] : List Nat) ++ (rwP (qz_D n + k) r)) ++ (jdg (sc (qz_D n + k) r))) = rwP (qz_D n + k) (r + 1) := by rw [List.nil_append]; exact rwP_s (qz_D n + k) r hcr
            rw [eT] at hP hD
            refine W.widen (k := (60 * k + 1) + 6 * (r + 1)) (n := (7800 * k + 10) + 750 * (r + 1)) (by omega) (by omega) ?_
            exact ihd2 (r + 1) ([stc u_68.1 u_68.2.1, byc cyB u_68.2.1 (rwP (qz_D n + k) (r + 1)).length (tf (rwP (qz_D n + k) (r + 1)))] ++ E2) u_68.1 H _ ls (by omega) (Or.inr ⟨u_68.2.1, List.mem_cons_self, List.mem_cons_of_mem _ List.mem_cons_self⟩) (SOK.more hx0 _) hP hD hS (lv_sub hl [0, 3, 4, 1, 5, 6, 7, 8, 9, 10, 11, 12] rfl)
        exact w_65 (sl (qz_D n + k)) 0 E (kk 0) H _ ls (by omega) (Or.inl ⟨rfl, rfl⟩) hsok hP hD hS (lv_sub hl [0, 1, 2, 3, 4, 5, 6, 7, 8, 9, 10, 11] rfl)
      · have eT : txP (qz_D n) fv (k + 1) = txP (qz_D n) fv k := if_pos hc
        have eM : tmN fv (k + 1) = tmN fv k := if_pos hc
        rw [← eT] at hsok
        refine lv_goto (tgt := 181) hx hb dL_told_36 (by decide) ?_
        refine lv_iinc (v := ((nI k) + (1 : Int32))) (lv' := [(7, .int ((nI k) + (1 : Int32))), (6, .ref t), (5, .int (nI (tmN fv k))), (0, .ref (a 0)), (1, .int (nI s0)), (2, .ref al), (3, .int (nI n)), (4, .ref v)]) hx hb dL_told_181 hl (k := 0) rfl rfl (by decide) rfl (fun ls hl => ?_)
        refine lv_goto (tgt := 20) hx hb dL_told_184 (by decide) ?_
        rw [show ((nI k) + (1 : Int32)) = (nI (k + 1)) from (nI_1 k)] at hl
        rw [← eM] at hl
        refine W.widen (k := 60 * (k + 1)) (n := 7800 * (k + 1)) (by omega) (by omega) ?_
        exact ihd (k + 1) E t H _ ls (by omega) hsok hP hD hS (lv_sub hl [0, 1, 2, 3, 4, 5, 6, 7] rfl)
  exact w_20 (qz_N n) 0 [] (kk 0) H _ ls (by omega) (Or.inl ⟨rfl, rfl⟩) hP hD hS (lv_sub hl [0, 1, 2, 3, 4, 5, 6, 7] rfl)
