/-! THE CASES OF THE LAW -/
set_option maxRecDepth 100000 in
theorem lc_sizes {w : WLD} {k : KX} {M : Mem} {nv np b L n : Nat} {xs : Nat → Int32} (C : Cx w k cL_law RL room_1) (X : Scr k b L xs) (hI : LInv M nv np) (hn : n + 6 ≤ L) (kk : ∀ M2 : Mem, LAll M2 → WW w k 866 [(0, .ref b), (1, .ref (wa w 0)), (2, .ref (wa w 30)), (3, .int (iZ ((n : Nat) : Int)))] [] M2) : WW w k 128 [(0, .ref b), (1, .ref (wa w 0)), (2, .ref (wa w 30)), (3, .int (iZ ((n : Nat) : Int)))] [] M := by
  refine ww_aload_n C dL_law_128 1 rfl ?_
  refine ww_aload_n C dL_law_129 0 rfl ?_
  refine ww_iload_n C dL_law_130 3 rfl ?_
  refine ww_iconst C dL_law_131 ?_
  refine ww_sarg C X 1 (by omega) dL_law_132 dL_law_133 ?_
  refine ww_aload_n C dL_law_134 0 rfl ?_
  refine ww_iload_n C dL_law_135 3 rfl ?_
  refine ww_iconst C dL_law_136 ?_
  refine ww_sarg C X 2 (by omega) dL_law_137 dL_law_138 ?_
  refine ww_aload_n C dL_law_139 0 rfl ?_
  refine ww_iload_n C dL_law_140 3 rfl ?_
  refine ww_iconst C dL_law_141 ?_
  refine ww_sarg C X 3 (by omega) dL_law_142 dL_law_143 ?_
  refine ww_callV C (As := [.int (iZ (sx xs (n + 1))), .int (iZ (sx xs (n + 2))), .int (iZ (sx xs (n + 3)))]) 0 (by decide) (ct_X5_sizes w M _ _ _ (sx_R _ _) (sx_R _ _) (sx_R _ _)) mf_X5_sizes ml_L_13 rfl rfl (by decide) rfl rfl (Nat.le_of_ble_eq_true rfl) dL_law_144 (fun z5 M5 hp5 => ?_)
  have hfr : ∀ k : Nat, 29 < k → M5 k = M k := by
    rcases hp5 with ⟨-, -, np1, co, -, e9⟩ | ⟨-, -, e9⟩ <;> subst e9 <;> intro k hk <;> first | rfl | (repeat rw [ups_n (by omega)])
  obtain ⟨m0, m1, m2, m3, m4, m5, m6, m7, m8, m9, m10, m11, m12, m13, m14, m15, m16⟩ := mpre_fr (mpre hI) hfr
  refine ww_aload_n C dL_law_147 2 rfl ?_
  refine ww_aload_n C dL_law_148 0 rfl ?_
  refine ww_iload_n C dL_law_149 3 rfl ?_
  refine ww_iconst C dL_law_150 ?_
  refine ww_sarg C X 1 (by omega) dL_law_151 dL_law_152 ?_
  refine ww_aload_n C dL_law_153 0 rfl ?_
  refine ww_iload_n C dL_law_154 3 rfl ?_
  refine ww_iconst C dL_law_155 ?_
  refine ww_sarg C X 2 (by omega) dL_law_156 dL_law_157 ?_
  refine ww_aload_n C dL_law_158 0 rfl ?_
  refine ww_iload_n C dL_law_159 3 rfl ?_
  refine ww_iconst C dL_law_160 ?_
  refine ww_sarg C X 3 (by omega) dL_law_161 dL_law_162 ?_
  refine ww_callV C (As := [.int (iZ (sx xs (n + 1))), .int (iZ (sx xs (n + 2))), .int (iZ (sx xs (n + 3)))]) 30 (by decide) (ct_X6_sizes w M5 _ _ _ (sx_R _ _) (sx_R _ _) (sx_R _ _)) mf_X6_sizes ml_L_17 rfl rfl (by decide) rfl rfl (Nat.le_of_ble_eq_true rfl) dL_law_163 (fun z6 M6 hp6 => ?_)
  have hq := lq_sizes hI hp5 hp6
  exact ww_icmp_same C 866 dL_law_166 (by decide) hq.1 (kk M6 hq.2)
set_option maxRecDepth 100000 in
theorem lc_variable {w : WLD} {k : KX} {M : Mem} {nv np b L n : Nat} {xs : Nat → Int32} (C : Cx w k cL_law RL room_1) (X : Scr k b L xs) (hI : LInv M nv np) (hn : n + 6 ≤ L) (kk : ∀ M2 : Mem, LAll M2 → WW w k 866 [(0, .ref b), (1, .ref (wa w 0)), (2, .ref (wa w 30)), (3, .int (iZ ((n : Nat) : Int)))] [] M2) : WW w k 171 [(0, .ref b), (1, .ref (wa w 0)), (2, .ref (wa w 30)), (3, .int (iZ ((n : Nat) : Int)))] [] M := by
  refine ww_aload_n C dL_law_171 1 rfl ?_
  refine ww_aload_n C dL_law_172 0 rfl ?_
  refine ww_iload_n C dL_law_173 3 rfl ?_
  refine ww_iconst C dL_law_174 ?_
  refine ww_sarg C X 1 (by omega) dL_law_175 dL_law_176 ?_
  refine ww_aload_n C dL_law_177 0 rfl ?_
  refine ww_iload_n C dL_law_178 3 rfl ?_
  refine ww_iconst C dL_law_179 ?_
  refine ww_sarg C X 2 (by omega) dL_law_180 dL_law_181 ?_
  refine ww_aload_n C dL_law_182 0 rfl ?_
  refine ww_iload_n C dL_law_183 3 rfl ?_
  refine ww_iconst C dL_law_184 ?_
  refine ww_sarg C X 3 (by omega) dL_law_185 dL_law_186 ?_
  refine ww_callV C (As := [.int (iZ (sx xs (n + 1))), .int (iZ (sx xs (n + 2))), .int (iZ (sx xs (n + 3)))]) 0 (by decide) (ct_X5_variable w M nv _ _ _ (sx_R _ _) (sx_R _ _) (sx_R _ _) (hI.1.2.1) (hI.1.2.2.1)) mf_X5_variable ml_L_18 rfl rfl (by decide) rfl rfl (Nat.le_of_ble_eq_true rfl) dL_law_187 (fun z5 M5 hp5 => ?_)
  have hfr : ∀ k : Nat, 29 < k → M5 k = M k := by
    rcases hp5 with ⟨-, -, e9⟩ | ⟨-, -, e9⟩ <;> subst e9 <;> intro k hk <;> first | rfl | (repeat rw [ups_n (by omega)])
  obtain ⟨m0, m1, m2, m3, m4, m5, m6, m7, m8, m9, m10, m11, m12, m13, m14, m15, m16⟩ := mpre_fr (mpre hI) hfr
  refine ww_aload_n C dL_law_190 2 rfl ?_
  refine ww_aload_n C dL_law_191 0 rfl ?_
  refine ww_iload_n C dL_law_192 3 rfl ?_
  refine ww_iconst C dL_law_193 ?_
  refine ww_sarg C X 1 (by omega) dL_law_194 dL_law_195 ?_
  refine ww_aload_n C dL_law_196 0 rfl ?_
  refine ww_iload_n C dL_law_197 3 rfl ?_
  refine ww_iconst C dL_law_198 ?_
  refine ww_sarg C X 2 (by omega) dL_law_199 dL_law_200 ?_
  refine ww_aload_n C dL_law_201 0 rfl ?_
  refine ww_iload_n C dL_law_202 3 rfl ?_
  refine ww_iconst C dL_law_203 ?_
  refine ww_sarg C X 3 (by omega) dL_law_204 dL_law_205 ?_
  refine ww_callV C (As := [.int (iZ (sx xs (n + 1))), .int (iZ (sx xs (n + 2))), .int (iZ (sx xs (n + 3)))]) 30 (by decide) (ct_X6_variable w M5 nv _ _ _ (sx_R _ _) (sx_R _ _) (sx_R _ _) (m0) (m1)) mf_X6_variable ml_L_22 rfl rfl (by decide) rfl rfl (Nat.le_of_ble_eq_true rfl) dL_law_206 (fun z6 M6 hp6 => ?_)
  have hq := lq_variable hI hp5 hp6
  exact ww_icmp_same C 866 dL_law_209 (by decide) hq.1 (kk M6 hq.2)
set_option maxRecDepth 100000 in
theorem lc_act {w : WLD} {k : KX} {M : Mem} {nv np b L n : Nat} {xs : Nat → Int32} (C : Cx w k cL_law RL room_1) (X : Scr k b L xs) (hI : LInv M nv np) (hn : n + 6 ≤ L) (kk : ∀ M2 : Mem, LAll M2 → WW w k 866 [(0, .ref b), (1, .ref (wa w 0)), (2, .ref (wa w 30)), (3, .int (iZ ((n : Nat) : Int)))] [] M2) : WW w k 214 [(0, .ref b), (1, .ref (wa w 0)), (2, .ref (wa w 30)), (3, .int (iZ ((n : Nat) : Int)))] [] M := by
  have n5 : 0 ≤ M 1 3 ∧ M 1 3 ≤ 4 := by have e1 := hI.1.2.1; have e2 := hI.1.2.2.1; omega
  refine ww_aload_n C dL_law_214 1 rfl ?_
  refine ww_aload_n C dL_law_215 0 rfl ?_
  refine ww_iload_n C dL_law_216 3 rfl ?_
  refine ww_iconst C dL_law_217 ?_
  refine ww_sarg C X 1 (by omega) dL_law_218 dL_law_219 ?_
  refine ww_aload_n C dL_law_220 0 rfl ?_
  refine ww_iload_n C dL_law_221 3 rfl ?_
  refine ww_iconst C dL_law_222 ?_
  refine ww_sarg C X 2 (by omega) dL_law_223 dL_law_224 ?_
  refine ww_aload_n C dL_law_225 0 rfl ?_
  refine ww_iload_n C dL_law_226 3 rfl ?_
  refine ww_iconst C dL_law_227 ?_
  refine ww_sarg C X 3 (by omega) dL_law_228 dL_law_229 ?_
  refine ww_aload_n C dL_law_230 0 rfl ?_
  refine ww_iload_n C dL_law_231 3 rfl ?_
  refine ww_iconst C dL_law_232 ?_
  refine ww_sarg C X 4 (by omega) dL_law_233 dL_law_234 ?_
  refine ww_callV C (As := [.int (iZ (sx xs (n + 1))), .int (iZ (sx xs (n + 2))), .int (iZ (sx xs (n + 3))), .int (iZ (sx xs (n + 4)))]) 0 (by decide) (ct_X5_act w M _ _ _ _ (sx_R _ _) (sx_R _ _) (sx_R _ _) (sx_R _ _) (n5)) mf_X5_act ml_L_23 rfl rfl (by decide) rfl rfl (Nat.le_of_ble_eq_true rfl) dL_law_235 (fun z5 M5 hp5 => ?_)
  have hfr : ∀ k : Nat, 29 < k → M5 k = M k := by
    rcases hp5 with ⟨-, -, e9⟩ | ⟨-, -, e9⟩ <;> subst e9 <;> intro k hk <;> first | rfl | (repeat rw [ups_n (by omega)])
  obtain ⟨m0, m1, m2, m3, m4, m5, m6, m7, m8, m9, m10, m11, m12, m13, m14, m15, m16⟩ := mpre_fr (mpre hI) hfr
  refine ww_aload_n C dL_law_238 2 rfl ?_
  refine ww_aload_n C dL_law_239 0 rfl ?_
  refine ww_iload_n C dL_law_240 3 rfl ?_
  refine ww_iconst C dL_law_241 ?_
  refine ww_sarg C X 1 (by omega) dL_law_242 dL_law_243 ?_
  refine ww_aload_n C dL_law_244 0 rfl ?_
  refine ww_iload_n C dL_law_245 3 rfl ?_
  refine ww_iconst C dL_law_246 ?_
  refine ww_sarg C X 2 (by omega) dL_law_247 dL_law_248 ?_
  refine ww_aload_n C dL_law_249 0 rfl ?_
  refine ww_iload_n C dL_law_250 3 rfl ?_
  refine ww_iconst C dL_law_251 ?_
  refine ww_sarg C X 3 (by omega) dL_law_252 dL_law_253 ?_
  refine ww_aload_n C dL_law_254 0 rfl ?_
  refine ww_iload_n C dL_law_255 3 rfl ?_
  refine ww_iconst C dL_law_256 ?_
  refine ww_sarg C X 4 (by omega) dL_law_257 dL_law_258 ?_
  refine ww_callV C (As := [.int (iZ (sx xs (n + 1))), .int (iZ (sx xs (n + 2))), .int (iZ (sx xs (n + 3))), .int (iZ (sx xs (n + 4)))]) 30 (by decide) (ct_X6_act w M5 _ _ _ _ (sx_R _ _) (sx_R _ _) (sx_R _ _) (sx_R _ _) (m16)) mf_X6_act ml_L_27 rfl rfl (by decide) rfl rfl (Nat.le_of_ble_eq_true rfl) dL_law_259 (fun z6 M6 hp6 => ?_)
  have hq := lq_act hI hp5 hp6
  exact ww_icmp_same C 866 dL_law_262 (by decide) hq.1 (kk M6 hq.2)
set_option maxRecDepth 100000 in
theorem lc_edge {w : WLD} {k : KX} {M : Mem} {nv np b L n : Nat} {xs : Nat → Int32} (C : Cx w k cL_law RL room_1) (X : Scr k b L xs) (hI : LInv M nv np) (hn : n + 6 ≤ L) (kk : ∀ M2 : Mem, LAll M2 → WW w k 866 [(0, .ref b), (1, .ref (wa w 0)), (2, .ref (wa w 30)), (3, .int (iZ ((n : Nat) : Int)))] [] M2) : WW w k 267 [(0, .ref b), (1, .ref (wa w 0)), (2, .ref (wa w 30)), (3, .int (iZ ((n : Nat) : Int)))] [] M := by
  have n5 : 0 ≤ M 1 3 ∧ M 1 3 ≤ 4 := by have e1 := hI.1.2.1; have e2 := hI.1.2.2.1; omega
  refine ww_aload_n C dL_law_267 1 rfl ?_
  refine ww_aload_n C dL_law_268 0 rfl ?_
  refine ww_iload_n C dL_law_269 3 rfl ?_
  refine ww_iconst C dL_law_270 ?_
  refine ww_sarg C X 1 (by omega) dL_law_271 dL_law_272 ?_
  refine ww_aload_n C dL_law_273 0 rfl ?_
  refine ww_iload_n C dL_law_274 3 rfl ?_
  refine ww_iconst C dL_law_275 ?_
  refine ww_sarg C X 2 (by omega) dL_law_276 dL_law_277 ?_
  refine ww_aload_n C dL_law_278 0 rfl ?_
  refine ww_iload_n C dL_law_279 3 rfl ?_
  refine ww_iconst C dL_law_280 ?_
  refine ww_sarg C X 3 (by omega) dL_law_281 dL_law_282 ?_
  refine ww_aload_n C dL_law_283 0 rfl ?_
  refine ww_iload_n C dL_law_284 3 rfl ?_
  refine ww_iconst C dL_law_285 ?_
  refine ww_sarg C X 4 (by omega) dL_law_286 dL_law_287 ?_
  refine ww_aload_n C dL_law_288 0 rfl ?_
  refine ww_iload_n C dL_law_289 3 rfl ?_
  refine ww_iconst C dL_law_290 ?_
  refine ww_sarg C X 5 (by omega) dL_law_291 dL_law_292 ?_
  refine ww_callV C (As := [.int (iZ (sx xs (n + 1))), .int (iZ (sx xs (n + 2))), .int (iZ (sx xs (n + 3))), .int (iZ (sx xs (n + 4))), .int (iZ (sx xs (n + 5)))]) 0 (by decide) (ct_X5_edge w M _ _ _ _ _ (sx_R _ _) (sx_R _ _) (sx_R _ _) (sx_R _ _) (n5) (hI.1.1)) mf_X5_edge ml_L_28 rfl rfl (by decide) rfl rfl (Nat.le_of_ble_eq_true rfl) dL_law_293 (fun z5 M5 hp5 => ?_)
  have hfr : ∀ k : Nat, 29 < k → M5 k = M k := by
    rcases hp5 with ⟨-, -, e9⟩ | ⟨-, -, e9⟩ <;> subst e9 <;> intro k hk <;> first | rfl | (repeat rw [ups_n (by omega)])
  obtain ⟨m0, m1, m2, m3, m4, m5, m6, m7, m8, m9, m10, m11, m12, m13, m14, m15, m16⟩ := mpre_fr (mpre hI) hfr
  refine ww_aload_n C dL_law_296 2 rfl ?_
  refine ww_aload_n C dL_law_297 0 rfl ?_
  refine ww_iload_n C dL_law_298 3 rfl ?_
  refine ww_iconst C dL_law_299 ?_
  refine ww_sarg C X 1 (by omega) dL_law_300 dL_law_301 ?_
  refine ww_aload_n C dL_law_302 0 rfl ?_
  refine ww_iload_n C dL_law_303 3 rfl ?_
  refine ww_iconst C dL_law_304 ?_
  refine ww_sarg C X 2 (by omega) dL_law_305 dL_law_306 ?_
  refine ww_aload_n C dL_law_307 0 rfl ?_
  refine ww_iload_n C dL_law_308 3 rfl ?_
  refine ww_iconst C dL_law_309 ?_
  refine ww_sarg C X 3 (by omega) dL_law_310 dL_law_311 ?_
  refine ww_aload_n C dL_law_312 0 rfl ?_
  refine ww_iload_n C dL_law_313 3 rfl ?_
  refine ww_iconst C dL_law_314 ?_
  refine ww_sarg C X 4 (by omega) dL_law_315 dL_law_316 ?_
  refine ww_aload_n C dL_law_317 0 rfl ?_
  refine ww_iload_n C dL_law_318 3 rfl ?_
  refine ww_iconst C dL_law_319 ?_
  refine ww_sarg C X 5 (by omega) dL_law_320 dL_law_321 ?_
  refine ww_callV C (As := [.int (iZ (sx xs (n + 1))), .int (iZ (sx xs (n + 2))), .int (iZ (sx xs (n + 3))), .int (iZ (sx xs (n + 4))), .int (iZ (sx xs (n + 5)))]) 30 (by decide) (ct_X6_edge w M5 _ _ _ _ _ (sx_R _ _) (sx_R _ _) (sx_R _ _) (sx_R _ _) (m16) (m2)) mf_X6_edge ml_L_32 rfl rfl (by decide) rfl rfl (Nat.le_of_ble_eq_true rfl) dL_law_322 (fun z6 M6 hp6 => ?_)
  have hq := lq_edge hI (sx_R _ _) hp5 hp6
  exact ww_icmp_same C 866 dL_law_325 (by decide) hq.1 (kk M6 hq.2)
set_option maxRecDepth 100000 in
theorem lc_clear {w : WLD} {k : KX} {M : Mem} {nv np b L n : Nat} {xs : Nat → Int32} (C : Cx w k cL_law RL room_1) (X : Scr k b L xs) (hI : LInv M nv np) (hn : n + 6 ≤ L) (kk : ∀ M2 : Mem, LAll M2 → WW w k 866 [(0, .ref b), (1, .ref (wa w 0)), (2, .ref (wa w 30)), (3, .int (iZ ((n : Nat) : Int)))] [] M2) : WW w k 330 [(0, .ref b), (1, .ref (wa w 0)), (2, .ref (wa w 30)), (3, .int (iZ ((n : Nat) : Int)))] [] M := by
  refine ww_aload_n C dL_law_330 1 rfl ?_
  refine ww_callVV C (As := []) 0 (by decide) (ct_X5_clear w M) mf_X5_clear ml_L_33 rfl rfl (by decide) rfl rfl (Nat.le_of_ble_eq_true rfl) dL_law_331 (fun M5 hp5 => ?_)
  have hfr : ∀ k : Nat, 29 < k → M5 k = M k := by
    rw [hp5]; intro k hk; repeat rw [ups_n (by omega)]
  obtain ⟨m0, m1, m2, m3, m4, m5, m6, m7, m8, m9, m10, m11, m12, m13, m14, m15, m16⟩ := mpre_fr (mpre hI) hfr
  refine ww_aload_n C dL_law_334 2 rfl ?_
  refine ww_callVV C (As := []) 30 (by decide) (ct_X6_clear w M5) mf_X6_clear ml_L_36 rfl rfl (by decide) rfl rfl (Nat.le_of_ble_eq_true rfl) dL_law_335 (fun M6 hp6 => ?_)
  refine ww_goto C 866 dL_law_338 (by decide) ?_
  exact kk M6 (lq_clear hI hp5 hp6)
set_option maxRecDepth 100000 in
theorem lc_lay {w : WLD} {k : KX} {M : Mem} {nv np b L n : Nat} {xs : Nat → Int32} (C : Cx w k cL_law RL room_1) (X : Scr k b L xs) (hI : LInv M nv np) (hn : n + 6 ≤ L) (kk : ∀ M2 : Mem, LAll M2 → WW w k 866 [(0, .ref b), (1, .ref (wa w 0)), (2, .ref (wa w 30)), (3, .int (iZ ((n : Nat) : Int)))] [] M2) : WW w k 341 [(0, .ref b), (1, .ref (wa w 0)), (2, .ref (wa w 30)), (3, .int (iZ ((n : Nat) : Int)))] [] M := by
  refine ww_aload_n C dL_law_341 1 rfl ?_
  refine ww_aload_n C dL_law_342 0 rfl ?_
  refine ww_iload_n C dL_law_343 3 rfl ?_
  refine ww_iconst C dL_law_344 ?_
  refine ww_sarg C X 1 (by omega) dL_law_345 dL_law_346 ?_
  refine ww_aload_n C dL_law_347 0 rfl ?_
  refine ww_iload_n C dL_law_348 3 rfl ?_
  refine ww_iconst C dL_law_349 ?_
  refine ww_sarg C X 2 (by omega) dL_law_350 dL_law_351 ?_
  refine ww_aload_n C dL_law_352 0 rfl ?_
  refine ww_iload_n C dL_law_353 3 rfl ?_
  refine ww_iconst C dL_law_354 ?_
  refine ww_sarg C X 3 (by omega) dL_law_355 dL_law_356 ?_
  refine ww_aload_n C dL_law_357 0 rfl ?_
  refine ww_iload_n C dL_law_358 3 rfl ?_
  refine ww_iconst C dL_law_359 ?_
  refine ww_sarg C X 4 (by omega) dL_law_360 dL_law_361 ?_
  refine ww_callV C (As := [.int (iZ (sx xs (n + 1))), .int (iZ (sx xs (n + 2))), .int (iZ (sx xs (n + 3))), .int (iZ (sx xs (n + 4)))]) 0 (by decide) (ct_X5_lay w M _ _ _ _ (sx_R _ _) (sx_R _ _) (sx_R _ _) (sx_R _ _)) mf_X5_lay ml_L_37 rfl rfl (by decide) rfl rfl (Nat.le_of_ble_eq_true rfl) dL_law_362 (fun z5 M5 hp5 => ?_)
  have hfr : ∀ k : Nat, 29 < k → M5 k = M k := by
    rcases hp5 with ⟨-, -, e9⟩ | ⟨-, -, e9⟩ <;> subst e9 <;> intro k hk <;> first | rfl | (repeat rw [ups_n (by omega)])
  obtain ⟨m0, m1, m2, m3, m4, m5, m6, m7, m8, m9, m10, m11, m12, m13, m14, m15, m16⟩ := mpre_fr (mpre hI) hfr
  refine ww_aload_n C dL_law_365 2 rfl ?_
  refine ww_aload_n C dL_law_366 0 rfl ?_
  refine ww_iload_n C dL_law_367 3 rfl ?_
  refine ww_iconst C dL_law_368 ?_
  refine ww_sarg C X 1 (by omega) dL_law_369 dL_law_370 ?_
  refine ww_aload_n C dL_law_371 0 rfl ?_
  refine ww_iload_n C dL_law_372 3 rfl ?_
  refine ww_iconst C dL_law_373 ?_
  refine ww_sarg C X 2 (by omega) dL_law_374 dL_law_375 ?_
  refine ww_aload_n C dL_law_376 0 rfl ?_
  refine ww_iload_n C dL_law_377 3 rfl ?_
  refine ww_iconst C dL_law_378 ?_
  refine ww_sarg C X 3 (by omega) dL_law_379 dL_law_380 ?_
  refine ww_aload_n C dL_law_381 0 rfl ?_
  refine ww_iload_n C dL_law_382 3 rfl ?_
  refine ww_iconst C dL_law_383 ?_
  refine ww_sarg C X 4 (by omega) dL_law_384 dL_law_385 ?_
  refine ww_callV C (As := [.int (iZ (sx xs (n + 1))), .int (iZ (sx xs (n + 2))), .int (iZ (sx xs (n + 3))), .int (iZ (sx xs (n + 4)))]) 30 (by decide) (ct_X6_lay w M5 _ _ _ _ (sx_R _ _) (sx_R _ _) (sx_R _ _) (sx_R _ _)) mf_X6_lay ml_L_40 rfl rfl (by decide) rfl rfl (Nat.le_of_ble_eq_true rfl) dL_law_386 (fun z6 M6 hp6 => ?_)
  have hq := lq_lay hI hp5 hp6
  exact ww_icmp_same C 866 dL_law_389 (by decide) hq.1 (kk M6 hq.2)
set_option maxRecDepth 100000 in
theorem lc_fold {w : WLD} {k : KX} {M : Mem} {nv np b L n : Nat} {xs : Nat → Int32} (C : Cx w k cL_law RL room_1) (X : Scr k b L xs) (hI : LInv M nv np) (hn : n + 6 ≤ L) (kk : ∀ M2 : Mem, LAll M2 → WW w k 866 [(0, .ref b), (1, .ref (wa w 0)), (2, .ref (wa w 30)), (3, .int (iZ ((n : Nat) : Int)))] [] M2) : WW w k 394 [(0, .ref b), (1, .ref (wa w 0)), (2, .ref (wa w 30)), (3, .int (iZ ((n : Nat) : Int)))] [] M := by
  refine ww_aload_n C dL_law_394 1 rfl ?_
  refine ww_aload_n C dL_law_395 0 rfl ?_
  refine ww_iload_n C dL_law_396 3 rfl ?_
  refine ww_iconst C dL_law_397 ?_
  refine ww_sarg C X 1 (by omega) dL_law_398 dL_law_399 ?_
  refine ww_callV C (As := [.int (iZ (sx xs (n + 1)))]) 0 (by decide) (ct_X5_fold w M _ (sx_R _ _)) mf_X5_fold ml_L_41 rfl rfl (by decide) rfl rfl (Nat.le_of_ble_eq_true rfl) dL_law_400 (fun z5 M5 hp5 => ?_)
  have hfr : ∀ k : Nat, 29 < k → M5 k = M k := by
    rcases hp5 with ⟨-, -, e9⟩ | ⟨-, -, e9⟩ <;> subst e9 <;> intro k hk <;> first | rfl | (repeat rw [ups_n (by omega)])
  obtain ⟨m0, m1, m2, m3, m4, m5, m6, m7, m8, m9, m10, m11, m12, m13, m14, m15, m16⟩ := mpre_fr (mpre hI) hfr
  refine ww_aload_n C dL_law_403 2 rfl ?_
  refine ww_aload_n C dL_law_404 0 rfl ?_
  refine ww_iload_n C dL_law_405 3 rfl ?_
  refine ww_iconst C dL_law_406 ?_
  refine ww_sarg C X 1 (by omega) dL_law_407 dL_law_408 ?_
  refine ww_callV C (As := [.int (iZ (sx xs (n + 1)))]) 30 (by decide) (ct_X6_fold w M5 _ (sx_R _ _)) mf_X6_fold ml_L_45 rfl rfl (by decide) rfl rfl (Nat.le_of_ble_eq_true rfl) dL_law_409 (fun z6 M6 hp6 => ?_)
  have hq := lq_fold hI hp5 hp6
  exact ww_icmp_same C 866 dL_law_412 (by decide) hq.1 (kk M6 hq.2)
set_option maxRecDepth 100000 in
theorem lc_why {w : WLD} {k : KX} {M : Mem} {nv np b L n : Nat} {xs : Nat → Int32} (C : Cx w k cL_law RL room_1) (X : Scr k b L xs) (hI : LInv M nv np) (hn : n + 6 ≤ L) (kk : ∀ M2 : Mem, LAll M2 → WW w k 866 [(0, .ref b), (1, .ref (wa w 0)), (2, .ref (wa w 30)), (3, .int (iZ ((n : Nat) : Int)))] [] M2) : WW w k 417 [(0, .ref b), (1, .ref (wa w 0)), (2, .ref (wa w 30)), (3, .int (iZ ((n : Nat) : Int)))] [] M := by
  refine ww_aload_n C dL_law_417 1 rfl ?_
  refine ww_aload_n C dL_law_418 0 rfl ?_
  refine ww_iload_n C dL_law_419 3 rfl ?_
  refine ww_iconst C dL_law_420 ?_
  refine ww_sarg C X 1 (by omega) dL_law_421 dL_law_422 ?_
  refine ww_callV C (As := [.int (iZ (sx xs (n + 1)))]) 0 (by decide) (ct_X5_why w M nv np _ (hI.1) (sx_R _ _)) mf_X5_why ml_L_46 rfl rfl (by decide) rfl rfl (Nat.le_of_ble_eq_true rfl) dL_law_423 (fun z5 M5 hp5 => ?_)
  have hfr : ∀ k : Nat, 29 < k → M5 k = M k := by
    exact fun k hk => hp5.2.2 k (by omega)
  obtain ⟨m0, m1, m2, m3, m4, m5, m6, m7, m8, m9, m10, m11, m12, m13, m14, m15, m16⟩ := mpre_fr (mpre hI) hfr
  refine ww_aload_n C dL_law_426 2 rfl ?_
  refine ww_aload_n C dL_law_427 0 rfl ?_
  refine ww_iload_n C dL_law_428 3 rfl ?_
  refine ww_iconst C dL_law_429 ?_
  refine ww_sarg C X 1 (by omega) dL_law_430 dL_law_431 ?_
  refine ww_callV C (As := [.int (iZ (sx xs (n + 1)))]) 30 (by decide) (ct_X6_why w M5 nv _ (sx_R _ _) (m0) (m1) (m2) (m3) (m8) (m9)) mf_X6_why ml_L_50 rfl rfl (by decide) rfl rfl (Nat.le_of_ble_eq_true rfl) dL_law_432 (fun z6 M6 hp6 => ?_)
  have hq := lq_why hI hp5 hp6
  exact ww_icmp_same C 866 dL_law_435 (by decide) hq.1 (kk M6 hq.2)
set_option maxRecDepth 100000 in
theorem lc_laid {w : WLD} {k : KX} {M : Mem} {nv np b L n : Nat} {xs : Nat → Int32} (C : Cx w k cL_law RL room_1) (X : Scr k b L xs) (hI : LInv M nv np) (hn : n + 6 ≤ L) (kk : ∀ M2 : Mem, LAll M2 → WW w k 866 [(0, .ref b), (1, .ref (wa w 0)), (2, .ref (wa w 30)), (3, .int (iZ ((n : Nat) : Int)))] [] M2) : WW w k 440 [(0, .ref b), (1, .ref (wa w 0)), (2, .ref (wa w 30)), (3, .int (iZ ((n : Nat) : Int)))] [] M := by
  refine ww_aload_n C dL_law_440 1 rfl ?_
  refine ww_aload_n C dL_law_441 0 rfl ?_
  refine ww_iload_n C dL_law_442 3 rfl ?_
  refine ww_iconst C dL_law_443 ?_
  refine ww_sarg C X 1 (by omega) dL_law_444 dL_law_445 ?_
  refine ww_callV C (As := [.int (iZ (sx xs (n + 1)))]) 0 (by decide) (ct_X5_laid w M nv np _ (hI.1) (sx_R _ _)) mf_X5_laid ml_L_51 rfl rfl (by decide) rfl rfl (Nat.le_of_ble_eq_true rfl) dL_law_446 (fun z5 M5 hp5 => ?_)
  have hfr : ∀ k : Nat, 29 < k → M5 k = M k := by
    exact fun k hk => hp5.2.2 k (by omega)
  obtain ⟨m0, m1, m2, m3, m4, m5, m6, m7, m8, m9, m10, m11, m12, m13, m14, m15, m16⟩ := mpre_fr (mpre hI) hfr
  refine ww_aload_n C dL_law_449 2 rfl ?_
  refine ww_aload_n C dL_law_450 0 rfl ?_
  refine ww_iload_n C dL_law_451 3 rfl ?_
  refine ww_iconst C dL_law_452 ?_
  refine ww_sarg C X 1 (by omega) dL_law_453 dL_law_454 ?_
  refine ww_callV C (As := [.int (iZ (sx xs (n + 1)))]) 30 (by decide) (ct_X6_laid w M5 _ (sx_R _ _) (m2) (m8) (m9) (m13) (m14)) mf_X6_laid ml_L_54 rfl rfl (by decide) rfl rfl (Nat.le_of_ble_eq_true rfl) dL_law_455 (fun z6 M6 hp6 => ?_)
  have hq := lq_laid hI hp5 hp6
  exact ww_icmp_same C 866 dL_law_458 (by decide) hq.1 (kk M6 hq.2)
set_option maxRecDepth 100000 in
theorem lc_where {w : WLD} {k : KX} {M : Mem} {nv np b L n : Nat} {xs : Nat → Int32} (C : Cx w k cL_law RL room_1) (X : Scr k b L xs) (hI : LInv M nv np) (hn : n + 6 ≤ L) (kk : ∀ M2 : Mem, LAll M2 → WW w k 866 [(0, .ref b), (1, .ref (wa w 0)), (2, .ref (wa w 30)), (3, .int (iZ ((n : Nat) : Int)))] [] M2) : WW w k 463 [(0, .ref b), (1, .ref (wa w 0)), (2, .ref (wa w 30)), (3, .int (iZ ((n : Nat) : Int)))] [] M := by
  refine ww_aload_n C dL_law_463 1 rfl ?_
  refine ww_aload_n C dL_law_464 0 rfl ?_
  refine ww_iload_n C dL_law_465 3 rfl ?_
  refine ww_iconst C dL_law_466 ?_
  refine ww_sarg C X 1 (by omega) dL_law_467 dL_law_468 ?_
  refine ww_aload_n C dL_law_469 0 rfl ?_
  refine ww_iload_n C dL_law_470 3 rfl ?_
  refine ww_iconst C dL_law_471 ?_
  refine ww_sarg C X 2 (by omega) dL_law_472 dL_law_473 ?_
  refine ww_aload_n C dL_law_474 0 rfl ?_
  refine ww_iload_n C dL_law_475 3 rfl ?_
  refine ww_iconst C dL_law_476 ?_
  refine ww_sarg C X 3 (by omega) dL_law_477 dL_law_478 ?_
  refine ww_aload_n C dL_law_479 0 rfl ?_
  refine ww_iload_n C dL_law_480 3 rfl ?_
  refine ww_iconst C dL_law_481 ?_
  refine ww_sarg C X 4 (by omega) dL_law_482 dL_law_483 ?_
  refine ww_callV C (As := [.int (iZ (sx xs (n + 1))), .int (iZ (sx xs (n + 2))), .int (iZ (sx xs (n + 3))), .int (iZ (sx xs (n + 4)))]) 0 (by decide) (ct_X5_where w M nv np _ _ _ _ (hI.1) (sx_R _ _) (sx_R _ _) (sx_R _ _) (sx_R _ _)) mf_X5_where ml_L_55 rfl rfl (by decide) rfl rfl (Nat.le_of_ble_eq_true rfl) dL_law_484 (fun z5 M5 hp5 => ?_)
  have hfr : ∀ k : Nat, 29 < k → M5 k = M k := by
    exact fun k hk => hp5.2.2 k (by omega)
  obtain ⟨m0, m1, m2, m3, m4, m5, m6, m7, m8, m9, m10, m11, m12, m13, m14, m15, m16⟩ := mpre_fr (mpre hI) hfr
  refine ww_aload_n C dL_law_487 2 rfl ?_
  refine ww_aload_n C dL_law_488 0 rfl ?_
  refine ww_iload_n C dL_law_489 3 rfl ?_
  refine ww_iconst C dL_law_490 ?_
  refine ww_sarg C X 1 (by omega) dL_law_491 dL_law_492 ?_
  refine ww_aload_n C dL_law_493 0 rfl ?_
  refine ww_iload_n C dL_law_494 3 rfl ?_
  refine ww_iconst C dL_law_495 ?_
  refine ww_sarg C X 2 (by omega) dL_law_496 dL_law_497 ?_
  refine ww_aload_n C dL_law_498 0 rfl ?_
  refine ww_iload_n C dL_law_499 3 rfl ?_
  refine ww_iconst C dL_law_500 ?_
  refine ww_sarg C X 3 (by omega) dL_law_501 dL_law_502 ?_
  refine ww_aload_n C dL_law_503 0 rfl ?_
  refine ww_iload_n C dL_law_504 3 rfl ?_
  refine ww_iconst C dL_law_505 ?_
  refine ww_sarg C X 4 (by omega) dL_law_506 dL_law_507 ?_
  refine ww_callV C (As := [.int (iZ (sx xs (n + 1))), .int (iZ (sx xs (n + 2))), .int (iZ (sx xs (n + 3))), .int (iZ (sx xs (n + 4)))]) 30 (by decide) (ct_X6_where w M5 _ _ _ _ (sx_R _ _) (sx_R _ _) (sx_R _ _) (sx_R _ _) (m2) (m8) (m9)) mf_X6_where ml_L_59 rfl rfl (by decide) rfl rfl (Nat.le_of_ble_eq_true rfl) dL_law_508 (fun z6 M6 hp6 => ?_)
  have hq := lq_where hI hp5 hp6
  exact ww_icmp_same C 866 dL_law_511 (by decide) hq.1 (kk M6 hq.2)
set_option maxRecDepth 100000 in
theorem lc_needs {w : WLD} {k : KX} {M : Mem} {nv np b L n : Nat} {xs : Nat → Int32} (C : Cx w k cL_law RL room_1) (X : Scr k b L xs) (hI : LInv M nv np) (hn : n + 6 ≤ L) (kk : ∀ M2 : Mem, LAll M2 → WW w k 866 [(0, .ref b), (1, .ref (wa w 0)), (2, .ref (wa w 30)), (3, .int (iZ ((n : Nat) : Int)))] [] M2) : WW w k 516 [(0, .ref b), (1, .ref (wa w 0)), (2, .ref (wa w 30)), (3, .int (iZ ((n : Nat) : Int)))] [] M := by
  refine ww_aload_n C dL_law_516 1 rfl ?_
  refine ww_aload_n C dL_law_517 0 rfl ?_
  refine ww_iload_n C dL_law_518 3 rfl ?_
  refine ww_iconst C dL_law_519 ?_
  refine ww_sarg C X 1 (by omega) dL_law_520 dL_law_521 ?_
  refine ww_aload_n C dL_law_522 0 rfl ?_
  refine ww_iload_n C dL_law_523 3 rfl ?_
  refine ww_iconst C dL_law_524 ?_
  refine ww_sarg C X 2 (by omega) dL_law_525 dL_law_526 ?_
  refine ww_callV C (As := [.int (iZ (sx xs (n + 1))), .int (iZ (sx xs (n + 2)))]) 0 (by decide) (ct_X5_needs w M nv np _ _ (hI.1) (sx_R _ _) (sx_R _ _)) mf_X5_needs ml_L_60 rfl rfl (by decide) rfl rfl (Nat.le_of_ble_eq_true rfl) dL_law_527 (fun z5 M5 hp5 => ?_)
  have hfr : ∀ k : Nat, 29 < k → M5 k = M k := by
    exact fun k hk => by rw [hp5.2]
  obtain ⟨m0, m1, m2, m3, m4, m5, m6, m7, m8, m9, m10, m11, m12, m13, m14, m15, m16⟩ := mpre_fr (mpre hI) hfr
  refine ww_aload_n C dL_law_530 2 rfl ?_
  refine ww_aload_n C dL_law_531 0 rfl ?_
  refine ww_iload_n C dL_law_532 3 rfl ?_
  refine ww_iconst C dL_law_533 ?_
  refine ww_sarg C X 1 (by omega) dL_law_534 dL_law_535 ?_
  refine ww_aload_n C dL_law_536 0 rfl ?_
  refine ww_iload_n C dL_law_537 3 rfl ?_
  refine ww_iconst C dL_law_538 ?_
  refine ww_sarg C X 2 (by omega) dL_law_539 dL_law_540 ?_
  refine ww_callV C (As := [.int (iZ (sx xs (n + 1))), .int (iZ (sx xs (n + 2)))]) 30 (by decide) (ct_X6_needs w M5 _ _ (sx_R _ _) (sx_R _ _) (m16) (m2) (m3) (m8)) mf_X6_needs ml_L_64 rfl rfl (by decide) rfl rfl (Nat.le_of_ble_eq_true rfl) dL_law_541 (fun z6 M6 hp6 => ?_)
  have hq := lq_needs hI hp5 hp6
  exact ww_icmp_same C 866 dL_law_544 (by decide) hq.1 (kk M6 hq.2)
set_option maxRecDepth 100000 in
theorem lc_best_11 {w : WLD} {k : KX} {M : Mem} {nv np b L n : Nat} {xs : Nat → Int32} (C : Cx w k cL_law RL room_1) (X : Scr k b L xs) (hI : LInv M nv np) (hn : n + 6 ≤ L) (e1 : sx xs (n + 1) = 1) (e2 : sx xs (n + 2) = 1) (kk : ∀ M2 : Mem, LAll M2 → WW w k 866 [(0, .ref b), (1, .ref (wa w 0)), (2, .ref (wa w 30)), (3, .int (iZ ((n : Nat) : Int)))] [] M2) : WW w k 549 [(0, .ref b), (1, .ref (wa w 0)), (2, .ref (wa w 30)), (3, .int (iZ ((n : Nat) : Int)))] [] M := by
  refine ww_aload_n C dL_law_549 1 rfl ?_
  refine ww_aload_n C dL_law_550 0 rfl ?_
  refine ww_iload_n C dL_law_551 3 rfl ?_
  refine ww_iconst C dL_law_552 ?_
  refine ww_sarg C X 1 (by omega) dL_law_553 dL_law_554 ?_
  refine ww_aload_n C dL_law_555 0 rfl ?_
  refine ww_iload_n C dL_law_556 3 rfl ?_
  refine ww_iconst C dL_law_557 ?_
  refine ww_sarg C X 2 (by omega) dL_law_558 dL_law_559 ?_
  refine ww_callV C (As := [.int (iZ 1), .int (iZ 1)]) 0 (by decide) (ct_X5_best_11 w M nv np (hI.1) (hI.2.1)) mf_X5_best ml_L_65 rfl rfl (by decide) rfl (by rw [e1, e2]; rfl) (Nat.le_of_ble_eq_true rfl) dL_law_560 (fun z5 M5 hp5 => ?_)
  have hfr : ∀ k : Nat, 29 < k → M5 k = M k := by
    rcases hp5 with ⟨-, -, -, -, e9⟩ | ⟨c, -, -, -, -, -, -, e9⟩
    · exact fun k hk => e9 k (by omega) (by omega) (by omega) (by omega)
    · exact fun k hk => e9 k (by omega)
  obtain ⟨m0, m1, m2, m3, m4, m5, m6, m7, m8, m9, m10, m11, m12, m13, m14, m15, m16⟩ := mpre_fr (mpre hI) hfr
  refine ww_aload_n C dL_law_563 2 rfl ?_
  refine ww_aload_n C dL_law_564 0 rfl ?_
  refine ww_iload_n C dL_law_565 3 rfl ?_
  refine ww_iconst C dL_law_566 ?_
  refine ww_sarg C X 1 (by omega) dL_law_567 dL_law_568 ?_
  refine ww_aload_n C dL_law_569 0 rfl ?_
  refine ww_iload_n C dL_law_570 3 rfl ?_
  refine ww_iconst C dL_law_571 ?_
  refine ww_sarg C X 2 (by omega) dL_law_572 dL_law_573 ?_
  refine ww_callV C (As := [.int (iZ 1), .int (iZ 1)]) 30 (by decide) (ct_X6_best_11 w M5 nv (m0) (m1) (m2) (m3) (m8) (m9) (m13) (m15) (trivial)) mf_X6_best ml_L_68 rfl rfl (by decide) rfl (by rw [e1, e2]; rfl) (Nat.le_of_ble_eq_true rfl) dL_law_574 (fun z6 M6 hp6 => ?_)
  have hq := linv_bst hI hp5 hp6
  exact ww_icmp_same C 866 dL_law_577 (by decide) hq.1 (kk M6 hq.2)
set_option maxRecDepth 100000 in
theorem lc_best_12 {w : WLD} {k : KX} {M : Mem} {nv np b L n : Nat} {xs : Nat → Int32} (C : Cx w k cL_law RL room_1) (X : Scr k b L xs) (hI : LInv M nv np) (hn : n + 6 ≤ L) (e1 : sx xs (n + 1) = 1) (e2 : sx xs (n + 2) = 2) (kk : ∀ M2 : Mem, LAll M2 → WW w k 866 [(0, .ref b), (1, .ref (wa w 0)), (2, .ref (wa w 30)), (3, .int (iZ ((n : Nat) : Int)))] [] M2) : WW w k 549 [(0, .ref b), (1, .ref (wa w 0)), (2, .ref (wa w 30)), (3, .int (iZ ((n : Nat) : Int)))] [] M := by
  refine ww_aload_n C dL_law_549 1 rfl ?_
  refine ww_aload_n C dL_law_550 0 rfl ?_
  refine ww_iload_n C dL_law_551 3 rfl ?_
  refine ww_iconst C dL_law_552 ?_
  refine ww_sarg C X 1 (by omega) dL_law_553 dL_law_554 ?_
  refine ww_aload_n C dL_law_555 0 rfl ?_
  refine ww_iload_n C dL_law_556 3 rfl ?_
  refine ww_iconst C dL_law_557 ?_
  refine ww_sarg C X 2 (by omega) dL_law_558 dL_law_559 ?_
  refine ww_callV C (As := [.int (iZ 1), .int (iZ 2)]) 0 (by decide) (ct_X5_best_12 w M nv np (hI.1) (hI.2.1)) mf_X5_best ml_L_65 rfl rfl (by decide) rfl (by rw [e1, e2]; rfl) (Nat.le_of_ble_eq_true rfl) dL_law_560 (fun z5 M5 hp5 => ?_)
  have hfr : ∀ k : Nat, 29 < k → M5 k = M k := by
    rcases hp5 with ⟨-, -, -, -, e9⟩ | ⟨c, -, -, -, -, -, -, e9⟩
    · exact fun k hk => e9 k (by omega) (by omega) (by omega) (by omega)
    · exact fun k hk => e9 k (by omega)
  obtain ⟨m0, m1, m2, m3, m4, m5, m6, m7, m8, m9, m10, m11, m12, m13, m14, m15, m16⟩ := mpre_fr (mpre hI) hfr
  refine ww_aload_n C dL_law_563 2 rfl ?_
  refine ww_aload_n C dL_law_564 0 rfl ?_
  refine ww_iload_n C dL_law_565 3 rfl ?_
  refine ww_iconst C dL_law_566 ?_
  refine ww_sarg C X 1 (by omega) dL_law_567 dL_law_568 ?_
  refine ww_aload_n C dL_law_569 0 rfl ?_
  refine ww_iload_n C dL_law_570 3 rfl ?_
  refine ww_iconst C dL_law_571 ?_
  refine ww_sarg C X 2 (by omega) dL_law_572 dL_law_573 ?_
  refine ww_callV C (As := [.int (iZ 1), .int (iZ 2)]) 30 (by decide) (ct_X6_best_12 w M5 nv (m0) (m1) (m2) (m3) (m8) (m9) (m13) (m15) (trivial)) mf_X6_best ml_L_68 rfl rfl (by decide) rfl (by rw [e1, e2]; rfl) (Nat.le_of_ble_eq_true rfl) dL_law_574 (fun z6 M6 hp6 => ?_)
  have hq := linv_bst hI hp5 hp6
  exact ww_icmp_same C 866 dL_law_577 (by decide) hq.1 (kk M6 hq.2)
set_option maxRecDepth 100000 in
theorem lc_best_21 {w : WLD} {k : KX} {M : Mem} {nv np b L n : Nat} {xs : Nat → Int32} (C : Cx w k cL_law RL room_1) (X : Scr k b L xs) (hI : LInv M nv np) (hn : n + 6 ≤ L) (e1 : sx xs (n + 1) = 2) (e2 : sx xs (n + 2) = 1) (kk : ∀ M2 : Mem, LAll M2 → WW w k 866 [(0, .ref b), (1, .ref (wa w 0)), (2, .ref (wa w 30)), (3, .int (iZ ((n : Nat) : Int)))] [] M2) : WW w k 549 [(0, .ref b), (1, .ref (wa w 0)), (2, .ref (wa w 30)), (3, .int (iZ ((n : Nat) : Int)))] [] M := by
  refine ww_aload_n C dL_law_549 1 rfl ?_
  refine ww_aload_n C dL_law_550 0 rfl ?_
  refine ww_iload_n C dL_law_551 3 rfl ?_
  refine ww_iconst C dL_law_552 ?_
  refine ww_sarg C X 1 (by omega) dL_law_553 dL_law_554 ?_
  refine ww_aload_n C dL_law_555 0 rfl ?_
  refine ww_iload_n C dL_law_556 3 rfl ?_
  refine ww_iconst C dL_law_557 ?_
  refine ww_sarg C X 2 (by omega) dL_law_558 dL_law_559 ?_
  refine ww_callV C (As := [.int (iZ 2), .int (iZ 1)]) 0 (by decide) (ct_X5_best_21 w M nv np (hI.1) (hI.2.1)) mf_X5_best ml_L_65 rfl rfl (by decide) rfl (by rw [e1, e2]; rfl) (Nat.le_of_ble_eq_true rfl) dL_law_560 (fun z5 M5 hp5 => ?_)
  have hfr : ∀ k : Nat, 29 < k → M5 k = M k := by
    rcases hp5 with ⟨-, -, -, -, e9⟩ | ⟨c, -, -, -, -, -, -, e9⟩
    · exact fun k hk => e9 k (by omega) (by omega) (by omega) (by omega)
    · exact fun k hk => e9 k (by omega)
  obtain ⟨m0, m1, m2, m3, m4, m5, m6, m7, m8, m9, m10, m11, m12, m13, m14, m15, m16⟩ := mpre_fr (mpre hI) hfr
  refine ww_aload_n C dL_law_563 2 rfl ?_
  refine ww_aload_n C dL_law_564 0 rfl ?_
  refine ww_iload_n C dL_law_565 3 rfl ?_
  refine ww_iconst C dL_law_566 ?_
  refine ww_sarg C X 1 (by omega) dL_law_567 dL_law_568 ?_
  refine ww_aload_n C dL_law_569 0 rfl ?_
  refine ww_iload_n C dL_law_570 3 rfl ?_
  refine ww_iconst C dL_law_571 ?_
  refine ww_sarg C X 2 (by omega) dL_law_572 dL_law_573 ?_
  refine ww_callV C (As := [.int (iZ 2), .int (iZ 1)]) 30 (by decide) (ct_X6_best_21 w M5 nv (m0) (m1) (m2) (m3) (m8) (m9) (m13) (m15) (trivial)) mf_X6_best ml_L_68 rfl rfl (by decide) rfl (by rw [e1, e2]; rfl) (Nat.le_of_ble_eq_true rfl) dL_law_574 (fun z6 M6 hp6 => ?_)
  have hq := linv_bst hI hp5 hp6
  exact ww_icmp_same C 866 dL_law_577 (by decide) hq.1 (kk M6 hq.2)
set_option maxRecDepth 100000 in
theorem lc_best_0 {w : WLD} {k : KX} {M : Mem} {nv np b L n : Nat} {xs : Nat → Int32} (C : Cx w k cL_law RL room_1) (X : Scr k b L xs) (hI : LInv M nv np) (hn : n + 6 ≤ L) (hno : ¬ ((sx xs (n + 1) = 1 ∧ (sx xs (n + 2) = 1 ∨ sx xs (n + 2) = 2)) ∨ (sx xs (n + 1) = 2 ∧ sx xs (n + 2) = 1))) (kk : ∀ M2 : Mem, LAll M2 → WW w k 866 [(0, .ref b), (1, .ref (wa w 0)), (2, .ref (wa w 30)), (3, .int (iZ ((n : Nat) : Int)))] [] M2) : WW w k 549 [(0, .ref b), (1, .ref (wa w 0)), (2, .ref (wa w 30)), (3, .int (iZ ((n : Nat) : Int)))] [] M := by
  refine ww_aload_n C dL_law_549 1 rfl ?_
  refine ww_aload_n C dL_law_550 0 rfl ?_
  refine ww_iload_n C dL_law_551 3 rfl ?_
  refine ww_iconst C dL_law_552 ?_
  refine ww_sarg C X 1 (by omega) dL_law_553 dL_law_554 ?_
  refine ww_aload_n C dL_law_555 0 rfl ?_
  refine ww_iload_n C dL_law_556 3 rfl ?_
  refine ww_iconst C dL_law_557 ?_
  refine ww_sarg C X 2 (by omega) dL_law_558 dL_law_559 ?_
  refine ww_callV C (As := [.int (iZ (sx xs (n + 1))), .int (iZ (sx xs (n + 2)))]) 0 (by decide) (ct_X5_best_0 w M _ _ (sx_R _ _) (sx_R _ _) (hno)) mf_X5_best ml_L_65 rfl rfl (by decide) rfl rfl (Nat.le_of_ble_eq_true rfl) dL_law_560 (fun z5 M5 hp5 => ?_)
  have hfr : ∀ k : Nat, 29 < k → M5 k = M k := by
    exact fun k hk => by rw [hp5.2]
  obtain ⟨m0, m1, m2, m3, m4, m5, m6, m7, m8, m9, m10, m11, m12, m13, m14, m15, m16⟩ := mpre_fr (mpre hI) hfr
  refine ww_aload_n C dL_law_563 2 rfl ?_
  refine ww_aload_n C dL_law_564 0 rfl ?_
  refine ww_iload_n C dL_law_565 3 rfl ?_
  refine ww_iconst C dL_law_566 ?_
  refine ww_sarg C X 1 (by omega) dL_law_567 dL_law_568 ?_
  refine ww_aload_n C dL_law_569 0 rfl ?_
  refine ww_iload_n C dL_law_570 3 rfl ?_
  refine ww_iconst C dL_law_571 ?_
  refine ww_sarg C X 2 (by omega) dL_law_572 dL_law_573 ?_
  refine ww_callV C (As := [.int (iZ (sx xs (n + 1))), .int (iZ (sx xs (n + 2)))]) 30 (by decide) (ct_X6_best_0 w M5 _ _ (sx_R _ _) (sx_R _ _) (hno)) mf_X6_best ml_L_68 rfl rfl (by decide) rfl rfl (Nat.le_of_ble_eq_true rfl) dL_law_574 (fun z6 M6 hp6 => ?_)
  have hq : z5 = z6 ∧ LAll M6 := ⟨hp5.1.trans hp6.1.symm, nv, np, by rw [hp6.2, hp5.2]; exact hI⟩
  exact ww_icmp_same C 866 dL_law_577 (by decide) hq.1 (kk M6 hq.2)
set_option maxRecDepth 100000 in
theorem lc_laying {w : WLD} {k : KX} {M : Mem} {nv np b L n : Nat} {xs : Nat → Int32} (C : Cx w k cL_law RL room_1) (X : Scr k b L xs) (hI : LInv M nv np) (hn : n + 6 ≤ L) (kk : ∀ M2 : Mem, LAll M2 → WW w k 866 [(0, .ref b), (1, .ref (wa w 0)), (2, .ref (wa w 30)), (3, .int (iZ ((n : Nat) : Int)))] [] M2) : WW w k 582 [(0, .ref b), (1, .ref (wa w 0)), (2, .ref (wa w 30)), (3, .int (iZ ((n : Nat) : Int)))] [] M := by
  refine ww_aload_n C dL_law_582 1 rfl ?_
  refine ww_aload_n C dL_law_583 0 rfl ?_
  refine ww_iload_n C dL_law_584 3 rfl ?_
  refine ww_iconst C dL_law_585 ?_
  refine ww_sarg C X 1 (by omega) dL_law_586 dL_law_587 ?_
  refine ww_aload_n C dL_law_588 0 rfl ?_
  refine ww_iload_n C dL_law_589 3 rfl ?_
  refine ww_iconst C dL_law_590 ?_
  refine ww_sarg C X 2 (by omega) dL_law_591 dL_law_592 ?_
  refine ww_callV C (As := [.int (iZ (sx xs (n + 1))), .int (iZ (sx xs (n + 2)))]) 0 (by decide) (ct_X5_laying w M _ _ (sx_R _ _) (sx_R _ _)) mf_X5_laying ml_L_69 rfl rfl (by decide) rfl rfl (Nat.le_of_ble_eq_true rfl) dL_law_593 (fun z5 M5 hp5 => ?_)
  have hfr : ∀ k : Nat, 29 < k → M5 k = M k := by
    exact fun k hk => by rw [hp5.2]
  obtain ⟨m0, m1, m2, m3, m4, m5, m6, m7, m8, m9, m10, m11, m12, m13, m14, m15, m16⟩ := mpre_fr (mpre hI) hfr
  refine ww_aload_n C dL_law_596 2 rfl ?_
  refine ww_aload_n C dL_law_597 0 rfl ?_
  refine ww_iload_n C dL_law_598 3 rfl ?_
  refine ww_iconst C dL_law_599 ?_
  refine ww_sarg C X 1 (by omega) dL_law_600 dL_law_601 ?_
  refine ww_aload_n C dL_law_602 0 rfl ?_
  refine ww_iload_n C dL_law_603 3 rfl ?_
  refine ww_iconst C dL_law_604 ?_
  refine ww_sarg C X 2 (by omega) dL_law_605 dL_law_606 ?_
  refine ww_callV C (As := [.int (iZ (sx xs (n + 1))), .int (iZ (sx xs (n + 2)))]) 30 (by decide) (ct_X6_laying w M5 _ _ (sx_R _ _) (sx_R _ _)) mf_X6_laying ml_L_72 rfl rfl (by decide) rfl rfl (Nat.le_of_ble_eq_true rfl) dL_law_607 (fun z6 M6 hp6 => ?_)
  have hq := lq_laying hI hp5 hp6
  exact ww_icmp_same C 866 dL_law_610 (by decide) hq.1 (kk M6 hq.2)
set_option maxRecDepth 100000 in
theorem lc_run {w : WLD} {k : KX} {M : Mem} {nv np b L n : Nat} {xs : Nat → Int32} (C : Cx w k cL_law RL room_1) (X : Scr k b L xs) (hI : LInv M nv np) (hn : n + 6 ≤ L) (kk : ∀ M2 : Mem, LAll M2 → WW w k 866 [(0, .ref b), (1, .ref (wa w 0)), (2, .ref (wa w 30)), (3, .int (iZ ((n : Nat) : Int)))] [] M2) : WW w k 615 [(0, .ref b), (1, .ref (wa w 0)), (2, .ref (wa w 30)), (3, .int (iZ ((n : Nat) : Int)))] [] M := by
  refine ww_aload_n C dL_law_615 1 rfl ?_
  refine ww_callV C (As := []) 0 (by decide) (ct_X5_run w M nv np (hI.1)) mf_X5_run ml_L_73 rfl rfl (by decide) rfl rfl (Nat.le_of_ble_eq_true rfl) dL_law_616 (fun z5 M5 hp5 => ?_)
  have hfr : ∀ k : Nat, 29 < k → M5 k = M k := by
    rcases hp5 with ⟨-, -, bt, -, -, e9⟩ | ⟨-, -, e9⟩
    · exact fun k hk => e9.2.2 k (by omega)
    · exact fun k hk => e9.2 k (by omega)
  obtain ⟨m0, m1, m2, m3, m4, m5, m6, m7, m8, m9, m10, m11, m12, m13, m14, m15, m16⟩ := mpre_fr (mpre hI) hfr
  refine ww_aload_n C dL_law_619 2 rfl ?_
  refine ww_callV C (As := []) 30 (by decide) (ct_X6_run w M5 nv (m0) (m1) (m2) (m3) (m4) (m5) (m6) (m7) (m8) (m9) (m11)) mf_X6_run ml_L_77 rfl rfl (by decide) rfl rfl (Nat.le_of_ble_eq_true rfl) dL_law_620 (fun z6 M6 hp6 => ?_)
  have hq := lq_run hI hp5 hp6
  exact ww_icmp_same C 866 dL_law_623 (by decide) hq.1 (kk M6 hq.2)
set_option maxRecDepth 100000 in
theorem lc_worked {w : WLD} {k : KX} {M : Mem} {nv np b L n : Nat} {xs : Nat → Int32} (C : Cx w k cL_law RL room_1) (X : Scr k b L xs) (hI : LInv M nv np) (hn : n + 6 ≤ L) (kk : ∀ M2 : Mem, LAll M2 → WW w k 866 [(0, .ref b), (1, .ref (wa w 0)), (2, .ref (wa w 30)), (3, .int (iZ ((n : Nat) : Int)))] [] M2) : WW w k 628 [(0, .ref b), (1, .ref (wa w 0)), (2, .ref (wa w 30)), (3, .int (iZ ((n : Nat) : Int)))] [] M := by
  refine ww_aload_n C dL_law_628 1 rfl ?_
  refine ww_aload_n C dL_law_629 0 rfl ?_
  refine ww_iload_n C dL_law_630 3 rfl ?_
  refine ww_iconst C dL_law_631 ?_
  refine ww_sarg C X 1 (by omega) dL_law_632 dL_law_633 ?_
  refine ww_aload_n C dL_law_634 0 rfl ?_
  refine ww_iload_n C dL_law_635 3 rfl ?_
  refine ww_iconst C dL_law_636 ?_
  refine ww_sarg C X 2 (by omega) dL_law_637 dL_law_638 ?_
  refine ww_aload_n C dL_law_639 0 rfl ?_
  refine ww_iload_n C dL_law_640 3 rfl ?_
  refine ww_iconst C dL_law_641 ?_
  refine ww_sarg C X 3 (by omega) dL_law_642 dL_law_643 ?_
  refine ww_callV C (As := [.int (iZ (sx xs (n + 1))), .int (iZ (sx xs (n + 2))), .int (iZ (sx xs (n + 3)))]) 0 (by decide) (ct_X5_worked w M nv np _ _ _ (hI.1) (sx_R _ _) (sx_R _ _) (sx_R _ _)) mf_X5_worked ml_L_78 rfl rfl (by decide) rfl rfl (Nat.le_of_ble_eq_true rfl) dL_law_644 (fun z5 M5 hp5 => ?_)
  have hfr : ∀ k : Nat, 29 < k → M5 k = M k := by
    exact fun k hk => by rw [hp5.2]
  obtain ⟨m0, m1, m2, m3, m4, m5, m6, m7, m8, m9, m10, m11, m12, m13, m14, m15, m16⟩ := mpre_fr (mpre hI) hfr
  refine ww_aload_n C dL_law_647 2 rfl ?_
  refine ww_aload_n C dL_law_648 0 rfl ?_
  refine ww_iload_n C dL_law_649 3 rfl ?_
  refine ww_iconst C dL_law_650 ?_
  refine ww_sarg C X 1 (by omega) dL_law_651 dL_law_652 ?_
  refine ww_aload_n C dL_law_653 0 rfl ?_
  refine ww_iload_n C dL_law_654 3 rfl ?_
  refine ww_iconst C dL_law_655 ?_
  refine ww_sarg C X 2 (by omega) dL_law_656 dL_law_657 ?_
  refine ww_aload_n C dL_law_658 0 rfl ?_
  refine ww_iload_n C dL_law_659 3 rfl ?_
  refine ww_iconst C dL_law_660 ?_
  refine ww_sarg C X 3 (by omega) dL_law_661 dL_law_662 ?_
  refine ww_callV C (As := [.int (iZ (sx xs (n + 1))), .int (iZ (sx xs (n + 2))), .int (iZ (sx xs (n + 3)))]) 30 (by decide) (ct_X6_worked w M5 _ _ _ (sx_R _ _) (sx_R _ _) (sx_R _ _) (m10) (m2) (m8) (m9)) mf_X6_worked ml_L_81 rfl rfl (by decide) rfl rfl (Nat.le_of_ble_eq_true rfl) dL_law_663 (fun z6 M6 hp6 => ?_)
  have hq := lq_worked hI hp5 hp6
  exact ww_icmp_same C 866 dL_law_666 (by decide) hq.1 (kk M6 hq.2)
set_option maxRecDepth 100000 in
theorem lc_held {w : WLD} {k : KX} {M : Mem} {nv np b L n : Nat} {xs : Nat → Int32} (C : Cx w k cL_law RL room_1) (X : Scr k b L xs) (hI : LInv M nv np) (hn : n + 6 ≤ L) (kk : ∀ M2 : Mem, LAll M2 → WW w k 866 [(0, .ref b), (1, .ref (wa w 0)), (2, .ref (wa w 30)), (3, .int (iZ ((n : Nat) : Int)))] [] M2) : WW w k 671 [(0, .ref b), (1, .ref (wa w 0)), (2, .ref (wa w 30)), (3, .int (iZ ((n : Nat) : Int)))] [] M := by
  refine ww_aload_n C dL_law_671 1 rfl ?_
  refine ww_aload_n C dL_law_672 0 rfl ?_
  refine ww_iload_n C dL_law_673 3 rfl ?_
  refine ww_iconst C dL_law_674 ?_
  refine ww_sarg C X 1 (by omega) dL_law_675 dL_law_676 ?_
  refine ww_callV C (As := [.int (iZ (sx xs (n + 1)))]) 0 (by decide) (ct_X5_held w M nv np _ (hI.1) (sx_R _ _)) mf_X5_held ml_L_82 rfl rfl (by decide) rfl rfl (Nat.le_of_ble_eq_true rfl) dL_law_677 (fun z5 M5 hp5 => ?_)
  have hfr : ∀ k : Nat, 29 < k → M5 k = M k := by
    exact fun k hk => by rw [hp5.2]
  obtain ⟨m0, m1, m2, m3, m4, m5, m6, m7, m8, m9, m10, m11, m12, m13, m14, m15, m16⟩ := mpre_fr (mpre hI) hfr
  refine ww_aload_n C dL_law_680 2 rfl ?_
  refine ww_aload_n C dL_law_681 0 rfl ?_
  refine ww_iload_n C dL_law_682 3 rfl ?_
  refine ww_iconst C dL_law_683 ?_
  refine ww_sarg C X 1 (by omega) dL_law_684 dL_law_685 ?_
  refine ww_callV C (As := [.int (iZ (sx xs (n + 1)))]) 30 (by decide) (ct_X6_held w M5 nv _ (sx_R _ _) (m10) (m0) (m1) (m2) (m3) (m8) (m9)) mf_X6_held ml_L_85 rfl rfl (by decide) rfl rfl (Nat.le_of_ble_eq_true rfl) dL_law_686 (fun z6 M6 hp6 => ?_)
  have hq := lq_held hI hp5 hp6
  exact ww_icmp_same C 866 dL_law_689 (by decide) hq.1 (kk M6 hq.2)
set_option maxRecDepth 100000 in
theorem lc_value {w : WLD} {k : KX} {M : Mem} {nv np b L n : Nat} {xs : Nat → Int32} (C : Cx w k cL_law RL room_1) (X : Scr k b L xs) (hI : LInv M nv np) (hn : n + 6 ≤ L) (kk : ∀ M2 : Mem, LAll M2 → WW w k 866 [(0, .ref b), (1, .ref (wa w 0)), (2, .ref (wa w 30)), (3, .int (iZ ((n : Nat) : Int)))] [] M2) : WW w k 694 [(0, .ref b), (1, .ref (wa w 0)), (2, .ref (wa w 30)), (3, .int (iZ ((n : Nat) : Int)))] [] M := by
  refine ww_aload_n C dL_law_694 1 rfl ?_
  refine ww_aload_n C dL_law_695 0 rfl ?_
  refine ww_iload_n C dL_law_696 3 rfl ?_
  refine ww_iconst C dL_law_697 ?_
  refine ww_sarg C X 1 (by omega) dL_law_698 dL_law_699 ?_
  refine ww_aload_n C dL_law_700 0 rfl ?_
  refine ww_iload_n C dL_law_701 3 rfl ?_
  refine ww_iconst C dL_law_702 ?_
  refine ww_sarg C X 2 (by omega) dL_law_703 dL_law_704 ?_
  refine ww_aload_n C dL_law_705 0 rfl ?_
  refine ww_iload_n C dL_law_706 3 rfl ?_
  refine ww_iconst C dL_law_707 ?_
  refine ww_sarg C X 3 (by omega) dL_law_708 dL_law_709 ?_
  refine ww_aload_n C dL_law_710 0 rfl ?_
  refine ww_iload_n C dL_law_711 3 rfl ?_
  refine ww_iconst C dL_law_712 ?_
  refine ww_sarg C X 4 (by omega) dL_law_713 dL_law_714 ?_
  refine ww_callV C (As := [.int (iZ (sx xs (n + 1))), .int (iZ (sx xs (n + 2))), .int (iZ (sx xs (n + 3))), .int (iZ (sx xs (n + 4)))]) 0 (by decide) (ct_X5_value w M nv np _ _ _ _ (hI.1) (sx_R _ _) (sx_R _ _) (sx_R _ _) (sx_R _ _)) mf_X5_value ml_L_86 rfl rfl (by decide) rfl rfl (Nat.le_of_ble_eq_true rfl) dL_law_715 (fun z5 M5 hp5 => ?_)
  have hfr : ∀ k : Nat, 29 < k → M5 k = M k := by
    exact fun k hk => by rw [hp5.2]
  obtain ⟨m0, m1, m2, m3, m4, m5, m6, m7, m8, m9, m10, m11, m12, m13, m14, m15, m16⟩ := mpre_fr (mpre hI) hfr
  refine ww_aload_n C dL_law_718 2 rfl ?_
  refine ww_aload_n C dL_law_719 0 rfl ?_
  refine ww_iload_n C dL_law_720 3 rfl ?_
  refine ww_iconst C dL_law_721 ?_
  refine ww_sarg C X 1 (by omega) dL_law_722 dL_law_723 ?_
  refine ww_aload_n C dL_law_724 0 rfl ?_
  refine ww_iload_n C dL_law_725 3 rfl ?_
  refine ww_iconst C dL_law_726 ?_
  refine ww_sarg C X 2 (by omega) dL_law_727 dL_law_728 ?_
  refine ww_aload_n C dL_law_729 0 rfl ?_
  refine ww_iload_n C dL_law_730 3 rfl ?_
  refine ww_iconst C dL_law_731 ?_
  refine ww_sarg C X 3 (by omega) dL_law_732 dL_law_733 ?_
  refine ww_aload_n C dL_law_734 0 rfl ?_
  refine ww_iload_n C dL_law_735 3 rfl ?_
  refine ww_iconst C dL_law_736 ?_
  refine ww_sarg C X 4 (by omega) dL_law_737 dL_law_738 ?_
  refine ww_callV C (As := [.int (iZ (sx xs (n + 1))), .int (iZ (sx xs (n + 2))), .int (iZ (sx xs (n + 3))), .int (iZ (sx xs (n + 4)))]) 30 (by decide) (ct_X6_value w M5 _ _ _ _ (sx_R _ _) (sx_R _ _) (sx_R _ _) (sx_R _ _) (m10) (m16) (m2)) mf_X6_value ml_L_89 rfl rfl (by decide) rfl rfl (Nat.le_of_ble_eq_true rfl) dL_law_739 (fun z6 M6 hp6 => ?_)
  have hq := lq_value hI hp5 hp6
  exact ww_icmp_same C 866 dL_law_742 (by decide) hq.1 (kk M6 hq.2)
set_option maxRecDepth 100000 in
theorem lc_plain {w : WLD} {k : KX} {M : Mem} {nv np b L n : Nat} {xs : Nat → Int32} (C : Cx w k cL_law RL room_1) (X : Scr k b L xs) (hI : LInv M nv np) (hn : n + 6 ≤ L) (kk : ∀ M2 : Mem, LAll M2 → WW w k 866 [(0, .ref b), (1, .ref (wa w 0)), (2, .ref (wa w 30)), (3, .int (iZ ((n : Nat) : Int)))] [] M2) : WW w k 747 [(0, .ref b), (1, .ref (wa w 0)), (2, .ref (wa w 30)), (3, .int (iZ ((n : Nat) : Int)))] [] M := by
  refine ww_aload_n C dL_law_747 1 rfl ?_
  refine ww_aload_n C dL_law_748 0 rfl ?_
  refine ww_iload_n C dL_law_749 3 rfl ?_
  refine ww_iconst C dL_law_750 ?_
  refine ww_sarg C X 1 (by omega) dL_law_751 dL_law_752 ?_
  refine ww_aload_n C dL_law_753 0 rfl ?_
  refine ww_iload_n C dL_law_754 3 rfl ?_
  refine ww_iconst C dL_law_755 ?_
  refine ww_sarg C X 2 (by omega) dL_law_756 dL_law_757 ?_
  refine ww_aload_n C dL_law_758 0 rfl ?_
  refine ww_iload_n C dL_law_759 3 rfl ?_
  refine ww_iconst C dL_law_760 ?_
  refine ww_sarg C X 3 (by omega) dL_law_761 dL_law_762 ?_
  refine ww_aload_n C dL_law_763 0 rfl ?_
  refine ww_iload_n C dL_law_764 3 rfl ?_
  refine ww_iconst C dL_law_765 ?_
  refine ww_sarg C X 4 (by omega) dL_law_766 dL_law_767 ?_
  refine ww_callV C (As := [.int (iZ (sx xs (n + 1))), .int (iZ (sx xs (n + 2))), .int (iZ (sx xs (n + 3))), .int (iZ (sx xs (n + 4)))]) 0 (by decide) (ct_X5_plain w M nv np _ _ _ _ (hI.1) (sx_R _ _) (sx_R _ _) (sx_R _ _) (sx_R _ _)) mf_X5_plain ml_L_90 rfl rfl (by decide) rfl rfl (Nat.le_of_ble_eq_true rfl) dL_law_768 (fun z5 M5 hp5 => ?_)
  have hfr : ∀ k : Nat, 29 < k → M5 k = M k := by
    rcases hp5 with ⟨-, -, e9⟩ | ⟨-, -, e9⟩
    · exact fun k hk => e9.2.1 k (by omega) (by omega)
    · exact fun k hk => by rw [e9]
  obtain ⟨m0, m1, m2, m3, m4, m5, m6, m7, m8, m9, m10, m11, m12, m13, m14, m15, m16⟩ := mpre_fr (mpre hI) hfr
  refine ww_aload_n C dL_law_771 2 rfl ?_
  refine ww_aload_n C dL_law_772 0 rfl ?_
  refine ww_iload_n C dL_law_773 3 rfl ?_
  refine ww_iconst C dL_law_774 ?_
  refine ww_sarg C X 1 (by omega) dL_law_775 dL_law_776 ?_
  refine ww_aload_n C dL_law_777 0 rfl ?_
  refine ww_iload_n C dL_law_778 3 rfl ?_
  refine ww_iconst C dL_law_779 ?_
  refine ww_sarg C X 2 (by omega) dL_law_780 dL_law_781 ?_
  refine ww_aload_n C dL_law_782 0 rfl ?_
  refine ww_iload_n C dL_law_783 3 rfl ?_
  refine ww_iconst C dL_law_784 ?_
  refine ww_sarg C X 3 (by omega) dL_law_785 dL_law_786 ?_
  refine ww_aload_n C dL_law_787 0 rfl ?_
  refine ww_iload_n C dL_law_788 3 rfl ?_
  refine ww_iconst C dL_law_789 ?_
  refine ww_sarg C X 4 (by omega) dL_law_790 dL_law_791 ?_
  refine ww_callV C (As := [.int (iZ (sx xs (n + 1))), .int (iZ (sx xs (n + 2))), .int (iZ (sx xs (n + 3))), .int (iZ (sx xs (n + 4)))]) 30 (by decide) (ct_X6_plain w M5 nv _ _ _ _ (sx_R _ _) (sx_R _ _) (sx_R _ _) (sx_R _ _) (m0) (m1) (m2) (m3) (m4) (m5) (m6) (m7) (m12)) mf_X6_plain ml_L_93 rfl rfl (by decide) rfl rfl (Nat.le_of_ble_eq_true rfl) dL_law_792 (fun z6 M6 hp6 => ?_)
  have hq := lq_plain hI hp5 hp6
  exact ww_icmp_same C 866 dL_law_795 (by decide) hq.1 (kk M6 hq.2)
set_option maxRecDepth 100000 in
theorem lc_result {w : WLD} {k : KX} {M : Mem} {nv np b L n : Nat} {xs : Nat → Int32} (C : Cx w k cL_law RL room_1) (X : Scr k b L xs) (hI : LInv M nv np) (hn : n + 6 ≤ L) (kk : ∀ M2 : Mem, LAll M2 → WW w k 866 [(0, .ref b), (1, .ref (wa w 0)), (2, .ref (wa w 30)), (3, .int (iZ ((n : Nat) : Int)))] [] M2) : WW w k 800 [(0, .ref b), (1, .ref (wa w 0)), (2, .ref (wa w 30)), (3, .int (iZ ((n : Nat) : Int)))] [] M := by
  refine ww_aload_n C dL_law_800 1 rfl ?_
  refine ww_aload_n C dL_law_801 0 rfl ?_
  refine ww_iload_n C dL_law_802 3 rfl ?_
  refine ww_iconst C dL_law_803 ?_
  refine ww_sarg C X 1 (by omega) dL_law_804 dL_law_805 ?_
  refine ww_aload_n C dL_law_806 0 rfl ?_
  refine ww_iload_n C dL_law_807 3 rfl ?_
  refine ww_iconst C dL_law_808 ?_
  refine ww_sarg C X 2 (by omega) dL_law_809 dL_law_810 ?_
  refine ww_aload_n C dL_law_811 0 rfl ?_
  refine ww_iload_n C dL_law_812 3 rfl ?_
  refine ww_iconst C dL_law_813 ?_
  refine ww_sarg C X 3 (by omega) dL_law_814 dL_law_815 ?_
  refine ww_callV C (As := [.int (iZ (sx xs (n + 1))), .int (iZ (sx xs (n + 2))), .int (iZ (sx xs (n + 3)))]) 0 (by decide) (ct_X5_result w M nv np _ _ _ (hI.1) (sx_R _ _) (sx_R _ _) (sx_R _ _)) mf_X5_result ml_L_94 rfl rfl (by decide) rfl rfl (Nat.le_of_ble_eq_true rfl) dL_law_816 (fun z5 M5 hp5 => ?_)
  have hfr : ∀ k : Nat, 29 < k → M5 k = M k := by
    rcases hp5 with ⟨-, -, e9⟩ | ⟨-, -, e9⟩
    · exact fun k hk => e9.2.1 k (by omega) (by omega)
    · exact fun k hk => by rw [e9]
  obtain ⟨m0, m1, m2, m3, m4, m5, m6, m7, m8, m9, m10, m11, m12, m13, m14, m15, m16⟩ := mpre_fr (mpre hI) hfr
  refine ww_aload_n C dL_law_819 2 rfl ?_
  refine ww_aload_n C dL_law_820 0 rfl ?_
  refine ww_iload_n C dL_law_821 3 rfl ?_
  refine ww_iconst C dL_law_822 ?_
  refine ww_sarg C X 1 (by omega) dL_law_823 dL_law_824 ?_
  refine ww_aload_n C dL_law_825 0 rfl ?_
  refine ww_iload_n C dL_law_826 3 rfl ?_
  refine ww_iconst C dL_law_827 ?_
  refine ww_sarg C X 2 (by omega) dL_law_828 dL_law_829 ?_
  refine ww_aload_n C dL_law_830 0 rfl ?_
  refine ww_iload_n C dL_law_831 3 rfl ?_
  refine ww_iconst C dL_law_832 ?_
  refine ww_sarg C X 3 (by omega) dL_law_833 dL_law_834 ?_
  refine ww_callV C (As := [.int (iZ (sx xs (n + 1))), .int (iZ (sx xs (n + 2))), .int (iZ (sx xs (n + 3)))]) 30 (by decide) (ct_X6_result w M5 nv _ _ _ (sx_R _ _) (sx_R _ _) (sx_R _ _) (m0) (m1) (m2) (m3) (m4) (m5) (m6) (m7) (m12)) mf_X6_result ml_L_97 rfl rfl (by decide) rfl rfl (Nat.le_of_ble_eq_true rfl) dL_law_835 (fun z6 M6 hp6 => ?_)
  have hq := lq_result hI hp5 hp6
  exact ww_icmp_same C 866 dL_law_838 (by decide) hq.1 (kk M6 hq.2)
set_option maxRecDepth 100000 in
theorem lc_about {w : WLD} {k : KX} {M : Mem} {nv np b L n : Nat} {xs : Nat → Int32} (C : Cx w k cL_law RL room_1) (X : Scr k b L xs) (hI : LInv M nv np) (hn : n + 6 ≤ L) (kk : ∀ M2 : Mem, LAll M2 → WW w k 866 [(0, .ref b), (1, .ref (wa w 0)), (2, .ref (wa w 30)), (3, .int (iZ ((n : Nat) : Int)))] [] M2) : WW w k 843 [(0, .ref b), (1, .ref (wa w 0)), (2, .ref (wa w 30)), (3, .int (iZ ((n : Nat) : Int)))] [] M := by
  refine ww_aload_n C dL_law_843 1 rfl ?_
  refine ww_aload_n C dL_law_844 0 rfl ?_
  refine ww_iload_n C dL_law_845 3 rfl ?_
  refine ww_iconst C dL_law_846 ?_
  refine ww_sarg C X 1 (by omega) dL_law_847 dL_law_848 ?_
  refine ww_callV C (As := [.int (iZ (sx xs (n + 1)))]) 0 (by decide) (ct_X5_about w M nv np _ (hI.1) (sx_R _ _)) mf_X5_about ml_L_98 rfl rfl (by decide) rfl rfl (Nat.le_of_ble_eq_true rfl) dL_law_849 (fun z5 M5 hp5 => ?_)
  have hfr : ∀ k : Nat, 29 < k → M5 k = M k := by
    exact fun k hk => by rw [hp5.2]
  obtain ⟨m0, m1, m2, m3, m4, m5, m6, m7, m8, m9, m10, m11, m12, m13, m14, m15, m16⟩ := mpre_fr (mpre hI) hfr
  refine ww_aload_n C dL_law_852 2 rfl ?_
  refine ww_aload_n C dL_law_853 0 rfl ?_
  refine ww_iload_n C dL_law_854 3 rfl ?_
  refine ww_iconst C dL_law_855 ?_
  refine ww_sarg C X 1 (by omega) dL_law_856 dL_law_857 ?_
  refine ww_callV C (As := [.int (iZ (sx xs (n + 1)))]) 30 (by decide) (ct_X6_about w M5 _ (sx_R _ _) (m10)) mf_X6_about ml_L_101 rfl rfl (by decide) rfl rfl (Nat.le_of_ble_eq_true rfl) dL_law_858 (fun z6 M6 hp6 => ?_)
  have hq := lq_about hI hp5 hp6
  exact ww_icmp_same C 866 dL_law_861 (by decide) hq.1 (kk M6 hq.2)
