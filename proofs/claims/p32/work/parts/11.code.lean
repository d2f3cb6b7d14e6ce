noncomputable def tbs_0 : List (List (List (Nat × jE × Nat × Nat))) := [tb_0, tb_1, tb_2, tb_3, tb_4, tb_5, tb_6, tb_7, tb_8, tb_9, tb_10, tb_11, tb_12, tb_13, tb_14, tb_15, tb_16, tb_17, tb_18, tb_19]
theorem tks_0 : j_from j_tok 0 tbs_0 := j_from_cons tk_0 ( j_from_cons tk_1 ( j_from_cons tk_2 ( j_from_cons tk_3 ( j_from_cons tk_4 ( j_from_cons tk_5 ( j_from_cons tk_6 ( j_from_cons tk_7 ( j_from_cons tk_8 ( j_from_cons tk_9 ( j_from_cons tk_10 ( j_from_cons tk_11 ( j_from_cons tk_12 ( j_from_cons tk_13 ( j_from_cons tk_14 ( j_from_cons tk_15 ( j_from_cons tk_16 ( j_from_cons tk_17 ( j_from_cons tk_18 ( j_from_cons tk_19 (j_from_nil))))))))))))))))))))
noncomputable def tbs_1 : List (List (List (Nat × jE × Nat × Nat))) := [tb_20, tb_21, tb_22, tb_23, tb_24, tb_25, tb_26, tb_27, tb_28, tb_29, tb_30, tb_31, tb_32, tb_33, tb_34, tb_35, tb_36, tb_37, tb_38, tb_39]
theorem tks_1 : j_from j_tok 20 tbs_1 := j_from_cons tk_20 ( j_from_cons tk_21 ( j_from_cons tk_22 ( j_from_cons tk_23 ( j_from_cons tk_24 ( j_from_cons tk_25 ( j_from_cons tk_26 ( j_from_cons tk_27 ( j_from_cons tk_28 ( j_from_cons tk_29 ( j_from_cons tk_30 ( j_from_cons tk_31 ( j_from_cons tk_32 ( j_from_cons tk_33 ( j_from_cons tk_34 ( j_from_cons tk_35 ( j_from_cons tk_36 ( j_from_cons tk_37 ( j_from_cons tk_38 ( j_from_cons tk_39 (j_from_nil))))))))))))))))))))
noncomputable def tbs_2 : List (List (List (Nat × jE × Nat × Nat))) := [tb_40, tb_41, tb_42, tb_43, tb_44, tb_45, tb_46, tb_47, tb_48, tb_49, tb_50, tb_51, tb_52, tb_53, tb_54, tb_55, tb_56, tb_57, tb_58, tb_59]
theorem tks_2 : j_from j_tok 40 tbs_2 := j_from_cons tk_40 ( j_from_cons tk_41 ( j_from_cons tk_42 ( j_from_cons tk_43 ( j_from_cons tk_44 ( j_from_cons tk_45 ( j_from_cons tk_46 ( j_from_cons tk_47 ( j_from_cons tk_48 ( j_from_cons tk_49 ( j_from_cons tk_50 ( j_from_cons tk_51 ( j_from_cons tk_52 ( j_from_cons tk_53 ( j_from_cons tk_54 ( j_from_cons tk_55 ( j_from_cons tk_56 ( j_from_cons tk_57 ( j_from_cons tk_58 ( j_from_cons tk_59 (j_from_nil))))))))))))))))))))
noncomputable def tbs_3 : List (List (List (Nat × jE × Nat × Nat))) := [tb_60, tb_61, tb_62, tb_63, tb_64, tb_65, tb_66, tb_67, tb_68, tb_69, tb_70, tb_71, tb_72, tb_73, tb_74, tb_75, tb_76, tb_77, tb_78, tb_79]
theorem tks_3 : j_from j_tok 60 tbs_3 := j_from_cons tk_60 ( j_from_cons tk_61 ( j_from_cons tk_62 ( j_from_cons tk_63 ( j_from_cons tk_64 ( j_from_cons tk_65 ( j_from_cons tk_66 ( j_from_cons tk_67 ( j_from_cons tk_68 ( j_from_cons tk_69 ( j_from_cons tk_70 ( j_from_cons tk_71 ( j_from_cons tk_72 ( j_from_cons tk_73 ( j_from_cons tk_74 ( j_from_cons tk_75 ( j_from_cons tk_76 ( j_from_cons tk_77 ( j_from_cons tk_78 ( j_from_cons tk_79 (j_from_nil))))))))))))))))))))
noncomputable def tbs_4 : List (List (List (Nat × jE × Nat × Nat))) := [tb_80, tb_81, tb_82, tb_83, tb_84, tb_85, tb_86, tb_87, tb_88, tb_89, tb_90, tb_91, tb_92, tb_93, tb_94, tb_95, tb_96, tb_97, tb_98, tb_99]
theorem tks_4 : j_from j_tok 80 tbs_4 := j_from_cons tk_80 ( j_from_cons tk_81 ( j_from_cons tk_82 ( j_from_cons tk_83 ( j_from_cons tk_84 ( j_from_cons tk_85 ( j_from_cons tk_86 ( j_from_cons tk_87 ( j_from_cons tk_88 ( j_from_cons tk_89 ( j_from_cons tk_90 ( j_from_cons tk_91 ( j_from_cons tk_92 ( j_from_cons tk_93 ( j_from_cons tk_94 ( j_from_cons tk_95 ( j_from_cons tk_96 ( j_from_cons tk_97 ( j_from_cons tk_98 ( j_from_cons tk_99 (j_from_nil))))))))))))))))))))
noncomputable def tbs_5 : List (List (List (Nat × jE × Nat × Nat))) := [tb_100, tb_101, tb_102, tb_103, tb_104, tb_105, tb_106, tb_107, tb_108, tb_109, tb_110, tb_111, tb_112, tb_113, tb_114, tb_115, tb_116, tb_117, tb_118, tb_119]
theorem tks_5 : j_from j_tok 100 tbs_5 := j_from_cons tk_100 ( j_from_cons tk_101 ( j_from_cons tk_102 ( j_from_cons tk_103 ( j_from_cons tk_104 ( j_from_cons tk_105 ( j_from_cons tk_106 ( j_from_cons tk_107 ( j_from_cons tk_108 ( j_from_cons tk_109 ( j_from_cons tk_110 ( j_from_cons tk_111 ( j_from_cons tk_112 ( j_from_cons tk_113 ( j_from_cons tk_114 ( j_from_cons tk_115 ( j_from_cons tk_116 ( j_from_cons tk_117 ( j_from_cons tk_118 ( j_from_cons tk_119 (j_from_nil))))))))))))))))))))
noncomputable def tbs_6 : List (List (List (Nat × jE × Nat × Nat))) := [tb_120, tb_121, tb_122, tb_123, tb_124, tb_125, tb_126, tb_127, tb_128, tb_129, tb_130, tb_131, tb_132, tb_133, tb_134, tb_135, tb_136, tb_137, tb_138, tb_139]
theorem tks_6 : j_from j_tok 120 tbs_6 := j_from_cons tk_120 ( j_from_cons tk_121 ( j_from_cons tk_122 ( j_from_cons tk_123 ( j_from_cons tk_124 ( j_from_cons tk_125 ( j_from_cons tk_126 ( j_from_cons tk_127 ( j_from_cons tk_128 ( j_from_cons tk_129 ( j_from_cons tk_130 ( j_from_cons tk_131 ( j_from_cons tk_132 ( j_from_cons tk_133 ( j_from_cons tk_134 ( j_from_cons tk_135 ( j_from_cons tk_136 ( j_from_cons tk_137 ( j_from_cons tk_138 ( j_from_cons tk_139 (j_from_nil))))))))))))))))))))
noncomputable def tbs_7 : List (List (List (Nat × jE × Nat × Nat))) := [tb_140, tb_141, tb_142, tb_143, tb_144, tb_145, tb_146, tb_147, tb_148, tb_149, tb_150, tb_151, tb_152, tb_153, tb_154, tb_155, tb_156, tb_157, tb_158, tb_159]
theorem tks_7 : j_from j_tok 140 tbs_7 := j_from_cons tk_140 ( j_from_cons tk_141 ( j_from_cons tk_142 ( j_from_cons tk_143 ( j_from_cons tk_144 ( j_from_cons tk_145 ( j_from_cons tk_146 ( j_from_cons tk_147 ( j_from_cons tk_148 ( j_from_cons tk_149 ( j_from_cons tk_150 ( j_from_cons tk_151 ( j_from_cons tk_152 ( j_from_cons tk_153 ( j_from_cons tk_154 ( j_from_cons tk_155 ( j_from_cons tk_156 ( j_from_cons tk_157 ( j_from_cons tk_158 ( j_from_cons tk_159 (j_from_nil))))))))))))))))))))
noncomputable def tbs_8 : List (List (List (Nat × jE × Nat × Nat))) := [tb_160, tb_161, tb_162, tb_163, tb_164, tb_165, tb_166, tb_167, tb_168, tb_169, tb_170, tb_171, tb_172, tb_173, tb_174, tb_175, tb_176, tb_177, tb_178, tb_179]
theorem tks_8 : j_from j_tok 160 tbs_8 := j_from_cons tk_160 ( j_from_cons tk_161 ( j_from_cons tk_162 ( j_from_cons tk_163 ( j_from_cons tk_164 ( j_from_cons tk_165 ( j_from_cons tk_166 ( j_from_cons tk_167 ( j_from_cons tk_168 ( j_from_cons tk_169 ( j_from_cons tk_170 ( j_from_cons tk_171 ( j_from_cons tk_172 ( j_from_cons tk_173 ( j_from_cons tk_174 ( j_from_cons tk_175 ( j_from_cons tk_176 ( j_from_cons tk_177 ( j_from_cons tk_178 ( j_from_cons tk_179 (j_from_nil))))))))))))))))))))
noncomputable def tbs_9 : List (List (List (Nat × jE × Nat × Nat))) := [tb_180, tb_181, tb_182, tb_183, tb_184, tb_185, tb_186, tb_187, tb_188, tb_189, tb_190, tb_191, tb_192, tb_193, tb_194, tb_195, tb_196, tb_197, tb_198, tb_199]
theorem tks_9 : j_from j_tok 180 tbs_9 := j_from_cons tk_180 ( j_from_cons tk_181 ( j_from_cons tk_182 ( j_from_cons tk_183 ( j_from_cons tk_184 ( j_from_cons tk_185 ( j_from_cons tk_186 ( j_from_cons tk_187 ( j_from_cons tk_188 ( j_from_cons tk_189 ( j_from_cons tk_190 ( j_from_cons tk_191 ( j_from_cons tk_192 ( j_from_cons tk_193 ( j_from_cons tk_194 ( j_from_cons tk_195 ( j_from_cons tk_196 ( j_from_cons tk_197 ( j_from_cons tk_198 ( j_from_cons tk_199 (j_from_nil))))))))))))))))))))
noncomputable def tbs_10 : List (List (List (Nat × jE × Nat × Nat))) := [tb_200, tb_201, tb_202, tb_203, tb_204, tb_205, tb_206, tb_207, tb_208, tb_209, tb_210, tb_211, tb_212, tb_213, tb_214, tb_215, tb_216, tb_217, tb_218, tb_219]
theorem tks_10 : j_from j_tok 200 tbs_10 := j_from_cons tk_200 ( j_from_cons tk_201 ( j_from_cons tk_202 ( j_from_cons tk_203 ( j_from_cons tk_204 ( j_from_cons tk_205 ( j_from_cons tk_206 ( j_from_cons tk_207 ( j_from_cons tk_208 ( j_from_cons tk_209 ( j_from_cons tk_210 ( j_from_cons tk_211 ( j_from_cons tk_212 ( j_from_cons tk_213 ( j_from_cons tk_214 ( j_from_cons tk_215 ( j_from_cons tk_216 ( j_from_cons tk_217 ( j_from_cons tk_218 ( j_from_cons tk_219 (j_from_nil))))))))))))))))))))
noncomputable def tbs_11 : List (List (List (Nat × jE × Nat × Nat))) := [tb_220, tb_221, tb_222, tb_223, tb_224, tb_225, tb_226, tb_227, tb_228, tb_229, tb_230, tb_231, tb_232, tb_233, tb_234, tb_235, tb_236, tb_237, tb_238, tb_239]
theorem tks_11 : j_from j_tok 220 tbs_11 := j_from_cons tk_220 ( j_from_cons tk_221 ( j_from_cons tk_222 ( j_from_cons tk_223 ( j_from_cons tk_224 ( j_from_cons tk_225 ( j_from_cons tk_226 ( j_from_cons tk_227 ( j_from_cons tk_228 ( j_from_cons tk_229 ( j_from_cons tk_230 ( j_from_cons tk_231 ( j_from_cons tk_232 ( j_from_cons tk_233 ( j_from_cons tk_234 ( j_from_cons tk_235 ( j_from_cons tk_236 ( j_from_cons tk_237 ( j_from_cons tk_238 ( j_from_cons tk_239 (j_from_nil))))))))))))))))))))
noncomputable def tbs_12 : List (List (List (Nat × jE × Nat × Nat))) := [tb_240, tb_241, tb_242, tb_243, tb_244, tb_245, tb_246, tb_247, tb_248, tb_249, tb_250, tb_251, tb_252, tb_253, tb_254, tb_255, tb_256, tb_257, tb_258, tb_259]
theorem tks_12 : j_from j_tok 240 tbs_12 := j_from_cons tk_240 ( j_from_cons tk_241 ( j_from_cons tk_242 ( j_from_cons tk_243 ( j_from_cons tk_244 ( j_from_cons tk_245 ( j_from_cons tk_246 ( j_from_cons tk_247 ( j_from_cons tk_248 ( j_from_cons tk_249 ( j_from_cons tk_250 ( j_from_cons tk_251 ( j_from_cons tk_252 ( j_from_cons tk_253 ( j_from_cons tk_254 ( j_from_cons tk_255 ( j_from_cons tk_256 ( j_from_cons tk_257 ( j_from_cons tk_258 ( j_from_cons tk_259 (j_from_nil))))))))))))))))))))
noncomputable def tbs_13 : List (List (List (Nat × jE × Nat × Nat))) := [tb_260, tb_261, tb_262, tb_263, tb_264, tb_265, tb_266, tb_267, tb_268, tb_269, tb_270, tb_271, tb_272, tb_273, tb_274, tb_275, tb_276, tb_277, tb_278, tb_279]
theorem tks_13 : j_from j_tok 260 tbs_13 := j_from_cons tk_260 ( j_from_cons tk_261 ( j_from_cons tk_262 ( j_from_cons tk_263 ( j_from_cons tk_264 ( j_from_cons tk_265 ( j_from_cons tk_266 ( j_from_cons tk_267 ( j_from_cons tk_268 ( j_from_cons tk_269 ( j_from_cons tk_270 ( j_from_cons tk_271 ( j_from_cons tk_272 ( j_from_cons tk_273 ( j_from_cons tk_274 ( j_from_cons tk_275 ( j_from_cons tk_276 ( j_from_cons tk_277 ( j_from_cons tk_278 ( j_from_cons tk_279 (j_from_nil))))))))))))))))))))
noncomputable def tbs_14 : List (List (List (Nat × jE × Nat × Nat))) := [tb_280, tb_281, tb_282, tb_283, tb_284, tb_285, tb_286, tb_287, tb_288, tb_289, tb_290, tb_291, tb_292, tb_293, tb_294, tb_295, tb_296, tb_297, tb_298, tb_299]
theorem tks_14 : j_from j_tok 280 tbs_14 := j_from_cons tk_280 ( j_from_cons tk_281 ( j_from_cons tk_282 ( j_from_cons tk_283 ( j_from_cons tk_284 ( j_from_cons tk_285 ( j_from_cons tk_286 ( j_from_cons tk_287 ( j_from_cons tk_288 ( j_from_cons tk_289 ( j_from_cons tk_290 ( j_from_cons tk_291 ( j_from_cons tk_292 ( j_from_cons tk_293 ( j_from_cons tk_294 ( j_from_cons tk_295 ( j_from_cons tk_296 ( j_from_cons tk_297 ( j_from_cons tk_298 ( j_from_cons tk_299 (j_from_nil))))))))))))))))))))
noncomputable def tbs_15 : List (List (List (Nat × jE × Nat × Nat))) := [tb_300, tb_301, tb_302, tb_303, tb_304, tb_305, tb_306, tb_307, tb_308, tb_309, tb_310, tb_311, tb_312, tb_313, tb_314, tb_315, tb_316, tb_317, tb_318, tb_319]
theorem tks_15 : j_from j_tok 300 tbs_15 := j_from_cons tk_300 ( j_from_cons tk_301 ( j_from_cons tk_302 ( j_from_cons tk_303 ( j_from_cons tk_304 ( j_from_cons tk_305 ( j_from_cons tk_306 ( j_from_cons tk_307 ( j_from_cons tk_308 ( j_from_cons tk_309 ( j_from_cons tk_310 ( j_from_cons tk_311 ( j_from_cons tk_312 ( j_from_cons tk_313 ( j_from_cons tk_314 ( j_from_cons tk_315 ( j_from_cons tk_316 ( j_from_cons tk_317 ( j_from_cons tk_318 ( j_from_cons tk_319 (j_from_nil))))))))))))))))))))
noncomputable def tbs_16 : List (List (List (Nat × jE × Nat × Nat))) := [tb_320, tb_321, tb_322, tb_323, tb_324, tb_325, tb_326, tb_327, tb_328, tb_329, tb_330, tb_331, tb_332, tb_333, tb_334, tb_335, tb_336, tb_337, tb_338, tb_339]
theorem tks_16 : j_from j_tok 320 tbs_16 := j_from_cons tk_320 ( j_from_cons tk_321 ( j_from_cons tk_322 ( j_from_cons tk_323 ( j_from_cons tk_324 ( j_from_cons tk_325 ( j_from_cons tk_326 ( j_from_cons tk_327 ( j_from_cons tk_328 ( j_from_cons tk_329 ( j_from_cons tk_330 ( j_from_cons tk_331 ( j_from_cons tk_332 ( j_from_cons tk_333 ( j_from_cons tk_334 ( j_from_cons tk_335 ( j_from_cons tk_336 ( j_from_cons tk_337 ( j_from_cons tk_338 ( j_from_cons tk_339 (j_from_nil))))))))))))))))))))
noncomputable def tbs_17 : List (List (List (Nat × jE × Nat × Nat))) := [tb_340, tb_341, tb_342, tb_343, tb_344, tb_345, tb_346, tb_347, tb_348, tb_349, tb_350, tb_351, tb_352, tb_353, tb_354, tb_355, tb_356, tb_357, tb_358, tb_359]
theorem tks_17 : j_from j_tok 340 tbs_17 := j_from_cons tk_340 ( j_from_cons tk_341 ( j_from_cons tk_342 ( j_from_cons tk_343 ( j_from_cons tk_344 ( j_from_cons tk_345 ( j_from_cons tk_346 ( j_from_cons tk_347 ( j_from_cons tk_348 ( j_from_cons tk_349 ( j_from_cons tk_350 ( j_from_cons tk_351 ( j_from_cons tk_352 ( j_from_cons tk_353 ( j_from_cons tk_354 ( j_from_cons tk_355 ( j_from_cons tk_356 ( j_from_cons tk_357 ( j_from_cons tk_358 ( j_from_cons tk_359 (j_from_nil))))))))))))))))))))
noncomputable def tbs_18 : List (List (List (Nat × jE × Nat × Nat))) := [tb_360]
theorem tks_18 : j_from j_tok 360 tbs_18 := j_from_cons tk_360 (j_from_nil)
noncomputable def j_tbs : List (List (List (List (Nat × jE × Nat × Nat)))) := [tbs_0, tbs_1, tbs_2, tbs_3, tbs_4, tbs_5, tbs_6, tbs_7, tbs_8, tbs_9, tbs_10, tbs_11, tbs_12, tbs_13, tbs_14, tbs_15, tbs_16, tbs_17, tbs_18]
theorem j_tbs_ok : j_from (fun c l => j_from j_tok (20 * c) l) 0 j_tbs := j_from_cons tks_0 ( j_from_cons tks_1 ( j_from_cons tks_2 ( j_from_cons tks_3 ( j_from_cons tks_4 ( j_from_cons tks_5 ( j_from_cons tks_6 ( j_from_cons tks_7 ( j_from_cons tks_8 ( j_from_cons tks_9 ( j_from_cons tks_10 ( j_from_cons tks_11 ( j_from_cons tks_12 ( j_from_cons tks_13 ( j_from_cons tks_14 ( j_from_cons tks_15 ( j_from_cons tks_16 ( j_from_cons tks_17 ( j_from_cons tks_18 (j_from_nil)))))))))))))))))))
noncomputable def j_look (l : List (Nat × jE × Nat × Nat)) (pc : Nat) : Option jE := List.rec none (fun q _ ih => cond (Nat.beq q.1 pc) (some q.2.1) ih) l
theorem j_look_in {l : List (Nat × jE × Nat × Nat)} {pc : Nat} {e : jE} (h : j_look l pc = some e) : ∃ q ∈ l, q.1 = pc ∧ q.2.1 = e := by
  induction l with
  | nil => cases h
  | cons q t ih =>
    have h' : cond (Nat.beq q.1 pc) (some q.2.1) (j_look t pc) = some e := h
    cases hb : Nat.beq q.1 pc with
    | true =>
      rw [hb] at h'
      exact ⟨q, List.mem_cons_self, Nat.eq_of_beq_eq_true hb, Option.some.inj h'⟩
    | false =>
      rw [hb] at h'
      obtain ⟨z, h1, h2⟩ := ih h'
      exact ⟨z, List.mem_cons_of_mem _ h1, h2⟩
noncomputable def j_F (k pc : Nat) : Option jE := match j_nth j_tbs (k / 20) with
  | some ms => (match j_nth ms (k % 20) with
    | some cs => (match j_nth cs (pc / 16) with
      | some l => j_look l pc
      | none => none)
    | none => none)
  | none => none
theorem j_F_ok : ∀ k pc e, j_F k pc = some e → j_okk k pc e := by
  intro k pc e h
  unfold j_F at h
  split at h
  · rename_i ms hms
    split at h
    · rename_i cs hcs
      split at h
      · rename_i l hl
        rw [j_nth_eq] at hms hcs hl
        have h1 := j_tbs_ok _ _ hms _ _ hcs
        rw [show 20 * (0 + k / 20) + k % 20 = k by omega] at h1
        obtain ⟨q, hq, e1, e2⟩ := j_look_in h
        have := h1 l (List.mem_of_getElem? hl) q hq
        rwa [e1, e2] at this
      · cases h
    · cases h
  · cases h
