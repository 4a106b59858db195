/- co.msgn6 -/
section
set_option maxRecDepth 512
/-! The model: SIGN with all of a party; SIGN as a whole. -/
section
variable {d : Nat} {B : Bs} {x : Fx} {y : Sy} {j g : Nat} {k : Ky} {m : Mk} {T : Tm} {D O ms : List Int32} {nm hs : Nat}
theorem sn_all (h : xm x ms) (hcb : cbMsg ms) (hx : xk x) (hj : j < 3) (hm : wm m) (hk : kr k m) (hI : kI k (g + 1)) (hc : cF k.1.1.1.1.2.2.2.2.2.2.2.2.2.2.2 m) (hy : yz y T D O) (hT8 : tk8 T) (hT : T.1.length < 1000) (hO : O.length ≤ 100) (hG : sgG ms nm hs) (hl0 : m.1.2.1.2 = 0) (hl1 : m.1.2.2.1 = 0) (hlp : k.2.1.2.2 = 0) :
    kP B x j m k.1.1.1.2 O (sg_all ms k T) (mj_Rn (d + 7) mj_m322 295 [(14, .int 0), (13, .int 0), (12, .int (-1)), (11, .int 0), (10, .int (sg_party T ms)), (6, .int (oP (mem ms 6))), (5, .int (oP (mem ms 5))), (4, .int (oP (mem ms 3))), (3, .int (nI hs)), (0, .ref 67), (1, .int (nI j))] [] (mm B (x.wk j k.1.1.1.1 m) y)) := by
  have h6 := hI.six
  have lr0 : lr k m := lr.z hlp hl0 hl1
  have hpa : ∀ c ∈ k.1.1.1.1.2.2.2.2.2.2.2.2.2.2.2, c.2.1 ≠ 0 := fun c hc => (hI.cr c hc).2
  -- the walk over those of the party
  obtain ⟨l', hl', hli, to423⟩ : ∃ l', l'.length = 12 ∧ (∀ q v, (lsF k.1.1.1.1.2.2.2.2.2.2.2.2.2.2.2 (sg_party T ms) k.1.1.1.1.2.2.2.2.2.2.2.2.2.2.2.length)[q + 1]? = some v → l'[q]? = some (nI v)) ∧ ∀ r,
      mj_Rn (d + 7) mj_m322 423 [(14, .int (nI (lsF k.1.1.1.1.2.2.2.2.2.2.2.2.2.2.2 (sg_party T ms) k.1.1.1.1.2.2.2.2.2.2.2.2.2.2.2.length).length)), (12, .int (oP (lsF k.1.1.1.1.2.2.2.2.2.2.2.2.2.2.2 (sg_party T ms) k.1.1.1.1.2.2.2.2.2.2.2.2.2.2.2.length).head?)), (11, .int 0), (10, .int (sg_party T ms)), (6, .int (oP (mem ms 6))), (5, .int (oP (mem ms 5))), (3, .int (nI hs)), (0, .ref 67), (1, .int (nI j))] [] (mm B (x.wk j k.1.1.1.1 (m.wl l')) y) = some r →
      mj_Rn (d + 7) mj_m322 295 [(14, .int 0), (13, .int 0), (12, .int (-1)), (11, .int 0), (10, .int (sg_party T ms)), (6, .int (oP (mem ms 6))), (5, .int (oP (mem ms 5))), (4, .int (oP (mem ms 3))), (3, .int (nI hs)), (0, .ref 67), (1, .int (nI j))] [] (mm B (x.wk j k.1.1.1.1 m) y) = some r := by
    have e1 : nI k.1.1.1.1.2.2.2.2.2.2.2.2.2.2.2.length - 1 = nI k.1.1.1.1.2.2.2.2.2.2.2.2.2.2.2.length + -1 := by grind
    have em : m = m.wl m.2.2.2.1 := rfl
    by_cases h0 : sg_party T ms = 0
    · refine ⟨m.2.2.2.1, hm.list, ?_, fun r hr => ?_⟩
      · intro q v z
        rw [h0, lsF_p0 hpa] at z
        cases z
      · rw [h0, lsF_p0 hpa] at hr
        rw [h0]
        simp only [List.length_nil, List.head?_nil, nI_0] at hr
        rw [show oP none = -1 from rfl] at hr
        rw [← em] at hr
        generalize oP (mem ms 6) = v6 at *
        generalize oP (mem ms 5) = v5 at *
        generalize oP (mem ms 3) = v3 at *
        simp (disch := (first | omega | decide)) [S_cb_mmade4_0, S_bx_mcan1_0, S_b8_mkey_1, S_b8_mkey_0, S_b1_mterm_0, S_b1_copy_0, S_b0_mod_7, S_b0_mod_6, S_b0_mod_5, S_b0_mod_3, S_b0_mod_2, S_b0_mod_1, S_b0_mod_0, S_cb_mmade4_1h, S_bx_mcan1_1h, S_b0_mod_4h, s322_0, s322_1, s322_2, s322_3, s322_6, s322_7, s322_8, s322_9, s322_10, s322_13, s322_14, s322_15, s322_16, s322_17, s322_20, s322_22, s322_23, s322_24, s322_25, s322_28, s322_30, s322_31, s322_32, s322_34, s322_37, s322_39, s322_40, s322_41, s322_43, s322_46, s322_48, s322_49, s322_50, s322_51, s322_54, s322_57, s322_58, s322_59, s322_60, s322_63, s322_66, s322_67, s322_69, s322_70, s322_73, s322_76, s322_77, s322_79, s322_80, s322_83, s322_86, s322_87, s322_89, s322_90, s322_93, s322_96, s322_97, s322_100, s322_101, s322_103, s322_105, s322_108, s322_110, s322_111, s322_114, s322_115, s322_117, s322_120, s322_122, s322_125, s322_128, s322_129, s322_131, s322_134, s322_136, s322_139, s322_142, s322_143, s322_146, s322_147, s322_149, s322_151, s322_154, s322_155, s322_157, s322_158, s322_161, s322_164, s322_166, s322_167, s322_168, s322_169, s322_172, s322_173, s322_174, s322_177, s322_178, s322_180, s322_181, s322_184, s322_187, s322_189, s322_190, s322_191, s322_192, s322_193, s322_195, s322_198, s322_201, s322_202, s322_203, s322_206, s322_209, s322_210, s322_211, s322_212, s322_214, s322_217, s322_220, s322_223, s322_225, s322_226, s322_228, s322_229, s322_232, s322_233, s322_234, s322_236, s322_238, s322_239, s322_242, s322_245, s322_246, s322_248, s322_250, s322_253, s322_255, s322_256, s322_257, s322_258, s322_259, s322_262, s322_264, s322_266, s322_267, s322_270, s322_271, s322_273, s322_276, s322_279, s322_280, s322_283, s322_284, s322_286, s322_287, s322_289, s322_290, s322_292, s322_293, s322_295, s322_297, s322_300, s322_301, s322_302, s322_304, s322_306, s322_309, s322_311, s322_313, s322_314, s322_317, s322_319, s322_320, s322_321, s322_323, s322_326, s322_328, s322_329, s322_330, s322_332, s322_334, s322_337, s322_339, s322_342, s322_343, s322_346, s322_347, s322_348, s322_349, s322_350, s322_354, s322_357, s322_359, s322_362, s322_363, s322_366, s322_368, s322_369, s322_370, s322_372, s322_373, s322_374, s322_376, s322_379, s322_381, s322_384, s322_385, s322_388, s322_390, s322_391, s322_392, s322_394, s322_395, s322_396, s322_397, s322_399, s322_400, s322_402, s322_405, s322_407, s322_410, s322_412, s322_414, s322_417, s322_420, s322_425, s322_428, s322_430, s322_431, s322_432, s322_435, s322_437, s322_438, s322_439, s322_441, s322_442, s322_443, s322_445, s322_446, s322_448, s322_451, s322_454, s322_457, s322_458, s322_461, s322_462, s322_464, s322_466, s322_469, s322_470, s322_471, s322_474, s322_477, s322_479, s322_480, s322_482, s322_485, s322_486, s322_489, s322_490, s322_492, s322_493, s322_496, s322_497, s322_500, s322_501, s322_502, s322_504, s322_505, s322_506, s322_509, s322_511, s322_512, s322_513, s322_515, s322_517, s322_519, s322_521, s322_523, s322_525, s322_528, s322_529, s322_532, s322_533, s322_535, s322_538, s322_540, s322_542, s322_545, s322_547, s322_548, s322_551, s322_552, s322_555, s322_556, s322_558, s322_559, s322_560, s322_561, s322_562, s322_565, s322_566, s322_567, s322_568, s322_569, s322_572, s322_573, s322_575, s322_576, s322_577, s322_580, s322_581, s322_583, s322_584, s322_586, mq_k0s, mq_k1s, mq_k2s, mq_k4s, mq_k5s, mq_k5n, mq_k5as, mq_k6s, mj_pu, mj_lo, mj_br, mj_hr, mj_hw, mq_gf, mq_len, mq_al, mq_pf, mq_ok, mj_re, mq_lkm, mq_lkn, mj_ldi, mj_ldl, mj_lda, mj_ii, mj_ll, mj_li, mj_i1, ms_1, ms_2, f1_n, f1_i, f1_r, f1_u, f1_l, f2_n, f2_i, f2_r, f2_u, f2_l, mj_tg, mj_c1, mj_c2, mj_ar, mj_aw, mq_cb, mq_oi, mj_rm, Value.category, -getElem?_pos, List.getElem?_cons_zero, decide_eq_true, decide_eq_false, nl_lt, nl_le, ln_lt, ln_le, nl_eq, ln_eq, nl_add, ln_add, nl_sub, ln_mul, nI_sub, nI_mul, nI_add, nI_lt_iff, nI_le_iff, nI_inj, nI_num, mq_ix, nI_1, nl_mul, nl_div, wkc_on hx hj, wkl_on hx, wkc_acts hx hj, wkl_acts hx, wkc_limit hx hj, wkl_limit hx, wkc_generation hx hj, wkl_generation hx, wkc_area hx hj, wkl_area hx, wkc_fend hx hj, wkl_fend hx, wkc_master hx hj, wkl_master hx, wkc_pinOf hx hj, wkl_pinOf hx, wkc_tries hx hj, wkl_tries hx, wkc_own hx hj, wkl_own hx, wkc_creds hx hj, wkl_creds hx, wkc_presses hx hj, wkl_presses hx, wkc_taken hx hj, wkl_taken hx, wkc_answered hx hj, wkl_answered hx, wkc_agreeing hx hj, wkl_agreeing hx, wkc_token hx hj, wkl_token hx, wkc_wrong hx hj, wkl_wrong hx, wkc_heard hx hj, wkl_heard hx, wkc_listed hx hj, wkl_listed hx, wkc_listAt hx hj, wkl_listAt hx, wkc_listHash hx hj, wkl_listHash hx, wkc_listFlags hx hj, wkl_listFlags hx, wkc_answerSize hx hj, wkl_answerSize hx, wkc_flash hx hj, wkl_flash hx hj, e1]
        rw [s322_352]
        by_cases hlt : nI k.1.1.1.1.2.2.2.2.2.2.2.2.2.2.2.length + -1 < 0
        · simp (disch := (first | omega | decide)) [S_cb_mmade4_0, S_bx_mcan1_0, S_b8_mkey_1, S_b8_mkey_0, S_b1_mterm_0, S_b1_copy_0, S_b0_mod_7, S_b0_mod_6, S_b0_mod_5, S_b0_mod_3, S_b0_mod_2, S_b0_mod_1, S_b0_mod_0, S_cb_mmade4_1h, S_bx_mcan1_1h, S_b0_mod_4h, s322_0, s322_1, s322_2, s322_3, s322_6, s322_7, s322_8, s322_9, s322_10, s322_13, s322_14, s322_15, s322_16, s322_17, s322_20, s322_22, s322_23, s322_24, s322_25, s322_28, s322_30, s322_31, s322_32, s322_34, s322_37, s322_39, s322_40, s322_41, s322_43, s322_46, s322_48, s322_49, s322_50, s322_51, s322_54, s322_57, s322_58, s322_59, s322_60, s322_63, s322_66, s322_67, s322_69, s322_70, s322_73, s322_76, s322_77, s322_79, s322_80, s322_83, s322_86, s322_87, s322_89, s322_90, s322_93, s322_96, s322_97, s322_100, s322_101, s322_103, s322_105, s322_108, s322_110, s322_111, s322_114, s322_115, s322_117, s322_120, s322_122, s322_125, s322_128, s322_129, s322_131, s322_134, s322_136, s322_139, s322_142, s322_143, s322_146, s322_147, s322_149, s322_151, s322_154, s322_155, s322_157, s322_158, s322_161, s322_164, s322_166, s322_167, s322_168, s322_169, s322_172, s322_173, s322_174, s322_177, s322_178, s322_180, s322_181, s322_184, s322_187, s322_189, s322_190, s322_191, s322_192, s322_193, s322_195, s322_198, s322_201, s322_202, s322_203, s322_206, s322_209, s322_210, s322_211, s322_212, s322_214, s322_217, s322_220, s322_223, s322_225, s322_226, s322_228, s322_229, s322_232, s322_233, s322_234, s322_236, s322_238, s322_239, s322_242, s322_245, s322_246, s322_248, s322_250, s322_253, s322_255, s322_256, s322_257, s322_258, s322_259, s322_262, s322_264, s322_266, s322_267, s322_270, s322_271, s322_273, s322_276, s322_279, s322_280, s322_283, s322_284, s322_286, s322_287, s322_289, s322_290, s322_292, s322_293, s322_295, s322_297, s322_300, s322_301, s322_302, s322_304, s322_306, s322_309, s322_311, s322_313, s322_314, s322_317, s322_319, s322_320, s322_321, s322_323, s322_326, s322_328, s322_329, s322_330, s322_332, s322_334, s322_337, s322_339, s322_342, s322_343, s322_346, s322_347, s322_348, s322_349, s322_350, s322_354, s322_357, s322_359, s322_362, s322_363, s322_366, s322_368, s322_369, s322_370, s322_372, s322_373, s322_374, s322_376, s322_379, s322_381, s322_384, s322_385, s322_388, s322_390, s322_391, s322_392, s322_394, s322_395, s322_396, s322_397, s322_399, s322_400, s322_402, s322_405, s322_407, s322_410, s322_412, s322_414, s322_417, s322_420, s322_425, s322_428, s322_430, s322_431, s322_432, s322_435, s322_437, s322_438, s322_439, s322_441, s322_442, s322_443, s322_445, s322_446, s322_448, s322_451, s322_454, s322_457, s322_458, s322_461, s322_462, s322_464, s322_466, s322_469, s322_470, s322_471, s322_474, s322_477, s322_479, s322_480, s322_482, s322_485, s322_486, s322_489, s322_490, s322_492, s322_493, s322_496, s322_497, s322_500, s322_501, s322_502, s322_504, s322_505, s322_506, s322_509, s322_511, s322_512, s322_513, s322_515, s322_517, s322_519, s322_521, s322_523, s322_525, s322_528, s322_529, s322_532, s322_533, s322_535, s322_538, s322_540, s322_542, s322_545, s322_547, s322_548, s322_551, s322_552, s322_555, s322_556, s322_558, s322_559, s322_560, s322_561, s322_562, s322_565, s322_566, s322_567, s322_568, s322_569, s322_572, s322_573, s322_575, s322_576, s322_577, s322_580, s322_581, s322_583, s322_584, s322_586, mq_k0s, mq_k1s, mq_k2s, mq_k4s, mq_k5s, mq_k5n, mq_k5as, mq_k6s, mj_pu, mj_lo, mj_br, mj_hr, mj_hw, mq_gf, mq_len, mq_al, mq_pf, mq_ok, mj_re, mq_lkm, mq_lkn, mj_ldi, mj_ldl, mj_lda, mj_ii, mj_ll, mj_li, mj_i1, ms_1, ms_2, f1_n, f1_i, f1_r, f1_u, f1_l, f2_n, f2_i, f2_r, f2_u, f2_l, mj_tg, mj_c1, mj_c2, mj_ar, mj_aw, mq_cb, mq_oi, mj_rm, Value.category, -getElem?_pos, List.getElem?_cons_zero, decide_eq_true, decide_eq_false, nl_lt, nl_le, ln_lt, ln_le, nl_eq, ln_eq, nl_add, ln_add, nl_sub, ln_mul, nI_sub, nI_mul, nI_add, nI_lt_iff, nI_le_iff, nI_inj, nI_num, mq_ix, nI_1, nl_mul, nl_div, hlt]
          refine mq_wk ?_ hr
          simp [S_cb_mmade4_0, S_bx_mcan1_0, S_b8_mkey_1, S_b8_mkey_0, S_b1_mterm_0, S_b1_copy_0, S_b0_mod_7, S_b0_mod_6, S_b0_mod_5, S_b0_mod_3, S_b0_mod_2, S_b0_mod_1, S_b0_mod_0, S_cb_mmade4_1h, S_bx_mcan1_1h, S_b0_mod_4h, mq_sub, mj_lk]
        · simp (disch := (first | omega | decide)) [S_cb_mmade4_0, S_bx_mcan1_0, S_b8_mkey_1, S_b8_mkey_0, S_b1_mterm_0, S_b1_copy_0, S_b0_mod_7, S_b0_mod_6, S_b0_mod_5, S_b0_mod_3, S_b0_mod_2, S_b0_mod_1, S_b0_mod_0, S_cb_mmade4_1h, S_bx_mcan1_1h, S_b0_mod_4h, s322_0, s322_1, s322_2, s322_3, s322_6, s322_7, s322_8, s322_9, s322_10, s322_13, s322_14, s322_15, s322_16, s322_17, s322_20, s322_22, s322_23, s322_24, s322_25, s322_28, s322_30, s322_31, s322_32, s322_34, s322_37, s322_39, s322_40, s322_41, s322_43, s322_46, s322_48, s322_49, s322_50, s322_51, s322_54, s322_57, s322_58, s322_59, s322_60, s322_63, s322_66, s322_67, s322_69, s322_70, s322_73, s322_76, s322_77, s322_79, s322_80, s322_83, s322_86, s322_87, s322_89, s322_90, s322_93, s322_96, s322_97, s322_100, s322_101, s322_103, s322_105, s322_108, s322_110, s322_111, s322_114, s322_115, s322_117, s322_120, s322_122, s322_125, s322_128, s322_129, s322_131, s322_134, s322_136, s322_139, s322_142, s322_143, s322_146, s322_147, s322_149, s322_151, s322_154, s322_155, s322_157, s322_158, s322_161, s322_164, s322_166, s322_167, s322_168, s322_169, s322_172, s322_173, s322_174, s322_177, s322_178, s322_180, s322_181, s322_184, s322_187, s322_189, s322_190, s322_191, s322_192, s322_193, s322_195, s322_198, s322_201, s322_202, s322_203, s322_206, s322_209, s322_210, s322_211, s322_212, s322_214, s322_217, s322_220, s322_223, s322_225, s322_226, s322_228, s322_229, s322_232, s322_233, s322_234, s322_236, s322_238, s322_239, s322_242, s322_245, s322_246, s322_248, s322_250, s322_253, s322_255, s322_256, s322_257, s322_258, s322_259, s322_262, s322_264, s322_266, s322_267, s322_270, s322_271, s322_273, s322_276, s322_279, s322_280, s322_283, s322_284, s322_286, s322_287, s322_289, s322_290, s322_292, s322_293, s322_295, s322_297, s322_300, s322_301, s322_302, s322_304, s322_306, s322_309, s322_311, s322_313, s322_314, s322_317, s322_319, s322_320, s322_321, s322_323, s322_326, s322_328, s322_329, s322_330, s322_332, s322_334, s322_337, s322_339, s322_342, s322_343, s322_346, s322_347, s322_348, s322_349, s322_350, s322_354, s322_357, s322_359, s322_362, s322_363, s322_366, s322_368, s322_369, s322_370, s322_372, s322_373, s322_374, s322_376, s322_379, s322_381, s322_384, s322_385, s322_388, s322_390, s322_391, s322_392, s322_394, s322_395, s322_396, s322_397, s322_399, s322_400, s322_402, s322_405, s322_407, s322_410, s322_412, s322_414, s322_417, s322_420, s322_425, s322_428, s322_430, s322_431, s322_432, s322_435, s322_437, s322_438, s322_439, s322_441, s322_442, s322_443, s322_445, s322_446, s322_448, s322_451, s322_454, s322_457, s322_458, s322_461, s322_462, s322_464, s322_466, s322_469, s322_470, s322_471, s322_474, s322_477, s322_479, s322_480, s322_482, s322_485, s322_486, s322_489, s322_490, s322_492, s322_493, s322_496, s322_497, s322_500, s322_501, s322_502, s322_504, s322_505, s322_506, s322_509, s322_511, s322_512, s322_513, s322_515, s322_517, s322_519, s322_521, s322_523, s322_525, s322_528, s322_529, s322_532, s322_533, s322_535, s322_538, s322_540, s322_542, s322_545, s322_547, s322_548, s322_551, s322_552, s322_555, s322_556, s322_558, s322_559, s322_560, s322_561, s322_562, s322_565, s322_566, s322_567, s322_568, s322_569, s322_572, s322_573, s322_575, s322_576, s322_577, s322_580, s322_581, s322_583, s322_584, s322_586, mq_k0s, mq_k1s, mq_k2s, mq_k4s, mq_k5s, mq_k5n, mq_k5as, mq_k6s, mj_pu, mj_lo, mj_br, mj_hr, mj_hw, mq_gf, mq_len, mq_al, mq_pf, mq_ok, mj_re, mq_lkm, mq_lkn, mj_ldi, mj_ldl, mj_lda, mj_ii, mj_ll, mj_li, mj_i1, ms_1, ms_2, f1_n, f1_i, f1_r, f1_u, f1_l, f2_n, f2_i, f2_r, f2_u, f2_l, mj_tg, mj_c1, mj_c2, mj_ar, mj_aw, mq_cb, mq_oi, mj_rm, Value.category, -getElem?_pos, List.getElem?_cons_zero, decide_eq_true, decide_eq_false, nl_lt, nl_le, ln_lt, ln_le, nl_eq, ln_eq, nl_add, ln_add, nl_sub, ln_mul, nI_sub, nI_mul, nI_add, nI_lt_iff, nI_le_iff, nI_inj, nI_num, mq_ix, nI_1, nl_mul, nl_div, hlt]
          refine mq_wk ?_ hr
          simp [S_cb_mmade4_0, S_bx_mcan1_0, S_b8_mkey_1, S_b8_mkey_0, S_b1_mterm_0, S_b1_copy_0, S_b0_mod_7, S_b0_mod_6, S_b0_mod_5, S_b0_mod_3, S_b0_mod_2, S_b0_mod_1, S_b0_mod_0, S_cb_mmade4_1h, S_bx_mcan1_1h, S_b0_mod_4h, mq_sub, mj_lk]
    · obtain ⟨l', a1, a2, a3⟩ := l_sgn (d := d) (B := B) (x := x) (y := y) (s := k.1.1.1.1) (m := m) hx hj hm (by omega) hc (party := sg_party T ms) (v3 := nI hs) (v5 := oP (mem ms 5)) (v6 := oP (mem ms 6)) (v11 := 0) h0 k.1.1.1.1.2.2.2.2.2.2.2.2.2.2.2.length [] m.2.2.2.1 (Nat.le_refl _) hm.list (by simp [S_cb_mmade4_0, S_bx_mcan1_0, S_b8_mkey_1, S_b8_mkey_0, S_b1_mterm_0, S_b1_copy_0, S_b0_mod_7, S_b0_mod_6, S_b0_mod_5, S_b0_mod_3, S_b0_mod_2, S_b0_mod_1, S_b0_mod_0, S_cb_mmade4_1h, S_bx_mcan1_1h, S_b0_mod_4h]; omega) (by intro q v z; cases z)
      rw [List.nil_append] at a2 a3
      refine ⟨l', a1, a2, fun r hr => ?_⟩
      have a3 := a3 r hr
      rw [← em] at a3
      simp only [List.length_nil, List.head?_nil, nI_0] at a3
      rw [show oP none = -1 from rfl] at a3
      clear hr
      generalize sg_party T ms = pa at *
      generalize oP (mem ms 6) = v6 at *
      generalize oP (mem ms 5) = v5 at *
      generalize oP (mem ms 3) = v3 at *
      simp (disch := (first | omega | decide)) [S_cb_mmade4_0, S_bx_mcan1_0, S_b8_mkey_1, S_b8_mkey_0, S_b1_mterm_0, S_b1_copy_0, S_b0_mod_7, S_b0_mod_6, S_b0_mod_5, S_b0_mod_3, S_b0_mod_2, S_b0_mod_1, S_b0_mod_0, S_cb_mmade4_1h, S_bx_mcan1_1h, S_b0_mod_4h, s322_0, s322_1, s322_2, s322_3, s322_6, s322_7, s322_8, s322_9, s322_10, s322_13, s322_14, s322_15, s322_16, s322_17, s322_20, s322_22, s322_23, s322_24, s322_25, s322_28, s322_30, s322_31, s322_32, s322_34, s322_37, s322_39, s322_40, s322_41, s322_43, s322_46, s322_48, s322_49, s322_50, s322_51, s322_54, s322_57, s322_58, s322_59, s322_60, s322_63, s322_66, s322_67, s322_69, s322_70, s322_73, s322_76, s322_77, s322_79, s322_80, s322_83, s322_86, s322_87, s322_89, s322_90, s322_93, s322_96, s322_97, s322_100, s322_101, s322_103, s322_105, s322_108, s322_110, s322_111, s322_114, s322_115, s322_117, s322_120, s322_122, s322_125, s322_128, s322_129, s322_131, s322_134, s322_136, s322_139, s322_142, s322_143, s322_146, s322_147, s322_149, s322_151, s322_154, s322_155, s322_157, s322_158, s322_161, s322_164, s322_166, s322_167, s322_168, s322_169, s322_172, s322_173, s322_174, s322_177, s322_178, s322_180, s322_181, s322_184, s322_187, s322_189, s322_190, s322_191, s322_192, s322_193, s322_195, s322_198, s322_201, s322_202, s322_203, s322_206, s322_209, s322_210, s322_211, s322_212, s322_214, s322_217, s322_220, s322_223, s322_225, s322_226, s322_228, s322_229, s322_232, s322_233, s322_234, s322_236, s322_238, s322_239, s322_242, s322_245, s322_246, s322_248, s322_250, s322_253, s322_255, s322_256, s322_257, s322_258, s322_259, s322_262, s322_264, s322_266, s322_267, s322_270, s322_271, s322_273, s322_276, s322_279, s322_280, s322_283, s322_284, s322_286, s322_287, s322_289, s322_290, s322_292, s322_293, s322_295, s322_297, s322_300, s322_301, s322_302, s322_304, s322_306, s322_309, s322_311, s322_313, s322_314, s322_317, s322_319, s322_320, s322_321, s322_323, s322_326, s322_328, s322_329, s322_330, s322_332, s322_334, s322_337, s322_339, s322_342, s322_343, s322_346, s322_347, s322_348, s322_349, s322_350, s322_354, s322_357, s322_359, s322_362, s322_363, s322_366, s322_368, s322_369, s322_370, s322_372, s322_373, s322_374, s322_376, s322_379, s322_381, s322_384, s322_385, s322_388, s322_390, s322_391, s322_392, s322_394, s322_395, s322_396, s322_397, s322_399, s322_400, s322_402, s322_405, s322_407, s322_410, s322_412, s322_414, s322_417, s322_420, s322_425, s322_428, s322_430, s322_431, s322_432, s322_435, s322_437, s322_438, s322_439, s322_441, s322_442, s322_443, s322_445, s322_446, s322_448, s322_451, s322_454, s322_457, s322_458, s322_461, s322_462, s322_464, s322_466, s322_469, s322_470, s322_471, s322_474, s322_477, s322_479, s322_480, s322_482, s322_485, s322_486, s322_489, s322_490, s322_492, s322_493, s322_496, s322_497, s322_500, s322_501, s322_502, s322_504, s322_505, s322_506, s322_509, s322_511, s322_512, s322_513, s322_515, s322_517, s322_519, s322_521, s322_523, s322_525, s322_528, s322_529, s322_532, s322_533, s322_535, s322_538, s322_540, s322_542, s322_545, s322_547, s322_548, s322_551, s322_552, s322_555, s322_556, s322_558, s322_559, s322_560, s322_561, s322_562, s322_565, s322_566, s322_567, s322_568, s322_569, s322_572, s322_573, s322_575, s322_576, s322_577, s322_580, s322_581, s322_583, s322_584, s322_586, mq_k0s, mq_k1s, mq_k2s, mq_k4s, mq_k5s, mq_k5n, mq_k5as, mq_k6s, mj_pu, mj_lo, mj_br, mj_hr, mj_hw, mq_gf, mq_len, mq_al, mq_pf, mq_ok, mj_re, mq_lkm, mq_lkn, mj_ldi, mj_ldl, mj_lda, mj_ii, mj_ll, mj_li, mj_i1, ms_1, ms_2, f1_n, f1_i, f1_r, f1_u, f1_l, f2_n, f2_i, f2_r, f2_u, f2_l, mj_tg, mj_c1, mj_c2, mj_ar, mj_aw, mq_cb, mq_oi, mj_rm, Value.category, -getElem?_pos, List.getElem?_cons_zero, decide_eq_true, decide_eq_false, nl_lt, nl_le, ln_lt, ln_le, nl_eq, ln_eq, nl_add, ln_add, nl_sub, ln_mul, nI_sub, nI_mul, nI_add, nI_lt_iff, nI_le_iff, nI_inj, nI_num, mq_ix, nI_1, nl_mul, nl_div, wkc_on hx hj, wkl_on hx, wkc_acts hx hj, wkl_acts hx, wkc_limit hx hj, wkl_limit hx, wkc_generation hx hj, wkl_generation hx, wkc_area hx hj, wkl_area hx, wkc_fend hx hj, wkl_fend hx, wkc_master hx hj, wkl_master hx, wkc_pinOf hx hj, wkl_pinOf hx, wkc_tries hx hj, wkl_tries hx, wkc_own hx hj, wkl_own hx, wkc_creds hx hj, wkl_creds hx, wkc_presses hx hj, wkl_presses hx, wkc_taken hx hj, wkl_taken hx, wkc_answered hx hj, wkl_answered hx, wkc_agreeing hx hj, wkl_agreeing hx, wkc_token hx hj, wkl_token hx, wkc_wrong hx hj, wkl_wrong hx, wkc_heard hx hj, wkl_heard hx, wkc_listed hx hj, wkl_listed hx, wkc_listAt hx hj, wkl_listAt hx, wkc_listHash hx hj, wkl_listHash hx, wkc_listFlags hx hj, wkl_listFlags hx, wkc_answerSize hx hj, wkl_answerSize hx, wkc_flash hx hj, wkl_flash hx hj, e1]
      refine mq_wk ?_ a3
      simp [S_cb_mmade4_0, S_bx_mcan1_0, S_b8_mkey_1, S_b8_mkey_0, S_b1_mterm_0, S_b1_copy_0, S_b0_mod_7, S_b0_mod_6, S_b0_mod_5, S_b0_mod_3, S_b0_mod_2, S_b0_mod_1, S_b0_mod_0, S_cb_mmade4_1h, S_bx_mcan1_1h, S_b0_mod_4h, mq_sub, mj_lk]
  have wl1 : wm (m.wl l') := (wm_mk_ hm.credId hm.credHash hm.credSecret hm.credCount hm.credLong hm.credUser hl' hm.answers)
  have krl : kr k (m.wl l') := (kr_mk_ hk.pr hk.ta hk.an hk.ag hk.tk hk.wr hk.he)
  have cfl : cF k.1.1.1.1.2.2.2.2.2.2.2.2.2.2.2 (m.wl l') := hc
  have lrl : lr k (m.wl l') := lr.z hlp hl0 hl1
  unfold sg_all
  rw [lsF_last]
  have hmany := lsF_many k.1.1.1.1.2.2.2.2.2.2.2.2.2.2.2 (sg_party T ms)
  have hlen := lsF_len k.1.1.1.1.2.2.2.2.2.2.2.2.2.2.2 (sg_party T ms) k.1.1.1.1.2.2.2.2.2.2.2.2.2.2.2.length
  cases hls : lsF k.1.1.1.1.2.2.2.2.2.2.2.2.2.2.2 (sg_party T ms) k.1.1.1.1.2.2.2.2.2.2.2.2.2.2.2.length with
  | nil =>
    rw [hls] at to423
    refine kP.no (m' := m.wl l') (y' := y) (D' := D) (to423 _ ?_) wl1 krl cfl hy rfl lrl (by decide)
    simp only [List.length_nil, List.head?_nil, nI_0]
    rw [show oP none = -1 from rfl]
    generalize sg_party T ms = pa at *
    generalize oP (mem ms 6) = v6 at *
    generalize oP (mem ms 5) = v5 at *
    simp (disch := (first | omega | decide)) [S_cb_mmade4_0, S_bx_mcan1_0, S_b8_mkey_1, S_b8_mkey_0, S_b1_mterm_0, S_b1_copy_0, S_b0_mod_7, S_b0_mod_6, S_b0_mod_5, S_b0_mod_3, S_b0_mod_2, S_b0_mod_1, S_b0_mod_0, S_cb_mmade4_1h, S_bx_mcan1_1h, S_b0_mod_4h, s322_0, s322_1, s322_2, s322_3, s322_6, s322_7, s322_8, s322_9, s322_10, s322_13, s322_14, s322_15, s322_16, s322_17, s322_20, s322_22, s322_23, s322_24, s322_25, s322_28, s322_30, s322_31, s322_32, s322_34, s322_37, s322_39, s322_40, s322_41, s322_43, s322_46, s322_48, s322_49, s322_50, s322_51, s322_54, s322_57, s322_58, s322_59, s322_60, s322_63, s322_66, s322_67, s322_69, s322_70, s322_73, s322_76, s322_77, s322_79, s322_80, s322_83, s322_86, s322_87, s322_89, s322_90, s322_93, s322_96, s322_97, s322_100, s322_101, s322_103, s322_105, s322_108, s322_110, s322_111, s322_114, s322_115, s322_117, s322_120, s322_122, s322_125, s322_128, s322_129, s322_131, s322_134, s322_136, s322_139, s322_142, s322_143, s322_146, s322_147, s322_149, s322_151, s322_154, s322_155, s322_157, s322_158, s322_161, s322_164, s322_166, s322_167, s322_168, s322_169, s322_172, s322_173, s322_174, s322_177, s322_178, s322_180, s322_181, s322_184, s322_187, s322_189, s322_190, s322_191, s322_192, s322_193, s322_195, s322_198, s322_201, s322_202, s322_203, s322_206, s322_209, s322_210, s322_211, s322_212, s322_214, s322_217, s322_220, s322_223, s322_225, s322_226, s322_228, s322_229, s322_232, s322_233, s322_234, s322_236, s322_238, s322_239, s322_242, s322_245, s322_246, s322_248, s322_250, s322_253, s322_255, s322_256, s322_257, s322_258, s322_259, s322_262, s322_264, s322_266, s322_267, s322_270, s322_271, s322_273, s322_276, s322_279, s322_280, s322_283, s322_284, s322_286, s322_287, s322_289, s322_290, s322_292, s322_293, s322_295, s322_297, s322_300, s322_301, s322_302, s322_304, s322_306, s322_309, s322_311, s322_313, s322_314, s322_317, s322_319, s322_320, s322_321, s322_323, s322_326, s322_328, s322_329, s322_330, s322_332, s322_334, s322_337, s322_339, s322_342, s322_343, s322_346, s322_347, s322_348, s322_349, s322_350, s322_352, s322_354, s322_357, s322_359, s322_362, s322_363, s322_366, s322_368, s322_369, s322_370, s322_372, s322_373, s322_374, s322_376, s322_379, s322_381, s322_384, s322_385, s322_388, s322_390, s322_391, s322_392, s322_394, s322_395, s322_396, s322_397, s322_399, s322_400, s322_402, s322_405, s322_407, s322_410, s322_412, s322_414, s322_417, s322_420, s322_423, s322_425, s322_428, s322_430, s322_431, s322_432, s322_435, s322_437, s322_438, s322_439, s322_441, s322_442, s322_443, s322_445, s322_446, s322_448, s322_451, s322_454, s322_457, s322_458, s322_461, s322_462, s322_464, s322_466, s322_469, s322_470, s322_471, s322_474, s322_477, s322_479, s322_480, s322_482, s322_485, s322_486, s322_489, s322_490, s322_492, s322_493, s322_496, s322_497, s322_500, s322_501, s322_502, s322_504, s322_505, s322_506, s322_509, s322_511, s322_512, s322_513, s322_515, s322_517, s322_519, s322_521, s322_523, s322_525, s322_528, s322_529, s322_532, s322_533, s322_535, s322_538, s322_540, s322_542, s322_545, s322_547, s322_548, s322_551, s322_552, s322_555, s322_556, s322_558, s322_559, s322_560, s322_561, s322_562, s322_565, s322_566, s322_567, s322_568, s322_569, s322_572, s322_573, s322_575, s322_576, s322_577, s322_580, s322_581, s322_583, s322_584, s322_586, mq_k0s, mq_k1s, mq_k2s, mq_k4s, mq_k5s, mq_k5n, mq_k5as, mq_k6s, mj_pu, mj_lo, mj_br, mj_hr, mj_hw, mq_gf, mq_len, mq_al, mq_pf, mq_ok, mj_re, mq_lkm, mq_lkn, mj_ldi, mj_ldl, mj_lda, mj_ii, mj_ll, mj_li, mj_i1, ms_1, ms_2, f1_n, f1_i, f1_r, f1_u, f1_l, f2_n, f2_i, f2_r, f2_u, f2_l, mj_tg, mj_c1, mj_c2, mj_ar, mj_aw, mq_cb, mq_oi, mj_rm, Value.category, -getElem?_pos, List.getElem?_cons_zero, decide_eq_true, decide_eq_false, nl_lt, nl_le, ln_lt, ln_le, nl_eq, ln_eq, nl_add, ln_add, nl_sub, ln_mul, nI_sub, nI_mul, nI_add, nI_lt_iff, nI_le_iff, nI_inj, nI_num, mq_ix, nI_1, nl_mul, nl_div, narrow]
  | cons i rest =>
    rw [hls] at to423 hli hmany hlen
    obtain ⟨hr1, hil, c, hci, hcp⟩ := lsF_cons hls
    obtain ⟨hI', hH, hS, hC, hL, h8, hU⟩ := cfl i c hci
    simp only [List.head?_cons]
    rw [hci, hG.m2]
    simp only [List.head?_cons] at to423
    rw [show oP (some i) = nI i from rfl] at to423
    simp only [List.length_cons] at hlen hmany
    have to445 : ∀ r, mj_Rn (d + 7) mj_m322 445 [(14, .int (nI (i :: rest).length)), (13, .int c.1), (12, .int (nI i)), (11, .int 0), (10, .int (sg_party T ms)), (6, .int (oP (mem ms 6))), (5, .int (oP (mem ms 5))), (3, .int (nI hs)), (0, .ref 67), (1, .int (nI j))] [] (mm B (x.wk j k.1.1.1.1 (m.wl l')) y) = some r → mj_Rn (d + 7) mj_m322 295 [(14, .int 0), (13, .int 0), (12, .int (-1)), (11, .int 0), (10, .int (sg_party T ms)), (6, .int (oP (mem ms 6))), (5, .int (oP (mem ms 5))), (4, .int (oP (mem ms 3))), (3, .int (nI hs)), (0, .ref 67), (1, .int (nI j))] [] (mm B (x.wk j k.1.1.1.1 m) y) = some r := by
      intro r hr
      apply to423
      have hz : ¬ nI (i :: rest).length = 0 := fun z => by have := (nI_inj (b := 0) (by simp [S_cb_mmade4_0, S_bx_mcan1_0, S_b8_mkey_1, S_b8_mkey_0, S_b1_mterm_0, S_b1_copy_0, S_b0_mod_7, S_b0_mod_6, S_b0_mod_5, S_b0_mod_3, S_b0_mod_2, S_b0_mod_1, S_b0_mod_0, S_cb_mmade4_1h, S_bx_mcan1_1h, S_b0_mod_4h]; omega) (by omega)).mp z; simp [S_cb_mmade4_0, S_bx_mcan1_0, S_b8_mkey_1, S_b8_mkey_0, S_b1_mterm_0, S_b1_copy_0, S_b0_mod_7, S_b0_mod_6, S_b0_mod_5, S_b0_mod_3, S_b0_mod_2, S_b0_mod_1, S_b0_mod_0, S_cb_mmade4_1h, S_bx_mcan1_1h, S_b0_mod_4h] at this
      have hm := wl1
      generalize nI (i :: rest).length = sv at *
      generalize sg_party T ms = pa at *
      generalize oP (mem ms 6) = v6 at *
      generalize oP (mem ms 5) = v5 at *
      clear to423
      simp (disch := (first | omega | decide)) [S_cb_mmade4_0, S_bx_mcan1_0, S_b8_mkey_1, S_b8_mkey_0, S_b1_mterm_0, S_b1_copy_0, S_b0_mod_7, S_b0_mod_6, S_b0_mod_5, S_b0_mod_3, S_b0_mod_2, S_b0_mod_1, S_b0_mod_0, S_cb_mmade4_1h, S_bx_mcan1_1h, S_b0_mod_4h, s322_0, s322_1, s322_2, s322_3, s322_6, s322_7, s322_8, s322_9, s322_10, s322_13, s322_14, s322_15, s322_16, s322_17, s322_20, s322_22, s322_23, s322_24, s322_25, s322_28, s322_30, s322_31, s322_32, s322_34, s322_37, s322_39, s322_40, s322_41, s322_43, s322_46, s322_48, s322_49, s322_50, s322_51, s322_54, s322_57, s322_58, s322_59, s322_60, s322_63, s322_66, s322_67, s322_69, s322_70, s322_73, s322_76, s322_77, s322_79, s322_80, s322_83, s322_86, s322_87, s322_89, s322_90, s322_93, s322_96, s322_97, s322_100, s322_101, s322_103, s322_105, s322_108, s322_110, s322_111, s322_114, s322_115, s322_117, s322_120, s322_122, s322_125, s322_128, s322_129, s322_131, s322_134, s322_136, s322_139, s322_142, s322_143, s322_146, s322_147, s322_149, s322_151, s322_154, s322_155, s322_157, s322_158, s322_161, s322_164, s322_166, s322_167, s322_168, s322_169, s322_172, s322_173, s322_174, s322_177, s322_178, s322_180, s322_181, s322_184, s322_187, s322_189, s322_190, s322_191, s322_192, s322_193, s322_195, s322_198, s322_201, s322_202, s322_203, s322_206, s322_209, s322_210, s322_211, s322_212, s322_214, s322_217, s322_220, s322_223, s322_225, s322_226, s322_228, s322_229, s322_232, s322_233, s322_234, s322_236, s322_238, s322_239, s322_242, s322_245, s322_246, s322_248, s322_250, s322_253, s322_255, s322_256, s322_257, s322_258, s322_259, s322_262, s322_264, s322_266, s322_267, s322_270, s322_271, s322_273, s322_276, s322_279, s322_280, s322_283, s322_284, s322_286, s322_287, s322_289, s322_290, s322_292, s322_293, s322_295, s322_297, s322_300, s322_301, s322_302, s322_304, s322_306, s322_309, s322_311, s322_313, s322_314, s322_317, s322_319, s322_320, s322_321, s322_323, s322_326, s322_328, s322_329, s322_330, s322_332, s322_334, s322_337, s322_339, s322_342, s322_343, s322_346, s322_347, s322_348, s322_349, s322_350, s322_352, s322_354, s322_357, s322_359, s322_362, s322_363, s322_366, s322_368, s322_369, s322_370, s322_372, s322_373, s322_374, s322_376, s322_379, s322_381, s322_384, s322_385, s322_388, s322_390, s322_391, s322_392, s322_394, s322_395, s322_396, s322_397, s322_399, s322_400, s322_402, s322_405, s322_407, s322_410, s322_412, s322_414, s322_417, s322_420, s322_423, s322_425, s322_428, s322_430, s322_431, s322_432, s322_435, s322_437, s322_438, s322_439, s322_441, s322_442, s322_443, s322_446, s322_448, s322_451, s322_454, s322_457, s322_458, s322_461, s322_462, s322_464, s322_466, s322_469, s322_470, s322_471, s322_474, s322_477, s322_479, s322_480, s322_482, s322_485, s322_486, s322_489, s322_490, s322_492, s322_493, s322_496, s322_497, s322_500, s322_501, s322_502, s322_504, s322_505, s322_506, s322_509, s322_511, s322_512, s322_513, s322_515, s322_517, s322_519, s322_521, s322_523, s322_525, s322_528, s322_529, s322_532, s322_533, s322_535, s322_538, s322_540, s322_542, s322_545, s322_547, s322_548, s322_551, s322_552, s322_555, s322_556, s322_558, s322_559, s322_560, s322_561, s322_562, s322_565, s322_566, s322_567, s322_568, s322_569, s322_572, s322_573, s322_575, s322_576, s322_577, s322_580, s322_581, s322_583, s322_584, s322_586, mq_k0s, mq_k1s, mq_k2s, mq_k4s, mq_k5s, mq_k5n, mq_k5as, mq_k6s, mj_pu, mj_lo, mj_br, mj_hr, mj_hw, mq_gf, mq_len, mq_al, mq_pf, mq_ok, mj_re, mq_lkm, mq_lkn, mj_ldi, mj_ldl, mj_lda, mj_ii, mj_ll, mj_li, mj_i1, ms_1, ms_2, f1_n, f1_i, f1_r, f1_u, f1_l, f2_n, f2_i, f2_r, f2_u, f2_l, mj_tg, mj_c1, mj_c2, mj_ar, mj_aw, mq_cb, mq_oi, mj_rm, Value.category, -getElem?_pos, List.getElem?_cons_zero, decide_eq_true, decide_eq_false, nl_lt, nl_le, ln_lt, ln_le, nl_eq, ln_eq, nl_add, ln_add, nl_sub, ln_mul, nI_sub, nI_mul, nI_add, nI_lt_iff, nI_le_iff, nI_inj, nI_num, mq_ix, nI_1, nl_mul, nl_div, wkc_on hx hj, wkl_on hx, wkc_acts hx hj, wkl_acts hx, wkc_limit hx hj, wkl_limit hx, wkc_generation hx hj, wkl_generation hx, wkc_area hx hj, wkl_area hx, wkc_fend hx hj, wkl_fend hx, wkc_master hx hj, wkl_master hx, wkc_pinOf hx hj, wkl_pinOf hx, wkc_tries hx hj, wkl_tries hx, wkc_own hx hj, wkl_own hx, wkc_creds hx hj, wkl_creds hx, wkc_presses hx hj, wkl_presses hx, wkc_taken hx hj, wkl_taken hx, wkc_answered hx hj, wkl_answered hx, wkc_agreeing hx hj, wkl_agreeing hx, wkc_token hx hj, wkl_token hx, wkc_wrong hx hj, wkl_wrong hx, wkc_heard hx hj, wkl_heard hx, wkc_listed hx hj, wkl_listed hx, wkc_listAt hx hj, wkl_listAt hx, wkc_listHash hx hj, wkl_listHash hx, wkc_listFlags hx hj, wkl_listFlags hx, wkc_answerSize hx hj, wkl_answerSize hx, wkc_flash hx hj, wkl_flash hx hj, wkf_credId hx hj hm, wkf_credHash hx hj hm, wkf_credSecret hx hj hm, wkf_credCount hx hj hm, wkf_credLong hx hj hm, wkf_credUser hx hj hm, wkf_list hx hj hm, wkf_answers hx hj hm, wkf_flash hx hj, wkc_credId hx hj hm, wkl_credId hx hj hm, wkc_credHash hx hj hm, wkl_credHash hx hj hm, wkc_credSecret hx hj hm, wkl_credSecret hx hj hm, wkc_credCount hx hj hm, wkl_credCount hx hj hm, wkc_credLong hx hj hm, wkl_credLong hx hj hm, wkc_credUser hx hj hm, wkl_credUser hx hj hm, wkc_list hx hj hm, wkl_list hx hj hm, wkc_answers hx hj hm, wkl_answers hx hj hm, hz, hI']
      refine mq_wk ?_ hr
      simp [S_cb_mmade4_0, S_bx_mcan1_0, S_b8_mkey_1, S_b8_mkey_0, S_b1_mterm_0, S_b1_copy_0, S_b0_mod_7, S_b0_mod_6, S_b0_mod_5, S_b0_mod_3, S_b0_mod_2, S_b0_mod_1, S_b0_mod_0, S_cb_mmade4_1h, S_bx_mcan1_1h, S_b0_mod_4h, mq_sub, mj_lk]
    obtain ⟨A, A'⟩ := sn_9a (d := d) (B := B) (x := x) (y := y) (k := k) (m := m.wl l') h hcb hx hj krl hI.w9 hG.f5 hG.i2 hG.s2 hG.v2 (sev := nI (i :: rest).length) (id := c.1) (ch := nI i) (told := 0) (party := sg_party T ms)
    by_cases hw : sg_asks ms = true ∧ k.1.2.1.1 = 0
    · rw [if_pos hw]
      exact kP.no (m' := m.wl l') (y' := y) (D' := D) (to445 _ (A hw)) wl1 krl cfl hy rfl lrl (by decide)
    · rw [if_neg hw]
      obtain ⟨m1, t1, q1⟩ := A' hw
      have es := t1.s
      generalize hK : (((((((sg_tk ms k).1.1.1.1, (sg_tk ms k).1.1.1.2), ((sg_tk ms k).1.1.2.1, (sg_tk ms k).1.1.2.2)), (((sg_tk ms k).1.2.1.1, (sg_tk ms k).1.2.1.2), ((sg_tk ms k).1.2.2.1, (sg_tk ms k).1.2.2.2))), ((((sg_tk ms k).2.1.1.1, (sg_tk ms k).2.1.1.2), ((sg_tk ms k).2.1.2.1, i)), ((sg_party T ms, o4 ms (some hs)), sg_fl ms))) : Ky) : Ky) = K
      have esK : K.1.1.1.1 = k.1.1.1.1 := by rw [← hK]; exact es
      have hkk := t1.kr krl
      have krK : kr K m1 := by rw [← hK]; exact (kr_mk_ hkk.pr hkk.ta hkk.an hkk.ag hkk.tk hkk.wr hkk.he)
      have hIt := hI.tkn t1
      have hIK : kI K (g + 1) := by rw [← hK]; exact (kI_mk_ hIt.w9 hIt.wr hIt.w hIt.cr hIt.gn hIt.tr)
      have hcK : cF K.1.1.1.1.2.2.2.2.2.2.2.2.2.2.2 m1 := by rw [esK]; exact t1.cF cfl
      have hrep : K.1.1.1.2 = k.1.1.1.2 := by rw [← hK]; exact t1.rep.1
      have hR : sgR (fs_many k.1.1.1.1.2.2.2.2.2.2.2.2.2.2.2 (sg_party T ms)) true (nI (i :: rest).length) := by
        rw [← hmany]
        simp only [List.length_cons]
        cases rest with
        | nil => exact Or.inr (Or.inl ⟨rfl, rfl, Or.inr rfl⟩)
        | cons a b => exact Or.inr (Or.inr ⟨by simp [S_cb_mmade4_0, S_bx_mcan1_0, S_b8_mkey_1, S_b8_mkey_0, S_b1_mterm_0, S_b1_copy_0, S_b0_mod_7, S_b0_mod_6, S_b0_mod_5, S_b0_mod_3, S_b0_mod_2, S_b0_mod_1, S_b0_mod_0, S_cb_mmade4_1h, S_bx_mcan1_1h, S_b0_mod_4h], by omega, rfl, rfl⟩)
      have hsg := q_sign (d := d) (B := B) (x := x) (y := y) (k := K) (m := m1) (g := g) hx hj (t1.wm wl1) krK hIK hcK hy hT8 hT hO (oc := some c) (ch := nI i) (id := c.1) (party := sg_party T ms) (flags := sg_fl ms) (hash := o4 ms (some hs)) hR (sg_fl8 ms) (Or.inl ⟨i, c, rfl, by rw [esK]; exact hci, rfl, rfl⟩)
      have esw : ∀ n, sw K T (some c) c.1 (sg_party T ms) (o4 ms (some hs)) (sg_fl ms) n = sw K T (some c) 0 (sg_party T ms) (o4 ms (some hs)) (sg_fl ms) n := fun _ => rfl
      rw [esw, hrep] at hsg
      have hml : ml m1 = ml (m.wl l') := t1.ml
      have gAll : ∀ m', ml m' = ml m1 → m'.1.2.1.2 = 0 ∧ m'.1.2.2.1 = 0 ∧ m'.2.2.2.1 = l' := by
        intro m' e
        have e1 : (ml m').1 = (ml (m.wl l')).1 := by rw [e, hml]
        have e2 : (ml m').2.1 = (ml (m.wl l')).2.1 := by rw [e, hml]
        have e3 : (ml m').2.2.2.2.2.1 = (ml (m.wl l')).2.2.2.2.2.1 := by rw [e, hml]
        exact ⟨e1.trans hl0, e2.trans hl1, e3⟩
      have g0 : m1.2.1.1.1.2 = m.2.1.1.1.2 := by
        have : (ml m1).2.2.2.2.1 = (ml (m.wl l')).2.2.2.2.1 := by rw [hml]
        exact this
      obtain ⟨s1, s2, s3, s4⟩ := sw_ls (k := K) (T := T) (oc := some c) (id := 0) (party := sg_party T ms) (hash := o4 ms (some hs)) (flags := sg_fl ms) (many := fs_many k.1.1.1.1.2.2.2.2.2.2.2.2.2.2.2 (sg_party T ms))
      have k1 : K.2.1.2.2 = i := by rw [← hK]
      have k2 : K.2.2.1.1 = sg_party T ms := by rw [← hK]
      have k3 : K.2.2.1.2 = o4 ms (some hs) := by rw [← hK]
      have k4 : K.2.2.2 = sg_fl ms := by rw [← hK]
      rw [k1] at s1
      rw [k2] at s2
      rw [k3] at s3
      rw [k4] at s4
      have hls2 : lsF (sw K T (some c) 0 (sg_party T ms) (o4 ms (some hs)) (sg_fl ms) (fs_many k.1.1.1.1.2.2.2.2.2.2.2.2.2.2.2 (sg_party T ms))).1.1.1.1.1.2.2.2.2.2.2.2.2.2.2.2 (sg_party T ms) i = rest := by
        rw [lsF_congr (fun n => sw_cr n), esK, hr1]
      have fin := sn_9b (d := d) (B := B) (x := x) (y := y) (K := K) (m0 := m) hx hj hsg g0 (fun hle _ m' e => by
          obtain ⟨g1, g2, g3⟩ := gAll m' e
          have hn : rest = [] := by
            cases rest with
            | nil => rfl
            | cons a b =>
              exfalso
              have : (i :: a :: b).length ≤ 1 := (nl_le (a := (i :: a :: b).length) (n := 1) (by simp [S_cb_mmade4_0, S_bx_mcan1_0, S_b8_mkey_1, S_b8_mkey_0, S_b1_mterm_0, S_b1_copy_0, S_b0_mod_7, S_b0_mod_6, S_b0_mod_5, S_b0_mod_3, S_b0_mod_2, S_b0_mod_1, S_b0_mod_0, S_cb_mmade4_1h, S_bx_mcan1_1h, S_b0_mod_4h] at hlen ⊢; omega) rfl).mp hle
              simp only [List.length_cons] at this
              omega
          refine ⟨0, 0, g2, g1, by omega, by omega, ?_, ?_, by omega⟩
          · dsimp only
            rw [s1, s2, hls2, hn]; rfl
          · dsimp only
            rw [s1, s2, hls2, hn]
            intro q v z
            cases z) (fun hle _ => ⟨rfl, fun m' e => by
          obtain ⟨g1, g2, g3⟩ := gAll m' e
          refine ⟨0, rest.length, rfl, ?_, by omega, by omega, ?_, ?_, fun _ => ⟨?_, ?_, ?_⟩⟩
          · show nI (i :: rest).length - 1 = nI rest.length
            rw [List.length_cons, nl_sub (by omega)]
            rfl
          · dsimp only
            rw [s1, s2, hls2]; omega
          · dsimp only
            rw [s1, s2, hls2]
            intro q v z
            rw [show (mLs m' (nI (i :: rest).length - 1) (o4 ms (some hs)) (sg_fl ms)).2.2.2.1 = m'.2.2.2.1 from rfl, g3, Nat.zero_add]
            exact hli q v (by rw [List.getElem?_cons_succ]; exact z)
          · dsimp only
            rw [s3]; rfl
          · dsimp only
            rw [s4]; rfl
          · dsimp only
            rw [s4]; exact sg_fl8 ms⟩)
      refine fin.of (fun r hr => to445 _ (q1 _ ?_))
      rw [esK] at hr
      exact hr
theorem q_signed (h : xm x ms) (hcb : cbMsg ms) (h5 : cbS ms 1 = 5) (hx : xk x) (hj : j < 3) (hm : wm m) (hk : kr k m) (hI : kI k (g + 1)) (hc : cF k.1.1.1.1.2.2.2.2.2.2.2.2.2.2.2 m) (hy : yz y T D O) (hT8 : tk8 T) (hT : T.1.length < 1000) (hO : O.length ≤ 100) (hl0 : m.1.2.1.2 = 0) (hl1 : m.1.2.2.1 = 0) (hlp : k.2.1.2.2 = 0) :
    kP B x j m k.1.1.1.2 O (ky_sign ms k T) (mj_V (d + 8) 322 [.ref 67, .int (nI j)] (mm B (x.wk j k.1.1.1.1 m) y)) := by
  have J := mem_oJ hcb
  have hX := h.wk j k.1.1.1.1 m
  have lr0 : lr k m := lr.z hlp hl0 hl1
  obtain ⟨F1, F2⟩ := sn_form (d := d) (j := j) (B := B) (x := x.wk j k.1.1.1.1 m) (y := y) hX hcb h5
  unfold ky_sign
  by_cases hf : sgFault ms = 0
  · rw [if_neg (fun z => z hf)]
    have F2 := F2 hf
    obtain ⟨nm, hs, hG⟩ := sgG.of hcb hf
    rw [hG.m1, hG.m2, show oP (some nm) = nI nm from rfl, show oP (some hs) = nI hs from rfl] at F2
    have rt := q_isTrue (d := d + 2) (B := B) (x := x.wk j k.1.1.1.1 m) (y := y) hX nn_uv (J 5) (fit_s hG.f5 (by omega))
    cases hu : oSim ms 21 (cbNm ms uv_ (mem ms 5)) with
    | true =>
      simp only [if_true]
      rw [hu] at rt
      refine kP.no (m' := m) (y' := y) (D' := D) (F2 _ ?_) hm hk hc hy rfl lr0 (by decide)
      generalize oP (mem ms 7) = v7 at *
      generalize oP (mem ms 6) = v6 at *
      generalize oP (mem ms 5) = v5 at *
      generalize oP (mem ms 3) = v3 at *
      simp (disch := (first | omega | decide)) [S_cb_mmade4_0, S_bx_mcan1_0, S_b8_mkey_1, S_b8_mkey_0, S_b1_mterm_0, S_b1_copy_0, S_b0_mod_7, S_b0_mod_6, S_b0_mod_5, S_b0_mod_3, S_b0_mod_2, S_b0_mod_1, S_b0_mod_0, S_cb_mmade4_1h, S_bx_mcan1_1h, S_b0_mod_4h, s322_0, s322_1, s322_2, s322_3, s322_6, s322_7, s322_8, s322_9, s322_10, s322_13, s322_14, s322_15, s322_16, s322_17, s322_20, s322_22, s322_23, s322_24, s322_25, s322_28, s322_30, s322_31, s322_32, s322_34, s322_37, s322_39, s322_40, s322_41, s322_43, s322_46, s322_48, s322_49, s322_50, s322_51, s322_54, s322_57, s322_58, s322_59, s322_60, s322_63, s322_66, s322_67, s322_69, s322_70, s322_73, s322_76, s322_77, s322_79, s322_80, s322_83, s322_86, s322_87, s322_89, s322_90, s322_93, s322_96, s322_97, s322_100, s322_101, s322_103, s322_105, s322_108, s322_110, s322_111, s322_114, s322_115, s322_117, s322_120, s322_122, s322_125, s322_128, s322_129, s322_131, s322_134, s322_136, s322_139, s322_142, s322_143, s322_146, s322_147, s322_149, s322_151, s322_154, s322_155, s322_157, s322_158, s322_161, s322_164, s322_166, s322_167, s322_168, s322_169, s322_172, s322_173, s322_174, s322_177, s322_178, s322_180, s322_181, s322_184, s322_187, s322_189, s322_190, s322_191, s322_192, s322_193, s322_195, s322_198, s322_201, s322_202, s322_203, s322_206, s322_209, s322_210, s322_211, s322_212, s322_214, s322_217, s322_220, s322_223, s322_225, s322_226, s322_228, s322_229, s322_232, s322_233, s322_234, s322_236, s322_238, s322_239, s322_242, s322_245, s322_246, s322_248, s322_250, s322_253, s322_255, s322_257, s322_258, s322_259, s322_262, s322_264, s322_266, s322_267, s322_270, s322_271, s322_273, s322_276, s322_279, s322_280, s322_283, s322_284, s322_286, s322_287, s322_289, s322_290, s322_292, s322_293, s322_295, s322_297, s322_300, s322_301, s322_302, s322_304, s322_306, s322_309, s322_311, s322_313, s322_314, s322_317, s322_319, s322_320, s322_321, s322_323, s322_326, s322_328, s322_329, s322_330, s322_332, s322_334, s322_337, s322_339, s322_342, s322_343, s322_346, s322_347, s322_348, s322_349, s322_350, s322_352, s322_354, s322_357, s322_359, s322_362, s322_363, s322_366, s322_368, s322_369, s322_370, s322_372, s322_373, s322_374, s322_376, s322_379, s322_381, s322_384, s322_385, s322_388, s322_390, s322_391, s322_392, s322_394, s322_395, s322_396, s322_397, s322_399, s322_400, s322_402, s322_405, s322_407, s322_410, s322_412, s322_414, s322_417, s322_420, s322_423, s322_425, s322_428, s322_430, s322_431, s322_432, s322_435, s322_437, s322_438, s322_439, s322_441, s322_442, s322_443, s322_445, s322_446, s322_448, s322_451, s322_454, s322_457, s322_458, s322_461, s322_462, s322_464, s322_466, s322_469, s322_470, s322_471, s322_474, s322_477, s322_479, s322_480, s322_482, s322_485, s322_486, s322_489, s322_490, s322_492, s322_493, s322_496, s322_497, s322_500, s322_501, s322_502, s322_504, s322_505, s322_506, s322_509, s322_511, s322_512, s322_513, s322_515, s322_517, s322_519, s322_521, s322_523, s322_525, s322_528, s322_529, s322_532, s322_533, s322_535, s322_538, s322_540, s322_542, s322_545, s322_547, s322_548, s322_551, s322_552, s322_555, s322_556, s322_558, s322_559, s322_560, s322_561, s322_562, s322_565, s322_566, s322_567, s322_568, s322_569, s322_572, s322_573, s322_575, s322_576, s322_577, s322_580, s322_581, s322_583, s322_584, s322_586, mq_k0s, mq_k1s, mq_k2s, mq_k4s, mq_k5s, mq_k5n, mq_k5as, mq_k6s, mj_pu, mj_lo, mj_br, mj_hr, mj_hw, mq_gf, mq_len, mq_al, mq_pf, mq_ok, mj_re, mq_lkm, mq_lkn, mj_ldi, mj_ldl, mj_lda, mj_ii, mj_ll, mj_li, mj_i1, ms_1, ms_2, f1_n, f1_i, f1_r, f1_u, f1_l, f2_n, f2_i, f2_r, f2_u, f2_l, mj_tg, mj_c1, mj_c2, mj_ar, mj_aw, mq_cb, mq_oi, mj_rm, Value.category, -getElem?_pos, List.getElem?_cons_zero, decide_eq_true, decide_eq_false, nl_lt, nl_le, ln_lt, ln_le, nl_eq, ln_eq, nl_add, ln_add, nl_sub, ln_mul, nI_sub, nI_mul, nI_add, nI_lt_iff, nI_le_iff, nI_inj, nI_num, mq_ix, nI_1, nl_mul, nl_div, rt, on1, narrow]
    | false =>
      simp only [Bool.false_eq_true, if_false]
      rw [hu] at rt
      simp only [on1, Bool.false_eq_true, if_false] at rt
      -- what comes behind the test of the mark
      have late : ∀ (m : Mk) (y : Sy) (D : List Int32), wm m → kr k m → cF k.1.1.1.1.2.2.2.2.2.2.2.2.2.2.2 m → yz y T D O → m.1.2.1.2 = 0 → m.1.2.2.1 = 0 → kP B x j m k.1.1.1.2 O (sg_end ms k T) (mj_Rn (d + 7) mj_m322 256 [(7, .int (oP (mem ms 7))), (6, .int (oP (mem ms 6))), (5, .int (oP (mem ms 5))), (4, .int (oP (mem ms 3))), (3, .int (nI hs)), (2, .int (nI nm)), (0, .ref 67), (1, .int (nI j))] [] (mm B (x.wk j k.1.1.1.1 m) y)) := by
        intro m y D hm hk hc hy hl0 hl1
        obtain ⟨y1, p1, z1, k1⟩ := q_hashF (d := d + 4) (B := B) (x := x.wk j k.1.1.1.1 m) (h.wk j k.1.1.1.1 m) hy hG.i1 (Or.inr hG.s1) (by have := hG.v1; omega)
        have hsp : nI (tm_ix T.1 (7 :: oBy ms (some nm))) = sg_party T ms := by unfold sg_party; rw [hG.m1]
        rw [hsp] at p1
        unfold sg_end
        have A := sn_all (d := d) (B := B) (x := x) (y := y1) h hcb hx hj hm hk hI hc z1 hT8 hT hO hG hl0 hl1 hlp
        have L := sn_list (d := d) (B := B) (x := x) (y := y1) h hcb hx hj hm hk hI hc z1 hT8 hT hO hG hl0 hl1 hlp
        cases h3 : mem ms 3 with
        | none =>
          rw [show oVn ms none = 0 from rfl, if_pos rfl]
          refine A.of (fun r hr => ?_)
          rw [h3] at hr
          rw [show oP none = -1 from rfl] at hr ⊢
          generalize sg_party T ms = pa at *
          generalize oP (mem ms 7) = v7 at *
          generalize oP (mem ms 6) = v6 at *
          generalize oP (mem ms 5) = v5 at *
          clear L A
          simp (disch := (first | omega | decide)) [S_cb_mmade4_0, S_bx_mcan1_0, S_b8_mkey_1, S_b8_mkey_0, S_b1_mterm_0, S_b1_copy_0, S_b0_mod_7, S_b0_mod_6, S_b0_mod_5, S_b0_mod_3, S_b0_mod_2, S_b0_mod_1, S_b0_mod_0, S_cb_mmade4_1h, S_bx_mcan1_1h, S_b0_mod_4h, s322_0, s322_1, s322_2, s322_3, s322_6, s322_7, s322_8, s322_9, s322_10, s322_13, s322_14, s322_15, s322_16, s322_17, s322_20, s322_22, s322_23, s322_24, s322_25, s322_28, s322_30, s322_31, s322_32, s322_34, s322_37, s322_39, s322_40, s322_41, s322_43, s322_46, s322_48, s322_49, s322_50, s322_51, s322_54, s322_57, s322_58, s322_59, s322_60, s322_63, s322_66, s322_67, s322_69, s322_70, s322_73, s322_76, s322_77, s322_79, s322_80, s322_83, s322_86, s322_87, s322_89, s322_90, s322_93, s322_96, s322_97, s322_100, s322_101, s322_103, s322_105, s322_108, s322_110, s322_111, s322_114, s322_115, s322_117, s322_120, s322_122, s322_125, s322_128, s322_129, s322_131, s322_134, s322_136, s322_139, s322_142, s322_143, s322_146, s322_147, s322_149, s322_151, s322_154, s322_155, s322_157, s322_158, s322_161, s322_164, s322_166, s322_167, s322_168, s322_169, s322_172, s322_173, s322_174, s322_177, s322_178, s322_180, s322_181, s322_184, s322_187, s322_189, s322_190, s322_191, s322_192, s322_193, s322_195, s322_198, s322_201, s322_202, s322_203, s322_206, s322_209, s322_210, s322_211, s322_212, s322_214, s322_217, s322_220, s322_223, s322_225, s322_226, s322_228, s322_229, s322_232, s322_233, s322_234, s322_236, s322_238, s322_239, s322_242, s322_245, s322_246, s322_248, s322_250, s322_253, s322_255, s322_256, s322_257, s322_258, s322_259, s322_262, s322_264, s322_266, s322_267, s322_270, s322_271, s322_273, s322_276, s322_279, s322_280, s322_283, s322_284, s322_286, s322_287, s322_289, s322_290, s322_292, s322_293, s322_297, s322_300, s322_301, s322_302, s322_304, s322_306, s322_309, s322_311, s322_313, s322_314, s322_317, s322_319, s322_320, s322_321, s322_323, s322_326, s322_328, s322_329, s322_330, s322_332, s322_334, s322_337, s322_339, s322_342, s322_343, s322_346, s322_347, s322_348, s322_349, s322_350, s322_352, s322_354, s322_357, s322_359, s322_362, s322_363, s322_366, s322_368, s322_369, s322_370, s322_372, s322_373, s322_374, s322_376, s322_379, s322_381, s322_384, s322_385, s322_388, s322_390, s322_391, s322_392, s322_394, s322_395, s322_396, s322_397, s322_399, s322_400, s322_402, s322_405, s322_407, s322_410, s322_412, s322_414, s322_417, s322_420, s322_423, s322_425, s322_428, s322_430, s322_431, s322_432, s322_435, s322_437, s322_438, s322_439, s322_441, s322_442, s322_443, s322_445, s322_446, s322_448, s322_451, s322_454, s322_457, s322_458, s322_461, s322_462, s322_464, s322_466, s322_469, s322_470, s322_471, s322_474, s322_477, s322_479, s322_480, s322_482, s322_485, s322_486, s322_489, s322_490, s322_492, s322_493, s322_496, s322_497, s322_500, s322_501, s322_502, s322_504, s322_505, s322_506, s322_509, s322_511, s322_512, s322_513, s322_515, s322_517, s322_519, s322_521, s322_523, s322_525, s322_528, s322_529, s322_532, s322_533, s322_535, s322_538, s322_540, s322_542, s322_545, s322_547, s322_548, s322_551, s322_552, s322_555, s322_556, s322_558, s322_559, s322_560, s322_561, s322_562, s322_565, s322_566, s322_567, s322_568, s322_569, s322_572, s322_573, s322_575, s322_576, s322_577, s322_580, s322_581, s322_583, s322_584, s322_586, mq_k0s, mq_k1s, mq_k2s, mq_k4s, mq_k5s, mq_k5n, mq_k5as, mq_k6s, mj_pu, mj_lo, mj_br, mj_hr, mj_hw, mq_gf, mq_len, mq_al, mq_pf, mq_ok, mj_re, mq_lkm, mq_lkn, mj_ldi, mj_ldl, mj_lda, mj_ii, mj_ll, mj_li, mj_i1, ms_1, ms_2, f1_n, f1_i, f1_r, f1_u, f1_l, f2_n, f2_i, f2_r, f2_u, f2_l, mj_tg, mj_c1, mj_c2, mj_ar, mj_aw, mq_cb, mq_oi, mj_rm, Value.category, -getElem?_pos, List.getElem?_cons_zero, decide_eq_true, decide_eq_false, nl_lt, nl_le, ln_lt, ln_le, nl_eq, ln_eq, nl_add, ln_add, nl_sub, ln_mul, nI_sub, nI_mul, nI_add, nI_lt_iff, nI_le_iff, nI_inj, nI_num, mq_ix, nI_1, nl_mul, nl_div, p1]
          refine mq_wk ?_ hr
          simp [S_cb_mmade4_0, S_bx_mcan1_0, S_b8_mkey_1, S_b8_mkey_0, S_b1_mterm_0, S_b1_copy_0, S_b0_mod_7, S_b0_mod_6, S_b0_mod_5, S_b0_mod_3, S_b0_mod_2, S_b0_mod_1, S_b0_mod_0, S_cb_mmade4_1h, S_bx_mcan1_1h, S_b0_mod_4h, mq_sub, mj_lk]
        | some q =>
          have iq := J 3 q h3
          have hq9 := Io.l9 h iq
          have hdq := (cbOk_hd.mp iq.ok).1
          have hV := hdq.2.2.2.2.2.1
          have rn := q_numberAt (d := d + 5) (B := B) (x := x.wk j k.1.1.1.1 m) (y := y1) (h.wk j k.1.1.1.1 m) hdq.1 hdq.2.2.2.1
          rw [show oVn ms (some q) = cbV ms q from rfl]
          by_cases hv : cbV ms q = 0
          · rw [if_pos hv]
            rw [hv, nI_0] at rn
            refine A.of (fun r hr => ?_)
            rw [h3] at hr
            rw [show oP (some q) = nI q from rfl] at hr ⊢
            generalize sg_party T ms = pa at *
            generalize oP (mem ms 7) = v7 at *
            generalize oP (mem ms 6) = v6 at *
            generalize oP (mem ms 5) = v5 at *
            clear L A
            simp (disch := (first | omega | decide)) [S_cb_mmade4_0, S_bx_mcan1_0, S_b8_mkey_1, S_b8_mkey_0, S_b1_mterm_0, S_b1_copy_0, S_b0_mod_7, S_b0_mod_6, S_b0_mod_5, S_b0_mod_3, S_b0_mod_2, S_b0_mod_1, S_b0_mod_0, S_cb_mmade4_1h, S_bx_mcan1_1h, S_b0_mod_4h, s322_0, s322_1, s322_2, s322_3, s322_6, s322_7, s322_8, s322_9, s322_10, s322_13, s322_14, s322_15, s322_16, s322_17, s322_20, s322_22, s322_23, s322_24, s322_25, s322_28, s322_30, s322_31, s322_32, s322_34, s322_37, s322_39, s322_40, s322_41, s322_43, s322_46, s322_48, s322_49, s322_50, s322_51, s322_54, s322_57, s322_58, s322_59, s322_60, s322_63, s322_66, s322_67, s322_69, s322_70, s322_73, s322_76, s322_77, s322_79, s322_80, s322_83, s322_86, s322_87, s322_89, s322_90, s322_93, s322_96, s322_97, s322_100, s322_101, s322_103, s322_105, s322_108, s322_110, s322_111, s322_114, s322_115, s322_117, s322_120, s322_122, s322_125, s322_128, s322_129, s322_131, s322_134, s322_136, s322_139, s322_142, s322_143, s322_146, s322_147, s322_149, s322_151, s322_154, s322_155, s322_157, s322_158, s322_161, s322_164, s322_166, s322_167, s322_168, s322_169, s322_172, s322_173, s322_174, s322_177, s322_178, s322_180, s322_181, s322_184, s322_187, s322_189, s322_190, s322_191, s322_192, s322_193, s322_195, s322_198, s322_201, s322_202, s322_203, s322_206, s322_209, s322_210, s322_211, s322_212, s322_214, s322_217, s322_220, s322_223, s322_225, s322_226, s322_228, s322_229, s322_232, s322_233, s322_234, s322_236, s322_238, s322_239, s322_242, s322_245, s322_246, s322_248, s322_250, s322_253, s322_255, s322_256, s322_257, s322_258, s322_259, s322_262, s322_264, s322_266, s322_267, s322_270, s322_271, s322_273, s322_276, s322_279, s322_280, s322_283, s322_284, s322_286, s322_287, s322_289, s322_290, s322_292, s322_293, s322_297, s322_300, s322_301, s322_302, s322_304, s322_306, s322_309, s322_311, s322_313, s322_314, s322_317, s322_319, s322_320, s322_321, s322_323, s322_326, s322_328, s322_329, s322_330, s322_332, s322_334, s322_337, s322_339, s322_342, s322_343, s322_346, s322_347, s322_348, s322_349, s322_350, s322_352, s322_354, s322_357, s322_359, s322_362, s322_363, s322_366, s322_368, s322_369, s322_370, s322_372, s322_373, s322_374, s322_376, s322_379, s322_381, s322_384, s322_385, s322_388, s322_390, s322_391, s322_392, s322_394, s322_395, s322_396, s322_397, s322_399, s322_400, s322_402, s322_405, s322_407, s322_410, s322_412, s322_414, s322_417, s322_420, s322_423, s322_425, s322_428, s322_430, s322_431, s322_432, s322_435, s322_437, s322_438, s322_439, s322_441, s322_442, s322_443, s322_445, s322_446, s322_448, s322_451, s322_454, s322_457, s322_458, s322_461, s322_462, s322_464, s322_466, s322_469, s322_470, s322_471, s322_474, s322_477, s322_479, s322_480, s322_482, s322_485, s322_486, s322_489, s322_490, s322_492, s322_493, s322_496, s322_497, s322_500, s322_501, s322_502, s322_504, s322_505, s322_506, s322_509, s322_511, s322_512, s322_513, s322_515, s322_517, s322_519, s322_521, s322_523, s322_525, s322_528, s322_529, s322_532, s322_533, s322_535, s322_538, s322_540, s322_542, s322_545, s322_547, s322_548, s322_551, s322_552, s322_555, s322_556, s322_558, s322_559, s322_560, s322_561, s322_562, s322_565, s322_566, s322_567, s322_568, s322_569, s322_572, s322_573, s322_575, s322_576, s322_577, s322_580, s322_581, s322_583, s322_584, s322_586, mq_k0s, mq_k1s, mq_k2s, mq_k4s, mq_k5s, mq_k5n, mq_k5as, mq_k6s, mj_pu, mj_lo, mj_br, mj_hr, mj_hw, mq_gf, mq_len, mq_al, mq_pf, mq_ok, mj_re, mq_lkm, mq_lkn, mj_ldi, mj_ldl, mj_lda, mj_ii, mj_ll, mj_li, mj_i1, ms_1, ms_2, f1_n, f1_i, f1_r, f1_u, f1_l, f2_n, f2_i, f2_r, f2_u, f2_l, mj_tg, mj_c1, mj_c2, mj_ar, mj_aw, mq_cb, mq_oi, mj_rm, Value.category, -getElem?_pos, List.getElem?_cons_zero, decide_eq_true, decide_eq_false, nl_lt, nl_le, ln_lt, ln_le, nl_eq, ln_eq, nl_add, ln_add, nl_sub, ln_mul, nI_sub, nI_mul, nI_add, nI_lt_iff, nI_le_iff, nI_inj, nI_num, mq_ix, nI_1, nl_mul, nl_div, p1, hq9.2, rn]
            refine mq_wk ?_ hr
            simp [S_cb_mmade4_0, S_bx_mcan1_0, S_b8_mkey_1, S_b8_mkey_0, S_b1_mterm_0, S_b1_copy_0, S_b0_mod_7, S_b0_mod_6, S_b0_mod_5, S_b0_mod_3, S_b0_mod_2, S_b0_mod_1, S_b0_mod_0, S_cb_mmade4_1h, S_bx_mcan1_1h, S_b0_mod_4h, mq_sub, mj_lk]
          · rw [if_neg hv]
            refine L.of (fun r hr => ?_)
            rw [h3] at hr
            rw [show oP (some q) = nI q from rfl] at hr ⊢
            generalize sg_party T ms = pa at *
            generalize oP (mem ms 7) = v7 at *
            generalize oP (mem ms 6) = v6 at *
            generalize oP (mem ms 5) = v5 at *
            clear L A
            simp (disch := (first | omega | decide)) [S_cb_mmade4_0, S_bx_mcan1_0, S_b8_mkey_1, S_b8_mkey_0, S_b1_mterm_0, S_b1_copy_0, S_b0_mod_7, S_b0_mod_6, S_b0_mod_5, S_b0_mod_3, S_b0_mod_2, S_b0_mod_1, S_b0_mod_0, S_cb_mmade4_1h, S_bx_mcan1_1h, S_b0_mod_4h, s322_0, s322_1, s322_2, s322_3, s322_6, s322_7, s322_8, s322_9, s322_10, s322_13, s322_14, s322_15, s322_16, s322_17, s322_20, s322_22, s322_23, s322_24, s322_25, s322_28, s322_30, s322_31, s322_32, s322_34, s322_37, s322_39, s322_40, s322_41, s322_43, s322_46, s322_48, s322_49, s322_50, s322_51, s322_54, s322_57, s322_58, s322_59, s322_60, s322_63, s322_66, s322_67, s322_69, s322_70, s322_73, s322_76, s322_77, s322_79, s322_80, s322_83, s322_86, s322_87, s322_89, s322_90, s322_93, s322_96, s322_97, s322_100, s322_101, s322_103, s322_105, s322_108, s322_110, s322_111, s322_114, s322_115, s322_117, s322_120, s322_122, s322_125, s322_128, s322_129, s322_131, s322_134, s322_136, s322_139, s322_142, s322_143, s322_146, s322_147, s322_149, s322_151, s322_154, s322_155, s322_157, s322_158, s322_161, s322_164, s322_166, s322_167, s322_168, s322_169, s322_172, s322_173, s322_174, s322_177, s322_178, s322_180, s322_181, s322_184, s322_187, s322_189, s322_190, s322_191, s322_192, s322_193, s322_195, s322_198, s322_201, s322_202, s322_203, s322_206, s322_209, s322_210, s322_211, s322_212, s322_214, s322_217, s322_220, s322_223, s322_225, s322_226, s322_228, s322_229, s322_232, s322_233, s322_234, s322_236, s322_238, s322_239, s322_242, s322_245, s322_246, s322_248, s322_250, s322_253, s322_255, s322_256, s322_257, s322_258, s322_259, s322_262, s322_264, s322_266, s322_267, s322_270, s322_271, s322_273, s322_276, s322_279, s322_280, s322_283, s322_284, s322_286, s322_287, s322_289, s322_290, s322_292, s322_293, s322_297, s322_300, s322_301, s322_302, s322_304, s322_306, s322_309, s322_311, s322_313, s322_314, s322_317, s322_319, s322_320, s322_321, s322_323, s322_326, s322_328, s322_329, s322_330, s322_332, s322_334, s322_337, s322_339, s322_342, s322_343, s322_346, s322_347, s322_348, s322_349, s322_350, s322_352, s322_354, s322_357, s322_359, s322_362, s322_363, s322_366, s322_368, s322_369, s322_370, s322_372, s322_373, s322_374, s322_376, s322_379, s322_381, s322_384, s322_385, s322_388, s322_390, s322_391, s322_392, s322_394, s322_395, s322_396, s322_397, s322_399, s322_400, s322_402, s322_405, s322_407, s322_410, s322_412, s322_414, s322_417, s322_420, s322_423, s322_425, s322_428, s322_430, s322_431, s322_432, s322_435, s322_437, s322_438, s322_439, s322_441, s322_442, s322_443, s322_445, s322_446, s322_448, s322_451, s322_454, s322_457, s322_458, s322_461, s322_462, s322_464, s322_466, s322_469, s322_470, s322_471, s322_474, s322_477, s322_479, s322_480, s322_482, s322_485, s322_486, s322_489, s322_490, s322_492, s322_493, s322_496, s322_497, s322_500, s322_501, s322_502, s322_504, s322_505, s322_506, s322_509, s322_511, s322_512, s322_513, s322_515, s322_517, s322_519, s322_521, s322_523, s322_525, s322_528, s322_529, s322_532, s322_533, s322_535, s322_538, s322_540, s322_542, s322_545, s322_547, s322_548, s322_551, s322_552, s322_555, s322_556, s322_558, s322_559, s322_560, s322_561, s322_562, s322_565, s322_566, s322_567, s322_568, s322_569, s322_572, s322_573, s322_575, s322_576, s322_577, s322_580, s322_581, s322_583, s322_584, s322_586, mq_k0s, mq_k1s, mq_k2s, mq_k4s, mq_k5s, mq_k5n, mq_k5as, mq_k6s, mj_pu, mj_lo, mj_br, mj_hr, mj_hw, mq_gf, mq_len, mq_al, mq_pf, mq_ok, mj_re, mq_lkm, mq_lkn, mj_ldi, mj_ldl, mj_lda, mj_ii, mj_ll, mj_li, mj_i1, ms_1, ms_2, f1_n, f1_i, f1_r, f1_u, f1_l, f2_n, f2_i, f2_r, f2_u, f2_l, mj_tg, mj_c1, mj_c2, mj_ar, mj_aw, mq_cb, mq_oi, mj_rm, Value.category, -getElem?_pos, List.getElem?_cons_zero, decide_eq_true, decide_eq_false, nl_lt, nl_le, ln_lt, ln_le, nl_eq, ln_eq, nl_add, ln_add, nl_sub, ln_mul, nI_sub, nI_mul, nI_add, nI_lt_iff, nI_le_iff, nI_inj, nI_num, mq_ix, nI_1, nl_mul, nl_div, p1, hq9.2, rn, hv, show ¬ cbV ms q ≤ 0 by omega]
            refine mq_wk ?_ hr
            simp [S_cb_mmade4_0, S_bx_mcan1_0, S_b8_mkey_1, S_b8_mkey_0, S_b1_mterm_0, S_b1_copy_0, S_b0_mod_7, S_b0_mod_6, S_b0_mod_5, S_b0_mod_3, S_b0_mod_2, S_b0_mod_1, S_b0_mod_0, S_cb_mmade4_1h, S_bx_mcan1_1h, S_b0_mod_4h, mq_sub, mj_lk]
      cases h6 : mem ms 6 with
      | none =>
        have em : sg_pin ms k T = (0, k) := by unfold sg_pin; rw [if_pos h6]
        rw [em]
        dsimp only
        rw [if_neg (fun z => z rfl)]
        refine (late m y D hm hk hc hy hl0 hl1).of (fun r hr => F2 _ ?_)
        rw [h6] at hr ⊢
        rw [show oP none = -1 from rfl] at hr ⊢
        generalize oP (mem ms 7) = v7 at *
        generalize oP (mem ms 5) = v5 at *
        generalize oP (mem ms 3) = v3 at *
        simp (disch := (first | omega | decide)) [S_cb_mmade4_0, S_bx_mcan1_0, S_b8_mkey_1, S_b8_mkey_0, S_b1_mterm_0, S_b1_copy_0, S_b0_mod_7, S_b0_mod_6, S_b0_mod_5, S_b0_mod_3, S_b0_mod_2, S_b0_mod_1, S_b0_mod_0, S_cb_mmade4_1h, S_bx_mcan1_1h, S_b0_mod_4h, s322_0, s322_1, s322_2, s322_3, s322_6, s322_7, s322_8, s322_9, s322_10, s322_13, s322_14, s322_15, s322_16, s322_17, s322_20, s322_22, s322_23, s322_24, s322_25, s322_28, s322_30, s322_31, s322_32, s322_34, s322_37, s322_39, s322_40, s322_41, s322_43, s322_46, s322_48, s322_49, s322_50, s322_51, s322_54, s322_57, s322_58, s322_59, s322_60, s322_63, s322_66, s322_67, s322_69, s322_70, s322_73, s322_76, s322_77, s322_79, s322_80, s322_83, s322_86, s322_87, s322_89, s322_90, s322_93, s322_96, s322_97, s322_100, s322_101, s322_103, s322_105, s322_108, s322_110, s322_111, s322_114, s322_115, s322_117, s322_120, s322_122, s322_125, s322_128, s322_129, s322_131, s322_134, s322_136, s322_139, s322_142, s322_143, s322_146, s322_147, s322_149, s322_151, s322_154, s322_155, s322_157, s322_158, s322_161, s322_164, s322_166, s322_167, s322_168, s322_169, s322_172, s322_173, s322_174, s322_177, s322_178, s322_180, s322_181, s322_184, s322_187, s322_189, s322_190, s322_191, s322_192, s322_193, s322_195, s322_198, s322_201, s322_202, s322_203, s322_206, s322_209, s322_210, s322_211, s322_212, s322_214, s322_217, s322_220, s322_223, s322_225, s322_226, s322_228, s322_229, s322_232, s322_233, s322_234, s322_236, s322_238, s322_239, s322_242, s322_245, s322_246, s322_248, s322_250, s322_253, s322_255, s322_257, s322_258, s322_259, s322_262, s322_264, s322_266, s322_267, s322_270, s322_271, s322_273, s322_276, s322_279, s322_280, s322_283, s322_284, s322_286, s322_287, s322_289, s322_290, s322_292, s322_293, s322_295, s322_297, s322_300, s322_301, s322_302, s322_304, s322_306, s322_309, s322_311, s322_313, s322_314, s322_317, s322_319, s322_320, s322_321, s322_323, s322_326, s322_328, s322_329, s322_330, s322_332, s322_334, s322_337, s322_339, s322_342, s322_343, s322_346, s322_347, s322_348, s322_349, s322_350, s322_352, s322_354, s322_357, s322_359, s322_362, s322_363, s322_366, s322_368, s322_369, s322_370, s322_372, s322_373, s322_374, s322_376, s322_379, s322_381, s322_384, s322_385, s322_388, s322_390, s322_391, s322_392, s322_394, s322_395, s322_396, s322_397, s322_399, s322_400, s322_402, s322_405, s322_407, s322_410, s322_412, s322_414, s322_417, s322_420, s322_423, s322_425, s322_428, s322_430, s322_431, s322_432, s322_435, s322_437, s322_438, s322_439, s322_441, s322_442, s322_443, s322_445, s322_446, s322_448, s322_451, s322_454, s322_457, s322_458, s322_461, s322_462, s322_464, s322_466, s322_469, s322_470, s322_471, s322_474, s322_477, s322_479, s322_480, s322_482, s322_485, s322_486, s322_489, s322_490, s322_492, s322_493, s322_496, s322_497, s322_500, s322_501, s322_502, s322_504, s322_505, s322_506, s322_509, s322_511, s322_512, s322_513, s322_515, s322_517, s322_519, s322_521, s322_523, s322_525, s322_528, s322_529, s322_532, s322_533, s322_535, s322_538, s322_540, s322_542, s322_545, s322_547, s322_548, s322_551, s322_552, s322_555, s322_556, s322_558, s322_559, s322_560, s322_561, s322_562, s322_565, s322_566, s322_567, s322_568, s322_569, s322_572, s322_573, s322_575, s322_576, s322_577, s322_580, s322_581, s322_583, s322_584, s322_586, mq_k0s, mq_k1s, mq_k2s, mq_k4s, mq_k5s, mq_k5n, mq_k5as, mq_k6s, mj_pu, mj_lo, mj_br, mj_hr, mj_hw, mq_gf, mq_len, mq_al, mq_pf, mq_ok, mj_re, mq_lkm, mq_lkn, mj_ldi, mj_ldl, mj_lda, mj_ii, mj_ll, mj_li, mj_i1, ms_1, ms_2, f1_n, f1_i, f1_r, f1_u, f1_l, f2_n, f2_i, f2_r, f2_u, f2_l, mj_tg, mj_c1, mj_c2, mj_ar, mj_aw, mq_cb, mq_oi, mj_rm, Value.category, -getElem?_pos, List.getElem?_cons_zero, decide_eq_true, decide_eq_false, nl_lt, nl_le, ln_lt, ln_le, nl_eq, ln_eq, nl_add, ln_add, nl_sub, ln_mul, nI_sub, nI_mul, nI_add, nI_lt_iff, nI_le_iff, nI_inj, nI_num, mq_ix, nI_1, nl_mul, nl_div, rt]
        refine mq_wk ?_ hr
        simp [S_cb_mmade4_0, S_bx_mcan1_0, S_b8_mkey_1, S_b8_mkey_0, S_b1_mterm_0, S_b1_copy_0, S_b0_mod_7, S_b0_mod_6, S_b0_mod_5, S_b0_mod_3, S_b0_mod_2, S_b0_mod_1, S_b0_mod_0, S_cb_mmade4_1h, S_bx_mcan1_1h, S_b0_mod_4h, mq_sub, mj_lk]
      | some p =>
        have i6 := J 6 p h6
        have s6 := fit_s hG.f6 (by omega) p h6
        have hp9 := Io.l9 h i6
        obtain ⟨m1, y1, D1, t1, z1, k1, p1⟩ := q_pinTest (d := d + 3) (B := B) (x := x) (y := y) h hx hj hm hk hI.w9 hy i6 s6 (J 7) hG.i2 hG.s2 hG.v2
        have em : sg_pin ms k T = pnTest k T ms (some p) (mem ms 7) (o4 ms (some hs)) := by
          unfold sg_pin
          rw [if_neg (by rw [h6]; simp [S_cb_mmade4_0, S_bx_mcan1_0, S_b8_mkey_1, S_b8_mkey_0, S_b1_mterm_0, S_b1_copy_0, S_b0_mod_7, S_b0_mod_6, S_b0_mod_5, S_b0_mod_3, S_b0_mod_2, S_b0_mod_1, S_b0_mod_0, S_cb_mmade4_1h, S_bx_mcan1_1h, S_b0_mod_4h]), h6, hG.m2]
        rw [em]
        by_cases hz : (pnTest k T ms (some p) (mem ms 7) (o4 ms (some hs))).1 = 0
        · rw [if_neg (fun z => z hz)]
          rw [pn_same hz] at t1
          have em1 := t1.same
          subst em1
          rw [hz] at p1
          refine (late m1 y1 D1 hm hk hc z1 hl0 hl1).of (fun r hr => F2 _ ?_)
          rw [h6] at hr ⊢
          rw [show oP (some p) = nI p from rfl] at hr ⊢
          generalize oP (mem ms 7) = v7 at *
          generalize oP (mem ms 5) = v5 at *
          generalize oP (mem ms 3) = v3 at *
          simp (disch := (first | omega | decide)) [S_cb_mmade4_0, S_bx_mcan1_0, S_b8_mkey_1, S_b8_mkey_0, S_b1_mterm_0, S_b1_copy_0, S_b0_mod_7, S_b0_mod_6, S_b0_mod_5, S_b0_mod_3, S_b0_mod_2, S_b0_mod_1, S_b0_mod_0, S_cb_mmade4_1h, S_bx_mcan1_1h, S_b0_mod_4h, s322_0, s322_1, s322_2, s322_3, s322_6, s322_7, s322_8, s322_9, s322_10, s322_13, s322_14, s322_15, s322_16, s322_17, s322_20, s322_22, s322_23, s322_24, s322_25, s322_28, s322_30, s322_31, s322_32, s322_34, s322_37, s322_39, s322_40, s322_41, s322_43, s322_46, s322_48, s322_49, s322_50, s322_51, s322_54, s322_57, s322_58, s322_59, s322_60, s322_63, s322_66, s322_67, s322_69, s322_70, s322_73, s322_76, s322_77, s322_79, s322_80, s322_83, s322_86, s322_87, s322_89, s322_90, s322_93, s322_96, s322_97, s322_100, s322_101, s322_103, s322_105, s322_108, s322_110, s322_111, s322_114, s322_115, s322_117, s322_120, s322_122, s322_125, s322_128, s322_129, s322_131, s322_134, s322_136, s322_139, s322_142, s322_143, s322_146, s322_147, s322_149, s322_151, s322_154, s322_155, s322_157, s322_158, s322_161, s322_164, s322_166, s322_167, s322_168, s322_169, s322_172, s322_173, s322_174, s322_177, s322_178, s322_180, s322_181, s322_184, s322_187, s322_189, s322_190, s322_191, s322_192, s322_193, s322_195, s322_198, s322_201, s322_202, s322_203, s322_206, s322_209, s322_210, s322_211, s322_212, s322_214, s322_217, s322_220, s322_223, s322_225, s322_226, s322_228, s322_229, s322_232, s322_233, s322_234, s322_236, s322_238, s322_239, s322_242, s322_245, s322_246, s322_248, s322_250, s322_253, s322_255, s322_257, s322_258, s322_259, s322_262, s322_264, s322_266, s322_267, s322_270, s322_271, s322_273, s322_276, s322_279, s322_280, s322_283, s322_284, s322_286, s322_287, s322_289, s322_290, s322_292, s322_293, s322_295, s322_297, s322_300, s322_301, s322_302, s322_304, s322_306, s322_309, s322_311, s322_313, s322_314, s322_317, s322_319, s322_320, s322_321, s322_323, s322_326, s322_328, s322_329, s322_330, s322_332, s322_334, s322_337, s322_339, s322_342, s322_343, s322_346, s322_347, s322_348, s322_349, s322_350, s322_352, s322_354, s322_357, s322_359, s322_362, s322_363, s322_366, s322_368, s322_369, s322_370, s322_372, s322_373, s322_374, s322_376, s322_379, s322_381, s322_384, s322_385, s322_388, s322_390, s322_391, s322_392, s322_394, s322_395, s322_396, s322_397, s322_399, s322_400, s322_402, s322_405, s322_407, s322_410, s322_412, s322_414, s322_417, s322_420, s322_423, s322_425, s322_428, s322_430, s322_431, s322_432, s322_435, s322_437, s322_438, s322_439, s322_441, s322_442, s322_443, s322_445, s322_446, s322_448, s322_451, s322_454, s322_457, s322_458, s322_461, s322_462, s322_464, s322_466, s322_469, s322_470, s322_471, s322_474, s322_477, s322_479, s322_480, s322_482, s322_485, s322_486, s322_489, s322_490, s322_492, s322_493, s322_496, s322_497, s322_500, s322_501, s322_502, s322_504, s322_505, s322_506, s322_509, s322_511, s322_512, s322_513, s322_515, s322_517, s322_519, s322_521, s322_523, s322_525, s322_528, s322_529, s322_532, s322_533, s322_535, s322_538, s322_540, s322_542, s322_545, s322_547, s322_548, s322_551, s322_552, s322_555, s322_556, s322_558, s322_559, s322_560, s322_561, s322_562, s322_565, s322_566, s322_567, s322_568, s322_569, s322_572, s322_573, s322_575, s322_576, s322_577, s322_580, s322_581, s322_583, s322_584, s322_586, mq_k0s, mq_k1s, mq_k2s, mq_k4s, mq_k5s, mq_k5n, mq_k5as, mq_k6s, mj_pu, mj_lo, mj_br, mj_hr, mj_hw, mq_gf, mq_len, mq_al, mq_pf, mq_ok, mj_re, mq_lkm, mq_lkn, mj_ldi, mj_ldl, mj_lda, mj_ii, mj_ll, mj_li, mj_i1, ms_1, ms_2, f1_n, f1_i, f1_r, f1_u, f1_l, f2_n, f2_i, f2_r, f2_u, f2_l, mj_tg, mj_c1, mj_c2, mj_ar, mj_aw, mq_cb, mq_oi, mj_rm, Value.category, -getElem?_pos, List.getElem?_cons_zero, decide_eq_true, decide_eq_false, nl_lt, nl_le, ln_lt, ln_le, nl_eq, ln_eq, nl_add, ln_add, nl_sub, ln_mul, nI_sub, nI_mul, nI_add, nI_lt_iff, nI_le_iff, nI_inj, nI_num, mq_ix, nI_1, nl_mul, nl_div, rt, hp9.2, p1]
          refine mq_wk ?_ hr
          simp [S_cb_mmade4_0, S_bx_mcan1_0, S_b8_mkey_1, S_b8_mkey_0, S_b1_mterm_0, S_b1_copy_0, S_b0_mod_7, S_b0_mod_6, S_b0_mod_5, S_b0_mod_3, S_b0_mod_2, S_b0_mod_1, S_b0_mod_0, S_cb_mmade4_1h, S_bx_mcan1_1h, S_b0_mod_4h, mq_sub, mj_lk]
        · rw [if_pos hz]
          have es := t1.s
          have e1 : (ml m1).1 = (ml m).1 := by rw [t1.ml]
          have e2 : (ml m1).2.1 = (ml m).2.1 := by rw [t1.ml]
          have e3 : (ml m1).2.2.2.2.1 = (ml m).2.2.2.2.1 := by rw [t1.ml]
          refine kP.no (m' := m1) (y' := y1) (D' := D1) (F2 _ ?_) (t1.wm hm) (t1.kr hk) (by rw [es]; exact t1.cF hc) z1 e3 (lr.z (by rw [t1.rep.2]; exact hlp) (e1.trans hl0) (e2.trans hl1)) hz
          rw [es, h6]
          rw [show oP (some p) = nI p from rfl]
          generalize (pnTest k T ms (some p) (mem ms 7) (o4 ms (some hs))).1 = tv at *
          generalize oP (mem ms 7) = v7 at *
          generalize oP (mem ms 5) = v5 at *
          generalize oP (mem ms 3) = v3 at *
          simp (disch := (first | omega | decide)) [S_cb_mmade4_0, S_bx_mcan1_0, S_b8_mkey_1, S_b8_mkey_0, S_b1_mterm_0, S_b1_copy_0, S_b0_mod_7, S_b0_mod_6, S_b0_mod_5, S_b0_mod_3, S_b0_mod_2, S_b0_mod_1, S_b0_mod_0, S_cb_mmade4_1h, S_bx_mcan1_1h, S_b0_mod_4h, s322_0, s322_1, s322_2, s322_3, s322_6, s322_7, s322_8, s322_9, s322_10, s322_13, s322_14, s322_15, s322_16, s322_17, s322_20, s322_22, s322_23, s322_24, s322_25, s322_28, s322_30, s322_31, s322_32, s322_34, s322_37, s322_39, s322_40, s322_41, s322_43, s322_46, s322_48, s322_49, s322_50, s322_51, s322_54, s322_57, s322_58, s322_59, s322_60, s322_63, s322_66, s322_67, s322_69, s322_70, s322_73, s322_76, s322_77, s322_79, s322_80, s322_83, s322_86, s322_87, s322_89, s322_90, s322_93, s322_96, s322_97, s322_100, s322_101, s322_103, s322_105, s322_108, s322_110, s322_111, s322_114, s322_115, s322_117, s322_120, s322_122, s322_125, s322_128, s322_129, s322_131, s322_134, s322_136, s322_139, s322_142, s322_143, s322_146, s322_147, s322_149, s322_151, s322_154, s322_155, s322_157, s322_158, s322_161, s322_164, s322_166, s322_167, s322_168, s322_169, s322_172, s322_173, s322_174, s322_177, s322_178, s322_180, s322_181, s322_184, s322_187, s322_189, s322_190, s322_191, s322_192, s322_193, s322_195, s322_198, s322_201, s322_202, s322_203, s322_206, s322_209, s322_210, s322_211, s322_212, s322_214, s322_217, s322_220, s322_223, s322_225, s322_226, s322_228, s322_229, s322_232, s322_233, s322_234, s322_236, s322_238, s322_239, s322_242, s322_245, s322_246, s322_248, s322_250, s322_253, s322_255, s322_257, s322_258, s322_259, s322_262, s322_264, s322_266, s322_267, s322_270, s322_271, s322_273, s322_276, s322_279, s322_280, s322_283, s322_284, s322_286, s322_287, s322_289, s322_290, s322_292, s322_293, s322_295, s322_297, s322_300, s322_301, s322_302, s322_304, s322_306, s322_309, s322_311, s322_313, s322_314, s322_317, s322_319, s322_320, s322_321, s322_323, s322_326, s322_328, s322_329, s322_330, s322_332, s322_334, s322_337, s322_339, s322_342, s322_343, s322_346, s322_347, s322_348, s322_349, s322_350, s322_352, s322_354, s322_357, s322_359, s322_362, s322_363, s322_366, s322_368, s322_369, s322_370, s322_372, s322_373, s322_374, s322_376, s322_379, s322_381, s322_384, s322_385, s322_388, s322_390, s322_391, s322_392, s322_394, s322_395, s322_396, s322_397, s322_399, s322_400, s322_402, s322_405, s322_407, s322_410, s322_412, s322_414, s322_417, s322_420, s322_423, s322_425, s322_428, s322_430, s322_431, s322_432, s322_435, s322_437, s322_438, s322_439, s322_441, s322_442, s322_443, s322_445, s322_446, s322_448, s322_451, s322_454, s322_457, s322_458, s322_461, s322_462, s322_464, s322_466, s322_469, s322_470, s322_471, s322_474, s322_477, s322_479, s322_480, s322_482, s322_485, s322_486, s322_489, s322_490, s322_492, s322_493, s322_496, s322_497, s322_500, s322_501, s322_502, s322_504, s322_505, s322_506, s322_509, s322_511, s322_512, s322_513, s322_515, s322_517, s322_519, s322_521, s322_523, s322_525, s322_528, s322_529, s322_532, s322_533, s322_535, s322_538, s322_540, s322_542, s322_545, s322_547, s322_548, s322_551, s322_552, s322_555, s322_556, s322_558, s322_559, s322_560, s322_561, s322_562, s322_565, s322_566, s322_567, s322_568, s322_569, s322_572, s322_573, s322_575, s322_576, s322_577, s322_580, s322_581, s322_583, s322_584, s322_586, mq_k0s, mq_k1s, mq_k2s, mq_k4s, mq_k5s, mq_k5n, mq_k5as, mq_k6s, mj_pu, mj_lo, mj_br, mj_hr, mj_hw, mq_gf, mq_len, mq_al, mq_pf, mq_ok, mj_re, mq_lkm, mq_lkn, mj_ldi, mj_ldl, mj_lda, mj_ii, mj_ll, mj_li, mj_i1, ms_1, ms_2, f1_n, f1_i, f1_r, f1_u, f1_l, f2_n, f2_i, f2_r, f2_u, f2_l, mj_tg, mj_c1, mj_c2, mj_ar, mj_aw, mq_cb, mq_oi, mj_rm, Value.category, -getElem?_pos, List.getElem?_cons_zero, decide_eq_true, decide_eq_false, nl_lt, nl_le, ln_lt, ln_le, nl_eq, ln_eq, nl_add, ln_add, nl_sub, ln_mul, nI_sub, nI_mul, nI_add, nI_lt_iff, nI_le_iff, nI_inj, nI_num, mq_ix, nI_1, nl_mul, nl_div, rt, hp9.2, p1, hz, narrow]
  · rw [if_pos hf]
    exact kP.no (m' := m) (y' := y) (D' := D) (F1 hf) hm hk hc hy rfl lr0 hf
end
end
/- cp.mpina -/
section
set_option maxRecDepth 512
/-! The model: PIN, what is agreed, marks, new PINs. -/
/- 325 PasskeyHouseModel.theKey(II)I -/
theorem s325_0 {d : Nat} {ls : mj_L} {st : List Value} {M : mj_H} : mj_Rn d mj_m325 0 ls st M = mq_k0 d mj_m325 1 ls M (mj_lda (mj_lk ls 0) st) := mj_R0 (r := (.aload_n 0, 1, 0, 0, 0)) rfl rfl
theorem s325_1 {d : Nat} {ls : mj_L} {st : List Value} {M : mj_H} : mj_Rn d mj_m325 1 ls st M = mq_k0 d mj_m325 2 ls M (mj_lda (mj_lk ls 0) st) := mj_R0 (r := (.aload_n 0, 1, 0, 0, 0)) rfl rfl
theorem s325_2 {d : Nat} {ls : mj_L} {st : List Value} {M : mj_H} : mj_Rn d mj_m325 2 ls st M = mq_k0 d mj_m325 5 ls M (mq_gf 11 34 st M) := (mj_R3 (r := (.getfield 94, 3, 11, 34, 57376)) rfl rfl).trans (congrArg (mq_k0 d mj_m325 5 ls M) mq_gf_eq)
theorem s325_5 {d : Nat} {ls : mj_L} {st : List Value} {M : mj_H} : mj_Rn d mj_m325 5 ls st M = mq_k0 d mj_m325 6 ls M (mj_ldi (mj_lk ls 1) st) := mj_R0 (r := (.iload_n 1, 1, 0, 0, 0)) rfl rfl
theorem s325_6 {d : Nat} {ls : mj_L} {st : List Value} {M : mj_H} : mj_Rn d mj_m325 6 ls st M = mq_k0 d mj_m325 7 ls M (mq_al [1000] st M) := (mj_R3 (r := (.iaload, 1, 0, 0, 0)) rfl rfl).trans (congrArg (mq_k0 d mj_m325 7 ls M) mq_ali_eq)
theorem s325_7 {d : Nat} {ls : mj_L} {st : List Value} {M : mj_H} : mj_Rn d mj_m325 7 ls st M = mq_k0 d mj_m325 8 ls M (mj_ldi (mj_lk ls 2) st) := mj_R0 (r := (.iload_n 2, 1, 0, 0, 0)) rfl rfl
theorem s325_8 {d : Nat} {ls : mj_L} {st : List Value} {M : mj_H} : mj_Rn (d + 1) mj_m325 8 ls st M = mq_k5a (d + 1) mj_m325 11 ls M 326 (mq_cb 0 2 11 st M) := mj_R5e (r := (.invokevirtual 535, 3, 0, 326, 37015)) (z := mj_m326) rfl rfl (by decide) (by decide) rfl
theorem s325_11 {d : Nat} {ls : mj_L} {st : List Value} {M : mj_H} : mj_Rn d mj_m325 11 ls st M = mq_k0 d mj_m325 12 ls M (mj_lda (mj_lk ls 0) st) := mj_R0 (r := (.aload_n 0, 1, 0, 0, 0)) rfl rfl
theorem s325_12 {d : Nat} {ls : mj_L} {st : List Value} {M : mj_H} : mj_Rn (d + 1) mj_m325 12 ls st M = mq_k5a (d + 1) mj_m325 15 ls M 245 (mq_cb 0 0 11 st M) := mj_R5e (r := (.invokevirtual 266, 3, 0, 245, 32836)) (z := mj_m245) rfl rfl (by decide) (by decide) rfl
theorem s325_15 {d : Nat} {ls : mj_L} {st : List Value} {M : mj_H} : mj_Rn d mj_m325 15 ls st M = mq_k6 M (mj_re (some .int) (.ireturn) st) := mj_R6 (r := (.ireturn, 1, 0, 0, 0)) rfl rfl
/- 327 PasskeyHouseModel.isMac(IIII)Z -/
theorem s327_0 {d : Nat} {ls : mj_L} {st : List Value} {M : mj_H} : mj_Rn d mj_m327 0 ls st M = mq_k0 d mj_m327 1 ls M (mj_ldi (mj_lk ls 1) st) := mj_R0 (r := (.iload_n 1, 1, 0, 0, 0)) rfl rfl
theorem s327_1 {d : Nat} {ls : mj_L} {st : List Value} {M : mj_H} : mj_Rn d mj_m327 1 ls st M = mq_k2 d mj_m327 ls M (mj_br (.ifCond .eq 11) 1 st) := mj_R2 (r := (.ifCond .eq 11, 3, 0, 0, 0)) rfl rfl
theorem s327_4 {d : Nat} {ls : mj_L} {st : List Value} {M : mj_H} : mj_Rn d mj_m327 4 ls st M = mq_k0 d mj_m327 5 ls M (mj_lda (mj_lk ls 0) st) := mj_R0 (r := (.aload_n 0, 1, 0, 0, 0)) rfl rfl
theorem s327_5 {d : Nat} {ls : mj_L} {st : List Value} {M : mj_H} : mj_Rn d mj_m327 5 ls st M = mq_k0 d mj_m327 6 ls M (mj_ldi (mj_lk ls 2) st) := mj_R0 (r := (.iload_n 2, 1, 0, 0, 0)) rfl rfl
theorem s327_6 {d : Nat} {ls : mj_L} {st : List Value} {M : mj_H} : mj_Rn (d + 1) mj_m327 6 ls st M = mq_k5a (d + 1) mj_m327 9 ls M 308 (mq_cb 0 1 11 st M) := mj_R5e (r := (.invokevirtual 457, 3, 0, 308, 36943)) (z := mj_m308) rfl rfl (by decide) (by decide) rfl
theorem s327_9 {d : Nat} {ls : mj_L} {st : List Value} {M : mj_H} : mj_Rn d mj_m327 9 ls st M = mq_k2 d mj_m327 ls M (mj_br (.ifCond .ne 5) 9 st) := mj_R2 (r := (.ifCond .ne 5, 3, 0, 0, 0)) rfl rfl
theorem s327_12 {d : Nat} {ls : mj_L} {st : List Value} {M : mj_H} : mj_Rn d mj_m327 12 ls st M = mj_Rn d mj_m327 13 ls (.int 0 :: st) M := mj_R0 (r := (.iconst 0, 1, 0, 0, 0)) rfl rfl
theorem s327_13 {d : Nat} {ls : mj_L} {st : List Value} {M : mj_H} : mj_Rn d mj_m327 13 ls st M = mq_k6 M (mj_re (some .boolean) (.ireturn) st) := mj_R6 (r := (.ireturn, 1, 0, 0, 0)) rfl rfl
theorem s327_14 {d : Nat} {ls : mj_L} {st : List Value} {M : mj_H} : mj_Rn d mj_m327 14 ls st M = mq_k0 d mj_m327 15 ls M (mj_lda (mj_lk ls 0) st) := mj_R0 (r := (.aload_n 0, 1, 0, 0, 0)) rfl rfl
theorem s327_15 {d : Nat} {ls : mj_L} {st : List Value} {M : mj_H} : mj_Rn d mj_m327 15 ls st M = mj_Rn d mj_m327 16 ls (.int 5 :: st) M := mj_R0 (r := (.iconst 5, 1, 0, 0, 0)) rfl rfl
theorem s327_16 {d : Nat} {ls : mj_L} {st : List Value} {M : mj_H} : mj_Rn (d + 1) mj_m327 16 ls st M = mq_k5a (d + 1) mj_m327 19 ls M 242 (mq_cb 0 1 11 st M) := mj_R5e (r := (.invokevirtual 279, 3, 0, 242, 32824)) (z := mj_m242) rfl rfl (by decide) (by decide) rfl
theorem s327_19 {d : Nat} {ls : mj_L} {st : List Value} {M : mj_H} : mj_Rn d mj_m327 19 ls st M = mq_k0 d mj_m327 20 ls M (mj_lda (mj_lk ls 0) st) := mj_R0 (r := (.aload_n 0, 1, 0, 0, 0)) rfl rfl
theorem s327_20 {d : Nat} {ls : mj_L} {st : List Value} {M : mj_H} : mj_Rn d mj_m327 20 ls st M = mq_k0 d mj_m327 21 ls M (mj_ldi (mj_lk ls 1) st) := mj_R0 (r := (.iload_n 1, 1, 0, 0, 0)) rfl rfl
theorem s327_21 {d : Nat} {ls : mj_L} {st : List Value} {M : mj_H} : mj_Rn (d + 1) mj_m327 21 ls st M = mq_k5a (d + 1) mj_m327 24 ls M 243 (mq_cb 0 1 11 st M) := mj_R5e (r := (.invokevirtual 258, 3, 0, 243, 32828)) (z := mj_m243) rfl rfl (by decide) (by decide) rfl
theorem s327_24 {d : Nat} {ls : mj_L} {st : List Value} {M : mj_H} : mj_Rn d mj_m327 24 ls st M = mq_k0 d mj_m327 25 ls M (mj_lda (mj_lk ls 0) st) := mj_R0 (r := (.aload_n 0, 1, 0, 0, 0)) rfl rfl
theorem s327_25 {d : Nat} {ls : mj_L} {st : List Value} {M : mj_H} : mj_Rn d mj_m327 25 ls st M = mq_k0 d mj_m327 26 ls M (mj_lda (mj_lk ls 0) st) := mj_R0 (r := (.aload_n 0, 1, 0, 0, 0)) rfl rfl
theorem s327_26 {d : Nat} {ls : mj_L} {st : List Value} {M : mj_H} : mj_Rn d mj_m327 26 ls st M = mq_k0 d mj_m327 29 ls M (mq_gf 11 46 st M) := (mj_R3 (r := (.getfield 127, 3, 11, 46, 57400)) rfl rfl).trans (congrArg (mq_k0 d mj_m327 29 ls M) mq_gf_eq)
theorem s327_29 {d : Nat} {ls : mj_L} {st : List Value} {M : mj_H} : mj_Rn d mj_m327 29 ls st M = mq_k0 d mj_m327 30 ls M (mj_lda (mj_lk ls 0) st) := mj_R0 (r := (.aload_n 0, 1, 0, 0, 0)) rfl rfl
theorem s327_30 {d : Nat} {ls : mj_L} {st : List Value} {M : mj_H} : mj_Rn d mj_m327 30 ls st M = mq_k0 d mj_m327 31 ls M (mj_ldi (mj_lk ls 3) st) := mj_R0 (r := (.iload_n 3, 1, 0, 0, 0)) rfl rfl
theorem s327_31 {d : Nat} {ls : mj_L} {st : List Value} {M : mj_H} : mj_Rn (d + 1) mj_m327 31 ls st M = mq_k5a (d + 1) mj_m327 34 ls M 295 (mq_cb 0 1 11 st M) := mj_R5e (r := (.invokevirtual 399, 3, 0, 295, 36888)) (z := mj_m295) rfl rfl (by decide) (by decide) rfl
theorem s327_34 {d : Nat} {ls : mj_L} {st : List Value} {M : mj_H} : mj_Rn d mj_m327 34 ls st M = mq_k0 d mj_m327 35 ls M (mj_lda (mj_lk ls 0) st) := mj_R0 (r := (.aload_n 0, 1, 0, 0, 0)) rfl rfl
theorem s327_35 {d : Nat} {ls : mj_L} {st : List Value} {M : mj_H} : mj_Rn d mj_m327 35 ls st M = mq_k0 d mj_m327 36 ls M (mj_ldi (mj_lk ls 3) st) := mj_R0 (r := (.iload_n 3, 1, 0, 0, 0)) rfl rfl
theorem s327_36 {d : Nat} {ls : mj_L} {st : List Value} {M : mj_H} : mj_Rn (d + 1) mj_m327 36 ls st M = mq_k5a (d + 1) mj_m327 39 ls M 297 (mq_cb 0 1 11 st M) := mj_R5e (r := (.invokevirtual 402, 3, 0, 297, 36895)) (z := mj_m297) rfl rfl (by decide) (by decide) rfl
theorem s327_39 {d : Nat} {ls : mj_L} {st : List Value} {M : mj_H} : mj_Rn (d + 1) mj_m327 39 ls st M = mq_k5a (d + 1) mj_m327 42 ls M 289 (mq_cb 0 3 11 st M) := mj_R5e (r := (.invokevirtual 447, 3, 0, 289, 33007)) (z := mj_m289) rfl rfl (by decide) (by decide) rfl
theorem s327_42 {d : Nat} {ls : mj_L} {st : List Value} {M : mj_H} : mj_Rn d mj_m327 42 ls st M = mq_k0 d mj_m327 44 ls M (mj_ldi (mj_lk ls 4) st) := mj_R0 (r := (.iload 4, 2, 0, 0, 0)) rfl rfl
theorem s327_44 {d : Nat} {ls : mj_L} {st : List Value} {M : mj_H} : mj_Rn d mj_m327 44 ls st M = mj_Rn d mj_m327 45 ls (.int (-1) :: st) M := mj_R0 (r := (.iconst (-1), 1, 0, 0, 0)) rfl rfl
theorem s327_45 {d : Nat} {ls : mj_L} {st : List Value} {M : mj_H} : mj_Rn d mj_m327 45 ls st M = mq_k2 d mj_m327 ls M (mj_br (.if_icmp .eq 23) 45 st) := mj_R2 (r := (.if_icmp .eq 23, 3, 0, 0, 0)) rfl rfl
theorem s327_48 {d : Nat} {ls : mj_L} {st : List Value} {M : mj_H} : mj_Rn d mj_m327 48 ls st M = mq_k0 d mj_m327 49 ls M (mj_lda (mj_lk ls 0) st) := mj_R0 (r := (.aload_n 0, 1, 0, 0, 0)) rfl rfl
theorem s327_49 {d : Nat} {ls : mj_L} {st : List Value} {M : mj_H} : mj_Rn d mj_m327 49 ls st M = mq_k0 d mj_m327 50 ls M (mj_lda (mj_lk ls 0) st) := mj_R0 (r := (.aload_n 0, 1, 0, 0, 0)) rfl rfl
theorem s327_50 {d : Nat} {ls : mj_L} {st : List Value} {M : mj_H} : mj_Rn d mj_m327 50 ls st M = mq_k0 d mj_m327 53 ls M (mq_gf 11 46 st M) := (mj_R3 (r := (.getfield 127, 3, 11, 46, 57400)) rfl rfl).trans (congrArg (mq_k0 d mj_m327 53 ls M) mq_gf_eq)
theorem s327_53 {d : Nat} {ls : mj_L} {st : List Value} {M : mj_H} : mj_Rn d mj_m327 53 ls st M = mq_k0 d mj_m327 54 ls M (mj_lda (mj_lk ls 0) st) := mj_R0 (r := (.aload_n 0, 1, 0, 0, 0)) rfl rfl
theorem s327_54 {d : Nat} {ls : mj_L} {st : List Value} {M : mj_H} : mj_Rn d mj_m327 54 ls st M = mq_k0 d mj_m327 56 ls M (mj_ldi (mj_lk ls 4) st) := mj_R0 (r := (.iload 4, 2, 0, 0, 0)) rfl rfl
theorem s327_56 {d : Nat} {ls : mj_L} {st : List Value} {M : mj_H} : mj_Rn (d + 1) mj_m327 56 ls st M = mq_k5a (d + 1) mj_m327 59 ls M 295 (mq_cb 0 1 11 st M) := mj_R5e (r := (.invokevirtual 399, 3, 0, 295, 36888)) (z := mj_m295) rfl rfl (by decide) (by decide) rfl
theorem s327_59 {d : Nat} {ls : mj_L} {st : List Value} {M : mj_H} : mj_Rn d mj_m327 59 ls st M = mq_k0 d mj_m327 60 ls M (mj_lda (mj_lk ls 0) st) := mj_R0 (r := (.aload_n 0, 1, 0, 0, 0)) rfl rfl
theorem s327_60 {d : Nat} {ls : mj_L} {st : List Value} {M : mj_H} : mj_Rn d mj_m327 60 ls st M = mq_k0 d mj_m327 62 ls M (mj_ldi (mj_lk ls 4) st) := mj_R0 (r := (.iload 4, 2, 0, 0, 0)) rfl rfl
theorem s327_62 {d : Nat} {ls : mj_L} {st : List Value} {M : mj_H} : mj_Rn (d + 1) mj_m327 62 ls st M = mq_k5a (d + 1) mj_m327 65 ls M 297 (mq_cb 0 1 11 st M) := mj_R5e (r := (.invokevirtual 402, 3, 0, 297, 36895)) (z := mj_m297) rfl rfl (by decide) (by decide) rfl
theorem s327_65 {d : Nat} {ls : mj_L} {st : List Value} {M : mj_H} : mj_Rn (d + 1) mj_m327 65 ls st M = mq_k5a (d + 1) mj_m327 68 ls M 289 (mq_cb 0 3 11 st M) := mj_R5e (r := (.invokevirtual 447, 3, 0, 289, 33007)) (z := mj_m289) rfl rfl (by decide) (by decide) rfl
theorem s327_68 {d : Nat} {ls : mj_L} {st : List Value} {M : mj_H} : mj_Rn d mj_m327 68 ls st M = mq_k0 d mj_m327 69 ls M (mj_lda (mj_lk ls 0) st) := mj_R0 (r := (.aload_n 0, 1, 0, 0, 0)) rfl rfl
theorem s327_69 {d : Nat} {ls : mj_L} {st : List Value} {M : mj_H} : mj_Rn (d + 1) mj_m327 69 ls st M = mq_k5a (d + 1) mj_m327 72 ls M 245 (mq_cb 0 0 11 st M) := mj_R5e (r := (.invokevirtual 266, 3, 0, 245, 32836)) (z := mj_m245) rfl rfl (by decide) (by decide) rfl
theorem s327_72 {d : Nat} {ls : mj_L} {st : List Value} {M : mj_H} : mj_Rn d mj_m327 72 ls st M = mq_k1 d mj_m327 74 M (mj_lo 6 (.istore 5) ls st) := mj_R1 (r := (.istore 5, 2, 0, 0, 0)) rfl rfl
theorem s327_74 {d : Nat} {ls : mj_L} {st : List Value} {M : mj_H} : mj_Rn d mj_m327 74 ls st M = mq_k0 d mj_m327 76 ls M (mj_ldi (mj_lk ls 5) st) := mj_R0 (r := (.iload 5, 2, 0, 0, 0)) rfl rfl
theorem s327_76 {d : Nat} {ls : mj_L} {st : List Value} {M : mj_H} : mj_Rn d mj_m327 76 ls st M = mq_k2 d mj_m327 ls M (mj_br (.ifCond .eq 17) 76 st) := mj_R2 (r := (.ifCond .eq 17, 3, 0, 0, 0)) rfl rfl
theorem s327_79 {d : Nat} {ls : mj_L} {st : List Value} {M : mj_H} : mj_Rn d mj_m327 79 ls st M = mq_k0 d mj_m327 81 ls M (mj_ldi (mj_lk ls 5) st) := mj_R0 (r := (.iload 5, 2, 0, 0, 0)) rfl rfl
theorem s327_81 {d : Nat} {ls : mj_L} {st : List Value} {M : mj_H} : mj_Rn d mj_m327 81 ls st M = mq_k0 d mj_m327 82 ls M (mj_lda (mj_lk ls 0) st) := mj_R0 (r := (.aload_n 0, 1, 0, 0, 0)) rfl rfl
theorem s327_82 {d : Nat} {ls : mj_L} {st : List Value} {M : mj_H} : mj_Rn d mj_m327 82 ls st M = mq_k0 d mj_m327 83 ls M (mj_ldi (mj_lk ls 2) st) := mj_R0 (r := (.iload_n 2, 1, 0, 0, 0)) rfl rfl
theorem s327_83 {d : Nat} {ls : mj_L} {st : List Value} {M : mj_H} : mj_Rn (d + 1) mj_m327 83 ls st M = mq_k5a (d + 1) mj_m327 86 ls M 313 (mq_cb 0 1 11 st M) := mj_R5e (r := (.invokevirtual 460, 3, 0, 313, 36963)) (z := mj_m313) rfl rfl (by decide) (by decide) rfl
theorem s327_86 {d : Nat} {ls : mj_L} {st : List Value} {M : mj_H} : mj_Rn d mj_m327 86 ls st M = mq_k2 d mj_m327 ls M (mj_br (.if_icmp .ne 7) 86 st) := mj_R2 (r := (.if_icmp .ne 7, 3, 0, 0, 0)) rfl rfl
theorem s327_89 {d : Nat} {ls : mj_L} {st : List Value} {M : mj_H} : mj_Rn d mj_m327 89 ls st M = mj_Rn d mj_m327 90 ls (.int 1 :: st) M := mj_R0 (r := (.iconst 1, 1, 0, 0, 0)) rfl rfl
theorem s327_90 {d : Nat} {ls : mj_L} {st : List Value} {M : mj_H} : mj_Rn d mj_m327 90 ls st M = mj_Rn d mj_m327 94 ls st M := mj_R2 (r := (.goto 4, 3, 0, 0, 0)) rfl rfl
theorem s327_93 {d : Nat} {ls : mj_L} {st : List Value} {M : mj_H} : mj_Rn d mj_m327 93 ls st M = mj_Rn d mj_m327 94 ls (.int 0 :: st) M := mj_R0 (r := (.iconst 0, 1, 0, 0, 0)) rfl rfl
theorem s327_94 {d : Nat} {ls : mj_L} {st : List Value} {M : mj_H} : mj_Rn d mj_m327 94 ls st M = mq_k6 M (mj_re (some .boolean) (.ireturn) st) := mj_R6 (r := (.ireturn, 1, 0, 0, 0)) rfl rfl
/- 328 PasskeyHouseModel.newPin(III)I -/
theorem s328_0 {d : Nat} {ls : mj_L} {st : List Value} {M : mj_H} : mj_Rn d mj_m328 0 ls st M = mq_k0 d mj_m328 1 ls M (mj_lda (mj_lk ls 0) st) := mj_R0 (r := (.aload_n 0, 1, 0, 0, 0)) rfl rfl
theorem s328_1 {d : Nat} {ls : mj_L} {st : List Value} {M : mj_H} : mj_Rn d mj_m328 1 ls st M = mq_k0 d mj_m328 2 ls M (mj_ldi (mj_lk ls 3) st) := mj_R0 (r := (.iload_n 3, 1, 0, 0, 0)) rfl rfl
theorem s328_2 {d : Nat} {ls : mj_L} {st : List Value} {M : mj_H} : mj_Rn (d + 1) mj_m328 2 ls st M = mq_k5a (d + 1) mj_m328 5 ls M 308 (mq_cb 0 1 11 st M) := mj_R5e (r := (.invokevirtual 457, 3, 0, 308, 36943)) (z := mj_m308) rfl rfl (by decide) (by decide) rfl
theorem s328_5 {d : Nat} {ls : mj_L} {st : List Value} {M : mj_H} : mj_Rn d mj_m328 5 ls st M = mq_k2 d mj_m328 ls M (mj_br (.ifCond .eq 11) 5 st) := mj_R2 (r := (.ifCond .eq 11, 3, 0, 0, 0)) rfl rfl
theorem s328_8 {d : Nat} {ls : mj_L} {st : List Value} {M : mj_H} : mj_Rn d mj_m328 8 ls st M = mq_k0 d mj_m328 9 ls M (mj_lda (mj_lk ls 0) st) := mj_R0 (r := (.aload_n 0, 1, 0, 0, 0)) rfl rfl
theorem s328_9 {d : Nat} {ls : mj_L} {st : List Value} {M : mj_H} : mj_Rn d mj_m328 9 ls st M = mq_k0 d mj_m328 10 ls M (mj_ldi (mj_lk ls 3) st) := mj_R0 (r := (.iload_n 3, 1, 0, 0, 0)) rfl rfl
theorem s328_10 {d : Nat} {ls : mj_L} {st : List Value} {M : mj_H} : mj_Rn (d + 1) mj_m328 10 ls st M = mq_k5a (d + 1) mj_m328 13 ls M 313 (mq_cb 0 1 11 st M) := mj_R5e (r := (.invokevirtual 460, 3, 0, 313, 36963)) (z := mj_m313) rfl rfl (by decide) (by decide) rfl
theorem s328_13 {d : Nat} {ls : mj_L} {st : List Value} {M : mj_H} : mj_Rn d mj_m328 13 ls st M = mj_Rn d mj_m328 17 ls st M := mj_R2 (r := (.goto 4, 3, 0, 0, 0)) rfl rfl
theorem s328_16 {d : Nat} {ls : mj_L} {st : List Value} {M : mj_H} : mj_Rn d mj_m328 16 ls st M = mj_Rn d mj_m328 17 ls (.int 0 :: st) M := mj_R0 (r := (.iconst 0, 1, 0, 0, 0)) rfl rfl
theorem s328_17 {d : Nat} {ls : mj_L} {st : List Value} {M : mj_H} : mj_Rn d mj_m328 17 ls st M = mq_k1 d mj_m328 19 M (mj_lo 6 (.istore 4) ls st) := mj_R1 (r := (.istore 4, 2, 0, 0, 0)) rfl rfl
theorem s328_19 {d : Nat} {ls : mj_L} {st : List Value} {M : mj_H} : mj_Rn d mj_m328 19 ls st M = mq_k0 d mj_m328 20 ls M (mj_lda (mj_lk ls 0) st) := mj_R0 (r := (.aload_n 0, 1, 0, 0, 0)) rfl rfl
theorem s328_20 {d : Nat} {ls : mj_L} {st : List Value} {M : mj_H} : mj_Rn d mj_m328 20 ls st M = mq_k0 d mj_m328 22 ls M (mj_ldi (mj_lk ls 4) st) := mj_R0 (r := (.iload 4, 2, 0, 0, 0)) rfl rfl
theorem s328_22 {d : Nat} {ls : mj_L} {st : List Value} {M : mj_H} : mj_Rn d mj_m328 22 ls st M = mj_Rn d mj_m328 23 ls (.int 4 :: st) M := mj_R0 (r := (.iconst 4, 1, 0, 0, 0)) rfl rfl
theorem s328_23 {d : Nat} {ls : mj_L} {st : List Value} {M : mj_H} : mj_Rn (d + 1) mj_m328 23 ls st M = mq_k5a (d + 1) mj_m328 26 ls M 316 (mq_cb 0 2 11 st M) := mj_R5e (r := (.invokevirtual 451, 3, 0, 316, 36975)) (z := mj_m316) rfl rfl (by decide) (by decide) rfl
theorem s328_26 {d : Nat} {ls : mj_L} {st : List Value} {M : mj_H} : mj_Rn d mj_m328 26 ls st M = mq_k2 d mj_m328 ls M (mj_br (.ifCond .eq 36) 26 st) := mj_R2 (r := (.ifCond .eq 36, 3, 0, 0, 0)) rfl rfl
theorem s328_29 {d : Nat} {ls : mj_L} {st : List Value} {M : mj_H} : mj_Rn d mj_m328 29 ls st M = mq_k0 d mj_m328 30 ls M (mj_lda (mj_lk ls 0) st) := mj_R0 (r := (.aload_n 0, 1, 0, 0, 0)) rfl rfl
theorem s328_30 {d : Nat} {ls : mj_L} {st : List Value} {M : mj_H} : mj_Rn d mj_m328 30 ls st M = mq_k0 d mj_m328 32 ls M (mj_ldi (mj_lk ls 4) st) := mj_R0 (r := (.iload 4, 2, 0, 0, 0)) rfl rfl
theorem s328_32 {d : Nat} {ls : mj_L} {st : List Value} {M : mj_H} : mj_Rn d mj_m328 32 ls st M = mj_Rn d mj_m328 33 ls (.int 1 :: st) M := mj_R0 (r := (.iconst 1, 1, 0, 0, 0)) rfl rfl
theorem s328_33 {d : Nat} {ls : mj_L} {st : List Value} {M : mj_H} : mj_Rn (d + 1) mj_m328 33 ls st M = mq_k5a (d + 1) mj_m328 36 ls M 234 (mq_cb 0 2 11 st M) := mj_R5e (r := (.invokevirtual 300, 3, 0, 234, 32791)) (z := mj_m234) rfl rfl (by decide) (by decide) rfl
theorem s328_36 {d : Nat} {ls : mj_L} {st : List Value} {M : mj_H} : mj_Rn d mj_m328 36 ls st M = mq_k0 d mj_m328 37 ls M (mj_ldi (mj_lk ls 2) st) := mj_R0 (r := (.iload_n 2, 1, 0, 0, 0)) rfl rfl
theorem s328_37 {d : Nat} {ls : mj_L} {st : List Value} {M : mj_H} : mj_Rn d mj_m328 37 ls st M = mq_k2 d mj_m328 ls M (mj_br (.if_icmp .ne 25) 37 st) := mj_R2 (r := (.if_icmp .ne 25, 3, 0, 0, 0)) rfl rfl
theorem s328_40 {d : Nat} {ls : mj_L} {st : List Value} {M : mj_H} : mj_Rn d mj_m328 40 ls st M = mq_k0 d mj_m328 41 ls M (mj_lda (mj_lk ls 0) st) := mj_R0 (r := (.aload_n 0, 1, 0, 0, 0)) rfl rfl
theorem s328_41 {d : Nat} {ls : mj_L} {st : List Value} {M : mj_H} : mj_Rn d mj_m328 41 ls st M = mq_k0 d mj_m328 44 ls M (mq_gf 11 2 st M) := (mj_R3 (r := (.getfield 15, 3, 11, 2, 49600)) rfl rfl).trans (congrArg (mq_k0 d mj_m328 44 ls M) mq_gf_eq)
theorem s328_44 {d : Nat} {ls : mj_L} {st : List Value} {M : mj_H} : mj_Rn d mj_m328 44 ls st M = mq_k0 d mj_m328 46 ls M (mj_ldi (mj_lk ls 4) st) := mj_R0 (r := (.iload 4, 2, 0, 0, 0)) rfl rfl
theorem s328_46 {d : Nat} {ls : mj_L} {st : List Value} {M : mj_H} : mj_Rn d mj_m328 46 ls st M = mj_Rn d mj_m328 47 ls (.int 1 :: st) M := mj_R0 (r := (.iconst 1, 1, 0, 0, 0)) rfl rfl
theorem s328_47 {d : Nat} {ls : mj_L} {st : List Value} {M : mj_H} : mj_Rn d mj_m328 47 ls st M = mq_k0 d mj_m328 48 ls M (mj_pu .iadd ls st) := mj_R0 (r := (.iadd, 1, 0, 0, 0)) rfl rfl
theorem s328_48 {d : Nat} {ls : mj_L} {st : List Value} {M : mj_H} : mj_Rn d mj_m328 48 ls st M = mq_k0 d mj_m328 49 ls M (mq_al [1000] st M) := (mj_R3 (r := (.iaload, 1, 0, 0, 0)) rfl rfl).trans (congrArg (mq_k0 d mj_m328 49 ls M) mq_ali_eq)
theorem s328_49 {d : Nat} {ls : mj_L} {st : List Value} {M : mj_H} : mj_Rn d mj_m328 49 ls st M = mq_k0 d mj_m328 50 ls M (mj_lda (mj_lk ls 0) st) := mj_R0 (r := (.aload_n 0, 1, 0, 0, 0)) rfl rfl
theorem s328_50 {d : Nat} {ls : mj_L} {st : List Value} {M : mj_H} : mj_Rn d mj_m328 50 ls st M = mq_k0 d mj_m328 53 ls M (mq_gf 11 2 st M) := (mj_R3 (r := (.getfield 15, 3, 11, 2, 49600)) rfl rfl).trans (congrArg (mq_k0 d mj_m328 53 ls M) mq_gf_eq)
theorem s328_53 {d : Nat} {ls : mj_L} {st : List Value} {M : mj_H} : mj_Rn d mj_m328 53 ls st M = mq_k0 d mj_m328 55 ls M (mj_ldi (mj_lk ls 4) st) := mj_R0 (r := (.iload 4, 2, 0, 0, 0)) rfl rfl
theorem s328_55 {d : Nat} {ls : mj_L} {st : List Value} {M : mj_H} : mj_Rn d mj_m328 55 ls st M = mq_k0 d mj_m328 56 ls M (mq_al [1000] st M) := (mj_R3 (r := (.iaload, 1, 0, 0, 0)) rfl rfl).trans (congrArg (mq_k0 d mj_m328 56 ls M) mq_ali_eq)
theorem s328_56 {d : Nat} {ls : mj_L} {st : List Value} {M : mj_H} : mj_Rn d mj_m328 56 ls st M = mq_k0 d mj_m328 57 ls M (mj_pu .isub ls st) := mj_R0 (r := (.isub, 1, 0, 0, 0)) rfl rfl
theorem s328_57 {d : Nat} {ls : mj_L} {st : List Value} {M : mj_H} : mj_Rn d mj_m328 57 ls st M = mj_Rn d mj_m328 58 ls (.int 2 :: st) M := mj_R0 (r := (.iconst 2, 1, 0, 0, 0)) rfl rfl
theorem s328_58 {d : Nat} {ls : mj_L} {st : List Value} {M : mj_H} : mj_Rn d mj_m328 58 ls st M = mq_k0 d mj_m328 59 ls M (mj_pu .isub ls st) := mj_R0 (r := (.isub, 1, 0, 0, 0)) rfl rfl
theorem s328_59 {d : Nat} {ls : mj_L} {st : List Value} {M : mj_H} : mj_Rn d mj_m328 59 ls st M = mj_Rn d mj_m328 63 ls st M := mj_R2 (r := (.goto 4, 3, 0, 0, 0)) rfl rfl
theorem s328_62 {d : Nat} {ls : mj_L} {st : List Value} {M : mj_H} : mj_Rn d mj_m328 62 ls st M = mj_Rn d mj_m328 63 ls (.int 0 :: st) M := mj_R0 (r := (.iconst 0, 1, 0, 0, 0)) rfl rfl
theorem s328_63 {d : Nat} {ls : mj_L} {st : List Value} {M : mj_H} : mj_Rn d mj_m328 63 ls st M = mq_k1 d mj_m328 65 M (mj_lo 6 (.istore 5) ls st) := mj_R1 (r := (.istore 5, 2, 0, 0, 0)) rfl rfl
theorem s328_65 {d : Nat} {ls : mj_L} {st : List Value} {M : mj_H} : mj_Rn d mj_m328 65 ls st M = mq_k0 d mj_m328 67 ls M (mj_ldi (mj_lk ls 5) st) := mj_R0 (r := (.iload 5, 2, 0, 0, 0)) rfl rfl
theorem s328_67 {d : Nat} {ls : mj_L} {st : List Value} {M : mj_H} : mj_Rn d mj_m328 67 ls st M = mj_Rn d mj_m328 68 ls (.int 4 :: st) M := mj_R0 (r := (.iconst 4, 1, 0, 0, 0)) rfl rfl
theorem s328_68 {d : Nat} {ls : mj_L} {st : List Value} {M : mj_H} : mj_Rn d mj_m328 68 ls st M = mq_k2 d mj_m328 ls M (mj_br (.if_icmp .lt 10) 68 st) := mj_R2 (r := (.if_icmp .lt 10, 3, 0, 0, 0)) rfl rfl
theorem s328_71 {d : Nat} {ls : mj_L} {st : List Value} {M : mj_H} : mj_Rn d mj_m328 71 ls st M = mq_k0 d mj_m328 73 ls M (mj_ldi (mj_lk ls 5) st) := mj_R0 (r := (.iload 5, 2, 0, 0, 0)) rfl rfl
theorem s328_73 {d : Nat} {ls : mj_L} {st : List Value} {M : mj_H} : mj_Rn d mj_m328 73 ls st M = mj_Rn d mj_m328 75 ls (.int 12 :: st) M := mj_R0 (r := (.bipush 12, 2, 0, 0, 0)) rfl rfl
theorem s328_75 {d : Nat} {ls : mj_L} {st : List Value} {M : mj_H} : mj_Rn d mj_m328 75 ls st M = mq_k2 d mj_m328 ls M (mj_br (.if_icmp .le 6) 75 st) := mj_R2 (r := (.if_icmp .le 6, 3, 0, 0, 0)) rfl rfl
theorem s328_78 {d : Nat} {ls : mj_L} {st : List Value} {M : mj_H} : mj_Rn d mj_m328 78 ls st M = mj_Rn d mj_m328 80 ls (.int 55 :: st) M := mj_R0 (r := (.bipush 55, 2, 0, 0, 0)) rfl rfl
theorem s328_80 {d : Nat} {ls : mj_L} {st : List Value} {M : mj_H} : mj_Rn d mj_m328 80 ls st M = mq_k6 M (mj_re (some .int) (.ireturn) st) := mj_R6 (r := (.ireturn, 1, 0, 0, 0)) rfl rfl
theorem s328_81 {d : Nat} {ls : mj_L} {st : List Value} {M : mj_H} : mj_Rn d mj_m328 81 ls st M = mq_k0 d mj_m328 82 ls M (mj_lda (mj_lk ls 0) st) := mj_R0 (r := (.aload_n 0, 1, 0, 0, 0)) rfl rfl
theorem s328_82 {d : Nat} {ls : mj_L} {st : List Value} {M : mj_H} : mj_Rn d mj_m328 82 ls st M = mj_Rn d mj_m328 84 ls (.int 7 :: st) M := mj_R0 (r := (.bipush 7, 2, 0, 0, 0)) rfl rfl
theorem s328_84 {d : Nat} {ls : mj_L} {st : List Value} {M : mj_H} : mj_Rn (d + 1) mj_m328 84 ls st M = mq_k5a (d + 1) mj_m328 87 ls M 242 (mq_cb 0 1 11 st M) := mj_R5e (r := (.invokevirtual 279, 3, 0, 242, 32824)) (z := mj_m242) rfl rfl (by decide) (by decide) rfl
theorem s328_87 {d : Nat} {ls : mj_L} {st : List Value} {M : mj_H} : mj_Rn d mj_m328 87 ls st M = mq_k0 d mj_m328 88 ls M (mj_lda (mj_lk ls 0) st) := mj_R0 (r := (.aload_n 0, 1, 0, 0, 0)) rfl rfl
theorem s328_88 {d : Nat} {ls : mj_L} {st : List Value} {M : mj_H} : mj_Rn d mj_m328 88 ls st M = mq_k0 d mj_m328 89 ls M (mj_lda (mj_lk ls 0) st) := mj_R0 (r := (.aload_n 0, 1, 0, 0, 0)) rfl rfl
theorem s328_89 {d : Nat} {ls : mj_L} {st : List Value} {M : mj_H} : mj_Rn d mj_m328 89 ls st M = mq_k0 d mj_m328 92 ls M (mq_gf 11 0 st M) := (mj_R3 (r := (.getfield 8, 3, 11, 0, 49596)) rfl rfl).trans (congrArg (mq_k0 d mj_m328 92 ls M) mq_gf_eq)
theorem s328_92 {d : Nat} {ls : mj_L} {st : List Value} {M : mj_H} : mj_Rn d mj_m328 92 ls st M = mq_k0 d mj_m328 93 ls M (mj_lda (mj_lk ls 0) st) := mj_R0 (r := (.aload_n 0, 1, 0, 0, 0)) rfl rfl
theorem s328_93 {d : Nat} {ls : mj_L} {st : List Value} {M : mj_H} : mj_Rn d mj_m328 93 ls st M = mq_k0 d mj_m328 96 ls M (mq_gf 11 2 st M) := (mj_R3 (r := (.getfield 15, 3, 11, 2, 49600)) rfl rfl).trans (congrArg (mq_k0 d mj_m328 96 ls M) mq_gf_eq)
theorem s328_96 {d : Nat} {ls : mj_L} {st : List Value} {M : mj_H} : mj_Rn d mj_m328 96 ls st M = mq_k0 d mj_m328 98 ls M (mj_ldi (mj_lk ls 4) st) := mj_R0 (r := (.iload 4, 2, 0, 0, 0)) rfl rfl
theorem s328_98 {d : Nat} {ls : mj_L} {st : List Value} {M : mj_H} : mj_Rn d mj_m328 98 ls st M = mq_k0 d mj_m328 99 ls M (mq_al [1000] st M) := (mj_R3 (r := (.iaload, 1, 0, 0, 0)) rfl rfl).trans (congrArg (mq_k0 d mj_m328 99 ls M) mq_ali_eq)
theorem s328_99 {d : Nat} {ls : mj_L} {st : List Value} {M : mj_H} : mj_Rn d mj_m328 99 ls st M = mj_Rn d mj_m328 100 ls (.int 2 :: st) M := mj_R0 (r := (.iconst 2, 1, 0, 0, 0)) rfl rfl
theorem s328_100 {d : Nat} {ls : mj_L} {st : List Value} {M : mj_H} : mj_Rn d mj_m328 100 ls st M = mq_k0 d mj_m328 101 ls M (mj_pu .iadd ls st) := mj_R0 (r := (.iadd, 1, 0, 0, 0)) rfl rfl
theorem s328_101 {d : Nat} {ls : mj_L} {st : List Value} {M : mj_H} : mj_Rn d mj_m328 101 ls st M = mq_k0 d mj_m328 103 ls M (mj_ldi (mj_lk ls 5) st) := mj_R0 (r := (.iload 5, 2, 0, 0, 0)) rfl rfl
theorem s328_103 {d : Nat} {ls : mj_L} {st : List Value} {M : mj_H} : mj_Rn (d + 1) mj_m328 103 ls st M = mq_k5a (d + 1) mj_m328 106 ls M 289 (mq_cb 0 3 11 st M) := mj_R5e (r := (.invokevirtual 447, 3, 0, 289, 33007)) (z := mj_m289) rfl rfl (by decide) (by decide) rfl
theorem s328_106 {d : Nat} {ls : mj_L} {st : List Value} {M : mj_H} : mj_Rn d mj_m328 106 ls st M = mq_k0 d mj_m328 107 ls M (mj_lda (mj_lk ls 0) st) := mj_R0 (r := (.aload_n 0, 1, 0, 0, 0)) rfl rfl
theorem s328_107 {d : Nat} {ls : mj_L} {st : List Value} {M : mj_H} : mj_Rn d mj_m328 107 ls st M = mq_k0 d mj_m328 108 ls M (mj_ldi (mj_lk ls 1) st) := mj_R0 (r := (.iload_n 1, 1, 0, 0, 0)) rfl rfl
theorem s328_108 {d : Nat} {ls : mj_L} {st : List Value} {M : mj_H} : mj_Rn d mj_m328 108 ls st M = mq_k0 d mj_m328 109 ls M (mj_lda (mj_lk ls 0) st) := mj_R0 (r := (.aload_n 0, 1, 0, 0, 0)) rfl rfl
theorem s328_109 {d : Nat} {ls : mj_L} {st : List Value} {M : mj_H} : mj_Rn d mj_m328 109 ls st M = mq_k0 d mj_m328 112 ls M (mq_gf 11 43 st M) := (mj_R3 (r := (.getfield 121, 3, 11, 43, 57394)) rfl rfl).trans (congrArg (mq_k0 d mj_m328 112 ls M) mq_gf_eq)
theorem s328_112 {d : Nat} {ls : mj_L} {st : List Value} {M : mj_H} : mj_Rn d mj_m328 112 ls st M = mj_Rn d mj_m328 113 ls (.int 2 :: st) M := mj_R0 (r := (.iconst 2, 1, 0, 0, 0)) rfl rfl
theorem s328_113 {d : Nat} {ls : mj_L} {st : List Value} {M : mj_H} : mj_Rn d mj_m328 113 ls st M = mq_k0 d mj_m328 114 ls M (mj_lda (mj_lk ls 0) st) := mj_R0 (r := (.aload_n 0, 1, 0, 0, 0)) rfl rfl
theorem s328_114 {d : Nat} {ls : mj_L} {st : List Value} {M : mj_H} : mj_Rn (d + 1) mj_m328 114 ls st M = mq_k5a (d + 1) mj_m328 117 ls M 244 (mq_cb 0 0 11 st M) := mj_R5e (r := (.invokevirtual 285, 3, 0, 244, 32832)) (z := mj_m244) rfl rfl (by decide) (by decide) rfl
theorem s328_117 {d : Nat} {ls : mj_L} {st : List Value} {M : mj_H} : mj_Rn (d + 1) mj_m328 117 ls st M = mq_k5a (d + 1) mj_m328 120 ls M 248 (mq_cb 2 3 11 st M) := mj_R5e (r := (.invokestatic 337, 3, 2, 248, 32848)) (z := mj_m248) rfl rfl (by decide) (by decide) rfl
theorem s328_120 {d : Nat} {ls : mj_L} {st : List Value} {M : mj_H} : mj_Rn (d + 1) mj_m328 120 ls st M = mq_k5a (d + 1) mj_m328 123 ls M 288 (mq_cb 0 2 11 st M) := mj_R5e (r := (.invokevirtual 509, 3, 0, 288, 33003)) (z := mj_m288) rfl rfl (by decide) (by decide) rfl
theorem s328_123 {d : Nat} {ls : mj_L} {st : List Value} {M : mj_H} : mj_Rn d mj_m328 123 ls st M = mq_k2 d mj_m328 ls M (mj_br (.ifCond .eq 7) 123 st) := mj_R2 (r := (.ifCond .eq 7, 3, 0, 0, 0)) rfl rfl
theorem s328_126 {d : Nat} {ls : mj_L} {st : List Value} {M : mj_H} : mj_Rn d mj_m328 126 ls st M = mj_Rn d mj_m328 127 ls (.int 0 :: st) M := mj_R0 (r := (.iconst 0, 1, 0, 0, 0)) rfl rfl
theorem s328_127 {d : Nat} {ls : mj_L} {st : List Value} {M : mj_H} : mj_Rn d mj_m328 127 ls st M = mj_Rn d mj_m328 132 ls st M := mj_R2 (r := (.goto 5, 3, 0, 0, 0)) rfl rfl
theorem s328_130 {d : Nat} {ls : mj_L} {st : List Value} {M : mj_H} : mj_Rn d mj_m328 130 ls st M = mj_Rn d mj_m328 132 ls (.int (-3) :: st) M := mj_R0 (r := (.bipush (-3), 2, 0, 0, 0)) rfl rfl
theorem s328_132 {d : Nat} {ls : mj_L} {st : List Value} {M : mj_H} : mj_Rn d mj_m328 132 ls st M = mq_k6 M (mj_re (some .int) (.ireturn) st) := mj_R6 (r := (.ireturn, 1, 0, 0, 0)) rfl rfl
/- 329 PasskeyHouseModel.tryPin(III)I -/
theorem s329_0 {d : Nat} {ls : mj_L} {st : List Value} {M : mj_H} : mj_Rn d mj_m329 0 ls st M = mq_k0 d mj_m329 1 ls M (mj_lda (mj_lk ls 0) st) := mj_R0 (r := (.aload_n 0, 1, 0, 0, 0)) rfl rfl
theorem s329_1 {d : Nat} {ls : mj_L} {st : List Value} {M : mj_H} : mj_Rn d mj_m329 1 ls st M = mq_k0 d mj_m329 2 ls M (mj_ldi (mj_lk ls 1) st) := mj_R0 (r := (.iload_n 1, 1, 0, 0, 0)) rfl rfl
theorem s329_2 {d : Nat} {ls : mj_L} {st : List Value} {M : mj_H} : mj_Rn d mj_m329 2 ls st M = mq_k0 d mj_m329 3 ls M (mj_lda (mj_lk ls 0) st) := mj_R0 (r := (.aload_n 0, 1, 0, 0, 0)) rfl rfl
theorem s329_3 {d : Nat} {ls : mj_L} {st : List Value} {M : mj_H} : mj_Rn d mj_m329 3 ls st M = mq_k0 d mj_m329 6 ls M (mq_gf 11 43 st M) := (mj_R3 (r := (.getfield 121, 3, 11, 43, 57394)) rfl rfl).trans (congrArg (mq_k0 d mj_m329 6 ls M) mq_gf_eq)
theorem s329_6 {d : Nat} {ls : mj_L} {st : List Value} {M : mj_H} : mj_Rn d mj_m329 6 ls st M = mq_k0 d mj_m329 7 ls M (mj_lda (mj_lk ls 0) st) := mj_R0 (r := (.aload_n 0, 1, 0, 0, 0)) rfl rfl
theorem s329_7 {d : Nat} {ls : mj_L} {st : List Value} {M : mj_H} : mj_Rn d mj_m329 7 ls st M = mq_k0 d mj_m329 10 ls M (mq_gf 11 25 st M) := (mj_R3 (r := (.getfield 67, 3, 11, 25, 57358)) rfl rfl).trans (congrArg (mq_k0 d mj_m329 10 ls M) mq_gf_eq)
theorem s329_10 {d : Nat} {ls : mj_L} {st : List Value} {M : mj_H} : mj_Rn d mj_m329 10 ls st M = mq_k0 d mj_m329 11 ls M (mj_ldi (mj_lk ls 1) st) := mj_R0 (r := (.iload_n 1, 1, 0, 0, 0)) rfl rfl
theorem s329_11 {d : Nat} {ls : mj_L} {st : List Value} {M : mj_H} : mj_Rn d mj_m329 11 ls st M = mq_k0 d mj_m329 12 ls M (mq_al [1000] st M) := (mj_R3 (r := (.iaload, 1, 0, 0, 0)) rfl rfl).trans (congrArg (mq_k0 d mj_m329 12 ls M) mq_ali_eq)
theorem s329_12 {d : Nat} {ls : mj_L} {st : List Value} {M : mj_H} : mj_Rn d mj_m329 12 ls st M = mj_Rn d mj_m329 13 ls (.int 1 :: st) M := mj_R0 (r := (.iconst 1, 1, 0, 0, 0)) rfl rfl
theorem s329_13 {d : Nat} {ls : mj_L} {st : List Value} {M : mj_H} : mj_Rn d mj_m329 13 ls st M = mq_k0 d mj_m329 14 ls M (mj_pu .isub ls st) := mj_R0 (r := (.isub, 1, 0, 0, 0)) rfl rfl
theorem s329_14 {d : Nat} {ls : mj_L} {st : List Value} {M : mj_H} : mj_Rn (d + 1) mj_m329 14 ls st M = mq_k5a (d + 1) mj_m329 17 ls M 265 (mq_cb 2 2 11 st M) := mj_R5e (r := (.invokestatic 344, 3, 2, 265, 32913)) (z := mj_m265) rfl rfl (by decide) (by decide) rfl
theorem s329_17 {d : Nat} {ls : mj_L} {st : List Value} {M : mj_H} : mj_Rn (d + 1) mj_m329 17 ls st M = mq_k5a (d + 1) mj_m329 20 ls M 288 (mq_cb 0 2 11 st M) := mj_R5e (r := (.invokevirtual 509, 3, 0, 288, 33003)) (z := mj_m288) rfl rfl (by decide) (by decide) rfl
theorem s329_20 {d : Nat} {ls : mj_L} {st : List Value} {M : mj_H} : mj_Rn d mj_m329 20 ls st M = mq_k2 d mj_m329 ls M (mj_br (.ifCond .ne 6) 20 st) := mj_R2 (r := (.ifCond .ne 6, 3, 0, 0, 0)) rfl rfl
theorem s329_23 {d : Nat} {ls : mj_L} {st : List Value} {M : mj_H} : mj_Rn d mj_m329 23 ls st M = mj_Rn d mj_m329 25 ls (.int (-3) :: st) M := mj_R0 (r := (.bipush (-3), 2, 0, 0, 0)) rfl rfl
theorem s329_25 {d : Nat} {ls : mj_L} {st : List Value} {M : mj_H} : mj_Rn d mj_m329 25 ls st M = mq_k6 M (mj_re (some .int) (.ireturn) st) := mj_R6 (r := (.ireturn, 1, 0, 0, 0)) rfl rfl
theorem s329_26 {d : Nat} {ls : mj_L} {st : List Value} {M : mj_H} : mj_Rn d mj_m329 26 ls st M = mq_k0 d mj_m329 27 ls M (mj_lda (mj_lk ls 0) st) := mj_R0 (r := (.aload_n 0, 1, 0, 0, 0)) rfl rfl
theorem s329_27 {d : Nat} {ls : mj_L} {st : List Value} {M : mj_H} : mj_Rn d mj_m329 27 ls st M = mj_Rn d mj_m329 28 ls (.int 4 :: st) M := mj_R0 (r := (.iconst 4, 1, 0, 0, 0)) rfl rfl
theorem s329_28 {d : Nat} {ls : mj_L} {st : List Value} {M : mj_H} : mj_Rn (d + 1) mj_m329 28 ls st M = mq_k5a (d + 1) mj_m329 31 ls M 242 (mq_cb 0 1 11 st M) := mj_R5e (r := (.invokevirtual 279, 3, 0, 242, 32824)) (z := mj_m242) rfl rfl (by decide) (by decide) rfl
theorem s329_31 {d : Nat} {ls : mj_L} {st : List Value} {M : mj_H} : mj_Rn d mj_m329 31 ls st M = mq_k0 d mj_m329 32 ls M (mj_lda (mj_lk ls 0) st) := mj_R0 (r := (.aload_n 0, 1, 0, 0, 0)) rfl rfl
theorem s329_32 {d : Nat} {ls : mj_L} {st : List Value} {M : mj_H} : mj_Rn d mj_m329 32 ls st M = mq_k0 d mj_m329 33 ls M (mj_ldi (mj_lk ls 2) st) := mj_R0 (r := (.iload_n 2, 1, 0, 0, 0)) rfl rfl
theorem s329_33 {d : Nat} {ls : mj_L} {st : List Value} {M : mj_H} : mj_Rn (d + 1) mj_m329 33 ls st M = mq_k5a (d + 1) mj_m329 36 ls M 243 (mq_cb 0 1 11 st M) := mj_R5e (r := (.invokevirtual 258, 3, 0, 243, 32828)) (z := mj_m243) rfl rfl (by decide) (by decide) rfl
theorem s329_36 {d : Nat} {ls : mj_L} {st : List Value} {M : mj_H} : mj_Rn d mj_m329 36 ls st M = mq_k0 d mj_m329 37 ls M (mj_lda (mj_lk ls 0) st) := mj_R0 (r := (.aload_n 0, 1, 0, 0, 0)) rfl rfl
theorem s329_37 {d : Nat} {ls : mj_L} {st : List Value} {M : mj_H} : mj_Rn d mj_m329 37 ls st M = mq_k0 d mj_m329 38 ls M (mj_lda (mj_lk ls 0) st) := mj_R0 (r := (.aload_n 0, 1, 0, 0, 0)) rfl rfl
theorem s329_38 {d : Nat} {ls : mj_L} {st : List Value} {M : mj_H} : mj_Rn d mj_m329 38 ls st M = mq_k0 d mj_m329 41 ls M (mq_gf 11 24 st M) := (mj_R3 (r := (.getfield 64, 3, 11, 24, 57356)) rfl rfl).trans (congrArg (mq_k0 d mj_m329 41 ls M) mq_gf_eq)
theorem s329_41 {d : Nat} {ls : mj_L} {st : List Value} {M : mj_H} : mj_Rn d mj_m329 41 ls st M = mq_k0 d mj_m329 42 ls M (mj_ldi (mj_lk ls 1) st) := mj_R0 (r := (.iload_n 1, 1, 0, 0, 0)) rfl rfl
theorem s329_42 {d : Nat} {ls : mj_L} {st : List Value} {M : mj_H} : mj_Rn d mj_m329 42 ls st M = mq_k0 d mj_m329 43 ls M (mq_al [1000] st M) := (mj_R3 (r := (.iaload, 1, 0, 0, 0)) rfl rfl).trans (congrArg (mq_k0 d mj_m329 43 ls M) mq_ali_eq)
theorem s329_43 {d : Nat} {ls : mj_L} {st : List Value} {M : mj_H} : mj_Rn (d + 1) mj_m329 43 ls st M = mq_k5a (d + 1) mj_m329 46 ls M 290 (mq_cb 0 1 11 st M) := mj_R5e (r := (.invokevirtual 532, 3, 0, 290, 36867)) (z := mj_m290) rfl rfl (by decide) (by decide) rfl
theorem s329_46 {d : Nat} {ls : mj_L} {st : List Value} {M : mj_H} : mj_Rn d mj_m329 46 ls st M = mq_k0 d mj_m329 47 ls M (mj_lda (mj_lk ls 0) st) := mj_R0 (r := (.aload_n 0, 1, 0, 0, 0)) rfl rfl
theorem s329_47 {d : Nat} {ls : mj_L} {st : List Value} {M : mj_H} : mj_Rn (d + 1) mj_m329 47 ls st M = mq_k5a (d + 1) mj_m329 50 ls M 245 (mq_cb 0 0 11 st M) := mj_R5e (r := (.invokevirtual 266, 3, 0, 245, 32836)) (z := mj_m245) rfl rfl (by decide) (by decide) rfl
theorem s329_50 {d : Nat} {ls : mj_L} {st : List Value} {M : mj_H} : mj_Rn d mj_m329 50 ls st M = mq_k1 d mj_m329 52 M (mj_lo 5 (.istore 4) ls st) := mj_R1 (r := (.istore 4, 2, 0, 0, 0)) rfl rfl
theorem s329_52 {d : Nat} {ls : mj_L} {st : List Value} {M : mj_H} : mj_Rn d mj_m329 52 ls st M = mq_k0 d mj_m329 53 ls M (mj_ldi (mj_lk ls 2) st) := mj_R0 (r := (.iload_n 2, 1, 0, 0, 0)) rfl rfl
theorem s329_53 {d : Nat} {ls : mj_L} {st : List Value} {M : mj_H} : mj_Rn d mj_m329 53 ls st M = mq_k2 d mj_m329 ls M (mj_br (.ifCond .eq 57) 53 st) := mj_R2 (r := (.ifCond .eq 57, 3, 0, 0, 0)) rfl rfl
theorem s329_56 {d : Nat} {ls : mj_L} {st : List Value} {M : mj_H} : mj_Rn d mj_m329 56 ls st M = mq_k0 d mj_m329 58 ls M (mj_ldi (mj_lk ls 4) st) := mj_R0 (r := (.iload 4, 2, 0, 0, 0)) rfl rfl
theorem s329_58 {d : Nat} {ls : mj_L} {st : List Value} {M : mj_H} : mj_Rn d mj_m329 58 ls st M = mq_k2 d mj_m329 ls M (mj_br (.ifCond .eq 52) 58 st) := mj_R2 (r := (.ifCond .eq 52, 3, 0, 0, 0)) rfl rfl
theorem s329_61 {d : Nat} {ls : mj_L} {st : List Value} {M : mj_H} : mj_Rn d mj_m329 61 ls st M = mq_k0 d mj_m329 62 ls M (mj_lda (mj_lk ls 0) st) := mj_R0 (r := (.aload_n 0, 1, 0, 0, 0)) rfl rfl
theorem s329_62 {d : Nat} {ls : mj_L} {st : List Value} {M : mj_H} : mj_Rn d mj_m329 62 ls st M = mq_k0 d mj_m329 63 ls M (mj_ldi (mj_lk ls 3) st) := mj_R0 (r := (.iload_n 3, 1, 0, 0, 0)) rfl rfl
theorem s329_63 {d : Nat} {ls : mj_L} {st : List Value} {M : mj_H} : mj_Rn (d + 1) mj_m329 63 ls st M = mq_k5a (d + 1) mj_m329 66 ls M 308 (mq_cb 0 1 11 st M) := mj_R5e (r := (.invokevirtual 457, 3, 0, 308, 36943)) (z := mj_m308) rfl rfl (by decide) (by decide) rfl
theorem s329_66 {d : Nat} {ls : mj_L} {st : List Value} {M : mj_H} : mj_Rn d mj_m329 66 ls st M = mq_k2 d mj_m329 ls M (mj_br (.ifCond .eq 44) 66 st) := mj_R2 (r := (.ifCond .eq 44, 3, 0, 0, 0)) rfl rfl
theorem s329_69 {d : Nat} {ls : mj_L} {st : List Value} {M : mj_H} : mj_Rn d mj_m329 69 ls st M = mq_k0 d mj_m329 70 ls M (mj_lda (mj_lk ls 0) st) := mj_R0 (r := (.aload_n 0, 1, 0, 0, 0)) rfl rfl
theorem s329_70 {d : Nat} {ls : mj_L} {st : List Value} {M : mj_H} : mj_Rn d mj_m329 70 ls st M = mq_k0 d mj_m329 71 ls M (mj_ldi (mj_lk ls 3) st) := mj_R0 (r := (.iload_n 3, 1, 0, 0, 0)) rfl rfl
theorem s329_71 {d : Nat} {ls : mj_L} {st : List Value} {M : mj_H} : mj_Rn (d + 1) mj_m329 71 ls st M = mq_k5a (d + 1) mj_m329 74 ls M 313 (mq_cb 0 1 11 st M) := mj_R5e (r := (.invokevirtual 460, 3, 0, 313, 36963)) (z := mj_m313) rfl rfl (by decide) (by decide) rfl
theorem s329_74 {d : Nat} {ls : mj_L} {st : List Value} {M : mj_H} : mj_Rn d mj_m329 74 ls st M = mq_k0 d mj_m329 76 ls M (mj_ldi (mj_lk ls 4) st) := mj_R0 (r := (.iload 4, 2, 0, 0, 0)) rfl rfl
theorem s329_76 {d : Nat} {ls : mj_L} {st : List Value} {M : mj_H} : mj_Rn d mj_m329 76 ls st M = mq_k2 d mj_m329 ls M (mj_br (.if_icmp .ne 34) 76 st) := mj_R2 (r := (.if_icmp .ne 34, 3, 0, 0, 0)) rfl rfl
theorem s329_79 {d : Nat} {ls : mj_L} {st : List Value} {M : mj_H} : mj_Rn d mj_m329 79 ls st M = mq_k0 d mj_m329 80 ls M (mj_lda (mj_lk ls 0) st) := mj_R0 (r := (.aload_n 0, 1, 0, 0, 0)) rfl rfl
theorem s329_80 {d : Nat} {ls : mj_L} {st : List Value} {M : mj_H} : mj_Rn d mj_m329 80 ls st M = mq_k0 d mj_m329 83 ls M (mq_gf 11 36 st M) := (mj_R3 (r := (.getfield 100, 3, 11, 36, 57380)) rfl rfl).trans (congrArg (mq_k0 d mj_m329 83 ls M) mq_gf_eq)
theorem s329_83 {d : Nat} {ls : mj_L} {st : List Value} {M : mj_H} : mj_Rn d mj_m329 83 ls st M = mq_k0 d mj_m329 84 ls M (mj_ldi (mj_lk ls 1) st) := mj_R0 (r := (.iload_n 1, 1, 0, 0, 0)) rfl rfl
theorem s329_84 {d : Nat} {ls : mj_L} {st : List Value} {M : mj_H} : mj_Rn d mj_m329 84 ls st M = mj_Rn d mj_m329 85 ls (.int 0 :: st) M := mj_R0 (r := (.iconst 0, 1, 0, 0, 0)) rfl rfl
theorem s329_85 {d : Nat} {ls : mj_L} {st : List Value} {M : mj_H} : mj_Rn d mj_m329 85 ls st M = mq_k4 d mj_m329 86 ls (mj_hw (.iastore, 1, 0, 0, 0) st M) := mj_R4 (r := (.iastore, 1, 0, 0, 0)) rfl rfl
theorem s329_86 {d : Nat} {ls : mj_L} {st : List Value} {M : mj_H} : mj_Rn d mj_m329 86 ls st M = mq_k0 d mj_m329 87 ls M (mj_lda (mj_lk ls 0) st) := mj_R0 (r := (.aload_n 0, 1, 0, 0, 0)) rfl rfl
theorem s329_87 {d : Nat} {ls : mj_L} {st : List Value} {M : mj_H} : mj_Rn d mj_m329 87 ls st M = mq_k0 d mj_m329 88 ls M (mj_ldi (mj_lk ls 1) st) := mj_R0 (r := (.iload_n 1, 1, 0, 0, 0)) rfl rfl
theorem s329_88 {d : Nat} {ls : mj_L} {st : List Value} {M : mj_H} : mj_Rn d mj_m329 88 ls st M = mq_k0 d mj_m329 89 ls M (mj_lda (mj_lk ls 0) st) := mj_R0 (r := (.aload_n 0, 1, 0, 0, 0)) rfl rfl
theorem s329_89 {d : Nat} {ls : mj_L} {st : List Value} {M : mj_H} : mj_Rn d mj_m329 89 ls st M = mq_k0 d mj_m329 92 ls M (mq_gf 11 43 st M) := (mj_R3 (r := (.getfield 121, 3, 11, 43, 57394)) rfl rfl).trans (congrArg (mq_k0 d mj_m329 92 ls M) mq_gf_eq)
theorem s329_92 {d : Nat} {ls : mj_L} {st : List Value} {M : mj_H} : mj_Rn d mj_m329 92 ls st M = mj_Rn d mj_m329 94 ls (.int 8 :: st) M := mj_R0 (r := (.bipush 8, 2, 0, 0, 0)) rfl rfl
theorem s329_94 {d : Nat} {ls : mj_L} {st : List Value} {M : mj_H} : mj_Rn (d + 1) mj_m329 94 ls st M = mq_k5a (d + 1) mj_m329 97 ls M 265 (mq_cb 2 2 11 st M) := mj_R5e (r := (.invokestatic 344, 3, 2, 265, 32913)) (z := mj_m265) rfl rfl (by decide) (by decide) rfl
theorem s329_97 {d : Nat} {ls : mj_L} {st : List Value} {M : mj_H} : mj_Rn (d + 1) mj_m329 97 ls st M = mq_k5a (d + 1) mj_m329 100 ls M 288 (mq_cb 0 2 11 st M) := mj_R5e (r := (.invokevirtual 509, 3, 0, 288, 33003)) (z := mj_m288) rfl rfl (by decide) (by decide) rfl
theorem s329_100 {d : Nat} {ls : mj_L} {st : List Value} {M : mj_H} : mj_Rn d mj_m329 100 ls st M = mq_k2 d mj_m329 ls M (mj_br (.ifCond .eq 7) 100 st) := mj_R2 (r := (.ifCond .eq 7, 3, 0, 0, 0)) rfl rfl
theorem s329_103 {d : Nat} {ls : mj_L} {st : List Value} {M : mj_H} : mj_Rn d mj_m329 103 ls st M = mj_Rn d mj_m329 104 ls (.int 0 :: st) M := mj_R0 (r := (.iconst 0, 1, 0, 0, 0)) rfl rfl
theorem s329_104 {d : Nat} {ls : mj_L} {st : List Value} {M : mj_H} : mj_Rn d mj_m329 104 ls st M = mj_Rn d mj_m329 109 ls st M := mj_R2 (r := (.goto 5, 3, 0, 0, 0)) rfl rfl
theorem s329_107 {d : Nat} {ls : mj_L} {st : List Value} {M : mj_H} : mj_Rn d mj_m329 107 ls st M = mj_Rn d mj_m329 109 ls (.int (-3) :: st) M := mj_R0 (r := (.bipush (-3), 2, 0, 0, 0)) rfl rfl
theorem s329_109 {d : Nat} {ls : mj_L} {st : List Value} {M : mj_H} : mj_Rn d mj_m329 109 ls st M = mq_k6 M (mj_re (some .int) (.ireturn) st) := mj_R6 (r := (.ireturn, 1, 0, 0, 0)) rfl rfl
theorem s329_110 {d : Nat} {ls : mj_L} {st : List Value} {M : mj_H} : mj_Rn d mj_m329 110 ls st M = mq_k0 d mj_m329 111 ls M (mj_lda (mj_lk ls 0) st) := mj_R0 (r := (.aload_n 0, 1, 0, 0, 0)) rfl rfl
theorem s329_111 {d : Nat} {ls : mj_L} {st : List Value} {M : mj_H} : mj_Rn d mj_m329 111 ls st M = mq_k0 d mj_m329 114 ls M (mq_gf 11 34 st M) := (mj_R3 (r := (.getfield 94, 3, 11, 34, 57376)) rfl rfl).trans (congrArg (mq_k0 d mj_m329 114 ls M) mq_gf_eq)
theorem s329_114 {d : Nat} {ls : mj_L} {st : List Value} {M : mj_H} : mj_Rn d mj_m329 114 ls st M = mq_k0 d mj_m329 115 ls M (mj_ldi (mj_lk ls 1) st) := mj_R0 (r := (.iload_n 1, 1, 0, 0, 0)) rfl rfl
theorem s329_115 {d : Nat} {ls : mj_L} {st : List Value} {M : mj_H} : mj_Rn d mj_m329 115 ls st M = mq_k0 d mj_m329 116 ls M (mj_lda (mj_lk ls 0) st) := mj_R0 (r := (.aload_n 0, 1, 0, 0, 0)) rfl rfl
theorem s329_116 {d : Nat} {ls : mj_L} {st : List Value} {M : mj_H} : mj_Rn (d + 1) mj_m329 116 ls st M = mq_k5a (d + 1) mj_m329 119 ls M 269 (mq_cb 0 0 11 st M) := mj_R5e (r := (.invokevirtual 386, 3, 0, 269, 32927)) (z := mj_m269) rfl rfl (by decide) (by decide) rfl
theorem s329_119 {d : Nat} {ls : mj_L} {st : List Value} {M : mj_H} : mj_Rn d mj_m329 119 ls st M = mq_k4 d mj_m329 120 ls (mj_hw (.iastore, 1, 0, 0, 0) st M) := mj_R4 (r := (.iastore, 1, 0, 0, 0)) rfl rfl
theorem s329_120 {d : Nat} {ls : mj_L} {st : List Value} {M : mj_H} : mj_Rn d mj_m329 120 ls st M = mq_k0 d mj_m329 121 ls M (mj_lda (mj_lk ls 0) st) := mj_R0 (r := (.aload_n 0, 1, 0, 0, 0)) rfl rfl
theorem s329_121 {d : Nat} {ls : mj_L} {st : List Value} {M : mj_H} : mj_Rn d mj_m329 121 ls st M = mq_k0 d mj_m329 124 ls M (mq_gf 11 36 st M) := (mj_R3 (r := (.getfield 100, 3, 11, 36, 57380)) rfl rfl).trans (congrArg (mq_k0 d mj_m329 124 ls M) mq_gf_eq)
theorem s329_124 {d : Nat} {ls : mj_L} {st : List Value} {M : mj_H} : mj_Rn d mj_m329 124 ls st M = mq_k0 d mj_m329 125 ls M (mj_ldi (mj_lk ls 1) st) := mj_R0 (r := (.iload_n 1, 1, 0, 0, 0)) rfl rfl
theorem s329_125 {d : Nat} {ls : mj_L} {st : List Value} {M : mj_H} : mj_Rn d mj_m329 125 ls st M = mq_k0 d mj_m329 126 ls M (mj_pu .dup2 ls st) := mj_R0 (r := (.dup2, 1, 0, 0, 0)) rfl rfl
theorem s329_126 {d : Nat} {ls : mj_L} {st : List Value} {M : mj_H} : mj_Rn d mj_m329 126 ls st M = mq_k0 d mj_m329 127 ls M (mq_al [1000] st M) := (mj_R3 (r := (.iaload, 1, 0, 0, 0)) rfl rfl).trans (congrArg (mq_k0 d mj_m329 127 ls M) mq_ali_eq)
theorem s329_127 {d : Nat} {ls : mj_L} {st : List Value} {M : mj_H} : mj_Rn d mj_m329 127 ls st M = mj_Rn d mj_m329 128 ls (.int 1 :: st) M := mj_R0 (r := (.iconst 1, 1, 0, 0, 0)) rfl rfl
theorem s329_128 {d : Nat} {ls : mj_L} {st : List Value} {M : mj_H} : mj_Rn d mj_m329 128 ls st M = mq_k0 d mj_m329 129 ls M (mj_pu .iadd ls st) := mj_R0 (r := (.iadd, 1, 0, 0, 0)) rfl rfl
theorem s329_129 {d : Nat} {ls : mj_L} {st : List Value} {M : mj_H} : mj_Rn d mj_m329 129 ls st M = mq_k4 d mj_m329 130 ls (mj_hw (.iastore, 1, 0, 0, 0) st M) := mj_R4 (r := (.iastore, 1, 0, 0, 0)) rfl rfl
theorem s329_130 {d : Nat} {ls : mj_L} {st : List Value} {M : mj_H} : mj_Rn d mj_m329 130 ls st M = mq_k0 d mj_m329 131 ls M (mj_lda (mj_lk ls 0) st) := mj_R0 (r := (.aload_n 0, 1, 0, 0, 0)) rfl rfl
theorem s329_131 {d : Nat} {ls : mj_L} {st : List Value} {M : mj_H} : mj_Rn d mj_m329 131 ls st M = mq_k0 d mj_m329 134 ls M (mq_gf 11 25 st M) := (mj_R3 (r := (.getfield 67, 3, 11, 25, 57358)) rfl rfl).trans (congrArg (mq_k0 d mj_m329 134 ls M) mq_gf_eq)
theorem s329_134 {d : Nat} {ls : mj_L} {st : List Value} {M : mj_H} : mj_Rn d mj_m329 134 ls st M = mq_k0 d mj_m329 135 ls M (mj_ldi (mj_lk ls 1) st) := mj_R0 (r := (.iload_n 1, 1, 0, 0, 0)) rfl rfl
theorem s329_135 {d : Nat} {ls : mj_L} {st : List Value} {M : mj_H} : mj_Rn d mj_m329 135 ls st M = mq_k0 d mj_m329 136 ls M (mq_al [1000] st M) := (mj_R3 (r := (.iaload, 1, 0, 0, 0)) rfl rfl).trans (congrArg (mq_k0 d mj_m329 136 ls M) mq_ali_eq)
theorem s329_136 {d : Nat} {ls : mj_L} {st : List Value} {M : mj_H} : mj_Rn d mj_m329 136 ls st M = mq_k2 d mj_m329 ls M (mj_br (.ifCond .ne 8) 136 st) := mj_R2 (r := (.ifCond .ne 8, 3, 0, 0, 0)) rfl rfl
theorem s329_139 {d : Nat} {ls : mj_L} {st : List Value} {M : mj_H} : mj_Rn d mj_m329 139 ls st M = mj_Rn d mj_m329 141 ls (.int 50 :: st) M := mj_R0 (r := (.bipush 50, 2, 0, 0, 0)) rfl rfl
theorem s329_141 {d : Nat} {ls : mj_L} {st : List Value} {M : mj_H} : mj_Rn d mj_m329 141 ls st M = mj_Rn d mj_m329 161 ls st M := mj_R2 (r := (.goto 20, 3, 0, 0, 0)) rfl rfl
theorem s329_144 {d : Nat} {ls : mj_L} {st : List Value} {M : mj_H} : mj_Rn d mj_m329 144 ls st M = mq_k0 d mj_m329 145 ls M (mj_lda (mj_lk ls 0) st) := mj_R0 (r := (.aload_n 0, 1, 0, 0, 0)) rfl rfl
theorem s329_145 {d : Nat} {ls : mj_L} {st : List Value} {M : mj_H} : mj_Rn d mj_m329 145 ls st M = mq_k0 d mj_m329 148 ls M (mq_gf 11 36 st M) := (mj_R3 (r := (.getfield 100, 3, 11, 36, 57380)) rfl rfl).trans (congrArg (mq_k0 d mj_m329 148 ls M) mq_gf_eq)
theorem s329_148 {d : Nat} {ls : mj_L} {st : List Value} {M : mj_H} : mj_Rn d mj_m329 148 ls st M = mq_k0 d mj_m329 149 ls M (mj_ldi (mj_lk ls 1) st) := mj_R0 (r := (.iload_n 1, 1, 0, 0, 0)) rfl rfl
theorem s329_149 {d : Nat} {ls : mj_L} {st : List Value} {M : mj_H} : mj_Rn d mj_m329 149 ls st M = mq_k0 d mj_m329 150 ls M (mq_al [1000] st M) := (mj_R3 (r := (.iaload, 1, 0, 0, 0)) rfl rfl).trans (congrArg (mq_k0 d mj_m329 150 ls M) mq_ali_eq)
theorem s329_150 {d : Nat} {ls : mj_L} {st : List Value} {M : mj_H} : mj_Rn d mj_m329 150 ls st M = mj_Rn d mj_m329 151 ls (.int 3 :: st) M := mj_R0 (r := (.iconst 3, 1, 0, 0, 0)) rfl rfl
theorem s329_151 {d : Nat} {ls : mj_L} {st : List Value} {M : mj_H} : mj_Rn d mj_m329 151 ls st M = mq_k2 d mj_m329 ls M (mj_br (.if_icmp .ne 8) 151 st) := mj_R2 (r := (.if_icmp .ne 8, 3, 0, 0, 0)) rfl rfl
theorem s329_154 {d : Nat} {ls : mj_L} {st : List Value} {M : mj_H} : mj_Rn d mj_m329 154 ls st M = mj_Rn d mj_m329 156 ls (.int 52 :: st) M := mj_R0 (r := (.bipush 52, 2, 0, 0, 0)) rfl rfl
theorem s329_156 {d : Nat} {ls : mj_L} {st : List Value} {M : mj_H} : mj_Rn d mj_m329 156 ls st M = mj_Rn d mj_m329 161 ls st M := mj_R2 (r := (.goto 5, 3, 0, 0, 0)) rfl rfl
theorem s329_159 {d : Nat} {ls : mj_L} {st : List Value} {M : mj_H} : mj_Rn d mj_m329 159 ls st M = mj_Rn d mj_m329 161 ls (.int 49 :: st) M := mj_R0 (r := (.bipush 49, 2, 0, 0, 0)) rfl rfl
theorem s329_161 {d : Nat} {ls : mj_L} {st : List Value} {M : mj_H} : mj_Rn d mj_m329 161 ls st M = mq_k6 M (mj_re (some .int) (.ireturn) st) := mj_R6 (r := (.ireturn, 1, 0, 0, 0)) rfl rfl
theorem c325 {d : Nat} {a0 : Nat} {x1 : Int32} {x2 : Int32} {M : mj_H} : mj_V (d + 1) 325 [.ref a0, .int x1, .int x2] M = mj_Rn d mj_m325 0 [(0, .ref a0), (1, .int x1), (2, .int x2)] [] M := mj_V_go rfl (Nat.le_of_ble_eq_true rfl)
theorem c327 {d : Nat} {a0 : Nat} {x1 : Int32} {x2 : Int32} {x3 : Int32} {x4 : Int32} {M : mj_H} : mj_V (d + 1) 327 [.ref a0, .int x1, .int x2, .int x3, .int x4] M = mj_Rn d mj_m327 0 [(0, .ref a0), (1, .int x1), (2, .int x2), (3, .int x3), (4, .int x4)] [] M := mj_V_go rfl (Nat.le_of_ble_eq_true rfl)
theorem c328 {d : Nat} {a0 : Nat} {x1 : Int32} {x2 : Int32} {x3 : Int32} {M : mj_H} : mj_V (d + 1) 328 [.ref a0, .int x1, .int x2, .int x3] M = mj_Rn d mj_m328 0 [(0, .ref a0), (1, .int x1), (2, .int x2), (3, .int x3)] [] M := mj_V_go rfl (Nat.le_of_ble_eq_true rfl)
theorem c329 {d : Nat} {a0 : Nat} {x1 : Int32} {x2 : Int32} {x3 : Int32} {M : mj_H} : mj_V (d + 1) 329 [.ref a0, .int x1, .int x2, .int x3] M = mj_Rn d mj_m329 0 [(0, .ref a0), (1, .int x1), (2, .int x2), (3, .int x3)] [] M := mj_V_go rfl (Nat.le_of_ble_eq_true rfl)
def tk9 (T : Tm) : Prop := (∀ r, (4 :: 0 :: r) ∉ T.1) ∧ (∀ r, (5 :: 0 :: r) ∉ T.1) ∧ (∀ r, (2 :: 0 :: r) ∉ T.1)
theorem tk9.e4 {T : Tm} (hh_ : tk9 T) : ∀ r, (4 :: 0 :: r) ∉ T.1 := hh_.1
theorem tk9.m5 {T : Tm} (hh_ : tk9 T) : ∀ r, (5 :: 0 :: r) ∉ T.1 := hh_.2.1
theorem tk9.p2 {T : Tm} (hh_ : tk9 T) : ∀ r, (2 :: 0 :: r) ∉ T.1 := hh_.2.2
theorem tk9_mk_ {T : Tm} (f_0_ : ∀ r, (4 :: 0 :: r) ∉ T.1) (f_1_ : ∀ r, (5 :: 0 :: r) ∉ T.1) (f_2_ : ∀ r, (2 :: 0 :: r) ∉ T.1) : tk9 T := And.intro f_0_ (And.intro f_1_ f_2_)
theorem ix_mem {rows : List (List Int32)} {row : List Int32} (h : tm_ix rows row ≠ 0) : row ∈ rows := by
  have key : ∀ t, tm_last rows row t ≠ 0 → row ∈ rows := by
    intro t
    induction t with
    | zero => intro h; exact absurd rfl h
    | succ t ih =>
      intro h
      unfold tm_last at h
      split at h
      · next hq => exact List.mem_of_getElem? hq
      · exact ih h
  exact key _ h
section
variable {d : Nat} {B : Bs} {x : Fx} {y : Sy} {j g : Nat} {k : Ky} {m : Mk} {T : Tm} {D O ms : List Int32}
theorem rowI (h : yz y T D O) {e v : Int32} (hv : bt_at (tm_row T.1 e) 0 = v) (hne : v ≠ -1) : ∃ (i : Nat) (hi : i < T.1.length), e = nI (i + 1) ∧ tm_row T.1 e = T.1[i] := by
  rcases mq_int1 e with h1 | ⟨i, hi, rfl⟩
  · have e1 : tm_row T.1 e = [] := by unfold tm_row; rw [if_pos h1]
    rw [e1] at hv
    exact absurd hv.symm hne
  · by_cases hl : i < T.1.length
    · exact ⟨i, hl, rfl, by rw [tm_row_nI hi]; simp [S_cb_mmade4_0, S_bx_mcan1_0, S_b8_mkey_1, S_b8_mkey_0, S_b1_mterm_0, S_b1_copy_0, S_b0_mod_7, S_b0_mod_6, S_b0_mod_5, S_b0_mod_3, S_b0_mod_2, S_b0_mod_1, S_b0_mod_0, S_cb_mmade4_1h, S_bx_mcan1_1h, S_b0_mod_4h, List.getD, hl]⟩
    · have e1 : tm_row T.1 (nI (i + 1)) = [] := by rw [tm_row_nI hi]; simp [S_cb_mmade4_0, S_bx_mcan1_0, S_b8_mkey_1, S_b8_mkey_0, S_b1_mterm_0, S_b1_copy_0, S_b0_mod_7, S_b0_mod_6, S_b0_mod_5, S_b0_mod_3, S_b0_mod_2, S_b0_mod_1, S_b0_mod_0, S_cb_mmade4_1h, S_bx_mcan1_1h, S_b0_mod_4h, List.getD, hl]
      rw [e1] at hv
      exact absurd hv.symm hne
theorem yz.slice (h : yz y T D O) {i : Nat} (hi : i < T.1.length) (h2 : 2 ≤ T.1[i].length) : (y.1.2.1.1.2.drop (tm_end T.1 i + 2)).take (T.1[i].length - 2) = T.1[i].drop 2 := by
  apply sub_eq _ (by simp [S_cb_mmade4_0, S_bx_mcan1_0, S_b8_mkey_1, S_b8_mkey_0, S_b1_mterm_0, S_b1_copy_0, S_b0_mod_7, S_b0_mod_6, S_b0_mod_5, S_b0_mod_3, S_b0_mod_2, S_b0_mod_1, S_b0_mod_0, S_cb_mmade4_1h, S_bx_mcan1_1h, S_b0_mod_4h])
  intro q hq
  rw [List.getElem?_drop, Nat.add_assoc, h.row hi (by omega), List.getElem?_eq_getElem (by omega)]
theorem q_theKey (hx : xk x) (hj : j < 3) (hk : kr k m) (hy : yz y T D O) (s : Int32) : ∃ y', mj_V (d + 3) 325 [.ref 67, .int (nI j), .int s] (mm B (x.wk j k.1.1.1.1 m) y) = some (some (.int (nI (tm_ix T.1 (tm_agr (nI k.1.2.2.2) s)))), mm B (x.wk j k.1.1.1.1 m) y') ∧ yz y' T (tm_agr (nI k.1.2.2.2) s) O ∧ y'.nd = y.nd := by
  obtain ⟨y1, p1, z1, k1⟩ := q_beginAgreed (d := d) (B := B) (x := x.wk j k.1.1.1.1 m) hy m.1.1.2.1 s
  rw [hk.ag] at p1 z1
  have p2 := q_found (d := d) (B := B) (x := x.wk j k.1.1.1.1 m) z1 (by simp [S_cb_mmade4_0, S_bx_mcan1_0, S_b8_mkey_1, S_b8_mkey_0, S_b1_mterm_0, S_b1_copy_0, S_b0_mod_7, S_b0_mod_6, S_b0_mod_5, S_b0_mod_3, S_b0_mod_2, S_b0_mod_1, S_b0_mod_0, S_cb_mmade4_1h, S_bx_mcan1_1h, S_b0_mod_4h, tm_agr])
  refine ⟨y1, ?_, z1, k1⟩
  have ha := hk.ag
  generalize tm_agr (nI k.1.2.2.2) s = row at *
  simp (disch := (first | omega | decide)) [S_cb_mmade4_0, S_bx_mcan1_0, S_b8_mkey_1, S_b8_mkey_0, S_b1_mterm_0, S_b1_copy_0, S_b0_mod_7, S_b0_mod_6, S_b0_mod_5, S_b0_mod_3, S_b0_mod_2, S_b0_mod_1, S_b0_mod_0, S_cb_mmade4_1h, S_bx_mcan1_1h, S_b0_mod_4h, c325, s325_0, s325_1, s325_2, s325_5, s325_6, s325_7, s325_8, s325_11, s325_12, s325_15, mq_k0s, mq_k1s, mq_k2s, mq_k4s, mq_k5s, mq_k5n, mq_k5as, mq_k6s, mj_pu, mj_lo, mj_br, mj_hr, mj_hw, mq_gf, mq_len, mq_al, mq_pf, mq_ok, mj_re, mq_lkm, mq_lkn, mj_ldi, mj_ldl, mj_lda, mj_ii, mj_ll, mj_li, mj_i1, ms_1, ms_2, f1_n, f1_i, f1_r, f1_u, f1_l, f2_n, f2_i, f2_r, f2_u, f2_l, mj_tg, mj_c1, mj_c2, mj_ar, mj_aw, mq_cb, mq_oi, mj_rm, Value.category, -getElem?_pos, List.getElem?_cons_zero, decide_eq_true, decide_eq_false, nl_lt, nl_le, ln_lt, ln_le, nl_eq, ln_eq, nl_add, ln_add, nl_sub, ln_mul, nI_sub, nI_mul, nI_add, nI_lt_iff, nI_le_iff, nI_inj, nI_num, mq_ix, nI_1, nl_mul, nl_div, wkc_on hx hj, wkl_on hx, wkc_acts hx hj, wkl_acts hx, wkc_limit hx hj, wkl_limit hx, wkc_generation hx hj, wkl_generation hx, wkc_area hx hj, wkl_area hx, wkc_fend hx hj, wkl_fend hx, wkc_master hx hj, wkl_master hx, wkc_pinOf hx hj, wkl_pinOf hx, wkc_tries hx hj, wkl_tries hx, wkc_own hx hj, wkl_own hx, wkc_creds hx hj, wkl_creds hx, wkc_presses hx hj, wkl_presses hx, wkc_taken hx hj, wkl_taken hx, wkc_answered hx hj, wkl_answered hx, wkc_agreeing hx hj, wkl_agreeing hx, wkc_token hx hj, wkl_token hx, wkc_wrong hx hj, wkl_wrong hx, wkc_heard hx hj, wkl_heard hx, wkc_listed hx hj, wkl_listed hx, wkc_listAt hx hj, wkl_listAt hx, wkc_listHash hx hj, wkl_listHash hx, wkc_listFlags hx hj, wkl_listFlags hx, wkc_answerSize hx hj, wkl_answerSize hx, wkc_flash hx hj, wkl_flash hx hj, ha, p1, p2, narrow]
/-- a term number that is known, and the value of an item -/
theorem kn_of (h8 : ∀ v ∈ ms, v &&& 255 = v) {row : List Int32} {p : Nat} (h2 : cbS ms p = 2) (hix : tm_ix T.1 row < 2 ^ 30) : kn_as T row (o4 ms (some p)) = (!decide (tm_ix T.1 row = 0) && (decide (cbV ms p = 4) && decide (nI (tm_ix T.1 row) = w4a ms (cbC ms p)))) := by
  unfold kn_as
  by_cases h0 : tm_ix T.1 row = 0
  · simp [S_cb_mmade4_0, S_bx_mcan1_0, S_b8_mkey_1, S_b8_mkey_0, S_b1_mterm_0, S_b1_copy_0, S_b0_mod_7, S_b0_mod_6, S_b0_mod_5, S_b0_mod_3, S_b0_mod_2, S_b0_mod_1, S_b0_mod_0, S_cb_mmade4_1h, S_bx_mcan1_1h, S_b0_mod_4h, h0]
  · by_cases h4 : cbV ms p = 4
    · rw [o4_w4 h8 h2 h4]
      simp [S_cb_mmade4_0, S_bx_mcan1_0, S_b8_mkey_1, S_b8_mkey_0, S_b1_mterm_0, S_b1_copy_0, S_b0_mod_7, S_b0_mod_6, S_b0_mod_5, S_b0_mod_3, S_b0_mod_2, S_b0_mod_1, S_b0_mod_0, S_cb_mmade4_1h, S_bx_mcan1_1h, S_b0_mod_4h, h0, h4]
    · rw [o4_no h4]
      have : ¬ nI (tm_ix T.1 row) = 0 := fun z => h0 ((nI_inj (b := 0) (by omega) (by omega)).mp z)
      simp [S_cb_mmade4_0, S_bx_mcan1_0, S_b8_mkey_1, S_b8_mkey_0, S_b1_mterm_0, S_b1_copy_0, S_b0_mod_7, S_b0_mod_6, S_b0_mod_5, S_b0_mod_3, S_b0_mod_2, S_b0_mod_1, S_b0_mod_0, S_cb_mmade4_1h, S_bx_mcan1_1h, S_b0_mod_4h, this, h4]
theorem q_isMac (h : xm x ms) (hy : yz y T D O) (h9 : tk9 T) {sh : Nat} (hsh : sh < 2 ^ 30) {pm pf : Nat} (im : Io ms pm) (sm : cbS ms pm = 2) (jf : Io ms pf) (sf : cbS ms pf = 2) {os : Option Nat} (hos : oJ ms os) (ss : ∀ p, os = some p → cbS ms p = 2) (hlen : (oBy ms (some pf)).length + (oBy ms os).length ≤ 400) :
    ∃ y' D', yz y' T D' O ∧ yk y' = yk y ∧ mj_V (d + 4) 327 [.ref 67, .int (nI sh), .int (nI pm), .int (nI pf), .int (oP os)] (mm B x y) = some (some (.int (on1 (kn_as T (5 :: nI sh :: (oBy ms (some pf) ++ oBy ms os)) (o4 ms (some pm))))), mm B x y') := by
  have hdm := (cbOk_hd.mp im.ok).1
  have hdf := (cbOk_hd.mp jf.ok).1
  have hinf := (cbOk_hd.mp jf.ok).2 (Or.inl sf)
  have hVm := hdm.2.2.2.2.2.1
  have hlf := oBy_len hinf
  have ri := fun yy : Sy => q_isInt (d := d) (B := B) (x := x) (y := yy) h hdm.1 hdm.2.2.2.1 hVm
  by_cases hs0 : sh = 0
  · subst hs0
    have : kn_as T (5 :: nI 0 :: (oBy ms (some pf) ++ oBy ms os)) (o4 ms (some pm)) = false := by
      unfold kn_as
      by_cases z : tm_ix T.1 (5 :: nI 0 :: (oBy ms (some pf) ++ oBy ms os)) = 0
      · simp [S_cb_mmade4_0, S_bx_mcan1_0, S_b8_mkey_1, S_b8_mkey_0, S_b1_mterm_0, S_b1_copy_0, S_b0_mod_7, S_b0_mod_6, S_b0_mod_5, S_b0_mod_3, S_b0_mod_2, S_b0_mod_1, S_b0_mod_0, S_cb_mmade4_1h, S_bx_mcan1_1h, S_b0_mod_4h, z]
      · exact absurd (ix_mem z) (h9.m5 _)
    rw [this]
    refine ⟨y, D, hy, rfl, ?_⟩
    generalize oP os = v4
    rw [nI_0]
    simp (disch := (first | omega | decide)) [S_cb_mmade4_0, S_bx_mcan1_0, S_b8_mkey_1, S_b8_mkey_0, S_b1_mterm_0, S_b1_copy_0, S_b0_mod_7, S_b0_mod_6, S_b0_mod_5, S_b0_mod_3, S_b0_mod_2, S_b0_mod_1, S_b0_mod_0, S_cb_mmade4_1h, S_bx_mcan1_1h, S_b0_mod_4h, c327, s327_0, s327_1, s327_4, s327_5, s327_6, s327_9, s327_12, s327_13, s327_14, s327_15, s327_16, s327_19, s327_20, s327_21, s327_24, s327_25, s327_26, s327_29, s327_30, s327_31, s327_34, s327_35, s327_36, s327_39, s327_42, s327_44, s327_45, s327_48, s327_49, s327_50, s327_53, s327_54, s327_56, s327_59, s327_60, s327_62, s327_65, s327_68, s327_69, s327_72, s327_74, s327_76, s327_79, s327_81, s327_82, s327_83, s327_86, s327_89, s327_90, s327_93, s327_94, mq_k0s, mq_k1s, mq_k2s, mq_k4s, mq_k5s, mq_k5n, mq_k5as, mq_k6s, mj_pu, mj_lo, mj_br, mj_hr, mj_hw, mq_gf, mq_len, mq_al, mq_pf, mq_ok, mj_re, mq_lkm, mq_lkn, mj_ldi, mj_ldl, mj_lda, mj_ii, mj_ll, mj_li, mj_i1, ms_1, ms_2, f1_n, f1_i, f1_r, f1_u, f1_l, f2_n, f2_i, f2_r, f2_u, f2_l, mj_tg, mj_c1, mj_c2, mj_ar, mj_aw, mq_cb, mq_oi, mj_rm, Value.category, -getElem?_pos, List.getElem?_cons_zero, decide_eq_true, decide_eq_false, nl_lt, nl_le, ln_lt, ln_le, nl_eq, ln_eq, nl_add, ln_add, nl_sub, ln_mul, nI_sub, nI_mul, nI_add, nI_lt_iff, nI_le_iff, nI_inj, nI_num, mq_ix, nI_1, nl_mul, nl_div, on1, narrow_b0]
  · have hsn : ¬ nI sh = 0 := fun z => hs0 ((nI_inj (b := 0) (by omega) (by omega)).mp z)
    by_cases h4 : cbV ms pm = 4
    · obtain ⟨y1, p1, z1, k1⟩ := q_begin (d := d + 2) (B := B) (x := x) hy 5
      obtain ⟨y2, p2, z2, k2⟩ := q_say (d := d + 2) (B := B) (x := x) z1 (by simp [S_cb_mmade4_0, S_bx_mcan1_0, S_b8_mkey_1, S_b8_mkey_0, S_b1_mterm_0, S_b1_copy_0, S_b0_mod_7, S_b0_mod_6, S_b0_mod_5, S_b0_mod_3, S_b0_mod_2, S_b0_mod_1, S_b0_mod_0, S_cb_mmade4_1h, S_bx_mcan1_1h, S_b0_mod_4h]) (nI sh)
      have r2 := q_numberAt (d := d + 1) (B := B) (x := x) (y := y2) h hdf.1 hdf.2.2.2.1
      have rb := q_behindHead (d := d + 1) (B := B) (x := x) (y := y2) h hdf.1
      obtain ⟨y3, p3, z3, k3⟩ := q_sayItem (d := d + 1) (B := B) (x := x) h z2 hinf (by simp [S_cb_mmade4_0, S_bx_mcan1_0, S_b8_mkey_1, S_b8_mkey_0, S_b1_mterm_0, S_b1_copy_0, S_b0_mod_7, S_b0_mod_6, S_b0_mod_5, S_b0_mod_3, S_b0_mod_2, S_b0_mod_1, S_b0_mod_0, S_cb_mmade4_1h, S_bx_mcan1_1h, S_b0_mod_4h]; omega)
      have hin4 := (cbOk_hd.mp im.ok).2 (Or.inl sm)
      rw [h4] at hin4
      have rI := fun yy : Sy => q_itemInt (d := d) (B := B) (x := x) (y := yy) h hdm.1 hin4
      have rr := ri y
      rw [decide_eq_true h4] at rr
      simp only [on1, if_true] at rr
      have e3 : [5] ++ [nI sh] ++ (ms.drop (cbC ms pf)).take (cbV ms pf) = 5 :: nI sh :: (oBy ms (some pf) ++ []) := by
        rw [List.append_nil]; rfl
      -- behind the second item
      have fin : ∀ (y4 : Sy) (row : List Int32), 0 < row.length → yz y4 T row O → ∀ v4 : Int32, mj_Rn (d + 3) mj_m327 68 [(0, .ref 67), (1, .int (nI sh)), (2, .int (nI pm)), (3, .int (nI pf)), (4, .int v4)] [] (mm B x y4) = some (some (.int (on1 (kn_as T row (o4 ms (some pm))))), mm B x y4) := by
        intro y4 row h0 z4 v4
        have hix := ix_lt (row := row) z4
        have rf := q_found (d := d + 1) (B := B) (x := x) z4 h0
        rw [kn_of h.2.2 sm hix, decide_eq_true h4, Bool.true_and]
        have rI := rI y4
        generalize tm_ix T.1 row = ix at *
        generalize w4a ms (cbC ms pm) = id at *
        by_cases hz : ix = 0
        · rw [hz, nI_0] at rf
          simp only [hz, decide_true, Bool.not_true, Bool.false_and]
          simp (disch := (first | omega | decide)) [S_cb_mmade4_0, S_bx_mcan1_0, S_b8_mkey_1, S_b8_mkey_0, S_b1_mterm_0, S_b1_copy_0, S_b0_mod_7, S_b0_mod_6, S_b0_mod_5, S_b0_mod_3, S_b0_mod_2, S_b0_mod_1, S_b0_mod_0, S_cb_mmade4_1h, S_bx_mcan1_1h, S_b0_mod_4h, s327_0, s327_1, s327_4, s327_5, s327_6, s327_9, s327_12, s327_13, s327_14, s327_15, s327_16, s327_19, s327_20, s327_21, s327_24, s327_25, s327_26, s327_29, s327_30, s327_31, s327_34, s327_35, s327_36, s327_39, s327_42, s327_44, s327_45, s327_48, s327_49, s327_50, s327_53, s327_54, s327_56, s327_59, s327_60, s327_62, s327_65, s327_68, s327_69, s327_72, s327_74, s327_76, s327_79, s327_81, s327_82, s327_83, s327_86, s327_89, s327_90, s327_93, s327_94, mq_k0s, mq_k1s, mq_k2s, mq_k4s, mq_k5s, mq_k5n, mq_k5as, mq_k6s, mj_pu, mj_lo, mj_br, mj_hr, mj_hw, mq_gf, mq_len, mq_al, mq_pf, mq_ok, mj_re, mq_lkm, mq_lkn, mj_ldi, mj_ldl, mj_lda, mj_ii, mj_ll, mj_li, mj_i1, ms_1, ms_2, f1_n, f1_i, f1_r, f1_u, f1_l, f2_n, f2_i, f2_r, f2_u, f2_l, mj_tg, mj_c1, mj_c2, mj_ar, mj_aw, mq_cb, mq_oi, mj_rm, Value.category, -getElem?_pos, List.getElem?_cons_zero, decide_eq_true, decide_eq_false, nl_lt, nl_le, ln_lt, ln_le, nl_eq, ln_eq, nl_add, ln_add, nl_sub, ln_mul, nI_sub, nI_mul, nI_add, nI_lt_iff, nI_le_iff, nI_inj, nI_num, mq_ix, nI_1, nl_mul, nl_div, rf, on1, narrow_b0]
        · have hzn : ¬ nI ix = 0 := fun z => hz ((nI_inj (b := 0) (by omega) (by omega)).mp z)
          by_cases he : nI ix = id
          · simp only [hz, he, decide_false, decide_true, Bool.not_false, Bool.and_self]
            rw [he] at rf hzn
            simp (disch := (first | omega | decide)) [S_cb_mmade4_0, S_bx_mcan1_0, S_b8_mkey_1, S_b8_mkey_0, S_b1_mterm_0, S_b1_copy_0, S_b0_mod_7, S_b0_mod_6, S_b0_mod_5, S_b0_mod_3, S_b0_mod_2, S_b0_mod_1, S_b0_mod_0, S_cb_mmade4_1h, S_bx_mcan1_1h, S_b0_mod_4h, s327_0, s327_1, s327_4, s327_5, s327_6, s327_9, s327_12, s327_13, s327_14, s327_15, s327_16, s327_19, s327_20, s327_21, s327_24, s327_25, s327_26, s327_29, s327_30, s327_31, s327_34, s327_35, s327_36, s327_39, s327_42, s327_44, s327_45, s327_48, s327_49, s327_50, s327_53, s327_54, s327_56, s327_59, s327_60, s327_62, s327_65, s327_68, s327_69, s327_72, s327_74, s327_76, s327_79, s327_81, s327_82, s327_83, s327_86, s327_89, s327_90, s327_93, s327_94, mq_k0s, mq_k1s, mq_k2s, mq_k4s, mq_k5s, mq_k5n, mq_k5as, mq_k6s, mj_pu, mj_lo, mj_br, mj_hr, mj_hw, mq_gf, mq_len, mq_al, mq_pf, mq_ok, mj_re, mq_lkm, mq_lkn, mj_ldi, mj_ldl, mj_lda, mj_ii, mj_ll, mj_li, mj_i1, ms_1, ms_2, f1_n, f1_i, f1_r, f1_u, f1_l, f2_n, f2_i, f2_r, f2_u, f2_l, mj_tg, mj_c1, mj_c2, mj_ar, mj_aw, mq_cb, mq_oi, mj_rm, Value.category, -getElem?_pos, List.getElem?_cons_zero, decide_eq_true, decide_eq_false, nl_lt, nl_le, ln_lt, ln_le, nl_eq, ln_eq, nl_add, ln_add, nl_sub, ln_mul, nI_sub, nI_mul, nI_add, nI_lt_iff, nI_le_iff, nI_inj, nI_num, mq_ix, nI_1, nl_mul, nl_div, rf, hzn, rI, on1, narrow_b1]
          · simp only [hz, he, decide_false, Bool.not_false, Bool.and_false]
            simp (disch := (first | omega | decide)) [S_cb_mmade4_0, S_bx_mcan1_0, S_b8_mkey_1, S_b8_mkey_0, S_b1_mterm_0, S_b1_copy_0, S_b0_mod_7, S_b0_mod_6, S_b0_mod_5, S_b0_mod_3, S_b0_mod_2, S_b0_mod_1, S_b0_mod_0, S_cb_mmade4_1h, S_bx_mcan1_1h, S_b0_mod_4h, s327_0, s327_1, s327_4, s327_5, s327_6, s327_9, s327_12, s327_13, s327_14, s327_15, s327_16, s327_19, s327_20, s327_21, s327_24, s327_25, s327_26, s327_29, s327_30, s327_31, s327_34, s327_35, s327_36, s327_39, s327_42, s327_44, s327_45, s327_48, s327_49, s327_50, s327_53, s327_54, s327_56, s327_59, s327_60, s327_62, s327_65, s327_68, s327_69, s327_72, s327_74, s327_76, s327_79, s327_81, s327_82, s327_83, s327_86, s327_89, s327_90, s327_93, s327_94, mq_k0s, mq_k1s, mq_k2s, mq_k4s, mq_k5s, mq_k5n, mq_k5as, mq_k6s, mj_pu, mj_lo, mj_br, mj_hr, mj_hw, mq_gf, mq_len, mq_al, mq_pf, mq_ok, mj_re, mq_lkm, mq_lkn, mj_ldi, mj_ldl, mj_lda, mj_ii, mj_ll, mj_li, mj_i1, ms_1, ms_2, f1_n, f1_i, f1_r, f1_u, f1_l, f2_n, f2_i, f2_r, f2_u, f2_l, mj_tg, mj_c1, mj_c2, mj_ar, mj_aw, mq_cb, mq_oi, mj_rm, Value.category, -getElem?_pos, List.getElem?_cons_zero, decide_eq_true, decide_eq_false, nl_lt, nl_le, ln_lt, ln_le, nl_eq, ln_eq, nl_add, ln_add, nl_sub, ln_mul, nI_sub, nI_mul, nI_add, nI_lt_iff, nI_le_iff, nI_inj, nI_num, mq_ix, nI_1, nl_mul, nl_div, rf, hzn, rI, he, on1, narrow_b0]
      have pre : ∀ r, mj_Rn (d + 3) mj_m327 42 [(0, .ref 67), (1, .int (nI sh)), (2, .int (nI pm)), (3, .int (nI pf)), (4, .int (oP os))] [] (mm B x y3) = some r → mj_V (d + 4) 327 [.ref 67, .int (nI sh), .int (nI pm), .int (nI pf), .int (oP os)] (mm B x y) = some r := by
        intro r hr
        generalize oP os = v4 at *
        simp (disch := (first | omega | decide)) [S_cb_mmade4_0, S_bx_mcan1_0, S_b8_mkey_1, S_b8_mkey_0, S_b1_mterm_0, S_b1_copy_0, S_b0_mod_7, S_b0_mod_6, S_b0_mod_5, S_b0_mod_3, S_b0_mod_2, S_b0_mod_1, S_b0_mod_0, S_cb_mmade4_1h, S_bx_mcan1_1h, S_b0_mod_4h, c327, s327_0, s327_1, s327_4, s327_5, s327_6, s327_9, s327_12, s327_13, s327_14, s327_15, s327_16, s327_19, s327_20, s327_21, s327_24, s327_25, s327_26, s327_29, s327_30, s327_31, s327_34, s327_35, s327_36, s327_39, s327_44, s327_45, s327_48, s327_49, s327_50, s327_53, s327_54, s327_56, s327_59, s327_60, s327_62, s327_65, s327_68, s327_69, s327_72, s327_74, s327_76, s327_79, s327_81, s327_82, s327_83, s327_86, s327_89, s327_90, s327_93, s327_94, mq_k0s, mq_k1s, mq_k2s, mq_k4s, mq_k5s, mq_k5n, mq_k5as, mq_k6s, mj_pu, mj_lo, mj_br, mj_hr, mj_hw, mq_gf, mq_len, mq_al, mq_pf, mq_ok, mj_re, mq_lkm, mq_lkn, mj_ldi, mj_ldl, mj_lda, mj_ii, mj_ll, mj_li, mj_i1, ms_1, ms_2, f1_n, f1_i, f1_r, f1_u, f1_l, f2_n, f2_i, f2_r, f2_u, f2_l, mj_tg, mj_c1, mj_c2, mj_ar, mj_aw, mq_cb, mq_oi, mj_rm, Value.category, -getElem?_pos, List.getElem?_cons_zero, decide_eq_true, decide_eq_false, nl_lt, nl_le, ln_lt, ln_le, nl_eq, ln_eq, nl_add, ln_add, nl_sub, ln_mul, nI_sub, nI_mul, nI_add, nI_lt_iff, nI_le_iff, nI_inj, nI_num, mq_ix, nI_1, nl_mul, nl_div, hsn, rr, p1, p2, r2, rb, p3]
        refine mq_wk ?_ hr
        simp [S_cb_mmade4_0, S_bx_mcan1_0, S_b8_mkey_1, S_b8_mkey_0, S_b1_mterm_0, S_b1_copy_0, S_b0_mod_7, S_b0_mod_6, S_b0_mod_5, S_b0_mod_3, S_b0_mod_2, S_b0_mod_1, S_b0_mod_0, S_cb_mmade4_1h, S_bx_mcan1_1h, S_b0_mod_4h, mq_sub, mj_lk]
      have n3 : yk y3 = yk y := by rw [yk_nd k3, yk_nd k2, yk_nd k1]
      cases os with
      | none =>
        rw [e3] at z3
        refine ⟨y3, _, z3, n3, pre _ ?_⟩
        rw [show oP none = -1 from rfl, show oBy ms none = [] from rfl]
        have f := fin y3 _ (by simp [S_cb_mmade4_0, S_bx_mcan1_0, S_b8_mkey_1, S_b8_mkey_0, S_b1_mterm_0, S_b1_copy_0, S_b0_mod_7, S_b0_mod_6, S_b0_mod_5, S_b0_mod_3, S_b0_mod_2, S_b0_mod_1, S_b0_mod_0, S_cb_mmade4_1h, S_bx_mcan1_1h, S_b0_mod_4h]) z3 (-1)
        generalize on1 (kn_as T (5 :: nI sh :: (oBy ms (some pf) ++ [])) (o4 ms (some pm))) = res at *
        simp (disch := (first | omega | decide)) [S_cb_mmade4_0, S_bx_mcan1_0, S_b8_mkey_1, S_b8_mkey_0, S_b1_mterm_0, S_b1_copy_0, S_b0_mod_7, S_b0_mod_6, S_b0_mod_5, S_b0_mod_3, S_b0_mod_2, S_b0_mod_1, S_b0_mod_0, S_cb_mmade4_1h, S_bx_mcan1_1h, S_b0_mod_4h, s327_0, s327_1, s327_4, s327_5, s327_6, s327_9, s327_12, s327_13, s327_14, s327_15, s327_16, s327_19, s327_20, s327_21, s327_24, s327_25, s327_26, s327_29, s327_30, s327_31, s327_34, s327_35, s327_36, s327_39, s327_42, s327_44, s327_45, s327_48, s327_49, s327_50, s327_53, s327_54, s327_56, s327_59, s327_60, s327_62, s327_65, s327_69, s327_72, s327_74, s327_76, s327_79, s327_81, s327_82, s327_83, s327_86, s327_89, s327_90, s327_93, s327_94, mq_k0s, mq_k1s, mq_k2s, mq_k4s, mq_k5s, mq_k5n, mq_k5as, mq_k6s, mj_pu, mj_lo, mj_br, mj_hr, mj_hw, mq_gf, mq_len, mq_al, mq_pf, mq_ok, mj_re, mq_lkm, mq_lkn, mj_ldi, mj_ldl, mj_lda, mj_ii, mj_ll, mj_li, mj_i1, ms_1, ms_2, f1_n, f1_i, f1_r, f1_u, f1_l, f2_n, f2_i, f2_r, f2_u, f2_l, mj_tg, mj_c1, mj_c2, mj_ar, mj_aw, mq_cb, mq_oi, mj_rm, Value.category, -getElem?_pos, List.getElem?_cons_zero, decide_eq_true, decide_eq_false, nl_lt, nl_le, ln_lt, ln_le, nl_eq, ln_eq, nl_add, ln_add, nl_sub, ln_mul, nI_sub, nI_mul, nI_add, nI_lt_iff, nI_le_iff, nI_inj, nI_num, mq_ix, nI_1, nl_mul, nl_div]
        refine mq_wk ?_ f
        simp [S_cb_mmade4_0, S_bx_mcan1_0, S_b8_mkey_1, S_b8_mkey_0, S_b1_mterm_0, S_b1_copy_0, S_b0_mod_7, S_b0_mod_6, S_b0_mod_5, S_b0_mod_3, S_b0_mod_2, S_b0_mod_1, S_b0_mod_0, S_cb_mmade4_1h, S_bx_mcan1_1h, S_b0_mod_4h, mq_sub, mj_lk]
      | some p2' =>
        have i2 := hos p2' rfl
        have s2 := ss p2' rfl
        have hd2 := (cbOk_hd.mp i2.ok).1
        have hin2 := (cbOk_hd.mp i2.ok).2 (Or.inl s2)
        have hl2 := oBy_len hin2
        have hp9 := Io.l9 h i2
        have r4 := q_numberAt (d := d + 1) (B := B) (x := x) (y := y3) h hd2.1 hd2.2.2.2.1
        have rb4 := q_behindHead (d := d + 1) (B := B) (x := x) (y := y3) h hd2.1
        have hd3 : (ms.drop (cbC ms pf)).take (cbV ms pf) = oBy ms (some pf) := rfl
        rw [hd3] at z3
        obtain ⟨y4, p4, z4, k4⟩ := q_sayItem (d := d + 1) (B := B) (x := x) h z3 hin2 (by simp [S_cb_mmade4_0, S_bx_mcan1_0, S_b8_mkey_1, S_b8_mkey_0, S_b1_mterm_0, S_b1_copy_0, S_b0_mod_7, S_b0_mod_6, S_b0_mod_5, S_b0_mod_3, S_b0_mod_2, S_b0_mod_1, S_b0_mod_0, S_cb_mmade4_1h, S_bx_mcan1_1h, S_b0_mod_4h]; omega)
        have e4 : [5] ++ [nI sh] ++ oBy ms (some pf) ++ (ms.drop (cbC ms p2')).take (cbV ms p2') = 5 :: nI sh :: (oBy ms (some pf) ++ oBy ms (some p2')) := by
          simp [S_cb_mmade4_0, S_bx_mcan1_0, S_b8_mkey_1, S_b8_mkey_0, S_b1_mterm_0, S_b1_copy_0, S_b0_mod_7, S_b0_mod_6, S_b0_mod_5, S_b0_mod_3, S_b0_mod_2, S_b0_mod_1, S_b0_mod_0, S_cb_mmade4_1h, S_bx_mcan1_1h, S_b0_mod_4h]; rfl
        rw [e4] at z4
        refine ⟨y4, _, z4, (yk_nd k4).trans n3, pre _ ?_⟩
        rw [show oP (some p2') = nI p2' from rfl]
        have f := fin y4 _ (by simp [S_cb_mmade4_0, S_bx_mcan1_0, S_b8_mkey_1, S_b8_mkey_0, S_b1_mterm_0, S_b1_copy_0, S_b0_mod_7, S_b0_mod_6, S_b0_mod_5, S_b0_mod_3, S_b0_mod_2, S_b0_mod_1, S_b0_mod_0, S_cb_mmade4_1h, S_bx_mcan1_1h, S_b0_mod_4h]) z4 (nI p2')
        generalize on1 (kn_as T (5 :: nI sh :: (oBy ms (some pf) ++ oBy ms (some p2'))) (o4 ms (some pm))) = res at *
        simp (disch := (first | omega | decide)) [S_cb_mmade4_0, S_bx_mcan1_0, S_b8_mkey_1, S_b8_mkey_0, S_b1_mterm_0, S_b1_copy_0, S_b0_mod_7, S_b0_mod_6, S_b0_mod_5, S_b0_mod_3, S_b0_mod_2, S_b0_mod_1, S_b0_mod_0, S_cb_mmade4_1h, S_bx_mcan1_1h, S_b0_mod_4h, s327_0, s327_1, s327_4, s327_5, s327_6, s327_9, s327_12, s327_13, s327_14, s327_15, s327_16, s327_19, s327_20, s327_21, s327_24, s327_25, s327_26, s327_29, s327_30, s327_31, s327_34, s327_35, s327_36, s327_39, s327_42, s327_44, s327_45, s327_48, s327_49, s327_50, s327_53, s327_54, s327_56, s327_59, s327_60, s327_62, s327_65, s327_69, s327_72, s327_74, s327_76, s327_79, s327_81, s327_82, s327_83, s327_86, s327_89, s327_90, s327_93, s327_94, mq_k0s, mq_k1s, mq_k2s, mq_k4s, mq_k5s, mq_k5n, mq_k5as, mq_k6s, mj_pu, mj_lo, mj_br, mj_hr, mj_hw, mq_gf, mq_len, mq_al, mq_pf, mq_ok, mj_re, mq_lkm, mq_lkn, mj_ldi, mj_ldl, mj_lda, mj_ii, mj_ll, mj_li, mj_i1, ms_1, ms_2, f1_n, f1_i, f1_r, f1_u, f1_l, f2_n, f2_i, f2_r, f2_u, f2_l, mj_tg, mj_c1, mj_c2, mj_ar, mj_aw, mq_cb, mq_oi, mj_rm, Value.category, -getElem?_pos, List.getElem?_cons_zero, decide_eq_true, decide_eq_false, nl_lt, nl_le, ln_lt, ln_le, nl_eq, ln_eq, nl_add, ln_add, nl_sub, ln_mul, nI_sub, nI_mul, nI_add, nI_lt_iff, nI_le_iff, nI_inj, nI_num, mq_ix, nI_1, nl_mul, nl_div, hp9.2, r4, rb4, p4]
        refine mq_wk ?_ f
        simp [S_cb_mmade4_0, S_bx_mcan1_0, S_b8_mkey_1, S_b8_mkey_0, S_b1_mterm_0, S_b1_copy_0, S_b0_mod_7, S_b0_mod_6, S_b0_mod_5, S_b0_mod_3, S_b0_mod_2, S_b0_mod_1, S_b0_mod_0, S_cb_mmade4_1h, S_bx_mcan1_1h, S_b0_mod_4h, mq_sub, mj_lk]
    · have : kn_as T (5 :: nI sh :: (oBy ms (some pf) ++ oBy ms os)) (o4 ms (some pm)) = false := by
        rw [kn_of h.2.2 sm (ix_lt hy)]
        simp [S_cb_mmade4_0, S_bx_mcan1_0, S_b8_mkey_1, S_b8_mkey_0, S_b1_mterm_0, S_b1_copy_0, S_b0_mod_7, S_b0_mod_6, S_b0_mod_5, S_b0_mod_3, S_b0_mod_2, S_b0_mod_1, S_b0_mod_0, S_cb_mmade4_1h, S_bx_mcan1_1h, S_b0_mod_4h, h4]
      rw [this]
      have rr := ri y
      rw [decide_eq_false h4] at rr
      simp only [on1, Bool.false_eq_true, if_false] at rr
      refine ⟨y, D, hy, rfl, ?_⟩
      generalize oP os = v4
      simp (disch := (first | omega | decide)) [S_cb_mmade4_0, S_bx_mcan1_0, S_b8_mkey_1, S_b8_mkey_0, S_b1_mterm_0, S_b1_copy_0, S_b0_mod_7, S_b0_mod_6, S_b0_mod_5, S_b0_mod_3, S_b0_mod_2, S_b0_mod_1, S_b0_mod_0, S_cb_mmade4_1h, S_bx_mcan1_1h, S_b0_mod_4h, c327, s327_0, s327_1, s327_4, s327_5, s327_6, s327_9, s327_12, s327_13, s327_14, s327_15, s327_16, s327_19, s327_20, s327_21, s327_24, s327_25, s327_26, s327_29, s327_30, s327_31, s327_34, s327_35, s327_36, s327_39, s327_42, s327_44, s327_45, s327_48, s327_49, s327_50, s327_53, s327_54, s327_56, s327_59, s327_60, s327_62, s327_65, s327_68, s327_69, s327_72, s327_74, s327_76, s327_79, s327_81, s327_82, s327_83, s327_86, s327_89, s327_90, s327_93, s327_94, mq_k0s, mq_k1s, mq_k2s, mq_k4s, mq_k5s, mq_k5n, mq_k5as, mq_k6s, mj_pu, mj_lo, mj_br, mj_hr, mj_hw, mq_gf, mq_len, mq_al, mq_pf, mq_ok, mj_re, mq_lkm, mq_lkn, mj_ldi, mj_ldl, mj_lda, mj_ii, mj_ll, mj_li, mj_i1, ms_1, ms_2, f1_n, f1_i, f1_r, f1_u, f1_l, f2_n, f2_i, f2_r, f2_u, f2_l, mj_tg, mj_c1, mj_c2, mj_ar, mj_aw, mq_cb, mq_oi, mj_rm, Value.category, -getElem?_pos, List.getElem?_cons_zero, decide_eq_true, decide_eq_false, nl_lt, nl_le, ln_lt, ln_le, nl_eq, ln_eq, nl_add, ln_add, nl_sub, ln_mul, nI_sub, nI_mul, nI_add, nI_lt_iff, nI_le_iff, nI_inj, nI_num, mq_ix, nI_1, nl_mul, nl_div, hsn, rr, on1, narrow_b0]
end
end
/- cq.mpinb -/
section
set_option maxRecDepth 512
/-! The model: PIN, a new one, one tried. -/
theorem rcn_2 (a b : Int32) : rcn 2 a b = rc 2 (b4 a) := by unfold rcn; rw [if_neg (by decide), if_neg (by decide)]
theorem rcn_3 (a b : Int32) : rcn 3 a b = rc 3 [a &&& 255] := by unfold rcn; rw [if_pos rfl]
theorem lrn_2 (s : St) (a b : Int32) : fs_lrn s (rcn 2 a b) = ((s.1, (a, (8, (s.2.2.2.1, s.2.2.2.2)))) : St) := by
  rw [rcn_2]
  have g2 : w4a (rc 2 (b4 a)) 2 = a := by
    have : ((rc 2 (b4 a)).drop 2).take 4 = b4 a := by unfold rc; simp [S_cb_mmade4_0, S_bx_mcan1_0, S_b8_mkey_1, S_b8_mkey_0, S_b1_mterm_0, S_b1_copy_0, S_b0_mod_7, S_b0_mod_6, S_b0_mod_5, S_b0_mod_3, S_b0_mod_2, S_b0_mod_1, S_b0_mod_0, S_cb_mmade4_1h, S_bx_mcan1_1h, S_b0_mod_4h, b4]
    rw [w4a, this, w4_b4]
  unfold fs_lrn
  rw [show (rc 2 (b4 a)).getD 0 0 = 2 from rfl, if_neg (by decide), if_pos rfl, g2]
theorem lrn_3 (s : St) (a b : Int32) : fs_lrn s (rcn 3 a b) = ((s.1, (s.2.1, (a &&& 255, (s.2.2.2.1, s.2.2.2.2)))) : St) := by
  rw [rcn_3]
  unfold fs_lrn
  rw [show (rc 3 [a &&& 255]).getD 0 0 = 3 from rfl, if_neg (by decide), if_neg (by decide), if_pos rfl]
  rfl
/-- what is small of a key stays so behind a record of its own -/
theorem kI_rcn {k : Ky} {g : Nat} {kk a b : Int32} (h : kI k (g + 1)) (hk : kk = 2 ∨ (kk = 3 ∧ ∃ n, n ≤ 8 ∧ a = nI n) ∨ kk = 4) : kI (ky_w k (rcn kk a b)) g := by
  have hk' : kk = 2 ∨ kk = 3 ∨ kk = 4 := by
    rcases hk with h | h | h
    · exact Or.inl h
    · exact Or.inr (Or.inl h.1)
    · exact Or.inr (Or.inr h)
  have hgn := h.gn
  have hl := (rcn_rec (a := a) (b := b) hk').2
  have hfw := fw_rcn (a := a) (b := b) h.w (by omega) hk'
  have hall := fs_wr_all (rcn kk a b) k.1.1.1.1 hl h.w
  have hst : (fs_wr (rcn kk a b) k.1.1.1.1).1.2.2.2.2.2.2.2 = k.1.1.1.1.2.2.2.2.2.2.2 ∨ (fs_wr (rcn kk a b) k.1.1.1.1).1.2.2.2.2.2.2.2 = fs_lrn k.1.1.1.1.2.2.2.2.2.2.2 (rcn kk a b) := by
    cases hq : (fs_wr (rcn kk a b) k.1.1.1.1).2 with
    | true => exact Or.inr (fs_wr_st hq)
    | false => exact Or.inl (fs_wr_no hq)
  refine (kI_mk_ h.w9 h.wr hfw ?_ ?_ ?_)
  · intro c hc
    have hc : c ∈ (fs_wr (rcn kk a b) k.1.1.1.1).1.2.2.2.2.2.2.2.2.2.2.2 := hc
    rcases hst with e | e
    · rw [e] at hc; exact h.cr c hc
    · rw [e] at hc
      rcases hk' with rfl | rfl | rfl
      · rw [lrn_2] at hc; exact h.cr c hc
      · rw [lrn_3] at hc; exact h.cr c hc
      · rw [show rcn 4 a b = rcCount a b from rfl, lrn_cnt] at hc
        unfold fs_count at hc
        split at hc
        · exact h.cr c hc
        · simp only [List.mem_map] at hc
          obtain ⟨c0, h0, rfl⟩ := hc
          have := h.cr c0 h0
          split <;> exact this
  · show (fs_wr (rcn kk a b) k.1.1.1.1).1.2.2.2.2.2.1 + g < 65536
    have := hall.2.2.2.1
    omega
  · show ∃ n, n ≤ 8 ∧ (fs_wr (rcn kk a b) k.1.1.1.1).1.2.2.2.2.2.2.2.2.2.1 = nI n
    rcases hst with e | e
    · rw [e]; exact h.tr
    · rw [e]
      rcases hk with rfl | ⟨rfl, n, hn, rfl⟩ | rfl
      · rw [lrn_2]; exact ⟨8, by omega, rfl⟩
      · rw [lrn_3]; exact ⟨n, hn, hd_n n (by omega)⟩
      · rw [show rcn 4 a b = rcCount a b from rfl, lrn_cnt]
        unfold fs_count
        split <;> exact h.tr
section
variable {d : Nat} {B : Bs} {x : Fx} {y : Sy} {j g : Nat} {k : Ky} {m : Mk} {T : Tm} {D O ms : List Int32}
theorem q_newPin (h : xm x ms) (hx : xk x) (hj : j < 3) (hm : wm m) (hk : kr k m) (hI : kI k (g + 1)) (hc : cF k.1.1.1.1.2.2.2.2.2.2.2.2.2.2.2 m) (hy : yz y T D O) (hT8 : tk8 T) (hT : T.1.length < 1000) {sh : Nat} (hs0 : sh ≠ 0) (hsh : sh < 2 ^ 30) {pf : Nat} (jf : Io ms pf) (sf : cbS ms pf = 2) (h5 : mem ms 5 = some pf) :
    kO B x j m k.1.1.1.2 O (ky_newPin ms k T (nI sh)) (mj_V (d + 7) 328 [.ref 67, .int (nI j), .int (nI sh), .int (nI pf)] (mm B (x.wk j k.1.1.1.1 m) y)) := by
  have hsn : ¬ nI sh = 0 := fun z => hs0 ((nI_inj (b := 0) (by omega) (by omega)).mp z)
  have hX := h.wk j k.1.1.1.1 m
  have hdf := (cbOk_hd.mp jf.ok).1
  have hVf := hdf.2.2.2.2.2.1
  have ri := q_isInt (d := d + 3) (B := B) (x := x.wk j k.1.1.1.1 m) (y := y) hX hdf.1 hdf.2.2.2.1 hVf
  -- the term's number
  have to17 : ∀ r, mj_Rn (d + 6) mj_m328 17 [(0, .ref 67), (1, .int (nI j)), (2, .int (nI sh)), (3, .int (nI pf))] [.int (o4 ms (some pf))] (mm B (x.wk j k.1.1.1.1 m) y) = some r → mj_V (d + 7) 328 [.ref 67, .int (nI j), .int (nI sh), .int (nI pf)] (mm B (x.wk j k.1.1.1.1 m) y) = some r := by
    intro r hr
    by_cases h4 : cbV ms pf = 4
    · have hin := (cbOk_hd.mp jf.ok).2 (Or.inl sf)
      rw [h4] at hin
      have rI := q_itemInt (d := d + 3) (B := B) (x := x.wk j k.1.1.1.1 m) (y := y) hX hdf.1 hin
      rw [o4_w4 h.2.2 sf h4] at hr
      rw [decide_eq_true h4] at ri
      simp only [on1, if_true] at ri
      simp (disch := (first | omega | decide)) [S_cb_mmade4_0, S_bx_mcan1_0, S_b8_mkey_1, S_b8_mkey_0, S_b1_mterm_0, S_b1_copy_0, S_b0_mod_7, S_b0_mod_6, S_b0_mod_5, S_b0_mod_3, S_b0_mod_2, S_b0_mod_1, S_b0_mod_0, S_cb_mmade4_1h, S_bx_mcan1_1h, S_b0_mod_4h, c328, s328_0, s328_1, s328_2, s328_5, s328_8, s328_9, s328_10, s328_13, s328_16, s328_19, s328_20, s328_22, s328_23, s328_26, s328_29, s328_30, s328_32, s328_33, s328_36, s328_37, s328_40, s328_41, s328_44, s328_46, s328_47, s328_48, s328_49, s328_50, s328_53, s328_55, s328_56, s328_57, s328_58, s328_59, s328_62, s328_63, s328_65, s328_67, s328_68, s328_71, s328_73, s328_75, s328_78, s328_80, s328_81, s328_82, s328_84, s328_87, s328_88, s328_89, s328_92, s328_93, s328_96, s328_98, s328_99, s328_100, s328_101, s328_103, s328_106, s328_107, s328_108, s328_109, s328_112, s328_113, s328_114, s328_117, s328_120, s328_123, s328_126, s328_127, s328_130, s328_132, mq_k0s, mq_k1s, mq_k2s, mq_k4s, mq_k5s, mq_k5n, mq_k5as, mq_k6s, mj_pu, mj_lo, mj_br, mj_hr, mj_hw, mq_gf, mq_len, mq_al, mq_pf, mq_ok, mj_re, mq_lkm, mq_lkn, mj_ldi, mj_ldl, mj_lda, mj_ii, mj_ll, mj_li, mj_i1, ms_1, ms_2, f1_n, f1_i, f1_r, f1_u, f1_l, f2_n, f2_i, f2_r, f2_u, f2_l, mj_tg, mj_c1, mj_c2, mj_ar, mj_aw, mq_cb, mq_oi, mj_rm, Value.category, -getElem?_pos, List.getElem?_cons_zero, decide_eq_true, decide_eq_false, nl_lt, nl_le, ln_lt, ln_le, nl_eq, ln_eq, nl_add, ln_add, nl_sub, ln_mul, nI_sub, nI_mul, nI_add, nI_lt_iff, nI_le_iff, nI_inj, nI_num, mq_ix, nI_1, nl_mul, nl_div, ri, rI]
      exact hr
    · rw [o4_no h4] at hr
      rw [decide_eq_false h4] at ri
      simp only [on1, Bool.false_eq_true, if_false] at ri
      simp (disch := (first | omega | decide)) [S_cb_mmade4_0, S_bx_mcan1_0, S_b8_mkey_1, S_b8_mkey_0, S_b1_mterm_0, S_b1_copy_0, S_b0_mod_7, S_b0_mod_6, S_b0_mod_5, S_b0_mod_3, S_b0_mod_2, S_b0_mod_1, S_b0_mod_0, S_cb_mmade4_1h, S_bx_mcan1_1h, S_b0_mod_4h, c328, s328_0, s328_1, s328_2, s328_5, s328_8, s328_9, s328_10, s328_13, s328_16, s328_19, s328_20, s328_22, s328_23, s328_26, s328_29, s328_30, s328_32, s328_33, s328_36, s328_37, s328_40, s328_41, s328_44, s328_46, s328_47, s328_48, s328_49, s328_50, s328_53, s328_55, s328_56, s328_57, s328_58, s328_59, s328_62, s328_63, s328_65, s328_67, s328_68, s328_71, s328_73, s328_75, s328_78, s328_80, s328_81, s328_82, s328_84, s328_87, s328_88, s328_89, s328_92, s328_93, s328_96, s328_98, s328_99, s328_100, s328_101, s328_103, s328_106, s328_107, s328_108, s328_109, s328_112, s328_113, s328_114, s328_117, s328_120, s328_123, s328_126, s328_127, s328_130, s328_132, mq_k0s, mq_k1s, mq_k2s, mq_k4s, mq_k5s, mq_k5n, mq_k5as, mq_k6s, mj_pu, mj_lo, mj_br, mj_hr, mj_hw, mq_gf, mq_len, mq_al, mq_pf, mq_ok, mj_re, mq_lkm, mq_lkn, mj_ldi, mj_ldl, mj_lda, mj_ii, mj_ll, mj_li, mj_i1, ms_1, ms_2, f1_n, f1_i, f1_r, f1_u, f1_l, f2_n, f2_i, f2_r, f2_u, f2_l, mj_tg, mj_c1, mj_c2, mj_ar, mj_aw, mq_cb, mq_oi, mj_rm, Value.category, -getElem?_pos, List.getElem?_cons_zero, decide_eq_true, decide_eq_false, nl_lt, nl_le, ln_lt, ln_le, nl_eq, ln_eq, nl_add, ln_add, nl_sub, ln_mul, nI_sub, nI_mul, nI_add, nI_lt_iff, nI_le_iff, nI_inj, nI_num, mq_ix, nI_1, nl_mul, nl_div, ri]
      exact hr
  unfold ky_newPin pn_new
  rw [h5]
  generalize o4 ms (some pf) = e at *
  have rs := q_isSort (d := d + 5) (B := B) (x := x.wk j k.1.1.1.1 m) hy e (s := 4) (by decide)
  by_cases h4 : bt_at (tm_row T.1 e) 0 = 4
  · rw [if_pos h4] at rs
    obtain ⟨i, hi, he, hrow⟩ := rowI hy h4 (by decide)
    have hl2 := hT8.e4 e h4
    have rp := q_partA (d := d + 5) (B := B) (x := x.wk j k.1.1.1.1 m) hy (t := e) (k := 1) (by omega)
    rw [show nI 1 = (1 : Int32) from rfl] at rp
    by_cases h1 : bt_at (tm_row T.1 e) 1 = nI sh
    · rw [h1] at rp
      have few := hy.t.few
      have hsl := hy.t.sl
      have hpl := hy.t.pl
      have heb := hy.eb i
      have s1 := hy.t.st i (by omega)
      have s2 := hy.t.st (i + 1) (by omega)
      have hes := tm_end_s hi
      have hwd := hy.t.wide _ (List.getElem_mem hi)
      have heb2 := hy.eb (i + 1)
      have hsl' := hy.slice hi (by rw [← hrow]; exact hl2)
      rw [hrow] at hl2
      rw [hrow]
      have hrl : tm_row T.1 e = T.1[i] := hrow
      have h40 : bt_at T.1[i] 0 = 4 := by rw [← hrow]; exact h4
      have h41 : bt_at T.1[i] 1 = nI sh := by rw [← hrow]; exact h1
      rw [hes] at s2
      -- how long it is
      have to65 : ∀ r, mj_Rn (d + 6) mj_m328 65 [(5, .int (nI (T.1[i].length - 2))), (4, .int (nI (i + 1))), (0, .ref 67), (1, .int (nI j)), (2, .int (nI sh)), (3, .int (nI pf))] [] (mm B (x.wk j k.1.1.1.1 m) y) = some r → mj_V (d + 7) 328 [.ref 67, .int (nI j), .int (nI sh), .int (nI pf)] (mm B (x.wk j k.1.1.1.1 m) y) = some r := by
        intro r hr
        apply to17
        rw [he] at rs rp ⊢
        have e1 : nI (tm_end T.1 i + T.1[i].length) - nI (tm_end T.1 i) - 2 = nI (T.1[i].length - 2) := by
          rw [nI_sub (by omega), nl_sub (by omega)]
          congr 1
          omega
        generalize T.1[i].length = rl at *
        simp (disch := (first | omega | decide)) [S_cb_mmade4_0, S_bx_mcan1_0, S_b8_mkey_1, S_b8_mkey_0, S_b1_mterm_0, S_b1_copy_0, S_b0_mod_7, S_b0_mod_6, S_b0_mod_5, S_b0_mod_3, S_b0_mod_2, S_b0_mod_1, S_b0_mod_0, S_cb_mmade4_1h, S_bx_mcan1_1h, S_b0_mod_4h, s328_0, s328_1, s328_2, s328_5, s328_8, s328_9, s328_10, s328_13, s328_16, s328_17, s328_19, s328_20, s328_22, s328_23, s328_26, s328_29, s328_30, s328_32, s328_33, s328_36, s328_37, s328_40, s328_41, s328_44, s328_46, s328_47, s328_48, s328_49, s328_50, s328_53, s328_55, s328_56, s328_57, s328_58, s328_59, s328_62, s328_63, s328_67, s328_68, s328_71, s328_73, s328_75, s328_78, s328_80, s328_81, s328_82, s328_84, s328_87, s328_88, s328_89, s328_92, s328_93, s328_96, s328_98, s328_99, s328_100, s328_101, s328_103, s328_106, s328_107, s328_108, s328_109, s328_112, s328_113, s328_114, s328_117, s328_120, s328_123, s328_126, s328_127, s328_130, s328_132, mq_k0s, mq_k1s, mq_k2s, mq_k4s, mq_k5s, mq_k5n, mq_k5as, mq_k6s, mj_pu, mj_lo, mj_br, mj_hr, mj_hw, mq_gf, mq_len, mq_al, mq_pf, mq_ok, mj_re, mq_lkm, mq_lkn, mj_ldi, mj_ldl, mj_lda, mj_ii, mj_ll, mj_li, mj_i1, ms_1, ms_2, f1_n, f1_i, f1_r, f1_u, f1_l, f2_n, f2_i, f2_r, f2_u, f2_l, mj_tg, mj_c1, mj_c2, mj_ar, mj_aw, mq_cb, mq_oi, mj_rm, Value.category, -getElem?_pos, List.getElem?_cons_zero, decide_eq_true, decide_eq_false, nl_lt, nl_le, ln_lt, ln_le, nl_eq, ln_eq, nl_add, ln_add, nl_sub, ln_mul, nI_sub, nI_mul, nI_add, nI_lt_iff, nI_le_iff, nI_inj, nI_num, mq_ix, nI_1, nl_mul, nl_div, rs, rp, hsl, s1, s2, e1]
        refine mq_wk ?_ hr
        simp [S_cb_mmade4_0, S_bx_mcan1_0, S_b8_mkey_1, S_b8_mkey_0, S_b1_mterm_0, S_b1_copy_0, S_b0_mod_7, S_b0_mod_6, S_b0_mod_5, S_b0_mod_3, S_b0_mod_2, S_b0_mod_1, S_b0_mod_0, S_cb_mmade4_1h, S_bx_mcan1_1h, S_b0_mod_4h, mq_sub, mj_lk]
      by_cases hr : 6 ≤ T.1[i].length ∧ T.1[i].length ≤ 14
      · have hcond : nI sh ≠ 0 ∧ bt_at T.1[i] 0 = 4 ∧ bt_at T.1[i] 1 = nI sh ∧ 6 ≤ T.1[i].length ∧ T.1[i].length ≤ 14 := ⟨hsn, h40, h41, hr.1, hr.2⟩
        rw [if_pos hcond]
        obtain ⟨y1, p1, z1, k1⟩ := q_begin (d := d + 5) (B := B) (x := x.wk j k.1.1.1.1 m) hy 7
        obtain ⟨y2, p2, z2, k2⟩ := q_sayBytes (d := d + 4) (B := B) (x := x.wk j k.1.1.1.1 m) (a := 68) (q := tm_end T.1 i + 2) (n := T.1[i].length - 2) (l := y.1.2.1.1.2) z1 (fun y' e => by
          rw [mm_68]
          have : y'.nd.1.2.1.1.2 = y.nd.1.2.1.1.2 := by rw [e, k1]
          rw [show y'.1.2.1.1.2 = y.1.2.1.1.2 from this]) (by omega) (by omega) (by simp [S_cb_mmade4_0, S_bx_mcan1_0, S_b8_mkey_1, S_b8_mkey_0, S_b1_mterm_0, S_b1_copy_0, S_b0_mod_7, S_b0_mod_6, S_b0_mod_5, S_b0_mod_3, S_b0_mod_2, S_b0_mod_1, S_b0_mod_0, S_cb_mmade4_1h, S_bx_mcan1_1h, S_b0_mod_4h]; omega)
        rw [hsl'] at z2
        have er : [7] ++ T.1[i].drop 2 = 7 :: T.1[i].drop 2 := rfl
        rw [er] at z2
        obtain ⟨y3, p3, z3, k3⟩ := q_term (d := d + 3) (B := B) (x := x.wk j k.1.1.1.1 m) z2 (by simp [S_cb_mmade4_0, S_bx_mcan1_0, S_b8_mkey_1, S_b8_mkey_0, S_b1_mterm_0, S_b1_copy_0, S_b0_mod_7, S_b0_mod_6, S_b0_mod_5, S_b0_mod_3, S_b0_mod_2, S_b0_mod_1, S_b0_mod_0, S_cb_mmade4_1h, S_bx_mcan1_1h, S_b0_mod_4h]) (by simp [S_cb_mmade4_0, S_bx_mcan1_0, S_b8_mkey_1, S_b8_mkey_0, S_b1_mterm_0, S_b1_copy_0, S_b0_mod_7, S_b0_mod_6, S_b0_mod_5, S_b0_mod_3, S_b0_mod_2, S_b0_mod_1, S_b0_mod_0, S_cb_mmade4_1h, S_bx_mcan1_1h, S_b0_mod_4h]; omega) hT
        obtain ⟨l, hl, e3⟩ : ∃ l : List Int32, l.length = 32 ∧ y3 = y3.rr l := ⟨y3.2.1.1.1.1, z3.s.1.1, rfl⟩
        generalize htn : nI (tm_no T (7 :: T.1[i].drop 2)) = tn at *
        have p4 := m_putTerm (d := d + 4) (M := mm B (x.wk j k.1.1.1.1 m) (y3.rr l)) (a := 104) (l := l) (by simp [S_cb_mmade4_0, S_bx_mcan1_0, S_b8_mkey_1, S_b8_mkey_0, S_b1_mterm_0, S_b1_copy_0, S_b0_mod_7, S_b0_mod_6, S_b0_mod_5, S_b0_mod_3, S_b0_mod_2, S_b0_mod_1, S_b0_mod_0, S_cb_mmade4_1h, S_bx_mcan1_1h, S_b0_mod_4h]) (by omega) (by omega) (by omega) 2 tn
        rw [mrr_s] at p4
        have q4 := spl_ap [] l ([2, 4] ++ b4 tn)
        rw [List.nil_append, List.nil_append, List.length_nil] at q4
        generalize hl1 : spl l 0 ([2, 4] ++ b4 tn) = l1 at p4 q4
        have hl1l : l1.length = 32 := by rw [q4]; simp [S_cb_mmade4_0, S_bx_mcan1_0, S_b8_mkey_1, S_b8_mkey_0, S_b1_mterm_0, S_b1_copy_0, S_b0_mod_7, S_b0_mod_6, S_b0_mod_5, S_b0_mod_3, S_b0_mod_2, S_b0_mod_1, S_b0_mod_0, S_cb_mmade4_1h, S_bx_mcan1_1h, S_b0_mod_4h, hl, b4_len]
        have hrw : rw4 (y3.rr l1).2.1.1.1.1 (2 :: nI (b4 tn).length :: b4 tn) := rw4_of q4 hl1l (by
          intro v hv
          simp only [List.mem_cons] at hv
          rcases hv with rfl | rfl | hv
          · decide
          · show nI 4 &&& 255 = nI 4
            decide
          · exact b4_by _ _ hv)
        obtain ⟨m', y5, w1, w2, w3, w4, p5⟩ := q_wr (d := d) (B := B) (x := x) (y := y3.rr l1) hx hj hm hI hc (a := 2) (body := b4 tn) hrw (by show fs_kl (uN 2) (uN (nI 4)) = true; decide +kernel) (by simp [S_cb_mmade4_0, S_bx_mcan1_0, S_b8_mkey_1, S_b8_mkey_0, S_b1_mterm_0, S_b1_copy_0, S_b0_mod_7, S_b0_mod_6, S_b0_mod_5, S_b0_mod_3, S_b0_mod_2, S_b0_mod_1, S_b0_mod_0, S_cb_mmade4_1h, S_bx_mcan1_1h, S_b0_mod_4h, b4_len]) z3.s.1.2.1
        have z5 := (z3.rr hl1l).wr w4
        rw [show nI ((b4 tn).length + 2) = (6 : Int32) from rfl] at p5
        rw [← rcn_2 tn 0] at w2 p5
        have hkr : kr (ky_w k (rcn 2 tn 0)) m' := kr_mr w3 (kr_mk_ hk.pr hk.ta hk.an hk.ag hk.tk hk.wr hk.he)
        have pre : ∀ r, mj_Rn (d + 6) mj_m328 123 [(0, .ref 67)] [.int (on1 (fs_wr (rcn 2 tn 0) k.1.1.1.1).2)] (mm B (x.wk j (ky_w k (rcn 2 tn 0)).1.1.1.1 m') y5) = some r → mj_V (d + 7) 328 [.ref 67, .int (nI j), .int (nI sh), .int (nI pf)] (mm B (x.wk j k.1.1.1.1 m) y) = some r := by
          intro r hr'
          apply to65
          rw [e3] at p3
          have s1' : y1.1.2.1.2[i + 1]? = some (nI (tm_end T.1 i)) := z1.t.st i (by omega)
          have hsl1 := z1.t.sl
          generalize (ky_w k (rcn 2 tn 0)).1.1.1.1 = s9 at *
          generalize on1 (fs_wr (rcn 2 tn 0) k.1.1.1.1).2 = ok at *
          generalize T.1[i].length = rl at *
          simp (disch := (first | omega | decide)) [S_cb_mmade4_0, S_bx_mcan1_0, S_b8_mkey_1, S_b8_mkey_0, S_b1_mterm_0, S_b1_copy_0, S_b0_mod_7, S_b0_mod_6, S_b0_mod_5, S_b0_mod_3, S_b0_mod_2, S_b0_mod_1, S_b0_mod_0, S_cb_mmade4_1h, S_bx_mcan1_1h, S_b0_mod_4h, s328_0, s328_1, s328_2, s328_5, s328_8, s328_9, s328_10, s328_13, s328_16, s328_17, s328_19, s328_20, s328_22, s328_23, s328_26, s328_29, s328_30, s328_32, s328_33, s328_36, s328_37, s328_40, s328_41, s328_44, s328_46, s328_47, s328_48, s328_49, s328_50, s328_53, s328_55, s328_56, s328_57, s328_58, s328_59, s328_62, s328_63, s328_65, s328_67, s328_68, s328_71, s328_73, s328_75, s328_78, s328_80, s328_81, s328_82, s328_84, s328_87, s328_88, s328_89, s328_92, s328_93, s328_96, s328_98, s328_99, s328_100, s328_101, s328_103, s328_106, s328_107, s328_108, s328_109, s328_112, s328_113, s328_114, s328_117, s328_120, s328_126, s328_127, s328_130, s328_132, mq_k0s, mq_k1s, mq_k2s, mq_k4s, mq_k5s, mq_k5n, mq_k5as, mq_k6s, mj_pu, mj_lo, mj_br, mj_hr, mj_hw, mq_gf, mq_len, mq_al, mq_pf, mq_ok, mj_re, mq_lkm, mq_lkn, mj_ldi, mj_ldl, mj_lda, mj_ii, mj_ll, mj_li, mj_i1, ms_1, ms_2, f1_n, f1_i, f1_r, f1_u, f1_l, f2_n, f2_i, f2_r, f2_u, f2_l, mj_tg, mj_c1, mj_c2, mj_ar, mj_aw, mq_cb, mq_oi, mj_rm, Value.category, -getElem?_pos, List.getElem?_cons_zero, decide_eq_true, decide_eq_false, nl_lt, nl_le, ln_lt, ln_le, nl_eq, ln_eq, nl_add, ln_add, nl_sub, ln_mul, nI_sub, nI_mul, nI_add, nI_lt_iff, nI_le_iff, nI_inj, nI_num, mq_ix, nI_1, nl_mul, nl_div, p1, s1', hsl1, p2, p3, p4, p5, show ¬ rl - 2 < 4 by omega, show rl - 2 ≤ 12 by omega]
          refine mq_wk ?_ hr'
          simp [S_cb_mmade4_0, S_bx_mcan1_0, S_b8_mkey_1, S_b8_mkey_0, S_b1_mterm_0, S_b1_copy_0, S_b0_mod_7, S_b0_mod_6, S_b0_mod_5, S_b0_mod_3, S_b0_mod_2, S_b0_mod_1, S_b0_mod_0, S_cb_mmade4_1h, S_bx_mcan1_1h, S_b0_mod_4h, mq_sub, mj_lk]
        cases hwr : (fs_wr (rcn 2 tn 0) k.1.1.1.1).2 with
        | false =>
          refine ⟨-3, m', y5, _, O, ?_, w1, hkr, w2, z5, ml_mr w3, fun hon => ?_⟩
          · apply pre
            rw [hwr]
            show _ = some (some (Value.int (-3)), mm B (x.wk j (ky_w k (rcn 2 tn 0)).1.1.1.1 m') y5)
            generalize (ky_w k (rcn 2 tn 0)).1.1.1.1 = s9 at *
            simp (disch := (first | omega | decide)) [S_cb_mmade4_0, S_bx_mcan1_0, S_b8_mkey_1, S_b8_mkey_0, S_b1_mterm_0, S_b1_copy_0, S_b0_mod_7, S_b0_mod_6, S_b0_mod_5, S_b0_mod_3, S_b0_mod_2, S_b0_mod_1, S_b0_mod_0, S_cb_mmade4_1h, S_bx_mcan1_1h, S_b0_mod_4h, s328_0, s328_1, s328_2, s328_5, s328_8, s328_9, s328_10, s328_13, s328_16, s328_17, s328_19, s328_20, s328_22, s328_23, s328_26, s328_29, s328_30, s328_32, s328_33, s328_36, s328_37, s328_40, s328_41, s328_44, s328_46, s328_47, s328_48, s328_49, s328_50, s328_53, s328_55, s328_56, s328_57, s328_58, s328_59, s328_62, s328_63, s328_65, s328_67, s328_68, s328_71, s328_73, s328_75, s328_78, s328_80, s328_81, s328_82, s328_84, s328_87, s328_88, s328_89, s328_92, s328_93, s328_96, s328_98, s328_99, s328_100, s328_101, s328_103, s328_106, s328_107, s328_108, s328_109, s328_112, s328_113, s328_114, s328_117, s328_120, s328_123, s328_126, s328_127, s328_130, s328_132, mq_k0s, mq_k1s, mq_k2s, mq_k4s, mq_k5s, mq_k5n, mq_k5as, mq_k6s, mj_pu, mj_lo, mj_br, mj_hr, mj_hw, mq_gf, mq_len, mq_al, mq_pf, mq_ok, mj_re, mq_lkm, mq_lkn, mj_ldi, mj_ldl, mj_lda, mj_ii, mj_ll, mj_li, mj_i1, ms_1, ms_2, f1_n, f1_i, f1_r, f1_u, f1_l, f2_n, f2_i, f2_r, f2_u, f2_l, mj_tg, mj_c1, mj_c2, mj_ar, mj_aw, mq_cb, mq_oi, mj_rm, Value.category, -getElem?_pos, List.getElem?_cons_zero, decide_eq_true, decide_eq_false, nl_lt, nl_le, ln_lt, ln_le, nl_eq, ln_eq, nl_add, ln_add, nl_sub, ln_mul, nI_sub, nI_mul, nI_add, nI_lt_iff, nI_le_iff, nI_inj, nI_num, mq_ix, nI_1, nl_mul, nl_div, on1, narrow]
          · exfalso
            have : (ky_w k (rcn 2 tn 0)).1.1.1.1.2.1 = true := hon
            have ho := fs_wr_onk (rcn 2 tn 0) k.1.1.1.1
            rw [hwr] at ho
            rcases ho with ⟨z, -⟩ | ⟨-, z⟩
            · cases z
            · rw [show (ky_w k (rcn 2 tn 0)).1.1.1.1 = (fs_wr (rcn 2 tn 0) k.1.1.1.1).1 from rfl, z] at this
              cases this
        | true =>
          refine ⟨0, m', y5, _, O, ?_, w1, hkr, w2, z5, ml_mr w3, fun _ => ⟨rfl, fun _ => ⟨[], by simp [S_cb_mmade4_0, S_bx_mcan1_0, S_b8_mkey_1, S_b8_mkey_0, S_b1_mterm_0, S_b1_copy_0, S_b0_mod_7, S_b0_mod_6, S_b0_mod_5, S_b0_mod_3, S_b0_mod_2, S_b0_mod_1, S_b0_mod_0, S_cb_mmade4_1h, S_bx_mcan1_1h, S_b0_mod_4h], ?_⟩⟩⟩
          · apply pre
            rw [hwr]
            show _ = some (some (Value.int 0), mm B (x.wk j (ky_w k (rcn 2 tn 0)).1.1.1.1 m') y5)
            generalize (ky_w k (rcn 2 tn 0)).1.1.1.1 = s9 at *
            simp (disch := (first | omega | decide)) [S_cb_mmade4_0, S_bx_mcan1_0, S_b8_mkey_1, S_b8_mkey_0, S_b1_mterm_0, S_b1_copy_0, S_b0_mod_7, S_b0_mod_6, S_b0_mod_5, S_b0_mod_3, S_b0_mod_2, S_b0_mod_1, S_b0_mod_0, S_cb_mmade4_1h, S_bx_mcan1_1h, S_b0_mod_4h, s328_0, s328_1, s328_2, s328_5, s328_8, s328_9, s328_10, s328_13, s328_16, s328_17, s328_19, s328_20, s328_22, s328_23, s328_26, s328_29, s328_30, s328_32, s328_33, s328_36, s328_37, s328_40, s328_41, s328_44, s328_46, s328_47, s328_48, s328_49, s328_50, s328_53, s328_55, s328_56, s328_57, s328_58, s328_59, s328_62, s328_63, s328_65, s328_67, s328_68, s328_71, s328_73, s328_75, s328_78, s328_80, s328_81, s328_82, s328_84, s328_87, s328_88, s328_89, s328_92, s328_93, s328_96, s328_98, s328_99, s328_100, s328_101, s328_103, s328_106, s328_107, s328_108, s328_109, s328_112, s328_113, s328_114, s328_117, s328_120, s328_123, s328_126, s328_127, s328_130, s328_132, mq_k0s, mq_k1s, mq_k2s, mq_k4s, mq_k5s, mq_k5n, mq_k5as, mq_k6s, mj_pu, mj_lo, mj_br, mj_hr, mj_hw, mq_gf, mq_len, mq_al, mq_pf, mq_ok, mj_re, mq_lkm, mq_lkn, mj_ldi, mj_ldl, mj_lda, mj_ii, mj_ll, mj_li, mj_i1, ms_1, ms_2, f1_n, f1_i, f1_r, f1_u, f1_l, f2_n, f2_i, f2_r, f2_u, f2_l, mj_tg, mj_c1, mj_c2, mj_ar, mj_aw, mq_cb, mq_oi, mj_rm, Value.category, -getElem?_pos, List.getElem?_cons_zero, decide_eq_true, decide_eq_false, nl_lt, nl_le, ln_lt, ln_le, nl_eq, ln_eq, nl_add, ln_add, nl_sub, ln_mul, nI_sub, nI_mul, nI_add, nI_lt_iff, nI_le_iff, nI_inj, nI_num, mq_ix, nI_1, nl_mul, nl_div, on1, narrow]
          · show k.1.1.1.2 = _
            simp [S_cb_mmade4_0, S_bx_mcan1_0, S_b8_mkey_1, S_b8_mkey_0, S_b1_mterm_0, S_b1_copy_0, S_b0_mod_7, S_b0_mod_6, S_b0_mod_5, S_b0_mod_3, S_b0_mod_2, S_b0_mod_1, S_b0_mod_0, S_cb_mmade4_1h, S_bx_mcan1_1h, S_b0_mod_4h]
      · rw [if_neg (fun z => hr ⟨z.2.2.2.1, z.2.2.2.2⟩)]
        refine kO.no (m' := m) (y' := y) (D' := D) (to65 _ ?_) hm hk hc hy rfl (by decide)
        generalize T.1[i].length = rl at *
        by_cases h6 : rl - 2 < 4
        · simp (disch := (first | omega | decide)) [S_cb_mmade4_0, S_bx_mcan1_0, S_b8_mkey_1, S_b8_mkey_0, S_b1_mterm_0, S_b1_copy_0, S_b0_mod_7, S_b0_mod_6, S_b0_mod_5, S_b0_mod_3, S_b0_mod_2, S_b0_mod_1, S_b0_mod_0, S_cb_mmade4_1h, S_bx_mcan1_1h, S_b0_mod_4h, s328_0, s328_1, s328_2, s328_5, s328_8, s328_9, s328_10, s328_13, s328_16, s328_17, s328_19, s328_20, s328_22, s328_23, s328_26, s328_29, s328_30, s328_32, s328_33, s328_36, s328_37, s328_40, s328_41, s328_44, s328_46, s328_47, s328_48, s328_49, s328_50, s328_53, s328_55, s328_56, s328_57, s328_58, s328_59, s328_62, s328_63, s328_65, s328_67, s328_68, s328_71, s328_73, s328_75, s328_78, s328_80, s328_81, s328_82, s328_84, s328_87, s328_88, s328_89, s328_92, s328_93, s328_96, s328_98, s328_99, s328_100, s328_101, s328_103, s328_106, s328_107, s328_108, s328_109, s328_112, s328_113, s328_114, s328_117, s328_120, s328_123, s328_126, s328_127, s328_130, s328_132, mq_k0s, mq_k1s, mq_k2s, mq_k4s, mq_k5s, mq_k5n, mq_k5as, mq_k6s, mj_pu, mj_lo, mj_br, mj_hr, mj_hw, mq_gf, mq_len, mq_al, mq_pf, mq_ok, mj_re, mq_lkm, mq_lkn, mj_ldi, mj_ldl, mj_lda, mj_ii, mj_ll, mj_li, mj_i1, ms_1, ms_2, f1_n, f1_i, f1_r, f1_u, f1_l, f2_n, f2_i, f2_r, f2_u, f2_l, mj_tg, mj_c1, mj_c2, mj_ar, mj_aw, mq_cb, mq_oi, mj_rm, Value.category, -getElem?_pos, List.getElem?_cons_zero, decide_eq_true, decide_eq_false, nl_lt, nl_le, ln_lt, ln_le, nl_eq, ln_eq, nl_add, ln_add, nl_sub, ln_mul, nI_sub, nI_mul, nI_add, nI_lt_iff, nI_le_iff, nI_inj, nI_num, mq_ix, nI_1, nl_mul, nl_div, h6, narrow]
        · simp (disch := (first | omega | decide)) [S_cb_mmade4_0, S_bx_mcan1_0, S_b8_mkey_1, S_b8_mkey_0, S_b1_mterm_0, S_b1_copy_0, S_b0_mod_7, S_b0_mod_6, S_b0_mod_5, S_b0_mod_3, S_b0_mod_2, S_b0_mod_1, S_b0_mod_0, S_cb_mmade4_1h, S_bx_mcan1_1h, S_b0_mod_4h, s328_0, s328_1, s328_2, s328_5, s328_8, s328_9, s328_10, s328_13, s328_16, s328_17, s328_19, s328_20, s328_22, s328_23, s328_26, s328_29, s328_30, s328_32, s328_33, s328_36, s328_37, s328_40, s328_41, s328_44, s328_46, s328_47, s328_48, s328_49, s328_50, s328_53, s328_55, s328_56, s328_57, s328_58, s328_59, s328_62, s328_63, s328_65, s328_67, s328_68, s328_71, s328_73, s328_75, s328_78, s328_80, s328_81, s328_82, s328_84, s328_87, s328_88, s328_89, s328_92, s328_93, s328_96, s328_98, s328_99, s328_100, s328_101, s328_103, s328_106, s328_107, s328_108, s328_109, s328_112, s328_113, s328_114, s328_117, s328_120, s328_123, s328_126, s328_127, s328_130, s328_132, mq_k0s, mq_k1s, mq_k2s, mq_k4s, mq_k5s, mq_k5n, mq_k5as, mq_k6s, mj_pu, mj_lo, mj_br, mj_hr, mj_hw, mq_gf, mq_len, mq_al, mq_pf, mq_ok, mj_re, mq_lkm, mq_lkn, mj_ldi, mj_ldl, mj_lda, mj_ii, mj_ll, mj_li, mj_i1, ms_1, ms_2, f1_n, f1_i, f1_r, f1_u, f1_l, f2_n, f2_i, f2_r, f2_u, f2_l, mj_tg, mj_c1, mj_c2, mj_ar, mj_aw, mq_cb, mq_oi, mj_rm, Value.category, -getElem?_pos, List.getElem?_cons_zero, decide_eq_true, decide_eq_false, nl_lt, nl_le, ln_lt, ln_le, nl_eq, ln_eq, nl_add, ln_add, nl_sub, ln_mul, nI_sub, nI_mul, nI_add, nI_lt_iff, nI_le_iff, nI_inj, nI_num, mq_ix, nI_1, nl_mul, nl_div, h6, show ¬ rl - 2 ≤ 12 by omega, narrow]
    · rw [if_neg (fun z => h1 z.2.2.1)]
      refine kO.no (m' := m) (y' := y) (D' := D) (to17 _ ?_) hm hk hc hy rfl (by decide)
      generalize bt_at (tm_row T.1 e) 1 = w at *
      simp (disch := (first | omega | decide)) [S_cb_mmade4_0, S_bx_mcan1_0, S_b8_mkey_1, S_b8_mkey_0, S_b1_mterm_0, S_b1_copy_0, S_b0_mod_7, S_b0_mod_6, S_b0_mod_5, S_b0_mod_3, S_b0_mod_2, S_b0_mod_1, S_b0_mod_0, S_cb_mmade4_1h, S_bx_mcan1_1h, S_b0_mod_4h, s328_0, s328_1, s328_2, s328_5, s328_8, s328_9, s328_10, s328_13, s328_16, s328_17, s328_19, s328_20, s328_22, s328_23, s328_26, s328_29, s328_30, s328_32, s328_33, s328_36, s328_37, s328_40, s328_41, s328_44, s328_46, s328_47, s328_48, s328_49, s328_50, s328_53, s328_55, s328_56, s328_57, s328_58, s328_59, s328_62, s328_63, s328_65, s328_67, s328_68, s328_71, s328_73, s328_75, s328_78, s328_80, s328_81, s328_82, s328_84, s328_87, s328_88, s328_89, s328_92, s328_93, s328_96, s328_98, s328_99, s328_100, s328_101, s328_103, s328_106, s328_107, s328_108, s328_109, s328_112, s328_113, s328_114, s328_117, s328_120, s328_123, s328_126, s328_127, s328_130, s328_132, mq_k0s, mq_k1s, mq_k2s, mq_k4s, mq_k5s, mq_k5n, mq_k5as, mq_k6s, mj_pu, mj_lo, mj_br, mj_hr, mj_hw, mq_gf, mq_len, mq_al, mq_pf, mq_ok, mj_re, mq_lkm, mq_lkn, mj_ldi, mj_ldl, mj_lda, mj_ii, mj_ll, mj_li, mj_i1, ms_1, ms_2, f1_n, f1_i, f1_r, f1_u, f1_l, f2_n, f2_i, f2_r, f2_u, f2_l, mj_tg, mj_c1, mj_c2, mj_ar, mj_aw, mq_cb, mq_oi, mj_rm, Value.category, -getElem?_pos, List.getElem?_cons_zero, decide_eq_true, decide_eq_false, nl_lt, nl_le, ln_lt, ln_le, nl_eq, ln_eq, nl_add, ln_add, nl_sub, ln_mul, nI_sub, nI_mul, nI_add, nI_lt_iff, nI_le_iff, nI_inj, nI_num, mq_ix, nI_1, nl_mul, nl_div, rs, rp, h1, narrow]
  · rw [if_neg h4] at rs
    rw [if_neg (fun z => h4 z.2.1)]
    refine kO.no (m' := m) (y' := y) (D' := D) (to17 _ ?_) hm hk hc hy rfl (by decide)
    simp (disch := (first | omega | decide)) [S_cb_mmade4_0, S_bx_mcan1_0, S_b8_mkey_1, S_b8_mkey_0, S_b1_mterm_0, S_b1_copy_0, S_b0_mod_7, S_b0_mod_6, S_b0_mod_5, S_b0_mod_3, S_b0_mod_2, S_b0_mod_1, S_b0_mod_0, S_cb_mmade4_1h, S_bx_mcan1_1h, S_b0_mod_4h, s328_0, s328_1, s328_2, s328_5, s328_8, s328_9, s328_10, s328_13, s328_16, s328_17, s328_19, s328_20, s328_22, s328_23, s328_26, s328_29, s328_30, s328_32, s328_33, s328_36, s328_37, s328_40, s328_41, s328_44, s328_46, s328_47, s328_48, s328_49, s328_50, s328_53, s328_55, s328_56, s328_57, s328_58, s328_59, s328_62, s328_63, s328_65, s328_67, s328_68, s328_71, s328_73, s328_75, s328_78, s328_80, s328_81, s328_82, s328_84, s328_87, s328_88, s328_89, s328_92, s328_93, s328_96, s328_98, s328_99, s328_100, s328_101, s328_103, s328_106, s328_107, s328_108, s328_109, s328_112, s328_113, s328_114, s328_117, s328_120, s328_123, s328_126, s328_127, s328_130, s328_132, mq_k0s, mq_k1s, mq_k2s, mq_k4s, mq_k5s, mq_k5n, mq_k5as, mq_k6s, mj_pu, mj_lo, mj_br, mj_hr, mj_hw, mq_gf, mq_len, mq_al, mq_pf, mq_ok, mj_re, mq_lkm, mq_lkn, mj_ldi, mj_ldl, mj_lda, mj_ii, mj_ll, mj_li, mj_i1, ms_1, ms_2, f1_n, f1_i, f1_r, f1_u, f1_l, f2_n, f2_i, f2_r, f2_u, f2_l, mj_tg, mj_c1, mj_c2, mj_ar, mj_aw, mq_cb, mq_oi, mj_rm, Value.category, -getElem?_pos, List.getElem?_cons_zero, decide_eq_true, decide_eq_false, nl_lt, nl_le, ln_lt, ln_le, nl_eq, ln_eq, nl_add, ln_add, nl_sub, ln_mul, nI_sub, nI_mul, nI_add, nI_lt_iff, nI_le_iff, nI_inj, nI_num, mq_ix, nI_1, nl_mul, nl_div, rs, narrow]
end
end
/- cr.mpinc -/
section
set_option maxRecDepth 512
/-! The model: PIN, one tried. -/
theorem fs_kl3 : fs_kl (uN 3) (uN (nI 1)) = true := by decide +kernel
/-- what a command leaves; a key that went off says it -/
def kOs (B : Bs) (x : Fx) (j : Nat) (m : Mk) (rep O : List Int32) (R : Int32 × Ky × Tm) (e : Option (Option Value × mj_H)) : Prop :=
  ∃ v m' y' D' O', e = some (some (.int v), mm B (x.wk j R.2.1.1.1.1.1 m') y') ∧ wm m' ∧ kr R.2.1 m' ∧ cF R.2.1.1.1.1.1.2.2.2.2.2.2.2.2.2.2.2 m' ∧ yz y' R.2.2 D' O' ∧ ml m' = ml m ∧ (R.2.1.1.1.1.1.2.1 = true → v = R.1 ∧ (R.1 = 0 → ∃ X, O' = O ++ X ∧ R.2.1.1.1.1.2 = rep ++ X)) ∧ (R.2.1.1.1.1.1.2.1 = false → v ≠ 0)
theorem kOs.no {B : Bs} {x : Fx} {j : Nat} {m m' : Mk} {rep O D' : List Int32} {k' : Ky} {T : Tm} {st : Int32} {y' : Sy} {e : Option (Option Value × mj_H)} (he : e = some (some (.int st), mm B (x.wk j k'.1.1.1.1 m') y')) (h1 : wm m') (h2 : kr k' m') (h3 : cF k'.1.1.1.1.2.2.2.2.2.2.2.2.2.2.2 m') (h4 : yz y' T D' O) (h5 : ml m' = ml m) (h0 : st ≠ 0) : kOs B x j m rep O (st, k', T) e :=
  ⟨st, m', y', D', O, he, h1, h2, h3, h4, h5, fun _ => ⟨rfl, fun z => absurd z h0⟩, fun _ => h0⟩
theorem on_of {r : List Int32} {s : Fl} (h : (fs_wr r s).2 = true) (ho : s.2.1 = true) : (fs_wr r s).1.2.1 = true := by
  rcases fs_wr_onk r s with ⟨-, z⟩ | ⟨z, -⟩
  · rw [z, ho]
  · rw [h] at z; cases z
section
variable {d : Nat} {B : Bs} {x : Fx} {y : Sy} {j g : Nat} {k : Ky} {m : Mk} {T : Tm} {D O ms : List Int32}
/-- tries written -/
theorem q_wrTries (hx : xk x) (hj : j < 3) (hm : wm m) (hk : kr k m) (hI : kI k (g + 1)) (hc : cF k.1.1.1.1.2.2.2.2.2.2.2.2.2.2.2 m) (hy : yz y T D O) {n : Nat} (hn : n < 256) : ∃ l m' y', l.length = 32 ∧ wm m' ∧ kr (ky_w k (rcn 3 (nI n) 0)) m' ∧ cF (ky_w k (rcn 3 (nI n) 0)).1.1.1.1.2.2.2.2.2.2.2.2.2.2.2 m' ∧ mr m' = mr m ∧ yz y' T D O ∧
    mj_V (d + 6) 265 [.ref 104, .int (nI n)] (mm B (x.wk j k.1.1.1.1 m) y) = some (some (.int 3), mm B (x.wk j k.1.1.1.1 m) (y.rr l)) ∧
    mj_V (d + 6) 288 [.ref 67, .int (nI j), .int 3] (mm B (x.wk j k.1.1.1.1 m) (y.rr l)) = some (some (.int (on1 (fs_wr (rcn 3 (nI n) 0) k.1.1.1.1).2)), mm B (x.wk j (ky_w k (rcn 3 (nI n) 0)).1.1.1.1 m') y') := by
  have hl := hy.s.1.1
  have e0 : y = y.rr y.2.1.1.1.1 := rfl
  have h255 := hd_n n hn
  have p4 := m_putTries (d := d + 4) (M := mm B (x.wk j k.1.1.1.1 m) (y.rr y.2.1.1.1.1)) (a := 104) (l := y.2.1.1.1.1) (by simp [S_cb_mmade4_0, S_bx_mcan1_0, S_b8_mkey_1, S_b8_mkey_0, S_b1_mterm_0, S_b1_copy_0, S_b0_mod_7, S_b0_mod_6, S_b0_mod_5, S_b0_mod_3, S_b0_mod_2, S_b0_mod_1, S_b0_mod_0, S_cb_mmade4_1h, S_bx_mcan1_1h, S_b0_mod_4h]) (by omega) (by omega) (by omega) (nI n)
  rw [mrr_s] at p4
  have q4 := spl_ap [] y.2.1.1.1.1 [3, 1, nI n]
  rw [List.nil_append, List.nil_append, List.length_nil] at q4
  generalize hl1 : spl y.2.1.1.1.1 0 [3, 1, nI n] = l1 at p4 q4
  have hl1l : l1.length = 32 := by rw [q4]; simp [S_cb_mmade4_0, S_bx_mcan1_0, S_b8_mkey_1, S_b8_mkey_0, S_b1_mterm_0, S_b1_copy_0, S_b0_mod_7, S_b0_mod_6, S_b0_mod_5, S_b0_mod_3, S_b0_mod_2, S_b0_mod_1, S_b0_mod_0, S_cb_mmade4_1h, S_bx_mcan1_1h, S_b0_mod_4h, hl]
  have hrw : rw4 (y.rr l1).2.1.1.1.1 (3 :: nI [nI n &&& 255].length :: [nI n &&& 255]) := rw4_of (R := y.2.1.1.1.1.drop 3) (by rw [h255]; exact q4) hl1l (by
    rw [h255]
    intro v hv
    simp only [List.mem_cons, List.not_mem_nil, or_false] at hv
    rcases hv with rfl | rfl | rfl
    · decide
    · show nI 1 &&& 255 = nI 1
      decide
    · exact h255)
  obtain ⟨m', y5, w1, w2, w3, w4, p5⟩ := q_wr (d := d) (B := B) (x := x) (y := y.rr l1) hx hj hm hI hc (a := 3) (body := [nI n &&& 255]) hrw (by show fs_kl (uN 3) (uN (nI 1)) = true; exact fs_kl3) (by simp [S_cb_mmade4_0, S_bx_mcan1_0, S_b8_mkey_1, S_b8_mkey_0, S_b1_mterm_0, S_b1_copy_0, S_b0_mod_7, S_b0_mod_6, S_b0_mod_5, S_b0_mod_3, S_b0_mod_2, S_b0_mod_1, S_b0_mod_0, S_cb_mmade4_1h, S_bx_mcan1_1h, S_b0_mod_4h]) hy.s.1.2.1
  have z5 := (hy.rr hl1l).wr w4
  rw [show nI ([nI n &&& 255].length + 2) = (3 : Int32) from rfl] at p5
  rw [← rcn_3 (nI n) 0] at w2 p5
  refine ⟨l1, m', y5, hl1l, w1, kr_mr w3 (kr_mk_ hk.pr hk.ta hk.an hk.ag hk.tk hk.wr hk.he), w2, w3, z5, ?_, p5⟩
  conv => lhs; rw [e0]
  exact p4
theorem off_of {r : List Int32} {s : Fl} (h : (fs_wr r s).2 = false) (h' : (fs_wr r s).1.2.1 = true) : False := by
  have ho := fs_wr_onk r s
  rw [h] at ho
  rcases ho with ⟨z, -⟩ | ⟨-, z⟩
  · cases z
  · rw [z] at h'; cases h'
theorem q_tryPin (h : xm x ms) (hx : xk x) (hj : j < 3) (hm : wm m) (hk : kr k m) (hI : kI k (g + 2)) (hc : cF k.1.1.1.1.2.2.2.2.2.2.2.2.2.2.2 m) (hy : yz y T D O) (hon0 : k.1.1.1.1.2.1 = true) (h9 : tk9 T) {sh : Nat} (hsh : sh < 2 ^ 30) {n : Nat} (ht : k.1.1.1.1.2.2.2.2.2.2.2.2.2.1 = nI (n + 1)) (hn8 : n + 1 ≤ 8) (hw2 : k.2.1.1.2 ≤ 2) {p6 : Nat} (i6 : Io ms p6) (s6 : cbS ms p6 = 2) (h6 : mem ms 6 = some p6) :
    kOs B x j m k.1.1.1.2 O (ky_tryPin ms k T (nI sh)) (mj_V (d + 7) 329 [.ref 67, .int (nI j), .int (nI sh), .int (nI p6)] (mm B (x.wk j k.1.1.1.1 m) y)) := by
  have et : k.1.1.1.1.2.2.2.2.2.2.2.2.2.1 - 1 = nI n := by rw [ht, nl_sub (by omega)]; rfl
  obtain ⟨l, m1, y1, hl, wm1, kr1, cf1, mr1, z1, p1, p2⟩ := q_wrTries (d := d) (B := B) hx hj hm hk (hI.le (Nat.le_refl _)) hc hy (n := n) (by omega)
  unfold ky_tryPin
  have ek1 : pn_k1 k = ky_w k (rcn 3 (nI n) 0) := by unfold pn_k1; rw [et]
  rw [et, ek1]
  have hI1 : kI (ky_w k (rcn 3 (nI n) 0)) (g + 1) := kI_rcn hI (Or.inr (Or.inl ⟨rfl, n, by omega, rfl⟩))
  have to20 : ∀ r, mj_Rn (d + 6) mj_m329 20 [(0, .ref 67), (1, .int (nI j)), (2, .int (nI sh)), (3, .int (nI p6))] [.int (on1 (fs_wr (rcn 3 (nI n) 0) k.1.1.1.1).2)] (mm B (x.wk j (ky_w k (rcn 3 (nI n) 0)).1.1.1.1 m1) y1) = some r → mj_V (d + 7) 329 [.ref 67, .int (nI j), .int (nI sh), .int (nI p6)] (mm B (x.wk j k.1.1.1.1 m) y) = some r := by
    intro r hr
    generalize (ky_w k (rcn 3 (nI n) 0)).1.1.1.1 = s9 at *
    generalize on1 (fs_wr (rcn 3 (nI n) 0) k.1.1.1.1).2 = ok at *
    simp (disch := (first | omega | decide)) [S_cb_mmade4_0, S_bx_mcan1_0, S_b8_mkey_1, S_b8_mkey_0, S_b1_mterm_0, S_b1_copy_0, S_b0_mod_7, S_b0_mod_6, S_b0_mod_5, S_b0_mod_3, S_b0_mod_2, S_b0_mod_1, S_b0_mod_0, S_cb_mmade4_1h, S_bx_mcan1_1h, S_b0_mod_4h, c329, s329_0, s329_1, s329_2, s329_3, s329_6, s329_7, s329_10, s329_11, s329_12, s329_13, s329_14, s329_17, s329_23, s329_25, s329_26, s329_27, s329_28, s329_31, s329_32, s329_33, s329_36, s329_37, s329_38, s329_41, s329_42, s329_43, s329_46, s329_47, s329_50, s329_52, s329_53, s329_56, s329_58, s329_61, s329_62, s329_63, s329_66, s329_69, s329_70, s329_71, s329_74, s329_76, s329_79, s329_80, s329_83, s329_84, s329_85, s329_86, s329_87, s329_88, s329_89, s329_92, s329_94, s329_97, s329_100, s329_103, s329_104, s329_107, s329_109, s329_110, s329_111, s329_114, s329_115, s329_116, s329_119, s329_120, s329_121, s329_124, s329_125, s329_126, s329_127, s329_128, s329_129, s329_130, s329_131, s329_134, s329_135, s329_136, s329_139, s329_141, s329_144, s329_145, s329_148, s329_149, s329_150, s329_151, s329_154, s329_156, s329_159, s329_161, mq_k0s, mq_k1s, mq_k2s, mq_k4s, mq_k5s, mq_k5n, mq_k5as, mq_k6s, mj_pu, mj_lo, mj_br, mj_hr, mj_hw, mq_gf, mq_len, mq_al, mq_pf, mq_ok, mj_re, mq_lkm, mq_lkn, mj_ldi, mj_ldl, mj_lda, mj_ii, mj_ll, mj_li, mj_i1, ms_1, ms_2, f1_n, f1_i, f1_r, f1_u, f1_l, f2_n, f2_i, f2_r, f2_u, f2_l, mj_tg, mj_c1, mj_c2, mj_ar, mj_aw, mq_cb, mq_oi, mj_rm, Value.category, -getElem?_pos, List.getElem?_cons_zero, decide_eq_true, decide_eq_false, nl_lt, nl_le, ln_lt, ln_le, nl_eq, ln_eq, nl_add, ln_add, nl_sub, ln_mul, nI_sub, nI_mul, nI_add, nI_lt_iff, nI_le_iff, nI_inj, nI_num, mq_ix, nI_1, nl_mul, nl_div, wkc_on hx hj, wkl_on hx, wkc_acts hx hj, wkl_acts hx, wkc_limit hx hj, wkl_limit hx, wkc_generation hx hj, wkl_generation hx, wkc_area hx hj, wkl_area hx, wkc_fend hx hj, wkl_fend hx, wkc_master hx hj, wkl_master hx, wkc_pinOf hx hj, wkl_pinOf hx, wkc_tries hx hj, wkl_tries hx, wkc_own hx hj, wkl_own hx, wkc_creds hx hj, wkl_creds hx, wkc_presses hx hj, wkl_presses hx, wkc_taken hx hj, wkl_taken hx, wkc_answered hx hj, wkl_answered hx, wkc_agreeing hx hj, wkl_agreeing hx, wkc_token hx hj, wkl_token hx, wkc_wrong hx hj, wkl_wrong hx, wkc_heard hx hj, wkl_heard hx, wkc_listed hx hj, wkl_listed hx, wkc_listAt hx hj, wkl_listAt hx, wkc_listHash hx hj, wkl_listHash hx, wkc_listFlags hx hj, wkl_listFlags hx, wkc_answerSize hx hj, wkl_answerSize hx, wkc_flash hx hj, wkl_flash hx hj, et, p1, p2]
    refine mq_wk ?_ hr
    simp [S_cb_mmade4_0, S_bx_mcan1_0, S_b8_mkey_1, S_b8_mkey_0, S_b1_mterm_0, S_b1_copy_0, S_b0_mod_7, S_b0_mod_6, S_b0_mod_5, S_b0_mod_3, S_b0_mod_2, S_b0_mod_1, S_b0_mod_0, S_cb_mmade4_1h, S_bx_mcan1_1h, S_b0_mod_4h, mq_sub, mj_lk]
  have wr1 : (ky_w k (rcn 3 (nI n) 0)).2.1.1.2 = k.2.1.1.2 := rfl
  have rep1 : (ky_w k (rcn 3 (nI n) 0)).1.1.1.2 = k.1.1.1.2 := rfl
  have hs1 : (ky_w k (rcn 3 (nI n) 0)).1.1.1.1 = (fs_wr (rcn 3 (nI n) 0) k.1.1.1.1).1 := rfl
  generalize hK : ky_w k (rcn 3 (nI n) 0) = K at *
  cases hwr : (fs_wr (rcn 3 (nI n) 0) k.1.1.1.1).2 with
  | false =>
    rw [if_pos rfl]
    refine ⟨-3, m1, y1, D, O, ?_, wm1, kr1, cf1, z1, ml_mr mr1, fun hon => ?_, fun _ => by decide⟩
    · apply to20
      rw [hwr]
      dsimp only
      generalize K.1.1.1.1 = s9 at *
      simp (disch := (first | omega | decide)) [S_cb_mmade4_0, S_bx_mcan1_0, S_b8_mkey_1, S_b8_mkey_0, S_b1_mterm_0, S_b1_copy_0, S_b0_mod_7, S_b0_mod_6, S_b0_mod_5, S_b0_mod_3, S_b0_mod_2, S_b0_mod_1, S_b0_mod_0, S_cb_mmade4_1h, S_bx_mcan1_1h, S_b0_mod_4h, s329_0, s329_1, s329_2, s329_3, s329_6, s329_7, s329_10, s329_11, s329_12, s329_13, s329_14, s329_17, s329_20, s329_23, s329_25, s329_26, s329_27, s329_28, s329_31, s329_32, s329_33, s329_36, s329_37, s329_38, s329_41, s329_42, s329_43, s329_46, s329_47, s329_50, s329_52, s329_53, s329_56, s329_58, s329_61, s329_62, s329_63, s329_66, s329_69, s329_70, s329_71, s329_74, s329_76, s329_79, s329_80, s329_83, s329_84, s329_85, s329_86, s329_87, s329_88, s329_89, s329_92, s329_94, s329_97, s329_100, s329_103, s329_104, s329_107, s329_109, s329_110, s329_111, s329_114, s329_115, s329_116, s329_119, s329_120, s329_121, s329_124, s329_125, s329_126, s329_127, s329_128, s329_129, s329_130, s329_131, s329_134, s329_135, s329_136, s329_139, s329_141, s329_144, s329_145, s329_148, s329_149, s329_150, s329_151, s329_154, s329_156, s329_159, s329_161, mq_k0s, mq_k1s, mq_k2s, mq_k4s, mq_k5s, mq_k5n, mq_k5as, mq_k6s, mj_pu, mj_lo, mj_br, mj_hr, mj_hw, mq_gf, mq_len, mq_al, mq_pf, mq_ok, mj_re, mq_lkm, mq_lkn, mj_ldi, mj_ldl, mj_lda, mj_ii, mj_ll, mj_li, mj_i1, ms_1, ms_2, f1_n, f1_i, f1_r, f1_u, f1_l, f2_n, f2_i, f2_r, f2_u, f2_l, mj_tg, mj_c1, mj_c2, mj_ar, mj_aw, mq_cb, mq_oi, mj_rm, Value.category, -getElem?_pos, List.getElem?_cons_zero, decide_eq_true, decide_eq_false, nl_lt, nl_le, ln_lt, ln_le, nl_eq, ln_eq, nl_add, ln_add, nl_sub, ln_mul, nI_sub, nI_mul, nI_add, nI_lt_iff, nI_le_iff, nI_inj, nI_num, mq_ix, nI_1, nl_mul, nl_div, on1, narrow]
    · exfalso
      have : K.1.1.1.1.2.1 = true := hon
      rw [hs1] at this
      exact off_of hwr this
  | true =>
    rw [if_neg (by simp [S_cb_mmade4_0, S_bx_mcan1_0, S_b8_mkey_1, S_b8_mkey_0, S_b1_mterm_0, S_b1_copy_0, S_b0_mod_7, S_b0_mod_6, S_b0_mod_5, S_b0_mod_3, S_b0_mod_2, S_b0_mod_1, S_b0_mod_0, S_cb_mmade4_1h, S_bx_mcan1_1h, S_b0_mod_4h])]
    rw [hwr] at to20
    obtain ⟨y2, p3, z2, k2⟩ := q_begin (d := d + 5) (B := B) (x := x.wk j K.1.1.1.1 m1) z1 4
    obtain ⟨y3, p4, z3, k3⟩ := q_say (d := d + 5) (B := B) (x := x.wk j K.1.1.1.1 m1) z2 (by simp [S_cb_mmade4_0, S_bx_mcan1_0, S_b8_mkey_1, S_b8_mkey_0, S_b1_mterm_0, S_b1_copy_0, S_b0_mod_7, S_b0_mod_6, S_b0_mod_5, S_b0_mod_3, S_b0_mod_2, S_b0_mod_1, S_b0_mod_0, S_cb_mmade4_1h, S_bx_mcan1_1h, S_b0_mod_4h]) (nI sh)
    obtain ⟨y4, p5, z4, k4⟩ := q_sayInt (d := d + 4) (B := B) (x := x.wk j K.1.1.1.1 m1) z3 (by simp [S_cb_mmade4_0, S_bx_mcan1_0, S_b8_mkey_1, S_b8_mkey_0, S_b1_mterm_0, S_b1_copy_0, S_b0_mod_7, S_b0_mod_6, S_b0_mod_5, S_b0_mod_3, S_b0_mod_2, S_b0_mod_1, S_b0_mod_0, S_cb_mmade4_1h, S_bx_mcan1_1h, S_b0_mod_4h]) K.1.1.1.1.2.2.2.2.2.2.2.2.1
    have er : [4] ++ [nI sh] ++ b4 K.1.1.1.1.2.2.2.2.2.2.2.2.1 = 4 :: nI sh :: b4 K.1.1.1.1.2.2.2.2.2.2.2.2.1 := rfl
    rw [er] at z4
    have p6' := q_found (d := d + 4) (B := B) (x := x.wk j K.1.1.1.1 m1) z4 (by simp [S_cb_mmade4_0, S_bx_mcan1_0, S_b8_mkey_1, S_b8_mkey_0, S_b1_mterm_0, S_b1_copy_0, S_b0_mod_7, S_b0_mod_6, S_b0_mod_5, S_b0_mod_3, S_b0_mod_2, S_b0_mod_1, S_b0_mod_0, S_cb_mmade4_1h, S_bx_mcan1_1h, S_b0_mod_4h])
    have hix := ix_lt (row := 4 :: nI sh :: b4 K.1.1.1.1.2.2.2.2.2.2.2.2.1) z4
    rw [h6, kn_of h.2.2 s6 hix]
    have to52 : ∀ r, mj_Rn (d + 6) mj_m329 52 [(4, .int (nI (tm_ix T.1 (4 :: nI sh :: b4 K.1.1.1.1.2.2.2.2.2.2.2.2.1)))), (0, .ref 67), (1, .int (nI j)), (2, .int (nI sh)), (3, .int (nI p6))] [] (mm B (x.wk j K.1.1.1.1 m1) y4) = some r → mj_V (d + 7) 329 [.ref 67, .int (nI j), .int (nI sh), .int (nI p6)] (mm B (x.wk j k.1.1.1.1 m) y) = some r := by
      intro r hr
      apply to20
      clear to20
      generalize tm_ix T.1 (4 :: nI sh :: b4 K.1.1.1.1.2.2.2.2.2.2.2.2.1) = ix at *
      simp only [on1, if_true]
      simp (disch := (first | omega | decide)) [S_cb_mmade4_0, S_bx_mcan1_0, S_b8_mkey_1, S_b8_mkey_0, S_b1_mterm_0, S_b1_copy_0, S_b0_mod_7, S_b0_mod_6, S_b0_mod_5, S_b0_mod_3, S_b0_mod_2, S_b0_mod_1, S_b0_mod_0, S_cb_mmade4_1h, S_bx_mcan1_1h, S_b0_mod_4h, s329_0, s329_1, s329_2, s329_3, s329_6, s329_7, s329_10, s329_11, s329_12, s329_13, s329_14, s329_17, s329_20, s329_23, s329_25, s329_26, s329_27, s329_28, s329_31, s329_32, s329_33, s329_36, s329_37, s329_38, s329_41, s329_42, s329_43, s329_46, s329_47, s329_50, s329_53, s329_56, s329_58, s329_61, s329_62, s329_63, s329_66, s329_69, s329_70, s329_71, s329_74, s329_76, s329_79, s329_80, s329_83, s329_84, s329_85, s329_86, s329_87, s329_88, s329_89, s329_92, s329_94, s329_97, s329_100, s329_103, s329_104, s329_107, s329_109, s329_110, s329_111, s329_114, s329_115, s329_116, s329_119, s329_120, s329_121, s329_124, s329_125, s329_126, s329_127, s329_128, s329_129, s329_130, s329_131, s329_134, s329_135, s329_136, s329_139, s329_141, s329_144, s329_145, s329_148, s329_149, s329_150, s329_151, s329_154, s329_156, s329_159, s329_161, mq_k0s, mq_k1s, mq_k2s, mq_k4s, mq_k5s, mq_k5n, mq_k5as, mq_k6s, mj_pu, mj_lo, mj_br, mj_hr, mj_hw, mq_gf, mq_len, mq_al, mq_pf, mq_ok, mj_re, mq_lkm, mq_lkn, mj_ldi, mj_ldl, mj_lda, mj_ii, mj_ll, mj_li, mj_i1, ms_1, ms_2, f1_n, f1_i, f1_r, f1_u, f1_l, f2_n, f2_i, f2_r, f2_u, f2_l, mj_tg, mj_c1, mj_c2, mj_ar, mj_aw, mq_cb, mq_oi, mj_rm, Value.category, -getElem?_pos, List.getElem?_cons_zero, decide_eq_true, decide_eq_false, nl_lt, nl_le, ln_lt, ln_le, nl_eq, ln_eq, nl_add, ln_add, nl_sub, ln_mul, nI_sub, nI_mul, nI_add, nI_lt_iff, nI_le_iff, nI_inj, nI_num, mq_ix, nI_1, nl_mul, nl_div, wkc_on hx hj, wkl_on hx, wkc_acts hx hj, wkl_acts hx, wkc_limit hx hj, wkl_limit hx, wkc_generation hx hj, wkl_generation hx, wkc_area hx hj, wkl_area hx, wkc_fend hx hj, wkl_fend hx, wkc_master hx hj, wkl_master hx, wkc_pinOf hx hj, wkl_pinOf hx, wkc_tries hx hj, wkl_tries hx, wkc_own hx hj, wkl_own hx, wkc_creds hx hj, wkl_creds hx, wkc_presses hx hj, wkl_presses hx, wkc_taken hx hj, wkl_taken hx, wkc_answered hx hj, wkl_answered hx, wkc_agreeing hx hj, wkl_agreeing hx, wkc_token hx hj, wkl_token hx, wkc_wrong hx hj, wkl_wrong hx, wkc_heard hx hj, wkl_heard hx, wkc_listed hx hj, wkl_listed hx, wkc_listAt hx hj, wkl_listAt hx, wkc_listHash hx hj, wkl_listHash hx, wkc_listFlags hx hj, wkl_listFlags hx, wkc_answerSize hx hj, wkl_answerSize hx, wkc_flash hx hj, wkl_flash hx hj, p3, p4, p5, p6']
      refine mq_wk ?_ hr
      simp [S_cb_mmade4_0, S_bx_mcan1_0, S_b8_mkey_1, S_b8_mkey_0, S_b1_mterm_0, S_b1_copy_0, S_b0_mod_7, S_b0_mod_6, S_b0_mod_5, S_b0_mod_3, S_b0_mod_2, S_b0_mod_1, S_b0_mod_0, S_cb_mmade4_1h, S_bx_mcan1_1h, S_b0_mod_4h, mq_sub, mj_lk]
    -- the PIN is wrong
    have bad : (∀ r, mj_Rn (d + 6) mj_m329 110 [(0, .ref 67), (1, .int (nI j))] [] (mm B (x.wk j K.1.1.1.1 m1) y4) = some r → mj_V (d + 7) 329 [.ref 67, .int (nI j), .int (nI sh), .int (nI p6)] (mm B (x.wk j k.1.1.1.1 m) y) = some r) →
        kOs B x j m k.1.1.1.2 O (if K.1.1.1.1.2.2.2.2.2.2.2.2.2.1 = 0 then 50 else if 3 ≤ k.2.1.1.2 + 1 then 52 else 49, (((((K.1.1.1.1, K.1.1.1.2), (K.1.1.2.1, K.1.1.2.2)), ((K.1.2.1.1, K.1.2.1.2), (K.1.2.2.1, T.2.2 + 1))), (((K.2.1.1.1, k.2.1.1.2 + 1), (K.2.1.2.1, K.2.1.2.2)), ((K.2.2.1.1, K.2.2.1.2), K.2.2.2))) : Ky), ((T.1, (T.2.1, T.2.2 + 1)) : Tm)) (mj_V (d + 7) 329 [.ref 67, .int (nI j), .int (nI sh), .int (nI p6)] (mm B (x.wk j k.1.1.1.1 m) y)) := by
      intro to110
      obtain ⟨y5, p7, z5, k5⟩ := q_secret (d := d + 5) (B := B) (x := x.wk j K.1.1.1.1 m1) z4
      have hw := kr1.wr
      rw [wr1] at hw
      refine kOs.no (m' := ((((((m1.1.1.1.1.1, m1.1.1.1.1.2), m1.1.1.1.2), (nI (T.2.2 + 1), m1.1.1.2.2)), (((nI (k.2.1.1.2 + 1), m1.1.2.1.1.2), m1.1.2.1.2), (m1.1.2.2.1, m1.1.2.2.2))), ((((m1.2.1.1.1.1, m1.2.1.1.1.2), m1.2.1.1.2), (m1.2.1.2.1, m1.2.1.2.2)), (((m1.2.2.1.1.1, m1.2.2.1.1.2), m1.2.2.1.2), (m1.2.2.2.1, m1.2.2.2.2)))) : Mk)) (y' := y5) (D' := _) (to110 _ ?_) (wm_mk_ wm1.credId wm1.credHash wm1.credSecret wm1.credCount wm1.credLong wm1.credUser wm1.list wm1.answers) (kr_mk_ kr1.pr kr1.ta kr1.an rfl kr1.tk rfl kr1.he) cf1 z5 (show ml m1 = ml m from ml_mr mr1) (by split; decide; split <;> decide)
      generalize nI (T.2.2 + 1) = se at *
      dsimp only
      generalize hs9 : K.1.1.1.1 = s9 at *
      by_cases h0 : s9.2.2.2.2.2.2.2.2.2.1 = 0
      · rw [if_pos h0]
        simp (disch := (first | omega | decide)) [S_cb_mmade4_0, S_bx_mcan1_0, S_b8_mkey_1, S_b8_mkey_0, S_b1_mterm_0, S_b1_copy_0, S_b0_mod_7, S_b0_mod_6, S_b0_mod_5, S_b0_mod_3, S_b0_mod_2, S_b0_mod_1, S_b0_mod_0, S_cb_mmade4_1h, S_bx_mcan1_1h, S_b0_mod_4h, s329_0, s329_1, s329_2, s329_3, s329_6, s329_7, s329_10, s329_11, s329_12, s329_13, s329_14, s329_17, s329_20, s329_23, s329_25, s329_26, s329_27, s329_28, s329_31, s329_32, s329_33, s329_36, s329_37, s329_38, s329_41, s329_42, s329_43, s329_46, s329_47, s329_50, s329_52, s329_53, s329_56, s329_58, s329_61, s329_62, s329_63, s329_66, s329_69, s329_70, s329_71, s329_74, s329_76, s329_79, s329_80, s329_83, s329_84, s329_85, s329_86, s329_87, s329_88, s329_89, s329_92, s329_94, s329_97, s329_100, s329_103, s329_104, s329_107, s329_109, s329_110, s329_111, s329_114, s329_115, s329_116, s329_119, s329_120, s329_121, s329_124, s329_125, s329_126, s329_127, s329_128, s329_129, s329_130, s329_131, s329_134, s329_135, s329_136, s329_139, s329_141, s329_144, s329_145, s329_148, s329_149, s329_150, s329_151, s329_154, s329_156, s329_159, s329_161, mq_k0s, mq_k1s, mq_k2s, mq_k4s, mq_k5s, mq_k5n, mq_k5as, mq_k6s, mj_pu, mj_lo, mj_br, mj_hr, mj_hw, mq_gf, mq_len, mq_al, mq_pf, mq_ok, mj_re, mq_lkm, mq_lkn, mj_ldi, mj_ldl, mj_lda, mj_ii, mj_ll, mj_li, mj_i1, ms_1, ms_2, f1_n, f1_i, f1_r, f1_u, f1_l, f2_n, f2_i, f2_r, f2_u, f2_l, mj_tg, mj_c1, mj_c2, mj_ar, mj_aw, mq_cb, mq_oi, mj_rm, Value.category, -getElem?_pos, List.getElem?_cons_zero, decide_eq_true, decide_eq_false, nl_lt, nl_le, ln_lt, ln_le, nl_eq, ln_eq, nl_add, ln_add, nl_sub, ln_mul, nI_sub, nI_mul, nI_add, nI_lt_iff, nI_le_iff, nI_inj, nI_num, mq_ix, nI_1, nl_mul, nl_div, wkc_on hx hj, wkl_on hx, wkc_acts hx hj, wkl_acts hx, wkc_limit hx hj, wkl_limit hx, wkc_generation hx hj, wkl_generation hx, wkc_area hx hj, wkl_area hx, wkc_fend hx hj, wkl_fend hx, wkc_master hx hj, wkl_master hx, wkc_pinOf hx hj, wkl_pinOf hx, wkc_tries hx hj, wkl_tries hx, wkc_own hx hj, wkl_own hx, wkc_creds hx hj, wkl_creds hx, wkc_presses hx hj, wkl_presses hx, wkc_taken hx hj, wkl_taken hx, wkc_answered hx hj, wkl_answered hx, wkc_agreeing hx hj, wkl_agreeing hx, wkc_token hx hj, wkl_token hx, wkc_wrong hx hj, wkl_wrong hx, wkc_heard hx hj, wkl_heard hx, wkc_listed hx hj, wkl_listed hx, wkc_listAt hx hj, wkl_listAt hx, wkc_listHash hx hj, wkl_listHash hx, wkc_listFlags hx hj, wkl_listFlags hx, wkc_answerSize hx hj, wkl_answerSize hx, wkc_flash hx hj, wkl_flash hx hj, p7, hw, h0, narrow]
      · rw [if_neg h0]
        by_cases h3 : 3 ≤ k.2.1.1.2 + 1
        · rw [if_pos h3]
          simp (disch := (first | omega | decide)) [S_cb_mmade4_0, S_bx_mcan1_0, S_b8_mkey_1, S_b8_mkey_0, S_b1_mterm_0, S_b1_copy_0, S_b0_mod_7, S_b0_mod_6, S_b0_mod_5, S_b0_mod_3, S_b0_mod_2, S_b0_mod_1, S_b0_mod_0, S_cb_mmade4_1h, S_bx_mcan1_1h, S_b0_mod_4h, s329_0, s329_1, s329_2, s329_3, s329_6, s329_7, s329_10, s329_11, s329_12, s329_13, s329_14, s329_17, s329_20, s329_23, s329_25, s329_26, s329_27, s329_28, s329_31, s329_32, s329_33, s329_36, s329_37, s329_38, s329_41, s329_42, s329_43, s329_46, s329_47, s329_50, s329_52, s329_53, s329_56, s329_58, s329_61, s329_62, s329_63, s329_66, s329_69, s329_70, s329_71, s329_74, s329_76, s329_79, s329_80, s329_83, s329_84, s329_85, s329_86, s329_87, s329_88, s329_89, s329_92, s329_94, s329_97, s329_100, s329_103, s329_104, s329_107, s329_109, s329_110, s329_111, s329_114, s329_115, s329_116, s329_119, s329_120, s329_121, s329_124, s329_125, s329_126, s329_127, s329_128, s329_129, s329_130, s329_131, s329_134, s329_135, s329_136, s329_139, s329_141, s329_144, s329_145, s329_148, s329_149, s329_150, s329_151, s329_154, s329_156, s329_159, s329_161, mq_k0s, mq_k1s, mq_k2s, mq_k4s, mq_k5s, mq_k5n, mq_k5as, mq_k6s, mj_pu, mj_lo, mj_br, mj_hr, mj_hw, mq_gf, mq_len, mq_al, mq_pf, mq_ok, mj_re, mq_lkm, mq_lkn, mj_ldi, mj_ldl, mj_lda, mj_ii, mj_ll, mj_li, mj_i1, ms_1, ms_2, f1_n, f1_i, f1_r, f1_u, f1_l, f2_n, f2_i, f2_r, f2_u, f2_l, mj_tg, mj_c1, mj_c2, mj_ar, mj_aw, mq_cb, mq_oi, mj_rm, Value.category, -getElem?_pos, List.getElem?_cons_zero, decide_eq_true, decide_eq_false, nl_lt, nl_le, ln_lt, ln_le, nl_eq, ln_eq, nl_add, ln_add, nl_sub, ln_mul, nI_sub, nI_mul, nI_add, nI_lt_iff, nI_le_iff, nI_inj, nI_num, mq_ix, nI_1, nl_mul, nl_div, wkc_on hx hj, wkl_on hx, wkc_acts hx hj, wkl_acts hx, wkc_limit hx hj, wkl_limit hx, wkc_generation hx hj, wkl_generation hx, wkc_area hx hj, wkl_area hx, wkc_fend hx hj, wkl_fend hx, wkc_master hx hj, wkl_master hx, wkc_pinOf hx hj, wkl_pinOf hx, wkc_tries hx hj, wkl_tries hx, wkc_own hx hj, wkl_own hx, wkc_creds hx hj, wkl_creds hx, wkc_presses hx hj, wkl_presses hx, wkc_taken hx hj, wkl_taken hx, wkc_answered hx hj, wkl_answered hx, wkc_agreeing hx hj, wkl_agreeing hx, wkc_token hx hj, wkl_token hx, wkc_wrong hx hj, wkl_wrong hx, wkc_heard hx hj, wkl_heard hx, wkc_listed hx hj, wkl_listed hx, wkc_listAt hx hj, wkl_listAt hx, wkc_listHash hx hj, wkl_listHash hx, wkc_listFlags hx hj, wkl_listFlags hx, wkc_answerSize hx hj, wkl_answerSize hx, wkc_flash hx hj, wkl_flash hx hj, p7, hw, h0, narrow, show k.2.1.1.2 + 1 = 3 by omega]
        · rw [if_neg h3]
          simp (disch := (first | omega | decide)) [S_cb_mmade4_0, S_bx_mcan1_0, S_b8_mkey_1, S_b8_mkey_0, S_b1_mterm_0, S_b1_copy_0, S_b0_mod_7, S_b0_mod_6, S_b0_mod_5, S_b0_mod_3, S_b0_mod_2, S_b0_mod_1, S_b0_mod_0, S_cb_mmade4_1h, S_bx_mcan1_1h, S_b0_mod_4h, s329_0, s329_1, s329_2, s329_3, s329_6, s329_7, s329_10, s329_11, s329_12, s329_13, s329_14, s329_17, s329_20, s329_23, s329_25, s329_26, s329_27, s329_28, s329_31, s329_32, s329_33, s329_36, s329_37, s329_38, s329_41, s329_42, s329_43, s329_46, s329_47, s329_50, s329_52, s329_53, s329_56, s329_58, s329_61, s329_62, s329_63, s329_66, s329_69, s329_70, s329_71, s329_74, s329_76, s329_79, s329_80, s329_83, s329_84, s329_85, s329_86, s329_87, s329_88, s329_89, s329_92, s329_94, s329_97, s329_100, s329_103, s329_104, s329_107, s329_109, s329_110, s329_111, s329_114, s329_115, s329_116, s329_119, s329_120, s329_121, s329_124, s329_125, s329_126, s329_127, s329_128, s329_129, s329_130, s329_131, s329_134, s329_135, s329_136, s329_139, s329_141, s329_144, s329_145, s329_148, s329_149, s329_150, s329_151, s329_154, s329_156, s329_159, s329_161, mq_k0s, mq_k1s, mq_k2s, mq_k4s, mq_k5s, mq_k5n, mq_k5as, mq_k6s, mj_pu, mj_lo, mj_br, mj_hr, mj_hw, mq_gf, mq_len, mq_al, mq_pf, mq_ok, mj_re, mq_lkm, mq_lkn, mj_ldi, mj_ldl, mj_lda, mj_ii, mj_ll, mj_li, mj_i1, ms_1, ms_2, f1_n, f1_i, f1_r, f1_u, f1_l, f2_n, f2_i, f2_r, f2_u, f2_l, mj_tg, mj_c1, mj_c2, mj_ar, mj_aw, mq_cb, mq_oi, mj_rm, Value.category, -getElem?_pos, List.getElem?_cons_zero, decide_eq_true, decide_eq_false, nl_lt, nl_le, ln_lt, ln_le, nl_eq, ln_eq, nl_add, ln_add, nl_sub, ln_mul, nI_sub, nI_mul, nI_add, nI_lt_iff, nI_le_iff, nI_inj, nI_num, mq_ix, nI_1, nl_mul, nl_div, wkc_on hx hj, wkl_on hx, wkc_acts hx hj, wkl_acts hx, wkc_limit hx hj, wkl_limit hx, wkc_generation hx hj, wkl_generation hx, wkc_area hx hj, wkl_area hx, wkc_fend hx hj, wkl_fend hx, wkc_master hx hj, wkl_master hx, wkc_pinOf hx hj, wkl_pinOf hx, wkc_tries hx hj, wkl_tries hx, wkc_own hx hj, wkl_own hx, wkc_creds hx hj, wkl_creds hx, wkc_presses hx hj, wkl_presses hx, wkc_taken hx hj, wkl_taken hx, wkc_answered hx hj, wkl_answered hx, wkc_agreeing hx hj, wkl_agreeing hx, wkc_token hx hj, wkl_token hx, wkc_wrong hx hj, wkl_wrong hx, wkc_heard hx hj, wkl_heard hx, wkc_listed hx hj, wkl_listed hx, wkc_listAt hx hj, wkl_listAt hx, wkc_listHash hx hj, wkl_listHash hx, wkc_listFlags hx hj, wkl_listFlags hx, wkc_answerSize hx hj, wkl_answerSize hx, wkc_flash hx hj, wkl_flash hx hj, p7, hw, h0, narrow, show ¬ k.2.1.1.2 + 1 = 3 by omega]
    by_cases hs0 : sh = 0
    · have hz : tm_ix T.1 (4 :: nI sh :: b4 K.1.1.1.1.2.2.2.2.2.2.2.2.1) = 0 := by
        by_cases z : tm_ix T.1 (4 :: nI sh :: b4 K.1.1.1.1.2.2.2.2.2.2.2.2.1) = 0
        · exact z
        · exact absurd (ix_mem z) (by rw [hs0]; exact h9.e4 _)
      rw [hz]
      simp only [decide_true, Bool.not_true, Bool.false_and, Bool.false_eq_true, if_false]
      apply bad
      intro r hr
      apply to52
      rw [hs0, nI_0]
      generalize nI (tm_ix T.1 (4 :: 0 :: b4 K.1.1.1.1.2.2.2.2.2.2.2.2.1)) = ix at *
      simp (disch := (first | omega | decide)) [S_cb_mmade4_0, S_bx_mcan1_0, S_b8_mkey_1, S_b8_mkey_0, S_b1_mterm_0, S_b1_copy_0, S_b0_mod_7, S_b0_mod_6, S_b0_mod_5, S_b0_mod_3, S_b0_mod_2, S_b0_mod_1, S_b0_mod_0, S_cb_mmade4_1h, S_bx_mcan1_1h, S_b0_mod_4h, s329_0, s329_1, s329_2, s329_3, s329_6, s329_7, s329_10, s329_11, s329_12, s329_13, s329_14, s329_17, s329_20, s329_23, s329_25, s329_26, s329_27, s329_28, s329_31, s329_32, s329_33, s329_36, s329_37, s329_38, s329_41, s329_42, s329_43, s329_46, s329_47, s329_50, s329_52, s329_53, s329_56, s329_58, s329_61, s329_62, s329_63, s329_66, s329_69, s329_70, s329_71, s329_74, s329_76, s329_79, s329_80, s329_83, s329_84, s329_85, s329_86, s329_87, s329_88, s329_89, s329_92, s329_94, s329_97, s329_100, s329_103, s329_104, s329_107, s329_109, s329_111, s329_114, s329_115, s329_116, s329_119, s329_120, s329_121, s329_124, s329_125, s329_126, s329_127, s329_128, s329_129, s329_130, s329_131, s329_134, s329_135, s329_136, s329_139, s329_141, s329_144, s329_145, s329_148, s329_149, s329_150, s329_151, s329_154, s329_156, s329_159, s329_161, mq_k0s, mq_k1s, mq_k2s, mq_k4s, mq_k5s, mq_k5n, mq_k5as, mq_k6s, mj_pu, mj_lo, mj_br, mj_hr, mj_hw, mq_gf, mq_len, mq_al, mq_pf, mq_ok, mj_re, mq_lkm, mq_lkn, mj_ldi, mj_ldl, mj_lda, mj_ii, mj_ll, mj_li, mj_i1, ms_1, ms_2, f1_n, f1_i, f1_r, f1_u, f1_l, f2_n, f2_i, f2_r, f2_u, f2_l, mj_tg, mj_c1, mj_c2, mj_ar, mj_aw, mq_cb, mq_oi, mj_rm, Value.category, -getElem?_pos, List.getElem?_cons_zero, decide_eq_true, decide_eq_false, nl_lt, nl_le, ln_lt, ln_le, nl_eq, ln_eq, nl_add, ln_add, nl_sub, ln_mul, nI_sub, nI_mul, nI_add, nI_lt_iff, nI_le_iff, nI_inj, nI_num, mq_ix, nI_1, nl_mul, nl_div]
      refine mq_wk ?_ hr
      simp [S_cb_mmade4_0, S_bx_mcan1_0, S_b8_mkey_1, S_b8_mkey_0, S_b1_mterm_0, S_b1_copy_0, S_b0_mod_7, S_b0_mod_6, S_b0_mod_5, S_b0_mod_3, S_b0_mod_2, S_b0_mod_1, S_b0_mod_0, S_cb_mmade4_1h, S_bx_mcan1_1h, S_b0_mod_4h, mq_sub, mj_lk]
    · have hsn : ¬ nI sh = 0 := fun z => hs0 ((nI_inj (b := 0) (by omega) (by omega)).mp z)
      generalize tm_ix T.1 (4 :: nI sh :: b4 K.1.1.1.1.2.2.2.2.2.2.2.2.1) = ix at *
      have hd6 := (cbOk_hd.mp i6.ok).1
      have hV6 := hd6.2.2.2.2.2.1
      have ri := q_isInt (d := d + 3) (B := B) (x := x.wk j K.1.1.1.1 m1) (y := y4) (h.wk j K.1.1.1.1 m1) hd6.1 hd6.2.2.2.1 hV6
      by_cases hz : ix = 0
      · simp only [hz, decide_true, Bool.not_true, Bool.false_and, Bool.false_eq_true, if_false]
        apply bad
        intro r hr
        apply to52
        rw [hz, nI_0]
        simp (disch := (first | omega | decide)) [S_cb_mmade4_0, S_bx_mcan1_0, S_b8_mkey_1, S_b8_mkey_0, S_b1_mterm_0, S_b1_copy_0, S_b0_mod_7, S_b0_mod_6, S_b0_mod_5, S_b0_mod_3, S_b0_mod_2, S_b0_mod_1, S_b0_mod_0, S_cb_mmade4_1h, S_bx_mcan1_1h, S_b0_mod_4h, s329_0, s329_1, s329_2, s329_3, s329_6, s329_7, s329_10, s329_11, s329_12, s329_13, s329_14, s329_17, s329_20, s329_23, s329_25, s329_26, s329_27, s329_28, s329_31, s329_32, s329_33, s329_36, s329_37, s329_38, s329_41, s329_42, s329_43, s329_46, s329_47, s329_50, s329_52, s329_53, s329_56, s329_58, s329_61, s329_62, s329_63, s329_66, s329_69, s329_70, s329_71, s329_74, s329_76, s329_79, s329_80, s329_83, s329_84, s329_85, s329_86, s329_87, s329_88, s329_89, s329_92, s329_94, s329_97, s329_100, s329_103, s329_104, s329_107, s329_109, s329_111, s329_114, s329_115, s329_116, s329_119, s329_120, s329_121, s329_124, s329_125, s329_126, s329_127, s329_128, s329_129, s329_130, s329_131, s329_134, s329_135, s329_136, s329_139, s329_141, s329_144, s329_145, s329_148, s329_149, s329_150, s329_151, s329_154, s329_156, s329_159, s329_161, mq_k0s, mq_k1s, mq_k2s, mq_k4s, mq_k5s, mq_k5n, mq_k5as, mq_k6s, mj_pu, mj_lo, mj_br, mj_hr, mj_hw, mq_gf, mq_len, mq_al, mq_pf, mq_ok, mj_re, mq_lkm, mq_lkn, mj_ldi, mj_ldl, mj_lda, mj_ii, mj_ll, mj_li, mj_i1, ms_1, ms_2, f1_n, f1_i, f1_r, f1_u, f1_l, f2_n, f2_i, f2_r, f2_u, f2_l, mj_tg, mj_c1, mj_c2, mj_ar, mj_aw, mq_cb, mq_oi, mj_rm, Value.category, -getElem?_pos, List.getElem?_cons_zero, decide_eq_true, decide_eq_false, nl_lt, nl_le, ln_lt, ln_le, nl_eq, ln_eq, nl_add, ln_add, nl_sub, ln_mul, nI_sub, nI_mul, nI_add, nI_lt_iff, nI_le_iff, nI_inj, nI_num, mq_ix, nI_1, nl_mul, nl_div, hsn]
        refine mq_wk ?_ hr
        simp [S_cb_mmade4_0, S_bx_mcan1_0, S_b8_mkey_1, S_b8_mkey_0, S_b1_mterm_0, S_b1_copy_0, S_b0_mod_7, S_b0_mod_6, S_b0_mod_5, S_b0_mod_3, S_b0_mod_2, S_b0_mod_1, S_b0_mod_0, S_cb_mmade4_1h, S_bx_mcan1_1h, S_b0_mod_4h, mq_sub, mj_lk]
      · have hzn : ¬ nI ix = 0 := fun z => hz ((nI_inj (b := 0) (by omega) (by omega)).mp z)
        by_cases h4 : cbV ms p6 = 4
        · have hin4 := (cbOk_hd.mp i6.ok).2 (Or.inl s6)
          rw [h4] at hin4
          have rI := q_itemInt (d := d + 3) (B := B) (x := x.wk j K.1.1.1.1 m1) (y := y4) (h.wk j K.1.1.1.1 m1) hd6.1 hin4
          rw [decide_eq_true h4] at ri
          simp only [on1, if_true] at ri
          generalize w4a ms (cbC ms p6) = id at *
          by_cases he : nI ix = id
          · simp only [hz, h4, he, decide_false, decide_true, Bool.not_false, Bool.and_self, if_true]
            rw [he] at hzn to52
            -- the PIN is right
            generalize hK2 : ((((((K.1.1.1.1, K.1.1.1.2), (K.1.1.2.1, K.1.1.2.2)), ((K.1.2.1.1, K.1.2.1.2), (K.1.2.2.1, K.1.2.2.2))), (((K.2.1.1.1, 0), (K.2.1.2.1, K.2.1.2.2)), ((K.2.2.1.1, K.2.2.1.2), K.2.2.2))) : Ky) : Ky) = K2
            have kr2 : kr K2 ((((((m1.1.1.1.1.1, m1.1.1.1.1.2), m1.1.1.1.2), (m1.1.1.2.1, m1.1.1.2.2)), (((0, m1.1.2.1.1.2), m1.1.2.1.2), (m1.1.2.2.1, m1.1.2.2.2))), ((((m1.2.1.1.1.1, m1.2.1.1.1.2), m1.2.1.1.2), (m1.2.1.2.1, m1.2.1.2.2)), (((m1.2.2.1.1.1, m1.2.2.1.1.2), m1.2.2.1.2), (m1.2.2.2.1, m1.2.2.2.2)))) : Mk) := by rw [← hK2]; exact (kr_mk_ kr1.pr kr1.ta kr1.an kr1.ag kr1.tk rfl kr1.he)
            have wm2 : wm ((((((m1.1.1.1.1.1, m1.1.1.1.1.2), m1.1.1.1.2), (m1.1.1.2.1, m1.1.1.2.2)), (((0, m1.1.2.1.1.2), m1.1.2.1.2), (m1.1.2.2.1, m1.1.2.2.2))), ((((m1.2.1.1.1.1, m1.2.1.1.1.2), m1.2.1.1.2), (m1.2.1.2.1, m1.2.1.2.2)), (((m1.2.2.1.1.1, m1.2.2.1.1.2), m1.2.2.1.2), (m1.2.2.2.1, m1.2.2.2.2)))) : Mk) := (wm_mk_ wm1.credId wm1.credHash wm1.credSecret wm1.credCount wm1.credLong wm1.credUser wm1.list wm1.answers)
            have s2 : K2.1.1.1.1 = K.1.1.1.1 := by rw [← hK2]
            have hI2 : kI K2 (g + 1) := by rw [← hK2]; exact (kI_mk_ hI1.w9 (by dsimp only; omega) hI1.w hI1.cr hI1.gn hI1.tr)
            have cf2 : cF K2.1.1.1.1.2.2.2.2.2.2.2.2.2.2.2 ((((((m1.1.1.1.1.1, m1.1.1.1.1.2), m1.1.1.1.2), (m1.1.1.2.1, m1.1.1.2.2)), (((0, m1.1.2.1.1.2), m1.1.2.1.2), (m1.1.2.2.1, m1.1.2.2.2))), ((((m1.2.1.1.1.1, m1.2.1.1.1.2), m1.2.1.1.2), (m1.2.1.2.1, m1.2.1.2.2)), (((m1.2.2.1.1.1, m1.2.2.1.1.2), m1.2.2.1.2), (m1.2.2.2.1, m1.2.2.2.2)))) : Mk) := by rw [s2]; exact cf1
            obtain ⟨l2, m3, y5, hl2, wm3, kr3, cf3, mr3, z5, p7, p8⟩ := q_wrTries (d := d) (B := B) hx hj wm2 kr2 hI2 cf2 z4 (n := 8) (by omega)
            have eres : (((((((ky_w K (rcn 3 8 0)).1.1.1.1, (ky_w K (rcn 3 8 0)).1.1.1.2), ((ky_w K (rcn 3 8 0)).1.1.2.1, (ky_w K (rcn 3 8 0)).1.1.2.2)), (((ky_w K (rcn 3 8 0)).1.2.1.1, (ky_w K (rcn 3 8 0)).1.2.1.2), ((ky_w K (rcn 3 8 0)).1.2.2.1, (ky_w K (rcn 3 8 0)).1.2.2.2))), ((((ky_w K (rcn 3 8 0)).2.1.1.1, 0), ((ky_w K (rcn 3 8 0)).2.1.2.1, (ky_w K (rcn 3 8 0)).2.1.2.2)), (((ky_w K (rcn 3 8 0)).2.2.1.1, (ky_w K (rcn 3 8 0)).2.2.1.2), (ky_w K (rcn 3 8 0)).2.2.2))) : Ky) : Ky) = ky_w K2 (rcn 3 (nI 8) 0) := by rw [← hK2]; rfl
            rw [eres]
            have to100 : ∀ r, mj_Rn (d + 6) mj_m329 100 [(0, .ref 67)] [.int (on1 (fs_wr (rcn 3 (nI 8) 0) K2.1.1.1.1).2)] (mm B (x.wk j (ky_w K2 (rcn 3 (nI 8) 0)).1.1.1.1 m3) y5) = some r → mj_V (d + 7) 329 [.ref 67, .int (nI j), .int (nI sh), .int (nI p6)] (mm B (x.wk j k.1.1.1.1 m) y) = some r := by
              intro r hr
              apply to52
              clear to52 bad to20
              rw [s2] at p7 p8 hr
              rw [show nI 8 = (8 : Int32) from rfl] at p7
              generalize (ky_w K2 (rcn 3 (nI 8) 0)).1.1.1.1 = s9 at *
              generalize on1 (fs_wr (rcn 3 (nI 8) 0) K.1.1.1.1).2 = ok at *
              simp (disch := (first | omega | decide)) [S_cb_mmade4_0, S_bx_mcan1_0, S_b8_mkey_1, S_b8_mkey_0, S_b1_mterm_0, S_b1_copy_0, S_b0_mod_7, S_b0_mod_6, S_b0_mod_5, S_b0_mod_3, S_b0_mod_2, S_b0_mod_1, S_b0_mod_0, S_cb_mmade4_1h, S_bx_mcan1_1h, S_b0_mod_4h, s329_0, s329_1, s329_2, s329_3, s329_6, s329_7, s329_10, s329_11, s329_12, s329_13, s329_14, s329_17, s329_20, s329_23, s329_25, s329_26, s329_27, s329_28, s329_31, s329_32, s329_33, s329_36, s329_37, s329_38, s329_41, s329_42, s329_43, s329_46, s329_47, s329_50, s329_52, s329_53, s329_56, s329_58, s329_61, s329_62, s329_63, s329_66, s329_69, s329_70, s329_71, s329_74, s329_76, s329_79, s329_80, s329_83, s329_84, s329_85, s329_86, s329_87, s329_88, s329_89, s329_92, s329_94, s329_97, s329_103, s329_104, s329_107, s329_109, s329_110, s329_111, s329_114, s329_115, s329_116, s329_119, s329_120, s329_121, s329_124, s329_125, s329_126, s329_127, s329_128, s329_129, s329_130, s329_131, s329_134, s329_135, s329_136, s329_139, s329_141, s329_144, s329_145, s329_148, s329_149, s329_150, s329_151, s329_154, s329_156, s329_159, s329_161, mq_k0s, mq_k1s, mq_k2s, mq_k4s, mq_k5s, mq_k5n, mq_k5as, mq_k6s, mj_pu, mj_lo, mj_br, mj_hr, mj_hw, mq_gf, mq_len, mq_al, mq_pf, mq_ok, mj_re, mq_lkm, mq_lkn, mj_ldi, mj_ldl, mj_lda, mj_ii, mj_ll, mj_li, mj_i1, ms_1, ms_2, f1_n, f1_i, f1_r, f1_u, f1_l, f2_n, f2_i, f2_r, f2_u, f2_l, mj_tg, mj_c1, mj_c2, mj_ar, mj_aw, mq_cb, mq_oi, mj_rm, Value.category, -getElem?_pos, List.getElem?_cons_zero, decide_eq_true, decide_eq_false, nl_lt, nl_le, ln_lt, ln_le, nl_eq, ln_eq, nl_add, ln_add, nl_sub, ln_mul, nI_sub, nI_mul, nI_add, nI_lt_iff, nI_le_iff, nI_inj, nI_num, mq_ix, nI_1, nl_mul, nl_div, wkc_on hx hj, wkl_on hx, wkc_acts hx hj, wkl_acts hx, wkc_limit hx hj, wkl_limit hx, wkc_generation hx hj, wkl_generation hx, wkc_area hx hj, wkl_area hx, wkc_fend hx hj, wkl_fend hx, wkc_master hx hj, wkl_master hx, wkc_pinOf hx hj, wkl_pinOf hx, wkc_tries hx hj, wkl_tries hx, wkc_own hx hj, wkl_own hx, wkc_creds hx hj, wkl_creds hx, wkc_presses hx hj, wkl_presses hx, wkc_taken hx hj, wkl_taken hx, wkc_answered hx hj, wkl_answered hx, wkc_agreeing hx hj, wkl_agreeing hx, wkc_token hx hj, wkl_token hx, wkc_wrong hx hj, wkl_wrong hx, wkc_heard hx hj, wkl_heard hx, wkc_listed hx hj, wkl_listed hx, wkc_listAt hx hj, wkl_listAt hx, wkc_listHash hx hj, wkl_listHash hx, wkc_listFlags hx hj, wkl_listFlags hx, wkc_answerSize hx hj, wkl_answerSize hx, wkc_flash hx hj, wkl_flash hx hj, hsn, hzn, ri, rI, p7, p8]
              refine mq_wk ?_ hr
              simp [S_cb_mmade4_0, S_bx_mcan1_0, S_b8_mkey_1, S_b8_mkey_0, S_b1_mterm_0, S_b1_copy_0, S_b0_mod_7, S_b0_mod_6, S_b0_mod_5, S_b0_mod_3, S_b0_mod_2, S_b0_mod_1, S_b0_mod_0, S_cb_mmade4_1h, S_bx_mcan1_1h, S_b0_mod_4h, mq_sub, mj_lk]
            have hml : ml m3 = ml m := (ml_mr mr3).trans (show ml m1 = ml m from ml_mr mr1)
            cases hw3 : (fs_wr (rcn 3 (nI 8) 0) K2.1.1.1.1).2 with
            | false =>
              refine ⟨-3, m3, y5, _, O, ?_, wm3, kr3, cf3, z5, hml, fun hon => ?_, fun _ => by decide⟩
              · apply to100
                rw [hw3]
                dsimp only
                generalize (ky_w K2 (rcn 3 (nI 8) 0)).1.1.1.1 = s9 at *
                simp (disch := (first | omega | decide)) [S_cb_mmade4_0, S_bx_mcan1_0, S_b8_mkey_1, S_b8_mkey_0, S_b1_mterm_0, S_b1_copy_0, S_b0_mod_7, S_b0_mod_6, S_b0_mod_5, S_b0_mod_3, S_b0_mod_2, S_b0_mod_1, S_b0_mod_0, S_cb_mmade4_1h, S_bx_mcan1_1h, S_b0_mod_4h, s329_0, s329_1, s329_2, s329_3, s329_6, s329_7, s329_10, s329_11, s329_12, s329_13, s329_14, s329_17, s329_20, s329_23, s329_25, s329_26, s329_27, s329_28, s329_31, s329_32, s329_33, s329_36, s329_37, s329_38, s329_41, s329_42, s329_43, s329_46, s329_47, s329_50, s329_52, s329_53, s329_56, s329_58, s329_61, s329_62, s329_63, s329_66, s329_69, s329_70, s329_71, s329_74, s329_76, s329_79, s329_80, s329_83, s329_84, s329_85, s329_86, s329_87, s329_88, s329_89, s329_92, s329_94, s329_97, s329_100, s329_103, s329_104, s329_107, s329_109, s329_110, s329_111, s329_114, s329_115, s329_116, s329_119, s329_120, s329_121, s329_124, s329_125, s329_126, s329_127, s329_128, s329_129, s329_130, s329_131, s329_134, s329_135, s329_136, s329_139, s329_141, s329_144, s329_145, s329_148, s329_149, s329_150, s329_151, s329_154, s329_156, s329_159, s329_161, mq_k0s, mq_k1s, mq_k2s, mq_k4s, mq_k5s, mq_k5n, mq_k5as, mq_k6s, mj_pu, mj_lo, mj_br, mj_hr, mj_hw, mq_gf, mq_len, mq_al, mq_pf, mq_ok, mj_re, mq_lkm, mq_lkn, mj_ldi, mj_ldl, mj_lda, mj_ii, mj_ll, mj_li, mj_i1, ms_1, ms_2, f1_n, f1_i, f1_r, f1_u, f1_l, f2_n, f2_i, f2_r, f2_u, f2_l, mj_tg, mj_c1, mj_c2, mj_ar, mj_aw, mq_cb, mq_oi, mj_rm, Value.category, -getElem?_pos, List.getElem?_cons_zero, decide_eq_true, decide_eq_false, nl_lt, nl_le, ln_lt, ln_le, nl_eq, ln_eq, nl_add, ln_add, nl_sub, ln_mul, nI_sub, nI_mul, nI_add, nI_lt_iff, nI_le_iff, nI_inj, nI_num, mq_ix, nI_1, nl_mul, nl_div, on1, narrow]
              · exfalso
                exact off_of hw3 hon
            | true =>
              refine ⟨0, m3, y5, _, O, ?_, wm3, kr3, cf3, z5, hml, fun _ => ⟨rfl, fun _ => ⟨[], by simp [S_cb_mmade4_0, S_bx_mcan1_0, S_b8_mkey_1, S_b8_mkey_0, S_b1_mterm_0, S_b1_copy_0, S_b0_mod_7, S_b0_mod_6, S_b0_mod_5, S_b0_mod_3, S_b0_mod_2, S_b0_mod_1, S_b0_mod_0, S_cb_mmade4_1h, S_bx_mcan1_1h, S_b0_mod_4h], ?_⟩⟩, fun hoff => ?_⟩
              · apply to100
                rw [hw3]
                dsimp only
                generalize (ky_w K2 (rcn 3 (nI 8) 0)).1.1.1.1 = s9 at *
                simp (disch := (first | omega | decide)) [S_cb_mmade4_0, S_bx_mcan1_0, S_b8_mkey_1, S_b8_mkey_0, S_b1_mterm_0, S_b1_copy_0, S_b0_mod_7, S_b0_mod_6, S_b0_mod_5, S_b0_mod_3, S_b0_mod_2, S_b0_mod_1, S_b0_mod_0, S_cb_mmade4_1h, S_bx_mcan1_1h, S_b0_mod_4h, s329_0, s329_1, s329_2, s329_3, s329_6, s329_7, s329_10, s329_11, s329_12, s329_13, s329_14, s329_17, s329_20, s329_23, s329_25, s329_26, s329_27, s329_28, s329_31, s329_32, s329_33, s329_36, s329_37, s329_38, s329_41, s329_42, s329_43, s329_46, s329_47, s329_50, s329_52, s329_53, s329_56, s329_58, s329_61, s329_62, s329_63, s329_66, s329_69, s329_70, s329_71, s329_74, s329_76, s329_79, s329_80, s329_83, s329_84, s329_85, s329_86, s329_87, s329_88, s329_89, s329_92, s329_94, s329_97, s329_100, s329_103, s329_104, s329_107, s329_109, s329_110, s329_111, s329_114, s329_115, s329_116, s329_119, s329_120, s329_121, s329_124, s329_125, s329_126, s329_127, s329_128, s329_129, s329_130, s329_131, s329_134, s329_135, s329_136, s329_139, s329_141, s329_144, s329_145, s329_148, s329_149, s329_150, s329_151, s329_154, s329_156, s329_159, s329_161, mq_k0s, mq_k1s, mq_k2s, mq_k4s, mq_k5s, mq_k5n, mq_k5as, mq_k6s, mj_pu, mj_lo, mj_br, mj_hr, mj_hw, mq_gf, mq_len, mq_al, mq_pf, mq_ok, mj_re, mq_lkm, mq_lkn, mj_ldi, mj_ldl, mj_lda, mj_ii, mj_ll, mj_li, mj_i1, ms_1, ms_2, f1_n, f1_i, f1_r, f1_u, f1_l, f2_n, f2_i, f2_r, f2_u, f2_l, mj_tg, mj_c1, mj_c2, mj_ar, mj_aw, mq_cb, mq_oi, mj_rm, Value.category, -getElem?_pos, List.getElem?_cons_zero, decide_eq_true, decide_eq_false, nl_lt, nl_le, ln_lt, ln_le, nl_eq, ln_eq, nl_add, ln_add, nl_sub, ln_mul, nI_sub, nI_mul, nI_add, nI_lt_iff, nI_le_iff, nI_inj, nI_num, mq_ix, nI_1, nl_mul, nl_div, on1, narrow]
              · show K2.1.1.1.2 = _
                rw [← hK2, List.append_nil]
                exact rep1
              · exfalso
                have h1 : K2.1.1.1.1.2.1 = true := by rw [s2, hs1]; exact on_of hwr hon0
                have h2 := on_of hw3 h1
                have h3 : (fs_wr (rcn 3 (nI 8) 0) K2.1.1.1.1).1.2.1 = false := hoff
                rw [h2] at h3
                cases h3
          · simp only [hz, h4, he, decide_false, decide_true, Bool.not_false, Bool.and_false, Bool.false_eq_true, if_false]
            have he2 : ¬ id = nI ix := fun z => he z.symm
            apply bad
            intro r hr
            apply to52
            simp (disch := (first | omega | decide)) [S_cb_mmade4_0, S_bx_mcan1_0, S_b8_mkey_1, S_b8_mkey_0, S_b1_mterm_0, S_b1_copy_0, S_b0_mod_7, S_b0_mod_6, S_b0_mod_5, S_b0_mod_3, S_b0_mod_2, S_b0_mod_1, S_b0_mod_0, S_cb_mmade4_1h, S_bx_mcan1_1h, S_b0_mod_4h, s329_0, s329_1, s329_2, s329_3, s329_6, s329_7, s329_10, s329_11, s329_12, s329_13, s329_14, s329_17, s329_20, s329_23, s329_25, s329_26, s329_27, s329_28, s329_31, s329_32, s329_33, s329_36, s329_37, s329_38, s329_41, s329_42, s329_43, s329_46, s329_47, s329_50, s329_52, s329_53, s329_56, s329_58, s329_61, s329_62, s329_63, s329_66, s329_69, s329_70, s329_71, s329_74, s329_76, s329_79, s329_80, s329_83, s329_84, s329_85, s329_86, s329_87, s329_88, s329_89, s329_92, s329_94, s329_97, s329_100, s329_103, s329_104, s329_107, s329_109, s329_111, s329_114, s329_115, s329_116, s329_119, s329_120, s329_121, s329_124, s329_125, s329_126, s329_127, s329_128, s329_129, s329_130, s329_131, s329_134, s329_135, s329_136, s329_139, s329_141, s329_144, s329_145, s329_148, s329_149, s329_150, s329_151, s329_154, s329_156, s329_159, s329_161, mq_k0s, mq_k1s, mq_k2s, mq_k4s, mq_k5s, mq_k5n, mq_k5as, mq_k6s, mj_pu, mj_lo, mj_br, mj_hr, mj_hw, mq_gf, mq_len, mq_al, mq_pf, mq_ok, mj_re, mq_lkm, mq_lkn, mj_ldi, mj_ldl, mj_lda, mj_ii, mj_ll, mj_li, mj_i1, ms_1, ms_2, f1_n, f1_i, f1_r, f1_u, f1_l, f2_n, f2_i, f2_r, f2_u, f2_l, mj_tg, mj_c1, mj_c2, mj_ar, mj_aw, mq_cb, mq_oi, mj_rm, Value.category, -getElem?_pos, List.getElem?_cons_zero, decide_eq_true, decide_eq_false, nl_lt, nl_le, ln_lt, ln_le, nl_eq, ln_eq, nl_add, ln_add, nl_sub, ln_mul, nI_sub, nI_mul, nI_add, nI_lt_iff, nI_le_iff, nI_inj, nI_num, mq_ix, nI_1, nl_mul, nl_div, hsn, hzn, ri, rI, he, he2]
            refine mq_wk ?_ hr
            simp [S_cb_mmade4_0, S_bx_mcan1_0, S_b8_mkey_1, S_b8_mkey_0, S_b1_mterm_0, S_b1_copy_0, S_b0_mod_7, S_b0_mod_6, S_b0_mod_5, S_b0_mod_3, S_b0_mod_2, S_b0_mod_1, S_b0_mod_0, S_cb_mmade4_1h, S_bx_mcan1_1h, S_b0_mod_4h, mq_sub, mj_lk]
        · simp only [hz, h4, decide_false, Bool.not_false, Bool.false_and, Bool.and_false, Bool.false_eq_true, if_false]
          rw [decide_eq_false h4] at ri
          simp only [on1, Bool.false_eq_true, if_false] at ri
          apply bad
          intro r hr
          apply to52
          simp (disch := (first | omega | decide)) [S_cb_mmade4_0, S_bx_mcan1_0, S_b8_mkey_1, S_b8_mkey_0, S_b1_mterm_0, S_b1_copy_0, S_b0_mod_7, S_b0_mod_6, S_b0_mod_5, S_b0_mod_3, S_b0_mod_2, S_b0_mod_1, S_b0_mod_0, S_cb_mmade4_1h, S_bx_mcan1_1h, S_b0_mod_4h, s329_0, s329_1, s329_2, s329_3, s329_6, s329_7, s329_10, s329_11, s329_12, s329_13, s329_14, s329_17, s329_20, s329_23, s329_25, s329_26, s329_27, s329_28, s329_31, s329_32, s329_33, s329_36, s329_37, s329_38, s329_41, s329_42, s329_43, s329_46, s329_47, s329_50, s329_52, s329_53, s329_56, s329_58, s329_61, s329_62, s329_63, s329_66, s329_69, s329_70, s329_71, s329_74, s329_76, s329_79, s329_80, s329_83, s329_84, s329_85, s329_86, s329_87, s329_88, s329_89, s329_92, s329_94, s329_97, s329_100, s329_103, s329_104, s329_107, s329_109, s329_111, s329_114, s329_115, s329_116, s329_119, s329_120, s329_121, s329_124, s329_125, s329_126, s329_127, s329_128, s329_129, s329_130, s329_131, s329_134, s329_135, s329_136, s329_139, s329_141, s329_144, s329_145, s329_148, s329_149, s329_150, s329_151, s329_154, s329_156, s329_159, s329_161, mq_k0s, mq_k1s, mq_k2s, mq_k4s, mq_k5s, mq_k5n, mq_k5as, mq_k6s, mj_pu, mj_lo, mj_br, mj_hr, mj_hw, mq_gf, mq_len, mq_al, mq_pf, mq_ok, mj_re, mq_lkm, mq_lkn, mj_ldi, mj_ldl, mj_lda, mj_ii, mj_ll, mj_li, mj_i1, ms_1, ms_2, f1_n, f1_i, f1_r, f1_u, f1_l, f2_n, f2_i, f2_r, f2_u, f2_l, mj_tg, mj_c1, mj_c2, mj_ar, mj_aw, mq_cb, mq_oi, mj_rm, Value.category, -getElem?_pos, List.getElem?_cons_zero, decide_eq_true, decide_eq_false, nl_lt, nl_le, ln_lt, ln_le, nl_eq, ln_eq, nl_add, ln_add, nl_sub, ln_mul, nI_sub, nI_mul, nI_add, nI_lt_iff, nI_le_iff, nI_inj, nI_num, mq_ix, nI_1, nl_mul, nl_div, hsn, hzn, ri]
          refine mq_wk ?_ hr
          simp [S_cb_mmade4_0, S_bx_mcan1_0, S_b8_mkey_1, S_b8_mkey_0, S_b1_mterm_0, S_b1_copy_0, S_b0_mod_7, S_b0_mod_6, S_b0_mod_5, S_b0_mod_3, S_b0_mod_2, S_b0_mod_1, S_b0_mod_0, S_cb_mmade4_1h, S_bx_mcan1_1h, S_b0_mod_4h, mq_sub, mj_lk]
end
end
/- cs.mpnd0 -/
section
set_option maxRecDepth 512
/-! The model: PIN, its steps. -/
set_option maxRecDepth 20000
/- 324 PasskeyHouseModel.pinAsked(I)I -/
theorem s324_0 {d : Nat} {ls : mj_L} {st : List Value} {M : mj_H} : mj_Rn d mj_m324 0 ls st M = mq_k0 d mj_m324 1 ls M (mj_lda (mj_lk ls 0) st) := mj_R0 (r := (.aload_n 0, 1, 0, 0, 0)) rfl rfl
theorem s324_1 {d : Nat} {ls : mj_L} {st : List Value} {M : mj_H} : mj_Rn d mj_m324 1 ls st M = mj_Rn d mj_m324 2 ls (.int 1 :: st) M := mj_R0 (r := (.iconst 1, 1, 0, 0, 0)) rfl rfl
theorem s324_2 {d : Nat} {ls : mj_L} {st : List Value} {M : mj_H} : mj_Rn d mj_m324 2 ls st M = mj_Rn d mj_m324 3 ls (.int 1 :: st) M := mj_R0 (r := (.iconst 1, 1, 0, 0, 0)) rfl rfl
theorem s324_3 {d : Nat} {ls : mj_L} {st : List Value} {M : mj_H} : mj_Rn (d + 1) mj_m324 3 ls st M = mq_k5a (d + 1) mj_m324 6 ls M 300 (mq_cb 0 2 11 st M) := mj_R5e (r := (.invokevirtual 473, 3, 0, 300, 36909)) (z := mj_m300) rfl rfl (by decide) (by decide) rfl
theorem s324_6 {d : Nat} {ls : mj_L} {st : List Value} {M : mj_H} : mj_Rn d mj_m324 6 ls st M = mq_k1 d mj_m324 7 M (mj_lo 11 (.istore 2) ls st) := (mj_R1 (r := (.istore_n 2, 1, 0, 0, 0)) rfl rfl).trans (congrArg (mq_k1 d mj_m324 7 M) (mq_sti (k := 2)))
theorem s324_7 {d : Nat} {ls : mj_L} {st : List Value} {M : mj_H} : mj_Rn d mj_m324 7 ls st M = mq_k0 d mj_m324 8 ls M (mj_lda (mj_lk ls 0) st) := mj_R0 (r := (.aload_n 0, 1, 0, 0, 0)) rfl rfl
theorem s324_8 {d : Nat} {ls : mj_L} {st : List Value} {M : mj_H} : mj_Rn d mj_m324 8 ls st M = mj_Rn d mj_m324 9 ls (.int 1 :: st) M := mj_R0 (r := (.iconst 1, 1, 0, 0, 0)) rfl rfl
theorem s324_9 {d : Nat} {ls : mj_L} {st : List Value} {M : mj_H} : mj_Rn d mj_m324 9 ls st M = mj_Rn d mj_m324 10 ls (.int 2 :: st) M := mj_R0 (r := (.iconst 2, 1, 0, 0, 0)) rfl rfl
theorem s324_10 {d : Nat} {ls : mj_L} {st : List Value} {M : mj_H} : mj_Rn (d + 1) mj_m324 10 ls st M = mq_k5a (d + 1) mj_m324 13 ls M 300 (mq_cb 0 2 11 st M) := mj_R5e (r := (.invokevirtual 473, 3, 0, 300, 36909)) (z := mj_m300) rfl rfl (by decide) (by decide) rfl
theorem s324_13 {d : Nat} {ls : mj_L} {st : List Value} {M : mj_H} : mj_Rn d mj_m324 13 ls st M = mq_k1 d mj_m324 14 M (mj_lo 11 (.istore 3) ls st) := (mj_R1 (r := (.istore_n 3, 1, 0, 0, 0)) rfl rfl).trans (congrArg (mq_k1 d mj_m324 14 M) (mq_sti (k := 3)))
theorem s324_14 {d : Nat} {ls : mj_L} {st : List Value} {M : mj_H} : mj_Rn d mj_m324 14 ls st M = mq_k0 d mj_m324 15 ls M (mj_lda (mj_lk ls 0) st) := mj_R0 (r := (.aload_n 0, 1, 0, 0, 0)) rfl rfl
theorem s324_15 {d : Nat} {ls : mj_L} {st : List Value} {M : mj_H} : mj_Rn d mj_m324 15 ls st M = mj_Rn d mj_m324 16 ls (.int 1 :: st) M := mj_R0 (r := (.iconst 1, 1, 0, 0, 0)) rfl rfl
theorem s324_16 {d : Nat} {ls : mj_L} {st : List Value} {M : mj_H} : mj_Rn d mj_m324 16 ls st M = mj_Rn d mj_m324 17 ls (.int 3 :: st) M := mj_R0 (r := (.iconst 3, 1, 0, 0, 0)) rfl rfl
theorem s324_17 {d : Nat} {ls : mj_L} {st : List Value} {M : mj_H} : mj_Rn (d + 1) mj_m324 17 ls st M = mq_k5a (d + 1) mj_m324 20 ls M 300 (mq_cb 0 2 11 st M) := mj_R5e (r := (.invokevirtual 473, 3, 0, 300, 36909)) (z := mj_m300) rfl rfl (by decide) (by decide) rfl
theorem s324_20 {d : Nat} {ls : mj_L} {st : List Value} {M : mj_H} : mj_Rn d mj_m324 20 ls st M = mq_k1 d mj_m324 22 M (mj_lo 11 (.istore 4) ls st) := mj_R1 (r := (.istore 4, 2, 0, 0, 0)) rfl rfl
theorem s324_22 {d : Nat} {ls : mj_L} {st : List Value} {M : mj_H} : mj_Rn d mj_m324 22 ls st M = mq_k0 d mj_m324 23 ls M (mj_lda (mj_lk ls 0) st) := mj_R0 (r := (.aload_n 0, 1, 0, 0, 0)) rfl rfl
theorem s324_23 {d : Nat} {ls : mj_L} {st : List Value} {M : mj_H} : mj_Rn d mj_m324 23 ls st M = mj_Rn d mj_m324 24 ls (.int 1 :: st) M := mj_R0 (r := (.iconst 1, 1, 0, 0, 0)) rfl rfl
theorem s324_24 {d : Nat} {ls : mj_L} {st : List Value} {M : mj_H} : mj_Rn d mj_m324 24 ls st M = mj_Rn d mj_m324 25 ls (.int 4 :: st) M := mj_R0 (r := (.iconst 4, 1, 0, 0, 0)) rfl rfl
theorem s324_25 {d : Nat} {ls : mj_L} {st : List Value} {M : mj_H} : mj_Rn (d + 1) mj_m324 25 ls st M = mq_k5a (d + 1) mj_m324 28 ls M 300 (mq_cb 0 2 11 st M) := mj_R5e (r := (.invokevirtual 473, 3, 0, 300, 36909)) (z := mj_m300) rfl rfl (by decide) (by decide) rfl
theorem s324_28 {d : Nat} {ls : mj_L} {st : List Value} {M : mj_H} : mj_Rn d mj_m324 28 ls st M = mq_k1 d mj_m324 30 M (mj_lo 11 (.istore 5) ls st) := mj_R1 (r := (.istore 5, 2, 0, 0, 0)) rfl rfl
theorem s324_30 {d : Nat} {ls : mj_L} {st : List Value} {M : mj_H} : mj_Rn d mj_m324 30 ls st M = mq_k0 d mj_m324 31 ls M (mj_lda (mj_lk ls 0) st) := mj_R0 (r := (.aload_n 0, 1, 0, 0, 0)) rfl rfl
theorem s324_31 {d : Nat} {ls : mj_L} {st : List Value} {M : mj_H} : mj_Rn d mj_m324 31 ls st M = mj_Rn d mj_m324 32 ls (.int 1 :: st) M := mj_R0 (r := (.iconst 1, 1, 0, 0, 0)) rfl rfl
theorem s324_32 {d : Nat} {ls : mj_L} {st : List Value} {M : mj_H} : mj_Rn d mj_m324 32 ls st M = mj_Rn d mj_m324 33 ls (.int 5 :: st) M := mj_R0 (r := (.iconst 5, 1, 0, 0, 0)) rfl rfl
theorem s324_33 {d : Nat} {ls : mj_L} {st : List Value} {M : mj_H} : mj_Rn (d + 1) mj_m324 33 ls st M = mq_k5a (d + 1) mj_m324 36 ls M 300 (mq_cb 0 2 11 st M) := mj_R5e (r := (.invokevirtual 473, 3, 0, 300, 36909)) (z := mj_m300) rfl rfl (by decide) (by decide) rfl
theorem s324_36 {d : Nat} {ls : mj_L} {st : List Value} {M : mj_H} : mj_Rn d mj_m324 36 ls st M = mq_k1 d mj_m324 38 M (mj_lo 11 (.istore 6) ls st) := mj_R1 (r := (.istore 6, 2, 0, 0, 0)) rfl rfl
theorem s324_38 {d : Nat} {ls : mj_L} {st : List Value} {M : mj_H} : mj_Rn d mj_m324 38 ls st M = mq_k0 d mj_m324 39 ls M (mj_lda (mj_lk ls 0) st) := mj_R0 (r := (.aload_n 0, 1, 0, 0, 0)) rfl rfl
theorem s324_39 {d : Nat} {ls : mj_L} {st : List Value} {M : mj_H} : mj_Rn d mj_m324 39 ls st M = mj_Rn d mj_m324 40 ls (.int 1 :: st) M := mj_R0 (r := (.iconst 1, 1, 0, 0, 0)) rfl rfl
theorem s324_40 {d : Nat} {ls : mj_L} {st : List Value} {M : mj_H} : mj_Rn d mj_m324 40 ls st M = mj_Rn d mj_m324 42 ls (.int 6 :: st) M := mj_R0 (r := (.bipush 6, 2, 0, 0, 0)) rfl rfl
theorem s324_42 {d : Nat} {ls : mj_L} {st : List Value} {M : mj_H} : mj_Rn (d + 1) mj_m324 42 ls st M = mq_k5a (d + 1) mj_m324 45 ls M 300 (mq_cb 0 2 11 st M) := mj_R5e (r := (.invokevirtual 473, 3, 0, 300, 36909)) (z := mj_m300) rfl rfl (by decide) (by decide) rfl
theorem s324_45 {d : Nat} {ls : mj_L} {st : List Value} {M : mj_H} : mj_Rn d mj_m324 45 ls st M = mq_k1 d mj_m324 47 M (mj_lo 11 (.istore 7) ls st) := mj_R1 (r := (.istore 7, 2, 0, 0, 0)) rfl rfl
theorem s324_47 {d : Nat} {ls : mj_L} {st : List Value} {M : mj_H} : mj_Rn d mj_m324 47 ls st M = mq_k0 d mj_m324 48 ls M (mj_lda (mj_lk ls 0) st) := mj_R0 (r := (.aload_n 0, 1, 0, 0, 0)) rfl rfl
theorem s324_48 {d : Nat} {ls : mj_L} {st : List Value} {M : mj_H} : mj_Rn d mj_m324 48 ls st M = mq_k0 d mj_m324 49 ls M (mj_ldi (mj_lk ls 2) st) := mj_R0 (r := (.iload_n 2, 1, 0, 0, 0)) rfl rfl
theorem s324_49 {d : Nat} {ls : mj_L} {st : List Value} {M : mj_H} : mj_Rn d mj_m324 49 ls st M = mj_Rn d mj_m324 50 ls (.int 0 :: st) M := mj_R0 (r := (.iconst 0, 1, 0, 0, 0)) rfl rfl
theorem s324_50 {d : Nat} {ls : mj_L} {st : List Value} {M : mj_H} : mj_Rn (d + 1) mj_m324 50 ls st M = mq_k5a (d + 1) mj_m324 53 ls M 302 (mq_cb 0 2 11 st M) := mj_R5e (r := (.invokevirtual 430, 3, 0, 302, 36918)) (z := mj_m302) rfl rfl (by decide) (by decide) rfl
theorem s324_53 {d : Nat} {ls : mj_L} {st : List Value} {M : mj_H} : mj_Rn d mj_m324 53 ls st M = mq_k2 d mj_m324 ls M (mj_br (.ifCond .eq 52) 53 st) := mj_R2 (r := (.ifCond .eq 52, 3, 0, 0, 0)) rfl rfl
theorem s324_56 {d : Nat} {ls : mj_L} {st : List Value} {M : mj_H} : mj_Rn d mj_m324 56 ls st M = mq_k0 d mj_m324 57 ls M (mj_lda (mj_lk ls 0) st) := mj_R0 (r := (.aload_n 0, 1, 0, 0, 0)) rfl rfl
theorem s324_57 {d : Nat} {ls : mj_L} {st : List Value} {M : mj_H} : mj_Rn d mj_m324 57 ls st M = mq_k0 d mj_m324 58 ls M (mj_ldi (mj_lk ls 3) st) := mj_R0 (r := (.iload_n 3, 1, 0, 0, 0)) rfl rfl
theorem s324_58 {d : Nat} {ls : mj_L} {st : List Value} {M : mj_H} : mj_Rn d mj_m324 58 ls st M = mj_Rn d mj_m324 59 ls (.int 0 :: st) M := mj_R0 (r := (.iconst 0, 1, 0, 0, 0)) rfl rfl
theorem s324_59 {d : Nat} {ls : mj_L} {st : List Value} {M : mj_H} : mj_Rn (d + 1) mj_m324 59 ls st M = mq_k5a (d + 1) mj_m324 62 ls M 302 (mq_cb 0 2 11 st M) := mj_R5e (r := (.invokevirtual 430, 3, 0, 302, 36918)) (z := mj_m302) rfl rfl (by decide) (by decide) rfl
theorem s324_62 {d : Nat} {ls : mj_L} {st : List Value} {M : mj_H} : mj_Rn d mj_m324 62 ls st M = mq_k2 d mj_m324 ls M (mj_br (.ifCond .eq 43) 62 st) := mj_R2 (r := (.ifCond .eq 43, 3, 0, 0, 0)) rfl rfl
theorem s324_65 {d : Nat} {ls : mj_L} {st : List Value} {M : mj_H} : mj_Rn d mj_m324 65 ls st M = mq_k0 d mj_m324 66 ls M (mj_lda (mj_lk ls 0) st) := mj_R0 (r := (.aload_n 0, 1, 0, 0, 0)) rfl rfl
theorem s324_66 {d : Nat} {ls : mj_L} {st : List Value} {M : mj_H} : mj_Rn d mj_m324 66 ls st M = mq_k0 d mj_m324 68 ls M (mj_ldi (mj_lk ls 4) st) := mj_R0 (r := (.iload 4, 2, 0, 0, 0)) rfl rfl
theorem s324_68 {d : Nat} {ls : mj_L} {st : List Value} {M : mj_H} : mj_Rn d mj_m324 68 ls st M = mj_Rn d mj_m324 69 ls (.int 2 :: st) M := mj_R0 (r := (.iconst 2, 1, 0, 0, 0)) rfl rfl
theorem s324_69 {d : Nat} {ls : mj_L} {st : List Value} {M : mj_H} : mj_Rn (d + 1) mj_m324 69 ls st M = mq_k5a (d + 1) mj_m324 72 ls M 302 (mq_cb 0 2 11 st M) := mj_R5e (r := (.invokevirtual 430, 3, 0, 302, 36918)) (z := mj_m302) rfl rfl (by decide) (by decide) rfl
theorem s324_72 {d : Nat} {ls : mj_L} {st : List Value} {M : mj_H} : mj_Rn d mj_m324 72 ls st M = mq_k2 d mj_m324 ls M (mj_br (.ifCond .eq 33) 72 st) := mj_R2 (r := (.ifCond .eq 33, 3, 0, 0, 0)) rfl rfl
theorem s324_75 {d : Nat} {ls : mj_L} {st : List Value} {M : mj_H} : mj_Rn d mj_m324 75 ls st M = mq_k0 d mj_m324 76 ls M (mj_lda (mj_lk ls 0) st) := mj_R0 (r := (.aload_n 0, 1, 0, 0, 0)) rfl rfl
theorem s324_76 {d : Nat} {ls : mj_L} {st : List Value} {M : mj_H} : mj_Rn d mj_m324 76 ls st M = mq_k0 d mj_m324 78 ls M (mj_ldi (mj_lk ls 5) st) := mj_R0 (r := (.iload 5, 2, 0, 0, 0)) rfl rfl
theorem s324_78 {d : Nat} {ls : mj_L} {st : List Value} {M : mj_H} : mj_Rn d mj_m324 78 ls st M = mj_Rn d mj_m324 79 ls (.int 2 :: st) M := mj_R0 (r := (.iconst 2, 1, 0, 0, 0)) rfl rfl
theorem s324_79 {d : Nat} {ls : mj_L} {st : List Value} {M : mj_H} : mj_Rn (d + 1) mj_m324 79 ls st M = mq_k5a (d + 1) mj_m324 82 ls M 302 (mq_cb 0 2 11 st M) := mj_R5e (r := (.invokevirtual 430, 3, 0, 302, 36918)) (z := mj_m302) rfl rfl (by decide) (by decide) rfl
theorem s324_82 {d : Nat} {ls : mj_L} {st : List Value} {M : mj_H} : mj_Rn d mj_m324 82 ls st M = mq_k2 d mj_m324 ls M (mj_br (.ifCond .eq 23) 82 st) := mj_R2 (r := (.ifCond .eq 23, 3, 0, 0, 0)) rfl rfl
theorem s324_85 {d : Nat} {ls : mj_L} {st : List Value} {M : mj_H} : mj_Rn d mj_m324 85 ls st M = mq_k0 d mj_m324 86 ls M (mj_lda (mj_lk ls 0) st) := mj_R0 (r := (.aload_n 0, 1, 0, 0, 0)) rfl rfl
theorem s324_86 {d : Nat} {ls : mj_L} {st : List Value} {M : mj_H} : mj_Rn d mj_m324 86 ls st M = mq_k0 d mj_m324 88 ls M (mj_ldi (mj_lk ls 6) st) := mj_R0 (r := (.iload 6, 2, 0, 0, 0)) rfl rfl
theorem s324_88 {d : Nat} {ls : mj_L} {st : List Value} {M : mj_H} : mj_Rn d mj_m324 88 ls st M = mj_Rn d mj_m324 89 ls (.int 2 :: st) M := mj_R0 (r := (.iconst 2, 1, 0, 0, 0)) rfl rfl
theorem s324_89 {d : Nat} {ls : mj_L} {st : List Value} {M : mj_H} : mj_Rn (d + 1) mj_m324 89 ls st M = mq_k5a (d + 1) mj_m324 92 ls M 302 (mq_cb 0 2 11 st M) := mj_R5e (r := (.invokevirtual 430, 3, 0, 302, 36918)) (z := mj_m302) rfl rfl (by decide) (by decide) rfl
theorem s324_92 {d : Nat} {ls : mj_L} {st : List Value} {M : mj_H} : mj_Rn d mj_m324 92 ls st M = mq_k2 d mj_m324 ls M (mj_br (.ifCond .eq 13) 92 st) := mj_R2 (r := (.ifCond .eq 13, 3, 0, 0, 0)) rfl rfl
theorem s324_95 {d : Nat} {ls : mj_L} {st : List Value} {M : mj_H} : mj_Rn d mj_m324 95 ls st M = mq_k0 d mj_m324 96 ls M (mj_lda (mj_lk ls 0) st) := mj_R0 (r := (.aload_n 0, 1, 0, 0, 0)) rfl rfl
theorem s324_96 {d : Nat} {ls : mj_L} {st : List Value} {M : mj_H} : mj_Rn d mj_m324 96 ls st M = mq_k0 d mj_m324 98 ls M (mj_ldi (mj_lk ls 7) st) := mj_R0 (r := (.iload 7, 2, 0, 0, 0)) rfl rfl
theorem s324_98 {d : Nat} {ls : mj_L} {st : List Value} {M : mj_H} : mj_Rn d mj_m324 98 ls st M = mj_Rn d mj_m324 99 ls (.int 2 :: st) M := mj_R0 (r := (.iconst 2, 1, 0, 0, 0)) rfl rfl
theorem s324_99 {d : Nat} {ls : mj_L} {st : List Value} {M : mj_H} : mj_Rn (d + 1) mj_m324 99 ls st M = mq_k5a (d + 1) mj_m324 102 ls M 302 (mq_cb 0 2 11 st M) := mj_R5e (r := (.invokevirtual 430, 3, 0, 302, 36918)) (z := mj_m302) rfl rfl (by decide) (by decide) rfl
theorem s324_102 {d : Nat} {ls : mj_L} {st : List Value} {M : mj_H} : mj_Rn d mj_m324 102 ls st M = mq_k2 d mj_m324 ls M (mj_br (.ifCond .ne 6) 102 st) := mj_R2 (r := (.ifCond .ne 6, 3, 0, 0, 0)) rfl rfl
theorem s324_105 {d : Nat} {ls : mj_L} {st : List Value} {M : mj_H} : mj_Rn d mj_m324 105 ls st M = mj_Rn d mj_m324 107 ls (.int 17 :: st) M := mj_R0 (r := (.bipush 17, 2, 0, 0, 0)) rfl rfl
theorem s324_107 {d : Nat} {ls : mj_L} {st : List Value} {M : mj_H} : mj_Rn d mj_m324 107 ls st M = mq_k6 M (mj_re (some .int) (.ireturn) st) := mj_R6 (r := (.ireturn, 1, 0, 0, 0)) rfl rfl
theorem s324_108 {d : Nat} {ls : mj_L} {st : List Value} {M : mj_H} : mj_Rn d mj_m324 108 ls st M = mq_k0 d mj_m324 109 ls M (mj_ldi (mj_lk ls 2) st) := mj_R0 (r := (.iload_n 2, 1, 0, 0, 0)) rfl rfl
theorem s324_109 {d : Nat} {ls : mj_L} {st : List Value} {M : mj_H} : mj_Rn d mj_m324 109 ls st M = mj_Rn d mj_m324 110 ls (.int (-1) :: st) M := mj_R0 (r := (.iconst (-1), 1, 0, 0, 0)) rfl rfl
theorem s324_110 {d : Nat} {ls : mj_L} {st : List Value} {M : mj_H} : mj_Rn d mj_m324 110 ls st M = mq_k2 d mj_m324 ls M (mj_br (.if_icmp .eq 8) 110 st) := mj_R2 (r := (.if_icmp .eq 8, 3, 0, 0, 0)) rfl rfl
theorem s324_113 {d : Nat} {ls : mj_L} {st : List Value} {M : mj_H} : mj_Rn d mj_m324 113 ls st M = mq_k0 d mj_m324 114 ls M (mj_ldi (mj_lk ls 3) st) := mj_R0 (r := (.iload_n 3, 1, 0, 0, 0)) rfl rfl
theorem s324_114 {d : Nat} {ls : mj_L} {st : List Value} {M : mj_H} : mj_Rn d mj_m324 114 ls st M = mj_Rn d mj_m324 115 ls (.int (-1) :: st) M := mj_R0 (r := (.iconst (-1), 1, 0, 0, 0)) rfl rfl
theorem s324_115 {d : Nat} {ls : mj_L} {st : List Value} {M : mj_H} : mj_Rn d mj_m324 115 ls st M = mq_k2 d mj_m324 ls M (mj_br (.if_icmp .ne 6) 115 st) := mj_R2 (r := (.if_icmp .ne 6, 3, 0, 0, 0)) rfl rfl
theorem s324_118 {d : Nat} {ls : mj_L} {st : List Value} {M : mj_H} : mj_Rn d mj_m324 118 ls st M = mj_Rn d mj_m324 120 ls (.int 20 :: st) M := mj_R0 (r := (.bipush 20, 2, 0, 0, 0)) rfl rfl
theorem s324_120 {d : Nat} {ls : mj_L} {st : List Value} {M : mj_H} : mj_Rn d mj_m324 120 ls st M = mq_k6 M (mj_re (some .int) (.ireturn) st) := mj_R6 (r := (.ireturn, 1, 0, 0, 0)) rfl rfl
theorem s324_121 {d : Nat} {ls : mj_L} {st : List Value} {M : mj_H} : mj_Rn d mj_m324 121 ls st M = mq_k0 d mj_m324 122 ls M (mj_lda (mj_lk ls 0) st) := mj_R0 (r := (.aload_n 0, 1, 0, 0, 0)) rfl rfl
theorem s324_122 {d : Nat} {ls : mj_L} {st : List Value} {M : mj_H} : mj_Rn d mj_m324 122 ls st M = mq_k0 d mj_m324 123 ls M (mj_ldi (mj_lk ls 3) st) := mj_R0 (r := (.iload_n 3, 1, 0, 0, 0)) rfl rfl
theorem s324_123 {d : Nat} {ls : mj_L} {st : List Value} {M : mj_H} : mj_Rn (d + 1) mj_m324 123 ls st M = mq_k5a (d + 1) mj_m324 126 ls M 297 (mq_cb 0 1 11 st M) := mj_R5e (r := (.invokevirtual 402, 3, 0, 297, 36895)) (z := mj_m297) rfl rfl (by decide) (by decide) rfl
theorem s324_126 {d : Nat} {ls : mj_L} {st : List Value} {M : mj_H} : mj_Rn d mj_m324 126 ls st M = mq_k1 d mj_m324 128 M (mj_lo 11 (.istore 8) ls st) := mj_R1 (r := (.istore 8, 2, 0, 0, 0)) rfl rfl
theorem s324_128 {d : Nat} {ls : mj_L} {st : List Value} {M : mj_H} : mj_Rn d mj_m324 128 ls st M = mq_k0 d mj_m324 129 ls M (mj_lda (mj_lk ls 0) st) := mj_R0 (r := (.aload_n 0, 1, 0, 0, 0)) rfl rfl
theorem s324_129 {d : Nat} {ls : mj_L} {st : List Value} {M : mj_H} : mj_Rn d mj_m324 129 ls st M = mq_k0 d mj_m324 130 ls M (mj_ldi (mj_lk ls 2) st) := mj_R0 (r := (.iload_n 2, 1, 0, 0, 0)) rfl rfl
theorem s324_130 {d : Nat} {ls : mj_L} {st : List Value} {M : mj_H} : mj_Rn (d + 1) mj_m324 130 ls st M = mq_k5a (d + 1) mj_m324 133 ls M 297 (mq_cb 0 1 11 st M) := mj_R5e (r := (.invokevirtual 402, 3, 0, 297, 36895)) (z := mj_m297) rfl rfl (by decide) (by decide) rfl
theorem s324_133 {d : Nat} {ls : mj_L} {st : List Value} {M : mj_H} : mj_Rn d mj_m324 133 ls st M = mj_Rn d mj_m324 134 ls (.int 1 :: st) M := mj_R0 (r := (.iconst 1, 1, 0, 0, 0)) rfl rfl
theorem s324_134 {d : Nat} {ls : mj_L} {st : List Value} {M : mj_H} : mj_Rn d mj_m324 134 ls st M = mq_k2 d mj_m324 ls M (mj_br (.if_icmp .ne 15) 134 st) := mj_R2 (r := (.if_icmp .ne 15, 3, 0, 0, 0)) rfl rfl
theorem s324_137 {d : Nat} {ls : mj_L} {st : List Value} {M : mj_H} : mj_Rn d mj_m324 137 ls st M = mq_k0 d mj_m324 139 ls M (mj_ldi (mj_lk ls 8) st) := mj_R0 (r := (.iload 8, 2, 0, 0, 0)) rfl rfl
theorem s324_139 {d : Nat} {ls : mj_L} {st : List Value} {M : mj_H} : mj_Rn d mj_m324 139 ls st M = mj_Rn d mj_m324 140 ls (.int 1 :: st) M := mj_R0 (r := (.iconst 1, 1, 0, 0, 0)) rfl rfl
theorem s324_140 {d : Nat} {ls : mj_L} {st : List Value} {M : mj_H} : mj_Rn d mj_m324 140 ls st M = mq_k2 d mj_m324 ls M (mj_br (.if_icmp .lt 9) 140 st) := mj_R2 (r := (.if_icmp .lt 9, 3, 0, 0, 0)) rfl rfl
theorem s324_143 {d : Nat} {ls : mj_L} {st : List Value} {M : mj_H} : mj_Rn d mj_m324 143 ls st M = mq_k0 d mj_m324 145 ls M (mj_ldi (mj_lk ls 8) st) := mj_R0 (r := (.iload 8, 2, 0, 0, 0)) rfl rfl
theorem s324_145 {d : Nat} {ls : mj_L} {st : List Value} {M : mj_H} : mj_Rn d mj_m324 145 ls st M = mj_Rn d mj_m324 146 ls (.int 5 :: st) M := mj_R0 (r := (.iconst 5, 1, 0, 0, 0)) rfl rfl
theorem s324_146 {d : Nat} {ls : mj_L} {st : List Value} {M : mj_H} : mj_Rn d mj_m324 146 ls st M = mq_k2 d mj_m324 ls M (mj_br (.if_icmp .le 5) 146 st) := mj_R2 (r := (.if_icmp .le 5, 3, 0, 0, 0)) rfl rfl
theorem s324_149 {d : Nat} {ls : mj_L} {st : List Value} {M : mj_H} : mj_Rn d mj_m324 149 ls st M = mj_Rn d mj_m324 150 ls (.int 2 :: st) M := mj_R0 (r := (.iconst 2, 1, 0, 0, 0)) rfl rfl
theorem s324_150 {d : Nat} {ls : mj_L} {st : List Value} {M : mj_H} : mj_Rn d mj_m324 150 ls st M = mq_k6 M (mj_re (some .int) (.ireturn) st) := mj_R6 (r := (.ireturn, 1, 0, 0, 0)) rfl rfl
theorem s324_151 {d : Nat} {ls : mj_L} {st : List Value} {M : mj_H} : mj_Rn d mj_m324 151 ls st M = mq_k0 d mj_m324 153 ls M (mj_ldi (mj_lk ls 8) st) := mj_R0 (r := (.iload 8, 2, 0, 0, 0)) rfl rfl
theorem s324_153 {d : Nat} {ls : mj_L} {st : List Value} {M : mj_H} : mj_Rn d mj_m324 153 ls st M = mj_Rn d mj_m324 154 ls (.int 3 :: st) M := mj_R0 (r := (.iconst 3, 1, 0, 0, 0)) rfl rfl
theorem s324_154 {d : Nat} {ls : mj_L} {st : List Value} {M : mj_H} : mj_Rn d mj_m324 154 ls st M = mq_k2 d mj_m324 ls M (mj_br (.if_icmp .ge 60) 154 st) := mj_R2 (r := (.if_icmp .ge 60, 3, 0, 0, 0)) rfl rfl
theorem s324_157 {d : Nat} {ls : mj_L} {st : List Value} {M : mj_H} : mj_Rn d mj_m324 157 ls st M = mq_k0 d mj_m324 158 ls M (mj_lda (mj_lk ls 0) st) := mj_R0 (r := (.aload_n 0, 1, 0, 0, 0)) rfl rfl
theorem s324_158 {d : Nat} {ls : mj_L} {st : List Value} {M : mj_H} : mj_Rn d mj_m324 158 ls st M = mj_Rn d mj_m324 161 ls (.int 161 :: st) M := mj_R0 (r := (.sipush 161, 3, 0, 0, 0)) rfl rfl
theorem s324_161 {d : Nat} {ls : mj_L} {st : List Value} {M : mj_H} : mj_Rn (d + 1) mj_m324 161 ls st M = mq_k5a (d + 1) mj_m324 164 ls M 279 (mq_cb 0 1 11 st M) := mj_R5e (r := (.invokevirtual 440, 3, 0, 279, 32967)) (z := mj_m279) rfl rfl (by decide) (by decide) rfl
theorem s324_164 {d : Nat} {ls : mj_L} {st : List Value} {M : mj_H} : mj_Rn d mj_m324 164 ls st M = mq_k0 d mj_m324 165 ls M (mj_lda (mj_lk ls 0) st) := mj_R0 (r := (.aload_n 0, 1, 0, 0, 0)) rfl rfl
theorem s324_165 {d : Nat} {ls : mj_L} {st : List Value} {M : mj_H} : mj_Rn d mj_m324 165 ls st M = mq_k0 d mj_m324 167 ls M (mj_ldi (mj_lk ls 8) st) := mj_R0 (r := (.iload 8, 2, 0, 0, 0)) rfl rfl
theorem s324_167 {d : Nat} {ls : mj_L} {st : List Value} {M : mj_H} : mj_Rn d mj_m324 167 ls st M = mj_Rn d mj_m324 168 ls (.int 1 :: st) M := mj_R0 (r := (.iconst 1, 1, 0, 0, 0)) rfl rfl
theorem s324_168 {d : Nat} {ls : mj_L} {st : List Value} {M : mj_H} : mj_Rn d mj_m324 168 ls st M = mq_k2 d mj_m324 ls M (mj_br (.if_icmp .ne 7) 168 st) := mj_R2 (r := (.if_icmp .ne 7, 3, 0, 0, 0)) rfl rfl
theorem s324_171 {d : Nat} {ls : mj_L} {st : List Value} {M : mj_H} : mj_Rn d mj_m324 171 ls st M = mj_Rn d mj_m324 172 ls (.int 3 :: st) M := mj_R0 (r := (.iconst 3, 1, 0, 0, 0)) rfl rfl
theorem s324_172 {d : Nat} {ls : mj_L} {st : List Value} {M : mj_H} : mj_Rn d mj_m324 172 ls st M = mj_Rn d mj_m324 176 ls st M := mj_R2 (r := (.goto 4, 3, 0, 0, 0)) rfl rfl
theorem s324_175 {d : Nat} {ls : mj_L} {st : List Value} {M : mj_H} : mj_Rn d mj_m324 175 ls st M = mj_Rn d mj_m324 176 ls (.int 1 :: st) M := mj_R0 (r := (.iconst 1, 1, 0, 0, 0)) rfl rfl
theorem s324_176 {d : Nat} {ls : mj_L} {st : List Value} {M : mj_H} : mj_Rn (d + 1) mj_m324 176 ls st M = mq_k5a (d + 1) mj_m324 179 ls M 279 (mq_cb 0 1 11 st M) := mj_R5e (r := (.invokevirtual 440, 3, 0, 279, 32967)) (z := mj_m279) rfl rfl (by decide) (by decide) rfl
theorem s324_179 {d : Nat} {ls : mj_L} {st : List Value} {M : mj_H} : mj_Rn d mj_m324 179 ls st M = mq_k0 d mj_m324 181 ls M (mj_ldi (mj_lk ls 8) st) := mj_R0 (r := (.iload 8, 2, 0, 0, 0)) rfl rfl
theorem s324_181 {d : Nat} {ls : mj_L} {st : List Value} {M : mj_H} : mj_Rn d mj_m324 181 ls st M = mj_Rn d mj_m324 182 ls (.int 1 :: st) M := mj_R0 (r := (.iconst 1, 1, 0, 0, 0)) rfl rfl
theorem s324_182 {d : Nat} {ls : mj_L} {st : List Value} {M : mj_H} : mj_Rn d mj_m324 182 ls st M = mq_k2 d mj_m324 ls M (mj_br (.if_icmp .ne 16) 182 st) := mj_R2 (r := (.if_icmp .ne 16, 3, 0, 0, 0)) rfl rfl
theorem s324_185 {d : Nat} {ls : mj_L} {st : List Value} {M : mj_H} : mj_Rn d mj_m324 185 ls st M = mq_k0 d mj_m324 186 ls M (mj_lda (mj_lk ls 0) st) := mj_R0 (r := (.aload_n 0, 1, 0, 0, 0)) rfl rfl
theorem s324_186 {d : Nat} {ls : mj_L} {st : List Value} {M : mj_H} : mj_Rn d mj_m324 186 ls st M = mq_k0 d mj_m324 187 ls M (mj_lda (mj_lk ls 0) st) := mj_R0 (r := (.aload_n 0, 1, 0, 0, 0)) rfl rfl
theorem s324_187 {d : Nat} {ls : mj_L} {st : List Value} {M : mj_H} : mj_Rn d mj_m324 187 ls st M = mq_k0 d mj_m324 190 ls M (mq_gf 11 25 st M) := (mj_R3 (r := (.getfield 67, 3, 11, 25, 57358)) rfl rfl).trans (congrArg (mq_k0 d mj_m324 190 ls M) mq_gf_eq)
theorem s324_190 {d : Nat} {ls : mj_L} {st : List Value} {M : mj_H} : mj_Rn d mj_m324 190 ls st M = mq_k0 d mj_m324 191 ls M (mj_ldi (mj_lk ls 1) st) := mj_R0 (r := (.iload_n 1, 1, 0, 0, 0)) rfl rfl
theorem s324_191 {d : Nat} {ls : mj_L} {st : List Value} {M : mj_H} : mj_Rn d mj_m324 191 ls st M = mq_k0 d mj_m324 192 ls M (mq_al [1000] st M) := (mj_R3 (r := (.iaload, 1, 0, 0, 0)) rfl rfl).trans (congrArg (mq_k0 d mj_m324 192 ls M) mq_ali_eq)
theorem s324_192 {d : Nat} {ls : mj_L} {st : List Value} {M : mj_H} : mj_Rn (d + 1) mj_m324 192 ls st M = mq_k5a (d + 1) mj_m324 195 ls M 279 (mq_cb 0 1 11 st M) := mj_R5e (r := (.invokevirtual 440, 3, 0, 279, 32967)) (z := mj_m279) rfl rfl (by decide) (by decide) rfl
theorem s324_195 {d : Nat} {ls : mj_L} {st : List Value} {M : mj_H} : mj_Rn d mj_m324 195 ls st M = mj_Rn d mj_m324 212 ls st M := mj_R2 (r := (.goto 17, 3, 0, 0, 0)) rfl rfl
theorem s324_198 {d : Nat} {ls : mj_L} {st : List Value} {M : mj_H} : mj_Rn d mj_m324 198 ls st M = mq_k0 d mj_m324 199 ls M (mj_lda (mj_lk ls 0) st) := mj_R0 (r := (.aload_n 0, 1, 0, 0, 0)) rfl rfl
theorem s324_199 {d : Nat} {ls : mj_L} {st : List Value} {M : mj_H} : mj_Rn d mj_m324 199 ls st M = mq_k0 d mj_m324 200 ls M (mj_lda (mj_lk ls 0) st) := mj_R0 (r := (.aload_n 0, 1, 0, 0, 0)) rfl rfl
theorem s324_200 {d : Nat} {ls : mj_L} {st : List Value} {M : mj_H} : mj_Rn d mj_m324 200 ls st M = mq_k0 d mj_m324 201 ls M (mj_lda (mj_lk ls 0) st) := mj_R0 (r := (.aload_n 0, 1, 0, 0, 0)) rfl rfl
theorem s324_201 {d : Nat} {ls : mj_L} {st : List Value} {M : mj_H} : mj_Rn d mj_m324 201 ls st M = mq_k0 d mj_m324 204 ls M (mq_gf 11 34 st M) := (mj_R3 (r := (.getfield 94, 3, 11, 34, 57376)) rfl rfl).trans (congrArg (mq_k0 d mj_m324 204 ls M) mq_gf_eq)
theorem s324_204 {d : Nat} {ls : mj_L} {st : List Value} {M : mj_H} : mj_Rn d mj_m324 204 ls st M = mq_k0 d mj_m324 205 ls M (mj_ldi (mj_lk ls 1) st) := mj_R0 (r := (.iload_n 1, 1, 0, 0, 0)) rfl rfl
theorem s324_205 {d : Nat} {ls : mj_L} {st : List Value} {M : mj_H} : mj_Rn d mj_m324 205 ls st M = mq_k0 d mj_m324 206 ls M (mq_al [1000] st M) := (mj_R3 (r := (.iaload, 1, 0, 0, 0)) rfl rfl).trans (congrArg (mq_k0 d mj_m324 206 ls M) mq_ali_eq)
theorem s324_206 {d : Nat} {ls : mj_L} {st : List Value} {M : mj_H} : mj_Rn (d + 1) mj_m324 206 ls st M = mq_k5a (d + 1) mj_m324 209 ls M 321 (mq_cb 0 1 11 st M) := mj_R5e (r := (.invokevirtual 512, 3, 0, 321, 36995)) (z := mj_m321) rfl rfl (by decide) (by decide) rfl
theorem s324_209 {d : Nat} {ls : mj_L} {st : List Value} {M : mj_H} : mj_Rn (d + 1) mj_m324 209 ls st M = mq_k5a (d + 1) mj_m324 212 ls M 291 (mq_cb 0 1 11 st M) := mj_R5e (r := (.invokevirtual 522, 3, 0, 291, 36871)) (z := mj_m291) rfl rfl (by decide) (by decide) rfl
theorem s324_212 {d : Nat} {ls : mj_L} {st : List Value} {M : mj_H} : mj_Rn d mj_m324 212 ls st M = mj_Rn d mj_m324 213 ls (.int 0 :: st) M := mj_R0 (r := (.iconst 0, 1, 0, 0, 0)) rfl rfl
theorem s324_213 {d : Nat} {ls : mj_L} {st : List Value} {M : mj_H} : mj_Rn d mj_m324 213 ls st M = mq_k6 M (mj_re (some .int) (.ireturn) st) := mj_R6 (r := (.ireturn, 1, 0, 0, 0)) rfl rfl
theorem s324_214 {d : Nat} {ls : mj_L} {st : List Value} {M : mj_H} : mj_Rn d mj_m324 214 ls st M = mq_k0 d mj_m324 216 ls M (mj_ldi (mj_lk ls 4) st) := mj_R0 (r := (.iload 4, 2, 0, 0, 0)) rfl rfl
theorem s324_216 {d : Nat} {ls : mj_L} {st : List Value} {M : mj_H} : mj_Rn d mj_m324 216 ls st M = mj_Rn d mj_m324 217 ls (.int (-1) :: st) M := mj_R0 (r := (.iconst (-1), 1, 0, 0, 0)) rfl rfl
theorem s324_217 {d : Nat} {ls : mj_L} {st : List Value} {M : mj_H} : mj_Rn d mj_m324 217 ls st M = mq_k2 d mj_m324 ls M (mj_br (.if_icmp .eq 33) 217 st) := mj_R2 (r := (.if_icmp .eq 33, 3, 0, 0, 0)) rfl rfl
theorem s324_220 {d : Nat} {ls : mj_L} {st : List Value} {M : mj_H} : mj_Rn d mj_m324 220 ls st M = mq_k0 d mj_m324 222 ls M (mj_ldi (mj_lk ls 8) st) := mj_R0 (r := (.iload 8, 2, 0, 0, 0)) rfl rfl
theorem s324_222 {d : Nat} {ls : mj_L} {st : List Value} {M : mj_H} : mj_Rn d mj_m324 222 ls st M = mj_Rn d mj_m324 223 ls (.int 5 :: st) M := mj_R0 (r := (.iconst 5, 1, 0, 0, 0)) rfl rfl
theorem s324_223 {d : Nat} {ls : mj_L} {st : List Value} {M : mj_H} : mj_Rn d mj_m324 223 ls st M = mq_k2 d mj_m324 ls M (mj_br (.if_icmp .ge 15) 223 st) := mj_R2 (r := (.if_icmp .ge 15, 3, 0, 0, 0)) rfl rfl
theorem s324_226 {d : Nat} {ls : mj_L} {st : List Value} {M : mj_H} : mj_Rn d mj_m324 226 ls st M = mq_k0 d mj_m324 228 ls M (mj_ldi (mj_lk ls 5) st) := mj_R0 (r := (.iload 5, 2, 0, 0, 0)) rfl rfl
theorem s324_228 {d : Nat} {ls : mj_L} {st : List Value} {M : mj_H} : mj_Rn d mj_m324 228 ls st M = mj_Rn d mj_m324 229 ls (.int (-1) :: st) M := mj_R0 (r := (.iconst (-1), 1, 0, 0, 0)) rfl rfl
theorem s324_229 {d : Nat} {ls : mj_L} {st : List Value} {M : mj_H} : mj_Rn d mj_m324 229 ls st M = mq_k2 d mj_m324 ls M (mj_br (.if_icmp .eq 21) 229 st) := mj_R2 (r := (.if_icmp .eq 21, 3, 0, 0, 0)) rfl rfl
theorem s324_232 {d : Nat} {ls : mj_L} {st : List Value} {M : mj_H} : mj_Rn d mj_m324 232 ls st M = mq_k0 d mj_m324 234 ls M (mj_ldi (mj_lk ls 6) st) := mj_R0 (r := (.iload 6, 2, 0, 0, 0)) rfl rfl
theorem s324_234 {d : Nat} {ls : mj_L} {st : List Value} {M : mj_H} : mj_Rn d mj_m324 234 ls st M = mj_Rn d mj_m324 235 ls (.int (-1) :: st) M := mj_R0 (r := (.iconst (-1), 1, 0, 0, 0)) rfl rfl
theorem s324_235 {d : Nat} {ls : mj_L} {st : List Value} {M : mj_H} : mj_Rn d mj_m324 235 ls st M = mq_k2 d mj_m324 ls M (mj_br (.if_icmp .eq 15) 235 st) := mj_R2 (r := (.if_icmp .eq 15, 3, 0, 0, 0)) rfl rfl
theorem s324_238 {d : Nat} {ls : mj_L} {st : List Value} {M : mj_H} : mj_Rn d mj_m324 238 ls st M = mq_k0 d mj_m324 240 ls M (mj_ldi (mj_lk ls 8) st) := mj_R0 (r := (.iload 8, 2, 0, 0, 0)) rfl rfl
theorem s324_240 {d : Nat} {ls : mj_L} {st : List Value} {M : mj_H} : mj_Rn d mj_m324 240 ls st M = mj_Rn d mj_m324 241 ls (.int 3 :: st) M := mj_R0 (r := (.iconst 3, 1, 0, 0, 0)) rfl rfl
theorem s324_241 {d : Nat} {ls : mj_L} {st : List Value} {M : mj_H} : mj_Rn d mj_m324 241 ls st M = mq_k2 d mj_m324 ls M (mj_br (.if_icmp .le 12) 241 st) := mj_R2 (r := (.if_icmp .le 12, 3, 0, 0, 0)) rfl rfl
theorem s324_244 {d : Nat} {ls : mj_L} {st : List Value} {M : mj_H} : mj_Rn d mj_m324 244 ls st M = mq_k0 d mj_m324 246 ls M (mj_ldi (mj_lk ls 7) st) := mj_R0 (r := (.iload 7, 2, 0, 0, 0)) rfl rfl
theorem s324_246 {d : Nat} {ls : mj_L} {st : List Value} {M : mj_H} : mj_Rn d mj_m324 246 ls st M = mj_Rn d mj_m324 247 ls (.int (-1) :: st) M := mj_R0 (r := (.iconst (-1), 1, 0, 0, 0)) rfl rfl
theorem s324_247 {d : Nat} {ls : mj_L} {st : List Value} {M : mj_H} : mj_Rn d mj_m324 247 ls st M = mq_k2 d mj_m324 ls M (mj_br (.if_icmp .ne 6) 247 st) := mj_R2 (r := (.if_icmp .ne 6, 3, 0, 0, 0)) rfl rfl
theorem s324_250 {d : Nat} {ls : mj_L} {st : List Value} {M : mj_H} : mj_Rn d mj_m324 250 ls st M = mj_Rn d mj_m324 252 ls (.int 20 :: st) M := mj_R0 (r := (.bipush 20, 2, 0, 0, 0)) rfl rfl
theorem s324_252 {d : Nat} {ls : mj_L} {st : List Value} {M : mj_H} : mj_Rn d mj_m324 252 ls st M = mq_k6 M (mj_re (some .int) (.ireturn) st) := mj_R6 (r := (.ireturn, 1, 0, 0, 0)) rfl rfl
theorem s324_253 {d : Nat} {ls : mj_L} {st : List Value} {M : mj_H} : mj_Rn d mj_m324 253 ls st M = mq_k0 d mj_m324 254 ls M (mj_lda (mj_lk ls 0) st) := mj_R0 (r := (.aload_n 0, 1, 0, 0, 0)) rfl rfl
theorem s324_254 {d : Nat} {ls : mj_L} {st : List Value} {M : mj_H} : mj_Rn d mj_m324 254 ls st M = mq_k0 d mj_m324 256 ls M (mj_ldi (mj_lk ls 4) st) := mj_R0 (r := (.iload 4, 2, 0, 0, 0)) rfl rfl
theorem s324_256 {d : Nat} {ls : mj_L} {st : List Value} {M : mj_H} : mj_Rn (d + 1) mj_m324 256 ls st M = mq_k5a (d + 1) mj_m324 259 ls M 308 (mq_cb 0 1 11 st M) := mj_R5e (r := (.invokevirtual 457, 3, 0, 308, 36943)) (z := mj_m308) rfl rfl (by decide) (by decide) rfl
theorem s324_259 {d : Nat} {ls : mj_L} {st : List Value} {M : mj_H} : mj_Rn d mj_m324 259 ls st M = mq_k2 d mj_m324 ls M (mj_br (.ifCond .eq 17) 259 st) := mj_R2 (r := (.ifCond .eq 17, 3, 0, 0, 0)) rfl rfl
theorem s324_262 {d : Nat} {ls : mj_L} {st : List Value} {M : mj_H} : mj_Rn d mj_m324 262 ls st M = mq_k0 d mj_m324 263 ls M (mj_lda (mj_lk ls 0) st) := mj_R0 (r := (.aload_n 0, 1, 0, 0, 0)) rfl rfl
theorem s324_263 {d : Nat} {ls : mj_L} {st : List Value} {M : mj_H} : mj_Rn d mj_m324 263 ls st M = mq_k0 d mj_m324 264 ls M (mj_lda (mj_lk ls 0) st) := mj_R0 (r := (.aload_n 0, 1, 0, 0, 0)) rfl rfl
theorem s324_264 {d : Nat} {ls : mj_L} {st : List Value} {M : mj_H} : mj_Rn d mj_m324 264 ls st M = mq_k0 d mj_m324 266 ls M (mj_ldi (mj_lk ls 4) st) := mj_R0 (r := (.iload 4, 2, 0, 0, 0)) rfl rfl
theorem s324_266 {d : Nat} {ls : mj_L} {st : List Value} {M : mj_H} : mj_Rn (d + 1) mj_m324 266 ls st M = mq_k5a (d + 1) mj_m324 269 ls M 313 (mq_cb 0 1 11 st M) := mj_R5e (r := (.invokevirtual 460, 3, 0, 313, 36963)) (z := mj_m313) rfl rfl (by decide) (by decide) rfl
theorem s324_269 {d : Nat} {ls : mj_L} {st : List Value} {M : mj_H} : mj_Rn d mj_m324 269 ls st M = mj_Rn d mj_m324 270 ls (.int 2 :: st) M := mj_R0 (r := (.iconst 2, 1, 0, 0, 0)) rfl rfl
theorem s324_270 {d : Nat} {ls : mj_L} {st : List Value} {M : mj_H} : mj_Rn (d + 1) mj_m324 270 ls st M = mq_k5a (d + 1) mj_m324 273 ls M 316 (mq_cb 0 2 11 st M) := mj_R5e (r := (.invokevirtual 451, 3, 0, 316, 36975)) (z := mj_m316) rfl rfl (by decide) (by decide) rfl
theorem s324_273 {d : Nat} {ls : mj_L} {st : List Value} {M : mj_H} : mj_Rn d mj_m324 273 ls st M = mq_k2 d mj_m324 ls M (mj_br (.ifCond .ne 5) 273 st) := mj_R2 (r := (.ifCond .ne 5, 3, 0, 0, 0)) rfl rfl
theorem s324_276 {d : Nat} {ls : mj_L} {st : List Value} {M : mj_H} : mj_Rn d mj_m324 276 ls st M = mj_Rn d mj_m324 277 ls (.int 2 :: st) M := mj_R0 (r := (.iconst 2, 1, 0, 0, 0)) rfl rfl
theorem s324_277 {d : Nat} {ls : mj_L} {st : List Value} {M : mj_H} : mj_Rn d mj_m324 277 ls st M = mq_k6 M (mj_re (some .int) (.ireturn) st) := mj_R6 (r := (.ireturn, 1, 0, 0, 0)) rfl rfl
theorem s324_278 {d : Nat} {ls : mj_L} {st : List Value} {M : mj_H} : mj_Rn d mj_m324 278 ls st M = mq_k0 d mj_m324 279 ls M (mj_lda (mj_lk ls 0) st) := mj_R0 (r := (.aload_n 0, 1, 0, 0, 0)) rfl rfl
theorem s324_279 {d : Nat} {ls : mj_L} {st : List Value} {M : mj_H} : mj_Rn d mj_m324 279 ls st M = mq_k0 d mj_m324 280 ls M (mj_ldi (mj_lk ls 1) st) := mj_R0 (r := (.iload_n 1, 1, 0, 0, 0)) rfl rfl
theorem s324_280 {d : Nat} {ls : mj_L} {st : List Value} {M : mj_H} : mj_Rn d mj_m324 280 ls st M = mq_k0 d mj_m324 281 ls M (mj_lda (mj_lk ls 0) st) := mj_R0 (r := (.aload_n 0, 1, 0, 0, 0)) rfl rfl
theorem s324_281 {d : Nat} {ls : mj_L} {st : List Value} {M : mj_H} : mj_Rn d mj_m324 281 ls st M = mq_k0 d mj_m324 282 ls M (mj_lda (mj_lk ls 0) st) := mj_R0 (r := (.aload_n 0, 1, 0, 0, 0)) rfl rfl
theorem s324_282 {d : Nat} {ls : mj_L} {st : List Value} {M : mj_H} : mj_Rn d mj_m324 282 ls st M = mq_k0 d mj_m324 284 ls M (mj_ldi (mj_lk ls 4) st) := mj_R0 (r := (.iload 4, 2, 0, 0, 0)) rfl rfl
theorem s324_284 {d : Nat} {ls : mj_L} {st : List Value} {M : mj_H} : mj_Rn (d + 1) mj_m324 284 ls st M = mq_k5a (d + 1) mj_m324 287 ls M 313 (mq_cb 0 1 11 st M) := mj_R5e (r := (.invokevirtual 460, 3, 0, 313, 36963)) (z := mj_m313) rfl rfl (by decide) (by decide) rfl
theorem s324_287 {d : Nat} {ls : mj_L} {st : List Value} {M : mj_H} : mj_Rn d mj_m324 287 ls st M = mj_Rn d mj_m324 288 ls (.int 1 :: st) M := mj_R0 (r := (.iconst 1, 1, 0, 0, 0)) rfl rfl
theorem s324_288 {d : Nat} {ls : mj_L} {st : List Value} {M : mj_H} : mj_Rn (d + 1) mj_m324 288 ls st M = mq_k5a (d + 1) mj_m324 291 ls M 234 (mq_cb 0 2 11 st M) := mj_R5e (r := (.invokevirtual 300, 3, 0, 234, 32791)) (z := mj_m234) rfl rfl (by decide) (by decide) rfl
theorem s324_291 {d : Nat} {ls : mj_L} {st : List Value} {M : mj_H} : mj_Rn (d + 1) mj_m324 291 ls st M = mq_k5a (d + 1) mj_m324 294 ls M 325 (mq_cb 0 2 11 st M) := mj_R5e (r := (.invokevirtual 538, 3, 0, 325, 37011)) (z := mj_m325) rfl rfl (by decide) (by decide) rfl
theorem s324_294 {d : Nat} {ls : mj_L} {st : List Value} {M : mj_H} : mj_Rn d mj_m324 294 ls st M = mq_k1 d mj_m324 296 M (mj_lo 11 (.istore 9) ls st) := mj_R1 (r := (.istore 9, 2, 0, 0, 0)) rfl rfl
theorem s324_296 {d : Nat} {ls : mj_L} {st : List Value} {M : mj_H} : mj_Rn d mj_m324 296 ls st M = mq_k0 d mj_m324 298 ls M (mj_ldi (mj_lk ls 8) st) := mj_R0 (r := (.iload 8, 2, 0, 0, 0)) rfl rfl
theorem s324_298 {d : Nat} {ls : mj_L} {st : List Value} {M : mj_H} : mj_Rn d mj_m324 298 ls st M = mj_Rn d mj_m324 299 ls (.int 3 :: st) M := mj_R0 (r := (.iconst 3, 1, 0, 0, 0)) rfl rfl
theorem s324_299 {d : Nat} {ls : mj_L} {st : List Value} {M : mj_H} : mj_Rn d mj_m324 299 ls st M = mq_k2 d mj_m324 ls M (mj_br (.if_icmp .ne 41) 299 st) := mj_R2 (r := (.if_icmp .ne 41, 3, 0, 0, 0)) rfl rfl
theorem s324_302 {d : Nat} {ls : mj_L} {st : List Value} {M : mj_H} : mj_Rn d mj_m324 302 ls st M = mq_k0 d mj_m324 303 ls M (mj_lda (mj_lk ls 0) st) := mj_R0 (r := (.aload_n 0, 1, 0, 0, 0)) rfl rfl
theorem s324_303 {d : Nat} {ls : mj_L} {st : List Value} {M : mj_H} : mj_Rn d mj_m324 303 ls st M = mq_k0 d mj_m324 306 ls M (mq_gf 11 24 st M) := (mj_R3 (r := (.getfield 64, 3, 11, 24, 57356)) rfl rfl).trans (congrArg (mq_k0 d mj_m324 306 ls M) mq_gf_eq)
theorem s324_306 {d : Nat} {ls : mj_L} {st : List Value} {M : mj_H} : mj_Rn d mj_m324 306 ls st M = mq_k0 d mj_m324 307 ls M (mj_ldi (mj_lk ls 1) st) := mj_R0 (r := (.iload_n 1, 1, 0, 0, 0)) rfl rfl
theorem s324_307 {d : Nat} {ls : mj_L} {st : List Value} {M : mj_H} : mj_Rn d mj_m324 307 ls st M = mq_k0 d mj_m324 308 ls M (mq_al [1000] st M) := (mj_R3 (r := (.iaload, 1, 0, 0, 0)) rfl rfl).trans (congrArg (mq_k0 d mj_m324 308 ls M) mq_ali_eq)
theorem s324_308 {d : Nat} {ls : mj_L} {st : List Value} {M : mj_H} : mj_Rn d mj_m324 308 ls st M = mq_k2 d mj_m324 ls M (mj_br (.ifCond .ne 17) 308 st) := mj_R2 (r := (.ifCond .ne 17, 3, 0, 0, 0)) rfl rfl
theorem s324_311 {d : Nat} {ls : mj_L} {st : List Value} {M : mj_H} : mj_Rn d mj_m324 311 ls st M = mq_k0 d mj_m324 312 ls M (mj_lda (mj_lk ls 0) st) := mj_R0 (r := (.aload_n 0, 1, 0, 0, 0)) rfl rfl
theorem s324_312 {d : Nat} {ls : mj_L} {st : List Value} {M : mj_H} : mj_Rn d mj_m324 312 ls st M = mq_k0 d mj_m324 314 ls M (mj_ldi (mj_lk ls 9) st) := mj_R0 (r := (.iload 9, 2, 0, 0, 0)) rfl rfl
theorem s324_314 {d : Nat} {ls : mj_L} {st : List Value} {M : mj_H} : mj_Rn d mj_m324 314 ls st M = mq_k0 d mj_m324 316 ls M (mj_ldi (mj_lk ls 5) st) := mj_R0 (r := (.iload 5, 2, 0, 0, 0)) rfl rfl
theorem s324_316 {d : Nat} {ls : mj_L} {st : List Value} {M : mj_H} : mj_Rn d mj_m324 316 ls st M = mq_k0 d mj_m324 318 ls M (mj_ldi (mj_lk ls 6) st) := mj_R0 (r := (.iload 6, 2, 0, 0, 0)) rfl rfl
theorem s324_318 {d : Nat} {ls : mj_L} {st : List Value} {M : mj_H} : mj_Rn d mj_m324 318 ls st M = mj_Rn d mj_m324 319 ls (.int (-1) :: st) M := mj_R0 (r := (.iconst (-1), 1, 0, 0, 0)) rfl rfl
theorem s324_319 {d : Nat} {ls : mj_L} {st : List Value} {M : mj_H} : mj_Rn (d + 1) mj_m324 319 ls st M = mq_k5a (d + 1) mj_m324 322 ls M 327 (mq_cb 0 4 11 st M) := mj_R5e (r := (.invokevirtual 541, 3, 0, 327, 37020)) (z := mj_m327) rfl rfl (by decide) (by decide) rfl
theorem s324_322 {d : Nat} {ls : mj_L} {st : List Value} {M : mj_H} : mj_Rn d mj_m324 322 ls st M = mq_k2 d mj_m324 ls M (mj_br (.ifCond .ne 8) 322 st) := mj_R2 (r := (.ifCond .ne 8, 3, 0, 0, 0)) rfl rfl
theorem s324_325 {d : Nat} {ls : mj_L} {st : List Value} {M : mj_H} : mj_Rn d mj_m324 325 ls st M = mj_Rn d mj_m324 327 ls (.int 51 :: st) M := mj_R0 (r := (.bipush 51, 2, 0, 0, 0)) rfl rfl
theorem s324_327 {d : Nat} {ls : mj_L} {st : List Value} {M : mj_H} : mj_Rn d mj_m324 327 ls st M = mj_Rn d mj_m324 339 ls st M := mj_R2 (r := (.goto 12, 3, 0, 0, 0)) rfl rfl
theorem s324_330 {d : Nat} {ls : mj_L} {st : List Value} {M : mj_H} : mj_Rn d mj_m324 330 ls st M = mq_k0 d mj_m324 331 ls M (mj_lda (mj_lk ls 0) st) := mj_R0 (r := (.aload_n 0, 1, 0, 0, 0)) rfl rfl
theorem s324_331 {d : Nat} {ls : mj_L} {st : List Value} {M : mj_H} : mj_Rn d mj_m324 331 ls st M = mq_k0 d mj_m324 332 ls M (mj_ldi (mj_lk ls 1) st) := mj_R0 (r := (.iload_n 1, 1, 0, 0, 0)) rfl rfl
theorem s324_332 {d : Nat} {ls : mj_L} {st : List Value} {M : mj_H} : mj_Rn d mj_m324 332 ls st M = mq_k0 d mj_m324 334 ls M (mj_ldi (mj_lk ls 9) st) := mj_R0 (r := (.iload 9, 2, 0, 0, 0)) rfl rfl
theorem s324_334 {d : Nat} {ls : mj_L} {st : List Value} {M : mj_H} : mj_Rn d mj_m324 334 ls st M = mq_k0 d mj_m324 336 ls M (mj_ldi (mj_lk ls 6) st) := mj_R0 (r := (.iload 6, 2, 0, 0, 0)) rfl rfl
theorem s324_336 {d : Nat} {ls : mj_L} {st : List Value} {M : mj_H} : mj_Rn (d + 1) mj_m324 336 ls st M = mq_k5a (d + 1) mj_m324 339 ls M 328 (mq_cb 0 3 11 st M) := mj_R5e (r := (.invokevirtual 545, 3, 0, 328, 37024)) (z := mj_m328) rfl rfl (by decide) (by decide) rfl
theorem s324_339 {d : Nat} {ls : mj_L} {st : List Value} {M : mj_H} : mj_Rn d mj_m324 339 ls st M = mq_k6 M (mj_re (some .int) (.ireturn) st) := mj_R6 (r := (.ireturn, 1, 0, 0, 0)) rfl rfl
theorem s324_340 {d : Nat} {ls : mj_L} {st : List Value} {M : mj_H} : mj_Rn d mj_m324 340 ls st M = mq_k0 d mj_m324 341 ls M (mj_lda (mj_lk ls 0) st) := mj_R0 (r := (.aload_n 0, 1, 0, 0, 0)) rfl rfl
theorem s324_341 {d : Nat} {ls : mj_L} {st : List Value} {M : mj_H} : mj_Rn d mj_m324 341 ls st M = mq_k0 d mj_m324 344 ls M (mq_gf 11 24 st M) := (mj_R3 (r := (.getfield 64, 3, 11, 24, 57356)) rfl rfl).trans (congrArg (mq_k0 d mj_m324 344 ls M) mq_gf_eq)
theorem s324_344 {d : Nat} {ls : mj_L} {st : List Value} {M : mj_H} : mj_Rn d mj_m324 344 ls st M = mq_k0 d mj_m324 345 ls M (mj_ldi (mj_lk ls 1) st) := mj_R0 (r := (.iload_n 1, 1, 0, 0, 0)) rfl rfl
theorem s324_345 {d : Nat} {ls : mj_L} {st : List Value} {M : mj_H} : mj_Rn d mj_m324 345 ls st M = mq_k0 d mj_m324 346 ls M (mq_al [1000] st M) := (mj_R3 (r := (.iaload, 1, 0, 0, 0)) rfl rfl).trans (congrArg (mq_k0 d mj_m324 346 ls M) mq_ali_eq)
theorem s324_346 {d : Nat} {ls : mj_L} {st : List Value} {M : mj_H} : mj_Rn d mj_m324 346 ls st M = mq_k2 d mj_m324 ls M (mj_br (.ifCond .ne 6) 346 st) := mj_R2 (r := (.ifCond .ne 6, 3, 0, 0, 0)) rfl rfl
theorem s324_349 {d : Nat} {ls : mj_L} {st : List Value} {M : mj_H} : mj_Rn d mj_m324 349 ls st M = mj_Rn d mj_m324 351 ls (.int 53 :: st) M := mj_R0 (r := (.bipush 53, 2, 0, 0, 0)) rfl rfl
theorem s324_351 {d : Nat} {ls : mj_L} {st : List Value} {M : mj_H} : mj_Rn d mj_m324 351 ls st M = mq_k6 M (mj_re (some .int) (.ireturn) st) := mj_R6 (r := (.ireturn, 1, 0, 0, 0)) rfl rfl
theorem s324_352 {d : Nat} {ls : mj_L} {st : List Value} {M : mj_H} : mj_Rn d mj_m324 352 ls st M = mq_k0 d mj_m324 353 ls M (mj_lda (mj_lk ls 0) st) := mj_R0 (r := (.aload_n 0, 1, 0, 0, 0)) rfl rfl
theorem s324_353 {d : Nat} {ls : mj_L} {st : List Value} {M : mj_H} : mj_Rn d mj_m324 353 ls st M = mq_k0 d mj_m324 356 ls M (mq_gf 11 25 st M) := (mj_R3 (r := (.getfield 67, 3, 11, 25, 57358)) rfl rfl).trans (congrArg (mq_k0 d mj_m324 356 ls M) mq_gf_eq)
theorem s324_356 {d : Nat} {ls : mj_L} {st : List Value} {M : mj_H} : mj_Rn d mj_m324 356 ls st M = mq_k0 d mj_m324 357 ls M (mj_ldi (mj_lk ls 1) st) := mj_R0 (r := (.iload_n 1, 1, 0, 0, 0)) rfl rfl
theorem s324_357 {d : Nat} {ls : mj_L} {st : List Value} {M : mj_H} : mj_Rn d mj_m324 357 ls st M = mq_k0 d mj_m324 358 ls M (mq_al [1000] st M) := (mj_R3 (r := (.iaload, 1, 0, 0, 0)) rfl rfl).trans (congrArg (mq_k0 d mj_m324 358 ls M) mq_ali_eq)
theorem s324_358 {d : Nat} {ls : mj_L} {st : List Value} {M : mj_H} : mj_Rn d mj_m324 358 ls st M = mq_k2 d mj_m324 ls M (mj_br (.ifCond .eq 13) 358 st) := mj_R2 (r := (.ifCond .eq 13, 3, 0, 0, 0)) rfl rfl
theorem s324_361 {d : Nat} {ls : mj_L} {st : List Value} {M : mj_H} : mj_Rn d mj_m324 361 ls st M = mq_k0 d mj_m324 362 ls M (mj_lda (mj_lk ls 0) st) := mj_R0 (r := (.aload_n 0, 1, 0, 0, 0)) rfl rfl
theorem s324_362 {d : Nat} {ls : mj_L} {st : List Value} {M : mj_H} : mj_Rn d mj_m324 362 ls st M = mq_k0 d mj_m324 365 ls M (mq_gf 11 36 st M) := (mj_R3 (r := (.getfield 100, 3, 11, 36, 57380)) rfl rfl).trans (congrArg (mq_k0 d mj_m324 365 ls M) mq_gf_eq)
theorem s324_365 {d : Nat} {ls : mj_L} {st : List Value} {M : mj_H} : mj_Rn d mj_m324 365 ls st M = mq_k0 d mj_m324 366 ls M (mj_ldi (mj_lk ls 1) st) := mj_R0 (r := (.iload_n 1, 1, 0, 0, 0)) rfl rfl
theorem s324_366 {d : Nat} {ls : mj_L} {st : List Value} {M : mj_H} : mj_Rn d mj_m324 366 ls st M = mq_k0 d mj_m324 367 ls M (mq_al [1000] st M) := (mj_R3 (r := (.iaload, 1, 0, 0, 0)) rfl rfl).trans (congrArg (mq_k0 d mj_m324 367 ls M) mq_ali_eq)
theorem s324_367 {d : Nat} {ls : mj_L} {st : List Value} {M : mj_H} : mj_Rn d mj_m324 367 ls st M = mj_Rn d mj_m324 368 ls (.int 3 :: st) M := mj_R0 (r := (.iconst 3, 1, 0, 0, 0)) rfl rfl
theorem s324_368 {d : Nat} {ls : mj_L} {st : List Value} {M : mj_H} : mj_Rn d mj_m324 368 ls st M = mq_k2 d mj_m324 ls M (mj_br (.if_icmp .ne 20) 368 st) := mj_R2 (r := (.if_icmp .ne 20, 3, 0, 0, 0)) rfl rfl
theorem s324_371 {d : Nat} {ls : mj_L} {st : List Value} {M : mj_H} : mj_Rn d mj_m324 371 ls st M = mq_k0 d mj_m324 372 ls M (mj_lda (mj_lk ls 0) st) := mj_R0 (r := (.aload_n 0, 1, 0, 0, 0)) rfl rfl
theorem s324_372 {d : Nat} {ls : mj_L} {st : List Value} {M : mj_H} : mj_Rn d mj_m324 372 ls st M = mq_k0 d mj_m324 375 ls M (mq_gf 11 25 st M) := (mj_R3 (r := (.getfield 67, 3, 11, 25, 57358)) rfl rfl).trans (congrArg (mq_k0 d mj_m324 375 ls M) mq_gf_eq)
theorem s324_375 {d : Nat} {ls : mj_L} {st : List Value} {M : mj_H} : mj_Rn d mj_m324 375 ls st M = mq_k0 d mj_m324 376 ls M (mj_ldi (mj_lk ls 1) st) := mj_R0 (r := (.iload_n 1, 1, 0, 0, 0)) rfl rfl
theorem s324_376 {d : Nat} {ls : mj_L} {st : List Value} {M : mj_H} : mj_Rn d mj_m324 376 ls st M = mq_k0 d mj_m324 377 ls M (mq_al [1000] st M) := (mj_R3 (r := (.iaload, 1, 0, 0, 0)) rfl rfl).trans (congrArg (mq_k0 d mj_m324 377 ls M) mq_ali_eq)
theorem s324_377 {d : Nat} {ls : mj_L} {st : List Value} {M : mj_H} : mj_Rn d mj_m324 377 ls st M = mq_k2 d mj_m324 ls M (mj_br (.ifCond .ne 8) 377 st) := mj_R2 (r := (.ifCond .ne 8, 3, 0, 0, 0)) rfl rfl
theorem s324_380 {d : Nat} {ls : mj_L} {st : List Value} {M : mj_H} : mj_Rn d mj_m324 380 ls st M = mj_Rn d mj_m324 382 ls (.int 50 :: st) M := mj_R0 (r := (.bipush 50, 2, 0, 0, 0)) rfl rfl
theorem s324_382 {d : Nat} {ls : mj_L} {st : List Value} {M : mj_H} : mj_Rn d mj_m324 382 ls st M = mj_Rn d mj_m324 387 ls st M := mj_R2 (r := (.goto 5, 3, 0, 0, 0)) rfl rfl
theorem s324_385 {d : Nat} {ls : mj_L} {st : List Value} {M : mj_H} : mj_Rn d mj_m324 385 ls st M = mj_Rn d mj_m324 387 ls (.int 52 :: st) M := mj_R0 (r := (.bipush 52, 2, 0, 0, 0)) rfl rfl
theorem s324_387 {d : Nat} {ls : mj_L} {st : List Value} {M : mj_H} : mj_Rn d mj_m324 387 ls st M = mq_k6 M (mj_re (some .int) (.ireturn) st) := mj_R6 (r := (.ireturn, 1, 0, 0, 0)) rfl rfl
theorem s324_388 {d : Nat} {ls : mj_L} {st : List Value} {M : mj_H} : mj_Rn d mj_m324 388 ls st M = mq_k0 d mj_m324 390 ls M (mj_ldi (mj_lk ls 8) st) := mj_R0 (r := (.iload 8, 2, 0, 0, 0)) rfl rfl
theorem s324_390 {d : Nat} {ls : mj_L} {st : List Value} {M : mj_H} : mj_Rn d mj_m324 390 ls st M = mj_Rn d mj_m324 391 ls (.int 4 :: st) M := mj_R0 (r := (.iconst 4, 1, 0, 0, 0)) rfl rfl
theorem s324_391 {d : Nat} {ls : mj_L} {st : List Value} {M : mj_H} : mj_Rn d mj_m324 391 ls st M = mq_k2 d mj_m324 ls M (mj_br (.if_icmp .ne 21) 391 st) := mj_R2 (r := (.if_icmp .ne 21, 3, 0, 0, 0)) rfl rfl
theorem s324_394 {d : Nat} {ls : mj_L} {st : List Value} {M : mj_H} : mj_Rn d mj_m324 394 ls st M = mq_k0 d mj_m324 395 ls M (mj_lda (mj_lk ls 0) st) := mj_R0 (r := (.aload_n 0, 1, 0, 0, 0)) rfl rfl
theorem s324_395 {d : Nat} {ls : mj_L} {st : List Value} {M : mj_H} : mj_Rn d mj_m324 395 ls st M = mq_k0 d mj_m324 397 ls M (mj_ldi (mj_lk ls 9) st) := mj_R0 (r := (.iload 9, 2, 0, 0, 0)) rfl rfl
theorem s324_397 {d : Nat} {ls : mj_L} {st : List Value} {M : mj_H} : mj_Rn d mj_m324 397 ls st M = mq_k0 d mj_m324 399 ls M (mj_ldi (mj_lk ls 5) st) := mj_R0 (r := (.iload 5, 2, 0, 0, 0)) rfl rfl
theorem s324_399 {d : Nat} {ls : mj_L} {st : List Value} {M : mj_H} : mj_Rn d mj_m324 399 ls st M = mq_k0 d mj_m324 401 ls M (mj_ldi (mj_lk ls 6) st) := mj_R0 (r := (.iload 6, 2, 0, 0, 0)) rfl rfl
theorem s324_401 {d : Nat} {ls : mj_L} {st : List Value} {M : mj_H} : mj_Rn d mj_m324 401 ls st M = mq_k0 d mj_m324 403 ls M (mj_ldi (mj_lk ls 7) st) := mj_R0 (r := (.iload 7, 2, 0, 0, 0)) rfl rfl
theorem s324_403 {d : Nat} {ls : mj_L} {st : List Value} {M : mj_H} : mj_Rn (d + 1) mj_m324 403 ls st M = mq_k5a (d + 1) mj_m324 406 ls M 327 (mq_cb 0 4 11 st M) := mj_R5e (r := (.invokevirtual 541, 3, 0, 327, 37020)) (z := mj_m327) rfl rfl (by decide) (by decide) rfl
theorem s324_406 {d : Nat} {ls : mj_L} {st : List Value} {M : mj_H} : mj_Rn d mj_m324 406 ls st M = mq_k2 d mj_m324 ls M (mj_br (.ifCond .ne 6) 406 st) := mj_R2 (r := (.ifCond .ne 6, 3, 0, 0, 0)) rfl rfl
theorem s324_409 {d : Nat} {ls : mj_L} {st : List Value} {M : mj_H} : mj_Rn d mj_m324 409 ls st M = mj_Rn d mj_m324 411 ls (.int 51 :: st) M := mj_R0 (r := (.bipush 51, 2, 0, 0, 0)) rfl rfl
theorem s324_411 {d : Nat} {ls : mj_L} {st : List Value} {M : mj_H} : mj_Rn d mj_m324 411 ls st M = mq_k6 M (mj_re (some .int) (.ireturn) st) := mj_R6 (r := (.ireturn, 1, 0, 0, 0)) rfl rfl
theorem s324_412 {d : Nat} {ls : mj_L} {st : List Value} {M : mj_H} : mj_Rn d mj_m324 412 ls st M = mq_k0 d mj_m324 413 ls M (mj_lda (mj_lk ls 0) st) := mj_R0 (r := (.aload_n 0, 1, 0, 0, 0)) rfl rfl
theorem s324_413 {d : Nat} {ls : mj_L} {st : List Value} {M : mj_H} : mj_Rn d mj_m324 413 ls st M = mq_k0 d mj_m324 414 ls M (mj_ldi (mj_lk ls 1) st) := mj_R0 (r := (.iload_n 1, 1, 0, 0, 0)) rfl rfl
theorem s324_414 {d : Nat} {ls : mj_L} {st : List Value} {M : mj_H} : mj_Rn d mj_m324 414 ls st M = mq_k0 d mj_m324 416 ls M (mj_ldi (mj_lk ls 9) st) := mj_R0 (r := (.iload 9, 2, 0, 0, 0)) rfl rfl
theorem s324_416 {d : Nat} {ls : mj_L} {st : List Value} {M : mj_H} : mj_Rn d mj_m324 416 ls st M = mq_k0 d mj_m324 418 ls M (mj_ldi (mj_lk ls 7) st) := mj_R0 (r := (.iload 7, 2, 0, 0, 0)) rfl rfl
theorem s324_418 {d : Nat} {ls : mj_L} {st : List Value} {M : mj_H} : mj_Rn (d + 1) mj_m324 418 ls st M = mq_k5a (d + 1) mj_m324 421 ls M 329 (mq_cb 0 3 11 st M) := mj_R5e (r := (.invokevirtual 548, 3, 0, 329, 37028)) (z := mj_m329) rfl rfl (by decide) (by decide) rfl
theorem s324_421 {d : Nat} {ls : mj_L} {st : List Value} {M : mj_H} : mj_Rn d mj_m324 421 ls st M = mq_k1 d mj_m324 423 M (mj_lo 11 (.istore 10) ls st) := mj_R1 (r := (.istore 10, 2, 0, 0, 0)) rfl rfl
theorem s324_423 {d : Nat} {ls : mj_L} {st : List Value} {M : mj_H} : mj_Rn d mj_m324 423 ls st M = mq_k0 d mj_m324 425 ls M (mj_ldi (mj_lk ls 10) st) := mj_R0 (r := (.iload 10, 2, 0, 0, 0)) rfl rfl
theorem s324_425 {d : Nat} {ls : mj_L} {st : List Value} {M : mj_H} : mj_Rn d mj_m324 425 ls st M = mq_k2 d mj_m324 ls M (mj_br (.ifCond .ne 9) 425 st) := mj_R2 (r := (.ifCond .ne 9, 3, 0, 0, 0)) rfl rfl
theorem s324_428 {d : Nat} {ls : mj_L} {st : List Value} {M : mj_H} : mj_Rn d mj_m324 428 ls st M = mq_k0 d mj_m324 430 ls M (mj_ldi (mj_lk ls 8) st) := mj_R0 (r := (.iload 8, 2, 0, 0, 0)) rfl rfl
theorem s324_430 {d : Nat} {ls : mj_L} {st : List Value} {M : mj_H} : mj_Rn d mj_m324 430 ls st M = mj_Rn d mj_m324 431 ls (.int 4 :: st) M := mj_R0 (r := (.iconst 4, 1, 0, 0, 0)) rfl rfl
theorem s324_431 {d : Nat} {ls : mj_L} {st : List Value} {M : mj_H} : mj_Rn d mj_m324 431 ls st M = mq_k2 d mj_m324 ls M (mj_br (.if_icmp .ne 23) 431 st) := mj_R2 (r := (.if_icmp .ne 23, 3, 0, 0, 0)) rfl rfl
theorem s324_434 {d : Nat} {ls : mj_L} {st : List Value} {M : mj_H} : mj_Rn d mj_m324 434 ls st M = mq_k0 d mj_m324 436 ls M (mj_ldi (mj_lk ls 10) st) := mj_R0 (r := (.iload 10, 2, 0, 0, 0)) rfl rfl
theorem s324_436 {d : Nat} {ls : mj_L} {st : List Value} {M : mj_H} : mj_Rn d mj_m324 436 ls st M = mq_k2 d mj_m324 ls M (mj_br (.ifCond .eq 8) 436 st) := mj_R2 (r := (.ifCond .eq 8, 3, 0, 0, 0)) rfl rfl
theorem s324_439 {d : Nat} {ls : mj_L} {st : List Value} {M : mj_H} : mj_Rn d mj_m324 439 ls st M = mq_k0 d mj_m324 441 ls M (mj_ldi (mj_lk ls 10) st) := mj_R0 (r := (.iload 10, 2, 0, 0, 0)) rfl rfl
theorem s324_441 {d : Nat} {ls : mj_L} {st : List Value} {M : mj_H} : mj_Rn d mj_m324 441 ls st M = mj_Rn d mj_m324 453 ls st M := mj_R2 (r := (.goto 12, 3, 0, 0, 0)) rfl rfl
theorem s324_444 {d : Nat} {ls : mj_L} {st : List Value} {M : mj_H} : mj_Rn d mj_m324 444 ls st M = mq_k0 d mj_m324 445 ls M (mj_lda (mj_lk ls 0) st) := mj_R0 (r := (.aload_n 0, 1, 0, 0, 0)) rfl rfl
theorem s324_445 {d : Nat} {ls : mj_L} {st : List Value} {M : mj_H} : mj_Rn d mj_m324 445 ls st M = mq_k0 d mj_m324 446 ls M (mj_ldi (mj_lk ls 1) st) := mj_R0 (r := (.iload_n 1, 1, 0, 0, 0)) rfl rfl
theorem s324_446 {d : Nat} {ls : mj_L} {st : List Value} {M : mj_H} : mj_Rn d mj_m324 446 ls st M = mq_k0 d mj_m324 448 ls M (mj_ldi (mj_lk ls 9) st) := mj_R0 (r := (.iload 9, 2, 0, 0, 0)) rfl rfl
theorem s324_448 {d : Nat} {ls : mj_L} {st : List Value} {M : mj_H} : mj_Rn d mj_m324 448 ls st M = mq_k0 d mj_m324 450 ls M (mj_ldi (mj_lk ls 6) st) := mj_R0 (r := (.iload 6, 2, 0, 0, 0)) rfl rfl
theorem s324_450 {d : Nat} {ls : mj_L} {st : List Value} {M : mj_H} : mj_Rn (d + 1) mj_m324 450 ls st M = mq_k5a (d + 1) mj_m324 453 ls M 328 (mq_cb 0 3 11 st M) := mj_R5e (r := (.invokevirtual 545, 3, 0, 328, 37024)) (z := mj_m328) rfl rfl (by decide) (by decide) rfl
theorem s324_453 {d : Nat} {ls : mj_L} {st : List Value} {M : mj_H} : mj_Rn d mj_m324 453 ls st M = mq_k6 M (mj_re (some .int) (.ireturn) st) := mj_R6 (r := (.ireturn, 1, 0, 0, 0)) rfl rfl
theorem s324_454 {d : Nat} {ls : mj_L} {st : List Value} {M : mj_H} : mj_Rn d mj_m324 454 ls st M = mq_k0 d mj_m324 455 ls M (mj_lda (mj_lk ls 0) st) := mj_R0 (r := (.aload_n 0, 1, 0, 0, 0)) rfl rfl
theorem s324_455 {d : Nat} {ls : mj_L} {st : List Value} {M : mj_H} : mj_Rn d mj_m324 455 ls st M = mj_Rn d mj_m324 457 ls (.int 9 :: st) M := mj_R0 (r := (.bipush 9, 2, 0, 0, 0)) rfl rfl
theorem s324_457 {d : Nat} {ls : mj_L} {st : List Value} {M : mj_H} : mj_Rn (d + 1) mj_m324 457 ls st M = mq_k5a (d + 1) mj_m324 460 ls M 242 (mq_cb 0 1 11 st M) := mj_R5e (r := (.invokevirtual 279, 3, 0, 242, 32824)) (z := mj_m242) rfl rfl (by decide) (by decide) rfl
theorem s324_460 {d : Nat} {ls : mj_L} {st : List Value} {M : mj_H} : mj_Rn d mj_m324 460 ls st M = mq_k0 d mj_m324 461 ls M (mj_lda (mj_lk ls 0) st) := mj_R0 (r := (.aload_n 0, 1, 0, 0, 0)) rfl rfl
theorem s324_461 {d : Nat} {ls : mj_L} {st : List Value} {M : mj_H} : mj_Rn d mj_m324 461 ls st M = mq_k0 d mj_m324 463 ls M (mj_ldi (mj_lk ls 9) st) := mj_R0 (r := (.iload 9, 2, 0, 0, 0)) rfl rfl
theorem s324_463 {d : Nat} {ls : mj_L} {st : List Value} {M : mj_H} : mj_Rn (d + 1) mj_m324 463 ls st M = mq_k5a (d + 1) mj_m324 466 ls M 243 (mq_cb 0 1 11 st M) := mj_R5e (r := (.invokevirtual 258, 3, 0, 243, 32828)) (z := mj_m243) rfl rfl (by decide) (by decide) rfl
theorem s324_466 {d : Nat} {ls : mj_L} {st : List Value} {M : mj_H} : mj_Rn d mj_m324 466 ls st M = mq_k0 d mj_m324 467 ls M (mj_lda (mj_lk ls 0) st) := mj_R0 (r := (.aload_n 0, 1, 0, 0, 0)) rfl rfl
theorem s324_467 {d : Nat} {ls : mj_L} {st : List Value} {M : mj_H} : mj_Rn d mj_m324 467 ls st M = mq_k0 d mj_m324 468 ls M (mj_lda (mj_lk ls 0) st) := mj_R0 (r := (.aload_n 0, 1, 0, 0, 0)) rfl rfl
theorem s324_468 {d : Nat} {ls : mj_L} {st : List Value} {M : mj_H} : mj_Rn d mj_m324 468 ls st M = mq_k0 d mj_m324 471 ls M (mq_gf 11 35 st M) := (mj_R3 (r := (.getfield 97, 3, 11, 35, 57378)) rfl rfl).trans (congrArg (mq_k0 d mj_m324 471 ls M) mq_gf_eq)
theorem s324_471 {d : Nat} {ls : mj_L} {st : List Value} {M : mj_H} : mj_Rn d mj_m324 471 ls st M = mq_k0 d mj_m324 472 ls M (mj_ldi (mj_lk ls 1) st) := mj_R0 (r := (.iload_n 1, 1, 0, 0, 0)) rfl rfl
theorem s324_472 {d : Nat} {ls : mj_L} {st : List Value} {M : mj_H} : mj_Rn d mj_m324 472 ls st M = mq_k0 d mj_m324 473 ls M (mq_al [1000] st M) := (mj_R3 (r := (.iaload, 1, 0, 0, 0)) rfl rfl).trans (congrArg (mq_k0 d mj_m324 473 ls M) mq_ali_eq)
theorem s324_473 {d : Nat} {ls : mj_L} {st : List Value} {M : mj_H} : mj_Rn (d + 1) mj_m324 473 ls st M = mq_k5a (d + 1) mj_m324 476 ls M 243 (mq_cb 0 1 11 st M) := mj_R5e (r := (.invokevirtual 258, 3, 0, 243, 32828)) (z := mj_m243) rfl rfl (by decide) (by decide) rfl
theorem s324_476 {d : Nat} {ls : mj_L} {st : List Value} {M : mj_H} : mj_Rn d mj_m324 476 ls st M = mq_k0 d mj_m324 477 ls M (mj_lda (mj_lk ls 0) st) := mj_R0 (r := (.aload_n 0, 1, 0, 0, 0)) rfl rfl
theorem s324_477 {d : Nat} {ls : mj_L} {st : List Value} {M : mj_H} : mj_Rn d mj_m324 477 ls st M = mj_Rn d mj_m324 480 ls (.int 161 :: st) M := mj_R0 (r := (.sipush 161, 3, 0, 0, 0)) rfl rfl
theorem s324_480 {d : Nat} {ls : mj_L} {st : List Value} {M : mj_H} : mj_Rn (d + 1) mj_m324 480 ls st M = mq_k5a (d + 1) mj_m324 483 ls M 279 (mq_cb 0 1 11 st M) := mj_R5e (r := (.invokevirtual 440, 3, 0, 279, 32967)) (z := mj_m279) rfl rfl (by decide) (by decide) rfl
theorem s324_483 {d : Nat} {ls : mj_L} {st : List Value} {M : mj_H} : mj_Rn d mj_m324 483 ls st M = mq_k0 d mj_m324 484 ls M (mj_lda (mj_lk ls 0) st) := mj_R0 (r := (.aload_n 0, 1, 0, 0, 0)) rfl rfl
theorem s324_484 {d : Nat} {ls : mj_L} {st : List Value} {M : mj_H} : mj_Rn d mj_m324 484 ls st M = mj_Rn d mj_m324 485 ls (.int 2 :: st) M := mj_R0 (r := (.iconst 2, 1, 0, 0, 0)) rfl rfl
theorem s324_485 {d : Nat} {ls : mj_L} {st : List Value} {M : mj_H} : mj_Rn (d + 1) mj_m324 485 ls st M = mq_k5a (d + 1) mj_m324 488 ls M 279 (mq_cb 0 1 11 st M) := mj_R5e (r := (.invokevirtual 440, 3, 0, 279, 32967)) (z := mj_m279) rfl rfl (by decide) (by decide) rfl
theorem s324_488 {d : Nat} {ls : mj_L} {st : List Value} {M : mj_H} : mj_Rn d mj_m324 488 ls st M = mq_k0 d mj_m324 489 ls M (mj_lda (mj_lk ls 0) st) := mj_R0 (r := (.aload_n 0, 1, 0, 0, 0)) rfl rfl
theorem s324_489 {d : Nat} {ls : mj_L} {st : List Value} {M : mj_H} : mj_Rn d mj_m324 489 ls st M = mq_k0 d mj_m324 490 ls M (mj_lda (mj_lk ls 0) st) := mj_R0 (r := (.aload_n 0, 1, 0, 0, 0)) rfl rfl
theorem s324_490 {d : Nat} {ls : mj_L} {st : List Value} {M : mj_H} : mj_Rn (d + 1) mj_m324 490 ls st M = mq_k5a (d + 1) mj_m324 493 ls M 244 (mq_cb 0 0 11 st M) := mj_R5e (r := (.invokevirtual 285, 3, 0, 244, 32832)) (z := mj_m244) rfl rfl (by decide) (by decide) rfl
theorem s324_493 {d : Nat} {ls : mj_L} {st : List Value} {M : mj_H} : mj_Rn (d + 1) mj_m324 493 ls st M = mq_k5a (d + 1) mj_m324 496 ls M 291 (mq_cb 0 1 11 st M) := mj_R5e (r := (.invokevirtual 522, 3, 0, 291, 36871)) (z := mj_m291) rfl rfl (by decide) (by decide) rfl
theorem s324_496 {d : Nat} {ls : mj_L} {st : List Value} {M : mj_H} : mj_Rn d mj_m324 496 ls st M = mj_Rn d mj_m324 497 ls (.int 0 :: st) M := mj_R0 (r := (.iconst 0, 1, 0, 0, 0)) rfl rfl
theorem s324_497 {d : Nat} {ls : mj_L} {st : List Value} {M : mj_H} : mj_Rn d mj_m324 497 ls st M = mq_k6 M (mj_re (some .int) (.ireturn) st) := mj_R6 (r := (.ireturn, 1, 0, 0, 0)) rfl rfl
set_option maxRecDepth 512
theorem c324 {d : Nat} {a0 : Nat} {x1 : Int32} {M : mj_H} : mj_V (d + 1) 324 [.ref a0, .int x1] M = mj_Rn d mj_m324 0 [(0, .ref a0), (1, .int x1)] [] M := mj_V_go rfl (Nat.le_of_ble_eq_true rfl)
end
/- ct.mpnd1 -/
section
set_option maxRecDepth 512
/-! The model: PIN, the tests of its form. -/
section
variable {d j : Nat} {B : Bs} {x : Fx} {y : Sy} {v2 v3 v4 v5 v6 v7 : Int32}
theorem pk_2 {b1 b2 b3 b4 b5 b6 : Bool} (r1 : mj_V (d + 7) 302 [.ref 67, .int v2, .int 0] (mm B x y) = some (some (.int (on1 b1)), mm B x y)) (r2 : mj_V (d + 7) 302 [.ref 67, .int v3, .int 0] (mm B x y) = some (some (.int (on1 b2)), mm B x y)) (r3 : mj_V (d + 7) 302 [.ref 67, .int v4, .int 2] (mm B x y) = some (some (.int (on1 b3)), mm B x y)) (r4 : mj_V (d + 7) 302 [.ref 67, .int v5, .int 2] (mm B x y) = some (some (.int (on1 b4)), mm B x y)) (r5 : mj_V (d + 7) 302 [.ref 67, .int v6, .int 2] (mm B x y) = some (some (.int (on1 b5)), mm B x y)) (r6 : mj_V (d + 7) 302 [.ref 67, .int v7, .int 2] (mm B x y) = some (some (.int (on1 b6)), mm B x y)) : ((b1 && (b2 && (b3 && (b4 && (b5 && b6))))) = true → ∀ r, mj_Rn (d + 7) mj_m324 108 [(7, .int v7), (6, .int v6), (5, .int v5), (4, .int v4), (3, .int v3), (2, .int v2), (0, .ref 67), (1, .int (nI j))] [] (mm B x y) = some r → mj_Rn (d + 7) mj_m324 47 [(7, .int v7), (6, .int v6), (5, .int v5), (4, .int v4), (3, .int v3), (2, .int v2), (0, .ref 67), (1, .int (nI j))] [] (mm B x y) = some r) ∧ ((b1 && (b2 && (b3 && (b4 && (b5 && b6))))) = false → mj_Rn (d + 7) mj_m324 47 [(7, .int v7), (6, .int v6), (5, .int v5), (4, .int v4), (3, .int v3), (2, .int v2), (0, .ref 67), (1, .int (nI j))] [] (mm B x y) = some (some (.int 17), mm B x y)) := by
  simp only [on1] at r1 r2 r3 r4 r5 r6
  cases b1 with
  | false =>
    simp only [Bool.false_eq_true, if_false, if_true] at r1
    refine ⟨fun z => (by simp [S_cb_mmade4_0, S_bx_mcan1_0, S_b8_mkey_1, S_b8_mkey_0, S_b1_mterm_0, S_b1_copy_0, S_b0_mod_7, S_b0_mod_6, S_b0_mod_5, S_b0_mod_3, S_b0_mod_2, S_b0_mod_1, S_b0_mod_0, S_cb_mmade4_1h, S_bx_mcan1_1h, S_b0_mod_4h] at z), fun _ => ?_⟩
    simp (disch := (first | omega | decide)) [S_cb_mmade4_0, S_bx_mcan1_0, S_b8_mkey_1, S_b8_mkey_0, S_b1_mterm_0, S_b1_copy_0, S_b0_mod_7, S_b0_mod_6, S_b0_mod_5, S_b0_mod_3, S_b0_mod_2, S_b0_mod_1, S_b0_mod_0, S_cb_mmade4_1h, S_bx_mcan1_1h, S_b0_mod_4h, s324_0, s324_1, s324_2, s324_3, s324_6, s324_7, s324_8, s324_9, s324_10, s324_13, s324_14, s324_15, s324_16, s324_17, s324_20, s324_22, s324_23, s324_24, s324_25, s324_28, s324_30, s324_31, s324_32, s324_33, s324_36, s324_38, s324_39, s324_40, s324_42, s324_45, s324_47, s324_48, s324_49, s324_50, s324_53, s324_56, s324_57, s324_58, s324_59, s324_62, s324_65, s324_66, s324_68, s324_69, s324_72, s324_75, s324_76, s324_78, s324_79, s324_82, s324_85, s324_86, s324_88, s324_89, s324_92, s324_95, s324_96, s324_98, s324_99, s324_102, s324_105, s324_107, s324_109, s324_110, s324_113, s324_114, s324_115, s324_118, s324_120, s324_121, s324_122, s324_123, s324_126, s324_128, s324_129, s324_130, s324_133, s324_134, s324_137, s324_139, s324_140, s324_143, s324_145, s324_146, s324_149, s324_150, s324_151, s324_153, s324_154, s324_157, s324_158, s324_161, s324_164, s324_165, s324_167, s324_168, s324_171, s324_172, s324_175, s324_176, s324_179, s324_181, s324_182, s324_185, s324_186, s324_187, s324_190, s324_191, s324_192, s324_195, s324_198, s324_199, s324_200, s324_201, s324_204, s324_205, s324_206, s324_209, s324_212, s324_213, s324_214, s324_216, s324_217, s324_220, s324_222, s324_223, s324_226, s324_228, s324_229, s324_232, s324_234, s324_235, s324_238, s324_240, s324_241, s324_244, s324_246, s324_247, s324_250, s324_252, s324_253, s324_254, s324_256, s324_259, s324_262, s324_263, s324_264, s324_266, s324_269, s324_270, s324_273, s324_276, s324_277, s324_278, s324_279, s324_280, s324_281, s324_282, s324_284, s324_287, s324_288, s324_291, s324_294, s324_296, s324_298, s324_299, s324_302, s324_303, s324_306, s324_307, s324_308, s324_311, s324_312, s324_314, s324_316, s324_318, s324_319, s324_322, s324_325, s324_327, s324_330, s324_331, s324_332, s324_334, s324_336, s324_339, s324_340, s324_341, s324_344, s324_345, s324_346, s324_349, s324_351, s324_352, s324_353, s324_356, s324_357, s324_358, s324_361, s324_362, s324_365, s324_366, s324_367, s324_368, s324_371, s324_372, s324_375, s324_376, s324_377, s324_380, s324_382, s324_385, s324_387, s324_388, s324_390, s324_391, s324_394, s324_395, s324_397, s324_399, s324_401, s324_403, s324_406, s324_409, s324_411, s324_412, s324_413, s324_414, s324_416, s324_418, s324_421, s324_423, s324_425, s324_428, s324_430, s324_431, s324_434, s324_436, s324_439, s324_441, s324_444, s324_445, s324_446, s324_448, s324_450, s324_453, s324_454, s324_455, s324_457, s324_460, s324_461, s324_463, s324_466, s324_467, s324_468, s324_471, s324_472, s324_473, s324_476, s324_477, s324_480, s324_483, s324_484, s324_485, s324_488, s324_489, s324_490, s324_493, s324_496, s324_497, mq_k0s, mq_k1s, mq_k2s, mq_k4s, mq_k5s, mq_k5n, mq_k5as, mq_k6s, mj_pu, mj_lo, mj_br, mj_hr, mj_hw, mq_gf, mq_len, mq_al, mq_pf, mq_ok, mj_re, mq_lkm, mq_lkn, mj_ldi, mj_ldl, mj_lda, mj_ii, mj_ll, mj_li, mj_i1, ms_1, ms_2, f1_n, f1_i, f1_r, f1_u, f1_l, f2_n, f2_i, f2_r, f2_u, f2_l, mj_tg, mj_c1, mj_c2, mj_ar, mj_aw, mq_cb, mq_oi, mj_rm, Value.category, -getElem?_pos, List.getElem?_cons_zero, decide_eq_true, decide_eq_false, nl_lt, nl_le, ln_lt, ln_le, nl_eq, ln_eq, nl_add, ln_add, nl_sub, ln_mul, nI_sub, nI_mul, nI_add, nI_lt_iff, nI_le_iff, nI_inj, nI_num, mq_ix, nI_1, nl_mul, nl_div, r1, narrow]
  | true =>
    cases b2 with
    | false =>
      simp only [Bool.false_eq_true, if_false, if_true] at r1 r2
      refine ⟨fun z => (by simp [S_cb_mmade4_0, S_bx_mcan1_0, S_b8_mkey_1, S_b8_mkey_0, S_b1_mterm_0, S_b1_copy_0, S_b0_mod_7, S_b0_mod_6, S_b0_mod_5, S_b0_mod_3, S_b0_mod_2, S_b0_mod_1, S_b0_mod_0, S_cb_mmade4_1h, S_bx_mcan1_1h, S_b0_mod_4h] at z), fun _ => ?_⟩
      simp (disch := (first | omega | decide)) [S_cb_mmade4_0, S_bx_mcan1_0, S_b8_mkey_1, S_b8_mkey_0, S_b1_mterm_0, S_b1_copy_0, S_b0_mod_7, S_b0_mod_6, S_b0_mod_5, S_b0_mod_3, S_b0_mod_2, S_b0_mod_1, S_b0_mod_0, S_cb_mmade4_1h, S_bx_mcan1_1h, S_b0_mod_4h, s324_0, s324_1, s324_2, s324_3, s324_6, s324_7, s324_8, s324_9, s324_10, s324_13, s324_14, s324_15, s324_16, s324_17, s324_20, s324_22, s324_23, s324_24, s324_25, s324_28, s324_30, s324_31, s324_32, s324_33, s324_36, s324_38, s324_39, s324_40, s324_42, s324_45, s324_47, s324_48, s324_49, s324_50, s324_53, s324_56, s324_57, s324_58, s324_59, s324_62, s324_65, s324_66, s324_68, s324_69, s324_72, s324_75, s324_76, s324_78, s324_79, s324_82, s324_85, s324_86, s324_88, s324_89, s324_92, s324_95, s324_96, s324_98, s324_99, s324_102, s324_105, s324_107, s324_109, s324_110, s324_113, s324_114, s324_115, s324_118, s324_120, s324_121, s324_122, s324_123, s324_126, s324_128, s324_129, s324_130, s324_133, s324_134, s324_137, s324_139, s324_140, s324_143, s324_145, s324_146, s324_149, s324_150, s324_151, s324_153, s324_154, s324_157, s324_158, s324_161, s324_164, s324_165, s324_167, s324_168, s324_171, s324_172, s324_175, s324_176, s324_179, s324_181, s324_182, s324_185, s324_186, s324_187, s324_190, s324_191, s324_192, s324_195, s324_198, s324_199, s324_200, s324_201, s324_204, s324_205, s324_206, s324_209, s324_212, s324_213, s324_214, s324_216, s324_217, s324_220, s324_222, s324_223, s324_226, s324_228, s324_229, s324_232, s324_234, s324_235, s324_238, s324_240, s324_241, s324_244, s324_246, s324_247, s324_250, s324_252, s324_253, s324_254, s324_256, s324_259, s324_262, s324_263, s324_264, s324_266, s324_269, s324_270, s324_273, s324_276, s324_277, s324_278, s324_279, s324_280, s324_281, s324_282, s324_284, s324_287, s324_288, s324_291, s324_294, s324_296, s324_298, s324_299, s324_302, s324_303, s324_306, s324_307, s324_308, s324_311, s324_312, s324_314, s324_316, s324_318, s324_319, s324_322, s324_325, s324_327, s324_330, s324_331, s324_332, s324_334, s324_336, s324_339, s324_340, s324_341, s324_344, s324_345, s324_346, s324_349, s324_351, s324_352, s324_353, s324_356, s324_357, s324_358, s324_361, s324_362, s324_365, s324_366, s324_367, s324_368, s324_371, s324_372, s324_375, s324_376, s324_377, s324_380, s324_382, s324_385, s324_387, s324_388, s324_390, s324_391, s324_394, s324_395, s324_397, s324_399, s324_401, s324_403, s324_406, s324_409, s324_411, s324_412, s324_413, s324_414, s324_416, s324_418, s324_421, s324_423, s324_425, s324_428, s324_430, s324_431, s324_434, s324_436, s324_439, s324_441, s324_444, s324_445, s324_446, s324_448, s324_450, s324_453, s324_454, s324_455, s324_457, s324_460, s324_461, s324_463, s324_466, s324_467, s324_468, s324_471, s324_472, s324_473, s324_476, s324_477, s324_480, s324_483, s324_484, s324_485, s324_488, s324_489, s324_490, s324_493, s324_496, s324_497, mq_k0s, mq_k1s, mq_k2s, mq_k4s, mq_k5s, mq_k5n, mq_k5as, mq_k6s, mj_pu, mj_lo, mj_br, mj_hr, mj_hw, mq_gf, mq_len, mq_al, mq_pf, mq_ok, mj_re, mq_lkm, mq_lkn, mj_ldi, mj_ldl, mj_lda, mj_ii, mj_ll, mj_li, mj_i1, ms_1, ms_2, f1_n, f1_i, f1_r, f1_u, f1_l, f2_n, f2_i, f2_r, f2_u, f2_l, mj_tg, mj_c1, mj_c2, mj_ar, mj_aw, mq_cb, mq_oi, mj_rm, Value.category, -getElem?_pos, List.getElem?_cons_zero, decide_eq_true, decide_eq_false, nl_lt, nl_le, ln_lt, ln_le, nl_eq, ln_eq, nl_add, ln_add, nl_sub, ln_mul, nI_sub, nI_mul, nI_add, nI_lt_iff, nI_le_iff, nI_inj, nI_num, mq_ix, nI_1, nl_mul, nl_div, r1, r2, narrow]
    | true =>
      cases b3 with
      | false =>
        simp only [Bool.false_eq_true, if_false, if_true] at r1 r2 r3
        refine ⟨fun z => (by simp [S_cb_mmade4_0, S_bx_mcan1_0, S_b8_mkey_1, S_b8_mkey_0, S_b1_mterm_0, S_b1_copy_0, S_b0_mod_7, S_b0_mod_6, S_b0_mod_5, S_b0_mod_3, S_b0_mod_2, S_b0_mod_1, S_b0_mod_0, S_cb_mmade4_1h, S_bx_mcan1_1h, S_b0_mod_4h] at z), fun _ => ?_⟩
        simp (disch := (first | omega | decide)) [S_cb_mmade4_0, S_bx_mcan1_0, S_b8_mkey_1, S_b8_mkey_0, S_b1_mterm_0, S_b1_copy_0, S_b0_mod_7, S_b0_mod_6, S_b0_mod_5, S_b0_mod_3, S_b0_mod_2, S_b0_mod_1, S_b0_mod_0, S_cb_mmade4_1h, S_bx_mcan1_1h, S_b0_mod_4h, s324_0, s324_1, s324_2, s324_3, s324_6, s324_7, s324_8, s324_9, s324_10, s324_13, s324_14, s324_15, s324_16, s324_17, s324_20, s324_22, s324_23, s324_24, s324_25, s324_28, s324_30, s324_31, s324_32, s324_33, s324_36, s324_38, s324_39, s324_40, s324_42, s324_45, s324_47, s324_48, s324_49, s324_50, s324_53, s324_56, s324_57, s324_58, s324_59, s324_62, s324_65, s324_66, s324_68, s324_69, s324_72, s324_75, s324_76, s324_78, s324_79, s324_82, s324_85, s324_86, s324_88, s324_89, s324_92, s324_95, s324_96, s324_98, s324_99, s324_102, s324_105, s324_107, s324_109, s324_110, s324_113, s324_114, s324_115, s324_118, s324_120, s324_121, s324_122, s324_123, s324_126, s324_128, s324_129, s324_130, s324_133, s324_134, s324_137, s324_139, s324_140, s324_143, s324_145, s324_146, s324_149, s324_150, s324_151, s324_153, s324_154, s324_157, s324_158, s324_161, s324_164, s324_165, s324_167, s324_168, s324_171, s324_172, s324_175, s324_176, s324_179, s324_181, s324_182, s324_185, s324_186, s324_187, s324_190, s324_191, s324_192, s324_195, s324_198, s324_199, s324_200, s324_201, s324_204, s324_205, s324_206, s324_209, s324_212, s324_213, s324_214, s324_216, s324_217, s324_220, s324_222, s324_223, s324_226, s324_228, s324_229, s324_232, s324_234, s324_235, s324_238, s324_240, s324_241, s324_244, s324_246, s324_247, s324_250, s324_252, s324_253, s324_254, s324_256, s324_259, s324_262, s324_263, s324_264, s324_266, s324_269, s324_270, s324_273, s324_276, s324_277, s324_278, s324_279, s324_280, s324_281, s324_282, s324_284, s324_287, s324_288, s324_291, s324_294, s324_296, s324_298, s324_299, s324_302, s324_303, s324_306, s324_307, s324_308, s324_311, s324_312, s324_314, s324_316, s324_318, s324_319, s324_322, s324_325, s324_327, s324_330, s324_331, s324_332, s324_334, s324_336, s324_339, s324_340, s324_341, s324_344, s324_345, s324_346, s324_349, s324_351, s324_352, s324_353, s324_356, s324_357, s324_358, s324_361, s324_362, s324_365, s324_366, s324_367, s324_368, s324_371, s324_372, s324_375, s324_376, s324_377, s324_380, s324_382, s324_385, s324_387, s324_388, s324_390, s324_391, s324_394, s324_395, s324_397, s324_399, s324_401, s324_403, s324_406, s324_409, s324_411, s324_412, s324_413, s324_414, s324_416, s324_418, s324_421, s324_423, s324_425, s324_428, s324_430, s324_431, s324_434, s324_436, s324_439, s324_441, s324_444, s324_445, s324_446, s324_448, s324_450, s324_453, s324_454, s324_455, s324_457, s324_460, s324_461, s324_463, s324_466, s324_467, s324_468, s324_471, s324_472, s324_473, s324_476, s324_477, s324_480, s324_483, s324_484, s324_485, s324_488, s324_489, s324_490, s324_493, s324_496, s324_497, mq_k0s, mq_k1s, mq_k2s, mq_k4s, mq_k5s, mq_k5n, mq_k5as, mq_k6s, mj_pu, mj_lo, mj_br, mj_hr, mj_hw, mq_gf, mq_len, mq_al, mq_pf, mq_ok, mj_re, mq_lkm, mq_lkn, mj_ldi, mj_ldl, mj_lda, mj_ii, mj_ll, mj_li, mj_i1, ms_1, ms_2, f1_n, f1_i, f1_r, f1_u, f1_l, f2_n, f2_i, f2_r, f2_u, f2_l, mj_tg, mj_c1, mj_c2, mj_ar, mj_aw, mq_cb, mq_oi, mj_rm, Value.category, -getElem?_pos, List.getElem?_cons_zero, decide_eq_true, decide_eq_false, nl_lt, nl_le, ln_lt, ln_le, nl_eq, ln_eq, nl_add, ln_add, nl_sub, ln_mul, nI_sub, nI_mul, nI_add, nI_lt_iff, nI_le_iff, nI_inj, nI_num, mq_ix, nI_1, nl_mul, nl_div, r1, r2, r3, narrow]
      | true =>
        cases b4 with
        | false =>
          simp only [Bool.false_eq_true, if_false, if_true] at r1 r2 r3 r4
          refine ⟨fun z => (by simp [S_cb_mmade4_0, S_bx_mcan1_0, S_b8_mkey_1, S_b8_mkey_0, S_b1_mterm_0, S_b1_copy_0, S_b0_mod_7, S_b0_mod_6, S_b0_mod_5, S_b0_mod_3, S_b0_mod_2, S_b0_mod_1, S_b0_mod_0, S_cb_mmade4_1h, S_bx_mcan1_1h, S_b0_mod_4h] at z), fun _ => ?_⟩
          simp (disch := (first | omega | decide)) [S_cb_mmade4_0, S_bx_mcan1_0, S_b8_mkey_1, S_b8_mkey_0, S_b1_mterm_0, S_b1_copy_0, S_b0_mod_7, S_b0_mod_6, S_b0_mod_5, S_b0_mod_3, S_b0_mod_2, S_b0_mod_1, S_b0_mod_0, S_cb_mmade4_1h, S_bx_mcan1_1h, S_b0_mod_4h, s324_0, s324_1, s324_2, s324_3, s324_6, s324_7, s324_8, s324_9, s324_10, s324_13, s324_14, s324_15, s324_16, s324_17, s324_20, s324_22, s324_23, s324_24, s324_25, s324_28, s324_30, s324_31, s324_32, s324_33, s324_36, s324_38, s324_39, s324_40, s324_42, s324_45, s324_47, s324_48, s324_49, s324_50, s324_53, s324_56, s324_57, s324_58, s324_59, s324_62, s324_65, s324_66, s324_68, s324_69, s324_72, s324_75, s324_76, s324_78, s324_79, s324_82, s324_85, s324_86, s324_88, s324_89, s324_92, s324_95, s324_96, s324_98, s324_99, s324_102, s324_105, s324_107, s324_109, s324_110, s324_113, s324_114, s324_115, s324_118, s324_120, s324_121, s324_122, s324_123, s324_126, s324_128, s324_129, s324_130, s324_133, s324_134, s324_137, s324_139, s324_140, s324_143, s324_145, s324_146, s324_149, s324_150, s324_151, s324_153, s324_154, s324_157, s324_158, s324_161, s324_164, s324_165, s324_167, s324_168, s324_171, s324_172, s324_175, s324_176, s324_179, s324_181, s324_182, s324_185, s324_186, s324_187, s324_190, s324_191, s324_192, s324_195, s324_198, s324_199, s324_200, s324_201, s324_204, s324_205, s324_206, s324_209, s324_212, s324_213, s324_214, s324_216, s324_217, s324_220, s324_222, s324_223, s324_226, s324_228, s324_229, s324_232, s324_234, s324_235, s324_238, s324_240, s324_241, s324_244, s324_246, s324_247, s324_250, s324_252, s324_253, s324_254, s324_256, s324_259, s324_262, s324_263, s324_264, s324_266, s324_269, s324_270, s324_273, s324_276, s324_277, s324_278, s324_279, s324_280, s324_281, s324_282, s324_284, s324_287, s324_288, s324_291, s324_294, s324_296, s324_298, s324_299, s324_302, s324_303, s324_306, s324_307, s324_308, s324_311, s324_312, s324_314, s324_316, s324_318, s324_319, s324_322, s324_325, s324_327, s324_330, s324_331, s324_332, s324_334, s324_336, s324_339, s324_340, s324_341, s324_344, s324_345, s324_346, s324_349, s324_351, s324_352, s324_353, s324_356, s324_357, s324_358, s324_361, s324_362, s324_365, s324_366, s324_367, s324_368, s324_371, s324_372, s324_375, s324_376, s324_377, s324_380, s324_382, s324_385, s324_387, s324_388, s324_390, s324_391, s324_394, s324_395, s324_397, s324_399, s324_401, s324_403, s324_406, s324_409, s324_411, s324_412, s324_413, s324_414, s324_416, s324_418, s324_421, s324_423, s324_425, s324_428, s324_430, s324_431, s324_434, s324_436, s324_439, s324_441, s324_444, s324_445, s324_446, s324_448, s324_450, s324_453, s324_454, s324_455, s324_457, s324_460, s324_461, s324_463, s324_466, s324_467, s324_468, s324_471, s324_472, s324_473, s324_476, s324_477, s324_480, s324_483, s324_484, s324_485, s324_488, s324_489, s324_490, s324_493, s324_496, s324_497, mq_k0s, mq_k1s, mq_k2s, mq_k4s, mq_k5s, mq_k5n, mq_k5as, mq_k6s, mj_pu, mj_lo, mj_br, mj_hr, mj_hw, mq_gf, mq_len, mq_al, mq_pf, mq_ok, mj_re, mq_lkm, mq_lkn, mj_ldi, mj_ldl, mj_lda, mj_ii, mj_ll, mj_li, mj_i1, ms_1, ms_2, f1_n, f1_i, f1_r, f1_u, f1_l, f2_n, f2_i, f2_r, f2_u, f2_l, mj_tg, mj_c1, mj_c2, mj_ar, mj_aw, mq_cb, mq_oi, mj_rm, Value.category, -getElem?_pos, List.getElem?_cons_zero, decide_eq_true, decide_eq_false, nl_lt, nl_le, ln_lt, ln_le, nl_eq, ln_eq, nl_add, ln_add, nl_sub, ln_mul, nI_sub, nI_mul, nI_add, nI_lt_iff, nI_le_iff, nI_inj, nI_num, mq_ix, nI_1, nl_mul, nl_div, r1, r2, r3, r4, narrow]
        | true =>
          cases b5 with
          | false =>
            simp only [Bool.false_eq_true, if_false, if_true] at r1 r2 r3 r4 r5
            refine ⟨fun z => (by simp [S_cb_mmade4_0, S_bx_mcan1_0, S_b8_mkey_1, S_b8_mkey_0, S_b1_mterm_0, S_b1_copy_0, S_b0_mod_7, S_b0_mod_6, S_b0_mod_5, S_b0_mod_3, S_b0_mod_2, S_b0_mod_1, S_b0_mod_0, S_cb_mmade4_1h, S_bx_mcan1_1h, S_b0_mod_4h] at z), fun _ => ?_⟩
            simp (disch := (first | omega | decide)) [S_cb_mmade4_0, S_bx_mcan1_0, S_b8_mkey_1, S_b8_mkey_0, S_b1_mterm_0, S_b1_copy_0, S_b0_mod_7, S_b0_mod_6, S_b0_mod_5, S_b0_mod_3, S_b0_mod_2, S_b0_mod_1, S_b0_mod_0, S_cb_mmade4_1h, S_bx_mcan1_1h, S_b0_mod_4h, s324_0, s324_1, s324_2, s324_3, s324_6, s324_7, s324_8, s324_9, s324_10, s324_13, s324_14, s324_15, s324_16, s324_17, s324_20, s324_22, s324_23, s324_24, s324_25, s324_28, s324_30, s324_31, s324_32, s324_33, s324_36, s324_38, s324_39, s324_40, s324_42, s324_45, s324_47, s324_48, s324_49, s324_50, s324_53, s324_56, s324_57, s324_58, s324_59, s324_62, s324_65, s324_66, s324_68, s324_69, s324_72, s324_75, s324_76, s324_78, s324_79, s324_82, s324_85, s324_86, s324_88, s324_89, s324_92, s324_95, s324_96, s324_98, s324_99, s324_102, s324_105, s324_107, s324_109, s324_110, s324_113, s324_114, s324_115, s324_118, s324_120, s324_121, s324_122, s324_123, s324_126, s324_128, s324_129, s324_130, s324_133, s324_134, s324_137, s324_139, s324_140, s324_143, s324_145, s324_146, s324_149, s324_150, s324_151, s324_153, s324_154, s324_157, s324_158, s324_161, s324_164, s324_165, s324_167, s324_168, s324_171, s324_172, s324_175, s324_176, s324_179, s324_181, s324_182, s324_185, s324_186, s324_187, s324_190, s324_191, s324_192, s324_195, s324_198, s324_199, s324_200, s324_201, s324_204, s324_205, s324_206, s324_209, s324_212, s324_213, s324_214, s324_216, s324_217, s324_220, s324_222, s324_223, s324_226, s324_228, s324_229, s324_232, s324_234, s324_235, s324_238, s324_240, s324_241, s324_244, s324_246, s324_247, s324_250, s324_252, s324_253, s324_254, s324_256, s324_259, s324_262, s324_263, s324_264, s324_266, s324_269, s324_270, s324_273, s324_276, s324_277, s324_278, s324_279, s324_280, s324_281, s324_282, s324_284, s324_287, s324_288, s324_291, s324_294, s324_296, s324_298, s324_299, s324_302, s324_303, s324_306, s324_307, s324_308, s324_311, s324_312, s324_314, s324_316, s324_318, s324_319, s324_322, s324_325, s324_327, s324_330, s324_331, s324_332, s324_334, s324_336, s324_339, s324_340, s324_341, s324_344, s324_345, s324_346, s324_349, s324_351, s324_352, s324_353, s324_356, s324_357, s324_358, s324_361, s324_362, s324_365, s324_366, s324_367, s324_368, s324_371, s324_372, s324_375, s324_376, s324_377, s324_380, s324_382, s324_385, s324_387, s324_388, s324_390, s324_391, s324_394, s324_395, s324_397, s324_399, s324_401, s324_403, s324_406, s324_409, s324_411, s324_412, s324_413, s324_414, s324_416, s324_418, s324_421, s324_423, s324_425, s324_428, s324_430, s324_431, s324_434, s324_436, s324_439, s324_441, s324_444, s324_445, s324_446, s324_448, s324_450, s324_453, s324_454, s324_455, s324_457, s324_460, s324_461, s324_463, s324_466, s324_467, s324_468, s324_471, s324_472, s324_473, s324_476, s324_477, s324_480, s324_483, s324_484, s324_485, s324_488, s324_489, s324_490, s324_493, s324_496, s324_497, mq_k0s, mq_k1s, mq_k2s, mq_k4s, mq_k5s, mq_k5n, mq_k5as, mq_k6s, mj_pu, mj_lo, mj_br, mj_hr, mj_hw, mq_gf, mq_len, mq_al, mq_pf, mq_ok, mj_re, mq_lkm, mq_lkn, mj_ldi, mj_ldl, mj_lda, mj_ii, mj_ll, mj_li, mj_i1, ms_1, ms_2, f1_n, f1_i, f1_r, f1_u, f1_l, f2_n, f2_i, f2_r, f2_u, f2_l, mj_tg, mj_c1, mj_c2, mj_ar, mj_aw, mq_cb, mq_oi, mj_rm, Value.category, -getElem?_pos, List.getElem?_cons_zero, decide_eq_true, decide_eq_false, nl_lt, nl_le, ln_lt, ln_le, nl_eq, ln_eq, nl_add, ln_add, nl_sub, ln_mul, nI_sub, nI_mul, nI_add, nI_lt_iff, nI_le_iff, nI_inj, nI_num, mq_ix, nI_1, nl_mul, nl_div, r1, r2, r3, r4, r5, narrow]
          | true =>
            cases b6 with
            | false =>
              simp only [Bool.false_eq_true, if_false, if_true] at r1 r2 r3 r4 r5 r6
              refine ⟨fun z => (by simp [S_cb_mmade4_0, S_bx_mcan1_0, S_b8_mkey_1, S_b8_mkey_0, S_b1_mterm_0, S_b1_copy_0, S_b0_mod_7, S_b0_mod_6, S_b0_mod_5, S_b0_mod_3, S_b0_mod_2, S_b0_mod_1, S_b0_mod_0, S_cb_mmade4_1h, S_bx_mcan1_1h, S_b0_mod_4h] at z), fun _ => ?_⟩
              simp (disch := (first | omega | decide)) [S_cb_mmade4_0, S_bx_mcan1_0, S_b8_mkey_1, S_b8_mkey_0, S_b1_mterm_0, S_b1_copy_0, S_b0_mod_7, S_b0_mod_6, S_b0_mod_5, S_b0_mod_3, S_b0_mod_2, S_b0_mod_1, S_b0_mod_0, S_cb_mmade4_1h, S_bx_mcan1_1h, S_b0_mod_4h, s324_0, s324_1, s324_2, s324_3, s324_6, s324_7, s324_8, s324_9, s324_10, s324_13, s324_14, s324_15, s324_16, s324_17, s324_20, s324_22, s324_23, s324_24, s324_25, s324_28, s324_30, s324_31, s324_32, s324_33, s324_36, s324_38, s324_39, s324_40, s324_42, s324_45, s324_47, s324_48, s324_49, s324_50, s324_53, s324_56, s324_57, s324_58, s324_59, s324_62, s324_65, s324_66, s324_68, s324_69, s324_72, s324_75, s324_76, s324_78, s324_79, s324_82, s324_85, s324_86, s324_88, s324_89, s324_92, s324_95, s324_96, s324_98, s324_99, s324_102, s324_105, s324_107, s324_109, s324_110, s324_113, s324_114, s324_115, s324_118, s324_120, s324_121, s324_122, s324_123, s324_126, s324_128, s324_129, s324_130, s324_133, s324_134, s324_137, s324_139, s324_140, s324_143, s324_145, s324_146, s324_149, s324_150, s324_151, s324_153, s324_154, s324_157, s324_158, s324_161, s324_164, s324_165, s324_167, s324_168, s324_171, s324_172, s324_175, s324_176, s324_179, s324_181, s324_182, s324_185, s324_186, s324_187, s324_190, s324_191, s324_192, s324_195, s324_198, s324_199, s324_200, s324_201, s324_204, s324_205, s324_206, s324_209, s324_212, s324_213, s324_214, s324_216, s324_217, s324_220, s324_222, s324_223, s324_226, s324_228, s324_229, s324_232, s324_234, s324_235, s324_238, s324_240, s324_241, s324_244, s324_246, s324_247, s324_250, s324_252, s324_253, s324_254, s324_256, s324_259, s324_262, s324_263, s324_264, s324_266, s324_269, s324_270, s324_273, s324_276, s324_277, s324_278, s324_279, s324_280, s324_281, s324_282, s324_284, s324_287, s324_288, s324_291, s324_294, s324_296, s324_298, s324_299, s324_302, s324_303, s324_306, s324_307, s324_308, s324_311, s324_312, s324_314, s324_316, s324_318, s324_319, s324_322, s324_325, s324_327, s324_330, s324_331, s324_332, s324_334, s324_336, s324_339, s324_340, s324_341, s324_344, s324_345, s324_346, s324_349, s324_351, s324_352, s324_353, s324_356, s324_357, s324_358, s324_361, s324_362, s324_365, s324_366, s324_367, s324_368, s324_371, s324_372, s324_375, s324_376, s324_377, s324_380, s324_382, s324_385, s324_387, s324_388, s324_390, s324_391, s324_394, s324_395, s324_397, s324_399, s324_401, s324_403, s324_406, s324_409, s324_411, s324_412, s324_413, s324_414, s324_416, s324_418, s324_421, s324_423, s324_425, s324_428, s324_430, s324_431, s324_434, s324_436, s324_439, s324_441, s324_444, s324_445, s324_446, s324_448, s324_450, s324_453, s324_454, s324_455, s324_457, s324_460, s324_461, s324_463, s324_466, s324_467, s324_468, s324_471, s324_472, s324_473, s324_476, s324_477, s324_480, s324_483, s324_484, s324_485, s324_488, s324_489, s324_490, s324_493, s324_496, s324_497, mq_k0s, mq_k1s, mq_k2s, mq_k4s, mq_k5s, mq_k5n, mq_k5as, mq_k6s, mj_pu, mj_lo, mj_br, mj_hr, mj_hw, mq_gf, mq_len, mq_al, mq_pf, mq_ok, mj_re, mq_lkm, mq_lkn, mj_ldi, mj_ldl, mj_lda, mj_ii, mj_ll, mj_li, mj_i1, ms_1, ms_2, f1_n, f1_i, f1_r, f1_u, f1_l, f2_n, f2_i, f2_r, f2_u, f2_l, mj_tg, mj_c1, mj_c2, mj_ar, mj_aw, mq_cb, mq_oi, mj_rm, Value.category, -getElem?_pos, List.getElem?_cons_zero, decide_eq_true, decide_eq_false, nl_lt, nl_le, ln_lt, ln_le, nl_eq, ln_eq, nl_add, ln_add, nl_sub, ln_mul, nI_sub, nI_mul, nI_add, nI_lt_iff, nI_le_iff, nI_inj, nI_num, mq_ix, nI_1, nl_mul, nl_div, r1, r2, r3, r4, r5, r6, narrow]
            | true =>
              simp only [if_true] at r1 r2 r3 r4 r5 r6
              refine ⟨fun _ r hr => ?_, fun z => (by simp [S_cb_mmade4_0, S_bx_mcan1_0, S_b8_mkey_1, S_b8_mkey_0, S_b1_mterm_0, S_b1_copy_0, S_b0_mod_7, S_b0_mod_6, S_b0_mod_5, S_b0_mod_3, S_b0_mod_2, S_b0_mod_1, S_b0_mod_0, S_cb_mmade4_1h, S_bx_mcan1_1h, S_b0_mod_4h] at z)⟩
              simp (disch := (first | omega | decide)) [S_cb_mmade4_0, S_bx_mcan1_0, S_b8_mkey_1, S_b8_mkey_0, S_b1_mterm_0, S_b1_copy_0, S_b0_mod_7, S_b0_mod_6, S_b0_mod_5, S_b0_mod_3, S_b0_mod_2, S_b0_mod_1, S_b0_mod_0, S_cb_mmade4_1h, S_bx_mcan1_1h, S_b0_mod_4h, s324_0, s324_1, s324_2, s324_3, s324_6, s324_7, s324_8, s324_9, s324_10, s324_13, s324_14, s324_15, s324_16, s324_17, s324_20, s324_22, s324_23, s324_24, s324_25, s324_28, s324_30, s324_31, s324_32, s324_33, s324_36, s324_38, s324_39, s324_40, s324_42, s324_45, s324_47, s324_48, s324_49, s324_50, s324_53, s324_56, s324_57, s324_58, s324_59, s324_62, s324_65, s324_66, s324_68, s324_69, s324_72, s324_75, s324_76, s324_78, s324_79, s324_82, s324_85, s324_86, s324_88, s324_89, s324_92, s324_95, s324_96, s324_98, s324_99, s324_102, s324_105, s324_107, s324_109, s324_110, s324_113, s324_114, s324_115, s324_118, s324_120, s324_121, s324_122, s324_123, s324_126, s324_128, s324_129, s324_130, s324_133, s324_134, s324_137, s324_139, s324_140, s324_143, s324_145, s324_146, s324_149, s324_150, s324_151, s324_153, s324_154, s324_157, s324_158, s324_161, s324_164, s324_165, s324_167, s324_168, s324_171, s324_172, s324_175, s324_176, s324_179, s324_181, s324_182, s324_185, s324_186, s324_187, s324_190, s324_191, s324_192, s324_195, s324_198, s324_199, s324_200, s324_201, s324_204, s324_205, s324_206, s324_209, s324_212, s324_213, s324_214, s324_216, s324_217, s324_220, s324_222, s324_223, s324_226, s324_228, s324_229, s324_232, s324_234, s324_235, s324_238, s324_240, s324_241, s324_244, s324_246, s324_247, s324_250, s324_252, s324_253, s324_254, s324_256, s324_259, s324_262, s324_263, s324_264, s324_266, s324_269, s324_270, s324_273, s324_276, s324_277, s324_278, s324_279, s324_280, s324_281, s324_282, s324_284, s324_287, s324_288, s324_291, s324_294, s324_296, s324_298, s324_299, s324_302, s324_303, s324_306, s324_307, s324_308, s324_311, s324_312, s324_314, s324_316, s324_318, s324_319, s324_322, s324_325, s324_327, s324_330, s324_331, s324_332, s324_334, s324_336, s324_339, s324_340, s324_341, s324_344, s324_345, s324_346, s324_349, s324_351, s324_352, s324_353, s324_356, s324_357, s324_358, s324_361, s324_362, s324_365, s324_366, s324_367, s324_368, s324_371, s324_372, s324_375, s324_376, s324_377, s324_380, s324_382, s324_385, s324_387, s324_388, s324_390, s324_391, s324_394, s324_395, s324_397, s324_399, s324_401, s324_403, s324_406, s324_409, s324_411, s324_412, s324_413, s324_414, s324_416, s324_418, s324_421, s324_423, s324_425, s324_428, s324_430, s324_431, s324_434, s324_436, s324_439, s324_441, s324_444, s324_445, s324_446, s324_448, s324_450, s324_453, s324_454, s324_455, s324_457, s324_460, s324_461, s324_463, s324_466, s324_467, s324_468, s324_471, s324_472, s324_473, s324_476, s324_477, s324_480, s324_483, s324_484, s324_485, s324_488, s324_489, s324_490, s324_493, s324_496, s324_497, mq_k0s, mq_k1s, mq_k2s, mq_k4s, mq_k5s, mq_k5n, mq_k5as, mq_k6s, mj_pu, mj_lo, mj_br, mj_hr, mj_hw, mq_gf, mq_len, mq_al, mq_pf, mq_ok, mj_re, mq_lkm, mq_lkn, mj_ldi, mj_ldl, mj_lda, mj_ii, mj_ll, mj_li, mj_i1, ms_1, ms_2, f1_n, f1_i, f1_r, f1_u, f1_l, f2_n, f2_i, f2_r, f2_u, f2_l, mj_tg, mj_c1, mj_c2, mj_ar, mj_aw, mq_cb, mq_oi, mj_rm, Value.category, -getElem?_pos, List.getElem?_cons_zero, decide_eq_true, decide_eq_false, nl_lt, nl_le, ln_lt, ln_le, nl_eq, ln_eq, nl_add, ln_add, nl_sub, ln_mul, nI_sub, nI_mul, nI_add, nI_lt_iff, nI_le_iff, nI_inj, nI_num, mq_ix, nI_1, nl_mul, nl_div, r1, r2, r3, r4, r5, r6]
              exact hr
end
end
/- cu.mpnd2 -/
section
set_option maxRecDepth 512
/-! The model: PIN, its form as a whole. -/
section
variable {d j : Nat} {B : Bs} {x : Fx} {y : Sy} {ms : List Int32}
theorem pk_1 (h : xm x ms) (hc : cbMsg ms) (h5 : cbS ms 1 = 5) : ∀ r, mj_Rn (d + 7) mj_m324 47 [(7, .int (oP (mem ms 6))), (6, .int (oP (mem ms 5))), (5, .int (oP (mem ms 4))), (4, .int (oP (mem ms 3))), (3, .int (oP (mem ms 2))), (2, .int (oP (mem ms 1))), (0, .ref 67), (1, .int (nI j))] [] (mm B x y) = some r → mj_V (d + 8) 324 [.ref 67, .int (nI j)] (mm B x y) = some r := by
  intro r hr
  have r1 := q_memM (d := d + 3) (B := B) (x := x) (y := y) h hc h5 (i := 1) (by omega)
  rw [show nI 1 = (1 : Int32) from rfl] at r1
  have r2 := q_memM (d := d + 3) (B := B) (x := x) (y := y) h hc h5 (i := 2) (by omega)
  rw [show nI 2 = (2 : Int32) from rfl] at r2
  have r3 := q_memM (d := d + 3) (B := B) (x := x) (y := y) h hc h5 (i := 3) (by omega)
  rw [show nI 3 = (3 : Int32) from rfl] at r3
  have r4 := q_memM (d := d + 3) (B := B) (x := x) (y := y) h hc h5 (i := 4) (by omega)
  rw [show nI 4 = (4 : Int32) from rfl] at r4
  have r5 := q_memM (d := d + 3) (B := B) (x := x) (y := y) h hc h5 (i := 5) (by omega)
  rw [show nI 5 = (5 : Int32) from rfl] at r5
  have r6 := q_memM (d := d + 3) (B := B) (x := x) (y := y) h hc h5 (i := 6) (by omega)
  rw [show nI 6 = (6 : Int32) from rfl] at r6
  generalize oP (mem ms 1) = a1 at *
  generalize oP (mem ms 2) = a2 at *
  generalize oP (mem ms 3) = a3 at *
  generalize oP (mem ms 4) = a4 at *
  generalize oP (mem ms 5) = a5 at *
  generalize oP (mem ms 6) = a6 at *
  simp (disch := (first | omega | decide)) [S_cb_mmade4_0, S_bx_mcan1_0, S_b8_mkey_1, S_b8_mkey_0, S_b1_mterm_0, S_b1_copy_0, S_b0_mod_7, S_b0_mod_6, S_b0_mod_5, S_b0_mod_3, S_b0_mod_2, S_b0_mod_1, S_b0_mod_0, S_cb_mmade4_1h, S_bx_mcan1_1h, S_b0_mod_4h, c324, s324_0, s324_1, s324_2, s324_3, s324_6, s324_7, s324_8, s324_9, s324_10, s324_13, s324_14, s324_15, s324_16, s324_17, s324_20, s324_22, s324_23, s324_24, s324_25, s324_28, s324_30, s324_31, s324_32, s324_33, s324_36, s324_38, s324_39, s324_40, s324_42, s324_45, s324_48, s324_49, s324_50, s324_53, s324_56, s324_57, s324_58, s324_59, s324_62, s324_65, s324_66, s324_68, s324_69, s324_72, s324_75, s324_76, s324_78, s324_79, s324_82, s324_85, s324_86, s324_88, s324_89, s324_92, s324_95, s324_96, s324_98, s324_99, s324_102, s324_105, s324_107, s324_108, s324_109, s324_110, s324_113, s324_114, s324_115, s324_118, s324_120, s324_121, s324_122, s324_123, s324_126, s324_128, s324_129, s324_130, s324_133, s324_134, s324_137, s324_139, s324_140, s324_143, s324_145, s324_146, s324_149, s324_150, s324_151, s324_153, s324_154, s324_157, s324_158, s324_161, s324_164, s324_165, s324_167, s324_168, s324_171, s324_172, s324_175, s324_176, s324_179, s324_181, s324_182, s324_185, s324_186, s324_187, s324_190, s324_191, s324_192, s324_195, s324_198, s324_199, s324_200, s324_201, s324_204, s324_205, s324_206, s324_209, s324_212, s324_213, s324_214, s324_216, s324_217, s324_220, s324_222, s324_223, s324_226, s324_228, s324_229, s324_232, s324_234, s324_235, s324_238, s324_240, s324_241, s324_244, s324_246, s324_247, s324_250, s324_252, s324_253, s324_254, s324_256, s324_259, s324_262, s324_263, s324_264, s324_266, s324_269, s324_270, s324_273, s324_276, s324_277, s324_278, s324_279, s324_280, s324_281, s324_282, s324_284, s324_287, s324_288, s324_291, s324_294, s324_296, s324_298, s324_299, s324_302, s324_303, s324_306, s324_307, s324_308, s324_311, s324_312, s324_314, s324_316, s324_318, s324_319, s324_322, s324_325, s324_327, s324_330, s324_331, s324_332, s324_334, s324_336, s324_339, s324_340, s324_341, s324_344, s324_345, s324_346, s324_349, s324_351, s324_352, s324_353, s324_356, s324_357, s324_358, s324_361, s324_362, s324_365, s324_366, s324_367, s324_368, s324_371, s324_372, s324_375, s324_376, s324_377, s324_380, s324_382, s324_385, s324_387, s324_388, s324_390, s324_391, s324_394, s324_395, s324_397, s324_399, s324_401, s324_403, s324_406, s324_409, s324_411, s324_412, s324_413, s324_414, s324_416, s324_418, s324_421, s324_423, s324_425, s324_428, s324_430, s324_431, s324_434, s324_436, s324_439, s324_441, s324_444, s324_445, s324_446, s324_448, s324_450, s324_453, s324_454, s324_455, s324_457, s324_460, s324_461, s324_463, s324_466, s324_467, s324_468, s324_471, s324_472, s324_473, s324_476, s324_477, s324_480, s324_483, s324_484, s324_485, s324_488, s324_489, s324_490, s324_493, s324_496, s324_497, mq_k0s, mq_k1s, mq_k2s, mq_k4s, mq_k5s, mq_k5n, mq_k5as, mq_k6s, mj_pu, mj_lo, mj_br, mj_hr, mj_hw, mq_gf, mq_len, mq_al, mq_pf, mq_ok, mj_re, mq_lkm, mq_lkn, mj_ldi, mj_ldl, mj_lda, mj_ii, mj_ll, mj_li, mj_i1, ms_1, ms_2, f1_n, f1_i, f1_r, f1_u, f1_l, f2_n, f2_i, f2_r, f2_u, f2_l, mj_tg, mj_c1, mj_c2, mj_ar, mj_aw, mq_cb, mq_oi, mj_rm, Value.category, -getElem?_pos, List.getElem?_cons_zero, decide_eq_true, decide_eq_false, nl_lt, nl_le, ln_lt, ln_le, nl_eq, ln_eq, nl_add, ln_add, nl_sub, ln_mul, nI_sub, nI_mul, nI_add, nI_lt_iff, nI_le_iff, nI_inj, nI_num, mq_ix, nI_1, nl_mul, nl_div, r1, r2, r3, r4, r5, r6]
  refine mq_wk ?_ hr
  simp [S_cb_mmade4_0, S_bx_mcan1_0, S_b8_mkey_1, S_b8_mkey_0, S_b1_mterm_0, S_b1_copy_0, S_b0_mod_7, S_b0_mod_6, S_b0_mod_5, S_b0_mod_3, S_b0_mod_2, S_b0_mod_1, S_b0_mod_0, S_cb_mmade4_1h, S_bx_mcan1_1h, S_b0_mod_4h, mq_sub, mj_lk]
theorem pk_form (h : xm x ms) (hc : cbMsg ms) (h5 : cbS ms 1 = 5) :
    (pnFit ms = false → mj_V (d + 8) 324 [.ref 67, .int (nI j)] (mm B x y) = some (some (.int 17), mm B x y)) ∧
    (pnFit ms = true → (mem ms 1 = none ∨ mem ms 2 = none) → mj_V (d + 8) 324 [.ref 67, .int (nI j)] (mm B x y) = some (some (.int 20), mm B x y)) ∧
    (pnFit ms = true → ¬ (mem ms 1 = none ∨ mem ms 2 = none) → (oVn ms (mem ms 1) ≠ 1 ∨ oVn ms (mem ms 2) < 1 ∨ 5 < oVn ms (mem ms 2)) → mj_V (d + 8) 324 [.ref 67, .int (nI j)] (mm B x y) = some (some (.int 2), mm B x y)) ∧
    (pnFit ms = true → ¬ (mem ms 1 = none ∨ mem ms 2 = none) → ¬ (oVn ms (mem ms 1) ≠ 1 ∨ oVn ms (mem ms 2) < 1 ∨ 5 < oVn ms (mem ms 2)) → ∀ r, mj_Rn (d + 7) mj_m324 151 [(8, .int (nI (oVn ms (mem ms 2)))), (7, .int (oP (mem ms 6))), (6, .int (oP (mem ms 5))), (5, .int (oP (mem ms 4))), (4, .int (oP (mem ms 3))), (0, .ref 67), (1, .int (nI j))] [] (mm B x y) = some r → mj_V (d + 8) 324 [.ref 67, .int (nI j)] (mm B x y) = some r) := by
  have A1 := pk_1 (d := d) (j := j) (B := B) (x := x) (y := y) h hc h5
  have J := mem_oJ hc
  have a1 := q_mayO (d := d + 5) (B := B) (x := x) (y := y) h (J 1) (s := 0) (by omega)
  have a2 := q_mayO (d := d + 5) (B := B) (x := x) (y := y) h (J 2) (s := 0) (by omega)
  have a3 := q_mayO (d := d + 5) (B := B) (x := x) (y := y) h (J 3) (s := 2) (by omega)
  have a4 := q_mayO (d := d + 5) (B := B) (x := x) (y := y) h (J 4) (s := 2) (by omega)
  have a5 := q_mayO (d := d + 5) (B := B) (x := x) (y := y) h (J 5) (s := 2) (by omega)
  have a6 := q_mayO (d := d + 5) (B := B) (x := x) (y := y) h (J 6) (s := 2) (by omega)
  have A2 := pk_2 (d := d) (j := j) (B := B) (x := x) (y := y) a1 a2 a3 a4 a5 a6
  have hfit : (oFit ms 0 (mem ms 1) && (oFit ms 0 (mem ms 2) && (oFit ms 2 (mem ms 3) && (oFit ms 2 (mem ms 4) && (oFit ms 2 (mem ms 5) && oFit ms 2 (mem ms 6)))))) = pnFit ms := rfl
  rw [hfit] at A2
  have n1 := oP_no h (J 1)
  have n2 := oP_no h (J 2)
  refine ⟨fun hf => A1 _ (A2.2 hf), fun hf hn => A1 _ (A2.1 hf _ ?_), fun hf hn hv => A1 _ (A2.1 hf _ ?_), fun hf hn hv r hr => A1 _ (A2.1 hf _ ?_)⟩
  · generalize oP (mem ms 6) = v6 at *
    generalize oP (mem ms 5) = v5 at *
    generalize oP (mem ms 4) = v4 at *
    generalize oP (mem ms 3) = v3 at *
    by_cases e1 : mem ms 1 = none
    · simp (disch := (first | omega | decide)) [S_cb_mmade4_0, S_bx_mcan1_0, S_b8_mkey_1, S_b8_mkey_0, S_b1_mterm_0, S_b1_copy_0, S_b0_mod_7, S_b0_mod_6, S_b0_mod_5, S_b0_mod_3, S_b0_mod_2, S_b0_mod_1, S_b0_mod_0, S_cb_mmade4_1h, S_bx_mcan1_1h, S_b0_mod_4h, s324_0, s324_1, s324_2, s324_3, s324_6, s324_7, s324_8, s324_9, s324_10, s324_13, s324_14, s324_15, s324_16, s324_17, s324_20, s324_22, s324_23, s324_24, s324_25, s324_28, s324_30, s324_31, s324_32, s324_33, s324_36, s324_38, s324_39, s324_40, s324_42, s324_45, s324_47, s324_48, s324_49, s324_50, s324_53, s324_56, s324_57, s324_58, s324_59, s324_62, s324_65, s324_66, s324_68, s324_69, s324_72, s324_75, s324_76, s324_78, s324_79, s324_82, s324_85, s324_86, s324_88, s324_89, s324_92, s324_95, s324_96, s324_98, s324_99, s324_102, s324_105, s324_107, s324_108, s324_109, s324_110, s324_113, s324_114, s324_115, s324_118, s324_120, s324_121, s324_122, s324_123, s324_126, s324_128, s324_129, s324_130, s324_133, s324_134, s324_137, s324_139, s324_140, s324_143, s324_145, s324_146, s324_149, s324_150, s324_151, s324_153, s324_154, s324_157, s324_158, s324_161, s324_164, s324_165, s324_167, s324_168, s324_171, s324_172, s324_175, s324_176, s324_179, s324_181, s324_182, s324_185, s324_186, s324_187, s324_190, s324_191, s324_192, s324_195, s324_198, s324_199, s324_200, s324_201, s324_204, s324_205, s324_206, s324_209, s324_212, s324_213, s324_214, s324_216, s324_217, s324_220, s324_222, s324_223, s324_226, s324_228, s324_229, s324_232, s324_234, s324_235, s324_238, s324_240, s324_241, s324_244, s324_246, s324_247, s324_250, s324_252, s324_253, s324_254, s324_256, s324_259, s324_262, s324_263, s324_264, s324_266, s324_269, s324_270, s324_273, s324_276, s324_277, s324_278, s324_279, s324_280, s324_281, s324_282, s324_284, s324_287, s324_288, s324_291, s324_294, s324_296, s324_298, s324_299, s324_302, s324_303, s324_306, s324_307, s324_308, s324_311, s324_312, s324_314, s324_316, s324_318, s324_319, s324_322, s324_325, s324_327, s324_330, s324_331, s324_332, s324_334, s324_336, s324_339, s324_340, s324_341, s324_344, s324_345, s324_346, s324_349, s324_351, s324_352, s324_353, s324_356, s324_357, s324_358, s324_361, s324_362, s324_365, s324_366, s324_367, s324_368, s324_371, s324_372, s324_375, s324_376, s324_377, s324_380, s324_382, s324_385, s324_387, s324_388, s324_390, s324_391, s324_394, s324_395, s324_397, s324_399, s324_401, s324_403, s324_406, s324_409, s324_411, s324_412, s324_413, s324_414, s324_416, s324_418, s324_421, s324_423, s324_425, s324_428, s324_430, s324_431, s324_434, s324_436, s324_439, s324_441, s324_444, s324_445, s324_446, s324_448, s324_450, s324_453, s324_454, s324_455, s324_457, s324_460, s324_461, s324_463, s324_466, s324_467, s324_468, s324_471, s324_472, s324_473, s324_476, s324_477, s324_480, s324_483, s324_484, s324_485, s324_488, s324_489, s324_490, s324_493, s324_496, s324_497, mq_k0s, mq_k1s, mq_k2s, mq_k4s, mq_k5s, mq_k5n, mq_k5as, mq_k6s, mj_pu, mj_lo, mj_br, mj_hr, mj_hw, mq_gf, mq_len, mq_al, mq_pf, mq_ok, mj_re, mq_lkm, mq_lkn, mj_ldi, mj_ldl, mj_lda, mj_ii, mj_ll, mj_li, mj_i1, ms_1, ms_2, f1_n, f1_i, f1_r, f1_u, f1_l, f2_n, f2_i, f2_r, f2_u, f2_l, mj_tg, mj_c1, mj_c2, mj_ar, mj_aw, mq_cb, mq_oi, mj_rm, Value.category, -getElem?_pos, List.getElem?_cons_zero, decide_eq_true, decide_eq_false, nl_lt, nl_le, ln_lt, ln_le, nl_eq, ln_eq, nl_add, ln_add, nl_sub, ln_mul, nI_sub, nI_mul, nI_add, nI_lt_iff, nI_le_iff, nI_inj, nI_num, mq_ix, nI_1, nl_mul, nl_div, n1.mpr e1, narrow]
    · have e2 : mem ms 2 = none := by rcases hn with z | z; exact absurd z e1; exact z
      simp (disch := (first | omega | decide)) [S_cb_mmade4_0, S_bx_mcan1_0, S_b8_mkey_1, S_b8_mkey_0, S_b1_mterm_0, S_b1_copy_0, S_b0_mod_7, S_b0_mod_6, S_b0_mod_5, S_b0_mod_3, S_b0_mod_2, S_b0_mod_1, S_b0_mod_0, S_cb_mmade4_1h, S_bx_mcan1_1h, S_b0_mod_4h, s324_0, s324_1, s324_2, s324_3, s324_6, s324_7, s324_8, s324_9, s324_10, s324_13, s324_14, s324_15, s324_16, s324_17, s324_20, s324_22, s324_23, s324_24, s324_25, s324_28, s324_30, s324_31, s324_32, s324_33, s324_36, s324_38, s324_39, s324_40, s324_42, s324_45, s324_47, s324_48, s324_49, s324_50, s324_53, s324_56, s324_57, s324_58, s324_59, s324_62, s324_65, s324_66, s324_68, s324_69, s324_72, s324_75, s324_76, s324_78, s324_79, s324_82, s324_85, s324_86, s324_88, s324_89, s324_92, s324_95, s324_96, s324_98, s324_99, s324_102, s324_105, s324_107, s324_108, s324_109, s324_110, s324_113, s324_114, s324_115, s324_118, s324_120, s324_121, s324_122, s324_123, s324_126, s324_128, s324_129, s324_130, s324_133, s324_134, s324_137, s324_139, s324_140, s324_143, s324_145, s324_146, s324_149, s324_150, s324_151, s324_153, s324_154, s324_157, s324_158, s324_161, s324_164, s324_165, s324_167, s324_168, s324_171, s324_172, s324_175, s324_176, s324_179, s324_181, s324_182, s324_185, s324_186, s324_187, s324_190, s324_191, s324_192, s324_195, s324_198, s324_199, s324_200, s324_201, s324_204, s324_205, s324_206, s324_209, s324_212, s324_213, s324_214, s324_216, s324_217, s324_220, s324_222, s324_223, s324_226, s324_228, s324_229, s324_232, s324_234, s324_235, s324_238, s324_240, s324_241, s324_244, s324_246, s324_247, s324_250, s324_252, s324_253, s324_254, s324_256, s324_259, s324_262, s324_263, s324_264, s324_266, s324_269, s324_270, s324_273, s324_276, s324_277, s324_278, s324_279, s324_280, s324_281, s324_282, s324_284, s324_287, s324_288, s324_291, s324_294, s324_296, s324_298, s324_299, s324_302, s324_303, s324_306, s324_307, s324_308, s324_311, s324_312, s324_314, s324_316, s324_318, s324_319, s324_322, s324_325, s324_327, s324_330, s324_331, s324_332, s324_334, s324_336, s324_339, s324_340, s324_341, s324_344, s324_345, s324_346, s324_349, s324_351, s324_352, s324_353, s324_356, s324_357, s324_358, s324_361, s324_362, s324_365, s324_366, s324_367, s324_368, s324_371, s324_372, s324_375, s324_376, s324_377, s324_380, s324_382, s324_385, s324_387, s324_388, s324_390, s324_391, s324_394, s324_395, s324_397, s324_399, s324_401, s324_403, s324_406, s324_409, s324_411, s324_412, s324_413, s324_414, s324_416, s324_418, s324_421, s324_423, s324_425, s324_428, s324_430, s324_431, s324_434, s324_436, s324_439, s324_441, s324_444, s324_445, s324_446, s324_448, s324_450, s324_453, s324_454, s324_455, s324_457, s324_460, s324_461, s324_463, s324_466, s324_467, s324_468, s324_471, s324_472, s324_473, s324_476, s324_477, s324_480, s324_483, s324_484, s324_485, s324_488, s324_489, s324_490, s324_493, s324_496, s324_497, mq_k0s, mq_k1s, mq_k2s, mq_k4s, mq_k5s, mq_k5n, mq_k5as, mq_k6s, mj_pu, mj_lo, mj_br, mj_hr, mj_hw, mq_gf, mq_len, mq_al, mq_pf, mq_ok, mj_re, mq_lkm, mq_lkn, mj_ldi, mj_ldl, mj_lda, mj_ii, mj_ll, mj_li, mj_i1, ms_1, ms_2, f1_n, f1_i, f1_r, f1_u, f1_l, f2_n, f2_i, f2_r, f2_u, f2_l, mj_tg, mj_c1, mj_c2, mj_ar, mj_aw, mq_cb, mq_oi, mj_rm, Value.category, -getElem?_pos, List.getElem?_cons_zero, decide_eq_true, decide_eq_false, nl_lt, nl_le, ln_lt, ln_le, nl_eq, ln_eq, nl_add, ln_add, nl_sub, ln_mul, nI_sub, nI_mul, nI_add, nI_lt_iff, nI_le_iff, nI_inj, nI_num, mq_ix, nI_1, nl_mul, nl_div, (not_congr n1).mpr e1, n2.mpr e2, narrow]
  all_goals
    simp only [not_or] at hn
    obtain ⟨p1, e1⟩ := Option.ne_none_iff_exists'.mp hn.1
    obtain ⟨p2, e2⟩ := Option.ne_none_iff_exists'.mp hn.2
    have i1 := J 1 p1 e1
    have i2 := J 2 p2 e2
    have hd1 := (cbOk_hd.mp i1.ok).1
    have hd2 := (cbOk_hd.mp i2.ok).1
    have hV1 := hd1.2.2.2.2.2.1
    have hV2 := hd2.2.2.2.2.2.1
    have q1 := Io.l9 h i1
    have q2 := Io.l9 h i2
    have r1 := q_numberAt (d := d + 5) (B := B) (x := x) (y := y) h hd1.1 hd1.2.2.2.1
    have r2 := q_numberAt (d := d + 5) (B := B) (x := x) (y := y) h hd2.1 hd2.2.2.2.1
    have o1 : oVn ms (mem ms 1) = cbV ms p1 := by rw [e1]; rfl
    have o2 : oVn ms (mem ms 2) = cbV ms p2 := by rw [e2]; rfl
    rw [o1, o2] at hv
  · rw [e1, e2, show oP (some p1) = nI p1 from rfl, show oP (some p2) = nI p2 from rfl]
    generalize oP (mem ms 6) = v6 at *
    generalize oP (mem ms 5) = v5 at *
    generalize oP (mem ms 4) = v4 at *
    generalize oP (mem ms 3) = v3 at *
    generalize cbV ms p1 = w1 at *
    generalize cbV ms p2 = w2 at *
    by_cases g1 : w1 = 1
    · rw [g1] at r1
      by_cases g2 : w2 < 1
      · simp (disch := (first | omega | decide)) [S_cb_mmade4_0, S_bx_mcan1_0, S_b8_mkey_1, S_b8_mkey_0, S_b1_mterm_0, S_b1_copy_0, S_b0_mod_7, S_b0_mod_6, S_b0_mod_5, S_b0_mod_3, S_b0_mod_2, S_b0_mod_1, S_b0_mod_0, S_cb_mmade4_1h, S_bx_mcan1_1h, S_b0_mod_4h, s324_0, s324_1, s324_2, s324_3, s324_6, s324_7, s324_8, s324_9, s324_10, s324_13, s324_14, s324_15, s324_16, s324_17, s324_20, s324_22, s324_23, s324_24, s324_25, s324_28, s324_30, s324_31, s324_32, s324_33, s324_36, s324_38, s324_39, s324_40, s324_42, s324_45, s324_47, s324_48, s324_49, s324_50, s324_53, s324_56, s324_57, s324_58, s324_59, s324_62, s324_65, s324_66, s324_68, s324_69, s324_72, s324_75, s324_76, s324_78, s324_79, s324_82, s324_85, s324_86, s324_88, s324_89, s324_92, s324_95, s324_96, s324_98, s324_99, s324_102, s324_105, s324_107, s324_108, s324_109, s324_110, s324_113, s324_114, s324_115, s324_118, s324_120, s324_121, s324_122, s324_123, s324_126, s324_128, s324_129, s324_130, s324_133, s324_134, s324_137, s324_139, s324_140, s324_143, s324_145, s324_146, s324_149, s324_150, s324_151, s324_153, s324_154, s324_157, s324_158, s324_161, s324_164, s324_165, s324_167, s324_168, s324_171, s324_172, s324_175, s324_176, s324_179, s324_181, s324_182, s324_185, s324_186, s324_187, s324_190, s324_191, s324_192, s324_195, s324_198, s324_199, s324_200, s324_201, s324_204, s324_205, s324_206, s324_209, s324_212, s324_213, s324_214, s324_216, s324_217, s324_220, s324_222, s324_223, s324_226, s324_228, s324_229, s324_232, s324_234, s324_235, s324_238, s324_240, s324_241, s324_244, s324_246, s324_247, s324_250, s324_252, s324_253, s324_254, s324_256, s324_259, s324_262, s324_263, s324_264, s324_266, s324_269, s324_270, s324_273, s324_276, s324_277, s324_278, s324_279, s324_280, s324_281, s324_282, s324_284, s324_287, s324_288, s324_291, s324_294, s324_296, s324_298, s324_299, s324_302, s324_303, s324_306, s324_307, s324_308, s324_311, s324_312, s324_314, s324_316, s324_318, s324_319, s324_322, s324_325, s324_327, s324_330, s324_331, s324_332, s324_334, s324_336, s324_339, s324_340, s324_341, s324_344, s324_345, s324_346, s324_349, s324_351, s324_352, s324_353, s324_356, s324_357, s324_358, s324_361, s324_362, s324_365, s324_366, s324_367, s324_368, s324_371, s324_372, s324_375, s324_376, s324_377, s324_380, s324_382, s324_385, s324_387, s324_388, s324_390, s324_391, s324_394, s324_395, s324_397, s324_399, s324_401, s324_403, s324_406, s324_409, s324_411, s324_412, s324_413, s324_414, s324_416, s324_418, s324_421, s324_423, s324_425, s324_428, s324_430, s324_431, s324_434, s324_436, s324_439, s324_441, s324_444, s324_445, s324_446, s324_448, s324_450, s324_453, s324_454, s324_455, s324_457, s324_460, s324_461, s324_463, s324_466, s324_467, s324_468, s324_471, s324_472, s324_473, s324_476, s324_477, s324_480, s324_483, s324_484, s324_485, s324_488, s324_489, s324_490, s324_493, s324_496, s324_497, mq_k0s, mq_k1s, mq_k2s, mq_k4s, mq_k5s, mq_k5n, mq_k5as, mq_k6s, mj_pu, mj_lo, mj_br, mj_hr, mj_hw, mq_gf, mq_len, mq_al, mq_pf, mq_ok, mj_re, mq_lkm, mq_lkn, mj_ldi, mj_ldl, mj_lda, mj_ii, mj_ll, mj_li, mj_i1, ms_1, ms_2, f1_n, f1_i, f1_r, f1_u, f1_l, f2_n, f2_i, f2_r, f2_u, f2_l, mj_tg, mj_c1, mj_c2, mj_ar, mj_aw, mq_cb, mq_oi, mj_rm, Value.category, -getElem?_pos, List.getElem?_cons_zero, decide_eq_true, decide_eq_false, nl_lt, nl_le, ln_lt, ln_le, nl_eq, ln_eq, nl_add, ln_add, nl_sub, ln_mul, nI_sub, nI_mul, nI_add, nI_lt_iff, nI_le_iff, nI_inj, nI_num, mq_ix, nI_1, nl_mul, nl_div, q1.2, q2.2, r1, r2, g2, narrow]
      · simp (disch := (first | omega | decide)) [S_cb_mmade4_0, S_bx_mcan1_0, S_b8_mkey_1, S_b8_mkey_0, S_b1_mterm_0, S_b1_copy_0, S_b0_mod_7, S_b0_mod_6, S_b0_mod_5, S_b0_mod_3, S_b0_mod_2, S_b0_mod_1, S_b0_mod_0, S_cb_mmade4_1h, S_bx_mcan1_1h, S_b0_mod_4h, s324_0, s324_1, s324_2, s324_3, s324_6, s324_7, s324_8, s324_9, s324_10, s324_13, s324_14, s324_15, s324_16, s324_17, s324_20, s324_22, s324_23, s324_24, s324_25, s324_28, s324_30, s324_31, s324_32, s324_33, s324_36, s324_38, s324_39, s324_40, s324_42, s324_45, s324_47, s324_48, s324_49, s324_50, s324_53, s324_56, s324_57, s324_58, s324_59, s324_62, s324_65, s324_66, s324_68, s324_69, s324_72, s324_75, s324_76, s324_78, s324_79, s324_82, s324_85, s324_86, s324_88, s324_89, s324_92, s324_95, s324_96, s324_98, s324_99, s324_102, s324_105, s324_107, s324_108, s324_109, s324_110, s324_113, s324_114, s324_115, s324_118, s324_120, s324_121, s324_122, s324_123, s324_126, s324_128, s324_129, s324_130, s324_133, s324_134, s324_137, s324_139, s324_140, s324_143, s324_145, s324_146, s324_149, s324_150, s324_151, s324_153, s324_154, s324_157, s324_158, s324_161, s324_164, s324_165, s324_167, s324_168, s324_171, s324_172, s324_175, s324_176, s324_179, s324_181, s324_182, s324_185, s324_186, s324_187, s324_190, s324_191, s324_192, s324_195, s324_198, s324_199, s324_200, s324_201, s324_204, s324_205, s324_206, s324_209, s324_212, s324_213, s324_214, s324_216, s324_217, s324_220, s324_222, s324_223, s324_226, s324_228, s324_229, s324_232, s324_234, s324_235, s324_238, s324_240, s324_241, s324_244, s324_246, s324_247, s324_250, s324_252, s324_253, s324_254, s324_256, s324_259, s324_262, s324_263, s324_264, s324_266, s324_269, s324_270, s324_273, s324_276, s324_277, s324_278, s324_279, s324_280, s324_281, s324_282, s324_284, s324_287, s324_288, s324_291, s324_294, s324_296, s324_298, s324_299, s324_302, s324_303, s324_306, s324_307, s324_308, s324_311, s324_312, s324_314, s324_316, s324_318, s324_319, s324_322, s324_325, s324_327, s324_330, s324_331, s324_332, s324_334, s324_336, s324_339, s324_340, s324_341, s324_344, s324_345, s324_346, s324_349, s324_351, s324_352, s324_353, s324_356, s324_357, s324_358, s324_361, s324_362, s324_365, s324_366, s324_367, s324_368, s324_371, s324_372, s324_375, s324_376, s324_377, s324_380, s324_382, s324_385, s324_387, s324_388, s324_390, s324_391, s324_394, s324_395, s324_397, s324_399, s324_401, s324_403, s324_406, s324_409, s324_411, s324_412, s324_413, s324_414, s324_416, s324_418, s324_421, s324_423, s324_425, s324_428, s324_430, s324_431, s324_434, s324_436, s324_439, s324_441, s324_444, s324_445, s324_446, s324_448, s324_450, s324_453, s324_454, s324_455, s324_457, s324_460, s324_461, s324_463, s324_466, s324_467, s324_468, s324_471, s324_472, s324_473, s324_476, s324_477, s324_480, s324_483, s324_484, s324_485, s324_488, s324_489, s324_490, s324_493, s324_496, s324_497, mq_k0s, mq_k1s, mq_k2s, mq_k4s, mq_k5s, mq_k5n, mq_k5as, mq_k6s, mj_pu, mj_lo, mj_br, mj_hr, mj_hw, mq_gf, mq_len, mq_al, mq_pf, mq_ok, mj_re, mq_lkm, mq_lkn, mj_ldi, mj_ldl, mj_lda, mj_ii, mj_ll, mj_li, mj_i1, ms_1, ms_2, f1_n, f1_i, f1_r, f1_u, f1_l, f2_n, f2_i, f2_r, f2_u, f2_l, mj_tg, mj_c1, mj_c2, mj_ar, mj_aw, mq_cb, mq_oi, mj_rm, Value.category, -getElem?_pos, List.getElem?_cons_zero, decide_eq_true, decide_eq_false, nl_lt, nl_le, ln_lt, ln_le, nl_eq, ln_eq, nl_add, ln_add, nl_sub, ln_mul, nI_sub, nI_mul, nI_add, nI_lt_iff, nI_le_iff, nI_inj, nI_num, mq_ix, nI_1, nl_mul, nl_div, q1.2, q2.2, r1, r2, show ¬ w2 < 1 by omega, show ¬ w2 ≤ 5 by omega, show ¬ w2 = 0 by omega, narrow]
    · simp (disch := (first | omega | decide)) [S_cb_mmade4_0, S_bx_mcan1_0, S_b8_mkey_1, S_b8_mkey_0, S_b1_mterm_0, S_b1_copy_0, S_b0_mod_7, S_b0_mod_6, S_b0_mod_5, S_b0_mod_3, S_b0_mod_2, S_b0_mod_1, S_b0_mod_0, S_cb_mmade4_1h, S_bx_mcan1_1h, S_b0_mod_4h, s324_0, s324_1, s324_2, s324_3, s324_6, s324_7, s324_8, s324_9, s324_10, s324_13, s324_14, s324_15, s324_16, s324_17, s324_20, s324_22, s324_23, s324_24, s324_25, s324_28, s324_30, s324_31, s324_32, s324_33, s324_36, s324_38, s324_39, s324_40, s324_42, s324_45, s324_47, s324_48, s324_49, s324_50, s324_53, s324_56, s324_57, s324_58, s324_59, s324_62, s324_65, s324_66, s324_68, s324_69, s324_72, s324_75, s324_76, s324_78, s324_79, s324_82, s324_85, s324_86, s324_88, s324_89, s324_92, s324_95, s324_96, s324_98, s324_99, s324_102, s324_105, s324_107, s324_108, s324_109, s324_110, s324_113, s324_114, s324_115, s324_118, s324_120, s324_121, s324_122, s324_123, s324_126, s324_128, s324_129, s324_130, s324_133, s324_134, s324_137, s324_139, s324_140, s324_143, s324_145, s324_146, s324_149, s324_150, s324_151, s324_153, s324_154, s324_157, s324_158, s324_161, s324_164, s324_165, s324_167, s324_168, s324_171, s324_172, s324_175, s324_176, s324_179, s324_181, s324_182, s324_185, s324_186, s324_187, s324_190, s324_191, s324_192, s324_195, s324_198, s324_199, s324_200, s324_201, s324_204, s324_205, s324_206, s324_209, s324_212, s324_213, s324_214, s324_216, s324_217, s324_220, s324_222, s324_223, s324_226, s324_228, s324_229, s324_232, s324_234, s324_235, s324_238, s324_240, s324_241, s324_244, s324_246, s324_247, s324_250, s324_252, s324_253, s324_254, s324_256, s324_259, s324_262, s324_263, s324_264, s324_266, s324_269, s324_270, s324_273, s324_276, s324_277, s324_278, s324_279, s324_280, s324_281, s324_282, s324_284, s324_287, s324_288, s324_291, s324_294, s324_296, s324_298, s324_299, s324_302, s324_303, s324_306, s324_307, s324_308, s324_311, s324_312, s324_314, s324_316, s324_318, s324_319, s324_322, s324_325, s324_327, s324_330, s324_331, s324_332, s324_334, s324_336, s324_339, s324_340, s324_341, s324_344, s324_345, s324_346, s324_349, s324_351, s324_352, s324_353, s324_356, s324_357, s324_358, s324_361, s324_362, s324_365, s324_366, s324_367, s324_368, s324_371, s324_372, s324_375, s324_376, s324_377, s324_380, s324_382, s324_385, s324_387, s324_388, s324_390, s324_391, s324_394, s324_395, s324_397, s324_399, s324_401, s324_403, s324_406, s324_409, s324_411, s324_412, s324_413, s324_414, s324_416, s324_418, s324_421, s324_423, s324_425, s324_428, s324_430, s324_431, s324_434, s324_436, s324_439, s324_441, s324_444, s324_445, s324_446, s324_448, s324_450, s324_453, s324_454, s324_455, s324_457, s324_460, s324_461, s324_463, s324_466, s324_467, s324_468, s324_471, s324_472, s324_473, s324_476, s324_477, s324_480, s324_483, s324_484, s324_485, s324_488, s324_489, s324_490, s324_493, s324_496, s324_497, mq_k0s, mq_k1s, mq_k2s, mq_k4s, mq_k5s, mq_k5n, mq_k5as, mq_k6s, mj_pu, mj_lo, mj_br, mj_hr, mj_hw, mq_gf, mq_len, mq_al, mq_pf, mq_ok, mj_re, mq_lkm, mq_lkn, mj_ldi, mj_ldl, mj_lda, mj_ii, mj_ll, mj_li, mj_i1, ms_1, ms_2, f1_n, f1_i, f1_r, f1_u, f1_l, f2_n, f2_i, f2_r, f2_u, f2_l, mj_tg, mj_c1, mj_c2, mj_ar, mj_aw, mq_cb, mq_oi, mj_rm, Value.category, -getElem?_pos, List.getElem?_cons_zero, decide_eq_true, decide_eq_false, nl_lt, nl_le, ln_lt, ln_le, nl_eq, ln_eq, nl_add, ln_add, nl_sub, ln_mul, nI_sub, nI_mul, nI_add, nI_lt_iff, nI_le_iff, nI_inj, nI_num, mq_ix, nI_1, nl_mul, nl_div, q1.2, q2.2, r1, r2, g1, narrow]
  · rw [o2] at hr
    rw [e1, e2, show oP (some p1) = nI p1 from rfl, show oP (some p2) = nI p2 from rfl]
    generalize oP (mem ms 6) = v6 at *
    generalize oP (mem ms 5) = v5 at *
    generalize oP (mem ms 4) = v4 at *
    generalize oP (mem ms 3) = v3 at *
    generalize cbV ms p1 = w1 at *
    generalize cbV ms p2 = w2 at *
    have g1 : w1 = 1 := by omega
    rw [g1] at r1
    simp (disch := (first | omega | decide)) [S_cb_mmade4_0, S_bx_mcan1_0, S_b8_mkey_1, S_b8_mkey_0, S_b1_mterm_0, S_b1_copy_0, S_b0_mod_7, S_b0_mod_6, S_b0_mod_5, S_b0_mod_3, S_b0_mod_2, S_b0_mod_1, S_b0_mod_0, S_cb_mmade4_1h, S_bx_mcan1_1h, S_b0_mod_4h, s324_0, s324_1, s324_2, s324_3, s324_6, s324_7, s324_8, s324_9, s324_10, s324_13, s324_14, s324_15, s324_16, s324_17, s324_20, s324_22, s324_23, s324_24, s324_25, s324_28, s324_30, s324_31, s324_32, s324_33, s324_36, s324_38, s324_39, s324_40, s324_42, s324_45, s324_47, s324_48, s324_49, s324_50, s324_53, s324_56, s324_57, s324_58, s324_59, s324_62, s324_65, s324_66, s324_68, s324_69, s324_72, s324_75, s324_76, s324_78, s324_79, s324_82, s324_85, s324_86, s324_88, s324_89, s324_92, s324_95, s324_96, s324_98, s324_99, s324_102, s324_105, s324_107, s324_108, s324_109, s324_110, s324_113, s324_114, s324_115, s324_118, s324_120, s324_121, s324_122, s324_123, s324_126, s324_128, s324_129, s324_130, s324_133, s324_134, s324_137, s324_139, s324_140, s324_143, s324_145, s324_146, s324_149, s324_150, s324_153, s324_154, s324_157, s324_158, s324_161, s324_164, s324_165, s324_167, s324_168, s324_171, s324_172, s324_175, s324_176, s324_179, s324_181, s324_182, s324_185, s324_186, s324_187, s324_190, s324_191, s324_192, s324_195, s324_198, s324_199, s324_200, s324_201, s324_204, s324_205, s324_206, s324_209, s324_212, s324_213, s324_214, s324_216, s324_217, s324_220, s324_222, s324_223, s324_226, s324_228, s324_229, s324_232, s324_234, s324_235, s324_238, s324_240, s324_241, s324_244, s324_246, s324_247, s324_250, s324_252, s324_253, s324_254, s324_256, s324_259, s324_262, s324_263, s324_264, s324_266, s324_269, s324_270, s324_273, s324_276, s324_277, s324_278, s324_279, s324_280, s324_281, s324_282, s324_284, s324_287, s324_288, s324_291, s324_294, s324_296, s324_298, s324_299, s324_302, s324_303, s324_306, s324_307, s324_308, s324_311, s324_312, s324_314, s324_316, s324_318, s324_319, s324_322, s324_325, s324_327, s324_330, s324_331, s324_332, s324_334, s324_336, s324_339, s324_340, s324_341, s324_344, s324_345, s324_346, s324_349, s324_351, s324_352, s324_353, s324_356, s324_357, s324_358, s324_361, s324_362, s324_365, s324_366, s324_367, s324_368, s324_371, s324_372, s324_375, s324_376, s324_377, s324_380, s324_382, s324_385, s324_387, s324_388, s324_390, s324_391, s324_394, s324_395, s324_397, s324_399, s324_401, s324_403, s324_406, s324_409, s324_411, s324_412, s324_413, s324_414, s324_416, s324_418, s324_421, s324_423, s324_425, s324_428, s324_430, s324_431, s324_434, s324_436, s324_439, s324_441, s324_444, s324_445, s324_446, s324_448, s324_450, s324_453, s324_454, s324_455, s324_457, s324_460, s324_461, s324_463, s324_466, s324_467, s324_468, s324_471, s324_472, s324_473, s324_476, s324_477, s324_480, s324_483, s324_484, s324_485, s324_488, s324_489, s324_490, s324_493, s324_496, s324_497, mq_k0s, mq_k1s, mq_k2s, mq_k4s, mq_k5s, mq_k5n, mq_k5as, mq_k6s, mj_pu, mj_lo, mj_br, mj_hr, mj_hw, mq_gf, mq_len, mq_al, mq_pf, mq_ok, mj_re, mq_lkm, mq_lkn, mj_ldi, mj_ldl, mj_lda, mj_ii, mj_ll, mj_li, mj_i1, ms_1, ms_2, f1_n, f1_i, f1_r, f1_u, f1_l, f2_n, f2_i, f2_r, f2_u, f2_l, mj_tg, mj_c1, mj_c2, mj_ar, mj_aw, mq_cb, mq_oi, mj_rm, Value.category, -getElem?_pos, List.getElem?_cons_zero, decide_eq_true, decide_eq_false, nl_lt, nl_le, ln_lt, ln_le, nl_eq, ln_eq, nl_add, ln_add, nl_sub, ln_mul, nI_sub, nI_mul, nI_add, nI_lt_iff, nI_le_iff, nI_inj, nI_num, mq_ix, nI_1, nl_mul, nl_div, q1.2, q2.2, r1, r2, show ¬ w2 < 1 by omega, show w2 ≤ 5 by omega, show ¬ w2 = 0 by omega]
    refine mq_wk ?_ hr
    simp [S_cb_mmade4_0, S_bx_mcan1_0, S_b8_mkey_1, S_b8_mkey_0, S_b1_mterm_0, S_b1_copy_0, S_b0_mod_7, S_b0_mod_6, S_b0_mod_5, S_b0_mod_3, S_b0_mod_2, S_b0_mod_1, S_b0_mod_0, S_cb_mmade4_1h, S_bx_mcan1_1h, S_b0_mod_4h, mq_sub, mj_lk]
end
end
/- cv.mpnd3 -/
section
set_option maxRecDepth 512
/-! The model: PIN as a whole. -/
theorem sec_p {T : Tm} (h8 : tk8 T) (h9 : tk9 T) (t : Int32) : bt_at (tm_row T.1 t) 0 = 2 → tm_sec T.1 t ≠ 0 ∧ tm_sec T.1 t = bt_at (tm_row T.1 t) 1 := by
  intro h
  have e : tm_sec T.1 t = bt_at (tm_row T.1 t) 1 := by unfold tm_sec; rw [if_pos h]
  refine ⟨fun z => ?_, e⟩
  rw [e] at z
  have hl := h8.p2 t h
  match hr : tm_row T.1 t, hl with
  | [a, b], _ =>
    rw [hr] at h z
    have h : a = 2 := h
    have z : b = 0 := z
    have hm : tm_row T.1 t ∈ T.1 := by
      unfold tm_row at hr ⊢
      split at hr
      · cases hr
      · next h1 =>
        rw [if_neg h1]
        by_cases hlt : t.toNatClampNeg - 1 < T.1.length
        · rw [List.getD, List.getElem?_eq_getElem hlt, Option.getD_some]
          exact List.getElem_mem hlt
        · rw [List.getD, List.getElem?_eq_none (by omega), Option.getD_none] at hr
          cases hr
    rw [hr, h, z] at hm
    exact h9.p2 [] hm
section
variable {d : Nat} {B : Bs} {x : Fx} {y : Sy} {j g : Nat} {k : Ky} {m : Mk} {T : Tm} {D O ms : List Int32}
theorem pk_late (h : xm x ms) (hcb : cbMsg ms) (h4l : ms.length ≤ 400) (hx : xk x) (hj : j < 3) (hm : wm m) (hk : kr k m) (hI : kI k (g + 3)) (hon : k.1.1.1.1.2.1 = true) (hc : cF k.1.1.1.1.2.2.2.2.2.2.2.2.2.2.2 m) (hy : yz y T D O) (hT8 : tk8 T) (hT9 : tk9 T) (hT : T.1.length + 2 < 1000) (hO : O.length ≤ 100) {st sh : Nat} (hst : 3 ≤ st ∧ st ≤ 5) (hsh : sh < 2 ^ 30) (hfit : pnFit ms = true) (hmiss : ¬ pnMiss ms st) :
    kO B x j m k.1.1.1.2 O (pn_late ms st k T sh) (mj_Rn (d + 7) mj_m324 296 [(9, .int (nI sh)), (8, .int (nI st)), (7, .int (oP (mem ms 6))), (6, .int (oP (mem ms 5))), (5, .int (oP (mem ms 4))), (0, .ref 67), (1, .int (nI j))] [] (mm B (x.wk j k.1.1.1.1 m) y)) := by
  have J := mem_oJ hcb
  have hwant : ∀ i, 3 ≤ i → i ≤ 6 → wantd i st = true → ∃ p, mem ms i = some p := by
    intro i h3 h6 hw
    cases hq : mem ms i with
    | none => exact absurd ⟨i, h3, h6, hw, hq⟩ hmiss
    | some p => exact ⟨p, rfl⟩
  unfold pnFit at hfit
  simp only [Bool.and_eq_true] at hfit
  obtain ⟨-, -, f3, f4, f5, f6⟩ := hfit
  have hX := h.wk j k.1.1.1.1 m
  unfold pn_late
  have hT1 : T.1.length < 1000 := by omega
  have fg : ∀ a b : Nat, a ≠ b → ∀ p, cbIs ms a p = true → cbIs ms b p = false := by
    intro a b hab p hp
    unfold cbIs at hp ⊢
    simp only [Bool.and_eq_true, decide_eq_true_eq] at hp
    simp [S_cb_mmade4_0, S_bx_mcan1_0, S_b8_mkey_1, S_b8_mkey_0, S_b1_mterm_0, S_b1_copy_0, S_b0_mod_7, S_b0_mod_6, S_b0_mod_5, S_b0_mod_3, S_b0_mod_2, S_b0_mod_1, S_b0_mod_0, S_cb_mmade4_1h, S_bx_mcan1_1h, S_b0_mod_4h, hp.1, hp.2, hab]
  by_cases h3 : st = 3
  · subst h3
    rw [if_pos rfl, if_pos rfl]
    obtain ⟨p4, m4⟩ := hwant 4 (by omega) (by omega) rfl
    obtain ⟨p5, m5⟩ := hwant 5 (by omega) (by omega) rfl
    have i4 := J 4 p4 m4
    have i5 := J 5 p5 m5
    have s4 := fit_s f4 (by omega) p4 m4
    have s5 := fit_s f5 (by omega) p5 m5
    have hin5 := (cbOk_hd.mp i5.ok).2 (Or.inl s5)
    unfold pn_set
    by_cases hpn : k.1.1.1.1.2.2.2.2.2.2.2.2.1 = 0
    · rw [if_pos hpn, if_neg (fun z => z rfl)]
      obtain ⟨y1, D1, z1, k1, p1⟩ := q_isMac (d := d + 3) (B := B) (x := x.wk j k.1.1.1.1 m) (y := y) hX hy hT9 hsh i4 s4 i5 s5 (os := none) (fun _ z => by cases z) (fun _ z => by cases z) (by rw [oBy_len hin5]; show _ + 0 ≤ 400; have := h.1.le; omega)
      have epm : pn_mac (nI sh) ms (decide (3 = 4)) = 5 :: nI sh :: (oBy ms (some p5) ++ oBy ms none) := by unfold pn_mac; rw [m5]; rfl
      rw [epm, m4, m5]
      rw [show oP (some p4) = nI p4 from rfl, show oP (some p5) = nI p5 from rfl]
      rw [show oP none = -1 from rfl] at p1
      generalize hkn : kn_as T (5 :: nI sh :: (oBy ms (some p5) ++ oBy ms none)) (o4 ms (some p4)) = kn at *
      cases kn with
      | false =>
        rw [if_pos ⟨by omega, rfl⟩]
        refine kO.no (m' := m) (y' := y1) (D' := D1) ?_ hm hk hc z1 rfl (by decide)
        simp only [on1, Bool.false_eq_true, if_false] at p1
        generalize oP (mem ms 6) = v6 at *
        simp (disch := (first | omega | decide)) [S_cb_mmade4_0, S_bx_mcan1_0, S_b8_mkey_1, S_b8_mkey_0, S_b1_mterm_0, S_b1_copy_0, S_b0_mod_7, S_b0_mod_6, S_b0_mod_5, S_b0_mod_3, S_b0_mod_2, S_b0_mod_1, S_b0_mod_0, S_cb_mmade4_1h, S_bx_mcan1_1h, S_b0_mod_4h, s324_0, s324_1, s324_2, s324_3, s324_6, s324_7, s324_8, s324_9, s324_10, s324_13, s324_14, s324_15, s324_16, s324_17, s324_20, s324_22, s324_23, s324_24, s324_25, s324_28, s324_30, s324_31, s324_32, s324_33, s324_36, s324_38, s324_39, s324_40, s324_42, s324_45, s324_47, s324_48, s324_49, s324_50, s324_53, s324_56, s324_57, s324_58, s324_59, s324_62, s324_65, s324_66, s324_68, s324_69, s324_72, s324_75, s324_76, s324_78, s324_79, s324_82, s324_85, s324_86, s324_88, s324_89, s324_92, s324_95, s324_96, s324_98, s324_99, s324_102, s324_105, s324_107, s324_108, s324_109, s324_110, s324_113, s324_114, s324_115, s324_118, s324_120, s324_121, s324_122, s324_123, s324_126, s324_128, s324_129, s324_130, s324_133, s324_134, s324_137, s324_139, s324_140, s324_143, s324_145, s324_146, s324_149, s324_150, s324_151, s324_153, s324_154, s324_157, s324_158, s324_161, s324_164, s324_165, s324_167, s324_168, s324_171, s324_172, s324_175, s324_176, s324_179, s324_181, s324_182, s324_185, s324_186, s324_187, s324_190, s324_191, s324_192, s324_195, s324_198, s324_199, s324_200, s324_201, s324_204, s324_205, s324_206, s324_209, s324_212, s324_213, s324_214, s324_216, s324_217, s324_220, s324_222, s324_223, s324_226, s324_228, s324_229, s324_232, s324_234, s324_235, s324_238, s324_240, s324_241, s324_244, s324_246, s324_247, s324_250, s324_252, s324_253, s324_254, s324_256, s324_259, s324_262, s324_263, s324_264, s324_266, s324_269, s324_270, s324_273, s324_276, s324_277, s324_278, s324_279, s324_280, s324_281, s324_282, s324_284, s324_287, s324_288, s324_291, s324_294, s324_296, s324_298, s324_299, s324_302, s324_303, s324_306, s324_307, s324_308, s324_311, s324_312, s324_314, s324_316, s324_318, s324_319, s324_322, s324_325, s324_327, s324_330, s324_331, s324_332, s324_334, s324_336, s324_339, s324_340, s324_341, s324_344, s324_345, s324_346, s324_349, s324_351, s324_352, s324_353, s324_356, s324_357, s324_358, s324_361, s324_362, s324_365, s324_366, s324_367, s324_368, s324_371, s324_372, s324_375, s324_376, s324_377, s324_380, s324_382, s324_385, s324_387, s324_388, s324_390, s324_391, s324_394, s324_395, s324_397, s324_399, s324_401, s324_403, s324_406, s324_409, s324_411, s324_412, s324_413, s324_414, s324_416, s324_418, s324_421, s324_423, s324_425, s324_428, s324_430, s324_431, s324_434, s324_436, s324_439, s324_441, s324_444, s324_445, s324_446, s324_448, s324_450, s324_453, s324_454, s324_455, s324_457, s324_460, s324_461, s324_463, s324_466, s324_467, s324_468, s324_471, s324_472, s324_473, s324_476, s324_477, s324_480, s324_483, s324_484, s324_485, s324_488, s324_489, s324_490, s324_493, s324_496, s324_497, mq_k0s, mq_k1s, mq_k2s, mq_k4s, mq_k5s, mq_k5n, mq_k5as, mq_k6s, mj_pu, mj_lo, mj_br, mj_hr, mj_hw, mq_gf, mq_len, mq_al, mq_pf, mq_ok, mj_re, mq_lkm, mq_lkn, mj_ldi, mj_ldl, mj_lda, mj_ii, mj_ll, mj_li, mj_i1, ms_1, ms_2, f1_n, f1_i, f1_r, f1_u, f1_l, f2_n, f2_i, f2_r, f2_u, f2_l, mj_tg, mj_c1, mj_c2, mj_ar, mj_aw, mq_cb, mq_oi, mj_rm, Value.category, -getElem?_pos, List.getElem?_cons_zero, decide_eq_true, decide_eq_false, nl_lt, nl_le, ln_lt, ln_le, nl_eq, ln_eq, nl_add, ln_add, nl_sub, ln_mul, nI_sub, nI_mul, nI_add, nI_lt_iff, nI_le_iff, nI_inj, nI_num, mq_ix, nI_1, nl_mul, nl_div, wkc_on hx hj, wkl_on hx, wkc_acts hx hj, wkl_acts hx, wkc_limit hx hj, wkl_limit hx, wkc_generation hx hj, wkl_generation hx, wkc_area hx hj, wkl_area hx, wkc_fend hx hj, wkl_fend hx, wkc_master hx hj, wkl_master hx, wkc_pinOf hx hj, wkl_pinOf hx, wkc_tries hx hj, wkl_tries hx, wkc_own hx hj, wkl_own hx, wkc_creds hx hj, wkl_creds hx, wkc_presses hx hj, wkl_presses hx, wkc_taken hx hj, wkl_taken hx, wkc_answered hx hj, wkl_answered hx, wkc_agreeing hx hj, wkl_agreeing hx, wkc_token hx hj, wkl_token hx, wkc_wrong hx hj, wkl_wrong hx, wkc_heard hx hj, wkl_heard hx, wkc_listed hx hj, wkl_listed hx, wkc_listAt hx hj, wkl_listAt hx, wkc_listHash hx hj, wkl_listHash hx, wkc_listFlags hx hj, wkl_listFlags hx, wkc_answerSize hx hj, wkl_answerSize hx, wkc_flash hx hj, wkl_flash hx hj, hpn, p1, narrow]
      | true =>
        rw [if_neg (by simp [S_cb_mmade4_0, S_bx_mcan1_0, S_b8_mkey_1, S_b8_mkey_0, S_b1_mterm_0, S_b1_copy_0, S_b0_mod_7, S_b0_mod_6, S_b0_mod_5, S_b0_mod_3, S_b0_mod_2, S_b0_mod_1, S_b0_mod_0, S_cb_mmade4_1h, S_bx_mcan1_1h, S_b0_mod_4h])]
        have hs0 : sh ≠ 0 := by
          rintro rfl
          have : tm_ix T.1 (5 :: nI 0 :: (oBy ms (some p5) ++ oBy ms none)) ≠ 0 := by
            intro z
            unfold kn_as at hkn
            rw [z] at hkn
            simp [S_cb_mmade4_0, S_bx_mcan1_0, S_b8_mkey_1, S_b8_mkey_0, S_b1_mterm_0, S_b1_copy_0, S_b0_mod_7, S_b0_mod_6, S_b0_mod_5, S_b0_mod_3, S_b0_mod_2, S_b0_mod_1, S_b0_mod_0, S_cb_mmade4_1h, S_bx_mcan1_1h, S_b0_mod_4h] at hkn
          exact hT9.m5 _ (ix_mem this)
        have := q_newPin (d := d) (B := B) (x := x) (y := y1) (g := g + 2) h hx hj hm hk hI hc z1 hT8 hT1 hs0 hsh i5 s5 m5
        obtain ⟨v, m', y', D', O', e1, e2⟩ := this
        refine ⟨v, m', y', D', O', ?_, e2⟩
        simp only [on1, if_true] at p1
        generalize oP (mem ms 6) = v6 at *
        clear e2
        generalize mm B (x.wk j (ky_newPin ms k T (nI sh)).2.1.1.1.1.1 m') y' = E at *
        simp (disch := (first | omega | decide)) [S_cb_mmade4_0, S_bx_mcan1_0, S_b8_mkey_1, S_b8_mkey_0, S_b1_mterm_0, S_b1_copy_0, S_b0_mod_7, S_b0_mod_6, S_b0_mod_5, S_b0_mod_3, S_b0_mod_2, S_b0_mod_1, S_b0_mod_0, S_cb_mmade4_1h, S_bx_mcan1_1h, S_b0_mod_4h, s324_0, s324_1, s324_2, s324_3, s324_6, s324_7, s324_8, s324_9, s324_10, s324_13, s324_14, s324_15, s324_16, s324_17, s324_20, s324_22, s324_23, s324_24, s324_25, s324_28, s324_30, s324_31, s324_32, s324_33, s324_36, s324_38, s324_39, s324_40, s324_42, s324_45, s324_47, s324_48, s324_49, s324_50, s324_53, s324_56, s324_57, s324_58, s324_59, s324_62, s324_65, s324_66, s324_68, s324_69, s324_72, s324_75, s324_76, s324_78, s324_79, s324_82, s324_85, s324_86, s324_88, s324_89, s324_92, s324_95, s324_96, s324_98, s324_99, s324_102, s324_105, s324_107, s324_108, s324_109, s324_110, s324_113, s324_114, s324_115, s324_118, s324_120, s324_121, s324_122, s324_123, s324_126, s324_128, s324_129, s324_130, s324_133, s324_134, s324_137, s324_139, s324_140, s324_143, s324_145, s324_146, s324_149, s324_150, s324_151, s324_153, s324_154, s324_157, s324_158, s324_161, s324_164, s324_165, s324_167, s324_168, s324_171, s324_172, s324_175, s324_176, s324_179, s324_181, s324_182, s324_185, s324_186, s324_187, s324_190, s324_191, s324_192, s324_195, s324_198, s324_199, s324_200, s324_201, s324_204, s324_205, s324_206, s324_209, s324_212, s324_213, s324_214, s324_216, s324_217, s324_220, s324_222, s324_223, s324_226, s324_228, s324_229, s324_232, s324_234, s324_235, s324_238, s324_240, s324_241, s324_244, s324_246, s324_247, s324_250, s324_252, s324_253, s324_254, s324_256, s324_259, s324_262, s324_263, s324_264, s324_266, s324_269, s324_270, s324_273, s324_276, s324_277, s324_278, s324_279, s324_280, s324_281, s324_282, s324_284, s324_287, s324_288, s324_291, s324_294, s324_296, s324_298, s324_299, s324_302, s324_303, s324_306, s324_307, s324_308, s324_311, s324_312, s324_314, s324_316, s324_318, s324_319, s324_322, s324_325, s324_327, s324_330, s324_331, s324_332, s324_334, s324_336, s324_339, s324_340, s324_341, s324_344, s324_345, s324_346, s324_349, s324_351, s324_352, s324_353, s324_356, s324_357, s324_358, s324_361, s324_362, s324_365, s324_366, s324_367, s324_368, s324_371, s324_372, s324_375, s324_376, s324_377, s324_380, s324_382, s324_385, s324_387, s324_388, s324_390, s324_391, s324_394, s324_395, s324_397, s324_399, s324_401, s324_403, s324_406, s324_409, s324_411, s324_412, s324_413, s324_414, s324_416, s324_418, s324_421, s324_423, s324_425, s324_428, s324_430, s324_431, s324_434, s324_436, s324_439, s324_441, s324_444, s324_445, s324_446, s324_448, s324_450, s324_453, s324_454, s324_455, s324_457, s324_460, s324_461, s324_463, s324_466, s324_467, s324_468, s324_471, s324_472, s324_473, s324_476, s324_477, s324_480, s324_483, s324_484, s324_485, s324_488, s324_489, s324_490, s324_493, s324_496, s324_497, mq_k0s, mq_k1s, mq_k2s, mq_k4s, mq_k5s, mq_k5n, mq_k5as, mq_k6s, mj_pu, mj_lo, mj_br, mj_hr, mj_hw, mq_gf, mq_len, mq_al, mq_pf, mq_ok, mj_re, mq_lkm, mq_lkn, mj_ldi, mj_ldl, mj_lda, mj_ii, mj_ll, mj_li, mj_i1, ms_1, ms_2, f1_n, f1_i, f1_r, f1_u, f1_l, f2_n, f2_i, f2_r, f2_u, f2_l, mj_tg, mj_c1, mj_c2, mj_ar, mj_aw, mq_cb, mq_oi, mj_rm, Value.category, -getElem?_pos, List.getElem?_cons_zero, decide_eq_true, decide_eq_false, nl_lt, nl_le, ln_lt, ln_le, nl_eq, ln_eq, nl_add, ln_add, nl_sub, ln_mul, nI_sub, nI_mul, nI_add, nI_lt_iff, nI_le_iff, nI_inj, nI_num, mq_ix, nI_1, nl_mul, nl_div, wkc_on hx hj, wkl_on hx, wkc_acts hx hj, wkl_acts hx, wkc_limit hx hj, wkl_limit hx, wkc_generation hx hj, wkl_generation hx, wkc_area hx hj, wkl_area hx, wkc_fend hx hj, wkl_fend hx, wkc_master hx hj, wkl_master hx, wkc_pinOf hx hj, wkl_pinOf hx, wkc_tries hx hj, wkl_tries hx, wkc_own hx hj, wkl_own hx, wkc_creds hx hj, wkl_creds hx, wkc_presses hx hj, wkl_presses hx, wkc_taken hx hj, wkl_taken hx, wkc_answered hx hj, wkl_answered hx, wkc_agreeing hx hj, wkl_agreeing hx, wkc_token hx hj, wkl_token hx, wkc_wrong hx hj, wkl_wrong hx, wkc_heard hx hj, wkl_heard hx, wkc_listed hx hj, wkl_listed hx, wkc_listAt hx hj, wkl_listAt hx, wkc_listHash hx hj, wkl_listHash hx, wkc_listFlags hx hj, wkl_listFlags hx, wkc_answerSize hx hj, wkl_answerSize hx, wkc_flash hx hj, wkl_flash hx hj, hpn, p1, e1, narrow]
    · rw [if_neg hpn, if_pos (by decide)]
      refine kO.no (m' := m) (y' := y) (D' := D) ?_ hm hk hc hy rfl (by decide)
      generalize oP (mem ms 6) = v6 at *
      generalize oP (mem ms 5) = v5 at *
      generalize oP (mem ms 4) = v4 at *
      simp (disch := (first | omega | decide)) [S_cb_mmade4_0, S_bx_mcan1_0, S_b8_mkey_1, S_b8_mkey_0, S_b1_mterm_0, S_b1_copy_0, S_b0_mod_7, S_b0_mod_6, S_b0_mod_5, S_b0_mod_3, S_b0_mod_2, S_b0_mod_1, S_b0_mod_0, S_cb_mmade4_1h, S_bx_mcan1_1h, S_b0_mod_4h, s324_0, s324_1, s324_2, s324_3, s324_6, s324_7, s324_8, s324_9, s324_10, s324_13, s324_14, s324_15, s324_16, s324_17, s324_20, s324_22, s324_23, s324_24, s324_25, s324_28, s324_30, s324_31, s324_32, s324_33, s324_36, s324_38, s324_39, s324_40, s324_42, s324_45, s324_47, s324_48, s324_49, s324_50, s324_53, s324_56, s324_57, s324_58, s324_59, s324_62, s324_65, s324_66, s324_68, s324_69, s324_72, s324_75, s324_76, s324_78, s324_79, s324_82, s324_85, s324_86, s324_88, s324_89, s324_92, s324_95, s324_96, s324_98, s324_99, s324_102, s324_105, s324_107, s324_108, s324_109, s324_110, s324_113, s324_114, s324_115, s324_118, s324_120, s324_121, s324_122, s324_123, s324_126, s324_128, s324_129, s324_130, s324_133, s324_134, s324_137, s324_139, s324_140, s324_143, s324_145, s324_146, s324_149, s324_150, s324_151, s324_153, s324_154, s324_157, s324_158, s324_161, s324_164, s324_165, s324_167, s324_168, s324_171, s324_172, s324_175, s324_176, s324_179, s324_181, s324_182, s324_185, s324_186, s324_187, s324_190, s324_191, s324_192, s324_195, s324_198, s324_199, s324_200, s324_201, s324_204, s324_205, s324_206, s324_209, s324_212, s324_213, s324_214, s324_216, s324_217, s324_220, s324_222, s324_223, s324_226, s324_228, s324_229, s324_232, s324_234, s324_235, s324_238, s324_240, s324_241, s324_244, s324_246, s324_247, s324_250, s324_252, s324_253, s324_254, s324_256, s324_259, s324_262, s324_263, s324_264, s324_266, s324_269, s324_270, s324_273, s324_276, s324_277, s324_278, s324_279, s324_280, s324_281, s324_282, s324_284, s324_287, s324_288, s324_291, s324_294, s324_296, s324_298, s324_299, s324_302, s324_303, s324_306, s324_307, s324_308, s324_311, s324_312, s324_314, s324_316, s324_318, s324_319, s324_322, s324_325, s324_327, s324_330, s324_331, s324_332, s324_334, s324_336, s324_339, s324_340, s324_341, s324_344, s324_345, s324_346, s324_349, s324_351, s324_352, s324_353, s324_356, s324_357, s324_358, s324_361, s324_362, s324_365, s324_366, s324_367, s324_368, s324_371, s324_372, s324_375, s324_376, s324_377, s324_380, s324_382, s324_385, s324_387, s324_388, s324_390, s324_391, s324_394, s324_395, s324_397, s324_399, s324_401, s324_403, s324_406, s324_409, s324_411, s324_412, s324_413, s324_414, s324_416, s324_418, s324_421, s324_423, s324_425, s324_428, s324_430, s324_431, s324_434, s324_436, s324_439, s324_441, s324_444, s324_445, s324_446, s324_448, s324_450, s324_453, s324_454, s324_455, s324_457, s324_460, s324_461, s324_463, s324_466, s324_467, s324_468, s324_471, s324_472, s324_473, s324_476, s324_477, s324_480, s324_483, s324_484, s324_485, s324_488, s324_489, s324_490, s324_493, s324_496, s324_497, mq_k0s, mq_k1s, mq_k2s, mq_k4s, mq_k5s, mq_k5n, mq_k5as, mq_k6s, mj_pu, mj_lo, mj_br, mj_hr, mj_hw, mq_gf, mq_len, mq_al, mq_pf, mq_ok, mj_re, mq_lkm, mq_lkn, mj_ldi, mj_ldl, mj_lda, mj_ii, mj_ll, mj_li, mj_i1, ms_1, ms_2, f1_n, f1_i, f1_r, f1_u, f1_l, f2_n, f2_i, f2_r, f2_u, f2_l, mj_tg, mj_c1, mj_c2, mj_ar, mj_aw, mq_cb, mq_oi, mj_rm, Value.category, -getElem?_pos, List.getElem?_cons_zero, decide_eq_true, decide_eq_false, nl_lt, nl_le, ln_lt, ln_le, nl_eq, ln_eq, nl_add, ln_add, nl_sub, ln_mul, nI_sub, nI_mul, nI_add, nI_lt_iff, nI_le_iff, nI_inj, nI_num, mq_ix, nI_1, nl_mul, nl_div, wkc_on hx hj, wkl_on hx, wkc_acts hx hj, wkl_acts hx, wkc_limit hx hj, wkl_limit hx, wkc_generation hx hj, wkl_generation hx, wkc_area hx hj, wkl_area hx, wkc_fend hx hj, wkl_fend hx, wkc_master hx hj, wkl_master hx, wkc_pinOf hx hj, wkl_pinOf hx, wkc_tries hx hj, wkl_tries hx, wkc_own hx hj, wkl_own hx, wkc_creds hx hj, wkl_creds hx, wkc_presses hx hj, wkl_presses hx, wkc_taken hx hj, wkl_taken hx, wkc_answered hx hj, wkl_answered hx, wkc_agreeing hx hj, wkl_agreeing hx, wkc_token hx hj, wkl_token hx, wkc_wrong hx hj, wkl_wrong hx, wkc_heard hx hj, wkl_heard hx, wkc_listed hx hj, wkl_listed hx, wkc_listAt hx hj, wkl_listAt hx, wkc_listHash hx hj, wkl_listHash hx, wkc_listFlags hx hj, wkl_listFlags hx, wkc_answerSize hx hj, wkl_answerSize hx, wkc_flash hx hj, wkl_flash hx hj, hpn, narrow]
  · rw [if_neg h3, if_neg h3]
    obtain ⟨p6, m6⟩ := hwant 6 (by omega) (by omega) (by unfold wantd; simp [S_cb_mmade4_0, S_bx_mcan1_0, S_b8_mkey_1, S_b8_mkey_0, S_b1_mterm_0, S_b1_copy_0, S_b0_mod_7, S_b0_mod_6, S_b0_mod_5, S_b0_mod_3, S_b0_mod_2, S_b0_mod_1, S_b0_mod_0, S_cb_mmade4_1h, S_bx_mcan1_1h, S_b0_mod_4h, h3])
    have i6 := J 6 p6 m6
    have s6 := fit_s f6 (by omega) p6 m6
    have q6 := Io.l9 h i6
    have hin6 := (cbOk_hd.mp i6.ok).2 (Or.inl s6)
    obtain ⟨n, hn8, htn⟩ := hI.tr
    have hw3 := hI.wr
    have kw := hk.wr
    unfold pn_try
    by_cases hpn : k.1.1.1.1.2.2.2.2.2.2.2.2.1 = 0
    · rw [if_pos hpn, if_pos (by decide)]
      refine kO.no (m' := m) (y' := y) (D' := D) ?_ hm hk hc hy rfl (by decide)
      generalize oP (mem ms 6) = v6 at *
      generalize oP (mem ms 5) = v5 at *
      generalize oP (mem ms 4) = v4 at *
      simp (disch := (first | omega | decide)) [S_cb_mmade4_0, S_bx_mcan1_0, S_b8_mkey_1, S_b8_mkey_0, S_b1_mterm_0, S_b1_copy_0, S_b0_mod_7, S_b0_mod_6, S_b0_mod_5, S_b0_mod_3, S_b0_mod_2, S_b0_mod_1, S_b0_mod_0, S_cb_mmade4_1h, S_bx_mcan1_1h, S_b0_mod_4h, s324_0, s324_1, s324_2, s324_3, s324_6, s324_7, s324_8, s324_9, s324_10, s324_13, s324_14, s324_15, s324_16, s324_17, s324_20, s324_22, s324_23, s324_24, s324_25, s324_28, s324_30, s324_31, s324_32, s324_33, s324_36, s324_38, s324_39, s324_40, s324_42, s324_45, s324_47, s324_48, s324_49, s324_50, s324_53, s324_56, s324_57, s324_58, s324_59, s324_62, s324_65, s324_66, s324_68, s324_69, s324_72, s324_75, s324_76, s324_78, s324_79, s324_82, s324_85, s324_86, s324_88, s324_89, s324_92, s324_95, s324_96, s324_98, s324_99, s324_102, s324_105, s324_107, s324_108, s324_109, s324_110, s324_113, s324_114, s324_115, s324_118, s324_120, s324_121, s324_122, s324_123, s324_126, s324_128, s324_129, s324_130, s324_133, s324_134, s324_137, s324_139, s324_140, s324_143, s324_145, s324_146, s324_149, s324_150, s324_151, s324_153, s324_154, s324_157, s324_158, s324_161, s324_164, s324_165, s324_167, s324_168, s324_171, s324_172, s324_175, s324_176, s324_179, s324_181, s324_182, s324_185, s324_186, s324_187, s324_190, s324_191, s324_192, s324_195, s324_198, s324_199, s324_200, s324_201, s324_204, s324_205, s324_206, s324_209, s324_212, s324_213, s324_214, s324_216, s324_217, s324_220, s324_222, s324_223, s324_226, s324_228, s324_229, s324_232, s324_234, s324_235, s324_238, s324_240, s324_241, s324_244, s324_246, s324_247, s324_250, s324_252, s324_253, s324_254, s324_256, s324_259, s324_262, s324_263, s324_264, s324_266, s324_269, s324_270, s324_273, s324_276, s324_277, s324_278, s324_279, s324_280, s324_281, s324_282, s324_284, s324_287, s324_288, s324_291, s324_294, s324_296, s324_298, s324_299, s324_302, s324_303, s324_306, s324_307, s324_308, s324_311, s324_312, s324_314, s324_316, s324_318, s324_319, s324_322, s324_325, s324_327, s324_330, s324_331, s324_332, s324_334, s324_336, s324_339, s324_340, s324_341, s324_344, s324_345, s324_346, s324_349, s324_351, s324_352, s324_353, s324_356, s324_357, s324_358, s324_361, s324_362, s324_365, s324_366, s324_367, s324_368, s324_371, s324_372, s324_375, s324_376, s324_377, s324_380, s324_382, s324_385, s324_387, s324_388, s324_390, s324_391, s324_394, s324_395, s324_397, s324_399, s324_401, s324_403, s324_406, s324_409, s324_411, s324_412, s324_413, s324_414, s324_416, s324_418, s324_421, s324_423, s324_425, s324_428, s324_430, s324_431, s324_434, s324_436, s324_439, s324_441, s324_444, s324_445, s324_446, s324_448, s324_450, s324_453, s324_454, s324_455, s324_457, s324_460, s324_461, s324_463, s324_466, s324_467, s324_468, s324_471, s324_472, s324_473, s324_476, s324_477, s324_480, s324_483, s324_484, s324_485, s324_488, s324_489, s324_490, s324_493, s324_496, s324_497, mq_k0s, mq_k1s, mq_k2s, mq_k4s, mq_k5s, mq_k5n, mq_k5as, mq_k6s, mj_pu, mj_lo, mj_br, mj_hr, mj_hw, mq_gf, mq_len, mq_al, mq_pf, mq_ok, mj_re, mq_lkm, mq_lkn, mj_ldi, mj_ldl, mj_lda, mj_ii, mj_ll, mj_li, mj_i1, ms_1, ms_2, f1_n, f1_i, f1_r, f1_u, f1_l, f2_n, f2_i, f2_r, f2_u, f2_l, mj_tg, mj_c1, mj_c2, mj_ar, mj_aw, mq_cb, mq_oi, mj_rm, Value.category, -getElem?_pos, List.getElem?_cons_zero, decide_eq_true, decide_eq_false, nl_lt, nl_le, ln_lt, ln_le, nl_eq, ln_eq, nl_add, ln_add, nl_sub, ln_mul, nI_sub, nI_mul, nI_add, nI_lt_iff, nI_le_iff, nI_inj, nI_num, mq_ix, nI_1, nl_mul, nl_div, wkc_on hx hj, wkl_on hx, wkc_acts hx hj, wkl_acts hx, wkc_limit hx hj, wkl_limit hx, wkc_generation hx hj, wkl_generation hx, wkc_area hx hj, wkl_area hx, wkc_fend hx hj, wkl_fend hx, wkc_master hx hj, wkl_master hx, wkc_pinOf hx hj, wkl_pinOf hx, wkc_tries hx hj, wkl_tries hx, wkc_own hx hj, wkl_own hx, wkc_creds hx hj, wkl_creds hx, wkc_presses hx hj, wkl_presses hx, wkc_taken hx hj, wkl_taken hx, wkc_answered hx hj, wkl_answered hx, wkc_agreeing hx hj, wkl_agreeing hx, wkc_token hx hj, wkl_token hx, wkc_wrong hx hj, wkl_wrong hx, wkc_heard hx hj, wkl_heard hx, wkc_listed hx hj, wkl_listed hx, wkc_listAt hx hj, wkl_listAt hx, wkc_listHash hx hj, wkl_listHash hx, wkc_listFlags hx hj, wkl_listFlags hx, wkc_answerSize hx hj, wkl_answerSize hx, wkc_flash hx hj, wkl_flash hx hj, hpn, h3, narrow]
    rw [if_neg hpn]
    by_cases htr : k.1.1.1.1.2.2.2.2.2.2.2.2.2.1 = 0
    · rw [if_pos htr, if_pos (by decide)]
      refine kO.no (m' := m) (y' := y) (D' := D) ?_ hm hk hc hy rfl (by decide)
      generalize oP (mem ms 6) = v6 at *
      generalize oP (mem ms 5) = v5 at *
      generalize oP (mem ms 4) = v4 at *
      simp (disch := (first | omega | decide)) [S_cb_mmade4_0, S_bx_mcan1_0, S_b8_mkey_1, S_b8_mkey_0, S_b1_mterm_0, S_b1_copy_0, S_b0_mod_7, S_b0_mod_6, S_b0_mod_5, S_b0_mod_3, S_b0_mod_2, S_b0_mod_1, S_b0_mod_0, S_cb_mmade4_1h, S_bx_mcan1_1h, S_b0_mod_4h, s324_0, s324_1, s324_2, s324_3, s324_6, s324_7, s324_8, s324_9, s324_10, s324_13, s324_14, s324_15, s324_16, s324_17, s324_20, s324_22, s324_23, s324_24, s324_25, s324_28, s324_30, s324_31, s324_32, s324_33, s324_36, s324_38, s324_39, s324_40, s324_42, s324_45, s324_47, s324_48, s324_49, s324_50, s324_53, s324_56, s324_57, s324_58, s324_59, s324_62, s324_65, s324_66, s324_68, s324_69, s324_72, s324_75, s324_76, s324_78, s324_79, s324_82, s324_85, s324_86, s324_88, s324_89, s324_92, s324_95, s324_96, s324_98, s324_99, s324_102, s324_105, s324_107, s324_108, s324_109, s324_110, s324_113, s324_114, s324_115, s324_118, s324_120, s324_121, s324_122, s324_123, s324_126, s324_128, s324_129, s324_130, s324_133, s324_134, s324_137, s324_139, s324_140, s324_143, s324_145, s324_146, s324_149, s324_150, s324_151, s324_153, s324_154, s324_157, s324_158, s324_161, s324_164, s324_165, s324_167, s324_168, s324_171, s324_172, s324_175, s324_176, s324_179, s324_181, s324_182, s324_185, s324_186, s324_187, s324_190, s324_191, s324_192, s324_195, s324_198, s324_199, s324_200, s324_201, s324_204, s324_205, s324_206, s324_209, s324_212, s324_213, s324_214, s324_216, s324_217, s324_220, s324_222, s324_223, s324_226, s324_228, s324_229, s324_232, s324_234, s324_235, s324_238, s324_240, s324_241, s324_244, s324_246, s324_247, s324_250, s324_252, s324_253, s324_254, s324_256, s324_259, s324_262, s324_263, s324_264, s324_266, s324_269, s324_270, s324_273, s324_276, s324_277, s324_278, s324_279, s324_280, s324_281, s324_282, s324_284, s324_287, s324_288, s324_291, s324_294, s324_296, s324_298, s324_299, s324_302, s324_303, s324_306, s324_307, s324_308, s324_311, s324_312, s324_314, s324_316, s324_318, s324_319, s324_322, s324_325, s324_327, s324_330, s324_331, s324_332, s324_334, s324_336, s324_339, s324_340, s324_341, s324_344, s324_345, s324_346, s324_349, s324_351, s324_352, s324_353, s324_356, s324_357, s324_358, s324_361, s324_362, s324_365, s324_366, s324_367, s324_368, s324_371, s324_372, s324_375, s324_376, s324_377, s324_380, s324_382, s324_385, s324_387, s324_388, s324_390, s324_391, s324_394, s324_395, s324_397, s324_399, s324_401, s324_403, s324_406, s324_409, s324_411, s324_412, s324_413, s324_414, s324_416, s324_418, s324_421, s324_423, s324_425, s324_428, s324_430, s324_431, s324_434, s324_436, s324_439, s324_441, s324_444, s324_445, s324_446, s324_448, s324_450, s324_453, s324_454, s324_455, s324_457, s324_460, s324_461, s324_463, s324_466, s324_467, s324_468, s324_471, s324_472, s324_473, s324_476, s324_477, s324_480, s324_483, s324_484, s324_485, s324_488, s324_489, s324_490, s324_493, s324_496, s324_497, mq_k0s, mq_k1s, mq_k2s, mq_k4s, mq_k5s, mq_k5n, mq_k5as, mq_k6s, mj_pu, mj_lo, mj_br, mj_hr, mj_hw, mq_gf, mq_len, mq_al, mq_pf, mq_ok, mj_re, mq_lkm, mq_lkn, mj_ldi, mj_ldl, mj_lda, mj_ii, mj_ll, mj_li, mj_i1, ms_1, ms_2, f1_n, f1_i, f1_r, f1_u, f1_l, f2_n, f2_i, f2_r, f2_u, f2_l, mj_tg, mj_c1, mj_c2, mj_ar, mj_aw, mq_cb, mq_oi, mj_rm, Value.category, -getElem?_pos, List.getElem?_cons_zero, decide_eq_true, decide_eq_false, nl_lt, nl_le, ln_lt, ln_le, nl_eq, ln_eq, nl_add, ln_add, nl_sub, ln_mul, nI_sub, nI_mul, nI_add, nI_lt_iff, nI_le_iff, nI_inj, nI_num, mq_ix, nI_1, nl_mul, nl_div, wkc_on hx hj, wkl_on hx, wkc_acts hx hj, wkl_acts hx, wkc_limit hx hj, wkl_limit hx, wkc_generation hx hj, wkl_generation hx, wkc_area hx hj, wkl_area hx, wkc_fend hx hj, wkl_fend hx, wkc_master hx hj, wkl_master hx, wkc_pinOf hx hj, wkl_pinOf hx, wkc_tries hx hj, wkl_tries hx, wkc_own hx hj, wkl_own hx, wkc_creds hx hj, wkl_creds hx, wkc_presses hx hj, wkl_presses hx, wkc_taken hx hj, wkl_taken hx, wkc_answered hx hj, wkl_answered hx, wkc_agreeing hx hj, wkl_agreeing hx, wkc_token hx hj, wkl_token hx, wkc_wrong hx hj, wkl_wrong hx, wkc_heard hx hj, wkl_heard hx, wkc_listed hx hj, wkl_listed hx, wkc_listAt hx hj, wkl_listAt hx, wkc_listHash hx hj, wkl_listHash hx, wkc_listFlags hx hj, wkl_listFlags hx, wkc_answerSize hx hj, wkl_answerSize hx, wkc_flash hx hj, wkl_flash hx hj, hpn, h3, htr, narrow]
    rw [if_neg htr]
    by_cases hwr : 3 ≤ k.2.1.1.2
    · rw [if_pos hwr, if_pos (by decide)]
      refine kO.no (m' := m) (y' := y) (D' := D) ?_ hm hk hc hy rfl (by decide)
      rw [show k.2.1.1.2 = 3 by omega] at kw
      generalize oP (mem ms 6) = v6 at *
      generalize oP (mem ms 5) = v5 at *
      generalize oP (mem ms 4) = v4 at *
      simp (disch := (first | omega | decide)) [S_cb_mmade4_0, S_bx_mcan1_0, S_b8_mkey_1, S_b8_mkey_0, S_b1_mterm_0, S_b1_copy_0, S_b0_mod_7, S_b0_mod_6, S_b0_mod_5, S_b0_mod_3, S_b0_mod_2, S_b0_mod_1, S_b0_mod_0, S_cb_mmade4_1h, S_bx_mcan1_1h, S_b0_mod_4h, s324_0, s324_1, s324_2, s324_3, s324_6, s324_7, s324_8, s324_9, s324_10, s324_13, s324_14, s324_15, s324_16, s324_17, s324_20, s324_22, s324_23, s324_24, s324_25, s324_28, s324_30, s324_31, s324_32, s324_33, s324_36, s324_38, s324_39, s324_40, s324_42, s324_45, s324_47, s324_48, s324_49, s324_50, s324_53, s324_56, s324_57, s324_58, s324_59, s324_62, s324_65, s324_66, s324_68, s324_69, s324_72, s324_75, s324_76, s324_78, s324_79, s324_82, s324_85, s324_86, s324_88, s324_89, s324_92, s324_95, s324_96, s324_98, s324_99, s324_102, s324_105, s324_107, s324_108, s324_109, s324_110, s324_113, s324_114, s324_115, s324_118, s324_120, s324_121, s324_122, s324_123, s324_126, s324_128, s324_129, s324_130, s324_133, s324_134, s324_137, s324_139, s324_140, s324_143, s324_145, s324_146, s324_149, s324_150, s324_151, s324_153, s324_154, s324_157, s324_158, s324_161, s324_164, s324_165, s324_167, s324_168, s324_171, s324_172, s324_175, s324_176, s324_179, s324_181, s324_182, s324_185, s324_186, s324_187, s324_190, s324_191, s324_192, s324_195, s324_198, s324_199, s324_200, s324_201, s324_204, s324_205, s324_206, s324_209, s324_212, s324_213, s324_214, s324_216, s324_217, s324_220, s324_222, s324_223, s324_226, s324_228, s324_229, s324_232, s324_234, s324_235, s324_238, s324_240, s324_241, s324_244, s324_246, s324_247, s324_250, s324_252, s324_253, s324_254, s324_256, s324_259, s324_262, s324_263, s324_264, s324_266, s324_269, s324_270, s324_273, s324_276, s324_277, s324_278, s324_279, s324_280, s324_281, s324_282, s324_284, s324_287, s324_288, s324_291, s324_294, s324_296, s324_298, s324_299, s324_302, s324_303, s324_306, s324_307, s324_308, s324_311, s324_312, s324_314, s324_316, s324_318, s324_319, s324_322, s324_325, s324_327, s324_330, s324_331, s324_332, s324_334, s324_336, s324_339, s324_340, s324_341, s324_344, s324_345, s324_346, s324_349, s324_351, s324_352, s324_353, s324_356, s324_357, s324_358, s324_361, s324_362, s324_365, s324_366, s324_367, s324_368, s324_371, s324_372, s324_375, s324_376, s324_377, s324_380, s324_382, s324_385, s324_387, s324_388, s324_390, s324_391, s324_394, s324_395, s324_397, s324_399, s324_401, s324_403, s324_406, s324_409, s324_411, s324_412, s324_413, s324_414, s324_416, s324_418, s324_421, s324_423, s324_425, s324_428, s324_430, s324_431, s324_434, s324_436, s324_439, s324_441, s324_444, s324_445, s324_446, s324_448, s324_450, s324_453, s324_454, s324_455, s324_457, s324_460, s324_461, s324_463, s324_466, s324_467, s324_468, s324_471, s324_472, s324_473, s324_476, s324_477, s324_480, s324_483, s324_484, s324_485, s324_488, s324_489, s324_490, s324_493, s324_496, s324_497, mq_k0s, mq_k1s, mq_k2s, mq_k4s, mq_k5s, mq_k5n, mq_k5as, mq_k6s, mj_pu, mj_lo, mj_br, mj_hr, mj_hw, mq_gf, mq_len, mq_al, mq_pf, mq_ok, mj_re, mq_lkm, mq_lkn, mj_ldi, mj_ldl, mj_lda, mj_ii, mj_ll, mj_li, mj_i1, ms_1, ms_2, f1_n, f1_i, f1_r, f1_u, f1_l, f2_n, f2_i, f2_r, f2_u, f2_l, mj_tg, mj_c1, mj_c2, mj_ar, mj_aw, mq_cb, mq_oi, mj_rm, Value.category, -getElem?_pos, List.getElem?_cons_zero, decide_eq_true, decide_eq_false, nl_lt, nl_le, ln_lt, ln_le, nl_eq, ln_eq, nl_add, ln_add, nl_sub, ln_mul, nI_sub, nI_mul, nI_add, nI_lt_iff, nI_le_iff, nI_inj, nI_num, mq_ix, nI_1, nl_mul, nl_div, wkc_on hx hj, wkl_on hx, wkc_acts hx hj, wkl_acts hx, wkc_limit hx hj, wkl_limit hx, wkc_generation hx hj, wkl_generation hx, wkc_area hx hj, wkl_area hx, wkc_fend hx hj, wkl_fend hx, wkc_master hx hj, wkl_master hx, wkc_pinOf hx hj, wkl_pinOf hx, wkc_tries hx hj, wkl_tries hx, wkc_own hx hj, wkl_own hx, wkc_creds hx hj, wkl_creds hx, wkc_presses hx hj, wkl_presses hx, wkc_taken hx hj, wkl_taken hx, wkc_answered hx hj, wkl_answered hx, wkc_agreeing hx hj, wkl_agreeing hx, wkc_token hx hj, wkl_token hx, wkc_wrong hx hj, wkl_wrong hx, wkc_heard hx hj, wkl_heard hx, wkc_listed hx hj, wkl_listed hx, wkc_listAt hx hj, wkl_listAt hx, wkc_listHash hx hj, wkl_listHash hx, wkc_listFlags hx hj, wkl_listFlags hx, wkc_answerSize hx hj, wkl_answerSize hx, wkc_flash hx hj, wkl_flash hx hj, hpn, h3, htr, kw, narrow]
    rw [if_neg hwr, if_neg (fun z => z rfl)]
    obtain ⟨n', rfl⟩ : ∃ n', n = n' + 1 := by
      cases n with
      | zero => exact absurd htn htr
      | succ n => exact ⟨n, rfl⟩
    have hw2 : k.2.1.1.2 ≤ 2 := by omega
    have hwn : ¬ k.2.1.1.2 = 3 := by omega
    -- from the trying on
    have late : ∀ (y1 : Sy) (D1 : List Int32), yz y1 T D1 O → (st = 4 → sh ≠ 0) → kO B x j m k.1.1.1.2 O (pn_then ms st sh (ky_tryPin ms k T (nI sh))) (mj_Rn (d + 7) mj_m324 412 [(9, .int (nI sh)), (8, .int (nI st)), (7, .int (oP (mem ms 6))), (6, .int (oP (mem ms 5))), (5, .int (oP (mem ms 4))), (0, .ref 67), (1, .int (nI j))] [] (mm B (x.wk j k.1.1.1.1 m) y1)) := by
      intro y1 D1 z1 hs4
      have tp := q_tryPin (d := d) (B := B) (x := x) (y := y1) (g := g + 1) h hx hj hm hk hI hc z1 hon hT9 hsh htn hn8 hw2 i6 s6 m6
      obtain ⟨v, m1, y2, D2, O2, e1, w1, kr1, cf1, z2, ml1, on1', off1⟩ := tp
      have hIq : (ky_tryPin ms k T (nI sh)).2.1.1.1.1.1.2.1 = true → kI (ky_tryPin ms k T (nI sh)).2.1 (g + 1) ∧ (ky_tryPin ms k T (nI sh)).2.1.2.1.1.1 = k.2.1.1.1 ∧ (ky_tryPin ms k T (nI sh)).2.1.1.1.1.2 = k.1.1.1.2 := by
        intro _
        have et : k.1.1.1.1.2.2.2.2.2.2.2.2.2.1 - 1 = nI n' := by rw [htn, nl_sub (by omega)]; rfl
        have a1 : kI (pn_k1 k) (g + 2) := by
          unfold pn_k1
          rw [et]
          exact kI_rcn hI (Or.inr (Or.inl ⟨rfl, n', by omega, rfl⟩))
        unfold ky_tryPin
        split
        · exact ⟨a1.le (by omega), rfl, rfl⟩
        · split
          · have a2 : kI (ky_w (pn_k1 k) (rcn 3 8 0)) (g + 1) := kI_rcn a1 (Or.inr (Or.inl ⟨rfl, 8, by omega, rfl⟩))
            exact ⟨(kI_mk_ a2.w9 (by dsimp only; omega) a2.w a2.cr a2.gn a2.tr), rfl, rfl⟩
          · exact ⟨(kI_mk_ a1.w9 (by dsimp only; omega) a1.w a1.cr (by have := a1.gn; dsimp only; omega) a1.tr), rfl, rfl⟩
      have hT' : (ky_tryPin ms k T (nI sh)).2.2.1 = T.1 := by
        unfold ky_tryPin
        split
        · rfl
        · split <;> rfl
      generalize hq : ky_tryPin ms k T (nI sh) = q at *
      obtain ⟨q1, q2, q3⟩ := q
      dsimp only at e1 w1 kr1 cf1 z2 on1' off1 hIq hT'
      have to423 : ∀ r, mj_Rn (d + 7) mj_m324 423 [(10, .int v), (9, .int (nI sh)), (8, .int (nI st)), (6, .int (oP (mem ms 5))), (0, .ref 67), (1, .int (nI j))] [] (mm B (x.wk j q2.1.1.1.1 m1) y2) = some r → mj_Rn (d + 7) mj_m324 412 [(9, .int (nI sh)), (8, .int (nI st)), (7, .int (oP (mem ms 6))), (6, .int (oP (mem ms 5))), (5, .int (oP (mem ms 4))), (0, .ref 67), (1, .int (nI j))] [] (mm B (x.wk j k.1.1.1.1 m) y1) = some r := by
        intro r hr
        rw [m6, show oP (some p6) = nI p6 from rfl]
        generalize oP (mem ms 5) = v5 at *
        generalize oP (mem ms 4) = v4 at *
        simp (disch := (first | omega | decide)) [S_cb_mmade4_0, S_bx_mcan1_0, S_b8_mkey_1, S_b8_mkey_0, S_b1_mterm_0, S_b1_copy_0, S_b0_mod_7, S_b0_mod_6, S_b0_mod_5, S_b0_mod_3, S_b0_mod_2, S_b0_mod_1, S_b0_mod_0, S_cb_mmade4_1h, S_bx_mcan1_1h, S_b0_mod_4h, s324_0, s324_1, s324_2, s324_3, s324_6, s324_7, s324_8, s324_9, s324_10, s324_13, s324_14, s324_15, s324_16, s324_17, s324_20, s324_22, s324_23, s324_24, s324_25, s324_28, s324_30, s324_31, s324_32, s324_33, s324_36, s324_38, s324_39, s324_40, s324_42, s324_45, s324_47, s324_48, s324_49, s324_50, s324_53, s324_56, s324_57, s324_58, s324_59, s324_62, s324_65, s324_66, s324_68, s324_69, s324_72, s324_75, s324_76, s324_78, s324_79, s324_82, s324_85, s324_86, s324_88, s324_89, s324_92, s324_95, s324_96, s324_98, s324_99, s324_102, s324_105, s324_107, s324_108, s324_109, s324_110, s324_113, s324_114, s324_115, s324_118, s324_120, s324_121, s324_122, s324_123, s324_126, s324_128, s324_129, s324_130, s324_133, s324_134, s324_137, s324_139, s324_140, s324_143, s324_145, s324_146, s324_149, s324_150, s324_151, s324_153, s324_154, s324_157, s324_158, s324_161, s324_164, s324_165, s324_167, s324_168, s324_171, s324_172, s324_175, s324_176, s324_179, s324_181, s324_182, s324_185, s324_186, s324_187, s324_190, s324_191, s324_192, s324_195, s324_198, s324_199, s324_200, s324_201, s324_204, s324_205, s324_206, s324_209, s324_212, s324_213, s324_214, s324_216, s324_217, s324_220, s324_222, s324_223, s324_226, s324_228, s324_229, s324_232, s324_234, s324_235, s324_238, s324_240, s324_241, s324_244, s324_246, s324_247, s324_250, s324_252, s324_253, s324_254, s324_256, s324_259, s324_262, s324_263, s324_264, s324_266, s324_269, s324_270, s324_273, s324_276, s324_277, s324_278, s324_279, s324_280, s324_281, s324_282, s324_284, s324_287, s324_288, s324_291, s324_294, s324_296, s324_298, s324_299, s324_302, s324_303, s324_306, s324_307, s324_308, s324_311, s324_312, s324_314, s324_316, s324_318, s324_319, s324_322, s324_325, s324_327, s324_330, s324_331, s324_332, s324_334, s324_336, s324_339, s324_340, s324_341, s324_344, s324_345, s324_346, s324_349, s324_351, s324_352, s324_353, s324_356, s324_357, s324_358, s324_361, s324_362, s324_365, s324_366, s324_367, s324_368, s324_371, s324_372, s324_375, s324_376, s324_377, s324_380, s324_382, s324_385, s324_387, s324_388, s324_390, s324_391, s324_394, s324_395, s324_397, s324_399, s324_401, s324_403, s324_406, s324_409, s324_411, s324_412, s324_413, s324_414, s324_416, s324_418, s324_421, s324_425, s324_428, s324_430, s324_431, s324_434, s324_436, s324_439, s324_441, s324_444, s324_445, s324_446, s324_448, s324_450, s324_453, s324_454, s324_455, s324_457, s324_460, s324_461, s324_463, s324_466, s324_467, s324_468, s324_471, s324_472, s324_473, s324_476, s324_477, s324_480, s324_483, s324_484, s324_485, s324_488, s324_489, s324_490, s324_493, s324_496, s324_497, mq_k0s, mq_k1s, mq_k2s, mq_k4s, mq_k5s, mq_k5n, mq_k5as, mq_k6s, mj_pu, mj_lo, mj_br, mj_hr, mj_hw, mq_gf, mq_len, mq_al, mq_pf, mq_ok, mj_re, mq_lkm, mq_lkn, mj_ldi, mj_ldl, mj_lda, mj_ii, mj_ll, mj_li, mj_i1, ms_1, ms_2, f1_n, f1_i, f1_r, f1_u, f1_l, f2_n, f2_i, f2_r, f2_u, f2_l, mj_tg, mj_c1, mj_c2, mj_ar, mj_aw, mq_cb, mq_oi, mj_rm, Value.category, -getElem?_pos, List.getElem?_cons_zero, decide_eq_true, decide_eq_false, nl_lt, nl_le, ln_lt, ln_le, nl_eq, ln_eq, nl_add, ln_add, nl_sub, ln_mul, nI_sub, nI_mul, nI_add, nI_lt_iff, nI_le_iff, nI_inj, nI_num, mq_ix, nI_1, nl_mul, nl_div, e1]
        refine mq_wk ?_ hr
        simp [S_cb_mmade4_0, S_bx_mcan1_0, S_b8_mkey_1, S_b8_mkey_0, S_b1_mterm_0, S_b1_copy_0, S_b0_mod_7, S_b0_mod_6, S_b0_mod_5, S_b0_mod_3, S_b0_mod_2, S_b0_mod_1, S_b0_mod_0, S_cb_mmade4_1h, S_bx_mcan1_1h, S_b0_mod_4h, mq_sub, mj_lk]
      unfold pn_then
      dsimp only
      have hst4 : 3 < st := by omega
      by_cases hbad : q1 ≠ 0 ∨ q2.1.1.1.1.2.1 = false
      · rw [if_pos hbad]
        have hv : v ≠ 0 := by
          cases ho : q2.1.1.1.1.2.1 with
          | false => exact off1 ho
          | true =>
            rcases hbad with z | z
            · rw [(on1' ho).1]; exact z
            · rw [ho] at z; cases z
        refine ⟨v, m1, y2, D2, O2, to423 _ ?_, w1, kr1, cf1, z2, ml1, on1'⟩
        generalize oP (mem ms 5) = v5 at *
        simp (disch := (first | omega | decide)) [S_cb_mmade4_0, S_bx_mcan1_0, S_b8_mkey_1, S_b8_mkey_0, S_b1_mterm_0, S_b1_copy_0, S_b0_mod_7, S_b0_mod_6, S_b0_mod_5, S_b0_mod_3, S_b0_mod_2, S_b0_mod_1, S_b0_mod_0, S_cb_mmade4_1h, S_bx_mcan1_1h, S_b0_mod_4h, s324_0, s324_1, s324_2, s324_3, s324_6, s324_7, s324_8, s324_9, s324_10, s324_13, s324_14, s324_15, s324_16, s324_17, s324_20, s324_22, s324_23, s324_24, s324_25, s324_28, s324_30, s324_31, s324_32, s324_33, s324_36, s324_38, s324_39, s324_40, s324_42, s324_45, s324_47, s324_48, s324_49, s324_50, s324_53, s324_56, s324_57, s324_58, s324_59, s324_62, s324_65, s324_66, s324_68, s324_69, s324_72, s324_75, s324_76, s324_78, s324_79, s324_82, s324_85, s324_86, s324_88, s324_89, s324_92, s324_95, s324_96, s324_98, s324_99, s324_102, s324_105, s324_107, s324_108, s324_109, s324_110, s324_113, s324_114, s324_115, s324_118, s324_120, s324_121, s324_122, s324_123, s324_126, s324_128, s324_129, s324_130, s324_133, s324_134, s324_137, s324_139, s324_140, s324_143, s324_145, s324_146, s324_149, s324_150, s324_151, s324_153, s324_154, s324_157, s324_158, s324_161, s324_164, s324_165, s324_167, s324_168, s324_171, s324_172, s324_175, s324_176, s324_179, s324_181, s324_182, s324_185, s324_186, s324_187, s324_190, s324_191, s324_192, s324_195, s324_198, s324_199, s324_200, s324_201, s324_204, s324_205, s324_206, s324_209, s324_212, s324_213, s324_214, s324_216, s324_217, s324_220, s324_222, s324_223, s324_226, s324_228, s324_229, s324_232, s324_234, s324_235, s324_238, s324_240, s324_241, s324_244, s324_246, s324_247, s324_250, s324_252, s324_253, s324_254, s324_256, s324_259, s324_262, s324_263, s324_264, s324_266, s324_269, s324_270, s324_273, s324_276, s324_277, s324_278, s324_279, s324_280, s324_281, s324_282, s324_284, s324_287, s324_288, s324_291, s324_294, s324_296, s324_298, s324_299, s324_302, s324_303, s324_306, s324_307, s324_308, s324_311, s324_312, s324_314, s324_316, s324_318, s324_319, s324_322, s324_325, s324_327, s324_330, s324_331, s324_332, s324_334, s324_336, s324_339, s324_340, s324_341, s324_344, s324_345, s324_346, s324_349, s324_351, s324_352, s324_353, s324_356, s324_357, s324_358, s324_361, s324_362, s324_365, s324_366, s324_367, s324_368, s324_371, s324_372, s324_375, s324_376, s324_377, s324_380, s324_382, s324_385, s324_387, s324_388, s324_390, s324_391, s324_394, s324_395, s324_397, s324_399, s324_401, s324_403, s324_406, s324_409, s324_411, s324_412, s324_413, s324_414, s324_416, s324_418, s324_421, s324_423, s324_425, s324_428, s324_430, s324_431, s324_434, s324_436, s324_439, s324_441, s324_444, s324_445, s324_446, s324_448, s324_450, s324_453, s324_454, s324_455, s324_457, s324_460, s324_461, s324_463, s324_466, s324_467, s324_468, s324_471, s324_472, s324_473, s324_476, s324_477, s324_480, s324_483, s324_484, s324_485, s324_488, s324_489, s324_490, s324_493, s324_496, s324_497, mq_k0s, mq_k1s, mq_k2s, mq_k4s, mq_k5s, mq_k5n, mq_k5as, mq_k6s, mj_pu, mj_lo, mj_br, mj_hr, mj_hw, mq_gf, mq_len, mq_al, mq_pf, mq_ok, mj_re, mq_lkm, mq_lkn, mj_ldi, mj_ldl, mj_lda, mj_ii, mj_ll, mj_li, mj_i1, ms_1, ms_2, f1_n, f1_i, f1_r, f1_u, f1_l, f2_n, f2_i, f2_r, f2_u, f2_l, mj_tg, mj_c1, mj_c2, mj_ar, mj_aw, mq_cb, mq_oi, mj_rm, Value.category, -getElem?_pos, List.getElem?_cons_zero, decide_eq_true, decide_eq_false, nl_lt, nl_le, ln_lt, ln_le, nl_eq, ln_eq, nl_add, ln_add, nl_sub, ln_mul, nI_sub, nI_mul, nI_add, nI_lt_iff, nI_le_iff, nI_inj, nI_num, mq_ix, nI_1, nl_mul, nl_div, hv, narrow]
      · rw [if_neg hbad]
        simp only [not_or, Bool.not_eq_false, Decidable.not_not] at hbad
        obtain ⟨hq1, hon2⟩ := hbad
        obtain ⟨hv, hX2⟩ := on1' hon2
        rw [hq1] at hv
        obtain ⟨X, hX2, hrep⟩ := hX2 hq1
        obtain ⟨hI2, htok, hre2⟩ := hIq hon2
        have hXn : X = [] := by
          rw [hre2] at hrep
          exact List.self_eq_append_right.mp hrep
        by_cases hs5 : st = 4
        · rw [if_pos hs5]
          obtain ⟨p5, m5⟩ := hwant 5 (by omega) (by omega) (by unfold wantd; simp [S_cb_mmade4_0, S_bx_mcan1_0, S_b8_mkey_1, S_b8_mkey_0, S_b1_mterm_0, S_b1_copy_0, S_b0_mod_7, S_b0_mod_6, S_b0_mod_5, S_b0_mod_3, S_b0_mod_2, S_b0_mod_1, S_b0_mod_0, S_cb_mmade4_1h, S_bx_mcan1_1h, S_b0_mod_4h, hs5])
          have i5 := J 5 p5 m5
          have s5 := fit_s f5 (by omega) p5 m5
          have hT8' : tk8 q3 := (tk8_mk_ (by rw [hT']; exact hT8.w8) (by rw [hT']; exact hT8.p2) (by rw [hT']; exact hT8.e4) (by rw [hT']; exact hT8.s9))
          have np := q_newPin (d := d) (B := B) (x := x) (y := y2) (k := q2) (g := g) h hx hj w1 kr1 hI2 cf1 z2 hT8' (by rw [hT']; omega) (hs4 hs5) hsh i5 s5 m5
          obtain ⟨v3, m3, y3, D3, O3, e3, w3, kr3, cf3, z3, ml3, on3⟩ := np
          refine ⟨v3, m3, y3, D3, O3, to423 _ ?_, w3, kr3, cf3, z3, ml3.trans ml1, fun ho => ⟨(on3 ho).1, fun hz => ?_⟩⟩
          · rw [hv, hs5, m5, show oP (some p5) = nI p5 from rfl]
            generalize mm B (x.wk j (ky_newPin ms q2 q3 (nI sh)).2.1.1.1.1.1 m3) y3 = E at *
            simp (disch := (first | omega | decide)) [S_cb_mmade4_0, S_bx_mcan1_0, S_b8_mkey_1, S_b8_mkey_0, S_b1_mterm_0, S_b1_copy_0, S_b0_mod_7, S_b0_mod_6, S_b0_mod_5, S_b0_mod_3, S_b0_mod_2, S_b0_mod_1, S_b0_mod_0, S_cb_mmade4_1h, S_bx_mcan1_1h, S_b0_mod_4h, s324_0, s324_1, s324_2, s324_3, s324_6, s324_7, s324_8, s324_9, s324_10, s324_13, s324_14, s324_15, s324_16, s324_17, s324_20, s324_22, s324_23, s324_24, s324_25, s324_28, s324_30, s324_31, s324_32, s324_33, s324_36, s324_38, s324_39, s324_40, s324_42, s324_45, s324_47, s324_48, s324_49, s324_50, s324_53, s324_56, s324_57, s324_58, s324_59, s324_62, s324_65, s324_66, s324_68, s324_69, s324_72, s324_75, s324_76, s324_78, s324_79, s324_82, s324_85, s324_86, s324_88, s324_89, s324_92, s324_95, s324_96, s324_98, s324_99, s324_102, s324_105, s324_107, s324_108, s324_109, s324_110, s324_113, s324_114, s324_115, s324_118, s324_120, s324_121, s324_122, s324_123, s324_126, s324_128, s324_129, s324_130, s324_133, s324_134, s324_137, s324_139, s324_140, s324_143, s324_145, s324_146, s324_149, s324_150, s324_151, s324_153, s324_154, s324_157, s324_158, s324_161, s324_164, s324_165, s324_167, s324_168, s324_171, s324_172, s324_175, s324_176, s324_179, s324_181, s324_182, s324_185, s324_186, s324_187, s324_190, s324_191, s324_192, s324_195, s324_198, s324_199, s324_200, s324_201, s324_204, s324_205, s324_206, s324_209, s324_212, s324_213, s324_214, s324_216, s324_217, s324_220, s324_222, s324_223, s324_226, s324_228, s324_229, s324_232, s324_234, s324_235, s324_238, s324_240, s324_241, s324_244, s324_246, s324_247, s324_250, s324_252, s324_253, s324_254, s324_256, s324_259, s324_262, s324_263, s324_264, s324_266, s324_269, s324_270, s324_273, s324_276, s324_277, s324_278, s324_279, s324_280, s324_281, s324_282, s324_284, s324_287, s324_288, s324_291, s324_294, s324_296, s324_298, s324_299, s324_302, s324_303, s324_306, s324_307, s324_308, s324_311, s324_312, s324_314, s324_316, s324_318, s324_319, s324_322, s324_325, s324_327, s324_330, s324_331, s324_332, s324_334, s324_336, s324_339, s324_340, s324_341, s324_344, s324_345, s324_346, s324_349, s324_351, s324_352, s324_353, s324_356, s324_357, s324_358, s324_361, s324_362, s324_365, s324_366, s324_367, s324_368, s324_371, s324_372, s324_375, s324_376, s324_377, s324_380, s324_382, s324_385, s324_387, s324_388, s324_390, s324_391, s324_394, s324_395, s324_397, s324_399, s324_401, s324_403, s324_406, s324_409, s324_411, s324_412, s324_413, s324_414, s324_416, s324_418, s324_421, s324_423, s324_425, s324_428, s324_430, s324_431, s324_434, s324_436, s324_439, s324_441, s324_444, s324_445, s324_446, s324_448, s324_450, s324_453, s324_454, s324_455, s324_457, s324_460, s324_461, s324_463, s324_466, s324_467, s324_468, s324_471, s324_472, s324_473, s324_476, s324_477, s324_480, s324_483, s324_484, s324_485, s324_488, s324_489, s324_490, s324_493, s324_496, s324_497, mq_k0s, mq_k1s, mq_k2s, mq_k4s, mq_k5s, mq_k5n, mq_k5as, mq_k6s, mj_pu, mj_lo, mj_br, mj_hr, mj_hw, mq_gf, mq_len, mq_al, mq_pf, mq_ok, mj_re, mq_lkm, mq_lkn, mj_ldi, mj_ldl, mj_lda, mj_ii, mj_ll, mj_li, mj_i1, ms_1, ms_2, f1_n, f1_i, f1_r, f1_u, f1_l, f2_n, f2_i, f2_r, f2_u, f2_l, mj_tg, mj_c1, mj_c2, mj_ar, mj_aw, mq_cb, mq_oi, mj_rm, Value.category, -getElem?_pos, List.getElem?_cons_zero, decide_eq_true, decide_eq_false, nl_lt, nl_le, ln_lt, ln_le, nl_eq, ln_eq, nl_add, ln_add, nl_sub, ln_mul, nI_sub, nI_mul, nI_add, nI_lt_iff, nI_le_iff, nI_inj, nI_num, mq_ix, nI_1, nl_mul, nl_div, e3, narrow]
          · obtain ⟨X3, a1, a2⟩ := (on3 ho).2 hz
            refine ⟨X ++ X3, ?_, ?_⟩
            · rw [a1, hX2, List.append_assoc]
            · rw [a2, hrep, List.append_assoc]
        · rw [if_neg hs5]
          have hs55 : st = 5 := by omega
          obtain ⟨y3, p3, z3, k3⟩ := q_begin (d := d + 6) (B := B) (x := x.wk j q2.1.1.1.1 m1) z2 9
          obtain ⟨y4, p4, z4, k4⟩ := q_say (d := d + 6) (B := B) (x := x.wk j q2.1.1.1.1 m1) z3 (by simp [S_cb_mmade4_0, S_bx_mcan1_0, S_b8_mkey_1, S_b8_mkey_0, S_b1_mterm_0, S_b1_copy_0, S_b0_mod_7, S_b0_mod_6, S_b0_mod_5, S_b0_mod_3, S_b0_mod_2, S_b0_mod_1, S_b0_mod_0, S_cb_mmade4_1h, S_bx_mcan1_1h, S_b0_mod_4h]) (nI sh)
          obtain ⟨y5, p5, z5, k5⟩ := q_say (d := d + 6) (B := B) (x := x.wk j q2.1.1.1.1 m1) z4 (by simp [S_cb_mmade4_0, S_bx_mcan1_0, S_b8_mkey_1, S_b8_mkey_0, S_b1_mterm_0, S_b1_copy_0, S_b0_mod_7, S_b0_mod_6, S_b0_mod_5, S_b0_mod_3, S_b0_mod_2, S_b0_mod_1, S_b0_mod_0, S_cb_mmade4_1h, S_bx_mcan1_1h, S_b0_mod_4h]) m1.1.1.2.2
          have er : [9] ++ [nI sh] ++ [m1.1.1.2.2] = [9, nI sh, nI q2.2.1.1.1] := by rw [kr1.tk]; rfl
          rw [er] at z5
          have hO2 : O2.length ≤ 200 := by
            rw [hX2, hXn, List.append_nil]
            omega
          obtain ⟨y6, p6', z6, k6⟩ := q_tell (d := d + 6) (B := B) (x := x.wk j q2.1.1.1.1 m1) z5 (by omega) 161
          obtain ⟨y7, p7, z7, k7⟩ := q_tell (d := d + 6) (B := B) (x := x.wk j q2.1.1.1.1 m1) z6 (by simp [S_cb_mmade4_0, S_bx_mcan1_0, S_b8_mkey_1, S_b8_mkey_0, S_b1_mterm_0, S_b1_copy_0, S_b0_mod_7, S_b0_mod_6, S_b0_mod_5, S_b0_mod_3, S_b0_mod_2, S_b0_mod_1, S_b0_mod_0, S_cb_mmade4_1h, S_bx_mcan1_1h, S_b0_mod_4h]; omega) 2
          obtain ⟨y8, p8, z8, k8⟩ := q_term (d := d + 4) (B := B) (x := x.wk j q2.1.1.1.1 m1) z7 (by simp [S_cb_mmade4_0, S_bx_mcan1_0, S_b8_mkey_1, S_b8_mkey_0, S_b1_mterm_0, S_b1_copy_0, S_b0_mod_7, S_b0_mod_6, S_b0_mod_5, S_b0_mod_3, S_b0_mod_2, S_b0_mod_1, S_b0_mod_0, S_cb_mmade4_1h, S_bx_mcan1_1h, S_b0_mod_4h]) (by simp [S_cb_mmade4_0, S_bx_mcan1_0, S_b8_mkey_1, S_b8_mkey_0, S_b1_mterm_0, S_b1_copy_0, S_b0_mod_7, S_b0_mod_6, S_b0_mod_5, S_b0_mod_3, S_b0_mod_2, S_b0_mod_1, S_b0_mod_0, S_cb_mmade4_1h, S_bx_mcan1_1h, S_b0_mod_4h]) (by rw [hT']; omega)
          obtain ⟨y9, p9, z9, k9⟩ := q_tellInt (d := d + 5) (B := B) (x := x.wk j q2.1.1.1.1 m1) z8 (by simp [S_cb_mmade4_0, S_bx_mcan1_0, S_b8_mkey_1, S_b8_mkey_0, S_b1_mterm_0, S_b1_copy_0, S_b0_mod_7, S_b0_mod_6, S_b0_mod_5, S_b0_mod_3, S_b0_mod_2, S_b0_mod_1, S_b0_mod_0, S_cb_mmade4_1h, S_bx_mcan1_1h, S_b0_mod_4h]; omega) (nI (tm_no q3 [9, nI sh, nI q2.2.1.1.1]))
          unfold pn_tok
          refine ⟨0, m1, y9, _, _, to423 _ ?_, w1, (kr_mk_ kr1.pr kr1.ta kr1.an kr1.ag kr1.tk kr1.wr kr1.he), cf1, z9, ml1, fun _ => ⟨rfl, fun _ => ⟨X ++ (161 :: nI 2 :: 68 :: b4 (nI (tm_no q3 [9, nI sh, nI q2.2.1.1.1]))), ?_, ?_⟩⟩⟩
          · dsimp only
            rw [hv, hs55]
            generalize oP (mem ms 5) = v5 at *
            generalize nI (tm_no q3 [9, nI sh, nI q2.2.1.1.1]) = tn at *
            simp (disch := (first | omega | decide)) [S_cb_mmade4_0, S_bx_mcan1_0, S_b8_mkey_1, S_b8_mkey_0, S_b1_mterm_0, S_b1_copy_0, S_b0_mod_7, S_b0_mod_6, S_b0_mod_5, S_b0_mod_3, S_b0_mod_2, S_b0_mod_1, S_b0_mod_0, S_cb_mmade4_1h, S_bx_mcan1_1h, S_b0_mod_4h, s324_0, s324_1, s324_2, s324_3, s324_6, s324_7, s324_8, s324_9, s324_10, s324_13, s324_14, s324_15, s324_16, s324_17, s324_20, s324_22, s324_23, s324_24, s324_25, s324_28, s324_30, s324_31, s324_32, s324_33, s324_36, s324_38, s324_39, s324_40, s324_42, s324_45, s324_47, s324_48, s324_49, s324_50, s324_53, s324_56, s324_57, s324_58, s324_59, s324_62, s324_65, s324_66, s324_68, s324_69, s324_72, s324_75, s324_76, s324_78, s324_79, s324_82, s324_85, s324_86, s324_88, s324_89, s324_92, s324_95, s324_96, s324_98, s324_99, s324_102, s324_105, s324_107, s324_108, s324_109, s324_110, s324_113, s324_114, s324_115, s324_118, s324_120, s324_121, s324_122, s324_123, s324_126, s324_128, s324_129, s324_130, s324_133, s324_134, s324_137, s324_139, s324_140, s324_143, s324_145, s324_146, s324_149, s324_150, s324_151, s324_153, s324_154, s324_157, s324_158, s324_161, s324_164, s324_165, s324_167, s324_168, s324_171, s324_172, s324_175, s324_176, s324_179, s324_181, s324_182, s324_185, s324_186, s324_187, s324_190, s324_191, s324_192, s324_195, s324_198, s324_199, s324_200, s324_201, s324_204, s324_205, s324_206, s324_209, s324_212, s324_213, s324_214, s324_216, s324_217, s324_220, s324_222, s324_223, s324_226, s324_228, s324_229, s324_232, s324_234, s324_235, s324_238, s324_240, s324_241, s324_244, s324_246, s324_247, s324_250, s324_252, s324_253, s324_254, s324_256, s324_259, s324_262, s324_263, s324_264, s324_266, s324_269, s324_270, s324_273, s324_276, s324_277, s324_278, s324_279, s324_280, s324_281, s324_282, s324_284, s324_287, s324_288, s324_291, s324_294, s324_296, s324_298, s324_299, s324_302, s324_303, s324_306, s324_307, s324_308, s324_311, s324_312, s324_314, s324_316, s324_318, s324_319, s324_322, s324_325, s324_327, s324_330, s324_331, s324_332, s324_334, s324_336, s324_339, s324_340, s324_341, s324_344, s324_345, s324_346, s324_349, s324_351, s324_352, s324_353, s324_356, s324_357, s324_358, s324_361, s324_362, s324_365, s324_366, s324_367, s324_368, s324_371, s324_372, s324_375, s324_376, s324_377, s324_380, s324_382, s324_385, s324_387, s324_388, s324_390, s324_391, s324_394, s324_395, s324_397, s324_399, s324_401, s324_403, s324_406, s324_409, s324_411, s324_412, s324_413, s324_414, s324_416, s324_418, s324_421, s324_423, s324_425, s324_428, s324_430, s324_431, s324_434, s324_436, s324_439, s324_441, s324_444, s324_445, s324_446, s324_448, s324_450, s324_453, s324_454, s324_455, s324_457, s324_460, s324_461, s324_463, s324_466, s324_467, s324_468, s324_471, s324_472, s324_473, s324_476, s324_477, s324_480, s324_483, s324_484, s324_485, s324_488, s324_489, s324_490, s324_493, s324_496, s324_497, mq_k0s, mq_k1s, mq_k2s, mq_k4s, mq_k5s, mq_k5n, mq_k5as, mq_k6s, mj_pu, mj_lo, mj_br, mj_hr, mj_hw, mq_gf, mq_len, mq_al, mq_pf, mq_ok, mj_re, mq_lkm, mq_lkn, mj_ldi, mj_ldl, mj_lda, mj_ii, mj_ll, mj_li, mj_i1, ms_1, ms_2, f1_n, f1_i, f1_r, f1_u, f1_l, f2_n, f2_i, f2_r, f2_u, f2_l, mj_tg, mj_c1, mj_c2, mj_ar, mj_aw, mq_cb, mq_oi, mj_rm, Value.category, -getElem?_pos, List.getElem?_cons_zero, decide_eq_true, decide_eq_false, nl_lt, nl_le, ln_lt, ln_le, nl_eq, ln_eq, nl_add, ln_add, nl_sub, ln_mul, nI_sub, nI_mul, nI_add, nI_lt_iff, nI_le_iff, nI_inj, nI_num, mq_ix, nI_1, nl_mul, nl_div, wkc_on hx hj, wkl_on hx, wkc_acts hx hj, wkl_acts hx, wkc_limit hx hj, wkl_limit hx, wkc_generation hx hj, wkl_generation hx, wkc_area hx hj, wkl_area hx, wkc_fend hx hj, wkl_fend hx, wkc_master hx hj, wkl_master hx, wkc_pinOf hx hj, wkl_pinOf hx, wkc_tries hx hj, wkl_tries hx, wkc_own hx hj, wkl_own hx, wkc_creds hx hj, wkl_creds hx, wkc_presses hx hj, wkl_presses hx, wkc_taken hx hj, wkl_taken hx, wkc_answered hx hj, wkl_answered hx, wkc_agreeing hx hj, wkl_agreeing hx, wkc_token hx hj, wkl_token hx, wkc_wrong hx hj, wkl_wrong hx, wkc_heard hx hj, wkl_heard hx, wkc_listed hx hj, wkl_listed hx, wkc_listAt hx hj, wkl_listAt hx, wkc_listHash hx hj, wkl_listHash hx, wkc_listFlags hx hj, wkl_listFlags hx, wkc_answerSize hx hj, wkl_answerSize hx, wkc_flash hx hj, wkl_flash hx hj, p3, p4, p5, p6', p7, p8, p9, narrow]
          · rw [hX2]
            simp [S_cb_mmade4_0, S_bx_mcan1_0, S_b8_mkey_1, S_b8_mkey_0, S_b1_mterm_0, S_b1_copy_0, S_b0_mod_7, S_b0_mod_6, S_b0_mod_5, S_b0_mod_3, S_b0_mod_2, S_b0_mod_1, S_b0_mod_0, S_cb_mmade4_1h, S_bx_mcan1_1h, S_b0_mod_4h, show nI 2 = (2 : Int32) from rfl]
          · dsimp only
            rw [hrep]
            simp [S_cb_mmade4_0, S_bx_mcan1_0, S_b8_mkey_1, S_b8_mkey_0, S_b1_mterm_0, S_b1_copy_0, S_b0_mod_7, S_b0_mod_6, S_b0_mod_5, S_b0_mod_3, S_b0_mod_2, S_b0_mod_1, S_b0_mod_0, S_cb_mmade4_1h, S_bx_mcan1_1h, S_b0_mod_4h]
    by_cases hs4 : st = 4
    · obtain ⟨p4, m4⟩ := hwant 4 (by omega) (by omega) (by unfold wantd; simp [S_cb_mmade4_0, S_bx_mcan1_0, S_b8_mkey_1, S_b8_mkey_0, S_b1_mterm_0, S_b1_copy_0, S_b0_mod_7, S_b0_mod_6, S_b0_mod_5, S_b0_mod_3, S_b0_mod_2, S_b0_mod_1, S_b0_mod_0, S_cb_mmade4_1h, S_bx_mcan1_1h, S_b0_mod_4h, hs4])
      obtain ⟨p5, m5⟩ := hwant 5 (by omega) (by omega) (by unfold wantd; simp [S_cb_mmade4_0, S_bx_mcan1_0, S_b8_mkey_1, S_b8_mkey_0, S_b1_mterm_0, S_b1_copy_0, S_b0_mod_7, S_b0_mod_6, S_b0_mod_5, S_b0_mod_3, S_b0_mod_2, S_b0_mod_1, S_b0_mod_0, S_cb_mmade4_1h, S_bx_mcan1_1h, S_b0_mod_4h, hs4])
      have i4 := J 4 p4 m4
      have i5 := J 5 p5 m5
      have s4 := fit_s f4 (by omega) p4 m4
      have s5 := fit_s f5 (by omega) p5 m5
      have hin5 := (cbOk_hd.mp i5.ok).2 (Or.inl s5)
      have htwo := mem_two hcb (fg 5 6 (by omega)) (v := p5) (w := p6) m5 m6 (Or.inl s5) (Or.inl s6)
      obtain ⟨y1, D1, z1, k1, p1⟩ := q_isMac (d := d + 3) (B := B) (x := x.wk j k.1.1.1.1 m) (y := y) hX hy hT9 hsh i4 s4 i5 s5 (os := some p6) (fun _ z => by cases z; exact i6) (fun _ z => by cases z; exact s6) (by rw [oBy_len hin5, oBy_len hin6]; omega)
      have epm : pn_mac (nI sh) ms (decide (st = 4)) = 5 :: nI sh :: (oBy ms (some p5) ++ oBy ms (some p6)) := by unfold pn_mac; rw [m5, m6, decide_eq_true hs4]; rfl
      rw [epm, m4]
      rw [show oP (some p6) = nI p6 from rfl] at p1
      generalize hkn : kn_as T (5 :: nI sh :: (oBy ms (some p5) ++ oBy ms (some p6))) (o4 ms (some p4)) = kn at *
      cases kn with
      | false =>
        rw [if_pos ⟨by omega, rfl⟩]
        refine kO.no (m' := m) (y' := y1) (D' := D1) ?_ hm hk hc z1 rfl (by decide)
        simp only [on1, Bool.false_eq_true, if_false] at p1
        rw [m5, m6, show oP (some p4) = nI p4 from rfl, show oP (some p5) = nI p5 from rfl, show oP (some p6) = nI p6 from rfl, hs4]
        simp (disch := (first | omega | decide)) [S_cb_mmade4_0, S_bx_mcan1_0, S_b8_mkey_1, S_b8_mkey_0, S_b1_mterm_0, S_b1_copy_0, S_b0_mod_7, S_b0_mod_6, S_b0_mod_5, S_b0_mod_3, S_b0_mod_2, S_b0_mod_1, S_b0_mod_0, S_cb_mmade4_1h, S_bx_mcan1_1h, S_b0_mod_4h, s324_0, s324_1, s324_2, s324_3, s324_6, s324_7, s324_8, s324_9, s324_10, s324_13, s324_14, s324_15, s324_16, s324_17, s324_20, s324_22, s324_23, s324_24, s324_25, s324_28, s324_30, s324_31, s324_32, s324_33, s324_36, s324_38, s324_39, s324_40, s324_42, s324_45, s324_47, s324_48, s324_49, s324_50, s324_53, s324_56, s324_57, s324_58, s324_59, s324_62, s324_65, s324_66, s324_68, s324_69, s324_72, s324_75, s324_76, s324_78, s324_79, s324_82, s324_85, s324_86, s324_88, s324_89, s324_92, s324_95, s324_96, s324_98, s324_99, s324_102, s324_105, s324_107, s324_108, s324_109, s324_110, s324_113, s324_114, s324_115, s324_118, s324_120, s324_121, s324_122, s324_123, s324_126, s324_128, s324_129, s324_130, s324_133, s324_134, s324_137, s324_139, s324_140, s324_143, s324_145, s324_146, s324_149, s324_150, s324_151, s324_153, s324_154, s324_157, s324_158, s324_161, s324_164, s324_165, s324_167, s324_168, s324_171, s324_172, s324_175, s324_176, s324_179, s324_181, s324_182, s324_185, s324_186, s324_187, s324_190, s324_191, s324_192, s324_195, s324_198, s324_199, s324_200, s324_201, s324_204, s324_205, s324_206, s324_209, s324_212, s324_213, s324_214, s324_216, s324_217, s324_220, s324_222, s324_223, s324_226, s324_228, s324_229, s324_232, s324_234, s324_235, s324_238, s324_240, s324_241, s324_244, s324_246, s324_247, s324_250, s324_252, s324_253, s324_254, s324_256, s324_259, s324_262, s324_263, s324_264, s324_266, s324_269, s324_270, s324_273, s324_276, s324_277, s324_278, s324_279, s324_280, s324_281, s324_282, s324_284, s324_287, s324_288, s324_291, s324_294, s324_296, s324_298, s324_299, s324_302, s324_303, s324_306, s324_307, s324_308, s324_311, s324_312, s324_314, s324_316, s324_318, s324_319, s324_322, s324_325, s324_327, s324_330, s324_331, s324_332, s324_334, s324_336, s324_339, s324_340, s324_341, s324_344, s324_345, s324_346, s324_349, s324_351, s324_352, s324_353, s324_356, s324_357, s324_358, s324_361, s324_362, s324_365, s324_366, s324_367, s324_368, s324_371, s324_372, s324_375, s324_376, s324_377, s324_380, s324_382, s324_385, s324_387, s324_388, s324_390, s324_391, s324_394, s324_395, s324_397, s324_399, s324_401, s324_403, s324_406, s324_409, s324_411, s324_412, s324_413, s324_414, s324_416, s324_418, s324_421, s324_423, s324_425, s324_428, s324_430, s324_431, s324_434, s324_436, s324_439, s324_441, s324_444, s324_445, s324_446, s324_448, s324_450, s324_453, s324_454, s324_455, s324_457, s324_460, s324_461, s324_463, s324_466, s324_467, s324_468, s324_471, s324_472, s324_473, s324_476, s324_477, s324_480, s324_483, s324_484, s324_485, s324_488, s324_489, s324_490, s324_493, s324_496, s324_497, mq_k0s, mq_k1s, mq_k2s, mq_k4s, mq_k5s, mq_k5n, mq_k5as, mq_k6s, mj_pu, mj_lo, mj_br, mj_hr, mj_hw, mq_gf, mq_len, mq_al, mq_pf, mq_ok, mj_re, mq_lkm, mq_lkn, mj_ldi, mj_ldl, mj_lda, mj_ii, mj_ll, mj_li, mj_i1, ms_1, ms_2, f1_n, f1_i, f1_r, f1_u, f1_l, f2_n, f2_i, f2_r, f2_u, f2_l, mj_tg, mj_c1, mj_c2, mj_ar, mj_aw, mq_cb, mq_oi, mj_rm, Value.category, -getElem?_pos, List.getElem?_cons_zero, decide_eq_true, decide_eq_false, nl_lt, nl_le, ln_lt, ln_le, nl_eq, ln_eq, nl_add, ln_add, nl_sub, ln_mul, nI_sub, nI_mul, nI_add, nI_lt_iff, nI_le_iff, nI_inj, nI_num, mq_ix, nI_1, nl_mul, nl_div, wkc_on hx hj, wkl_on hx, wkc_acts hx hj, wkl_acts hx, wkc_limit hx hj, wkl_limit hx, wkc_generation hx hj, wkl_generation hx, wkc_area hx hj, wkl_area hx, wkc_fend hx hj, wkl_fend hx, wkc_master hx hj, wkl_master hx, wkc_pinOf hx hj, wkl_pinOf hx, wkc_tries hx hj, wkl_tries hx, wkc_own hx hj, wkl_own hx, wkc_creds hx hj, wkl_creds hx, wkc_presses hx hj, wkl_presses hx, wkc_taken hx hj, wkl_taken hx, wkc_answered hx hj, wkl_answered hx, wkc_agreeing hx hj, wkl_agreeing hx, wkc_token hx hj, wkl_token hx, wkc_wrong hx hj, wkl_wrong hx, wkc_heard hx hj, wkl_heard hx, wkc_listed hx hj, wkl_listed hx, wkc_listAt hx hj, wkl_listAt hx, wkc_listHash hx hj, wkl_listHash hx, wkc_listFlags hx hj, wkl_listFlags hx, wkc_answerSize hx hj, wkl_answerSize hx, wkc_flash hx hj, wkl_flash hx hj, hpn, htr, kw, hwn, p1, narrow]
      | true =>
        rw [if_neg (by simp [S_cb_mmade4_0, S_bx_mcan1_0, S_b8_mkey_1, S_b8_mkey_0, S_b1_mterm_0, S_b1_copy_0, S_b0_mod_7, S_b0_mod_6, S_b0_mod_5, S_b0_mod_3, S_b0_mod_2, S_b0_mod_1, S_b0_mod_0, S_cb_mmade4_1h, S_bx_mcan1_1h, S_b0_mod_4h])]
        have hs0 : sh ≠ 0 := by
          rintro rfl
          have : tm_ix T.1 (5 :: nI 0 :: (oBy ms (some p5) ++ oBy ms (some p6))) ≠ 0 := by
            intro z
            unfold kn_as at hkn
            rw [z] at hkn
            simp [S_cb_mmade4_0, S_bx_mcan1_0, S_b8_mkey_1, S_b8_mkey_0, S_b1_mterm_0, S_b1_copy_0, S_b0_mod_7, S_b0_mod_6, S_b0_mod_5, S_b0_mod_3, S_b0_mod_2, S_b0_mod_1, S_b0_mod_0, S_cb_mmade4_1h, S_bx_mcan1_1h, S_b0_mod_4h] at hkn
          exact hT9.m5 _ (ix_mem this)
        refine (late y1 D1 z1 (fun _ => hs0)).of (fun r hr => ?_)
        simp only [on1, if_true] at p1
        rw [m4, m5, m6, show oP (some p4) = nI p4 from rfl, show oP (some p5) = nI p5 from rfl, show oP (some p6) = nI p6 from rfl, hs4] at hr
        rw [m5, m6, show oP (some p4) = nI p4 from rfl, show oP (some p5) = nI p5 from rfl, show oP (some p6) = nI p6 from rfl, hs4]
        clear late
        simp (disch := (first | omega | decide)) [S_cb_mmade4_0, S_bx_mcan1_0, S_b8_mkey_1, S_b8_mkey_0, S_b1_mterm_0, S_b1_copy_0, S_b0_mod_7, S_b0_mod_6, S_b0_mod_5, S_b0_mod_3, S_b0_mod_2, S_b0_mod_1, S_b0_mod_0, S_cb_mmade4_1h, S_bx_mcan1_1h, S_b0_mod_4h, s324_0, s324_1, s324_2, s324_3, s324_6, s324_7, s324_8, s324_9, s324_10, s324_13, s324_14, s324_15, s324_16, s324_17, s324_20, s324_22, s324_23, s324_24, s324_25, s324_28, s324_30, s324_31, s324_32, s324_33, s324_36, s324_38, s324_39, s324_40, s324_42, s324_45, s324_47, s324_48, s324_49, s324_50, s324_53, s324_56, s324_57, s324_58, s324_59, s324_62, s324_65, s324_66, s324_68, s324_69, s324_72, s324_75, s324_76, s324_78, s324_79, s324_82, s324_85, s324_86, s324_88, s324_89, s324_92, s324_95, s324_96, s324_98, s324_99, s324_102, s324_105, s324_107, s324_108, s324_109, s324_110, s324_113, s324_114, s324_115, s324_118, s324_120, s324_121, s324_122, s324_123, s324_126, s324_128, s324_129, s324_130, s324_133, s324_134, s324_137, s324_139, s324_140, s324_143, s324_145, s324_146, s324_149, s324_150, s324_151, s324_153, s324_154, s324_157, s324_158, s324_161, s324_164, s324_165, s324_167, s324_168, s324_171, s324_172, s324_175, s324_176, s324_179, s324_181, s324_182, s324_185, s324_186, s324_187, s324_190, s324_191, s324_192, s324_195, s324_198, s324_199, s324_200, s324_201, s324_204, s324_205, s324_206, s324_209, s324_212, s324_213, s324_214, s324_216, s324_217, s324_220, s324_222, s324_223, s324_226, s324_228, s324_229, s324_232, s324_234, s324_235, s324_238, s324_240, s324_241, s324_244, s324_246, s324_247, s324_250, s324_252, s324_253, s324_254, s324_256, s324_259, s324_262, s324_263, s324_264, s324_266, s324_269, s324_270, s324_273, s324_276, s324_277, s324_278, s324_279, s324_280, s324_281, s324_282, s324_284, s324_287, s324_288, s324_291, s324_294, s324_296, s324_298, s324_299, s324_302, s324_303, s324_306, s324_307, s324_308, s324_311, s324_312, s324_314, s324_316, s324_318, s324_319, s324_322, s324_325, s324_327, s324_330, s324_331, s324_332, s324_334, s324_336, s324_339, s324_340, s324_341, s324_344, s324_345, s324_346, s324_349, s324_351, s324_352, s324_353, s324_356, s324_357, s324_358, s324_361, s324_362, s324_365, s324_366, s324_367, s324_368, s324_371, s324_372, s324_375, s324_376, s324_377, s324_380, s324_382, s324_385, s324_387, s324_388, s324_390, s324_391, s324_394, s324_395, s324_397, s324_399, s324_401, s324_403, s324_406, s324_409, s324_411, s324_413, s324_414, s324_416, s324_418, s324_421, s324_423, s324_425, s324_428, s324_430, s324_431, s324_434, s324_436, s324_439, s324_441, s324_444, s324_445, s324_446, s324_448, s324_450, s324_453, s324_454, s324_455, s324_457, s324_460, s324_461, s324_463, s324_466, s324_467, s324_468, s324_471, s324_472, s324_473, s324_476, s324_477, s324_480, s324_483, s324_484, s324_485, s324_488, s324_489, s324_490, s324_493, s324_496, s324_497, mq_k0s, mq_k1s, mq_k2s, mq_k4s, mq_k5s, mq_k5n, mq_k5as, mq_k6s, mj_pu, mj_lo, mj_br, mj_hr, mj_hw, mq_gf, mq_len, mq_al, mq_pf, mq_ok, mj_re, mq_lkm, mq_lkn, mj_ldi, mj_ldl, mj_lda, mj_ii, mj_ll, mj_li, mj_i1, ms_1, ms_2, f1_n, f1_i, f1_r, f1_u, f1_l, f2_n, f2_i, f2_r, f2_u, f2_l, mj_tg, mj_c1, mj_c2, mj_ar, mj_aw, mq_cb, mq_oi, mj_rm, Value.category, -getElem?_pos, List.getElem?_cons_zero, decide_eq_true, decide_eq_false, nl_lt, nl_le, ln_lt, ln_le, nl_eq, ln_eq, nl_add, ln_add, nl_sub, ln_mul, nI_sub, nI_mul, nI_add, nI_lt_iff, nI_le_iff, nI_inj, nI_num, mq_ix, nI_1, nl_mul, nl_div, wkc_on hx hj, wkl_on hx, wkc_acts hx hj, wkl_acts hx, wkc_limit hx hj, wkl_limit hx, wkc_generation hx hj, wkl_generation hx, wkc_area hx hj, wkl_area hx, wkc_fend hx hj, wkl_fend hx, wkc_master hx hj, wkl_master hx, wkc_pinOf hx hj, wkl_pinOf hx, wkc_tries hx hj, wkl_tries hx, wkc_own hx hj, wkl_own hx, wkc_creds hx hj, wkl_creds hx, wkc_presses hx hj, wkl_presses hx, wkc_taken hx hj, wkl_taken hx, wkc_answered hx hj, wkl_answered hx, wkc_agreeing hx hj, wkl_agreeing hx, wkc_token hx hj, wkl_token hx, wkc_wrong hx hj, wkl_wrong hx, wkc_heard hx hj, wkl_heard hx, wkc_listed hx hj, wkl_listed hx, wkc_listAt hx hj, wkl_listAt hx, wkc_listHash hx hj, wkl_listHash hx, wkc_listFlags hx hj, wkl_listFlags hx, wkc_answerSize hx hj, wkl_answerSize hx, wkc_flash hx hj, wkl_flash hx hj, hpn, htr, kw, hwn, p1]
        exact hr
    · rw [if_neg (fun z => by omega)]
      refine (late y D hy (fun z => absurd z hs4)).of (fun r hr => ?_)
      have hs55 : st = 5 := by omega
      rw [hs55] at hr ⊢
      generalize oP (mem ms 6) = v6 at *
      generalize oP (mem ms 5) = v5 at *
      generalize oP (mem ms 4) = v4 at *
      clear late
      simp (disch := (first | omega | decide)) [S_cb_mmade4_0, S_bx_mcan1_0, S_b8_mkey_1, S_b8_mkey_0, S_b1_mterm_0, S_b1_copy_0, S_b0_mod_7, S_b0_mod_6, S_b0_mod_5, S_b0_mod_3, S_b0_mod_2, S_b0_mod_1, S_b0_mod_0, S_cb_mmade4_1h, S_bx_mcan1_1h, S_b0_mod_4h, s324_0, s324_1, s324_2, s324_3, s324_6, s324_7, s324_8, s324_9, s324_10, s324_13, s324_14, s324_15, s324_16, s324_17, s324_20, s324_22, s324_23, s324_24, s324_25, s324_28, s324_30, s324_31, s324_32, s324_33, s324_36, s324_38, s324_39, s324_40, s324_42, s324_45, s324_47, s324_48, s324_49, s324_50, s324_53, s324_56, s324_57, s324_58, s324_59, s324_62, s324_65, s324_66, s324_68, s324_69, s324_72, s324_75, s324_76, s324_78, s324_79, s324_82, s324_85, s324_86, s324_88, s324_89, s324_92, s324_95, s324_96, s324_98, s324_99, s324_102, s324_105, s324_107, s324_108, s324_109, s324_110, s324_113, s324_114, s324_115, s324_118, s324_120, s324_121, s324_122, s324_123, s324_126, s324_128, s324_129, s324_130, s324_133, s324_134, s324_137, s324_139, s324_140, s324_143, s324_145, s324_146, s324_149, s324_150, s324_151, s324_153, s324_154, s324_157, s324_158, s324_161, s324_164, s324_165, s324_167, s324_168, s324_171, s324_172, s324_175, s324_176, s324_179, s324_181, s324_182, s324_185, s324_186, s324_187, s324_190, s324_191, s324_192, s324_195, s324_198, s324_199, s324_200, s324_201, s324_204, s324_205, s324_206, s324_209, s324_212, s324_213, s324_214, s324_216, s324_217, s324_220, s324_222, s324_223, s324_226, s324_228, s324_229, s324_232, s324_234, s324_235, s324_238, s324_240, s324_241, s324_244, s324_246, s324_247, s324_250, s324_252, s324_253, s324_254, s324_256, s324_259, s324_262, s324_263, s324_264, s324_266, s324_269, s324_270, s324_273, s324_276, s324_277, s324_278, s324_279, s324_280, s324_281, s324_282, s324_284, s324_287, s324_288, s324_291, s324_294, s324_296, s324_298, s324_299, s324_302, s324_303, s324_306, s324_307, s324_308, s324_311, s324_312, s324_314, s324_316, s324_318, s324_319, s324_322, s324_325, s324_327, s324_330, s324_331, s324_332, s324_334, s324_336, s324_339, s324_340, s324_341, s324_344, s324_345, s324_346, s324_349, s324_351, s324_352, s324_353, s324_356, s324_357, s324_358, s324_361, s324_362, s324_365, s324_366, s324_367, s324_368, s324_371, s324_372, s324_375, s324_376, s324_377, s324_380, s324_382, s324_385, s324_387, s324_388, s324_390, s324_391, s324_394, s324_395, s324_397, s324_399, s324_401, s324_403, s324_406, s324_409, s324_411, s324_413, s324_414, s324_416, s324_418, s324_421, s324_423, s324_425, s324_428, s324_430, s324_431, s324_434, s324_436, s324_439, s324_441, s324_444, s324_445, s324_446, s324_448, s324_450, s324_453, s324_454, s324_455, s324_457, s324_460, s324_461, s324_463, s324_466, s324_467, s324_468, s324_471, s324_472, s324_473, s324_476, s324_477, s324_480, s324_483, s324_484, s324_485, s324_488, s324_489, s324_490, s324_493, s324_496, s324_497, mq_k0s, mq_k1s, mq_k2s, mq_k4s, mq_k5s, mq_k5n, mq_k5as, mq_k6s, mj_pu, mj_lo, mj_br, mj_hr, mj_hw, mq_gf, mq_len, mq_al, mq_pf, mq_ok, mj_re, mq_lkm, mq_lkn, mj_ldi, mj_ldl, mj_lda, mj_ii, mj_ll, mj_li, mj_i1, ms_1, ms_2, f1_n, f1_i, f1_r, f1_u, f1_l, f2_n, f2_i, f2_r, f2_u, f2_l, mj_tg, mj_c1, mj_c2, mj_ar, mj_aw, mq_cb, mq_oi, mj_rm, Value.category, -getElem?_pos, List.getElem?_cons_zero, decide_eq_true, decide_eq_false, nl_lt, nl_le, ln_lt, ln_le, nl_eq, ln_eq, nl_add, ln_add, nl_sub, ln_mul, nI_sub, nI_mul, nI_add, nI_lt_iff, nI_le_iff, nI_inj, nI_num, mq_ix, nI_1, nl_mul, nl_div, wkc_on hx hj, wkl_on hx, wkc_acts hx hj, wkl_acts hx, wkc_limit hx hj, wkl_limit hx, wkc_generation hx hj, wkl_generation hx, wkc_area hx hj, wkl_area hx, wkc_fend hx hj, wkl_fend hx, wkc_master hx hj, wkl_master hx, wkc_pinOf hx hj, wkl_pinOf hx, wkc_tries hx hj, wkl_tries hx, wkc_own hx hj, wkl_own hx, wkc_creds hx hj, wkl_creds hx, wkc_presses hx hj, wkl_presses hx, wkc_taken hx hj, wkl_taken hx, wkc_answered hx hj, wkl_answered hx, wkc_agreeing hx hj, wkl_agreeing hx, wkc_token hx hj, wkl_token hx, wkc_wrong hx hj, wkl_wrong hx, wkc_heard hx hj, wkl_heard hx, wkc_listed hx hj, wkl_listed hx, wkc_listAt hx hj, wkl_listAt hx, wkc_listHash hx hj, wkl_listHash hx, wkc_listFlags hx hj, wkl_listFlags hx, wkc_answerSize hx hj, wkl_answerSize hx, wkc_flash hx hj, wkl_flash hx hj, hpn, htr, kw, hwn]
      exact hr
end
end
/- cw.mpnd4 -/
section
set_option maxRecDepth 512
/-! The model: PIN as a whole, its beginning. -/
section
variable {d : Nat} {B : Bs} {x : Fx} {y : Sy} {j g : Nat} {k : Ky} {m : Mk} {T : Tm} {D O ms : List Int32}
theorem q_pinAsked (h : xm x ms) (hcb : cbMsg ms) (h5 : cbS ms 1 = 5) (h4l : ms.length ≤ 400) (hx : xk x) (hj : j < 3) (hm : wm m) (hk : kr k m) (hI : kI k (g + 3)) (hon : k.1.1.1.1.2.1 = true) (hc : cF k.1.1.1.1.2.2.2.2.2.2.2.2.2.2.2 m) (hy : yz y T D O) (hT8 : tk8 T) (hT9 : tk9 T) (hT : T.1.length + 2 < 1000) (hO : O.length ≤ 100) :
    kO B x j m k.1.1.1.2 O (ky_doPin ms k T) (mj_V (d + 8) 324 [.ref 67, .int (nI j)] (mm B (x.wk j k.1.1.1.1 m) y)) := by
  have J := mem_oJ hcb
  have hX := h.wk j k.1.1.1.1 m
  obtain ⟨F1, F2, F3, F4⟩ := pk_form (d := d) (j := j) (B := B) (x := x.wk j k.1.1.1.1 m) (y := y) hX hcb h5
  unfold ky_doPin
  have no : ∀ st : Int32, st ≠ 0 → mj_V (d + 8) 324 [.ref 67, .int (nI j)] (mm B (x.wk j k.1.1.1.1 m) y) = some (some (.int st), mm B (x.wk j k.1.1.1.1 m) y) → kO B x j m k.1.1.1.2 O (st, k, T) (mj_V (d + 8) 324 [.ref 67, .int (nI j)] (mm B (x.wk j k.1.1.1.1 m) y)) :=
    fun st h0 he => kO.no (m' := m) (y' := y) (D' := D) he hm hk hc hy rfl h0
  by_cases c1 : pnFit ms = false
  · have e : pnFault T ms (oVn ms (mem ms 2)) = 17 := by unfold pnFault; rw [if_pos c1]
    rw [e, if_pos (by decide)]
    exact no 17 (by decide) (F1 c1)
  have c1' : pnFit ms = true := by simpa [S_cb_mmade4_0, S_bx_mcan1_0, S_b8_mkey_1, S_b8_mkey_0, S_b1_mterm_0, S_b1_copy_0, S_b0_mod_7, S_b0_mod_6, S_b0_mod_5, S_b0_mod_3, S_b0_mod_2, S_b0_mod_1, S_b0_mod_0, S_cb_mmade4_1h, S_bx_mcan1_1h, S_b0_mod_4h] using c1
  by_cases c2 : mem ms 1 = none ∨ mem ms 2 = none
  · have e : pnFault T ms (oVn ms (mem ms 2)) = 20 := by unfold pnFault; rw [if_neg c1, if_pos c2]
    rw [e, if_pos (by decide)]
    exact no 20 (by decide) (F2 c1' c2)
  by_cases c3 : oVn ms (mem ms 1) ≠ 1 ∨ oVn ms (mem ms 2) < 1 ∨ 5 < oVn ms (mem ms 2)
  · have e : pnFault T ms (oVn ms (mem ms 2)) = 2 := by unfold pnFault; rw [if_neg c1, if_neg c2, if_pos c3]
    rw [e, if_pos (by decide)]
    exact no 2 (by decide) (F3 c1' c2 c3)
  have F4 := F4 c1' c2 c3
  have hst : 1 ≤ oVn ms (mem ms 2) ∧ oVn ms (mem ms 2) ≤ 5 := by omega
  obtain ⟨n, hn8, htn⟩ := hI.tr
  have n3 := oP_no h (J 3)
  have n4 := oP_no h (J 4)
  have n5 := oP_no h (J 5)
  have n6 := oP_no h (J 6)
  by_cases c4 : oVn ms (mem ms 2) < 3
  · have e : pnFault T ms (oVn ms (mem ms 2)) = 0 := by unfold pnFault; rw [if_neg c1, if_neg c2, if_neg c3, if_pos c4]
    rw [e, if_neg (fun z => z rfl)]
    by_cases w1 : oVn ms (mem ms 2) = 1
    · rw [if_pos w1]
      rw [w1] at F4
      obtain ⟨y1, p1, z1, k1⟩ := q_tell (d := d + 6) (B := B) (x := x.wk j k.1.1.1.1 m) hy (by omega) 161
      obtain ⟨y2, p2, z2, k2⟩ := q_tell (d := d + 6) (B := B) (x := x.wk j k.1.1.1.1 m) z1 (by simp [S_cb_mmade4_0, S_bx_mcan1_0, S_b8_mkey_1, S_b8_mkey_0, S_b1_mterm_0, S_b1_copy_0, S_b0_mod_7, S_b0_mod_6, S_b0_mod_5, S_b0_mod_3, S_b0_mod_2, S_b0_mod_1, S_b0_mod_0, S_cb_mmade4_1h, S_bx_mcan1_1h, S_b0_mod_4h]; omega) 3
      obtain ⟨y3, p3, z3, k3⟩ := q_tell (d := d + 6) (B := B) (x := x.wk j k.1.1.1.1 m) z2 (by simp [S_cb_mmade4_0, S_bx_mcan1_0, S_b8_mkey_1, S_b8_mkey_0, S_b1_mterm_0, S_b1_copy_0, S_b0_mod_7, S_b0_mod_6, S_b0_mod_5, S_b0_mod_3, S_b0_mod_2, S_b0_mod_1, S_b0_mod_0, S_cb_mmade4_1h, S_bx_mcan1_1h, S_b0_mod_4h]; omega) k.1.1.1.1.2.2.2.2.2.2.2.2.2.1
      refine ⟨0, m, y3, D, _, F4 _ ?_, hm, (kr_mk_ hk.pr hk.ta hk.an hk.ag hk.tk hk.wr hk.he), hc, z3, rfl, fun _ => ⟨rfl, fun _ => ⟨161 :: 3 :: bt_hd 0 k.1.1.1.1.2.2.2.2.2.2.2.2.2.1, ?_, rfl⟩⟩⟩
      · generalize oP (mem ms 6) = v6 at *
        generalize oP (mem ms 5) = v5 at *
        generalize oP (mem ms 4) = v4 at *
        generalize oP (mem ms 3) = v3 at *
        simp (disch := (first | omega | decide)) [S_cb_mmade4_0, S_bx_mcan1_0, S_b8_mkey_1, S_b8_mkey_0, S_b1_mterm_0, S_b1_copy_0, S_b0_mod_7, S_b0_mod_6, S_b0_mod_5, S_b0_mod_3, S_b0_mod_2, S_b0_mod_1, S_b0_mod_0, S_cb_mmade4_1h, S_bx_mcan1_1h, S_b0_mod_4h, s324_0, s324_1, s324_2, s324_3, s324_6, s324_7, s324_8, s324_9, s324_10, s324_13, s324_14, s324_15, s324_16, s324_17, s324_20, s324_22, s324_23, s324_24, s324_25, s324_28, s324_30, s324_31, s324_32, s324_33, s324_36, s324_38, s324_39, s324_40, s324_42, s324_45, s324_47, s324_48, s324_49, s324_50, s324_53, s324_56, s324_57, s324_58, s324_59, s324_62, s324_65, s324_66, s324_68, s324_69, s324_72, s324_75, s324_76, s324_78, s324_79, s324_82, s324_85, s324_86, s324_88, s324_89, s324_92, s324_95, s324_96, s324_98, s324_99, s324_102, s324_105, s324_107, s324_108, s324_109, s324_110, s324_113, s324_114, s324_115, s324_118, s324_120, s324_121, s324_122, s324_123, s324_126, s324_128, s324_129, s324_130, s324_133, s324_134, s324_137, s324_139, s324_140, s324_143, s324_145, s324_146, s324_149, s324_150, s324_151, s324_153, s324_154, s324_157, s324_158, s324_161, s324_164, s324_165, s324_167, s324_168, s324_171, s324_172, s324_175, s324_176, s324_179, s324_181, s324_182, s324_185, s324_186, s324_187, s324_190, s324_191, s324_192, s324_195, s324_198, s324_199, s324_200, s324_201, s324_204, s324_205, s324_206, s324_209, s324_212, s324_213, s324_214, s324_216, s324_217, s324_220, s324_222, s324_223, s324_226, s324_228, s324_229, s324_232, s324_234, s324_235, s324_238, s324_240, s324_241, s324_244, s324_246, s324_247, s324_250, s324_252, s324_253, s324_254, s324_256, s324_259, s324_262, s324_263, s324_264, s324_266, s324_269, s324_270, s324_273, s324_276, s324_277, s324_278, s324_279, s324_280, s324_281, s324_282, s324_284, s324_287, s324_288, s324_291, s324_294, s324_296, s324_298, s324_299, s324_302, s324_303, s324_306, s324_307, s324_308, s324_311, s324_312, s324_314, s324_316, s324_318, s324_319, s324_322, s324_325, s324_327, s324_330, s324_331, s324_332, s324_334, s324_336, s324_339, s324_340, s324_341, s324_344, s324_345, s324_346, s324_349, s324_351, s324_352, s324_353, s324_356, s324_357, s324_358, s324_361, s324_362, s324_365, s324_366, s324_367, s324_368, s324_371, s324_372, s324_375, s324_376, s324_377, s324_380, s324_382, s324_385, s324_387, s324_388, s324_390, s324_391, s324_394, s324_395, s324_397, s324_399, s324_401, s324_403, s324_406, s324_409, s324_411, s324_412, s324_413, s324_414, s324_416, s324_418, s324_421, s324_423, s324_425, s324_428, s324_430, s324_431, s324_434, s324_436, s324_439, s324_441, s324_444, s324_445, s324_446, s324_448, s324_450, s324_453, s324_454, s324_455, s324_457, s324_460, s324_461, s324_463, s324_466, s324_467, s324_468, s324_471, s324_472, s324_473, s324_476, s324_477, s324_480, s324_483, s324_484, s324_485, s324_488, s324_489, s324_490, s324_493, s324_496, s324_497, mq_k0s, mq_k1s, mq_k2s, mq_k4s, mq_k5s, mq_k5n, mq_k5as, mq_k6s, mj_pu, mj_lo, mj_br, mj_hr, mj_hw, mq_gf, mq_len, mq_al, mq_pf, mq_ok, mj_re, mq_lkm, mq_lkn, mj_ldi, mj_ldl, mj_lda, mj_ii, mj_ll, mj_li, mj_i1, ms_1, ms_2, f1_n, f1_i, f1_r, f1_u, f1_l, f2_n, f2_i, f2_r, f2_u, f2_l, mj_tg, mj_c1, mj_c2, mj_ar, mj_aw, mq_cb, mq_oi, mj_rm, Value.category, -getElem?_pos, List.getElem?_cons_zero, decide_eq_true, decide_eq_false, nl_lt, nl_le, ln_lt, ln_le, nl_eq, ln_eq, nl_add, ln_add, nl_sub, ln_mul, nI_sub, nI_mul, nI_add, nI_lt_iff, nI_le_iff, nI_inj, nI_num, mq_ix, nI_1, nl_mul, nl_div, wkc_on hx hj, wkl_on hx, wkc_acts hx hj, wkl_acts hx, wkc_limit hx hj, wkl_limit hx, wkc_generation hx hj, wkl_generation hx, wkc_area hx hj, wkl_area hx, wkc_fend hx hj, wkl_fend hx, wkc_master hx hj, wkl_master hx, wkc_pinOf hx hj, wkl_pinOf hx, wkc_tries hx hj, wkl_tries hx, wkc_own hx hj, wkl_own hx, wkc_creds hx hj, wkl_creds hx, wkc_presses hx hj, wkl_presses hx, wkc_taken hx hj, wkl_taken hx, wkc_answered hx hj, wkl_answered hx, wkc_agreeing hx hj, wkl_agreeing hx, wkc_token hx hj, wkl_token hx, wkc_wrong hx hj, wkl_wrong hx, wkc_heard hx hj, wkl_heard hx, wkc_listed hx hj, wkl_listed hx, wkc_listAt hx hj, wkl_listAt hx, wkc_listHash hx hj, wkl_listHash hx, wkc_listFlags hx hj, wkl_listFlags hx, wkc_answerSize hx hj, wkl_answerSize hx, wkc_flash hx hj, wkl_flash hx hj, p1, p2, p3, narrow]
      · rw [htn, hd0_n n (by omega)]
        simp [S_cb_mmade4_0, S_bx_mcan1_0, S_b8_mkey_1, S_b8_mkey_0, S_b1_mterm_0, S_b1_copy_0, S_b0_mod_7, S_b0_mod_6, S_b0_mod_5, S_b0_mod_3, S_b0_mod_2, S_b0_mod_1, S_b0_mod_0, S_cb_mmade4_1h, S_bx_mcan1_1h, S_b0_mod_4h]
    · have w2 : oVn ms (mem ms 2) = 2 := by omega
      rw [if_neg w1, if_pos w2]
      rw [w2] at F4
      obtain ⟨y1, p1, z1, k1⟩ := q_tell (d := d + 6) (B := B) (x := x.wk j k.1.1.1.1 m) hy (by omega) 161
      obtain ⟨y2, p2, z2, k2⟩ := q_tell (d := d + 6) (B := B) (x := x.wk j k.1.1.1.1 m) z1 (by simp [S_cb_mmade4_0, S_bx_mcan1_0, S_b8_mkey_1, S_b8_mkey_0, S_b1_mterm_0, S_b1_copy_0, S_b0_mod_7, S_b0_mod_6, S_b0_mod_5, S_b0_mod_3, S_b0_mod_2, S_b0_mod_1, S_b0_mod_0, S_cb_mmade4_1h, S_bx_mcan1_1h, S_b0_mod_4h]; omega) 1
      obtain ⟨y3, p3, z3, k3⟩ := q_publicOf (d := d + 3) (B := B) (x := x.wk j k.1.1.1.1 m) z2 (by omega) m.1.1.2.1
      rw [hk.ag] at p3 z3
      obtain ⟨y4, p4, z4, k4⟩ := q_tellInt (d := d + 5) (B := B) (x := x.wk j k.1.1.1.1 m) z3 (by simp [S_cb_mmade4_0, S_bx_mcan1_0, S_b8_mkey_1, S_b8_mkey_0, S_b1_mterm_0, S_b1_copy_0, S_b0_mod_7, S_b0_mod_6, S_b0_mod_5, S_b0_mod_3, S_b0_mod_2, S_b0_mod_1, S_b0_mod_0, S_cb_mmade4_1h, S_bx_mcan1_1h, S_b0_mod_4h]; omega) (nI (tm_no T [2, nI k.1.2.2.2]))
      refine ⟨0, m, y4, _, _, F4 _ ?_, hm, (kr_mk_ hk.pr hk.ta hk.an hk.ag hk.tk hk.wr hk.he), hc, z4, rfl, fun _ => ⟨rfl, fun _ => ⟨161 :: nI 1 :: 68 :: b4 (nI (tm_no T [2, nI k.1.2.2.2])), ?_, rfl⟩⟩⟩
      · have ha := hk.ag
        generalize nI (tm_no T [2, nI k.1.2.2.2]) = tn at *
        generalize oP (mem ms 6) = v6 at *
        generalize oP (mem ms 5) = v5 at *
        generalize oP (mem ms 4) = v4 at *
        generalize oP (mem ms 3) = v3 at *
        simp (disch := (first | omega | decide)) [S_cb_mmade4_0, S_bx_mcan1_0, S_b8_mkey_1, S_b8_mkey_0, S_b1_mterm_0, S_b1_copy_0, S_b0_mod_7, S_b0_mod_6, S_b0_mod_5, S_b0_mod_3, S_b0_mod_2, S_b0_mod_1, S_b0_mod_0, S_cb_mmade4_1h, S_bx_mcan1_1h, S_b0_mod_4h, s324_0, s324_1, s324_2, s324_3, s324_6, s324_7, s324_8, s324_9, s324_10, s324_13, s324_14, s324_15, s324_16, s324_17, s324_20, s324_22, s324_23, s324_24, s324_25, s324_28, s324_30, s324_31, s324_32, s324_33, s324_36, s324_38, s324_39, s324_40, s324_42, s324_45, s324_47, s324_48, s324_49, s324_50, s324_53, s324_56, s324_57, s324_58, s324_59, s324_62, s324_65, s324_66, s324_68, s324_69, s324_72, s324_75, s324_76, s324_78, s324_79, s324_82, s324_85, s324_86, s324_88, s324_89, s324_92, s324_95, s324_96, s324_98, s324_99, s324_102, s324_105, s324_107, s324_108, s324_109, s324_110, s324_113, s324_114, s324_115, s324_118, s324_120, s324_121, s324_122, s324_123, s324_126, s324_128, s324_129, s324_130, s324_133, s324_134, s324_137, s324_139, s324_140, s324_143, s324_145, s324_146, s324_149, s324_150, s324_151, s324_153, s324_154, s324_157, s324_158, s324_161, s324_164, s324_165, s324_167, s324_168, s324_171, s324_172, s324_175, s324_176, s324_179, s324_181, s324_182, s324_185, s324_186, s324_187, s324_190, s324_191, s324_192, s324_195, s324_198, s324_199, s324_200, s324_201, s324_204, s324_205, s324_206, s324_209, s324_212, s324_213, s324_214, s324_216, s324_217, s324_220, s324_222, s324_223, s324_226, s324_228, s324_229, s324_232, s324_234, s324_235, s324_238, s324_240, s324_241, s324_244, s324_246, s324_247, s324_250, s324_252, s324_253, s324_254, s324_256, s324_259, s324_262, s324_263, s324_264, s324_266, s324_269, s324_270, s324_273, s324_276, s324_277, s324_278, s324_279, s324_280, s324_281, s324_282, s324_284, s324_287, s324_288, s324_291, s324_294, s324_296, s324_298, s324_299, s324_302, s324_303, s324_306, s324_307, s324_308, s324_311, s324_312, s324_314, s324_316, s324_318, s324_319, s324_322, s324_325, s324_327, s324_330, s324_331, s324_332, s324_334, s324_336, s324_339, s324_340, s324_341, s324_344, s324_345, s324_346, s324_349, s324_351, s324_352, s324_353, s324_356, s324_357, s324_358, s324_361, s324_362, s324_365, s324_366, s324_367, s324_368, s324_371, s324_372, s324_375, s324_376, s324_377, s324_380, s324_382, s324_385, s324_387, s324_388, s324_390, s324_391, s324_394, s324_395, s324_397, s324_399, s324_401, s324_403, s324_406, s324_409, s324_411, s324_412, s324_413, s324_414, s324_416, s324_418, s324_421, s324_423, s324_425, s324_428, s324_430, s324_431, s324_434, s324_436, s324_439, s324_441, s324_444, s324_445, s324_446, s324_448, s324_450, s324_453, s324_454, s324_455, s324_457, s324_460, s324_461, s324_463, s324_466, s324_467, s324_468, s324_471, s324_472, s324_473, s324_476, s324_477, s324_480, s324_483, s324_484, s324_485, s324_488, s324_489, s324_490, s324_493, s324_496, s324_497, mq_k0s, mq_k1s, mq_k2s, mq_k4s, mq_k5s, mq_k5n, mq_k5as, mq_k6s, mj_pu, mj_lo, mj_br, mj_hr, mj_hw, mq_gf, mq_len, mq_al, mq_pf, mq_ok, mj_re, mq_lkm, mq_lkn, mj_ldi, mj_ldl, mj_lda, mj_ii, mj_ll, mj_li, mj_i1, ms_1, ms_2, f1_n, f1_i, f1_r, f1_u, f1_l, f2_n, f2_i, f2_r, f2_u, f2_l, mj_tg, mj_c1, mj_c2, mj_ar, mj_aw, mq_cb, mq_oi, mj_rm, Value.category, -getElem?_pos, List.getElem?_cons_zero, decide_eq_true, decide_eq_false, nl_lt, nl_le, ln_lt, ln_le, nl_eq, ln_eq, nl_add, ln_add, nl_sub, ln_mul, nI_sub, nI_mul, nI_add, nI_lt_iff, nI_le_iff, nI_inj, nI_num, mq_ix, nI_1, nl_mul, nl_div, wkc_on hx hj, wkl_on hx, wkc_acts hx hj, wkl_acts hx, wkc_limit hx hj, wkl_limit hx, wkc_generation hx hj, wkl_generation hx, wkc_area hx hj, wkl_area hx, wkc_fend hx hj, wkl_fend hx, wkc_master hx hj, wkl_master hx, wkc_pinOf hx hj, wkl_pinOf hx, wkc_tries hx hj, wkl_tries hx, wkc_own hx hj, wkl_own hx, wkc_creds hx hj, wkl_creds hx, wkc_presses hx hj, wkl_presses hx, wkc_taken hx hj, wkl_taken hx, wkc_answered hx hj, wkl_answered hx, wkc_agreeing hx hj, wkl_agreeing hx, wkc_token hx hj, wkl_token hx, wkc_wrong hx hj, wkl_wrong hx, wkc_heard hx hj, wkl_heard hx, wkc_listed hx hj, wkl_listed hx, wkc_listAt hx hj, wkl_listAt hx, wkc_listHash hx hj, wkl_listHash hx, wkc_listFlags hx hj, wkl_listFlags hx, wkc_answerSize hx hj, wkl_answerSize hx, wkc_flash hx hj, wkl_flash hx hj, ha, p1, p2, p3, p4, narrow]
      · simp [S_cb_mmade4_0, S_bx_mcan1_0, S_b8_mkey_1, S_b8_mkey_0, S_b1_mterm_0, S_b1_copy_0, S_b0_mod_7, S_b0_mod_6, S_b0_mod_5, S_b0_mod_3, S_b0_mod_2, S_b0_mod_1, S_b0_mod_0, S_cb_mmade4_1h, S_bx_mcan1_1h, S_b0_mod_4h, show nI 1 = (1 : Int32) from rfl]
  have hst3 : 3 ≤ oVn ms (mem ms 2) := by omega
  have hw1 : ¬ oVn ms (mem ms 2) = 1 := by omega
  have hw2 : ¬ oVn ms (mem ms 2) = 2 := by omega
  -- what must be there
  have missIff : pnMiss ms (oVn ms (mem ms 2)) ↔ (mem ms 3 = none ∨ (oVn ms (mem ms 2) < 5 ∧ (mem ms 4 = none ∨ mem ms 5 = none)) ∨ (3 < oVn ms (mem ms 2) ∧ mem ms 6 = none)) := by
    generalize oVn ms (mem ms 2) = st at *
    constructor
    · rintro ⟨i, h3, h6, hw, hn⟩
      unfold wantd at hw
      have : i = 3 ∨ i = 4 ∨ i = 5 ∨ i = 6 := by omega
      rcases this with rfl | rfl | rfl | rfl
      · exact Or.inl hn
      · simp [S_cb_mmade4_0, S_bx_mcan1_0, S_b8_mkey_1, S_b8_mkey_0, S_b1_mterm_0, S_b1_copy_0, S_b0_mod_7, S_b0_mod_6, S_b0_mod_5, S_b0_mod_3, S_b0_mod_2, S_b0_mod_1, S_b0_mod_0, S_cb_mmade4_1h, S_bx_mcan1_1h, S_b0_mod_4h] at hw; exact Or.inr (Or.inl ⟨by omega, Or.inl hn⟩)
      · simp [S_cb_mmade4_0, S_bx_mcan1_0, S_b8_mkey_1, S_b8_mkey_0, S_b1_mterm_0, S_b1_copy_0, S_b0_mod_7, S_b0_mod_6, S_b0_mod_5, S_b0_mod_3, S_b0_mod_2, S_b0_mod_1, S_b0_mod_0, S_cb_mmade4_1h, S_bx_mcan1_1h, S_b0_mod_4h] at hw; exact Or.inr (Or.inl ⟨by omega, Or.inr hn⟩)
      · simp [S_cb_mmade4_0, S_bx_mcan1_0, S_b8_mkey_1, S_b8_mkey_0, S_b1_mterm_0, S_b1_copy_0, S_b0_mod_7, S_b0_mod_6, S_b0_mod_5, S_b0_mod_3, S_b0_mod_2, S_b0_mod_1, S_b0_mod_0, S_cb_mmade4_1h, S_bx_mcan1_1h, S_b0_mod_4h] at hw; exact Or.inr (Or.inr ⟨by omega, hn⟩)
    · rintro (z | ⟨z1, z | z⟩ | ⟨z1, z⟩)
      · exact ⟨3, by omega, by omega, rfl, z⟩
      · exact ⟨4, by omega, by omega, by unfold wantd; simp [S_cb_mmade4_0, S_bx_mcan1_0, S_b8_mkey_1, S_b8_mkey_0, S_b1_mterm_0, S_b1_copy_0, S_b0_mod_7, S_b0_mod_6, S_b0_mod_5, S_b0_mod_3, S_b0_mod_2, S_b0_mod_1, S_b0_mod_0, S_cb_mmade4_1h, S_bx_mcan1_1h, S_b0_mod_4h]; omega, z⟩
      · exact ⟨5, by omega, by omega, by unfold wantd; simp [S_cb_mmade4_0, S_bx_mcan1_0, S_b8_mkey_1, S_b8_mkey_0, S_b1_mterm_0, S_b1_copy_0, S_b0_mod_7, S_b0_mod_6, S_b0_mod_5, S_b0_mod_3, S_b0_mod_2, S_b0_mod_1, S_b0_mod_0, S_cb_mmade4_1h, S_bx_mcan1_1h, S_b0_mod_4h]; omega, z⟩
      · exact ⟨6, by omega, by omega, by unfold wantd; simp [S_cb_mmade4_0, S_bx_mcan1_0, S_b8_mkey_1, S_b8_mkey_0, S_b1_mterm_0, S_b1_copy_0, S_b0_mod_7, S_b0_mod_6, S_b0_mod_5, S_b0_mod_3, S_b0_mod_2, S_b0_mod_1, S_b0_mod_0, S_cb_mmade4_1h, S_bx_mcan1_1h, S_b0_mod_4h]; omega, z⟩
  rw [if_neg hw1, if_neg hw2]
  by_cases c5 : pnMiss ms (oVn ms (mem ms 2))
  · have e : pnFault T ms (oVn ms (mem ms 2)) = 20 := by unfold pnFault; rw [if_neg c1, if_neg c2, if_neg c3, if_neg c4, if_pos c5]
    rw [e, if_pos (by decide)]
    refine no 20 (by decide) (F4 _ ?_)
    have c5 := missIff.mp c5
    clear F1 F2 F3 F4 no missIff
    generalize oVn ms (mem ms 2) = st at *
    generalize oP (mem ms 6) = v6 at *
    generalize oP (mem ms 5) = v5 at *
    generalize oP (mem ms 4) = v4 at *
    generalize oP (mem ms 3) = v3 at *
    by_cases g3 : mem ms 3 = none
    · simp (disch := (first | omega | decide)) [S_cb_mmade4_0, S_bx_mcan1_0, S_b8_mkey_1, S_b8_mkey_0, S_b1_mterm_0, S_b1_copy_0, S_b0_mod_7, S_b0_mod_6, S_b0_mod_5, S_b0_mod_3, S_b0_mod_2, S_b0_mod_1, S_b0_mod_0, S_cb_mmade4_1h, S_bx_mcan1_1h, S_b0_mod_4h, s324_0, s324_1, s324_2, s324_3, s324_6, s324_7, s324_8, s324_9, s324_10, s324_13, s324_14, s324_15, s324_16, s324_17, s324_20, s324_22, s324_23, s324_24, s324_25, s324_28, s324_30, s324_31, s324_32, s324_33, s324_36, s324_38, s324_39, s324_40, s324_42, s324_45, s324_47, s324_48, s324_49, s324_50, s324_53, s324_56, s324_57, s324_58, s324_59, s324_62, s324_65, s324_66, s324_68, s324_69, s324_72, s324_75, s324_76, s324_78, s324_79, s324_82, s324_85, s324_86, s324_88, s324_89, s324_92, s324_95, s324_96, s324_98, s324_99, s324_102, s324_105, s324_107, s324_108, s324_109, s324_110, s324_113, s324_114, s324_115, s324_118, s324_120, s324_121, s324_122, s324_123, s324_126, s324_128, s324_129, s324_130, s324_133, s324_134, s324_137, s324_139, s324_140, s324_143, s324_145, s324_146, s324_149, s324_150, s324_151, s324_153, s324_154, s324_157, s324_158, s324_161, s324_164, s324_165, s324_167, s324_168, s324_171, s324_172, s324_175, s324_176, s324_179, s324_181, s324_182, s324_185, s324_186, s324_187, s324_190, s324_191, s324_192, s324_195, s324_198, s324_199, s324_200, s324_201, s324_204, s324_205, s324_206, s324_209, s324_212, s324_213, s324_214, s324_216, s324_217, s324_220, s324_222, s324_223, s324_226, s324_228, s324_229, s324_232, s324_234, s324_235, s324_238, s324_240, s324_241, s324_244, s324_246, s324_247, s324_250, s324_252, s324_253, s324_254, s324_256, s324_259, s324_262, s324_263, s324_264, s324_266, s324_269, s324_270, s324_273, s324_276, s324_277, s324_278, s324_279, s324_280, s324_281, s324_282, s324_284, s324_287, s324_288, s324_291, s324_294, s324_296, s324_298, s324_299, s324_302, s324_303, s324_306, s324_307, s324_308, s324_311, s324_312, s324_314, s324_316, s324_318, s324_319, s324_322, s324_325, s324_327, s324_330, s324_331, s324_332, s324_334, s324_336, s324_339, s324_340, s324_341, s324_344, s324_345, s324_346, s324_349, s324_351, s324_352, s324_353, s324_356, s324_357, s324_358, s324_361, s324_362, s324_365, s324_366, s324_367, s324_368, s324_371, s324_372, s324_375, s324_376, s324_377, s324_380, s324_382, s324_385, s324_387, s324_388, s324_390, s324_391, s324_394, s324_395, s324_397, s324_399, s324_401, s324_403, s324_406, s324_409, s324_411, s324_412, s324_413, s324_414, s324_416, s324_418, s324_421, s324_423, s324_425, s324_428, s324_430, s324_431, s324_434, s324_436, s324_439, s324_441, s324_444, s324_445, s324_446, s324_448, s324_450, s324_453, s324_454, s324_455, s324_457, s324_460, s324_461, s324_463, s324_466, s324_467, s324_468, s324_471, s324_472, s324_473, s324_476, s324_477, s324_480, s324_483, s324_484, s324_485, s324_488, s324_489, s324_490, s324_493, s324_496, s324_497, mq_k0s, mq_k1s, mq_k2s, mq_k4s, mq_k5s, mq_k5n, mq_k5as, mq_k6s, mj_pu, mj_lo, mj_br, mj_hr, mj_hw, mq_gf, mq_len, mq_al, mq_pf, mq_ok, mj_re, mq_lkm, mq_lkn, mj_ldi, mj_ldl, mj_lda, mj_ii, mj_ll, mj_li, mj_i1, ms_1, ms_2, f1_n, f1_i, f1_r, f1_u, f1_l, f2_n, f2_i, f2_r, f2_u, f2_l, mj_tg, mj_c1, mj_c2, mj_ar, mj_aw, mq_cb, mq_oi, mj_rm, Value.category, -getElem?_pos, List.getElem?_cons_zero, decide_eq_true, decide_eq_false, nl_lt, nl_le, ln_lt, ln_le, nl_eq, ln_eq, nl_add, ln_add, nl_sub, ln_mul, nI_sub, nI_mul, nI_add, nI_lt_iff, nI_le_iff, nI_inj, nI_num, mq_ix, nI_1, nl_mul, nl_div, n3.mpr g3, show ¬ st < 3 by omega, show 3 ≤ st by omega, narrow]
    have g3' := (not_congr n3).mpr g3
    by_cases g45 : st < 5
    · by_cases g4 : mem ms 4 = none
      · simp (disch := (first | omega | decide)) [S_cb_mmade4_0, S_bx_mcan1_0, S_b8_mkey_1, S_b8_mkey_0, S_b1_mterm_0, S_b1_copy_0, S_b0_mod_7, S_b0_mod_6, S_b0_mod_5, S_b0_mod_3, S_b0_mod_2, S_b0_mod_1, S_b0_mod_0, S_cb_mmade4_1h, S_bx_mcan1_1h, S_b0_mod_4h, s324_0, s324_1, s324_2, s324_3, s324_6, s324_7, s324_8, s324_9, s324_10, s324_13, s324_14, s324_15, s324_16, s324_17, s324_20, s324_22, s324_23, s324_24, s324_25, s324_28, s324_30, s324_31, s324_32, s324_33, s324_36, s324_38, s324_39, s324_40, s324_42, s324_45, s324_47, s324_48, s324_49, s324_50, s324_53, s324_56, s324_57, s324_58, s324_59, s324_62, s324_65, s324_66, s324_68, s324_69, s324_72, s324_75, s324_76, s324_78, s324_79, s324_82, s324_85, s324_86, s324_88, s324_89, s324_92, s324_95, s324_96, s324_98, s324_99, s324_102, s324_105, s324_107, s324_108, s324_109, s324_110, s324_113, s324_114, s324_115, s324_118, s324_120, s324_121, s324_122, s324_123, s324_126, s324_128, s324_129, s324_130, s324_133, s324_134, s324_137, s324_139, s324_140, s324_143, s324_145, s324_146, s324_149, s324_150, s324_151, s324_153, s324_154, s324_157, s324_158, s324_161, s324_164, s324_165, s324_167, s324_168, s324_171, s324_172, s324_175, s324_176, s324_179, s324_181, s324_182, s324_185, s324_186, s324_187, s324_190, s324_191, s324_192, s324_195, s324_198, s324_199, s324_200, s324_201, s324_204, s324_205, s324_206, s324_209, s324_212, s324_213, s324_214, s324_216, s324_217, s324_220, s324_222, s324_223, s324_226, s324_228, s324_229, s324_232, s324_234, s324_235, s324_238, s324_240, s324_241, s324_244, s324_246, s324_247, s324_250, s324_252, s324_253, s324_254, s324_256, s324_259, s324_262, s324_263, s324_264, s324_266, s324_269, s324_270, s324_273, s324_276, s324_277, s324_278, s324_279, s324_280, s324_281, s324_282, s324_284, s324_287, s324_288, s324_291, s324_294, s324_296, s324_298, s324_299, s324_302, s324_303, s324_306, s324_307, s324_308, s324_311, s324_312, s324_314, s324_316, s324_318, s324_319, s324_322, s324_325, s324_327, s324_330, s324_331, s324_332, s324_334, s324_336, s324_339, s324_340, s324_341, s324_344, s324_345, s324_346, s324_349, s324_351, s324_352, s324_353, s324_356, s324_357, s324_358, s324_361, s324_362, s324_365, s324_366, s324_367, s324_368, s324_371, s324_372, s324_375, s324_376, s324_377, s324_380, s324_382, s324_385, s324_387, s324_388, s324_390, s324_391, s324_394, s324_395, s324_397, s324_399, s324_401, s324_403, s324_406, s324_409, s324_411, s324_412, s324_413, s324_414, s324_416, s324_418, s324_421, s324_423, s324_425, s324_428, s324_430, s324_431, s324_434, s324_436, s324_439, s324_441, s324_444, s324_445, s324_446, s324_448, s324_450, s324_453, s324_454, s324_455, s324_457, s324_460, s324_461, s324_463, s324_466, s324_467, s324_468, s324_471, s324_472, s324_473, s324_476, s324_477, s324_480, s324_483, s324_484, s324_485, s324_488, s324_489, s324_490, s324_493, s324_496, s324_497, mq_k0s, mq_k1s, mq_k2s, mq_k4s, mq_k5s, mq_k5n, mq_k5as, mq_k6s, mj_pu, mj_lo, mj_br, mj_hr, mj_hw, mq_gf, mq_len, mq_al, mq_pf, mq_ok, mj_re, mq_lkm, mq_lkn, mj_ldi, mj_ldl, mj_lda, mj_ii, mj_ll, mj_li, mj_i1, ms_1, ms_2, f1_n, f1_i, f1_r, f1_u, f1_l, f2_n, f2_i, f2_r, f2_u, f2_l, mj_tg, mj_c1, mj_c2, mj_ar, mj_aw, mq_cb, mq_oi, mj_rm, Value.category, -getElem?_pos, List.getElem?_cons_zero, decide_eq_true, decide_eq_false, nl_lt, nl_le, ln_lt, ln_le, nl_eq, ln_eq, nl_add, ln_add, nl_sub, ln_mul, nI_sub, nI_mul, nI_add, nI_lt_iff, nI_le_iff, nI_inj, nI_num, mq_ix, nI_1, nl_mul, nl_div, g3', n4.mpr g4, show 3 ≤ st by omega, show ¬ 5 ≤ st by omega, narrow]
      have g4' := (not_congr n4).mpr g4
      by_cases g5 : mem ms 5 = none
      · simp (disch := (first | omega | decide)) [S_cb_mmade4_0, S_bx_mcan1_0, S_b8_mkey_1, S_b8_mkey_0, S_b1_mterm_0, S_b1_copy_0, S_b0_mod_7, S_b0_mod_6, S_b0_mod_5, S_b0_mod_3, S_b0_mod_2, S_b0_mod_1, S_b0_mod_0, S_cb_mmade4_1h, S_bx_mcan1_1h, S_b0_mod_4h, s324_0, s324_1, s324_2, s324_3, s324_6, s324_7, s324_8, s324_9, s324_10, s324_13, s324_14, s324_15, s324_16, s324_17, s324_20, s324_22, s324_23, s324_24, s324_25, s324_28, s324_30, s324_31, s324_32, s324_33, s324_36, s324_38, s324_39, s324_40, s324_42, s324_45, s324_47, s324_48, s324_49, s324_50, s324_53, s324_56, s324_57, s324_58, s324_59, s324_62, s324_65, s324_66, s324_68, s324_69, s324_72, s324_75, s324_76, s324_78, s324_79, s324_82, s324_85, s324_86, s324_88, s324_89, s324_92, s324_95, s324_96, s324_98, s324_99, s324_102, s324_105, s324_107, s324_108, s324_109, s324_110, s324_113, s324_114, s324_115, s324_118, s324_120, s324_121, s324_122, s324_123, s324_126, s324_128, s324_129, s324_130, s324_133, s324_134, s324_137, s324_139, s324_140, s324_143, s324_145, s324_146, s324_149, s324_150, s324_151, s324_153, s324_154, s324_157, s324_158, s324_161, s324_164, s324_165, s324_167, s324_168, s324_171, s324_172, s324_175, s324_176, s324_179, s324_181, s324_182, s324_185, s324_186, s324_187, s324_190, s324_191, s324_192, s324_195, s324_198, s324_199, s324_200, s324_201, s324_204, s324_205, s324_206, s324_209, s324_212, s324_213, s324_214, s324_216, s324_217, s324_220, s324_222, s324_223, s324_226, s324_228, s324_229, s324_232, s324_234, s324_235, s324_238, s324_240, s324_241, s324_244, s324_246, s324_247, s324_250, s324_252, s324_253, s324_254, s324_256, s324_259, s324_262, s324_263, s324_264, s324_266, s324_269, s324_270, s324_273, s324_276, s324_277, s324_278, s324_279, s324_280, s324_281, s324_282, s324_284, s324_287, s324_288, s324_291, s324_294, s324_296, s324_298, s324_299, s324_302, s324_303, s324_306, s324_307, s324_308, s324_311, s324_312, s324_314, s324_316, s324_318, s324_319, s324_322, s324_325, s324_327, s324_330, s324_331, s324_332, s324_334, s324_336, s324_339, s324_340, s324_341, s324_344, s324_345, s324_346, s324_349, s324_351, s324_352, s324_353, s324_356, s324_357, s324_358, s324_361, s324_362, s324_365, s324_366, s324_367, s324_368, s324_371, s324_372, s324_375, s324_376, s324_377, s324_380, s324_382, s324_385, s324_387, s324_388, s324_390, s324_391, s324_394, s324_395, s324_397, s324_399, s324_401, s324_403, s324_406, s324_409, s324_411, s324_412, s324_413, s324_414, s324_416, s324_418, s324_421, s324_423, s324_425, s324_428, s324_430, s324_431, s324_434, s324_436, s324_439, s324_441, s324_444, s324_445, s324_446, s324_448, s324_450, s324_453, s324_454, s324_455, s324_457, s324_460, s324_461, s324_463, s324_466, s324_467, s324_468, s324_471, s324_472, s324_473, s324_476, s324_477, s324_480, s324_483, s324_484, s324_485, s324_488, s324_489, s324_490, s324_493, s324_496, s324_497, mq_k0s, mq_k1s, mq_k2s, mq_k4s, mq_k5s, mq_k5n, mq_k5as, mq_k6s, mj_pu, mj_lo, mj_br, mj_hr, mj_hw, mq_gf, mq_len, mq_al, mq_pf, mq_ok, mj_re, mq_lkm, mq_lkn, mj_ldi, mj_ldl, mj_lda, mj_ii, mj_ll, mj_li, mj_i1, ms_1, ms_2, f1_n, f1_i, f1_r, f1_u, f1_l, f2_n, f2_i, f2_r, f2_u, f2_l, mj_tg, mj_c1, mj_c2, mj_ar, mj_aw, mq_cb, mq_oi, mj_rm, Value.category, -getElem?_pos, List.getElem?_cons_zero, decide_eq_true, decide_eq_false, nl_lt, nl_le, ln_lt, ln_le, nl_eq, ln_eq, nl_add, ln_add, nl_sub, ln_mul, nI_sub, nI_mul, nI_add, nI_lt_iff, nI_le_iff, nI_inj, nI_num, mq_ix, nI_1, nl_mul, nl_div, g3', g4', n5.mpr g5, show 3 ≤ st by omega, show ¬ 5 ≤ st by omega, narrow]
      have g5' := (not_congr n5).mpr g5
      have g6 : 3 < st ∧ mem ms 6 = none := by
        rcases c5 with z | ⟨-, z | z⟩ | z
        · exact absurd z g3
        · exact absurd z g4
        · exact absurd z g5
        · exact z
      simp (disch := (first | omega | decide)) [S_cb_mmade4_0, S_bx_mcan1_0, S_b8_mkey_1, S_b8_mkey_0, S_b1_mterm_0, S_b1_copy_0, S_b0_mod_7, S_b0_mod_6, S_b0_mod_5, S_b0_mod_3, S_b0_mod_2, S_b0_mod_1, S_b0_mod_0, S_cb_mmade4_1h, S_bx_mcan1_1h, S_b0_mod_4h, s324_0, s324_1, s324_2, s324_3, s324_6, s324_7, s324_8, s324_9, s324_10, s324_13, s324_14, s324_15, s324_16, s324_17, s324_20, s324_22, s324_23, s324_24, s324_25, s324_28, s324_30, s324_31, s324_32, s324_33, s324_36, s324_38, s324_39, s324_40, s324_42, s324_45, s324_47, s324_48, s324_49, s324_50, s324_53, s324_56, s324_57, s324_58, s324_59, s324_62, s324_65, s324_66, s324_68, s324_69, s324_72, s324_75, s324_76, s324_78, s324_79, s324_82, s324_85, s324_86, s324_88, s324_89, s324_92, s324_95, s324_96, s324_98, s324_99, s324_102, s324_105, s324_107, s324_108, s324_109, s324_110, s324_113, s324_114, s324_115, s324_118, s324_120, s324_121, s324_122, s324_123, s324_126, s324_128, s324_129, s324_130, s324_133, s324_134, s324_137, s324_139, s324_140, s324_143, s324_145, s324_146, s324_149, s324_150, s324_151, s324_153, s324_154, s324_157, s324_158, s324_161, s324_164, s324_165, s324_167, s324_168, s324_171, s324_172, s324_175, s324_176, s324_179, s324_181, s324_182, s324_185, s324_186, s324_187, s324_190, s324_191, s324_192, s324_195, s324_198, s324_199, s324_200, s324_201, s324_204, s324_205, s324_206, s324_209, s324_212, s324_213, s324_214, s324_216, s324_217, s324_220, s324_222, s324_223, s324_226, s324_228, s324_229, s324_232, s324_234, s324_235, s324_238, s324_240, s324_241, s324_244, s324_246, s324_247, s324_250, s324_252, s324_253, s324_254, s324_256, s324_259, s324_262, s324_263, s324_264, s324_266, s324_269, s324_270, s324_273, s324_276, s324_277, s324_278, s324_279, s324_280, s324_281, s324_282, s324_284, s324_287, s324_288, s324_291, s324_294, s324_296, s324_298, s324_299, s324_302, s324_303, s324_306, s324_307, s324_308, s324_311, s324_312, s324_314, s324_316, s324_318, s324_319, s324_322, s324_325, s324_327, s324_330, s324_331, s324_332, s324_334, s324_336, s324_339, s324_340, s324_341, s324_344, s324_345, s324_346, s324_349, s324_351, s324_352, s324_353, s324_356, s324_357, s324_358, s324_361, s324_362, s324_365, s324_366, s324_367, s324_368, s324_371, s324_372, s324_375, s324_376, s324_377, s324_380, s324_382, s324_385, s324_387, s324_388, s324_390, s324_391, s324_394, s324_395, s324_397, s324_399, s324_401, s324_403, s324_406, s324_409, s324_411, s324_412, s324_413, s324_414, s324_416, s324_418, s324_421, s324_423, s324_425, s324_428, s324_430, s324_431, s324_434, s324_436, s324_439, s324_441, s324_444, s324_445, s324_446, s324_448, s324_450, s324_453, s324_454, s324_455, s324_457, s324_460, s324_461, s324_463, s324_466, s324_467, s324_468, s324_471, s324_472, s324_473, s324_476, s324_477, s324_480, s324_483, s324_484, s324_485, s324_488, s324_489, s324_490, s324_493, s324_496, s324_497, mq_k0s, mq_k1s, mq_k2s, mq_k4s, mq_k5s, mq_k5n, mq_k5as, mq_k6s, mj_pu, mj_lo, mj_br, mj_hr, mj_hw, mq_gf, mq_len, mq_al, mq_pf, mq_ok, mj_re, mq_lkm, mq_lkn, mj_ldi, mj_ldl, mj_lda, mj_ii, mj_ll, mj_li, mj_i1, ms_1, ms_2, f1_n, f1_i, f1_r, f1_u, f1_l, f2_n, f2_i, f2_r, f2_u, f2_l, mj_tg, mj_c1, mj_c2, mj_ar, mj_aw, mq_cb, mq_oi, mj_rm, Value.category, -getElem?_pos, List.getElem?_cons_zero, decide_eq_true, decide_eq_false, nl_lt, nl_le, ln_lt, ln_le, nl_eq, ln_eq, nl_add, ln_add, nl_sub, ln_mul, nI_sub, nI_mul, nI_add, nI_lt_iff, nI_le_iff, nI_inj, nI_num, mq_ix, nI_1, nl_mul, nl_div, g3', g4', g5', n6.mpr g6.2, show 3 ≤ st by omega, show ¬ 5 ≤ st by omega, show ¬ st ≤ 3 by omega, narrow]
    · have g6 : 3 < st ∧ mem ms 6 = none := by
        rcases c5 with z | ⟨z, -⟩ | z
        · exact absurd z g3
        · exact absurd z g45
        · exact z
      simp (disch := (first | omega | decide)) [S_cb_mmade4_0, S_bx_mcan1_0, S_b8_mkey_1, S_b8_mkey_0, S_b1_mterm_0, S_b1_copy_0, S_b0_mod_7, S_b0_mod_6, S_b0_mod_5, S_b0_mod_3, S_b0_mod_2, S_b0_mod_1, S_b0_mod_0, S_cb_mmade4_1h, S_bx_mcan1_1h, S_b0_mod_4h, s324_0, s324_1, s324_2, s324_3, s324_6, s324_7, s324_8, s324_9, s324_10, s324_13, s324_14, s324_15, s324_16, s324_17, s324_20, s324_22, s324_23, s324_24, s324_25, s324_28, s324_30, s324_31, s324_32, s324_33, s324_36, s324_38, s324_39, s324_40, s324_42, s324_45, s324_47, s324_48, s324_49, s324_50, s324_53, s324_56, s324_57, s324_58, s324_59, s324_62, s324_65, s324_66, s324_68, s324_69, s324_72, s324_75, s324_76, s324_78, s324_79, s324_82, s324_85, s324_86, s324_88, s324_89, s324_92, s324_95, s324_96, s324_98, s324_99, s324_102, s324_105, s324_107, s324_108, s324_109, s324_110, s324_113, s324_114, s324_115, s324_118, s324_120, s324_121, s324_122, s324_123, s324_126, s324_128, s324_129, s324_130, s324_133, s324_134, s324_137, s324_139, s324_140, s324_143, s324_145, s324_146, s324_149, s324_150, s324_151, s324_153, s324_154, s324_157, s324_158, s324_161, s324_164, s324_165, s324_167, s324_168, s324_171, s324_172, s324_175, s324_176, s324_179, s324_181, s324_182, s324_185, s324_186, s324_187, s324_190, s324_191, s324_192, s324_195, s324_198, s324_199, s324_200, s324_201, s324_204, s324_205, s324_206, s324_209, s324_212, s324_213, s324_214, s324_216, s324_217, s324_220, s324_222, s324_223, s324_226, s324_228, s324_229, s324_232, s324_234, s324_235, s324_238, s324_240, s324_241, s324_244, s324_246, s324_247, s324_250, s324_252, s324_253, s324_254, s324_256, s324_259, s324_262, s324_263, s324_264, s324_266, s324_269, s324_270, s324_273, s324_276, s324_277, s324_278, s324_279, s324_280, s324_281, s324_282, s324_284, s324_287, s324_288, s324_291, s324_294, s324_296, s324_298, s324_299, s324_302, s324_303, s324_306, s324_307, s324_308, s324_311, s324_312, s324_314, s324_316, s324_318, s324_319, s324_322, s324_325, s324_327, s324_330, s324_331, s324_332, s324_334, s324_336, s324_339, s324_340, s324_341, s324_344, s324_345, s324_346, s324_349, s324_351, s324_352, s324_353, s324_356, s324_357, s324_358, s324_361, s324_362, s324_365, s324_366, s324_367, s324_368, s324_371, s324_372, s324_375, s324_376, s324_377, s324_380, s324_382, s324_385, s324_387, s324_388, s324_390, s324_391, s324_394, s324_395, s324_397, s324_399, s324_401, s324_403, s324_406, s324_409, s324_411, s324_412, s324_413, s324_414, s324_416, s324_418, s324_421, s324_423, s324_425, s324_428, s324_430, s324_431, s324_434, s324_436, s324_439, s324_441, s324_444, s324_445, s324_446, s324_448, s324_450, s324_453, s324_454, s324_455, s324_457, s324_460, s324_461, s324_463, s324_466, s324_467, s324_468, s324_471, s324_472, s324_473, s324_476, s324_477, s324_480, s324_483, s324_484, s324_485, s324_488, s324_489, s324_490, s324_493, s324_496, s324_497, mq_k0s, mq_k1s, mq_k2s, mq_k4s, mq_k5s, mq_k5n, mq_k5as, mq_k6s, mj_pu, mj_lo, mj_br, mj_hr, mj_hw, mq_gf, mq_len, mq_al, mq_pf, mq_ok, mj_re, mq_lkm, mq_lkn, mj_ldi, mj_ldl, mj_lda, mj_ii, mj_ll, mj_li, mj_i1, ms_1, ms_2, f1_n, f1_i, f1_r, f1_u, f1_l, f2_n, f2_i, f2_r, f2_u, f2_l, mj_tg, mj_c1, mj_c2, mj_ar, mj_aw, mq_cb, mq_oi, mj_rm, Value.category, -getElem?_pos, List.getElem?_cons_zero, decide_eq_true, decide_eq_false, nl_lt, nl_le, ln_lt, ln_le, nl_eq, ln_eq, nl_add, ln_add, nl_sub, ln_mul, nI_sub, nI_mul, nI_add, nI_lt_iff, nI_le_iff, nI_inj, nI_num, mq_ix, nI_1, nl_mul, nl_div, g3', n6.mpr g6.2, show 3 ≤ st by omega, show 5 ≤ st by omega, show ¬ st ≤ 3 by omega, narrow]
  · have c5' := (not_congr missIff).mp c5
    simp only [not_or, not_and] at c5'
    obtain ⟨g3, g45, g6⟩ := c5'
    obtain ⟨p3, m3⟩ := Option.ne_none_iff_exists'.mp g3
    have i3 := J 3 p3 m3
    have s3 : cbS ms p3 = 2 := by
      have hf := c1'
      unfold pnFit at hf
      simp only [Bool.and_eq_true] at hf
      exact fit_s hf.2.2.1 (by omega) p3 m3
    have q3 := Io.l9 h i3
    have hd3 := (cbOk_hd.mp i3.ok).1
    have hV3 := hd3.2.2.2.2.2.1
    have ri := q_isInt (d := d + 4) (B := B) (x := x.wk j k.1.1.1.1 m) (y := y) hX hd3.1 hd3.2.2.2.1 hV3
    have to253 : ∀ r, mj_Rn (d + 7) mj_m324 253 [(8, .int (nI (oVn ms (mem ms 2)))), (7, .int (oP (mem ms 6))), (6, .int (oP (mem ms 5))), (5, .int (oP (mem ms 4))), (4, .int (oP (mem ms 3))), (0, .ref 67), (1, .int (nI j))] [] (mm B (x.wk j k.1.1.1.1 m) y) = some r → mj_V (d + 8) 324 [.ref 67, .int (nI j)] (mm B (x.wk j k.1.1.1.1 m) y) = some r := by
      intro r hr
      apply F4
      clear F1 F2 F3 F4 no missIff
      have g3' := (not_congr n3).mpr g3
      generalize oVn ms (mem ms 2) = st at *
      by_cases g5s : st < 5
      · have g4' := (not_congr n4).mpr (g45 g5s).1
        have g5' := (not_congr n5).mpr (g45 g5s).2
        by_cases g3s : 3 < st
        · have g6' := (not_congr n6).mpr (g6 g3s)
          generalize oP (mem ms 6) = v6 at *
          generalize oP (mem ms 5) = v5 at *
          generalize oP (mem ms 4) = v4 at *
          generalize oP (mem ms 3) = v3 at *
          simp (disch := (first | omega | decide)) [S_cb_mmade4_0, S_bx_mcan1_0, S_b8_mkey_1, S_b8_mkey_0, S_b1_mterm_0, S_b1_copy_0, S_b0_mod_7, S_b0_mod_6, S_b0_mod_5, S_b0_mod_3, S_b0_mod_2, S_b0_mod_1, S_b0_mod_0, S_cb_mmade4_1h, S_bx_mcan1_1h, S_b0_mod_4h, s324_0, s324_1, s324_2, s324_3, s324_6, s324_7, s324_8, s324_9, s324_10, s324_13, s324_14, s324_15, s324_16, s324_17, s324_20, s324_22, s324_23, s324_24, s324_25, s324_28, s324_30, s324_31, s324_32, s324_33, s324_36, s324_38, s324_39, s324_40, s324_42, s324_45, s324_47, s324_48, s324_49, s324_50, s324_53, s324_56, s324_57, s324_58, s324_59, s324_62, s324_65, s324_66, s324_68, s324_69, s324_72, s324_75, s324_76, s324_78, s324_79, s324_82, s324_85, s324_86, s324_88, s324_89, s324_92, s324_95, s324_96, s324_98, s324_99, s324_102, s324_105, s324_107, s324_108, s324_109, s324_110, s324_113, s324_114, s324_115, s324_118, s324_120, s324_121, s324_122, s324_123, s324_126, s324_128, s324_129, s324_130, s324_133, s324_134, s324_137, s324_139, s324_140, s324_143, s324_145, s324_146, s324_149, s324_150, s324_151, s324_153, s324_154, s324_157, s324_158, s324_161, s324_164, s324_165, s324_167, s324_168, s324_171, s324_172, s324_175, s324_176, s324_179, s324_181, s324_182, s324_185, s324_186, s324_187, s324_190, s324_191, s324_192, s324_195, s324_198, s324_199, s324_200, s324_201, s324_204, s324_205, s324_206, s324_209, s324_212, s324_213, s324_214, s324_216, s324_217, s324_220, s324_222, s324_223, s324_226, s324_228, s324_229, s324_232, s324_234, s324_235, s324_238, s324_240, s324_241, s324_244, s324_246, s324_247, s324_250, s324_252, s324_254, s324_256, s324_259, s324_262, s324_263, s324_264, s324_266, s324_269, s324_270, s324_273, s324_276, s324_277, s324_278, s324_279, s324_280, s324_281, s324_282, s324_284, s324_287, s324_288, s324_291, s324_294, s324_296, s324_298, s324_299, s324_302, s324_303, s324_306, s324_307, s324_308, s324_311, s324_312, s324_314, s324_316, s324_318, s324_319, s324_322, s324_325, s324_327, s324_330, s324_331, s324_332, s324_334, s324_336, s324_339, s324_340, s324_341, s324_344, s324_345, s324_346, s324_349, s324_351, s324_352, s324_353, s324_356, s324_357, s324_358, s324_361, s324_362, s324_365, s324_366, s324_367, s324_368, s324_371, s324_372, s324_375, s324_376, s324_377, s324_380, s324_382, s324_385, s324_387, s324_388, s324_390, s324_391, s324_394, s324_395, s324_397, s324_399, s324_401, s324_403, s324_406, s324_409, s324_411, s324_412, s324_413, s324_414, s324_416, s324_418, s324_421, s324_423, s324_425, s324_428, s324_430, s324_431, s324_434, s324_436, s324_439, s324_441, s324_444, s324_445, s324_446, s324_448, s324_450, s324_453, s324_454, s324_455, s324_457, s324_460, s324_461, s324_463, s324_466, s324_467, s324_468, s324_471, s324_472, s324_473, s324_476, s324_477, s324_480, s324_483, s324_484, s324_485, s324_488, s324_489, s324_490, s324_493, s324_496, s324_497, mq_k0s, mq_k1s, mq_k2s, mq_k4s, mq_k5s, mq_k5n, mq_k5as, mq_k6s, mj_pu, mj_lo, mj_br, mj_hr, mj_hw, mq_gf, mq_len, mq_al, mq_pf, mq_ok, mj_re, mq_lkm, mq_lkn, mj_ldi, mj_ldl, mj_lda, mj_ii, mj_ll, mj_li, mj_i1, ms_1, ms_2, f1_n, f1_i, f1_r, f1_u, f1_l, f2_n, f2_i, f2_r, f2_u, f2_l, mj_tg, mj_c1, mj_c2, mj_ar, mj_aw, mq_cb, mq_oi, mj_rm, Value.category, -getElem?_pos, List.getElem?_cons_zero, decide_eq_true, decide_eq_false, nl_lt, nl_le, ln_lt, ln_le, nl_eq, ln_eq, nl_add, ln_add, nl_sub, ln_mul, nI_sub, nI_mul, nI_add, nI_lt_iff, nI_le_iff, nI_inj, nI_num, mq_ix, nI_1, nl_mul, nl_div, g3', g4', g5', g6', show 3 ≤ st by omega, show ¬ 5 ≤ st by omega, show ¬ st ≤ 3 by omega]
          exact hr
        · generalize oP (mem ms 6) = v6 at *
          generalize oP (mem ms 5) = v5 at *
          generalize oP (mem ms 4) = v4 at *
          generalize oP (mem ms 3) = v3 at *
          simp (disch := (first | omega | decide)) [S_cb_mmade4_0, S_bx_mcan1_0, S_b8_mkey_1, S_b8_mkey_0, S_b1_mterm_0, S_b1_copy_0, S_b0_mod_7, S_b0_mod_6, S_b0_mod_5, S_b0_mod_3, S_b0_mod_2, S_b0_mod_1, S_b0_mod_0, S_cb_mmade4_1h, S_bx_mcan1_1h, S_b0_mod_4h, s324_0, s324_1, s324_2, s324_3, s324_6, s324_7, s324_8, s324_9, s324_10, s324_13, s324_14, s324_15, s324_16, s324_17, s324_20, s324_22, s324_23, s324_24, s324_25, s324_28, s324_30, s324_31, s324_32, s324_33, s324_36, s324_38, s324_39, s324_40, s324_42, s324_45, s324_47, s324_48, s324_49, s324_50, s324_53, s324_56, s324_57, s324_58, s324_59, s324_62, s324_65, s324_66, s324_68, s324_69, s324_72, s324_75, s324_76, s324_78, s324_79, s324_82, s324_85, s324_86, s324_88, s324_89, s324_92, s324_95, s324_96, s324_98, s324_99, s324_102, s324_105, s324_107, s324_108, s324_109, s324_110, s324_113, s324_114, s324_115, s324_118, s324_120, s324_121, s324_122, s324_123, s324_126, s324_128, s324_129, s324_130, s324_133, s324_134, s324_137, s324_139, s324_140, s324_143, s324_145, s324_146, s324_149, s324_150, s324_151, s324_153, s324_154, s324_157, s324_158, s324_161, s324_164, s324_165, s324_167, s324_168, s324_171, s324_172, s324_175, s324_176, s324_179, s324_181, s324_182, s324_185, s324_186, s324_187, s324_190, s324_191, s324_192, s324_195, s324_198, s324_199, s324_200, s324_201, s324_204, s324_205, s324_206, s324_209, s324_212, s324_213, s324_214, s324_216, s324_217, s324_220, s324_222, s324_223, s324_226, s324_228, s324_229, s324_232, s324_234, s324_235, s324_238, s324_240, s324_241, s324_244, s324_246, s324_247, s324_250, s324_252, s324_254, s324_256, s324_259, s324_262, s324_263, s324_264, s324_266, s324_269, s324_270, s324_273, s324_276, s324_277, s324_278, s324_279, s324_280, s324_281, s324_282, s324_284, s324_287, s324_288, s324_291, s324_294, s324_296, s324_298, s324_299, s324_302, s324_303, s324_306, s324_307, s324_308, s324_311, s324_312, s324_314, s324_316, s324_318, s324_319, s324_322, s324_325, s324_327, s324_330, s324_331, s324_332, s324_334, s324_336, s324_339, s324_340, s324_341, s324_344, s324_345, s324_346, s324_349, s324_351, s324_352, s324_353, s324_356, s324_357, s324_358, s324_361, s324_362, s324_365, s324_366, s324_367, s324_368, s324_371, s324_372, s324_375, s324_376, s324_377, s324_380, s324_382, s324_385, s324_387, s324_388, s324_390, s324_391, s324_394, s324_395, s324_397, s324_399, s324_401, s324_403, s324_406, s324_409, s324_411, s324_412, s324_413, s324_414, s324_416, s324_418, s324_421, s324_423, s324_425, s324_428, s324_430, s324_431, s324_434, s324_436, s324_439, s324_441, s324_444, s324_445, s324_446, s324_448, s324_450, s324_453, s324_454, s324_455, s324_457, s324_460, s324_461, s324_463, s324_466, s324_467, s324_468, s324_471, s324_472, s324_473, s324_476, s324_477, s324_480, s324_483, s324_484, s324_485, s324_488, s324_489, s324_490, s324_493, s324_496, s324_497, mq_k0s, mq_k1s, mq_k2s, mq_k4s, mq_k5s, mq_k5n, mq_k5as, mq_k6s, mj_pu, mj_lo, mj_br, mj_hr, mj_hw, mq_gf, mq_len, mq_al, mq_pf, mq_ok, mj_re, mq_lkm, mq_lkn, mj_ldi, mj_ldl, mj_lda, mj_ii, mj_ll, mj_li, mj_i1, ms_1, ms_2, f1_n, f1_i, f1_r, f1_u, f1_l, f2_n, f2_i, f2_r, f2_u, f2_l, mj_tg, mj_c1, mj_c2, mj_ar, mj_aw, mq_cb, mq_oi, mj_rm, Value.category, -getElem?_pos, List.getElem?_cons_zero, decide_eq_true, decide_eq_false, nl_lt, nl_le, ln_lt, ln_le, nl_eq, ln_eq, nl_add, ln_add, nl_sub, ln_mul, nI_sub, nI_mul, nI_add, nI_lt_iff, nI_le_iff, nI_inj, nI_num, mq_ix, nI_1, nl_mul, nl_div, g3', g4', g5', show 3 ≤ st by omega, show ¬ 5 ≤ st by omega, show st ≤ 3 by omega]
          exact hr
      · have g6' := (not_congr n6).mpr (g6 (by omega))
        generalize oP (mem ms 6) = v6 at *
        generalize oP (mem ms 5) = v5 at *
        generalize oP (mem ms 4) = v4 at *
        generalize oP (mem ms 3) = v3 at *
        simp (disch := (first | omega | decide)) [S_cb_mmade4_0, S_bx_mcan1_0, S_b8_mkey_1, S_b8_mkey_0, S_b1_mterm_0, S_b1_copy_0, S_b0_mod_7, S_b0_mod_6, S_b0_mod_5, S_b0_mod_3, S_b0_mod_2, S_b0_mod_1, S_b0_mod_0, S_cb_mmade4_1h, S_bx_mcan1_1h, S_b0_mod_4h, s324_0, s324_1, s324_2, s324_3, s324_6, s324_7, s324_8, s324_9, s324_10, s324_13, s324_14, s324_15, s324_16, s324_17, s324_20, s324_22, s324_23, s324_24, s324_25, s324_28, s324_30, s324_31, s324_32, s324_33, s324_36, s324_38, s324_39, s324_40, s324_42, s324_45, s324_47, s324_48, s324_49, s324_50, s324_53, s324_56, s324_57, s324_58, s324_59, s324_62, s324_65, s324_66, s324_68, s324_69, s324_72, s324_75, s324_76, s324_78, s324_79, s324_82, s324_85, s324_86, s324_88, s324_89, s324_92, s324_95, s324_96, s324_98, s324_99, s324_102, s324_105, s324_107, s324_108, s324_109, s324_110, s324_113, s324_114, s324_115, s324_118, s324_120, s324_121, s324_122, s324_123, s324_126, s324_128, s324_129, s324_130, s324_133, s324_134, s324_137, s324_139, s324_140, s324_143, s324_145, s324_146, s324_149, s324_150, s324_151, s324_153, s324_154, s324_157, s324_158, s324_161, s324_164, s324_165, s324_167, s324_168, s324_171, s324_172, s324_175, s324_176, s324_179, s324_181, s324_182, s324_185, s324_186, s324_187, s324_190, s324_191, s324_192, s324_195, s324_198, s324_199, s324_200, s324_201, s324_204, s324_205, s324_206, s324_209, s324_212, s324_213, s324_214, s324_216, s324_217, s324_220, s324_222, s324_223, s324_226, s324_228, s324_229, s324_232, s324_234, s324_235, s324_238, s324_240, s324_241, s324_244, s324_246, s324_247, s324_250, s324_252, s324_254, s324_256, s324_259, s324_262, s324_263, s324_264, s324_266, s324_269, s324_270, s324_273, s324_276, s324_277, s324_278, s324_279, s324_280, s324_281, s324_282, s324_284, s324_287, s324_288, s324_291, s324_294, s324_296, s324_298, s324_299, s324_302, s324_303, s324_306, s324_307, s324_308, s324_311, s324_312, s324_314, s324_316, s324_318, s324_319, s324_322, s324_325, s324_327, s324_330, s324_331, s324_332, s324_334, s324_336, s324_339, s324_340, s324_341, s324_344, s324_345, s324_346, s324_349, s324_351, s324_352, s324_353, s324_356, s324_357, s324_358, s324_361, s324_362, s324_365, s324_366, s324_367, s324_368, s324_371, s324_372, s324_375, s324_376, s324_377, s324_380, s324_382, s324_385, s324_387, s324_388, s324_390, s324_391, s324_394, s324_395, s324_397, s324_399, s324_401, s324_403, s324_406, s324_409, s324_411, s324_412, s324_413, s324_414, s324_416, s324_418, s324_421, s324_423, s324_425, s324_428, s324_430, s324_431, s324_434, s324_436, s324_439, s324_441, s324_444, s324_445, s324_446, s324_448, s324_450, s324_453, s324_454, s324_455, s324_457, s324_460, s324_461, s324_463, s324_466, s324_467, s324_468, s324_471, s324_472, s324_473, s324_476, s324_477, s324_480, s324_483, s324_484, s324_485, s324_488, s324_489, s324_490, s324_493, s324_496, s324_497, mq_k0s, mq_k1s, mq_k2s, mq_k4s, mq_k5s, mq_k5n, mq_k5as, mq_k6s, mj_pu, mj_lo, mj_br, mj_hr, mj_hw, mq_gf, mq_len, mq_al, mq_pf, mq_ok, mj_re, mq_lkm, mq_lkn, mj_ldi, mj_ldl, mj_lda, mj_ii, mj_ll, mj_li, mj_i1, ms_1, ms_2, f1_n, f1_i, f1_r, f1_u, f1_l, f2_n, f2_i, f2_r, f2_u, f2_l, mj_tg, mj_c1, mj_c2, mj_ar, mj_aw, mq_cb, mq_oi, mj_rm, Value.category, -getElem?_pos, List.getElem?_cons_zero, decide_eq_true, decide_eq_false, nl_lt, nl_le, ln_lt, ln_le, nl_eq, ln_eq, nl_add, ln_add, nl_sub, ln_mul, nI_sub, nI_mul, nI_add, nI_lt_iff, nI_le_iff, nI_inj, nI_num, mq_ix, nI_1, nl_mul, nl_div, g3', g6', show 3 ≤ st by omega, show 5 ≤ st by omega, show ¬ st ≤ 3 by omega]
        exact hr
    by_cases hsec : tm_sec T.1 (o4 ms (mem ms 3)) = 0
    · have e : pnFault T ms (oVn ms (mem ms 2)) = 2 := by unfold pnFault; rw [if_neg c1, if_neg c2, if_neg c3, if_neg c4, if_neg c5, if_pos hsec]
      rw [e, if_pos (by decide)]
      refine no 2 (by decide) (to253 _ ?_)
      rw [m3] at hsec ⊢
      rw [show oP (some p3) = nI p3 from rfl]
      generalize oVn ms (mem ms 2) = st at *
      generalize oP (mem ms 6) = v6 at *
      generalize oP (mem ms 5) = v5 at *
      generalize oP (mem ms 4) = v4 at *
      by_cases h4 : cbV ms p3 = 4
      · have hin := (cbOk_hd.mp i3.ok).2 (Or.inl s3)
        rw [h4] at hin
        have rI := q_itemInt (d := d + 4) (B := B) (x := x.wk j k.1.1.1.1 m) (y := y) hX hd3.1 hin
        rw [o4_w4 h.2.2 s3 h4] at hsec
        rw [decide_eq_true h4] at ri
        simp only [on1, if_true] at ri
        have rs := q_isSort (d := d + 6) (B := B) (x := x.wk j k.1.1.1.1 m) hy (w4a ms (cbC ms p3)) (s := 2) (by decide)
        rw [if_neg (fun z => (sec_p hT8 hT9 _ z).1 hsec)] at rs
        simp (disch := (first | omega | decide)) [S_cb_mmade4_0, S_bx_mcan1_0, S_b8_mkey_1, S_b8_mkey_0, S_b1_mterm_0, S_b1_copy_0, S_b0_mod_7, S_b0_mod_6, S_b0_mod_5, S_b0_mod_3, S_b0_mod_2, S_b0_mod_1, S_b0_mod_0, S_cb_mmade4_1h, S_bx_mcan1_1h, S_b0_mod_4h, s324_0, s324_1, s324_2, s324_3, s324_6, s324_7, s324_8, s324_9, s324_10, s324_13, s324_14, s324_15, s324_16, s324_17, s324_20, s324_22, s324_23, s324_24, s324_25, s324_28, s324_30, s324_31, s324_32, s324_33, s324_36, s324_38, s324_39, s324_40, s324_42, s324_45, s324_47, s324_48, s324_49, s324_50, s324_53, s324_56, s324_57, s324_58, s324_59, s324_62, s324_65, s324_66, s324_68, s324_69, s324_72, s324_75, s324_76, s324_78, s324_79, s324_82, s324_85, s324_86, s324_88, s324_89, s324_92, s324_95, s324_96, s324_98, s324_99, s324_102, s324_105, s324_107, s324_108, s324_109, s324_110, s324_113, s324_114, s324_115, s324_118, s324_120, s324_121, s324_122, s324_123, s324_126, s324_128, s324_129, s324_130, s324_133, s324_134, s324_137, s324_139, s324_140, s324_143, s324_145, s324_146, s324_149, s324_150, s324_151, s324_153, s324_154, s324_157, s324_158, s324_161, s324_164, s324_165, s324_167, s324_168, s324_171, s324_172, s324_175, s324_176, s324_179, s324_181, s324_182, s324_185, s324_186, s324_187, s324_190, s324_191, s324_192, s324_195, s324_198, s324_199, s324_200, s324_201, s324_204, s324_205, s324_206, s324_209, s324_212, s324_213, s324_214, s324_216, s324_217, s324_220, s324_222, s324_223, s324_226, s324_228, s324_229, s324_232, s324_234, s324_235, s324_238, s324_240, s324_241, s324_244, s324_246, s324_247, s324_250, s324_252, s324_253, s324_254, s324_256, s324_259, s324_262, s324_263, s324_264, s324_266, s324_269, s324_270, s324_273, s324_276, s324_277, s324_278, s324_279, s324_280, s324_281, s324_282, s324_284, s324_287, s324_288, s324_291, s324_294, s324_296, s324_298, s324_299, s324_302, s324_303, s324_306, s324_307, s324_308, s324_311, s324_312, s324_314, s324_316, s324_318, s324_319, s324_322, s324_325, s324_327, s324_330, s324_331, s324_332, s324_334, s324_336, s324_339, s324_340, s324_341, s324_344, s324_345, s324_346, s324_349, s324_351, s324_352, s324_353, s324_356, s324_357, s324_358, s324_361, s324_362, s324_365, s324_366, s324_367, s324_368, s324_371, s324_372, s324_375, s324_376, s324_377, s324_380, s324_382, s324_385, s324_387, s324_388, s324_390, s324_391, s324_394, s324_395, s324_397, s324_399, s324_401, s324_403, s324_406, s324_409, s324_411, s324_412, s324_413, s324_414, s324_416, s324_418, s324_421, s324_423, s324_425, s324_428, s324_430, s324_431, s324_434, s324_436, s324_439, s324_441, s324_444, s324_445, s324_446, s324_448, s324_450, s324_453, s324_454, s324_455, s324_457, s324_460, s324_461, s324_463, s324_466, s324_467, s324_468, s324_471, s324_472, s324_473, s324_476, s324_477, s324_480, s324_483, s324_484, s324_485, s324_488, s324_489, s324_490, s324_493, s324_496, s324_497, mq_k0s, mq_k1s, mq_k2s, mq_k4s, mq_k5s, mq_k5n, mq_k5as, mq_k6s, mj_pu, mj_lo, mj_br, mj_hr, mj_hw, mq_gf, mq_len, mq_al, mq_pf, mq_ok, mj_re, mq_lkm, mq_lkn, mj_ldi, mj_ldl, mj_lda, mj_ii, mj_ll, mj_li, mj_i1, ms_1, ms_2, f1_n, f1_i, f1_r, f1_u, f1_l, f2_n, f2_i, f2_r, f2_u, f2_l, mj_tg, mj_c1, mj_c2, mj_ar, mj_aw, mq_cb, mq_oi, mj_rm, Value.category, -getElem?_pos, List.getElem?_cons_zero, decide_eq_true, decide_eq_false, nl_lt, nl_le, ln_lt, ln_le, nl_eq, ln_eq, nl_add, ln_add, nl_sub, ln_mul, nI_sub, nI_mul, nI_add, nI_lt_iff, nI_le_iff, nI_inj, nI_num, mq_ix, nI_1, nl_mul, nl_div, ri, rI, rs, narrow]
      · rw [decide_eq_false h4] at ri
        simp only [on1, Bool.false_eq_true, if_false] at ri
        simp (disch := (first | omega | decide)) [S_cb_mmade4_0, S_bx_mcan1_0, S_b8_mkey_1, S_b8_mkey_0, S_b1_mterm_0, S_b1_copy_0, S_b0_mod_7, S_b0_mod_6, S_b0_mod_5, S_b0_mod_3, S_b0_mod_2, S_b0_mod_1, S_b0_mod_0, S_cb_mmade4_1h, S_bx_mcan1_1h, S_b0_mod_4h, s324_0, s324_1, s324_2, s324_3, s324_6, s324_7, s324_8, s324_9, s324_10, s324_13, s324_14, s324_15, s324_16, s324_17, s324_20, s324_22, s324_23, s324_24, s324_25, s324_28, s324_30, s324_31, s324_32, s324_33, s324_36, s324_38, s324_39, s324_40, s324_42, s324_45, s324_47, s324_48, s324_49, s324_50, s324_53, s324_56, s324_57, s324_58, s324_59, s324_62, s324_65, s324_66, s324_68, s324_69, s324_72, s324_75, s324_76, s324_78, s324_79, s324_82, s324_85, s324_86, s324_88, s324_89, s324_92, s324_95, s324_96, s324_98, s324_99, s324_102, s324_105, s324_107, s324_108, s324_109, s324_110, s324_113, s324_114, s324_115, s324_118, s324_120, s324_121, s324_122, s324_123, s324_126, s324_128, s324_129, s324_130, s324_133, s324_134, s324_137, s324_139, s324_140, s324_143, s324_145, s324_146, s324_149, s324_150, s324_151, s324_153, s324_154, s324_157, s324_158, s324_161, s324_164, s324_165, s324_167, s324_168, s324_171, s324_172, s324_175, s324_176, s324_179, s324_181, s324_182, s324_185, s324_186, s324_187, s324_190, s324_191, s324_192, s324_195, s324_198, s324_199, s324_200, s324_201, s324_204, s324_205, s324_206, s324_209, s324_212, s324_213, s324_214, s324_216, s324_217, s324_220, s324_222, s324_223, s324_226, s324_228, s324_229, s324_232, s324_234, s324_235, s324_238, s324_240, s324_241, s324_244, s324_246, s324_247, s324_250, s324_252, s324_253, s324_254, s324_256, s324_259, s324_262, s324_263, s324_264, s324_266, s324_269, s324_270, s324_273, s324_276, s324_277, s324_278, s324_279, s324_280, s324_281, s324_282, s324_284, s324_287, s324_288, s324_291, s324_294, s324_296, s324_298, s324_299, s324_302, s324_303, s324_306, s324_307, s324_308, s324_311, s324_312, s324_314, s324_316, s324_318, s324_319, s324_322, s324_325, s324_327, s324_330, s324_331, s324_332, s324_334, s324_336, s324_339, s324_340, s324_341, s324_344, s324_345, s324_346, s324_349, s324_351, s324_352, s324_353, s324_356, s324_357, s324_358, s324_361, s324_362, s324_365, s324_366, s324_367, s324_368, s324_371, s324_372, s324_375, s324_376, s324_377, s324_380, s324_382, s324_385, s324_387, s324_388, s324_390, s324_391, s324_394, s324_395, s324_397, s324_399, s324_401, s324_403, s324_406, s324_409, s324_411, s324_412, s324_413, s324_414, s324_416, s324_418, s324_421, s324_423, s324_425, s324_428, s324_430, s324_431, s324_434, s324_436, s324_439, s324_441, s324_444, s324_445, s324_446, s324_448, s324_450, s324_453, s324_454, s324_455, s324_457, s324_460, s324_461, s324_463, s324_466, s324_467, s324_468, s324_471, s324_472, s324_473, s324_476, s324_477, s324_480, s324_483, s324_484, s324_485, s324_488, s324_489, s324_490, s324_493, s324_496, s324_497, mq_k0s, mq_k1s, mq_k2s, mq_k4s, mq_k5s, mq_k5n, mq_k5as, mq_k6s, mj_pu, mj_lo, mj_br, mj_hr, mj_hw, mq_gf, mq_len, mq_al, mq_pf, mq_ok, mj_re, mq_lkm, mq_lkn, mj_ldi, mj_ldl, mj_lda, mj_ii, mj_ll, mj_li, mj_i1, ms_1, ms_2, f1_n, f1_i, f1_r, f1_u, f1_l, f2_n, f2_i, f2_r, f2_u, f2_l, mj_tg, mj_c1, mj_c2, mj_ar, mj_aw, mq_cb, mq_oi, mj_rm, Value.category, -getElem?_pos, List.getElem?_cons_zero, decide_eq_true, decide_eq_false, nl_lt, nl_le, ln_lt, ln_le, nl_eq, ln_eq, nl_add, ln_add, nl_sub, ln_mul, nI_sub, nI_mul, nI_add, nI_lt_iff, nI_le_iff, nI_inj, nI_num, mq_ix, nI_1, nl_mul, nl_div, ri, narrow]
    · have e : pnFault T ms (oVn ms (mem ms 2)) = 0 := by unfold pnFault; rw [if_neg c1, if_neg c2, if_neg c3, if_neg c4, if_neg c5, if_neg hsec]
      rw [e, if_neg (fun z => z rfl)]
      have h24 : cbV ms p3 = 4 := by
        by_cases z : cbV ms p3 = 4
        · exact z
        · exfalso
          apply hsec
          rw [m3, o4_no z]
          unfold tm_sec
          rw [if_neg]
          have : tm_row T.1 0 = [] := by unfold tm_row; rw [if_pos (by decide)]
          rw [this]; decide
      have hin := (cbOk_hd.mp i3.ok).2 (Or.inl s3)
      rw [h24] at hin
      have rI := q_itemInt (d := d + 4) (B := B) (x := x.wk j k.1.1.1.1 m) (y := y) hX hd3.1 hin
      have eo : o4 ms (mem ms 3) = w4a ms (cbC ms p3) := by rw [m3]; exact o4_w4 h.2.2 s3 h24
      rw [eo] at hsec
      have h2 : bt_at (tm_row T.1 (w4a ms (cbC ms p3))) 0 = 2 := by
        by_cases z : bt_at (tm_row T.1 (w4a ms (cbC ms p3))) 0 = 2
        · exact z
        · exfalso; apply hsec; unfold tm_sec; rw [if_neg z]
      have rs := q_isSort (d := d + 6) (B := B) (x := x.wk j k.1.1.1.1 m) hy (w4a ms (cbC ms p3)) (s := 2) (by decide)
      rw [if_pos h2] at rs
      have rp := q_partA (d := d + 6) (B := B) (x := x.wk j k.1.1.1.1 m) hy (t := w4a ms (cbC ms p3)) (k := 1) (by rw [hT8.p2 _ h2]; omega)
      rw [show nI 1 = (1 : Int32) from rfl, ← (sec_p hT8 hT9 _ h2).2] at rp
      obtain ⟨y1, p1, z1, k1⟩ := q_theKey (d := d + 4) (B := B) (x := x) (y := y) hx hj hk hy (tm_sec T.1 (w4a ms (cbC ms p3)))
      have esh : pn_sh k T ms = tm_ix T.1 (tm_agr (nI k.1.2.2.2) (tm_sec T.1 (w4a ms (cbC ms p3)))) := by unfold pn_sh; rw [eo]
      rw [← esh] at p1
      have hsh : pn_sh k T ms < 2 ^ 30 := by rw [esh]; exact ix_lt z1
      have L := pk_late (d := d) (B := B) (x := x) (y := y1) h hcb h4l hx hj hm hk hI hon hc z1 hT8 hT9 hT hO (st := oVn ms (mem ms 2)) (sh := pn_sh k T ms) ⟨hst3, hst.2⟩ hsh c1' c5
      refine L.of (fun r hr => to253 _ ?_)
      rw [decide_eq_true h24] at ri
      simp only [on1, if_true] at ri
      rw [m3, show oP (some p3) = nI p3 from rfl]
      clear to253 F1 F2 F3 F4 no missIff L
      generalize oVn ms (mem ms 2) = st at *
      generalize oP (mem ms 6) = v6 at *
      generalize oP (mem ms 5) = v5 at *
      generalize oP (mem ms 4) = v4 at *
      generalize pn_sh k T ms = shv at *
      generalize tm_sec T.1 (w4a ms (cbC ms p3)) = sc at *
      simp (disch := (first | omega | decide)) [S_cb_mmade4_0, S_bx_mcan1_0, S_b8_mkey_1, S_b8_mkey_0, S_b1_mterm_0, S_b1_copy_0, S_b0_mod_7, S_b0_mod_6, S_b0_mod_5, S_b0_mod_3, S_b0_mod_2, S_b0_mod_1, S_b0_mod_0, S_cb_mmade4_1h, S_bx_mcan1_1h, S_b0_mod_4h, s324_0, s324_1, s324_2, s324_3, s324_6, s324_7, s324_8, s324_9, s324_10, s324_13, s324_14, s324_15, s324_16, s324_17, s324_20, s324_22, s324_23, s324_24, s324_25, s324_28, s324_30, s324_31, s324_32, s324_33, s324_36, s324_38, s324_39, s324_40, s324_42, s324_45, s324_47, s324_48, s324_49, s324_50, s324_53, s324_56, s324_57, s324_58, s324_59, s324_62, s324_65, s324_66, s324_68, s324_69, s324_72, s324_75, s324_76, s324_78, s324_79, s324_82, s324_85, s324_86, s324_88, s324_89, s324_92, s324_95, s324_96, s324_98, s324_99, s324_102, s324_105, s324_107, s324_108, s324_109, s324_110, s324_113, s324_114, s324_115, s324_118, s324_120, s324_121, s324_122, s324_123, s324_126, s324_128, s324_129, s324_130, s324_133, s324_134, s324_137, s324_139, s324_140, s324_143, s324_145, s324_146, s324_149, s324_150, s324_151, s324_153, s324_154, s324_157, s324_158, s324_161, s324_164, s324_165, s324_167, s324_168, s324_171, s324_172, s324_175, s324_176, s324_179, s324_181, s324_182, s324_185, s324_186, s324_187, s324_190, s324_191, s324_192, s324_195, s324_198, s324_199, s324_200, s324_201, s324_204, s324_205, s324_206, s324_209, s324_212, s324_213, s324_214, s324_216, s324_217, s324_220, s324_222, s324_223, s324_226, s324_228, s324_229, s324_232, s324_234, s324_235, s324_238, s324_240, s324_241, s324_244, s324_246, s324_247, s324_250, s324_252, s324_253, s324_254, s324_256, s324_259, s324_262, s324_263, s324_264, s324_266, s324_269, s324_270, s324_273, s324_276, s324_277, s324_278, s324_279, s324_280, s324_281, s324_282, s324_284, s324_287, s324_288, s324_291, s324_294, s324_298, s324_299, s324_302, s324_303, s324_306, s324_307, s324_308, s324_311, s324_312, s324_314, s324_316, s324_318, s324_319, s324_322, s324_325, s324_327, s324_330, s324_331, s324_332, s324_334, s324_336, s324_339, s324_340, s324_341, s324_344, s324_345, s324_346, s324_349, s324_351, s324_352, s324_353, s324_356, s324_357, s324_358, s324_361, s324_362, s324_365, s324_366, s324_367, s324_368, s324_371, s324_372, s324_375, s324_376, s324_377, s324_380, s324_382, s324_385, s324_387, s324_388, s324_390, s324_391, s324_394, s324_395, s324_397, s324_399, s324_401, s324_403, s324_406, s324_409, s324_411, s324_412, s324_413, s324_414, s324_416, s324_418, s324_421, s324_423, s324_425, s324_428, s324_430, s324_431, s324_434, s324_436, s324_439, s324_441, s324_444, s324_445, s324_446, s324_448, s324_450, s324_453, s324_454, s324_455, s324_457, s324_460, s324_461, s324_463, s324_466, s324_467, s324_468, s324_471, s324_472, s324_473, s324_476, s324_477, s324_480, s324_483, s324_484, s324_485, s324_488, s324_489, s324_490, s324_493, s324_496, s324_497, mq_k0s, mq_k1s, mq_k2s, mq_k4s, mq_k5s, mq_k5n, mq_k5as, mq_k6s, mj_pu, mj_lo, mj_br, mj_hr, mj_hw, mq_gf, mq_len, mq_al, mq_pf, mq_ok, mj_re, mq_lkm, mq_lkn, mj_ldi, mj_ldl, mj_lda, mj_ii, mj_ll, mj_li, mj_i1, ms_1, ms_2, f1_n, f1_i, f1_r, f1_u, f1_l, f2_n, f2_i, f2_r, f2_u, f2_l, mj_tg, mj_c1, mj_c2, mj_ar, mj_aw, mq_cb, mq_oi, mj_rm, Value.category, -getElem?_pos, List.getElem?_cons_zero, decide_eq_true, decide_eq_false, nl_lt, nl_le, ln_lt, ln_le, nl_eq, ln_eq, nl_add, ln_add, nl_sub, ln_mul, nI_sub, nI_mul, nI_add, nI_lt_iff, nI_le_iff, nI_inj, nI_num, mq_ix, nI_1, nl_mul, nl_div, ri, rI, rs, rp, p1]
      refine mq_wk ?_ hr
      simp [S_cb_mmade4_0, S_bx_mcan1_0, S_b8_mkey_1, S_b8_mkey_0, S_b1_mterm_0, S_b1_copy_0, S_b0_mod_7, S_b0_mod_6, S_b0_mod_5, S_b0_mod_3, S_b0_mod_2, S_b0_mod_1, S_b0_mod_0, S_cb_mmade4_1h, S_bx_mcan1_1h, S_b0_mod_4h, mq_sub, mj_lk]
end
end
/- cx.mreset -/
section
set_option maxRecDepth 512
/-! The model: RESET, with what is heard; commands don't look at it. -/
def hT_ (k : Ky) : Ky := (((((k.1.1.1.1, k.1.1.1.2), (k.1.1.2.1, k.1.1.2.2)), ((k.1.2.1.1, k.1.2.1.2), (k.1.2.2.1, k.1.2.2.2))), (((k.2.1.1.1, k.2.1.1.2), (true, k.2.1.2.2)), ((k.2.2.1.1, k.2.2.1.2), k.2.2.2))) : Ky)
section
variable {d : Nat} {B : Bs} {x : Fx} {y : Sy} {j g : Nat} {k : Ky} {m : Mk} {T : Tm} {D O ms : List Int32}
theorem took_H : ky_took (hT_ k) = hT_ (ky_took k) := by
  unfold ky_took
  by_cases h : k.1.2.1.1 = 0
  · rw [if_pos h, if_pos (show (hT_ k).1.2.1.1 = 0 from h)]
  · rw [if_neg h, if_neg (show ¬ (hT_ k).1.2.1.1 = 0 from h)]; rfl
theorem q_resetM (hx : xk x) (hj : j < 3) (hm : wm m) (h : kr (hT_ k) m) (hI : kI k (g + 1)) (hc : cF k.1.1.1.1.2.2.2.2.2.2.2.2.2.2.2 m) (hy : yz y T D O) (hT : T.1.length < 1000) (hl0 : m.1.2.1.2 = 0) (hl1 : m.1.2.2.1 = 0) (hlp : k.2.1.2.2 = 0) :
    kP B x j m k.1.1.1.2 O ((ky_reset k T).1, hT_ (ky_reset k T).2.1, (ky_reset k T).2.2) (mj_V (d + 6) 284 [.ref 67, .int (nI j), .int (on1 k.2.1.2.1)] (mm B (x.wk j k.1.1.1.1 m) y)) := by
  have h9 := hI.w9
  have hgen := hI.gn
  unfold ky_reset
  cases hh : k.2.1.2.1 with
  | true =>
    simp only [if_true]
    refine kP.no (m' := m) (y' := y) (D' := D) ?_ hm h hc hy rfl (lr.z hlp hl0 hl1) (by decide)
    show _ = some (some (Value.int 48), mm B (x.wk j k.1.1.1.1 m) y)
    simp (disch := (first | omega | decide)) [S_cb_mmade4_0, S_bx_mcan1_0, S_b8_mkey_1, S_b8_mkey_0, S_b1_mterm_0, S_b1_copy_0, S_b0_mod_7, S_b0_mod_6, S_b0_mod_5, S_b0_mod_3, S_b0_mod_2, S_b0_mod_1, S_b0_mod_0, S_cb_mmade4_1h, S_bx_mcan1_1h, S_b0_mod_4h, c284, s284_0, s284_1, s284_4, s284_6, s284_7, s284_8, s284_9, s284_12, s284_15, s284_17, s284_18, s284_19, s284_20, s284_23, s284_24, s284_27, s284_28, s284_29, s284_32, s284_33, s284_34, s284_35, s284_38, s284_41, s284_43, s284_44, s284_45, s284_46, s284_49, s284_50, mq_k0s, mq_k1s, mq_k2s, mq_k4s, mq_k5s, mq_k5n, mq_k5as, mq_k6s, mj_pu, mj_lo, mj_br, mj_hr, mj_hw, mq_gf, mq_len, mq_al, mq_pf, mq_ok, mj_re, mq_lkm, mq_lkn, mj_ldi, mj_ldl, mj_lda, mj_ii, mj_ll, mj_li, mj_i1, ms_1, ms_2, f1_n, f1_i, f1_r, f1_u, f1_l, f2_n, f2_i, f2_r, f2_u, f2_l, mj_tg, mj_c1, mj_c2, mj_ar, mj_aw, mq_cb, mq_oi, mj_rm, Value.category, -getElem?_pos, List.getElem?_cons_zero, decide_eq_true, decide_eq_false, nl_lt, nl_le, ln_lt, ln_le, nl_eq, ln_eq, nl_add, ln_add, nl_sub, ln_mul, nI_sub, nI_mul, nI_add, nI_lt_iff, nI_le_iff, nI_inj, nI_num, mq_ix, nI_1, nl_mul, nl_div, on1, narrow]
  | false =>
    simp only [Bool.false_eq_true, if_false]
    have hp := q_isPressed (d := d + 4) (B := B) (x := x) (y := y) (s := k.1.1.1.1) (k := hT_ k) hx hj h h9
    have ew : (hT_ k).1.2.1.1 = k.1.2.1.1 := rfl
    rw [ew] at hp
    by_cases h0 : k.1.2.1.1 = 0
    · simp only [h0, if_true] at hp ⊢
      refine kP.no (m' := m) (y' := y) (D' := D) ?_ hm h hc hy rfl (lr.z hlp hl0 hl1) (by decide)
      show _ = some (some (Value.int 39), mm B (x.wk j k.1.1.1.1 m) y)
      simp (disch := (first | omega | decide)) [S_cb_mmade4_0, S_bx_mcan1_0, S_b8_mkey_1, S_b8_mkey_0, S_b1_mterm_0, S_b1_copy_0, S_b0_mod_7, S_b0_mod_6, S_b0_mod_5, S_b0_mod_3, S_b0_mod_2, S_b0_mod_1, S_b0_mod_0, S_cb_mmade4_1h, S_bx_mcan1_1h, S_b0_mod_4h, c284, s284_0, s284_1, s284_4, s284_6, s284_7, s284_8, s284_9, s284_12, s284_15, s284_17, s284_18, s284_19, s284_20, s284_23, s284_24, s284_27, s284_28, s284_29, s284_32, s284_33, s284_34, s284_35, s284_38, s284_41, s284_43, s284_44, s284_45, s284_46, s284_49, s284_50, mq_k0s, mq_k1s, mq_k2s, mq_k4s, mq_k5s, mq_k5n, mq_k5as, mq_k6s, mj_pu, mj_lo, mj_br, mj_hr, mj_hw, mq_gf, mq_len, mq_al, mq_pf, mq_ok, mj_re, mq_lkm, mq_lkn, mj_ldi, mj_ldl, mj_lda, mj_ii, mj_ll, mj_li, mj_i1, ms_1, ms_2, f1_n, f1_i, f1_r, f1_u, f1_l, f2_n, f2_i, f2_r, f2_u, f2_l, mj_tg, mj_c1, mj_c2, mj_ar, mj_aw, mq_cb, mq_oi, mj_rm, Value.category, -getElem?_pos, List.getElem?_cons_zero, decide_eq_true, decide_eq_false, nl_lt, nl_le, ln_lt, ln_le, nl_eq, ln_eq, nl_add, ln_add, nl_sub, ln_mul, nI_sub, nI_mul, nI_add, nI_lt_iff, nI_le_iff, nI_inj, nI_num, mq_ix, nI_1, nl_mul, nl_div, on1, narrow, hp]
    · simp only [h0, if_false] at hp ⊢
      have hmT := hm.took k.1.2.1.1
      have hkT := h.took h0
      rw [took_H] at hkT
      have hw : (hT_ k).1.2.1.1 = k.1.2.1.1 := rfl
      have f1 := q_forget (d := d + 4) (B := B) (x := x) (y := y) (s := k.1.1.1.1) (m := mTook m k.1.2.1.1) hx hj
      obtain ⟨y1, p1, z1, e1⟩ := q_freshTerm (d := d + 1) (B := B) (x := x.wk j ((k.1.1.1.1.1, (k.1.1.1.1.2.1, (k.1.1.1.1.2.2.1, (k.1.1.1.1.2.2.2.1, (k.1.1.1.1.2.2.2.2.1, (k.1.1.1.1.2.2.2.2.2.1, (k.1.1.1.1.2.2.2.2.2.2.1, St.none))))))) : Fl) (mTook m k.1.2.1.1)) hy hT
      have hlm : y1.2.1.1.1.2.length = 32 := z1.s.1.2.1
      obtain ⟨l, gg, hl, hv⟩ := q_move (d := d) (B := B) (x := x) (y := y1) (s := rsS k.1.1.1.1 T) (m := mTook m k.1.2.1.1) hx hj hmT hlm hI.w.l hI.w.a (by show k.1.1.1.1.2.2.2.2.2.1 + 1 < 65536; omega) (by simp [S_cb_mmade4_0, S_bx_mcan1_0, S_b8_mkey_1, S_b8_mkey_0, S_b1_mterm_0, S_b1_copy_0, S_b0_mod_7, S_b0_mod_6, S_b0_mod_5, S_b0_mod_3, S_b0_mod_2, S_b0_mod_1, S_b0_mod_0, S_cb_mmade4_1h, S_bx_mcan1_1h, S_b0_mod_4h, rsS, St.none]) (by intro i c hi; simp [S_cb_mmade4_0, S_bx_mcan1_0, S_b8_mkey_1, S_b8_mkey_0, S_b1_mterm_0, S_b1_copy_0, S_b0_mod_7, S_b0_mod_6, S_b0_mod_5, S_b0_mod_3, S_b0_mod_2, S_b0_mod_1, S_b0_mod_0, S_cb_mmade4_1h, S_bx_mcan1_1h, S_b0_mod_4h, rsS, St.none] at hi) (show (8 : Int32) &&& 255 = 8 by decide) (by rw [rs_recs]; omega)
      have hst := fs_move_all (rsS k.1.1.1.1 T)
      have z2 : yz ((((((y1.1.1.1.1.1, y1.1.1.1.1.2), (y1.1.1.1.2.1, y1.1.1.1.2.2)), ((y1.1.1.2.1.1, gg), y1.1.1.2.2)), (((y1.1.2.1.1.1, y1.1.2.1.1.2), y1.1.2.1.2), ((y1.1.2.2.1.1, y1.1.2.2.1.2), y1.1.2.2.2))), ((((y1.2.1.1.1.1, l), (y1.2.1.1.2.1, y1.2.1.1.2.2)), ((y1.2.1.2.1.1, y1.2.1.2.1.2), y1.2.1.2.2)), (((y1.2.2.1.1.1, y1.2.2.1.1.2), y1.2.2.1.2), ((y1.2.2.2.1.1, y1.2.2.2.1.2), y1.2.2.2.2)))) : Sy) (tm_fresh T) [1, nI T.2.1] O := (yz_mk_ z1.t z1.d z1.o (⟨⟨z1.s.1.1, hl, z1.s.1.2.2⟩, z1.s.2⟩))
      have hrs : (((k.1.1.1.1.1, (k.1.1.1.1.2.1, (k.1.1.1.1.2.2.1, (k.1.1.1.1.2.2.2.1, (k.1.1.1.1.2.2.2.2.1, (k.1.1.1.1.2.2.2.2.2.1, (k.1.1.1.1.2.2.2.2.2.2.1, ((nI (tm_no T [1, nI T.2.1]), (St.none.2.1, (St.none.2.2.1, (St.none.2.2.2.1, St.none.2.2.2.2)))) : St)))))))) : Fl) : Fl) = rsS k.1.1.1.1 T := rfl
      rw [hrs]
      have hcr : (fs_move (rsS k.1.1.1.1 T)).1.2.2.2.2.2.2.2.2.2.2.2 = [] := by rw [hst.2.1]; rfl
      have elp : (ky_took k).2.1.2.2 = 0 := by unfold ky_took; rw [if_neg h0]; exact hlp
      have ere : (ky_took k).1.1.1.2 = k.1.1.1.2 := by unfold ky_took; rw [if_neg h0]
      have hent : ∀ r, mj_Rn (d + 5) mj_m284 33 [(0, .ref 67), (1, .int (nI j)), (2, .int 0)] [] (mm B (x.wk j (rsS k.1.1.1.1 T) (mTook m k.1.2.1.1)) y1) = some r → mj_V (d + 6) 284 [.ref 67, .int (nI j), .int (on1 false)] (mm B (x.wk j k.1.1.1.1 m) y) = some r := by
        intro r hr
        simp (disch := (first | omega | decide)) [S_cb_mmade4_0, S_bx_mcan1_0, S_b8_mkey_1, S_b8_mkey_0, S_b1_mterm_0, S_b1_copy_0, S_b0_mod_7, S_b0_mod_6, S_b0_mod_5, S_b0_mod_3, S_b0_mod_2, S_b0_mod_1, S_b0_mod_0, S_cb_mmade4_1h, S_bx_mcan1_1h, S_b0_mod_4h, c284, s284_0, s284_1, s284_4, s284_6, s284_7, s284_8, s284_9, s284_12, s284_15, s284_17, s284_18, s284_19, s284_20, s284_23, s284_24, s284_27, s284_28, s284_29, s284_32, s284_34, s284_35, s284_38, s284_41, s284_43, s284_44, s284_45, s284_46, s284_49, s284_50, mq_k0s, mq_k1s, mq_k2s, mq_k4s, mq_k5s, mq_k5n, mq_k5as, mq_k6s, mj_pu, mj_lo, mj_br, mj_hr, mj_hw, mq_gf, mq_len, mq_al, mq_pf, mq_ok, mj_re, mq_lkm, mq_lkn, mj_ldi, mj_ldl, mj_lda, mj_ii, mj_ll, mj_li, mj_i1, ms_1, ms_2, f1_n, f1_i, f1_r, f1_u, f1_l, f2_n, f2_i, f2_r, f2_u, f2_l, mj_tg, mj_c1, mj_c2, mj_ar, mj_aw, mq_cb, mq_oi, mj_rm, Value.category, -getElem?_pos, List.getElem?_cons_zero, decide_eq_true, decide_eq_false, nl_lt, nl_le, ln_lt, ln_le, nl_eq, ln_eq, nl_add, ln_add, nl_sub, ln_mul, nI_sub, nI_mul, nI_add, nI_lt_iff, nI_le_iff, nI_inj, nI_num, mq_ix, nI_1, nl_mul, nl_div, wkc_on hx hj, wkl_on hx, wkc_acts hx hj, wkl_acts hx, wkc_limit hx hj, wkl_limit hx, wkc_generation hx hj, wkl_generation hx, wkc_area hx hj, wkl_area hx, wkc_fend hx hj, wkl_fend hx, wkc_master hx hj, wkl_master hx, wkc_pinOf hx hj, wkl_pinOf hx, wkc_tries hx hj, wkl_tries hx, wkc_own hx hj, wkl_own hx, wkc_creds hx hj, wkl_creds hx, wkc_presses hx hj, wkl_presses hx, wkc_taken hx hj, wkl_taken hx, wkc_answered hx hj, wkl_answered hx, wkc_agreeing hx hj, wkl_agreeing hx, wkc_token hx hj, wkl_token hx, wkc_wrong hx hj, wkl_wrong hx, wkc_heard hx hj, wkl_heard hx, wkc_listed hx hj, wkl_listed hx, wkc_listAt hx hj, wkl_listAt hx, wkc_listHash hx hj, wkl_listHash hx, wkc_listFlags hx hj, wkl_listFlags hx, wkc_answerSize hx hj, wkl_answerSize hx, wkc_flash hx hj, wkl_flash hx hj, on1, hp, f1, p1]
        exact hr
      cases hb : (fs_move (rsS k.1.1.1.1 T)).2 with
      | false =>
        rw [hb] at hv
        simp only [Bool.false_eq_true, if_false]
        refine ⟨-3, mTook m k.1.2.1.1, _, _, O, hent _ ?_, hmT, ?_, ?_, z2, rfl, fun hon => ?_⟩
        · show _ = some (some (Value.int (-3)), mm B (x.wk j (fs_move (rsS k.1.1.1.1 T)).1 (mTook m k.1.2.1.1)) _)
          simp (disch := (first | omega | decide)) [S_cb_mmade4_0, S_bx_mcan1_0, S_b8_mkey_1, S_b8_mkey_0, S_b1_mterm_0, S_b1_copy_0, S_b0_mod_7, S_b0_mod_6, S_b0_mod_5, S_b0_mod_3, S_b0_mod_2, S_b0_mod_1, S_b0_mod_0, S_cb_mmade4_1h, S_bx_mcan1_1h, S_b0_mod_4h, s284_0, s284_1, s284_4, s284_6, s284_7, s284_8, s284_9, s284_12, s284_15, s284_17, s284_18, s284_19, s284_20, s284_23, s284_24, s284_27, s284_28, s284_29, s284_32, s284_33, s284_34, s284_35, s284_38, s284_41, s284_43, s284_44, s284_45, s284_46, s284_49, s284_50, mq_k0s, mq_k1s, mq_k2s, mq_k4s, mq_k5s, mq_k5n, mq_k5as, mq_k6s, mj_pu, mj_lo, mj_br, mj_hr, mj_hw, mq_gf, mq_len, mq_al, mq_pf, mq_ok, mj_re, mq_lkm, mq_lkn, mj_ldi, mj_ldl, mj_lda, mj_ii, mj_ll, mj_li, mj_i1, ms_1, ms_2, f1_n, f1_i, f1_r, f1_u, f1_l, f2_n, f2_i, f2_r, f2_u, f2_l, mj_tg, mj_c1, mj_c2, mj_ar, mj_aw, mq_cb, mq_oi, mj_rm, Value.category, -getElem?_pos, List.getElem?_cons_zero, decide_eq_true, decide_eq_false, nl_lt, nl_le, ln_lt, ln_le, nl_eq, ln_eq, nl_add, ln_add, nl_sub, ln_mul, nI_sub, nI_mul, nI_add, nI_lt_iff, nI_le_iff, nI_inj, nI_num, mq_ix, nI_1, nl_mul, nl_div, hv, on1, narrow]
        · exact (kr_mk_ hkT.pr hkT.ta hkT.an hkT.ag hkT.tk hkT.wr hkT.he)
        · show cF (fs_move (rsS k.1.1.1.1 T)).1.2.2.2.2.2.2.2.2.2.2.2 _
          rw [hcr]; intro i c hi; simp [S_cb_mmade4_0, S_bx_mcan1_0, S_b8_mkey_1, S_b8_mkey_0, S_b1_mterm_0, S_b1_copy_0, S_b0_mod_7, S_b0_mod_6, S_b0_mod_5, S_b0_mod_3, S_b0_mod_2, S_b0_mod_1, S_b0_mod_0, S_cb_mmade4_1h, S_bx_mcan1_1h, S_b0_mod_4h] at hi
        · exfalso
          have hon : (fs_move (rsS k.1.1.1.1 T)).1.2.1 = true := hon
          rcases fs_move_onk (rsS k.1.1.1.1 T) with ⟨z, -⟩ | ⟨-, z⟩
          · rw [hb] at z; cases z
          · rw [z] at hon; cases hon
      | true =>
        rw [hb] at hv
        simp only [if_true]
        obtain ⟨y3, p3, z3, e3⟩ := q_anew (d := d + 3) (B := B) (x := x) (s := (fs_move (rsS k.1.1.1.1 T)).1) (m := mTook m k.1.2.1.1) hx hj z2
        refine ⟨0, mAnew (mTook m k.1.2.1.1) (tm_fresh T).2.2, y3, _, O, hent _ ?_, hmT.anew _, ?_, ?_, z3, rfl, fun _ => ⟨lr.z elp rfl rfl, rfl, fun _ => ⟨[], by simp [S_cb_mmade4_0, S_bx_mcan1_0, S_b8_mkey_1, S_b8_mkey_0, S_b1_mterm_0, S_b1_copy_0, S_b0_mod_7, S_b0_mod_6, S_b0_mod_5, S_b0_mod_3, S_b0_mod_2, S_b0_mod_1, S_b0_mod_0, S_cb_mmade4_1h, S_bx_mcan1_1h, S_b0_mod_4h], ?_⟩⟩⟩
        · show _ = some (some (Value.int 0), mm B (x.wk j (fs_move (rsS k.1.1.1.1 T)).1 (mAnew (mTook m k.1.2.1.1) (tm_fresh T).2.2)) y3)
          simp (disch := (first | omega | decide)) [S_cb_mmade4_0, S_bx_mcan1_0, S_b8_mkey_1, S_b8_mkey_0, S_b1_mterm_0, S_b1_copy_0, S_b0_mod_7, S_b0_mod_6, S_b0_mod_5, S_b0_mod_3, S_b0_mod_2, S_b0_mod_1, S_b0_mod_0, S_cb_mmade4_1h, S_bx_mcan1_1h, S_b0_mod_4h, s284_0, s284_1, s284_4, s284_6, s284_7, s284_8, s284_9, s284_12, s284_15, s284_17, s284_18, s284_19, s284_20, s284_23, s284_24, s284_27, s284_28, s284_29, s284_32, s284_33, s284_34, s284_35, s284_38, s284_41, s284_43, s284_44, s284_45, s284_46, s284_49, s284_50, mq_k0s, mq_k1s, mq_k2s, mq_k4s, mq_k5s, mq_k5n, mq_k5as, mq_k6s, mj_pu, mj_lo, mj_br, mj_hr, mj_hw, mq_gf, mq_len, mq_al, mq_pf, mq_ok, mj_re, mq_lkm, mq_lkn, mj_ldi, mj_ldl, mj_lda, mj_ii, mj_ll, mj_li, mj_i1, ms_1, ms_2, f1_n, f1_i, f1_r, f1_u, f1_l, f2_n, f2_i, f2_r, f2_u, f2_l, mj_tg, mj_c1, mj_c2, mj_ar, mj_aw, mq_cb, mq_oi, mj_rm, Value.category, -getElem?_pos, List.getElem?_cons_zero, decide_eq_true, decide_eq_false, nl_lt, nl_le, ln_lt, ln_le, nl_eq, ln_eq, nl_add, ln_add, nl_sub, ln_mul, nI_sub, nI_mul, nI_add, nI_lt_iff, nI_le_iff, nI_inj, nI_num, mq_ix, nI_1, nl_mul, nl_div, hv, on1, p3, narrow]
        · exact (kr_mk_ hkT.pr hkT.ta hkT.an rfl rfl rfl hkT.he)
        · show cF (fs_move (rsS k.1.1.1.1 T)).1.2.2.2.2.2.2.2.2.2.2.2 _
          rw [hcr]; intro i c hi; simp [S_cb_mmade4_0, S_bx_mcan1_0, S_b8_mkey_1, S_b8_mkey_0, S_b1_mterm_0, S_b1_copy_0, S_b0_mod_7, S_b0_mod_6, S_b0_mod_5, S_b0_mod_3, S_b0_mod_2, S_b0_mod_1, S_b0_mod_0, S_cb_mmade4_1h, S_bx_mcan1_1h, S_b0_mod_4h] at hi
        · rw [List.append_nil]; exact ere
/-- what is heard, put into a command's end -/
def hR (R : Int32 × Ky × Tm) : Int32 × Ky × Tm := (R.1, hT_ R.2.1, R.2.2)
theorem own_H {party : Int32} : ∀ n e, cbOwn (hT_ k) T ms party n e = cbOwn k T ms party n e := by
  intro n
  induction n with
  | zero => intro e; rfl
  | succ n ih =>
    intro e
    unfold cbOwn
    rw [ih]
    rfl
theorem fo_H {party : Int32} (o : Option Nat) : ky_fo (hT_ k) T ms party o = ky_fo k T ms party o := by
  cases o with
  | none => rfl
  | some p => exact own_H _ _
theorem pin_H {p n : Option Nat} {hash : Int32} : pnTest (hT_ k) T ms p n hash = ((pnTest k T ms p n hash).1, hT_ (pnTest k T ms p n hash).2) := by
  unfold pnTest
  rw [took_H, show (hT_ k).1.2.1.1 = k.1.2.1.1 from rfl, show (hT_ k).1.1.1.1 = k.1.1.1.1 from rfl, show (hT_ k).2.1.1.1 = k.2.1.1.1 from rfl]
  by_cases h0 : oVn ms p = 0
  · simp only [if_pos h0]
    by_cases h1 : k.1.2.1.1 = 0
    · simp only [if_pos h1]
    · simp only [if_neg h1]
  · simp only [if_neg h0]
    by_cases h1 : n = none ∨ oVn ms n ≠ 1
    · simp only [if_pos h1]
    · simp only [if_neg h1]
      by_cases h2 : k.1.1.1.1.2.2.2.2.2.2.2.2.1 = 0
      · simp only [if_pos h2]
      · simp only [if_neg h2]
theorem mkp_H : mk_pin ms (hT_ k) T = ((mk_pin ms k T).1, hT_ (mk_pin ms k T).2) := by
  unfold mk_pin
  rw [pin_H, show (hT_ k).1.1.1.1 = k.1.1.1.1 from rfl]
  by_cases h : mem ms 8 = none
  · simp only [if_pos h]
  · simp only [if_neg h]
theorem mke_H : mk_end ms (hT_ k) T = hR (mk_end ms k T) := by
  unfold mk_end hR
  have e1 : (hT_ k).1.1.1.1 = k.1.1.1.1 := rfl
  have e2 : ∀ a b, bs_cm (hT_ k) T a b = bs_cm k T a b := fun _ _ => rfl
  rw [e1, e2]
  by_cases h : oSim ms 21 (cbNm ms rk_ (mem ms 7)) = true
  · simp only [if_pos h]
    by_cases h1 : fs_need k.1.1.1.1.2.2.2.2.2.2.2.2.2.2.2 (mk_party T ms) (oBy ms (cbNm ms id_ (mem ms 3))) ≤ 256
    · simp only [if_pos h1]
      by_cases h2 : (fs_wr (bs_cm k T (oBy ms (cbNm ms id_ (mem ms 2))) (oBy ms (cbNm ms id_ (mem ms 3)))).row k.1.1.1.1).2 = true
      · simp only [if_pos h2]; rfl
      · simp only [if_neg h2]; rfl
    · simp only [if_neg h1]
  · simp only [if_neg h]; rfl
theorem make_H : ky_make ms (hT_ k) T = hR (ky_make ms k T) := by
  unfold ky_make
  rw [fo_H, mkp_H, took_H, mke_H]
  have e1 : (hT_ k).1.2.1.1 = k.1.2.1.1 := rfl
  rw [e1]
  unfold hR
  by_cases h1 : mkFault ms ≠ 0
  · simp only [if_pos h1]
  · simp only [if_neg h1]
    by_cases h2 : ky_fo k T ms (mk_party T ms) (mem ms 5) ≠ 0
    · simp only [if_pos h2]
    · simp only [if_neg h2]
      by_cases h3 : ky_ha ms (mem ms 4) = false
      · simp only [if_pos h3]
      · simp only [if_neg h3]
        by_cases h4 : oSim ms 21 (cbNm ms uv_ (mem ms 7)) = true
        · simp only [if_pos h4]
        · simp only [if_neg h4]
          by_cases h5 : (mk_pin ms k T).1 ≠ 0
          · simp only [if_pos h5]
          · simp only [if_neg h5]
            by_cases h6 : k.1.2.1.1 = 0
            · simp only [if_pos h6]
            · simp only [if_neg h6]
theorem sw_H {oc : Option Cr} {id party hash flags : Int32} {many : Nat} : sw (hT_ k) T oc id party hash flags many = (hT_ (sw k T oc id party hash flags many).1, (sw k T oc id party hash flags many).2) := by
  unfold sw
  have e1 : (hT_ k).1.1.1.1 = k.1.1.1.1 := rfl
  have e2 : sw_cnt (hT_ k) oc = sw_cnt k oc := rfl
  rw [e1, e2]
  by_cases h : (fs_wr (rcCount (sw_id oc) (sw_cnt k oc)) k.1.1.1.1).2 = false
  · simp only [if_pos h]; rfl
  · simp only [if_neg h]; rfl
theorem tk_H : sg_tk ms (hT_ k) = hT_ (sg_tk ms k) := by
  unfold sg_tk
  rw [took_H]
  split <;> rfl
theorem sgn_H : ky_sign ms (hT_ k) T = hR (ky_sign ms k T) := by
  unfold ky_sign
  have ep : sg_pin ms (hT_ k) T = ((sg_pin ms k T).1, hT_ (sg_pin ms k T).2) := by
    unfold sg_pin
    rw [pin_H]
    by_cases h : mem ms 6 = none
    · simp only [if_pos h]
    · simp only [if_neg h]
  have ee : sg_end ms (hT_ k) T = hR (sg_end ms k T) := by
    unfold sg_end
    by_cases h : oVn ms (mem ms 3) = 0
    · simp only [if_pos h]
      unfold sg_all hR
      have e1 : (hT_ k).1.1.1.1 = k.1.1.1.1 := rfl
      have e2 : (hT_ k).1.2.1.1 = k.1.2.1.1 := rfl
      rw [e1, e2, tk_H]
      cases fs_last k.1.1.1.1.2.2.2.2.2.2.2.2.2.2.2 (sg_party T ms) k.1.1.1.1.2.2.2.2.2.2.2.2.2.2.2.length with
      | none => rfl
      | some i =>
        dsimp only
        by_cases h2 : sg_asks ms = true ∧ k.1.2.1.1 = 0
        · simp only [if_pos h2]
        · simp only [if_neg h2]
          have := sw_H (k := ((((((sg_tk ms k).1.1.1.1, (sg_tk ms k).1.1.1.2), ((sg_tk ms k).1.1.2.1, (sg_tk ms k).1.1.2.2)), (((sg_tk ms k).1.2.1.1, (sg_tk ms k).1.2.1.2), ((sg_tk ms k).1.2.2.1, (sg_tk ms k).1.2.2.2))), ((((sg_tk ms k).2.1.1.1, (sg_tk ms k).2.1.1.2), ((sg_tk ms k).2.1.2.1, i)), ((sg_party T ms, o4 ms (mem ms 2)), sg_fl ms))) : Ky)) (T := T) (oc := k.1.1.1.1.2.2.2.2.2.2.2.2.2.2.2[i]?) (id := 0) (party := sg_party T ms) (hash := o4 ms (mem ms 2)) (flags := sg_fl ms) (many := fs_many k.1.1.1.1.2.2.2.2.2.2.2.2.2.2.2 (sg_party T ms))
          have e3 : hT_ ((((((sg_tk ms k).1.1.1.1, (sg_tk ms k).1.1.1.2), ((sg_tk ms k).1.1.2.1, (sg_tk ms k).1.1.2.2)), (((sg_tk ms k).1.2.1.1, (sg_tk ms k).1.2.1.2), ((sg_tk ms k).1.2.2.1, (sg_tk ms k).1.2.2.2))), ((((sg_tk ms k).2.1.1.1, (sg_tk ms k).2.1.1.2), ((sg_tk ms k).2.1.2.1, i)), ((sg_party T ms, o4 ms (mem ms 2)), sg_fl ms))) : Ky) = ((((((hT_ (sg_tk ms k)).1.1.1.1, (hT_ (sg_tk ms k)).1.1.1.2), ((hT_ (sg_tk ms k)).1.1.2.1, (hT_ (sg_tk ms k)).1.1.2.2)), (((hT_ (sg_tk ms k)).1.2.1.1, (hT_ (sg_tk ms k)).1.2.1.2), ((hT_ (sg_tk ms k)).1.2.2.1, (hT_ (sg_tk ms k)).1.2.2.2))), ((((hT_ (sg_tk ms k)).2.1.1.1, (hT_ (sg_tk ms k)).2.1.1.2), ((hT_ (sg_tk ms k)).2.1.2.1, i)), ((sg_party T ms, o4 ms (mem ms 2)), sg_fl ms))) : Ky) := rfl
          rw [e3] at this
          rw [this]
    · simp only [if_neg h]
      unfold sg_list hR
      rw [fo_H, tk_H]
      have e1 : (hT_ k).1.1.1.1 = k.1.1.1.1 := rfl
      have e2 : (hT_ k).1.2.1.1 = k.1.2.1.1 := rfl
      have e3 : ∀ a b, ky_wh (hT_ k) T a b = ky_wh k T a b := fun _ _ => rfl
      rw [e1, e2, e3]
      by_cases h1 : ky_wh k T (ky_fo k T ms (sg_party T ms) (mem ms 3)) (sg_party T ms) = -1
      · simp only [if_pos h1]
      · simp only [if_neg h1]
        by_cases h2 : sg_asks ms = true ∧ k.1.2.1.1 = 0
        · simp only [if_pos h2]
        · simp only [if_neg h2]
          rw [sw_H]
  rw [ep, ee]
  unfold hR
  by_cases h1 : sgFault ms ≠ 0
  · simp only [if_pos h1]
  · simp only [if_neg h1]
    by_cases h4 : oSim ms 21 (cbNm ms uv_ (mem ms 5)) = true
    · simp only [if_pos h4]
    · simp only [if_neg h4]
      by_cases h5 : (sg_pin ms k T).1 ≠ 0
      · simp only [if_pos h5]
      · simp only [if_neg h5]
theorem nxt_H : ky_next (hT_ k) T = hR (ky_next k T) := by
  unfold ky_next hR
  have e1 : (hT_ k).1.1.1.1 = k.1.1.1.1 := rfl
  have e2 : (hT_ k).2.2.1.1 = k.2.2.1.1 := rfl
  have e3 : (hT_ k).2.1.2.2 = k.2.1.2.2 := rfl
  have e4 : (hT_ k).2.2.1.2 = k.2.2.1.2 := rfl
  have e5 : (hT_ k).2.2.2 = k.2.2.2 := rfl
  rw [e1, e2, e3, e4, e5]
  cases fs_last k.1.1.1.1.2.2.2.2.2.2.2.2.2.2.2 k.2.2.1.1 k.2.1.2.2 with
  | none => rfl
  | some i =>
    dsimp only
    have := sw_H (k := (((((k.1.1.1.1, k.1.1.1.2), (k.1.1.2.1, k.1.1.2.2)), ((k.1.2.1.1, k.1.2.1.2), (k.1.2.2.1, k.1.2.2.2))), (((k.2.1.1.1, k.2.1.1.2), (k.2.1.2.1, i)), ((k.2.2.1.1, k.2.2.1.2), k.2.2.2))) : Ky)) (T := T) (oc := k.1.1.1.1.2.2.2.2.2.2.2.2.2.2.2[i]?) (id := 0) (party := k.2.2.1.1) (hash := k.2.2.1.2) (flags := k.2.2.2) (many := 1)
    exact congrArg (fun z : Ky × Tm => ((0 : Int32), z)) this
theorem newp_H {sh : Int32} : ky_newPin ms (hT_ k) T sh = hR (ky_newPin ms k T sh) := by
  unfold ky_newPin hR
  split <;> rfl
theorem tryp_H {sh : Int32} : ky_tryPin ms (hT_ k) T sh = hR (ky_tryPin ms k T sh) := by
  unfold ky_tryPin hR
  have e1 : (hT_ k).1.1.1.1 = k.1.1.1.1 := rfl
  have e2 : (pn_k1 (hT_ k)).1.1.1.1 = (pn_k1 k).1.1.1.1 := rfl
  rw [e1, e2]
  by_cases h : (fs_wr (rcn 3 (k.1.1.1.1.2.2.2.2.2.2.2.2.2.1 - 1) 0) k.1.1.1.1).2 = false
  · simp only [if_pos h]; rfl
  · simp only [if_neg h]
    by_cases h2 : kn_as T (4 :: sh :: b4 (pn_k1 k).1.1.1.1.2.2.2.2.2.2.2.2.1) (o4 ms (mem ms 6)) = true
    · simp only [if_pos h2]; rfl
    · simp only [if_neg h2]; rfl
theorem dopin_H : ky_doPin ms (hT_ k) T = hR (ky_doPin ms k T) := by
  have el : ∀ st sh, pn_late ms st (hT_ k) T sh = hR (pn_late ms st k T sh) := by
    intro st sh
    unfold pn_late
    rw [newp_H, tryp_H]
    have e1 : pn_set (hT_ k) = pn_set k := rfl
    have e2 : pn_try (hT_ k) = pn_try k := rfl
    rw [e1, e2]
    generalize ky_tryPin ms k T (nI sh) = q
    have et : pn_then ms st sh (hR q) = hR (pn_then ms st sh q) := by
      unfold pn_then
      have a1 : (hR q).1 = q.1 := rfl
      have a2 : (hR q).2.1.1.1.1.1.2.1 = q.2.1.1.1.1.1.2.1 := rfl
      rw [a1, a2]
      by_cases h : q.1 ≠ 0 ∨ q.2.1.1.1.1.1.2.1 = false
      · simp only [if_pos h]
      · simp only [if_neg h]
        by_cases h4 : st = 4
        · simp only [if_pos h4]; exact newp_H
        · simp only [if_neg h4]; rfl
    rw [et]
    unfold hR
    by_cases h1 : (if st = 3 then pn_set k else pn_try k) ≠ 0
    · simp only [if_pos h1]
    · simp only [if_neg h1]
      by_cases h2 : st ≠ 5 ∧ kn_as T (pn_mac (nI sh) ms (decide (st = 4))) (o4 ms (mem ms 4)) = false
      · simp only [if_pos h2]
      · simp only [if_neg h2]
        by_cases h3 : st = 3
        · simp only [if_pos h3]
        · simp only [if_neg h3]
  unfold ky_doPin
  have e1 : pn_sh (hT_ k) T ms = pn_sh k T ms := rfl
  rw [el, e1]
  unfold hR
  by_cases h1 : pnFault T ms (oVn ms (mem ms 2)) ≠ 0
  · simp only [if_pos h1]
  · simp only [if_neg h1]
    by_cases h2 : oVn ms (mem ms 2) = 1
    · simp only [if_pos h2]; rfl
    · simp only [if_neg h2]
      by_cases h3 : oVn ms (mem ms 2) = 2
      · simp only [if_pos h3]; rfl
      · simp only [if_neg h3]
end
end
/- cy.mdone -/
section
set_option maxRecDepth 512
/-! The model: a message done. -/
/- 277 PasskeyHouseModel.done(IZ)I -/
theorem s277_0 {d : Nat} {ls : mj_L} {st : List Value} {M : mj_H} : mj_Rn d mj_m277 0 ls st M = mq_k0 d mj_m277 1 ls M (mj_lda (mj_lk ls 0) st) := mj_R0 (r := (.aload_n 0, 1, 0, 0, 0)) rfl rfl
theorem s277_1 {d : Nat} {ls : mj_L} {st : List Value} {M : mj_H} : mj_Rn d mj_m277 1 ls st M = mq_k0 d mj_m277 4 ls M (mq_gf 11 47 st M) := (mj_R3 (r := (.getfield 393, 3, 11, 47, 57402)) rfl rfl).trans (congrArg (mq_k0 d mj_m277 4 ls M) mq_gf_eq)
theorem s277_4 {d : Nat} {ls : mj_L} {st : List Value} {M : mj_H} : mj_Rn d mj_m277 4 ls st M = mq_k2 d mj_m277 ls M (mj_br (.ifCond .ne 7) 4 st) := mj_R2 (r := (.ifCond .ne 7, 3, 0, 0, 0)) rfl rfl
theorem s277_7 {d : Nat} {ls : mj_L} {st : List Value} {M : mj_H} : mj_Rn d mj_m277 7 ls st M = mj_Rn d mj_m277 8 ls (.int 0 :: st) M := mj_R0 (r := (.iconst 0, 1, 0, 0, 0)) rfl rfl
theorem s277_8 {d : Nat} {ls : mj_L} {st : List Value} {M : mj_H} : mj_Rn d mj_m277 8 ls st M = mj_Rn d mj_m277 17 ls st M := mj_R2 (r := (.goto 9, 3, 0, 0, 0)) rfl rfl
theorem s277_11 {d : Nat} {ls : mj_L} {st : List Value} {M : mj_H} : mj_Rn d mj_m277 11 ls st M = mq_k0 d mj_m277 12 ls M (mj_lda (mj_lk ls 0) st) := mj_R0 (r := (.aload_n 0, 1, 0, 0, 0)) rfl rfl
theorem s277_12 {d : Nat} {ls : mj_L} {st : List Value} {M : mj_H} : mj_Rn d mj_m277 12 ls st M = mq_k0 d mj_m277 15 ls M (mq_gf 11 46 st M) := (mj_R3 (r := (.getfield 127, 3, 11, 46, 57400)) rfl rfl).trans (congrArg (mq_k0 d mj_m277 15 ls M) mq_gf_eq)
theorem s277_15 {d : Nat} {ls : mj_L} {st : List Value} {M : mj_H} : mj_Rn d mj_m277 15 ls st M = mj_Rn d mj_m277 16 ls (.int 0 :: st) M := mj_R0 (r := (.iconst 0, 1, 0, 0, 0)) rfl rfl
theorem s277_16 {d : Nat} {ls : mj_L} {st : List Value} {M : mj_H} : mj_Rn d mj_m277 16 ls st M = mq_k0 d mj_m277 17 ls M (mq_al [1000] st M) := (mj_R3 (r := (.iaload, 1, 0, 0, 0)) rfl rfl).trans (congrArg (mq_k0 d mj_m277 17 ls M) mq_ali_eq)
theorem s277_17 {d : Nat} {ls : mj_L} {st : List Value} {M : mj_H} : mj_Rn d mj_m277 17 ls st M = mq_k1 d mj_m277 18 M (mj_lo 4 (.istore 3) ls st) := (mj_R1 (r := (.istore_n 3, 1, 0, 0, 0)) rfl rfl).trans (congrArg (mq_k1 d mj_m277 18 M) (mq_sti (k := 3)))
theorem s277_18 {d : Nat} {ls : mj_L} {st : List Value} {M : mj_H} : mj_Rn d mj_m277 18 ls st M = mq_k0 d mj_m277 19 ls M (mj_lda (mj_lk ls 0) st) := mj_R0 (r := (.aload_n 0, 1, 0, 0, 0)) rfl rfl
theorem s277_19 {d : Nat} {ls : mj_L} {st : List Value} {M : mj_H} : mj_Rn d mj_m277 19 ls st M = mq_k0 d mj_m277 22 ls M (mq_gf 11 47 st M) := (mj_R3 (r := (.getfield 393, 3, 11, 47, 57402)) rfl rfl).trans (congrArg (mq_k0 d mj_m277 22 ls M) mq_gf_eq)
theorem s277_22 {d : Nat} {ls : mj_L} {st : List Value} {M : mj_H} : mj_Rn d mj_m277 22 ls st M = mq_k2 d mj_m277 ls M (mj_br (.ifCond .eq 28) 22 st) := mj_R2 (r := (.ifCond .eq 28, 3, 0, 0, 0)) rfl rfl
theorem s277_25 {d : Nat} {ls : mj_L} {st : List Value} {M : mj_H} : mj_Rn d mj_m277 25 ls st M = mq_k0 d mj_m277 26 ls M (mj_lda (mj_lk ls 0) st) := mj_R0 (r := (.aload_n 0, 1, 0, 0, 0)) rfl rfl
theorem s277_26 {d : Nat} {ls : mj_L} {st : List Value} {M : mj_H} : mj_Rn d mj_m277 26 ls st M = mq_k0 d mj_m277 29 ls M (mq_gf 11 47 st M) := (mj_R3 (r := (.getfield 393, 3, 11, 47, 57402)) rfl rfl).trans (congrArg (mq_k0 d mj_m277 29 ls M) mq_gf_eq)
theorem s277_29 {d : Nat} {ls : mj_L} {st : List Value} {M : mj_H} : mj_Rn d mj_m277 29 ls st M = mj_Rn d mj_m277 30 ls (.int 1 :: st) M := mj_R0 (r := (.iconst 1, 1, 0, 0, 0)) rfl rfl
theorem s277_30 {d : Nat} {ls : mj_L} {st : List Value} {M : mj_H} : mj_Rn d mj_m277 30 ls st M = mq_k2 d mj_m277 ls M (mj_br (.if_icmp .le 22) 30 st) := mj_R2 (r := (.if_icmp .le 22, 3, 0, 0, 0)) rfl rfl
theorem s277_33 {d : Nat} {ls : mj_L} {st : List Value} {M : mj_H} : mj_Rn d mj_m277 33 ls st M = mq_k0 d mj_m277 34 ls M (mj_ldi (mj_lk ls 3) st) := mj_R0 (r := (.iload_n 3, 1, 0, 0, 0)) rfl rfl
theorem s277_34 {d : Nat} {ls : mj_L} {st : List Value} {M : mj_H} : mj_Rn d mj_m277 34 ls st M = mj_Rn d mj_m277 35 ls (.int 4 :: st) M := mj_R0 (r := (.iconst 4, 1, 0, 0, 0)) rfl rfl
theorem s277_35 {d : Nat} {ls : mj_L} {st : List Value} {M : mj_H} : mj_Rn d mj_m277 35 ls st M = mq_k2 d mj_m277 ls M (mj_br (.if_icmp .eq 15) 35 st) := mj_R2 (r := (.if_icmp .eq 15, 3, 0, 0, 0)) rfl rfl
theorem s277_38 {d : Nat} {ls : mj_L} {st : List Value} {M : mj_H} : mj_Rn d mj_m277 38 ls st M = mq_k0 d mj_m277 39 ls M (mj_ldi (mj_lk ls 3) st) := mj_R0 (r := (.iload_n 3, 1, 0, 0, 0)) rfl rfl
theorem s277_39 {d : Nat} {ls : mj_L} {st : List Value} {M : mj_H} : mj_Rn d mj_m277 39 ls st M = mj_Rn d mj_m277 41 ls (.int 7 :: st) M := mj_R0 (r := (.bipush 7, 2, 0, 0, 0)) rfl rfl
theorem s277_41 {d : Nat} {ls : mj_L} {st : List Value} {M : mj_H} : mj_Rn d mj_m277 41 ls st M = mq_k2 d mj_m277 ls M (mj_br (.if_icmp .eq 9) 41 st) := mj_R2 (r := (.if_icmp .eq 9, 3, 0, 0, 0)) rfl rfl
theorem s277_44 {d : Nat} {ls : mj_L} {st : List Value} {M : mj_H} : mj_Rn d mj_m277 44 ls st M = mq_k0 d mj_m277 45 ls M (mj_ldi (mj_lk ls 3) st) := mj_R0 (r := (.iload_n 3, 1, 0, 0, 0)) rfl rfl
theorem s277_45 {d : Nat} {ls : mj_L} {st : List Value} {M : mj_H} : mj_Rn d mj_m277 45 ls st M = mj_Rn d mj_m277 47 ls (.int 8 :: st) M := mj_R0 (r := (.bipush 8, 2, 0, 0, 0)) rfl rfl
theorem s277_47 {d : Nat} {ls : mj_L} {st : List Value} {M : mj_H} : mj_Rn d mj_m277 47 ls st M = mq_k2 d mj_m277 ls M (mj_br (.if_icmp .ne 5) 47 st) := mj_R2 (r := (.if_icmp .ne 5, 3, 0, 0, 0)) rfl rfl
theorem s277_50 {d : Nat} {ls : mj_L} {st : List Value} {M : mj_H} : mj_Rn d mj_m277 50 ls st M = mj_Rn d mj_m277 51 ls (.int 3 :: st) M := mj_R0 (r := (.iconst 3, 1, 0, 0, 0)) rfl rfl
theorem s277_51 {d : Nat} {ls : mj_L} {st : List Value} {M : mj_H} : mj_Rn d mj_m277 51 ls st M = mq_k6 M (mj_re (some .int) (.ireturn) st) := mj_R6 (r := (.ireturn, 1, 0, 0, 0)) rfl rfl
theorem s277_52 {d : Nat} {ls : mj_L} {st : List Value} {M : mj_H} : mj_Rn d mj_m277 52 ls st M = mq_k0 d mj_m277 53 ls M (mj_ldi (mj_lk ls 3) st) := mj_R0 (r := (.iload_n 3, 1, 0, 0, 0)) rfl rfl
theorem s277_53 {d : Nat} {ls : mj_L} {st : List Value} {M : mj_H} : mj_Rn d mj_m277 53 ls st M = mj_Rn d mj_m277 54 ls (.int 4 :: st) M := mj_R0 (r := (.iconst 4, 1, 0, 0, 0)) rfl rfl
theorem s277_54 {d : Nat} {ls : mj_L} {st : List Value} {M : mj_H} : mj_Rn d mj_m277 54 ls st M = mq_k2 d mj_m277 ls M (mj_br (.if_icmp .ne 9) 54 st) := mj_R2 (r := (.if_icmp .ne 9, 3, 0, 0, 0)) rfl rfl
theorem s277_57 {d : Nat} {ls : mj_L} {st : List Value} {M : mj_H} : mj_Rn d mj_m277 57 ls st M = mq_k0 d mj_m277 58 ls M (mj_lda (mj_lk ls 0) st) := mj_R0 (r := (.aload_n 0, 1, 0, 0, 0)) rfl rfl
theorem s277_58 {d : Nat} {ls : mj_L} {st : List Value} {M : mj_H} : mj_Rn d mj_m277 58 ls st M = mq_k0 d mj_m277 59 ls M (mj_ldi (mj_lk ls 1) st) := mj_R0 (r := (.iload_n 1, 1, 0, 0, 0)) rfl rfl
theorem s277_59 {d : Nat} {ls : mj_L} {st : List Value} {M : mj_H} : mj_Rn (d + 1) mj_m277 59 ls st M = mq_k5a (d + 1) mj_m277 62 ls M 278 (mq_cb 0 1 11 st M) := mj_R5e (r := (.invokevirtual 551, 3, 0, 278, 32963)) (z := mj_m278) rfl rfl (by decide) (by decide) rfl
theorem s277_62 {d : Nat} {ls : mj_L} {st : List Value} {M : mj_H} : mj_Rn d mj_m277 62 ls st M = mq_k6 M (mj_re (some .int) (.ireturn) st) := mj_R6 (r := (.ireturn, 1, 0, 0, 0)) rfl rfl
theorem s277_63 {d : Nat} {ls : mj_L} {st : List Value} {M : mj_H} : mj_Rn d mj_m277 63 ls st M = mq_k0 d mj_m277 64 ls M (mj_ldi (mj_lk ls 3) st) := mj_R0 (r := (.iload_n 3, 1, 0, 0, 0)) rfl rfl
theorem s277_64 {d : Nat} {ls : mj_L} {st : List Value} {M : mj_H} : mj_Rn d mj_m277 64 ls st M = mj_Rn d mj_m277 66 ls (.int 7 :: st) M := mj_R0 (r := (.bipush 7, 2, 0, 0, 0)) rfl rfl
theorem s277_66 {d : Nat} {ls : mj_L} {st : List Value} {M : mj_H} : mj_Rn d mj_m277 66 ls st M = mq_k2 d mj_m277 ls M (mj_br (.if_icmp .ne 10) 66 st) := mj_R2 (r := (.if_icmp .ne 10, 3, 0, 0, 0)) rfl rfl
theorem s277_69 {d : Nat} {ls : mj_L} {st : List Value} {M : mj_H} : mj_Rn d mj_m277 69 ls st M = mq_k0 d mj_m277 70 ls M (mj_lda (mj_lk ls 0) st) := mj_R0 (r := (.aload_n 0, 1, 0, 0, 0)) rfl rfl
theorem s277_70 {d : Nat} {ls : mj_L} {st : List Value} {M : mj_H} : mj_Rn d mj_m277 70 ls st M = mq_k0 d mj_m277 71 ls M (mj_ldi (mj_lk ls 1) st) := mj_R0 (r := (.iload_n 1, 1, 0, 0, 0)) rfl rfl
theorem s277_71 {d : Nat} {ls : mj_L} {st : List Value} {M : mj_H} : mj_Rn d mj_m277 71 ls st M = mq_k0 d mj_m277 72 ls M (mj_ldi (mj_lk ls 2) st) := mj_R0 (r := (.iload_n 2, 1, 0, 0, 0)) rfl rfl
theorem s277_72 {d : Nat} {ls : mj_L} {st : List Value} {M : mj_H} : mj_Rn (d + 1) mj_m277 72 ls st M = mq_k5a (d + 1) mj_m277 75 ls M 284 (mq_cb 0 2 11 st M) := mj_R5e (r := (.invokevirtual 554, 3, 0, 284, 32987)) (z := mj_m284) rfl rfl (by decide) (by decide) rfl
theorem s277_75 {d : Nat} {ls : mj_L} {st : List Value} {M : mj_H} : mj_Rn d mj_m277 75 ls st M = mq_k6 M (mj_re (some .int) (.ireturn) st) := mj_R6 (r := (.ireturn, 1, 0, 0, 0)) rfl rfl
theorem s277_76 {d : Nat} {ls : mj_L} {st : List Value} {M : mj_H} : mj_Rn d mj_m277 76 ls st M = mq_k0 d mj_m277 77 ls M (mj_ldi (mj_lk ls 3) st) := mj_R0 (r := (.iload_n 3, 1, 0, 0, 0)) rfl rfl
theorem s277_77 {d : Nat} {ls : mj_L} {st : List Value} {M : mj_H} : mj_Rn d mj_m277 77 ls st M = mj_Rn d mj_m277 79 ls (.int 8 :: st) M := mj_R0 (r := (.bipush 8, 2, 0, 0, 0)) rfl rfl
theorem s277_79 {d : Nat} {ls : mj_L} {st : List Value} {M : mj_H} : mj_Rn d mj_m277 79 ls st M = mq_k2 d mj_m277 ls M (mj_br (.if_icmp .ne 9) 79 st) := mj_R2 (r := (.if_icmp .ne 9, 3, 0, 0, 0)) rfl rfl
theorem s277_82 {d : Nat} {ls : mj_L} {st : List Value} {M : mj_H} : mj_Rn d mj_m277 82 ls st M = mq_k0 d mj_m277 83 ls M (mj_lda (mj_lk ls 0) st) := mj_R0 (r := (.aload_n 0, 1, 0, 0, 0)) rfl rfl
theorem s277_83 {d : Nat} {ls : mj_L} {st : List Value} {M : mj_H} : mj_Rn d mj_m277 83 ls st M = mq_k0 d mj_m277 84 ls M (mj_ldi (mj_lk ls 1) st) := mj_R0 (r := (.iload_n 1, 1, 0, 0, 0)) rfl rfl
theorem s277_84 {d : Nat} {ls : mj_L} {st : List Value} {M : mj_H} : mj_Rn (d + 1) mj_m277 84 ls st M = mq_k5a (d + 1) mj_m277 87 ls M 286 (mq_cb 0 1 11 st M) := mj_R5e (r := (.invokevirtual 557, 3, 0, 286, 32995)) (z := mj_m286) rfl rfl (by decide) (by decide) rfl
theorem s277_87 {d : Nat} {ls : mj_L} {st : List Value} {M : mj_H} : mj_Rn d mj_m277 87 ls st M = mq_k6 M (mj_re (some .int) (.ireturn) st) := mj_R6 (r := (.ireturn, 1, 0, 0, 0)) rfl rfl
theorem s277_88 {d : Nat} {ls : mj_L} {st : List Value} {M : mj_H} : mj_Rn d mj_m277 88 ls st M = mq_k0 d mj_m277 89 ls M (mj_ldi (mj_lk ls 3) st) := mj_R0 (r := (.iload_n 3, 1, 0, 0, 0)) rfl rfl
theorem s277_89 {d : Nat} {ls : mj_L} {st : List Value} {M : mj_H} : mj_Rn d mj_m277 89 ls st M = mj_Rn d mj_m277 90 ls (.int 1 :: st) M := mj_R0 (r := (.iconst 1, 1, 0, 0, 0)) rfl rfl
theorem s277_90 {d : Nat} {ls : mj_L} {st : List Value} {M : mj_H} : mj_Rn d mj_m277 90 ls st M = mq_k2 d mj_m277 ls M (mj_br (.if_icmp .eq 16) 90 st) := mj_R2 (r := (.if_icmp .eq 16, 3, 0, 0, 0)) rfl rfl
theorem s277_93 {d : Nat} {ls : mj_L} {st : List Value} {M : mj_H} : mj_Rn d mj_m277 93 ls st M = mq_k0 d mj_m277 94 ls M (mj_ldi (mj_lk ls 3) st) := mj_R0 (r := (.iload_n 3, 1, 0, 0, 0)) rfl rfl
theorem s277_94 {d : Nat} {ls : mj_L} {st : List Value} {M : mj_H} : mj_Rn d mj_m277 94 ls st M = mj_Rn d mj_m277 95 ls (.int 2 :: st) M := mj_R0 (r := (.iconst 2, 1, 0, 0, 0)) rfl rfl
theorem s277_95 {d : Nat} {ls : mj_L} {st : List Value} {M : mj_H} : mj_Rn d mj_m277 95 ls st M = mq_k2 d mj_m277 ls M (mj_br (.if_icmp .eq 11) 95 st) := mj_R2 (r := (.if_icmp .eq 11, 3, 0, 0, 0)) rfl rfl
theorem s277_98 {d : Nat} {ls : mj_L} {st : List Value} {M : mj_H} : mj_Rn d mj_m277 98 ls st M = mq_k0 d mj_m277 99 ls M (mj_ldi (mj_lk ls 3) st) := mj_R0 (r := (.iload_n 3, 1, 0, 0, 0)) rfl rfl
theorem s277_99 {d : Nat} {ls : mj_L} {st : List Value} {M : mj_H} : mj_Rn d mj_m277 99 ls st M = mj_Rn d mj_m277 101 ls (.int 6 :: st) M := mj_R0 (r := (.bipush 6, 2, 0, 0, 0)) rfl rfl
theorem s277_101 {d : Nat} {ls : mj_L} {st : List Value} {M : mj_H} : mj_Rn d mj_m277 101 ls st M = mq_k2 d mj_m277 ls M (mj_br (.if_icmp .eq 5) 101 st) := mj_R2 (r := (.if_icmp .eq 5, 3, 0, 0, 0)) rfl rfl
theorem s277_104 {d : Nat} {ls : mj_L} {st : List Value} {M : mj_H} : mj_Rn d mj_m277 104 ls st M = mj_Rn d mj_m277 105 ls (.int 1 :: st) M := mj_R0 (r := (.iconst 1, 1, 0, 0, 0)) rfl rfl
theorem s277_105 {d : Nat} {ls : mj_L} {st : List Value} {M : mj_H} : mj_Rn d mj_m277 105 ls st M = mq_k6 M (mj_re (some .int) (.ireturn) st) := mj_R6 (r := (.ireturn, 1, 0, 0, 0)) rfl rfl
theorem s277_106 {d : Nat} {ls : mj_L} {st : List Value} {M : mj_H} : mj_Rn d mj_m277 106 ls st M = mq_k0 d mj_m277 107 ls M (mj_lda (mj_lk ls 0) st) := mj_R0 (r := (.aload_n 0, 1, 0, 0, 0)) rfl rfl
theorem s277_107 {d : Nat} {ls : mj_L} {st : List Value} {M : mj_H} : mj_Rn d mj_m277 107 ls st M = mj_Rn d mj_m277 108 ls (.int 1 :: st) M := mj_R0 (r := (.iconst 1, 1, 0, 0, 0)) rfl rfl
theorem s277_108 {d : Nat} {ls : mj_L} {st : List Value} {M : mj_H} : mj_Rn (d + 1) mj_m277 108 ls st M = mq_k5a (d + 1) mj_m277 111 ls M 292 (mq_cb 0 1 11 st M) := mj_R5e (r := (.invokevirtual 560, 3, 0, 292, 36876)) (z := mj_m292) rfl rfl (by decide) (by decide) rfl
theorem s277_111 {d : Nat} {ls : mj_L} {st : List Value} {M : mj_H} : mj_Rn d mj_m277 111 ls st M = mq_k0 d mj_m277 112 ls M (mj_lda (mj_lk ls 0) st) := mj_R0 (r := (.aload_n 0, 1, 0, 0, 0)) rfl rfl
theorem s277_112 {d : Nat} {ls : mj_L} {st : List Value} {M : mj_H} : mj_Rn d mj_m277 112 ls st M = mq_k0 d mj_m277 115 ls M (mq_gf 11 47 st M) := (mj_R3 (r := (.getfield 393, 3, 11, 47, 57402)) rfl rfl).trans (congrArg (mq_k0 d mj_m277 115 ls M) mq_gf_eq)
theorem s277_115 {d : Nat} {ls : mj_L} {st : List Value} {M : mj_H} : mj_Rn d mj_m277 115 ls st M = mq_k2 d mj_m277 ls M (mj_br (.if_icmp .eq 6) 115 st) := mj_R2 (r := (.if_icmp .eq 6, 3, 0, 0, 0)) rfl rfl
theorem s277_118 {d : Nat} {ls : mj_L} {st : List Value} {M : mj_H} : mj_Rn d mj_m277 118 ls st M = mj_Rn d mj_m277 120 ls (.int 18 :: st) M := mj_R0 (r := (.bipush 18, 2, 0, 0, 0)) rfl rfl
theorem s277_120 {d : Nat} {ls : mj_L} {st : List Value} {M : mj_H} : mj_Rn d mj_m277 120 ls st M = mq_k6 M (mj_re (some .int) (.ireturn) st) := mj_R6 (r := (.ireturn, 1, 0, 0, 0)) rfl rfl
theorem s277_121 {d : Nat} {ls : mj_L} {st : List Value} {M : mj_H} : mj_Rn d mj_m277 121 ls st M = mq_k0 d mj_m277 122 ls M (mj_lda (mj_lk ls 0) st) := mj_R0 (r := (.aload_n 0, 1, 0, 0, 0)) rfl rfl
theorem s277_122 {d : Nat} {ls : mj_L} {st : List Value} {M : mj_H} : mj_Rn d mj_m277 122 ls st M = mj_Rn d mj_m277 123 ls (.int 1 :: st) M := mj_R0 (r := (.iconst 1, 1, 0, 0, 0)) rfl rfl
theorem s277_123 {d : Nat} {ls : mj_L} {st : List Value} {M : mj_H} : mj_Rn (d + 1) mj_m277 123 ls st M = mq_k5a (d + 1) mj_m277 126 ls M 294 (mq_cb 0 1 11 st M) := mj_R5e (r := (.invokevirtual 396, 3, 0, 294, 36884)) (z := mj_m294) rfl rfl (by decide) (by decide) rfl
theorem s277_126 {d : Nat} {ls : mj_L} {st : List Value} {M : mj_H} : mj_Rn d mj_m277 126 ls st M = mj_Rn d mj_m277 127 ls (.int 5 :: st) M := mj_R0 (r := (.iconst 5, 1, 0, 0, 0)) rfl rfl
theorem s277_127 {d : Nat} {ls : mj_L} {st : List Value} {M : mj_H} : mj_Rn d mj_m277 127 ls st M = mq_k2 d mj_m277 ls M (mj_br (.if_icmp .eq 6) 127 st) := mj_R2 (r := (.if_icmp .eq 6, 3, 0, 0, 0)) rfl rfl
theorem s277_130 {d : Nat} {ls : mj_L} {st : List Value} {M : mj_H} : mj_Rn d mj_m277 130 ls st M = mj_Rn d mj_m277 132 ls (.int 17 :: st) M := mj_R0 (r := (.bipush 17, 2, 0, 0, 0)) rfl rfl
theorem s277_132 {d : Nat} {ls : mj_L} {st : List Value} {M : mj_H} : mj_Rn d mj_m277 132 ls st M = mq_k6 M (mj_re (some .int) (.ireturn) st) := mj_R6 (r := (.ireturn, 1, 0, 0, 0)) rfl rfl
theorem s277_133 {d : Nat} {ls : mj_L} {st : List Value} {M : mj_H} : mj_Rn d mj_m277 133 ls st M = mq_k0 d mj_m277 134 ls M (mj_ldi (mj_lk ls 3) st) := mj_R0 (r := (.iload_n 3, 1, 0, 0, 0)) rfl rfl
theorem s277_134 {d : Nat} {ls : mj_L} {st : List Value} {M : mj_H} : mj_Rn d mj_m277 134 ls st M = mj_Rn d mj_m277 135 ls (.int 1 :: st) M := mj_R0 (r := (.iconst 1, 1, 0, 0, 0)) rfl rfl
theorem s277_135 {d : Nat} {ls : mj_L} {st : List Value} {M : mj_H} : mj_Rn d mj_m277 135 ls st M = mq_k2 d mj_m277 ls M (mj_br (.if_icmp .ne 11) 135 st) := mj_R2 (r := (.if_icmp .ne 11, 3, 0, 0, 0)) rfl rfl
theorem s277_138 {d : Nat} {ls : mj_L} {st : List Value} {M : mj_H} : mj_Rn d mj_m277 138 ls st M = mq_k0 d mj_m277 139 ls M (mj_lda (mj_lk ls 0) st) := mj_R0 (r := (.aload_n 0, 1, 0, 0, 0)) rfl rfl
theorem s277_139 {d : Nat} {ls : mj_L} {st : List Value} {M : mj_H} : mj_Rn d mj_m277 139 ls st M = mq_k0 d mj_m277 140 ls M (mj_ldi (mj_lk ls 1) st) := mj_R0 (r := (.iload_n 1, 1, 0, 0, 0)) rfl rfl
theorem s277_140 {d : Nat} {ls : mj_L} {st : List Value} {M : mj_H} : mj_Rn (d + 1) mj_m277 140 ls st M = mq_k5a (d + 1) mj_m277 143 ls M 299 (mq_cb 0 1 11 st M) := mj_R5e (r := (.invokevirtual 563, 3, 0, 299, 36905)) (z := mj_m299) rfl rfl (by decide) (by decide) rfl
theorem s277_143 {d : Nat} {ls : mj_L} {st : List Value} {M : mj_H} : mj_Rn d mj_m277 143 ls st M = mj_Rn d mj_m277 164 ls st M := mj_R2 (r := (.goto 21, 3, 0, 0, 0)) rfl rfl
theorem s277_146 {d : Nat} {ls : mj_L} {st : List Value} {M : mj_H} : mj_Rn d mj_m277 146 ls st M = mq_k0 d mj_m277 147 ls M (mj_ldi (mj_lk ls 3) st) := mj_R0 (r := (.iload_n 3, 1, 0, 0, 0)) rfl rfl
theorem s277_147 {d : Nat} {ls : mj_L} {st : List Value} {M : mj_H} : mj_Rn d mj_m277 147 ls st M = mj_Rn d mj_m277 148 ls (.int 2 :: st) M := mj_R0 (r := (.iconst 2, 1, 0, 0, 0)) rfl rfl
theorem s277_148 {d : Nat} {ls : mj_L} {st : List Value} {M : mj_H} : mj_Rn d mj_m277 148 ls st M = mq_k2 d mj_m277 ls M (mj_br (.if_icmp .ne 11) 148 st) := mj_R2 (r := (.if_icmp .ne 11, 3, 0, 0, 0)) rfl rfl
theorem s277_151 {d : Nat} {ls : mj_L} {st : List Value} {M : mj_H} : mj_Rn d mj_m277 151 ls st M = mq_k0 d mj_m277 152 ls M (mj_lda (mj_lk ls 0) st) := mj_R0 (r := (.aload_n 0, 1, 0, 0, 0)) rfl rfl
theorem s277_152 {d : Nat} {ls : mj_L} {st : List Value} {M : mj_H} : mj_Rn d mj_m277 152 ls st M = mq_k0 d mj_m277 153 ls M (mj_ldi (mj_lk ls 1) st) := mj_R0 (r := (.iload_n 1, 1, 0, 0, 0)) rfl rfl
theorem s277_153 {d : Nat} {ls : mj_L} {st : List Value} {M : mj_H} : mj_Rn (d + 1) mj_m277 153 ls st M = mq_k5a (d + 1) mj_m277 156 ls M 322 (mq_cb 0 1 11 st M) := mj_R5e (r := (.invokevirtual 566, 3, 0, 322, 36999)) (z := mj_m322) rfl rfl (by decide) (by decide) rfl
theorem s277_156 {d : Nat} {ls : mj_L} {st : List Value} {M : mj_H} : mj_Rn d mj_m277 156 ls st M = mj_Rn d mj_m277 164 ls st M := mj_R2 (r := (.goto 8, 3, 0, 0, 0)) rfl rfl
theorem s277_159 {d : Nat} {ls : mj_L} {st : List Value} {M : mj_H} : mj_Rn d mj_m277 159 ls st M = mq_k0 d mj_m277 160 ls M (mj_lda (mj_lk ls 0) st) := mj_R0 (r := (.aload_n 0, 1, 0, 0, 0)) rfl rfl
theorem s277_160 {d : Nat} {ls : mj_L} {st : List Value} {M : mj_H} : mj_Rn d mj_m277 160 ls st M = mq_k0 d mj_m277 161 ls M (mj_ldi (mj_lk ls 1) st) := mj_R0 (r := (.iload_n 1, 1, 0, 0, 0)) rfl rfl
theorem s277_161 {d : Nat} {ls : mj_L} {st : List Value} {M : mj_H} : mj_Rn (d + 1) mj_m277 161 ls st M = mq_k5a (d + 1) mj_m277 164 ls M 324 (mq_cb 0 1 11 st M) := mj_R5e (r := (.invokevirtual 569, 3, 0, 324, 37007)) (z := mj_m324) rfl rfl (by decide) (by decide) rfl
theorem s277_164 {d : Nat} {ls : mj_L} {st : List Value} {M : mj_H} : mj_Rn d mj_m277 164 ls st M = mq_k6 M (mj_re (some .int) (.ireturn) st) := mj_R6 (r := (.ireturn, 1, 0, 0, 0)) rfl rfl
theorem c277 {d : Nat} {a0 : Nat} {x1 : Int32} {x2 : Int32} {M : mj_H} : mj_V (d + 1) 277 [.ref a0, .int x1, .int x2] M = mj_Rn d mj_m277 0 [(0, .ref a0), (1, .int x1), (2, .int x2)] [] M := mj_V_go rfl (Nat.le_of_ble_eq_true rfl)
theorem took_lp (k : Ky) : (ky_took k).2.1.2.2 = k.2.1.2.2 := by unfold ky_took; split <;> rfl
theorem pnt_lp (k : Ky) {T : Tm} {ms : List Int32} {p n : Option Nat} {hash : Int32} : (pnTest k T ms p n hash).2.2.1.2.2 = k.2.1.2.2 := by
  unfold pnTest
  split
  · split
    · rfl
    · exact took_lp k
  · split
    · rfl
    · split <;> rfl
theorem make_lp (k : Ky) {T : Tm} {ms : List Int32} : (ky_make ms k T).2.1.2.1.2.2 = k.2.1.2.2 := by
  unfold ky_make
  split
  · rfl
  · split
    · exact took_lp k
    · split
      · rfl
      · split
        · rfl
        · split
          · unfold mk_pin
            split
            · rfl
            · exact pnt_lp k
          · split
            · rfl
            · unfold mk_end
              split
              · split
                · split <;> exact took_lp k
                · exact took_lp k
              · exact took_lp k
theorem newp_lp (k : Ky) {T : Tm} {ms : List Int32} {sh : Int32} : (ky_newPin ms k T sh).2.1.2.1.2.2 = k.2.1.2.2 := by
  unfold ky_newPin
  split <;> rfl
theorem dopin_lp (k : Ky) {T : Tm} {ms : List Int32} : (ky_doPin ms k T).2.1.2.1.2.2 = k.2.1.2.2 := by
  unfold ky_doPin
  split
  · rfl
  · split
    · rfl
    · split
      · rfl
      · unfold pn_late
        by_cases h1 : (if oVn ms (mem ms 2) = 3 then pn_set k else pn_try k) ≠ 0
        · rw [if_pos h1]
        · rw [if_neg h1]
          by_cases h2 : oVn ms (mem ms 2) ≠ 5 ∧ kn_as T (pn_mac (nI (pn_sh k T ms)) ms (decide (oVn ms (mem ms 2) = 4))) (o4 ms (mem ms 4)) = false
          · rw [if_pos h2]
          · rw [if_neg h2]
            by_cases h3 : oVn ms (mem ms 2) = 3
            · rw [if_pos h3]; exact newp_lp k
            · rw [if_neg h3]
              have e : (ky_tryPin ms k T (nI (pn_sh k T ms))).2.1.2.1.2.2 = k.2.1.2.2 := by
                unfold ky_tryPin
                split
                · rfl
                · split <;> rfl
              unfold pn_then
              split
              · exact e
              · split
                · exact (newp_lp _).trans e
                · exact e
section
variable {d : Nat} {B : Bs} {x : Fx} {y : Sy} {j g : Nat} {k : Ky} {m : Mk} {T : Tm} {D O ms : List Int32}
theorem yz.nc {y' : Sy} (h : yz y T D O) (hs : ys y') (hn : y'.nc = y.nc) : yz y' T D O := by
  have e : ∀ {α : Type} (f : Sy → α), (∀ y, f y.nc = f y) → f y' = f y := fun f hf => by rw [← hf y', hn, hf y]
  have t : yt y' T := by
    have := h.t
    unfold yt at this ⊢
    rw [e (·.1.2.1.1.2) (fun _ => rfl), e (·.1.2.1.2) (fun _ => rfl), e (·.1.2.2.1.1) (fun _ => rfl), e (·.1.2.2.1.2) (fun _ => rfl), e (·.1.1.1.1.2) (fun _ => rfl), e (·.1.1.1.1.1) (fun _ => rfl), e (·.1.1.1.2.1) (fun _ => rfl), e (·.1.1.1.2.2) (fun _ => rfl)]
    exact this
  have dd : yd y' D := by
    have := h.d
    unfold yd at this ⊢
    rw [e (·.1.2.2.2) (fun _ => rfl), e (·.1.1.2.1.1) (fun _ => rfl)]
    exact this
  have o : yo y' O := by
    have := h.o
    unfold yo at this ⊢
    rw [e (·.2.1.2.2) (fun _ => rfl), e (·.1.1.2.2) (fun _ => rfl)]
    exact this
  exact (yz_mk_ t dd o hs)
theorem q_done (h : xm x ms) (h4l : ms.length ≤ 400) (hx : xk x) (hj : j < 3) (hm : wm m) (hk : kr (hT_ (ky_r1 ms k)) m) (hI : kI (ky_r1 ms k) (g + 3)) (hon : k.1.1.1.1.2.1 = true) (hc : cF k.1.1.1.1.2.2.2.2.2.2.2.2.2.2.2 m) (hy : yz y T D O) (hT8 : tk8 T) (hT9 : tk9 T) (hT : T.1.length + 4 < 1000) (hO : O.length ≤ 100) (hlp : k.2.1.2.2 ≤ 8)
    (hl : (cbB ms 0 = 8 ∧ ms.length = 1 ∧ lr (ky_r1 ms k) m) ∨ (¬ (cbB ms 0 = 8 ∧ ms.length = 1) ∧ m.1.2.1.2 = 0 ∧ m.1.2.2.1 = 0)) :
    kP B x j m [0] O (hR (ky_r2 ms k T)) (mj_V (d + 9) 277 [.ref 67, .int (nI j), .int (on1 k.2.1.2.1)] (mm B (x.wk j k.1.1.1.1 m) y)) := by
  have hle := h.1.le
  have hl6 : x.2.1.1.1.2.2.length = 640 := by obtain ⟨g, -, hl⟩ := h.1; exact hl
  have hme := h.2.1
  have es : (ky_r1 ms k).1.1.1.1 = k.1.1.1.1 := rfl
  have eh : (ky_r1 ms k).2.1.2.1 = k.2.1.2.1 := rfl
  have er : (ky_r1 ms k).1.1.1.2 = [0] := rfl
  have lr0 : ¬ (cbB ms 0 = 8 ∧ ms.length = 1) → lr (hT_ (ky_r1 ms k)) m ∧ (ky_r1 ms k).2.1.2.2 = 0 ∧ m.1.2.1.2 = 0 ∧ m.1.2.2.1 = 0 := by
    intro hn
    rcases hl with ⟨a, b, -⟩ | ⟨-, a, b⟩
    · exact absurd ⟨a, b⟩ hn
    · have : (ky_r1 ms k).2.1.2.2 = 0 := by unfold ky_r1; dsimp only; rw [if_neg hn]
      exact ⟨lr.z this a b, this, a, b⟩
  have no : ∀ st : Int32, st ≠ 0 → ¬ (cbB ms 0 = 8 ∧ ms.length = 1) → ky_form ms = st → (∃ y', mj_V (d + 9) 277 [.ref 67, .int (nI j), .int (on1 k.2.1.2.1)] (mm B (x.wk j k.1.1.1.1 m) y) = some (some (.int st), mm B (x.wk j k.1.1.1.1 m) y') ∧ yz y' T D O) → kP B x j m [0] O (hR (ky_r2 ms k T)) (mj_V (d + 9) 277 [.ref 67, .int (nI j), .int (on1 k.2.1.2.1)] (mm B (x.wk j k.1.1.1.1 m) y)) := by
    rintro st h0 hn hf ⟨y', he, hz⟩
    have e : hR (ky_r2 ms k T) = (st, hT_ (ky_r1 ms k), T) := by unfold ky_r2 hR; rw [hf, if_pos h0]
    rw [e]
    exact kP.no (m' := m) (y' := y') (D' := D) he hm hk hc hz rfl (lr0 hn).1 h0
  by_cases hnil : ms = []
  · refine no 3 (by decide) (by rw [hnil]; simp [S_cb_mmade4_0, S_bx_mcan1_0, S_b8_mkey_1, S_b8_mkey_0, S_b1_mterm_0, S_b1_copy_0, S_b0_mod_7, S_b0_mod_6, S_b0_mod_5, S_b0_mod_3, S_b0_mod_2, S_b0_mod_1, S_b0_mod_0, S_cb_mmade4_1h, S_bx_mcan1_1h, S_b0_mod_4h]) (by unfold ky_form; rw [if_pos hnil]) ⟨y, ?_, hy⟩
    rw [hnil] at hme
    simp only [List.length_nil, nI_0] at hme
    generalize on1 k.2.1.2.1 = hv
    simp (disch := (first | omega | decide)) [S_cb_mmade4_0, S_bx_mcan1_0, S_b8_mkey_1, S_b8_mkey_0, S_b1_mterm_0, S_b1_copy_0, S_b0_mod_7, S_b0_mod_6, S_b0_mod_5, S_b0_mod_3, S_b0_mod_2, S_b0_mod_1, S_b0_mod_0, S_cb_mmade4_1h, S_bx_mcan1_1h, S_b0_mod_4h, c277, s277_0, s277_1, s277_4, s277_7, s277_8, s277_11, s277_12, s277_15, s277_16, s277_17, s277_18, s277_19, s277_22, s277_25, s277_26, s277_29, s277_30, s277_33, s277_34, s277_35, s277_38, s277_39, s277_41, s277_44, s277_45, s277_47, s277_50, s277_51, s277_52, s277_53, s277_54, s277_57, s277_58, s277_59, s277_62, s277_63, s277_64, s277_66, s277_69, s277_70, s277_71, s277_72, s277_75, s277_76, s277_77, s277_79, s277_82, s277_83, s277_84, s277_87, s277_88, s277_89, s277_90, s277_93, s277_94, s277_95, s277_98, s277_99, s277_101, s277_104, s277_105, s277_106, s277_107, s277_108, s277_111, s277_112, s277_115, s277_118, s277_120, s277_121, s277_122, s277_123, s277_126, s277_127, s277_130, s277_132, s277_133, s277_134, s277_135, s277_138, s277_139, s277_140, s277_143, s277_146, s277_147, s277_148, s277_151, s277_152, s277_153, s277_156, s277_159, s277_160, s277_161, s277_164, mq_k0s, mq_k1s, mq_k2s, mq_k4s, mq_k5s, mq_k5n, mq_k5as, mq_k6s, mj_pu, mj_lo, mj_br, mj_hr, mj_hw, mq_gf, mq_len, mq_al, mq_pf, mq_ok, mj_re, mq_lkm, mq_lkn, mj_ldi, mj_ldl, mj_lda, mj_ii, mj_ll, mj_li, mj_i1, ms_1, ms_2, f1_n, f1_i, f1_r, f1_u, f1_l, f2_n, f2_i, f2_r, f2_u, f2_l, mj_tg, mj_c1, mj_c2, mj_ar, mj_aw, mq_cb, mq_oi, mj_rm, Value.category, -getElem?_pos, List.getElem?_cons_zero, decide_eq_true, decide_eq_false, nl_lt, nl_le, ln_lt, ln_le, nl_eq, ln_eq, nl_add, ln_add, nl_sub, ln_mul, nI_sub, nI_mul, nI_add, nI_lt_iff, nI_le_iff, nI_inj, nI_num, mq_ix, nI_1, nl_mul, nl_div, hme, show (x.wk j k.1.1.1.1 m).1.1.1.1.2.1 = x.1.1.1.1.2.1 from rfl, narrow]
  have hpos : 0 < ms.length := List.length_pos_iff.mpr hnil
  obtain ⟨g0, gb⟩ := h.at hpos
  have hme0 : ¬ nI ms.length = 0 := fun z => by have := (nI_inj (b := 0) (by omega) (by omega)).mp z; omega
  have wm1 : (x.wk j k.1.1.1.1 m).1.1.1.1.2.1 = nI ms.length := hme
  have wm2 : (x.wk j k.1.1.1.1 m).2.1.1.1.2.2 = x.2.1.1.1.2.2 := rfl
  by_cases h478 : cbB ms 0 = 4 ∨ cbB ms 0 = 7 ∨ cbB ms 0 = 8
  · by_cases h1 : ms.length = 1
    · have hf : ky_form ms = 0 := by unfold ky_form; rw [if_neg hnil, if_pos h478, if_pos h1]
      have e2 : ky_r2 ms k T = ky_cmd ms (ky_r1 ms k) T := by unfold ky_r2; rw [if_neg (fun z => z hf)]
      rw [e2]
      rw [h1] at wm1
      rcases h478 with hb | hb | hb
      · -- INFO
        have hn8 : ¬ (cbB ms 0 = 8 ∧ ms.length = 1) := by omega
        obtain ⟨lr1, lp1, a1, a2⟩ := lr0 hn8
        have e3 : ky_cmd ms (ky_r1 ms k) T = (0, ((((((ky_r1 ms k).1.1.1.1, (ky_r1 ms k).1.1.1.2 ++ rpInfo (!decide ((ky_r1 ms k).1.1.1.1.2.2.2.2.2.2.2.2.1 = 0))), ((ky_r1 ms k).1.1.2.1, (ky_r1 ms k).1.1.2.2)), (((ky_r1 ms k).1.2.1.1, (ky_r1 ms k).1.2.1.2), ((ky_r1 ms k).1.2.2.1, (ky_r1 ms k).1.2.2.2))), ((((ky_r1 ms k).2.1.1.1, (ky_r1 ms k).2.1.1.2), ((ky_r1 ms k).2.1.2.1, (ky_r1 ms k).2.1.2.2)), (((ky_r1 ms k).2.2.1.1, (ky_r1 ms k).2.2.1.2), (ky_r1 ms k).2.2.2))) : Ky), T) := by
          unfold ky_cmd
          rw [if_neg (by omega), if_neg (by omega), if_pos hb]
        rw [e3]
        obtain ⟨y1, p1, z1, -⟩ := q_info (d := d + 4) (B := B) (x := x) (s := k.1.1.1.1) (m := m) hx hj hy (by omega)
        refine ⟨0, m, y1, D, _, ?_, hm, (kr_mk_ hk.pr hk.ta hk.an hk.ag hk.tk hk.wr hk.he), hc, z1, rfl, fun _ => ⟨lr1, rfl, fun _ => ⟨rpInfo (!decide (k.1.1.1.1.2.2.2.2.2.2.2.2.1 = 0)), ?_, rfl⟩⟩⟩
        · show _ = some (some (Value.int 0), mm B (x.wk j k.1.1.1.1 m) y1)
          rw [hb] at g0
          generalize on1 k.2.1.2.1 = hv
          simp (disch := (first | omega | decide)) [S_cb_mmade4_0, S_bx_mcan1_0, S_b8_mkey_1, S_b8_mkey_0, S_b1_mterm_0, S_b1_copy_0, S_b0_mod_7, S_b0_mod_6, S_b0_mod_5, S_b0_mod_3, S_b0_mod_2, S_b0_mod_1, S_b0_mod_0, S_cb_mmade4_1h, S_bx_mcan1_1h, S_b0_mod_4h, c277, s277_0, s277_1, s277_4, s277_7, s277_8, s277_11, s277_12, s277_15, s277_16, s277_17, s277_18, s277_19, s277_22, s277_25, s277_26, s277_29, s277_30, s277_33, s277_34, s277_35, s277_38, s277_39, s277_41, s277_44, s277_45, s277_47, s277_50, s277_51, s277_52, s277_53, s277_54, s277_57, s277_58, s277_59, s277_62, s277_63, s277_64, s277_66, s277_69, s277_70, s277_71, s277_72, s277_75, s277_76, s277_77, s277_79, s277_82, s277_83, s277_84, s277_87, s277_88, s277_89, s277_90, s277_93, s277_94, s277_95, s277_98, s277_99, s277_101, s277_104, s277_105, s277_106, s277_107, s277_108, s277_111, s277_112, s277_115, s277_118, s277_120, s277_121, s277_122, s277_123, s277_126, s277_127, s277_130, s277_132, s277_133, s277_134, s277_135, s277_138, s277_139, s277_140, s277_143, s277_146, s277_147, s277_148, s277_151, s277_152, s277_153, s277_156, s277_159, s277_160, s277_161, s277_164, mq_k0s, mq_k1s, mq_k2s, mq_k4s, mq_k5s, mq_k5n, mq_k5as, mq_k6s, mj_pu, mj_lo, mj_br, mj_hr, mj_hw, mq_gf, mq_len, mq_al, mq_pf, mq_ok, mj_re, mq_lkm, mq_lkn, mj_ldi, mj_ldl, mj_lda, mj_ii, mj_ll, mj_li, mj_i1, ms_1, ms_2, f1_n, f1_i, f1_r, f1_u, f1_l, f2_n, f2_i, f2_r, f2_u, f2_l, mj_tg, mj_c1, mj_c2, mj_ar, mj_aw, mq_cb, mq_oi, mj_rm, Value.category, -getElem?_pos, List.getElem?_cons_zero, decide_eq_true, decide_eq_false, nl_lt, nl_le, ln_lt, ln_le, nl_eq, ln_eq, nl_add, ln_add, nl_sub, ln_mul, nI_sub, nI_mul, nI_add, nI_lt_iff, nI_le_iff, nI_inj, nI_num, mq_ix, nI_1, nl_mul, nl_div, wm1, wm2, hl6, g0, p1, narrow]
        · unfold rpInfo
          by_cases hp : k.1.1.1.1.2.2.2.2.2.2.2.2.1 = 0 <;> simp [S_cb_mmade4_0, S_bx_mcan1_0, S_b8_mkey_1, S_b8_mkey_0, S_b1_mterm_0, S_b1_copy_0, S_b0_mod_7, S_b0_mod_6, S_b0_mod_5, S_b0_mod_3, S_b0_mod_2, S_b0_mod_1, S_b0_mod_0, S_cb_mmade4_1h, S_bx_mcan1_1h, S_b0_mod_4h, hp]
      · -- RESET
        have hn8 : ¬ (cbB ms 0 = 8 ∧ ms.length = 1) := by omega
        obtain ⟨lr1, lp1, a1, a2⟩ := lr0 hn8
        have e3 : ky_cmd ms (ky_r1 ms k) T = ky_reset (ky_r1 ms k) T := by
          unfold ky_cmd
          rw [if_neg (by omega), if_neg (by omega), if_neg (by omega), if_neg (by omega), if_pos hb]
        rw [e3]
        have rs := q_resetM (d := d + 2) (B := B) (x := x) (y := y) (k := ky_r1 ms k) (m := m) (g := g + 2) hx hj hm hk hI hc hy (by omega) a1 a2 lp1
        rw [er, eh, es] at rs
        obtain ⟨v, m', y', D', O', e1, e2⟩ := rs
        refine ⟨v, m', y', D', O', ?_, e2⟩
        rw [hb] at g0
        clear e2
        show _ = some (some (Value.int v), mm B (x.wk j (ky_reset (ky_r1 ms k) T).2.1.1.1.1.1 m') y')
        have e1 : _ = some (some (Value.int v), mm B (x.wk j (ky_reset (ky_r1 ms k) T).2.1.1.1.1.1 m') y') := e1
        generalize mm B (x.wk j (ky_reset (ky_r1 ms k) T).2.1.1.1.1.1 m') y' = E at *
        generalize on1 k.2.1.2.1 = hv at *
        simp (disch := (first | omega | decide)) [S_cb_mmade4_0, S_bx_mcan1_0, S_b8_mkey_1, S_b8_mkey_0, S_b1_mterm_0, S_b1_copy_0, S_b0_mod_7, S_b0_mod_6, S_b0_mod_5, S_b0_mod_3, S_b0_mod_2, S_b0_mod_1, S_b0_mod_0, S_cb_mmade4_1h, S_bx_mcan1_1h, S_b0_mod_4h, c277, s277_0, s277_1, s277_4, s277_7, s277_8, s277_11, s277_12, s277_15, s277_16, s277_17, s277_18, s277_19, s277_22, s277_25, s277_26, s277_29, s277_30, s277_33, s277_34, s277_35, s277_38, s277_39, s277_41, s277_44, s277_45, s277_47, s277_50, s277_51, s277_52, s277_53, s277_54, s277_57, s277_58, s277_59, s277_62, s277_63, s277_64, s277_66, s277_69, s277_70, s277_71, s277_72, s277_75, s277_76, s277_77, s277_79, s277_82, s277_83, s277_84, s277_87, s277_88, s277_89, s277_90, s277_93, s277_94, s277_95, s277_98, s277_99, s277_101, s277_104, s277_105, s277_106, s277_107, s277_108, s277_111, s277_112, s277_115, s277_118, s277_120, s277_121, s277_122, s277_123, s277_126, s277_127, s277_130, s277_132, s277_133, s277_134, s277_135, s277_138, s277_139, s277_140, s277_143, s277_146, s277_147, s277_148, s277_151, s277_152, s277_153, s277_156, s277_159, s277_160, s277_161, s277_164, mq_k0s, mq_k1s, mq_k2s, mq_k4s, mq_k5s, mq_k5n, mq_k5as, mq_k6s, mj_pu, mj_lo, mj_br, mj_hr, mj_hw, mq_gf, mq_len, mq_al, mq_pf, mq_ok, mj_re, mq_lkm, mq_lkn, mj_ldi, mj_ldl, mj_lda, mj_ii, mj_ll, mj_li, mj_i1, ms_1, ms_2, f1_n, f1_i, f1_r, f1_u, f1_l, f2_n, f2_i, f2_r, f2_u, f2_l, mj_tg, mj_c1, mj_c2, mj_ar, mj_aw, mq_cb, mq_oi, mj_rm, Value.category, -getElem?_pos, List.getElem?_cons_zero, decide_eq_true, decide_eq_false, nl_lt, nl_le, ln_lt, ln_le, nl_eq, ln_eq, nl_add, ln_add, nl_sub, ln_mul, nI_sub, nI_mul, nI_add, nI_lt_iff, nI_le_iff, nI_inj, nI_num, mq_ix, nI_1, nl_mul, nl_div, wm1, wm2, hl6, g0, e1, narrow]
      · -- NEXT
        have e3 : ky_cmd ms (ky_r1 ms k) T = ky_next (ky_r1 ms k) T := by
          unfold ky_cmd
          rw [if_neg (by omega), if_neg (by omega), if_neg (by omega), if_neg (by omega), if_neg (by omega)]
        rw [e3, ← nxt_H]
        have hlr : lr (hT_ (ky_r1 ms k)) m := by
          rcases hl with ⟨-, -, z⟩ | ⟨z, -⟩
          · exact z
          · exact absurd ⟨hb, h1⟩ z
        have hI' : kI (hT_ (ky_r1 ms k)) (g + 2 + 1) := (kI_mk_ hI.w9 hI.wr hI.w hI.cr hI.gn hI.tr)
        have nx := q_nextM (d := d) (B := B) (x := x) (y := y) (k := hT_ (ky_r1 ms k)) (m := m) (g := g + 2) hx hj hm hk hI' hc hlr hy hT8 (by omega) hO (by
          show (ky_r1 ms k).2.1.2.2 ≤ 8
          unfold ky_r1
          dsimp only
          split
          · exact hlp
          · omega)
        rw [show (hT_ (ky_r1 ms k)).1.1.1.2 = [0] from rfl, show (hT_ (ky_r1 ms k)).1.1.1.1 = k.1.1.1.1 from rfl] at nx
        obtain ⟨v, m', y', D', O', e1, e2⟩ := nx
        refine ⟨v, m', y', D', O', ?_, e2⟩
        rw [hb] at g0
        clear e2
        generalize mm B (x.wk j (ky_next (hT_ (ky_r1 ms k)) T).2.1.1.1.1.1 m') y' = E at *
        generalize on1 k.2.1.2.1 = hv at *
        simp (disch := (first | omega | decide)) [S_cb_mmade4_0, S_bx_mcan1_0, S_b8_mkey_1, S_b8_mkey_0, S_b1_mterm_0, S_b1_copy_0, S_b0_mod_7, S_b0_mod_6, S_b0_mod_5, S_b0_mod_3, S_b0_mod_2, S_b0_mod_1, S_b0_mod_0, S_cb_mmade4_1h, S_bx_mcan1_1h, S_b0_mod_4h, c277, s277_0, s277_1, s277_4, s277_7, s277_8, s277_11, s277_12, s277_15, s277_16, s277_17, s277_18, s277_19, s277_22, s277_25, s277_26, s277_29, s277_30, s277_33, s277_34, s277_35, s277_38, s277_39, s277_41, s277_44, s277_45, s277_47, s277_50, s277_51, s277_52, s277_53, s277_54, s277_57, s277_58, s277_59, s277_62, s277_63, s277_64, s277_66, s277_69, s277_70, s277_71, s277_72, s277_75, s277_76, s277_77, s277_79, s277_82, s277_83, s277_84, s277_87, s277_88, s277_89, s277_90, s277_93, s277_94, s277_95, s277_98, s277_99, s277_101, s277_104, s277_105, s277_106, s277_107, s277_108, s277_111, s277_112, s277_115, s277_118, s277_120, s277_121, s277_122, s277_123, s277_126, s277_127, s277_130, s277_132, s277_133, s277_134, s277_135, s277_138, s277_139, s277_140, s277_143, s277_146, s277_147, s277_148, s277_151, s277_152, s277_153, s277_156, s277_159, s277_160, s277_161, s277_164, mq_k0s, mq_k1s, mq_k2s, mq_k4s, mq_k5s, mq_k5n, mq_k5as, mq_k6s, mj_pu, mj_lo, mj_br, mj_hr, mj_hw, mq_gf, mq_len, mq_al, mq_pf, mq_ok, mj_re, mq_lkm, mq_lkn, mj_ldi, mj_ldl, mj_lda, mj_ii, mj_ll, mj_li, mj_i1, ms_1, ms_2, f1_n, f1_i, f1_r, f1_u, f1_l, f2_n, f2_i, f2_r, f2_u, f2_l, mj_tg, mj_c1, mj_c2, mj_ar, mj_aw, mq_cb, mq_oi, mj_rm, Value.category, -getElem?_pos, List.getElem?_cons_zero, decide_eq_true, decide_eq_false, nl_lt, nl_le, ln_lt, ln_le, nl_eq, ln_eq, nl_add, ln_add, nl_sub, ln_mul, nI_sub, nI_mul, nI_add, nI_lt_iff, nI_le_iff, nI_inj, nI_num, mq_ix, nI_1, nl_mul, nl_div, wm1, wm2, hl6, g0, e1, narrow]
    · refine no 3 (by decide) (fun z => h1 z.2) (by unfold ky_form; rw [if_neg hnil, if_pos h478, if_neg h1]) ⟨y, ?_, hy⟩
      generalize on1 k.2.1.2.1 = hv at *
      rcases h478 with hb | hb | hb <;> rw [hb] at g0 <;> simp (disch := (first | omega | decide)) [S_cb_mmade4_0, S_bx_mcan1_0, S_b8_mkey_1, S_b8_mkey_0, S_b1_mterm_0, S_b1_copy_0, S_b0_mod_7, S_b0_mod_6, S_b0_mod_5, S_b0_mod_3, S_b0_mod_2, S_b0_mod_1, S_b0_mod_0, S_cb_mmade4_1h, S_bx_mcan1_1h, S_b0_mod_4h, c277, s277_0, s277_1, s277_4, s277_7, s277_8, s277_11, s277_12, s277_15, s277_16, s277_17, s277_18, s277_19, s277_22, s277_25, s277_26, s277_29, s277_30, s277_33, s277_34, s277_35, s277_38, s277_39, s277_41, s277_44, s277_45, s277_47, s277_50, s277_51, s277_52, s277_53, s277_54, s277_57, s277_58, s277_59, s277_62, s277_63, s277_64, s277_66, s277_69, s277_70, s277_71, s277_72, s277_75, s277_76, s277_77, s277_79, s277_82, s277_83, s277_84, s277_87, s277_88, s277_89, s277_90, s277_93, s277_94, s277_95, s277_98, s277_99, s277_101, s277_104, s277_105, s277_106, s277_107, s277_108, s277_111, s277_112, s277_115, s277_118, s277_120, s277_121, s277_122, s277_123, s277_126, s277_127, s277_130, s277_132, s277_133, s277_134, s277_135, s277_138, s277_139, s277_140, s277_143, s277_146, s277_147, s277_148, s277_151, s277_152, s277_153, s277_156, s277_159, s277_160, s277_161, s277_164, mq_k0s, mq_k1s, mq_k2s, mq_k4s, mq_k5s, mq_k5n, mq_k5as, mq_k6s, mj_pu, mj_lo, mj_br, mj_hr, mj_hw, mq_gf, mq_len, mq_al, mq_pf, mq_ok, mj_re, mq_lkm, mq_lkn, mj_ldi, mj_ldl, mj_lda, mj_ii, mj_ll, mj_li, mj_i1, ms_1, ms_2, f1_n, f1_i, f1_r, f1_u, f1_l, f2_n, f2_i, f2_r, f2_u, f2_l, mj_tg, mj_c1, mj_c2, mj_ar, mj_aw, mq_cb, mq_oi, mj_rm, Value.category, -getElem?_pos, List.getElem?_cons_zero, decide_eq_true, decide_eq_false, nl_lt, nl_le, ln_lt, ln_le, nl_eq, ln_eq, nl_add, ln_add, nl_sub, ln_mul, nI_sub, nI_mul, nI_add, nI_lt_iff, nI_le_iff, nI_inj, nI_num, mq_ix, nI_1, nl_mul, nl_div, wm1, wm2, hl6, g0, hme0, show ¬ ms.length ≤ 1 by omega, show ¬ ms.length = 0 by omega, narrow]
  · have hn8 : ¬ (cbB ms 0 = 8 ∧ ms.length = 1) := fun z => h478 (Or.inr (Or.inr z.1))
    obtain ⟨lr1, lp1, a1, a2⟩ := lr0 hn8
    simp only [not_or] at h478
    obtain ⟨n4, n7, n8⟩ := h478
    by_cases h126 : cbB ms 0 = 1 ∨ cbB ms 0 = 2 ∨ cbB ms 0 = 6
    · obtain ⟨y1, p1, s1, c1⟩ := q_canon (d := d + 4) (B := B) (x := x.wk j k.1.1.1.1 m) (y := y) (h.wk j k.1.1.1.1 m) hy.s hpos
      have z1 := hy.nc s1 c1
      have p1 : mj_V (d + 4 + 4) 292 [.ref 67, .int 1] (mm B (x.wk j k.1.1.1.1 m) y) = some (some (.int (oP (cbI ms 4 1))), mm B (x.wk j k.1.1.1.1 m) y1) := by
        rw [p1]
        cases cbI ms 4 1 <;> rfl
      have to111 : ∀ r, mj_Rn (d + 8) mj_m277 111 [(3, .int (nI (cbB ms 0))), (0, .ref 67), (1, .int (nI j))] [.int (oP (cbI ms 4 1))] (mm B (x.wk j k.1.1.1.1 m) y1) = some r → mj_V (d + 9) 277 [.ref 67, .int (nI j), .int (on1 k.2.1.2.1)] (mm B (x.wk j k.1.1.1.1 m) y) = some r := by
        intro r hr
        generalize oP (cbI ms 4 1) = cv at *
        generalize on1 k.2.1.2.1 = hv at *
        by_cases hl1 : ms.length ≤ 1
        · rcases h126 with hb | hb | hb <;> rw [hb] at g0 hr <;> simp (disch := (first | omega | decide)) [S_cb_mmade4_0, S_bx_mcan1_0, S_b8_mkey_1, S_b8_mkey_0, S_b1_mterm_0, S_b1_copy_0, S_b0_mod_7, S_b0_mod_6, S_b0_mod_5, S_b0_mod_3, S_b0_mod_2, S_b0_mod_1, S_b0_mod_0, S_cb_mmade4_1h, S_bx_mcan1_1h, S_b0_mod_4h, c277, s277_0, s277_1, s277_4, s277_7, s277_8, s277_11, s277_12, s277_15, s277_16, s277_17, s277_18, s277_19, s277_22, s277_25, s277_26, s277_29, s277_30, s277_33, s277_34, s277_35, s277_38, s277_39, s277_41, s277_44, s277_45, s277_47, s277_50, s277_51, s277_52, s277_53, s277_54, s277_57, s277_58, s277_59, s277_62, s277_63, s277_64, s277_66, s277_69, s277_70, s277_71, s277_72, s277_75, s277_76, s277_77, s277_79, s277_82, s277_83, s277_84, s277_87, s277_88, s277_89, s277_90, s277_93, s277_94, s277_95, s277_98, s277_99, s277_101, s277_104, s277_105, s277_106, s277_107, s277_108, s277_112, s277_115, s277_118, s277_120, s277_121, s277_122, s277_123, s277_126, s277_127, s277_130, s277_132, s277_133, s277_134, s277_135, s277_138, s277_139, s277_140, s277_143, s277_146, s277_147, s277_148, s277_151, s277_152, s277_153, s277_156, s277_159, s277_160, s277_161, s277_164, mq_k0s, mq_k1s, mq_k2s, mq_k4s, mq_k5s, mq_k5n, mq_k5as, mq_k6s, mj_pu, mj_lo, mj_br, mj_hr, mj_hw, mq_gf, mq_len, mq_al, mq_pf, mq_ok, mj_re, mq_lkm, mq_lkn, mj_ldi, mj_ldl, mj_lda, mj_ii, mj_ll, mj_li, mj_i1, ms_1, ms_2, f1_n, f1_i, f1_r, f1_u, f1_l, f2_n, f2_i, f2_r, f2_u, f2_l, mj_tg, mj_c1, mj_c2, mj_ar, mj_aw, mq_cb, mq_oi, mj_rm, Value.category, -getElem?_pos, List.getElem?_cons_zero, decide_eq_true, decide_eq_false, nl_lt, nl_le, ln_lt, ln_le, nl_eq, ln_eq, nl_add, ln_add, nl_sub, ln_mul, nI_sub, nI_mul, nI_add, nI_lt_iff, nI_le_iff, nI_inj, nI_num, mq_ix, nI_1, nl_mul, nl_div, wm1, wm2, hl6, g0, hme0, hl1, show ¬ ms.length = 0 by omega, p1] <;> (refine mq_wk ?_ hr; simp [S_cb_mmade4_0, S_bx_mcan1_0, S_b8_mkey_1, S_b8_mkey_0, S_b1_mterm_0, S_b1_copy_0, S_b0_mod_7, S_b0_mod_6, S_b0_mod_5, S_b0_mod_3, S_b0_mod_2, S_b0_mod_1, S_b0_mod_0, S_cb_mmade4_1h, S_bx_mcan1_1h, S_b0_mod_4h, mq_sub, mj_lk]; try rfl)
        · rcases h126 with hb | hb | hb <;> rw [hb] at g0 hr <;> simp (disch := (first | omega | decide)) [S_cb_mmade4_0, S_bx_mcan1_0, S_b8_mkey_1, S_b8_mkey_0, S_b1_mterm_0, S_b1_copy_0, S_b0_mod_7, S_b0_mod_6, S_b0_mod_5, S_b0_mod_3, S_b0_mod_2, S_b0_mod_1, S_b0_mod_0, S_cb_mmade4_1h, S_bx_mcan1_1h, S_b0_mod_4h, c277, s277_0, s277_1, s277_4, s277_7, s277_8, s277_11, s277_12, s277_15, s277_16, s277_17, s277_18, s277_19, s277_22, s277_25, s277_26, s277_29, s277_30, s277_33, s277_34, s277_35, s277_38, s277_39, s277_41, s277_44, s277_45, s277_47, s277_50, s277_51, s277_52, s277_53, s277_54, s277_57, s277_58, s277_59, s277_62, s277_63, s277_64, s277_66, s277_69, s277_70, s277_71, s277_72, s277_75, s277_76, s277_77, s277_79, s277_82, s277_83, s277_84, s277_87, s277_88, s277_89, s277_90, s277_93, s277_94, s277_95, s277_98, s277_99, s277_101, s277_104, s277_105, s277_106, s277_107, s277_108, s277_112, s277_115, s277_118, s277_120, s277_121, s277_122, s277_123, s277_126, s277_127, s277_130, s277_132, s277_133, s277_134, s277_135, s277_138, s277_139, s277_140, s277_143, s277_146, s277_147, s277_148, s277_151, s277_152, s277_153, s277_156, s277_159, s277_160, s277_161, s277_164, mq_k0s, mq_k1s, mq_k2s, mq_k4s, mq_k5s, mq_k5n, mq_k5as, mq_k6s, mj_pu, mj_lo, mj_br, mj_hr, mj_hw, mq_gf, mq_len, mq_al, mq_pf, mq_ok, mj_re, mq_lkm, mq_lkn, mj_ldi, mj_ldl, mj_lda, mj_ii, mj_ll, mj_li, mj_i1, ms_1, ms_2, f1_n, f1_i, f1_r, f1_u, f1_l, f2_n, f2_i, f2_r, f2_u, f2_l, mj_tg, mj_c1, mj_c2, mj_ar, mj_aw, mq_cb, mq_oi, mj_rm, Value.category, -getElem?_pos, List.getElem?_cons_zero, decide_eq_true, decide_eq_false, nl_lt, nl_le, ln_lt, ln_le, nl_eq, ln_eq, nl_add, ln_add, nl_sub, ln_mul, nI_sub, nI_mul, nI_add, nI_lt_iff, nI_le_iff, nI_inj, nI_num, mq_ix, nI_1, nl_mul, nl_div, wm1, wm2, hl6, g0, hme0, hl1, show ¬ ms.length = 0 by omega, p1] <;> (refine mq_wk ?_ hr; simp [S_cb_mmade4_0, S_bx_mcan1_0, S_b8_mkey_1, S_b8_mkey_0, S_b1_mterm_0, S_b1_copy_0, S_b0_mod_7, S_b0_mod_6, S_b0_mod_5, S_b0_mod_3, S_b0_mod_2, S_b0_mod_1, S_b0_mod_0, S_cb_mmade4_1h, S_bx_mcan1_1h, S_b0_mod_4h, mq_sub, mj_lk]; try rfl)
      by_cases hcb : cbI ms 4 1 = some ms.length
      · have hcb' : cbMsg ms := hcb
        have ok := cbI_ok hcb
        have rs := q_sortAt (d := d + 7) (B := B) (x := x.wk j k.1.1.1.1 m) (y := y1) (h.wk j k.1.1.1.1 m) (p := 1) ok.1
        have sS : cbS ms 1 < 8 := by have := (h.at ok.1).2; unfold cbS; omega
        rw [show nI 1 = (1 : Int32) from rfl] at rs
        rw [hcb, show oP (some ms.length) = nI ms.length from rfl] at to111
        by_cases h5 : cbS ms 1 = 5
        · have hf : ky_form ms = 0 := by
            unfold ky_form
            rw [if_neg hnil, if_neg (by omega), if_pos h126, if_pos hcb, if_pos h5]
          have e2 : ky_r2 ms k T = ky_cmd ms (ky_r1 ms k) T := by unfold ky_r2; rw [if_neg (fun z => z hf)]
          rw [e2]
          rw [h5] at rs
          have hI' : kI (hT_ (ky_r1 ms k)) (g + 3) := (kI_mk_ hI.w9 hI.wr hI.w hI.cr hI.gn hI.tr)
          rcases h126 with hb | hb | hb
          · have e3 : ky_cmd ms (ky_r1 ms k) T = ky_make ms (ky_r1 ms k) T := by unfold ky_cmd; rw [if_pos hb]
            rw [e3, ← make_H]
            have c := q_made (d := d + 1) (B := B) (x := x) (y := y1) (k := hT_ (ky_r1 ms k)) (m := m) (g := g + 2) h hcb' h5 hx hj hm hk hI' hc z1 hT8 hT hO
            rw [show (hT_ (ky_r1 ms k)).1.1.1.2 = [0] from rfl, show (hT_ (ky_r1 ms k)).1.1.1.1 = k.1.1.1.1 from rfl] at c
            have c := c.P (by rw [make_H]; exact (make_lp (ky_r1 ms k)).trans lp1) a1 a2
            obtain ⟨v, m', y', D', O', e1, e2⟩ := c
            refine ⟨v, m', y', D', O', to111 _ ?_, e2⟩
            clear e2 to111 no
            rw [hb]
            generalize mm B (x.wk j (ky_make ms (hT_ (ky_r1 ms k)) T).2.1.1.1.1.1 m') y' = E at *
            simp (disch := (first | omega | decide)) [S_cb_mmade4_0, S_bx_mcan1_0, S_b8_mkey_1, S_b8_mkey_0, S_b1_mterm_0, S_b1_copy_0, S_b0_mod_7, S_b0_mod_6, S_b0_mod_5, S_b0_mod_3, S_b0_mod_2, S_b0_mod_1, S_b0_mod_0, S_cb_mmade4_1h, S_bx_mcan1_1h, S_b0_mod_4h, s277_0, s277_1, s277_4, s277_7, s277_8, s277_11, s277_12, s277_15, s277_16, s277_17, s277_18, s277_19, s277_22, s277_25, s277_26, s277_29, s277_30, s277_33, s277_34, s277_35, s277_38, s277_39, s277_41, s277_44, s277_45, s277_47, s277_50, s277_51, s277_52, s277_53, s277_54, s277_57, s277_58, s277_59, s277_62, s277_63, s277_64, s277_66, s277_69, s277_70, s277_71, s277_72, s277_75, s277_76, s277_77, s277_79, s277_82, s277_83, s277_84, s277_87, s277_88, s277_89, s277_90, s277_93, s277_94, s277_95, s277_98, s277_99, s277_101, s277_104, s277_105, s277_106, s277_107, s277_108, s277_111, s277_112, s277_115, s277_118, s277_120, s277_121, s277_122, s277_123, s277_126, s277_127, s277_130, s277_132, s277_133, s277_134, s277_135, s277_138, s277_139, s277_140, s277_143, s277_146, s277_147, s277_148, s277_151, s277_152, s277_153, s277_156, s277_159, s277_160, s277_161, s277_164, mq_k0s, mq_k1s, mq_k2s, mq_k4s, mq_k5s, mq_k5n, mq_k5as, mq_k6s, mj_pu, mj_lo, mj_br, mj_hr, mj_hw, mq_gf, mq_len, mq_al, mq_pf, mq_ok, mj_re, mq_lkm, mq_lkn, mj_ldi, mj_ldl, mj_lda, mj_ii, mj_ll, mj_li, mj_i1, ms_1, ms_2, f1_n, f1_i, f1_r, f1_u, f1_l, f2_n, f2_i, f2_r, f2_u, f2_l, mj_tg, mj_c1, mj_c2, mj_ar, mj_aw, mq_cb, mq_oi, mj_rm, Value.category, -getElem?_pos, List.getElem?_cons_zero, decide_eq_true, decide_eq_false, nl_lt, nl_le, ln_lt, ln_le, nl_eq, ln_eq, nl_add, ln_add, nl_sub, ln_mul, nI_sub, nI_mul, nI_add, nI_lt_iff, nI_le_iff, nI_inj, nI_num, mq_ix, nI_1, nl_mul, nl_div, wm1, rs, e1, narrow]
          · have e3 : ky_cmd ms (ky_r1 ms k) T = ky_sign ms (ky_r1 ms k) T := by unfold ky_cmd; rw [if_neg (by omega), if_pos hb]
            rw [e3, ← sgn_H]
            have c := q_signed (d := d) (B := B) (x := x) (y := y1) (k := hT_ (ky_r1 ms k)) (m := m) (g := g + 2) h hcb' h5 hx hj hm hk hI' hc z1 hT8 (by omega) hO a1 a2 lp1
            rw [show (hT_ (ky_r1 ms k)).1.1.1.2 = [0] from rfl, show (hT_ (ky_r1 ms k)).1.1.1.1 = k.1.1.1.1 from rfl] at c
            obtain ⟨v, m', y', D', O', e1, e2⟩ := c
            refine ⟨v, m', y', D', O', to111 _ ?_, e2⟩
            clear e2 to111 no
            rw [hb]
            generalize mm B (x.wk j (ky_sign ms (hT_ (ky_r1 ms k)) T).2.1.1.1.1.1 m') y' = E at *
            simp (disch := (first | omega | decide)) [S_cb_mmade4_0, S_bx_mcan1_0, S_b8_mkey_1, S_b8_mkey_0, S_b1_mterm_0, S_b1_copy_0, S_b0_mod_7, S_b0_mod_6, S_b0_mod_5, S_b0_mod_3, S_b0_mod_2, S_b0_mod_1, S_b0_mod_0, S_cb_mmade4_1h, S_bx_mcan1_1h, S_b0_mod_4h, s277_0, s277_1, s277_4, s277_7, s277_8, s277_11, s277_12, s277_15, s277_16, s277_17, s277_18, s277_19, s277_22, s277_25, s277_26, s277_29, s277_30, s277_33, s277_34, s277_35, s277_38, s277_39, s277_41, s277_44, s277_45, s277_47, s277_50, s277_51, s277_52, s277_53, s277_54, s277_57, s277_58, s277_59, s277_62, s277_63, s277_64, s277_66, s277_69, s277_70, s277_71, s277_72, s277_75, s277_76, s277_77, s277_79, s277_82, s277_83, s277_84, s277_87, s277_88, s277_89, s277_90, s277_93, s277_94, s277_95, s277_98, s277_99, s277_101, s277_104, s277_105, s277_106, s277_107, s277_108, s277_111, s277_112, s277_115, s277_118, s277_120, s277_121, s277_122, s277_123, s277_126, s277_127, s277_130, s277_132, s277_133, s277_134, s277_135, s277_138, s277_139, s277_140, s277_143, s277_146, s277_147, s277_148, s277_151, s277_152, s277_153, s277_156, s277_159, s277_160, s277_161, s277_164, mq_k0s, mq_k1s, mq_k2s, mq_k4s, mq_k5s, mq_k5n, mq_k5as, mq_k6s, mj_pu, mj_lo, mj_br, mj_hr, mj_hw, mq_gf, mq_len, mq_al, mq_pf, mq_ok, mj_re, mq_lkm, mq_lkn, mj_ldi, mj_ldl, mj_lda, mj_ii, mj_ll, mj_li, mj_i1, ms_1, ms_2, f1_n, f1_i, f1_r, f1_u, f1_l, f2_n, f2_i, f2_r, f2_u, f2_l, mj_tg, mj_c1, mj_c2, mj_ar, mj_aw, mq_cb, mq_oi, mj_rm, Value.category, -getElem?_pos, List.getElem?_cons_zero, decide_eq_true, decide_eq_false, nl_lt, nl_le, ln_lt, ln_le, nl_eq, ln_eq, nl_add, ln_add, nl_sub, ln_mul, nI_sub, nI_mul, nI_add, nI_lt_iff, nI_le_iff, nI_inj, nI_num, mq_ix, nI_1, nl_mul, nl_div, wm1, rs, e1, narrow]
          · have e3 : ky_cmd ms (ky_r1 ms k) T = ky_doPin ms (ky_r1 ms k) T := by unfold ky_cmd; rw [if_neg (by omega), if_neg (by omega), if_neg (by omega), if_pos hb]
            rw [e3, ← dopin_H]
            have c := q_pinAsked (d := d) (B := B) (x := x) (y := y1) (k := hT_ (ky_r1 ms k)) (m := m) (g := g) h hcb' h5 h4l hx hj hm hk hI' hon hc z1 hT8 hT9 (by omega) hO
            rw [show (hT_ (ky_r1 ms k)).1.1.1.2 = [0] from rfl, show (hT_ (ky_r1 ms k)).1.1.1.1 = k.1.1.1.1 from rfl] at c
            have c := c.P (by rw [dopin_H]; exact (dopin_lp (ky_r1 ms k)).trans lp1) a1 a2
            obtain ⟨v, m', y', D', O', e1, e2⟩ := c
            refine ⟨v, m', y', D', O', to111 _ ?_, e2⟩
            clear e2 to111 no
            rw [hb]
            generalize mm B (x.wk j (ky_doPin ms (hT_ (ky_r1 ms k)) T).2.1.1.1.1.1 m') y' = E at *
            simp (disch := (first | omega | decide)) [S_cb_mmade4_0, S_bx_mcan1_0, S_b8_mkey_1, S_b8_mkey_0, S_b1_mterm_0, S_b1_copy_0, S_b0_mod_7, S_b0_mod_6, S_b0_mod_5, S_b0_mod_3, S_b0_mod_2, S_b0_mod_1, S_b0_mod_0, S_cb_mmade4_1h, S_bx_mcan1_1h, S_b0_mod_4h, s277_0, s277_1, s277_4, s277_7, s277_8, s277_11, s277_12, s277_15, s277_16, s277_17, s277_18, s277_19, s277_22, s277_25, s277_26, s277_29, s277_30, s277_33, s277_34, s277_35, s277_38, s277_39, s277_41, s277_44, s277_45, s277_47, s277_50, s277_51, s277_52, s277_53, s277_54, s277_57, s277_58, s277_59, s277_62, s277_63, s277_64, s277_66, s277_69, s277_70, s277_71, s277_72, s277_75, s277_76, s277_77, s277_79, s277_82, s277_83, s277_84, s277_87, s277_88, s277_89, s277_90, s277_93, s277_94, s277_95, s277_98, s277_99, s277_101, s277_104, s277_105, s277_106, s277_107, s277_108, s277_111, s277_112, s277_115, s277_118, s277_120, s277_121, s277_122, s277_123, s277_126, s277_127, s277_130, s277_132, s277_133, s277_134, s277_135, s277_138, s277_139, s277_140, s277_143, s277_146, s277_147, s277_148, s277_151, s277_152, s277_153, s277_156, s277_159, s277_160, s277_161, s277_164, mq_k0s, mq_k1s, mq_k2s, mq_k4s, mq_k5s, mq_k5n, mq_k5as, mq_k6s, mj_pu, mj_lo, mj_br, mj_hr, mj_hw, mq_gf, mq_len, mq_al, mq_pf, mq_ok, mj_re, mq_lkm, mq_lkn, mj_ldi, mj_ldl, mj_lda, mj_ii, mj_ll, mj_li, mj_i1, ms_1, ms_2, f1_n, f1_i, f1_r, f1_u, f1_l, f2_n, f2_i, f2_r, f2_u, f2_l, mj_tg, mj_c1, mj_c2, mj_ar, mj_aw, mq_cb, mq_oi, mj_rm, Value.category, -getElem?_pos, List.getElem?_cons_zero, decide_eq_true, decide_eq_false, nl_lt, nl_le, ln_lt, ln_le, nl_eq, ln_eq, nl_add, ln_add, nl_sub, ln_mul, nI_sub, nI_mul, nI_add, nI_lt_iff, nI_le_iff, nI_inj, nI_num, mq_ix, nI_1, nl_mul, nl_div, wm1, rs, e1, narrow]
        · refine no 17 (by decide) hn8 (by unfold ky_form; rw [if_neg hnil, if_neg (by omega), if_pos h126, if_pos hcb, if_neg h5]) ⟨y1, to111 _ ?_, z1⟩
          clear to111 no
          generalize nI (cbB ms 0) = bv at *
          simp (disch := (first | omega | decide)) [S_cb_mmade4_0, S_bx_mcan1_0, S_b8_mkey_1, S_b8_mkey_0, S_b1_mterm_0, S_b1_copy_0, S_b0_mod_7, S_b0_mod_6, S_b0_mod_5, S_b0_mod_3, S_b0_mod_2, S_b0_mod_1, S_b0_mod_0, S_cb_mmade4_1h, S_bx_mcan1_1h, S_b0_mod_4h, s277_0, s277_1, s277_4, s277_7, s277_8, s277_11, s277_12, s277_15, s277_16, s277_17, s277_18, s277_19, s277_22, s277_25, s277_26, s277_29, s277_30, s277_33, s277_34, s277_35, s277_38, s277_39, s277_41, s277_44, s277_45, s277_47, s277_50, s277_51, s277_52, s277_53, s277_54, s277_57, s277_58, s277_59, s277_62, s277_63, s277_64, s277_66, s277_69, s277_70, s277_71, s277_72, s277_75, s277_76, s277_77, s277_79, s277_82, s277_83, s277_84, s277_87, s277_88, s277_89, s277_90, s277_93, s277_94, s277_95, s277_98, s277_99, s277_101, s277_104, s277_105, s277_106, s277_107, s277_108, s277_111, s277_112, s277_115, s277_118, s277_120, s277_121, s277_122, s277_123, s277_126, s277_127, s277_130, s277_132, s277_133, s277_134, s277_135, s277_138, s277_139, s277_140, s277_143, s277_146, s277_147, s277_148, s277_151, s277_152, s277_153, s277_156, s277_159, s277_160, s277_161, s277_164, mq_k0s, mq_k1s, mq_k2s, mq_k4s, mq_k5s, mq_k5n, mq_k5as, mq_k6s, mj_pu, mj_lo, mj_br, mj_hr, mj_hw, mq_gf, mq_len, mq_al, mq_pf, mq_ok, mj_re, mq_lkm, mq_lkn, mj_ldi, mj_ldl, mj_lda, mj_ii, mj_ll, mj_li, mj_i1, ms_1, ms_2, f1_n, f1_i, f1_r, f1_u, f1_l, f2_n, f2_i, f2_r, f2_u, f2_l, mj_tg, mj_c1, mj_c2, mj_ar, mj_aw, mq_cb, mq_oi, mj_rm, Value.category, -getElem?_pos, List.getElem?_cons_zero, decide_eq_true, decide_eq_false, nl_lt, nl_le, ln_lt, ln_le, nl_eq, ln_eq, nl_add, ln_add, nl_sub, ln_mul, nI_sub, nI_mul, nI_add, nI_lt_iff, nI_le_iff, nI_inj, nI_num, mq_ix, nI_1, nl_mul, nl_div, wm1, rs, h5, narrow]
      · refine no 18 (by decide) hn8 (by unfold ky_form; rw [if_neg hnil, if_neg (by omega), if_pos h126, if_neg hcb]) ⟨y1, to111 _ ?_, z1⟩
        have hne : ¬ oP (cbI ms 4 1) = nI ms.length := by
          cases hq : cbI ms 4 1 with
          | none => exact fun z => (nI_m1 (a := ms.length) (by omega)).mp z.symm
          | some q =>
            have := (cbI_lt _ _ _ hq).2
            intro z
            have := (nI_inj (by omega) (by omega)).mp z
            rw [hq, this] at hcb
            exact hcb rfl
        clear to111 no
        generalize oP (cbI ms 4 1) = cv at *
        generalize nI (cbB ms 0) = bv at *
        simp (disch := (first | omega | decide)) [S_cb_mmade4_0, S_bx_mcan1_0, S_b8_mkey_1, S_b8_mkey_0, S_b1_mterm_0, S_b1_copy_0, S_b0_mod_7, S_b0_mod_6, S_b0_mod_5, S_b0_mod_3, S_b0_mod_2, S_b0_mod_1, S_b0_mod_0, S_cb_mmade4_1h, S_bx_mcan1_1h, S_b0_mod_4h, s277_0, s277_1, s277_4, s277_7, s277_8, s277_11, s277_12, s277_15, s277_16, s277_17, s277_18, s277_19, s277_22, s277_25, s277_26, s277_29, s277_30, s277_33, s277_34, s277_35, s277_38, s277_39, s277_41, s277_44, s277_45, s277_47, s277_50, s277_51, s277_52, s277_53, s277_54, s277_57, s277_58, s277_59, s277_62, s277_63, s277_64, s277_66, s277_69, s277_70, s277_71, s277_72, s277_75, s277_76, s277_77, s277_79, s277_82, s277_83, s277_84, s277_87, s277_88, s277_89, s277_90, s277_93, s277_94, s277_95, s277_98, s277_99, s277_101, s277_104, s277_105, s277_106, s277_107, s277_108, s277_111, s277_112, s277_115, s277_118, s277_120, s277_121, s277_122, s277_123, s277_126, s277_127, s277_130, s277_132, s277_133, s277_134, s277_135, s277_138, s277_139, s277_140, s277_143, s277_146, s277_147, s277_148, s277_151, s277_152, s277_153, s277_156, s277_159, s277_160, s277_161, s277_164, mq_k0s, mq_k1s, mq_k2s, mq_k4s, mq_k5s, mq_k5n, mq_k5as, mq_k6s, mj_pu, mj_lo, mj_br, mj_hr, mj_hw, mq_gf, mq_len, mq_al, mq_pf, mq_ok, mj_re, mq_lkm, mq_lkn, mj_ldi, mj_ldl, mj_lda, mj_ii, mj_ll, mj_li, mj_i1, ms_1, ms_2, f1_n, f1_i, f1_r, f1_u, f1_l, f2_n, f2_i, f2_r, f2_u, f2_l, mj_tg, mj_c1, mj_c2, mj_ar, mj_aw, mq_cb, mq_oi, mj_rm, Value.category, -getElem?_pos, List.getElem?_cons_zero, decide_eq_true, decide_eq_false, nl_lt, nl_le, ln_lt, ln_le, nl_eq, ln_eq, nl_add, ln_add, nl_sub, ln_mul, nI_sub, nI_mul, nI_add, nI_lt_iff, nI_le_iff, nI_inj, nI_num, mq_ix, nI_1, nl_mul, nl_div, wm1, hne, narrow]
    · refine no 1 (by decide) hn8 (by unfold ky_form; rw [if_neg hnil, if_neg (by omega), if_neg h126]) ⟨y, ?_, hy⟩
      simp only [not_or] at h126
      generalize on1 k.2.1.2.1 = hv at *
      by_cases hl1 : ms.length ≤ 1
      · simp (disch := (first | omega | decide)) [S_cb_mmade4_0, S_bx_mcan1_0, S_b8_mkey_1, S_b8_mkey_0, S_b1_mterm_0, S_b1_copy_0, S_b0_mod_7, S_b0_mod_6, S_b0_mod_5, S_b0_mod_3, S_b0_mod_2, S_b0_mod_1, S_b0_mod_0, S_cb_mmade4_1h, S_bx_mcan1_1h, S_b0_mod_4h, c277, s277_0, s277_1, s277_4, s277_7, s277_8, s277_11, s277_12, s277_15, s277_16, s277_17, s277_18, s277_19, s277_22, s277_25, s277_26, s277_29, s277_30, s277_33, s277_34, s277_35, s277_38, s277_39, s277_41, s277_44, s277_45, s277_47, s277_50, s277_51, s277_52, s277_53, s277_54, s277_57, s277_58, s277_59, s277_62, s277_63, s277_64, s277_66, s277_69, s277_70, s277_71, s277_72, s277_75, s277_76, s277_77, s277_79, s277_82, s277_83, s277_84, s277_87, s277_88, s277_89, s277_90, s277_93, s277_94, s277_95, s277_98, s277_99, s277_101, s277_104, s277_105, s277_106, s277_107, s277_108, s277_111, s277_112, s277_115, s277_118, s277_120, s277_121, s277_122, s277_123, s277_126, s277_127, s277_130, s277_132, s277_133, s277_134, s277_135, s277_138, s277_139, s277_140, s277_143, s277_146, s277_147, s277_148, s277_151, s277_152, s277_153, s277_156, s277_159, s277_160, s277_161, s277_164, mq_k0s, mq_k1s, mq_k2s, mq_k4s, mq_k5s, mq_k5n, mq_k5as, mq_k6s, mj_pu, mj_lo, mj_br, mj_hr, mj_hw, mq_gf, mq_len, mq_al, mq_pf, mq_ok, mj_re, mq_lkm, mq_lkn, mj_ldi, mj_ldl, mj_lda, mj_ii, mj_ll, mj_li, mj_i1, ms_1, ms_2, f1_n, f1_i, f1_r, f1_u, f1_l, f2_n, f2_i, f2_r, f2_u, f2_l, mj_tg, mj_c1, mj_c2, mj_ar, mj_aw, mq_cb, mq_oi, mj_rm, Value.category, -getElem?_pos, List.getElem?_cons_zero, decide_eq_true, decide_eq_false, nl_lt, nl_le, ln_lt, ln_le, nl_eq, ln_eq, nl_add, ln_add, nl_sub, ln_mul, nI_sub, nI_mul, nI_add, nI_lt_iff, nI_le_iff, nI_inj, nI_num, mq_ix, nI_1, nl_mul, nl_div, wm1, wm2, hl6, g0, hme0, hl1, n4, n7, n8, h126.1, h126.2.1, h126.2.2, show ¬ ms.length = 0 by omega, narrow]
      · simp (disch := (first | omega | decide)) [S_cb_mmade4_0, S_bx_mcan1_0, S_b8_mkey_1, S_b8_mkey_0, S_b1_mterm_0, S_b1_copy_0, S_b0_mod_7, S_b0_mod_6, S_b0_mod_5, S_b0_mod_3, S_b0_mod_2, S_b0_mod_1, S_b0_mod_0, S_cb_mmade4_1h, S_bx_mcan1_1h, S_b0_mod_4h, c277, s277_0, s277_1, s277_4, s277_7, s277_8, s277_11, s277_12, s277_15, s277_16, s277_17, s277_18, s277_19, s277_22, s277_25, s277_26, s277_29, s277_30, s277_33, s277_34, s277_35, s277_38, s277_39, s277_41, s277_44, s277_45, s277_47, s277_50, s277_51, s277_52, s277_53, s277_54, s277_57, s277_58, s277_59, s277_62, s277_63, s277_64, s277_66, s277_69, s277_70, s277_71, s277_72, s277_75, s277_76, s277_77, s277_79, s277_82, s277_83, s277_84, s277_87, s277_88, s277_89, s277_90, s277_93, s277_94, s277_95, s277_98, s277_99, s277_101, s277_104, s277_105, s277_106, s277_107, s277_108, s277_111, s277_112, s277_115, s277_118, s277_120, s277_121, s277_122, s277_123, s277_126, s277_127, s277_130, s277_132, s277_133, s277_134, s277_135, s277_138, s277_139, s277_140, s277_143, s277_146, s277_147, s277_148, s277_151, s277_152, s277_153, s277_156, s277_159, s277_160, s277_161, s277_164, mq_k0s, mq_k1s, mq_k2s, mq_k4s, mq_k5s, mq_k5n, mq_k5as, mq_k6s, mj_pu, mj_lo, mj_br, mj_hr, mj_hw, mq_gf, mq_len, mq_al, mq_pf, mq_ok, mj_re, mq_lkm, mq_lkn, mj_ldi, mj_ldl, mj_lda, mj_ii, mj_ll, mj_li, mj_i1, ms_1, ms_2, f1_n, f1_i, f1_r, f1_u, f1_l, f2_n, f2_i, f2_r, f2_u, f2_l, mj_tg, mj_c1, mj_c2, mj_ar, mj_aw, mq_cb, mq_oi, mj_rm, Value.category, -getElem?_pos, List.getElem?_cons_zero, decide_eq_true, decide_eq_false, nl_lt, nl_le, ln_lt, ln_le, nl_eq, ln_eq, nl_add, ln_add, nl_sub, ln_mul, nI_sub, nI_mul, nI_add, nI_lt_iff, nI_le_iff, nI_inj, nI_num, mq_ix, nI_1, nl_mul, nl_div, wm1, wm2, hl6, g0, hme0, hl1, n4, n7, n8, h126.1, h126.2.1, h126.2.2, show ¬ ms.length = 0 by omega, narrow]
end
end
/- cz.mrep -/
section
set_option maxRecDepth 512
/-! How long an answer is; what a status is. -/
abbrev by8 (v : Int32) : Prop := v &&& 255 = v
section
variable {T : Tm} {ms : List Int32}
theorem pnt_by (k : Ky) {p n : Option Nat} {hash : Int32} : by8 (pnTest k T ms p n hash).1 := by
  unfold pnTest
  split
  · split
    · first | decide | (dsimp only; decide)
    · dsimp only; split <;> first | decide | (dsimp only; decide)
  · split
    · first | decide | (dsimp only; decide)
    · split
      · first | decide | (dsimp only; decide)
      · dsimp only; split <;> first | decide | (dsimp only; decide)
theorem mkf_by : by8 (mkFault ms) := by
  unfold mkFault
  split
  · first | decide | (dsimp only; decide)
  · split
    · first | decide | (dsimp only; decide)
    · split
      · first | decide | (dsimp only; decide)
      · split <;> first | decide | (dsimp only; decide)
theorem sgf_by : by8 (sgFault ms) := by
  unfold sgFault
  split
  · first | decide | (dsimp only; decide)
  · split
    · first | decide | (dsimp only; decide)
    · split <;> first | decide | (dsimp only; decide)
theorem pnf_by {st : Nat} : by8 (pnFault T ms st) := by
  unfold pnFault
  split
  · first | decide | (dsimp only; decide)
  · split
    · first | decide | (dsimp only; decide)
    · split
      · first | decide | (dsimp only; decide)
      · split
        · first | decide | (dsimp only; decide)
        · split
          · first | decide | (dsimp only; decide)
          · split <;> first | decide | (dsimp only; decide)
theorem make_by (k : Ky) : by8 (ky_make ms k T).1 := by
  unfold ky_make
  split
  · exact mkf_by
  · split
    · dsimp only; split <;> first | decide | (dsimp only; decide)
    · split
      · first | decide | (dsimp only; decide)
      · split
        · first | decide | (dsimp only; decide)
        · split
          · unfold mk_pin
            split
            · dsimp only; split <;> first | decide | (dsimp only; decide)
            · exact pnt_by k
          · split
            · first | decide | (dsimp only; decide)
            · unfold mk_end
              split
              · split
                · split <;> first | decide | (dsimp only; decide)
                · first | decide | (dsimp only; decide)
              · first | decide | (dsimp only; decide)
theorem sign_by (k : Ky) : by8 (ky_sign ms k T).1 := by
  unfold ky_sign
  split
  · exact sgf_by
  · split
    · first | decide | (dsimp only; decide)
    · split
      · unfold sg_pin
        split
        · first | decide | (dsimp only; decide)
        · exact pnt_by k
      · unfold sg_end
        split
        · unfold sg_all
          split
          · first | decide | (dsimp only; decide)
          · split <;> first | decide | (dsimp only; decide)
        · unfold sg_list
          split
          · first | decide | (dsimp only; decide)
          · split <;> first | decide | (dsimp only; decide)
theorem newp_by (k : Ky) {sh : Int32} : by8 (ky_newPin ms k T sh).1 := by
  unfold ky_newPin
  split <;> first | decide | (dsimp only; decide)
theorem tryp_by (k : Ky) {sh : Int32} : by8 (ky_tryPin ms k T sh).1 := by
  unfold ky_tryPin
  split
  · first | decide | (dsimp only; decide)
  · split
    · first | decide | (dsimp only; decide)
    · dsimp only
      split
      · first | decide | (dsimp only; decide)
      · split <;> first | decide | (dsimp only; decide)
theorem dopin_by (k : Ky) : by8 (ky_doPin ms k T).1 := by
  unfold ky_doPin
  split
  · exact pnf_by
  · split
    · first | decide | (dsimp only; decide)
    · split
      · first | decide | (dsimp only; decide)
      · unfold pn_late
        by_cases h1 : (if oVn ms (mem ms 2) = 3 then pn_set k else pn_try k) ≠ 0
        · rw [if_pos h1]
          dsimp only
          split
          · unfold pn_set; split <;> first | decide | (dsimp only; decide)
          · unfold pn_try
            split
            · first | decide | (dsimp only; decide)
            · split
              · first | decide | (dsimp only; decide)
              · split <;> first | decide | (dsimp only; decide)
        · rw [if_neg h1]
          by_cases h2 : oVn ms (mem ms 2) ≠ 5 ∧ kn_as T (pn_mac (nI (pn_sh k T ms)) ms (decide (oVn ms (mem ms 2) = 4))) (o4 ms (mem ms 4)) = false
          · rw [if_pos h2]; first | decide | (dsimp only; decide)
          · rw [if_neg h2]
            by_cases h3 : oVn ms (mem ms 2) = 3
            · rw [if_pos h3]; exact newp_by k
            · rw [if_neg h3]
              unfold pn_then
              split
              · exact tryp_by k
              · split
                · exact newp_by _
                · show by8 0
                  decide
theorem r2_by (k : Ky) : by8 (ky_r2 ms k T).1 := by
  unfold ky_r2
  split
  · unfold ky_form
    dsimp only
    split
    · first | decide | (dsimp only; decide)
    · split
      · split <;> first | decide | (dsimp only; decide)
      · split
        · split
          · split <;> first | decide | (dsimp only; decide)
          · first | decide | (dsimp only; decide)
        · first | decide | (dsimp only; decide)
  · unfold ky_cmd
    split
    · exact make_by _
    · split
      · exact sign_by _
      · split
        · first | decide | (dsimp only; decide)
        · split
          · exact dopin_by _
          · split
            · unfold ky_reset
              split
              · first | decide | (dsimp only; decide)
              · split
                · first | decide | (dsimp only; decide)
                · split <;> first | decide | (dsimp only; decide)
            · unfold ky_next
              split <;> first | decide | (dsimp only; decide)
theorem took_rep (k : Ky) : (ky_took k).1.1.1.2 = k.1.1.1.2 := by unfold ky_took; split <;> rfl
theorem pnt_rep (k : Ky) {p n : Option Nat} {hash : Int32} : (pnTest k T ms p n hash).2.1.1.1.2 = k.1.1.1.2 := by
  unfold pnTest
  split
  · split
    · rfl
    · exact took_rep k
  · split
    · rfl
    · split <;> rfl
theorem tl_rep (k : Ky) {fl c h : Int32} : (tl_k k T fl c h).1.1.1.2.length = k.1.1.1.2.length + 44 := by
  unfold tl_k rpMade tl_data
  simp [S_cb_mmade4_0, S_bx_mcan1_0, S_b8_mkey_1, S_b8_mkey_0, S_b1_mterm_0, S_b1_copy_0, S_b0_mod_7, S_b0_mod_6, S_b0_mod_5, S_b0_mod_3, S_b0_mod_2, S_b0_mod_1, S_b0_mod_0, S_cb_mmade4_1h, S_bx_mcan1_1h, S_b0_mod_4h, dt9_len, b4_len]
theorem make_rep (k : Ky) : (ky_make ms k T).2.1.1.1.1.2.length ≤ k.1.1.1.2.length + 100 := by
  have ht := took_rep k
  unfold ky_make
  split
  · dsimp only; omega
  · split
    · dsimp only; rw [ht]; omega
    · split
      · dsimp only; omega
      · split
        · dsimp only; omega
        · split
          · unfold mk_pin
            split
            · dsimp only; omega
            · dsimp only; rw [pnt_rep]; omega
          · split
            · dsimp only; omega
            · unfold mk_end
              split
              · split
                · split
                  · dsimp only
                    rw [tl_rep]
                    show (ky_took k).1.1.1.2.length + 44 ≤ _
                    rw [ht]; omega
                  · show (ky_took k).1.1.1.2.length ≤ _
                    rw [ht]; omega
                · dsimp only; rw [ht]; omega
              · dsimp only
                rw [tl_rep]
                show (ky_took k).1.1.1.2.length + 44 ≤ _
                rw [ht]; omega
theorem bthd_len (s v : Int32) : (bt_hd s v).length ≤ 3 := by
  unfold bt_hd
  split
  · simp [S_cb_mmade4_0, S_bx_mcan1_0, S_b8_mkey_1, S_b8_mkey_0, S_b1_mterm_0, S_b1_copy_0, S_b0_mod_7, S_b0_mod_6, S_b0_mod_5, S_b0_mod_3, S_b0_mod_2, S_b0_mod_1, S_b0_mod_0, S_cb_mmade4_1h, S_bx_mcan1_1h, S_b0_mod_4h]
  · split
    · simp [S_cb_mmade4_0, S_bx_mcan1_0, S_b8_mkey_1, S_b8_mkey_0, S_b1_mterm_0, S_b1_copy_0, S_b0_mod_7, S_b0_mod_6, S_b0_mod_5, S_b0_mod_3, S_b0_mod_2, S_b0_mod_1, S_b0_mod_0, S_cb_mmade4_1h, S_bx_mcan1_1h, S_b0_mod_4h, bt_low_len]
    · simp [S_cb_mmade4_0, S_bx_mcan1_0, S_b8_mkey_1, S_b8_mkey_0, S_b1_mterm_0, S_b1_copy_0, S_b0_mod_7, S_b0_mod_6, S_b0_mod_5, S_b0_mod_3, S_b0_mod_2, S_b0_mod_1, S_b0_mod_0, S_cb_mmade4_1h, S_bx_mcan1_1h, S_b0_mod_4h, bt_low_len]
theorem sw_rep (k : Ky) {oc : Option Cr} {id party hash flags : Int32} {many : Nat} (hu : (sw_us oc).length ≤ 8) : (sw k T oc id party hash flags many).1.1.1.1.2.length ≤ k.1.1.1.2.length + 100 := by
  unfold sw
  split
  · show k.1.1.1.2.length ≤ _; omega
  · show (k.1.1.1.2 ++ rpSign _ _ _ _ _).length ≤ _
    rw [List.length_append]
    unfold rpSign rpTail
    have h1 := bthd_len 2 (nI (sw_us oc).length)
    have h2 := bthd_len 0 (nI many)
    split <;> split <;> simp [S_cb_mmade4_0, S_bx_mcan1_0, S_b8_mkey_1, S_b8_mkey_0, S_b1_mterm_0, S_b1_copy_0, S_b0_mod_7, S_b0_mod_6, S_b0_mod_5, S_b0_mod_3, S_b0_mod_2, S_b0_mod_1, S_b0_mod_0, S_cb_mmade4_1h, S_bx_mcan1_1h, S_b0_mod_4h, dt9_len, b4_len] <;> omega
theorem sign_rep (k : Ky) (hu : ∀ c ∈ k.1.1.1.1.2.2.2.2.2.2.2.2.2.2.2, c.2.2.2.1.length ≤ 8) : (ky_sign ms k T).2.1.1.1.1.2.length ≤ k.1.1.1.2.length + 100 := by
  have ht := took_rep k
  have htk : (sg_tk ms k).1.1.1.2 = k.1.1.1.2 := by unfold sg_tk; split; exact ht; rfl
  have hus : ∀ o : Option Nat, (sw_us (o.bind (fun j => k.1.1.1.1.2.2.2.2.2.2.2.2.2.2.2[j]?))).length ≤ 8 := by
    intro o
    cases o with
    | none => exact Nat.zero_le _
    | some i =>
      show (sw_us (k.1.1.1.1.2.2.2.2.2.2.2.2.2.2.2[i]?)).length ≤ 8
      cases hq : k.1.1.1.1.2.2.2.2.2.2.2.2.2.2.2[i]? with
      | none => exact Nat.zero_le _
      | some c => exact hu c (List.mem_of_getElem? hq)
  unfold ky_sign
  split
  · dsimp only; omega
  · split
    · dsimp only; omega
    · split
      · unfold sg_pin
        split
        · dsimp only; omega
        · dsimp only; rw [pnt_rep]; omega
      · unfold sg_end
        split
        · unfold sg_all
          split
          · dsimp only; omega
          · next i hi =>
            split
            · dsimp only; omega
            · have := sw_rep (T := T) ((((((sg_tk ms k).1.1.1.1, (sg_tk ms k).1.1.1.2), ((sg_tk ms k).1.1.2.1, (sg_tk ms k).1.1.2.2)), (((sg_tk ms k).1.2.1.1, (sg_tk ms k).1.2.1.2), ((sg_tk ms k).1.2.2.1, (sg_tk ms k).1.2.2.2))), ((((sg_tk ms k).2.1.1.1, (sg_tk ms k).2.1.1.2), ((sg_tk ms k).2.1.2.1, i)), ((sg_party T ms, o4 ms (mem ms 2)), sg_fl ms))) : Ky) (oc := k.1.1.1.1.2.2.2.2.2.2.2.2.2.2.2[i]?) (id := 0) (party := sg_party T ms) (hash := o4 ms (mem ms 2)) (flags := sg_fl ms) (many := fs_many k.1.1.1.1.2.2.2.2.2.2.2.2.2.2.2 (sg_party T ms)) (hus (some i))
              have e0 : (((((((sg_tk ms k).1.1.1.1, (sg_tk ms k).1.1.1.2), ((sg_tk ms k).1.1.2.1, (sg_tk ms k).1.1.2.2)), (((sg_tk ms k).1.2.1.1, (sg_tk ms k).1.2.1.2), ((sg_tk ms k).1.2.2.1, (sg_tk ms k).1.2.2.2))), ((((sg_tk ms k).2.1.1.1, (sg_tk ms k).2.1.1.2), ((sg_tk ms k).2.1.2.1, i)), ((sg_party T ms, o4 ms (mem ms 2)), sg_fl ms))) : Ky) : Ky).1.1.1.2.length = k.1.1.1.2.length := by dsimp only; rw [htk]
              rw [e0] at this
              exact this
        · unfold sg_list
          split
          · dsimp only; omega
          · split
            · dsimp only; omega
            · have := sw_rep (T := T) (sg_tk ms k) (oc := (fs_id k.1.1.1.1.2.2.2.2.2.2.2.2.2.2.2 (ky_fo k T ms (sg_party T ms) (mem ms 3)) (sg_party T ms)).bind (fun j => k.1.1.1.1.2.2.2.2.2.2.2.2.2.2.2[j]?)) (id := ky_fo k T ms (sg_party T ms) (mem ms 3)) (party := sg_party T ms) (hash := o4 ms (mem ms 2)) (flags := sg_fl ms) (many := 0) (hus _)
              rw [htk] at this
              exact this
theorem newp_rep (k : Ky) {sh : Int32} : (ky_newPin ms k T sh).2.1.1.1.1.2 = k.1.1.1.2 := by
  unfold ky_newPin
  split <;> rfl
theorem tryp_rep (k : Ky) {sh : Int32} : (ky_tryPin ms k T sh).2.1.1.1.1.2 = k.1.1.1.2 := by
  unfold ky_tryPin
  split
  · rfl
  · split <;> rfl
theorem dopin_rep (k : Ky) : (ky_doPin ms k T).2.1.1.1.1.2.length ≤ k.1.1.1.2.length + 100 := by
  unfold ky_doPin
  split
  · dsimp only; omega
  · split
    · have := bthd_len 0 k.1.1.1.1.2.2.2.2.2.2.2.2.2.1
      simp [S_cb_mmade4_0, S_bx_mcan1_0, S_b8_mkey_1, S_b8_mkey_0, S_b1_mterm_0, S_b1_copy_0, S_b0_mod_7, S_b0_mod_6, S_b0_mod_5, S_b0_mod_3, S_b0_mod_2, S_b0_mod_1, S_b0_mod_0, S_cb_mmade4_1h, S_bx_mcan1_1h, S_b0_mod_4h]
      omega
    · split
      · simp [S_cb_mmade4_0, S_bx_mcan1_0, S_b8_mkey_1, S_b8_mkey_0, S_b1_mterm_0, S_b1_copy_0, S_b0_mod_7, S_b0_mod_6, S_b0_mod_5, S_b0_mod_3, S_b0_mod_2, S_b0_mod_1, S_b0_mod_0, S_cb_mmade4_1h, S_bx_mcan1_1h, S_b0_mod_4h, b4_len]
      · unfold pn_late
        by_cases h1 : (if oVn ms (mem ms 2) = 3 then pn_set k else pn_try k) ≠ 0
        · rw [if_pos h1]; dsimp only; omega
        · rw [if_neg h1]
          by_cases h2 : oVn ms (mem ms 2) ≠ 5 ∧ kn_as T (pn_mac (nI (pn_sh k T ms)) ms (decide (oVn ms (mem ms 2) = 4))) (o4 ms (mem ms 4)) = false
          · rw [if_pos h2]; dsimp only; omega
          · rw [if_neg h2]
            by_cases h3 : oVn ms (mem ms 2) = 3
            · rw [if_pos h3, newp_rep]; omega
            · rw [if_neg h3]
              unfold pn_then
              split
              · rw [tryp_rep]; omega
              · split
                · rw [newp_rep, tryp_rep]; omega
                · unfold pn_tok
                  simp [S_cb_mmade4_0, S_bx_mcan1_0, S_b8_mkey_1, S_b8_mkey_0, S_b1_mterm_0, S_b1_copy_0, S_b0_mod_7, S_b0_mod_6, S_b0_mod_5, S_b0_mod_3, S_b0_mod_2, S_b0_mod_1, S_b0_mod_0, S_cb_mmade4_1h, S_bx_mcan1_1h, S_b0_mod_4h, tryp_rep, b4_len]
theorem r2_rep (k : Ky) (hu : ∀ c ∈ k.1.1.1.1.2.2.2.2.2.2.2.2.2.2.2, c.2.2.2.1.length ≤ 8) : (ky_r2 ms k T).2.1.1.1.1.2.length ≤ 101 := by
  have e1 : (ky_r1 ms k).1.1.1.2.length = 1 := rfl
  have hu1 : ∀ c ∈ (ky_r1 ms k).1.1.1.1.2.2.2.2.2.2.2.2.2.2.2, c.2.2.2.1.length ≤ 8 := hu
  unfold ky_r2
  split
  · dsimp only; omega
  · unfold ky_cmd
    split
    · have := make_rep (T := T) (ms := ms) (ky_r1 ms k); omega
    · split
      · have := sign_rep (T := T) (ms := ms) (ky_r1 ms k) hu1; omega
      · split
        · simp [S_cb_mmade4_0, S_bx_mcan1_0, S_b8_mkey_1, S_b8_mkey_0, S_b1_mterm_0, S_b1_copy_0, S_b0_mod_7, S_b0_mod_6, S_b0_mod_5, S_b0_mod_3, S_b0_mod_2, S_b0_mod_1, S_b0_mod_0, S_cb_mmade4_1h, S_bx_mcan1_1h, S_b0_mod_4h, e1, rpInfo]
        · split
          · have := dopin_rep (T := T) (ms := ms) (ky_r1 ms k); omega
          · split
            · unfold ky_reset
              have ht := took_rep (ky_r1 ms k)
              split
              · dsimp only; omega
              · split
                · dsimp only; omega
                · split
                  · show (ky_took (ky_r1 ms k)).1.1.1.2.length ≤ 101
                    rw [ht]; omega
                  · show (ky_took (ky_r1 ms k)).1.1.1.2.length ≤ 101
                    rw [ht]; omega
            · unfold ky_next
              split
              · dsimp only; omega
              · next i hi =>
                have := sw_rep (T := T) ((((((ky_r1 ms k).1.1.1.1, (ky_r1 ms k).1.1.1.2), ((ky_r1 ms k).1.1.2.1, (ky_r1 ms k).1.1.2.2)), (((ky_r1 ms k).1.2.1.1, (ky_r1 ms k).1.2.1.2), ((ky_r1 ms k).1.2.2.1, (ky_r1 ms k).1.2.2.2))), ((((ky_r1 ms k).2.1.1.1, (ky_r1 ms k).2.1.1.2), ((ky_r1 ms k).2.1.2.1, i)), (((ky_r1 ms k).2.2.1.1, (ky_r1 ms k).2.2.1.2), (ky_r1 ms k).2.2.2))) : Ky) (oc := (ky_r1 ms k).1.1.1.1.2.2.2.2.2.2.2.2.2.2.2[i]?) (id := 0) (party := (ky_r1 ms k).2.2.1.1) (hash := (ky_r1 ms k).2.2.1.2) (flags := (ky_r1 ms k).2.2.2) (many := 1) (by
                  cases hq : (ky_r1 ms k).1.1.1.1.2.2.2.2.2.2.2.2.2.2.2[i]? with
                  | none => exact Nat.zero_le _
                  | some c => exact hu1 c (List.mem_of_getElem? hq))
                dsimp only at this ⊢
                omega
end
end
