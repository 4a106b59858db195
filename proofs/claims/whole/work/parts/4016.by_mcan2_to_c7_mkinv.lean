/- by.mcan2 -/
section
set_option maxRecDepth 512
/-! The model: the walk over an item, its other pieces. -/
def qe (ms : List Int32) (p : Nat) : Nat := if cbS ms p = 2 ∨ cbS ms p = 3 then cbC ms p + cbV ms p else cbC ms p
def kp (ms c z : List Int32) (f : Nat) : Option (Nat × Nat) → Prop
  | none => c[f]? = some (-1)
  | some (a, ea) => c[f]? = some (nI a) ∧ z[f]? = some (nI ea) ∧ a < ea ∧ ea ≤ ms.length
def krs (ms : List Int32) (k : Option (Nat × Nat)) (p q : Nat) : Bool := match k with
  | none => true
  | some (a, ea) => cbLt ms a ea p q
theorem lg_ne {a : Int64} (h : ¬ a = 0) : ¬ lg_cmp a 0 = 0 := by
  unfold lg_cmp
  rw [if_neg h]
  split <;> decide
section
variable {d : Nat} {B : Bs} {x : Fx} {y : Sy} {ms a c z : List Int32} {b : List Int64} {e f p q : Nat}
theorem ca_B1 (h : xm x ms) (hk : hdOk ms p) {v6 : Int32} (he : e ≤ 4) :
    (cbOk ms p → ∀ r, mj_Rn (d + 3) mj_m292 154 [(7, .int (nI p)), (6, .int v6), (5, .int (nI (nv ms p))), (4, .int (nI (cbS ms p))), (3, .int (nI e)), (2, .int (nI (qe ms p))), (0, .ref 67)] [] (mm B x y) = some r → mj_Rn (d + 3) mj_m292 102 [(6, .int v6), (5, .int (nI (nv ms p))), (4, .int (nI (cbS ms p))), (3, .int (nI e)), (2, .int (nI p)), (0, .ref 67)] [] (mm B x y) = some r) ∧
    (¬ cbOk ms p → mj_Rn (d + 3) mj_m292 102 [(6, .int v6), (5, .int (nI (nv ms p))), (4, .int (nI (cbS ms p))), (3, .int (nI e)), (2, .int (nI p)), (0, .ref 67)] [] (mm B x y) = some (some (.int (-1)), mm B x y)) := by
  have hle := h.1.le
  have hme := h.2.1
  have s1 : cbS ms p < 8 := by have := (h.at hk.1).2; unfold cbS; omega
  have rb := q_behindHead (d := d + 1) (B := B) (x := x) (y := y) h hk.1
  have hC : cbC ms p ≤ ms.length := hk.2.2.2.1
  have hV : cbV ms p < 2 ^ 31 := hk.2.2.2.2.2.1
  have hpC : p < cbC ms p := by unfold cbC; omega
  by_cases h7 : cbS ms p = 7
  · have ok : cbOk ms p := cbOk_hd.mpr ⟨hk, by omega⟩
    refine ⟨fun _ r hr => ?_, fun z => absurd ok z⟩
    have hX : cbX ms p < 24 := by
      rcases hk.2.2.2.2.1 with z | z | z | z
      · exact z
      · have := hk.2.2.2.2.2.2 h7; omega
      · have := hk.2.2.2.2.2.2 h7; omega
      · have := hk.2.2.2.2.2.2 h7; omega
    have hC1 : cbC ms p = p + 1 := by unfold cbC cbN; rw [if_pos hX]
    have e1 : qe ms p = p + 1 := by unfold qe; rw [if_neg (by omega), hC1]
    have e2 : nv ms p = 0 := by unfold nv; rw [if_pos h7]
    rw [e1, e2, h7] at hr
    rw [e2, h7]
    simp (disch := (first | omega | decide)) [S_bx_mcan1_0, S_b8_mkey_1, S_b8_mkey_0, S_b1_mterm_0, S_b1_copy_0, S_b0_mod_7, S_b0_mod_6, S_b0_mod_5, S_b0_mod_3, S_b0_mod_2, S_b0_mod_1, S_b0_mod_0, S_bx_mcan1_1h, S_b0_mod_4h, s292_0, s292_1, s292_2, s292_3, s292_5, s292_6, s292_9, s292_12, s292_13, s292_14, s292_15, s292_16, s292_19, s292_21, s292_23, s292_25, s292_28, s292_29, s292_32, s292_33, s292_34, s292_37, s292_39, s292_40, s292_43, s292_44, s292_47, s292_48, s292_49, s292_50, s292_51, s292_54, s292_55, s292_58, s292_59, s292_60, s292_61, s292_62, s292_65, s292_66, s292_67, s292_68, s292_71, s292_72, s292_75, s292_76, s292_78, s292_80, s292_83, s292_85, s292_88, s292_90, s292_91, s292_94, s292_96, s292_97, s292_100, s292_101, s292_102, s292_103, s292_105, s292_107, s292_109, s292_112, s292_113, s292_114, s292_115, s292_118, s292_119, s292_120, s292_123, s292_124, s292_126, s292_127, s292_130, s292_132, s292_133, s292_136, s292_138, s292_139, s292_142, s292_143, s292_144, s292_147, s292_148, s292_149, s292_150, s292_152, s292_153, s292_156, s292_159, s292_160, s292_161, s292_162, s292_163, s292_165, s292_166, s292_169, s292_172, s292_173, s292_174, s292_175, s292_178, s292_179, s292_180, s292_181, s292_183, s292_184, s292_185, s292_188, s292_189, s292_190, s292_191, s292_192, s292_193, s292_194, s292_196, s292_198, s292_199, s292_202, s292_204, s292_205, s292_208, s292_209, s292_210, s292_213, s292_214, s292_215, s292_216, s292_219, s292_220, s292_222, s292_223, s292_226, s292_227, s292_230, s292_231, s292_232, s292_233, s292_236, s292_237, s292_239, s292_240, s292_243, s292_246, s292_248, s292_249, s292_250, s292_253, s292_255, s292_256, s292_257, s292_258, s292_261, s292_262, s292_263, s292_264, s292_266, s292_269, s292_270, s292_273, s292_274, s292_276, s292_277, s292_279, s292_282, s292_283, s292_286, s292_287, s292_288, s292_289, s292_291, s292_294, s292_295, s292_298, s292_299, s292_300, s292_301, s292_304, s292_305, s292_306, s292_307, s292_308, s292_309, s292_310, s292_311, s292_312, s292_313, s292_316, s292_317, s292_318, s292_319, s292_320, s292_321, s292_322, s292_325, s292_326, s292_329, s292_330, s292_332, s292_333, s292_335, s292_338, s292_339, s292_342, s292_343, s292_344, s292_345, s292_348, mq_k0s, mq_k1s, mq_k2s, mq_k4s, mq_k5s, mq_k5n, mq_k5as, mq_k6s, mj_pu, mj_lo, mj_br, mj_hr, mj_hw, mq_gf, mq_len, mq_al, mq_pf, mq_ok, mj_re, mq_lkm, mq_lkn, mj_ldi, mj_ldl, mj_lda, mj_ii, mj_ll, mj_li, mj_i1, ms_1, ms_2, f1_n, f1_i, f1_r, f1_u, f1_l, f2_n, f2_i, f2_r, f2_u, f2_l, mj_tg, mj_c1, mj_c2, mj_ar, mj_aw, mq_cb, mq_oi, mj_rm, Value.category, -getElem?_pos, List.getElem?_cons_zero, decide_eq_true, decide_eq_false, nl_lt, nl_le, ln_lt, ln_le, nl_eq, ln_eq, nl_add, ln_add, nl_sub, ln_mul, nI_sub, nI_mul, nI_add, nI_lt_iff, nI_le_iff, nI_inj, nI_num, mq_ix, nI_1, nl_mul, nl_div]
    refine mq_wk ?_ hr
    simp [S_bx_mcan1_0, S_b8_mkey_1, S_b8_mkey_0, S_b1_mterm_0, S_b1_copy_0, S_b0_mod_7, S_b0_mod_6, S_b0_mod_5, S_b0_mod_3, S_b0_mod_2, S_b0_mod_1, S_b0_mod_0, S_bx_mcan1_1h, S_b0_mod_4h, mq_sub, mj_lk]
  · unfold qe nv
    rw [if_neg h7]
    by_cases h23 : cbS ms p = 2 ∨ cbS ms p = 3
    · rw [if_pos h23]
      refine ⟨fun ok r hr => ?_, fun nok => ?_⟩
      · have := (cbOk_hd.mp ok).2 h23
        rcases h23 with h2 | h2 <;> rw [h2] at hr ⊢
        · simp (disch := (first | omega | decide)) [S_bx_mcan1_0, S_b8_mkey_1, S_b8_mkey_0, S_b1_mterm_0, S_b1_copy_0, S_b0_mod_7, S_b0_mod_6, S_b0_mod_5, S_b0_mod_3, S_b0_mod_2, S_b0_mod_1, S_b0_mod_0, S_bx_mcan1_1h, S_b0_mod_4h, s292_0, s292_1, s292_2, s292_3, s292_5, s292_6, s292_9, s292_12, s292_13, s292_14, s292_15, s292_16, s292_19, s292_21, s292_23, s292_25, s292_28, s292_29, s292_32, s292_33, s292_34, s292_37, s292_39, s292_40, s292_43, s292_44, s292_47, s292_48, s292_49, s292_50, s292_51, s292_54, s292_55, s292_58, s292_59, s292_60, s292_61, s292_62, s292_65, s292_66, s292_67, s292_68, s292_71, s292_72, s292_75, s292_76, s292_78, s292_80, s292_83, s292_85, s292_88, s292_90, s292_91, s292_94, s292_96, s292_97, s292_100, s292_101, s292_102, s292_103, s292_105, s292_107, s292_109, s292_112, s292_113, s292_114, s292_115, s292_118, s292_119, s292_120, s292_123, s292_124, s292_126, s292_127, s292_130, s292_132, s292_133, s292_136, s292_138, s292_139, s292_142, s292_143, s292_144, s292_147, s292_148, s292_149, s292_150, s292_152, s292_153, s292_156, s292_159, s292_160, s292_161, s292_162, s292_163, s292_165, s292_166, s292_169, s292_172, s292_173, s292_174, s292_175, s292_178, s292_179, s292_180, s292_181, s292_183, s292_184, s292_185, s292_188, s292_189, s292_190, s292_191, s292_192, s292_193, s292_194, s292_196, s292_198, s292_199, s292_202, s292_204, s292_205, s292_208, s292_209, s292_210, s292_213, s292_214, s292_215, s292_216, s292_219, s292_220, s292_222, s292_223, s292_226, s292_227, s292_230, s292_231, s292_232, s292_233, s292_236, s292_237, s292_239, s292_240, s292_243, s292_246, s292_248, s292_249, s292_250, s292_253, s292_255, s292_256, s292_257, s292_258, s292_261, s292_262, s292_263, s292_264, s292_266, s292_269, s292_270, s292_273, s292_274, s292_276, s292_277, s292_279, s292_282, s292_283, s292_286, s292_287, s292_288, s292_289, s292_291, s292_294, s292_295, s292_298, s292_299, s292_300, s292_301, s292_304, s292_305, s292_306, s292_307, s292_308, s292_309, s292_310, s292_311, s292_312, s292_313, s292_316, s292_317, s292_318, s292_319, s292_320, s292_321, s292_322, s292_325, s292_326, s292_329, s292_330, s292_332, s292_333, s292_335, s292_338, s292_339, s292_342, s292_343, s292_344, s292_345, s292_348, mq_k0s, mq_k1s, mq_k2s, mq_k4s, mq_k5s, mq_k5n, mq_k5as, mq_k6s, mj_pu, mj_lo, mj_br, mj_hr, mj_hw, mq_gf, mq_len, mq_al, mq_pf, mq_ok, mj_re, mq_lkm, mq_lkn, mj_ldi, mj_ldl, mj_lda, mj_ii, mj_ll, mj_li, mj_i1, ms_1, ms_2, f1_n, f1_i, f1_r, f1_u, f1_l, f2_n, f2_i, f2_r, f2_u, f2_l, mj_tg, mj_c1, mj_c2, mj_ar, mj_aw, mq_cb, mq_oi, mj_rm, Value.category, -getElem?_pos, List.getElem?_cons_zero, decide_eq_true, decide_eq_false, nl_lt, nl_le, ln_lt, ln_le, nl_eq, ln_eq, nl_add, ln_add, nl_sub, ln_mul, nI_sub, nI_mul, nI_add, nI_lt_iff, nI_le_iff, nI_inj, nI_num, mq_ix, nI_1, nl_mul, nl_div, rb, hme, show ¬ ms.length - cbC ms p < cbV ms p by omega]
          refine mq_wk ?_ hr
          simp [S_bx_mcan1_0, S_b8_mkey_1, S_b8_mkey_0, S_b1_mterm_0, S_b1_copy_0, S_b0_mod_7, S_b0_mod_6, S_b0_mod_5, S_b0_mod_3, S_b0_mod_2, S_b0_mod_1, S_b0_mod_0, S_bx_mcan1_1h, S_b0_mod_4h, mq_sub, mj_lk]
        · simp (disch := (first | omega | decide)) [S_bx_mcan1_0, S_b8_mkey_1, S_b8_mkey_0, S_b1_mterm_0, S_b1_copy_0, S_b0_mod_7, S_b0_mod_6, S_b0_mod_5, S_b0_mod_3, S_b0_mod_2, S_b0_mod_1, S_b0_mod_0, S_bx_mcan1_1h, S_b0_mod_4h, s292_0, s292_1, s292_2, s292_3, s292_5, s292_6, s292_9, s292_12, s292_13, s292_14, s292_15, s292_16, s292_19, s292_21, s292_23, s292_25, s292_28, s292_29, s292_32, s292_33, s292_34, s292_37, s292_39, s292_40, s292_43, s292_44, s292_47, s292_48, s292_49, s292_50, s292_51, s292_54, s292_55, s292_58, s292_59, s292_60, s292_61, s292_62, s292_65, s292_66, s292_67, s292_68, s292_71, s292_72, s292_75, s292_76, s292_78, s292_80, s292_83, s292_85, s292_88, s292_90, s292_91, s292_94, s292_96, s292_97, s292_100, s292_101, s292_102, s292_103, s292_105, s292_107, s292_109, s292_112, s292_113, s292_114, s292_115, s292_118, s292_119, s292_120, s292_123, s292_124, s292_126, s292_127, s292_130, s292_132, s292_133, s292_136, s292_138, s292_139, s292_142, s292_143, s292_144, s292_147, s292_148, s292_149, s292_150, s292_152, s292_153, s292_156, s292_159, s292_160, s292_161, s292_162, s292_163, s292_165, s292_166, s292_169, s292_172, s292_173, s292_174, s292_175, s292_178, s292_179, s292_180, s292_181, s292_183, s292_184, s292_185, s292_188, s292_189, s292_190, s292_191, s292_192, s292_193, s292_194, s292_196, s292_198, s292_199, s292_202, s292_204, s292_205, s292_208, s292_209, s292_210, s292_213, s292_214, s292_215, s292_216, s292_219, s292_220, s292_222, s292_223, s292_226, s292_227, s292_230, s292_231, s292_232, s292_233, s292_236, s292_237, s292_239, s292_240, s292_243, s292_246, s292_248, s292_249, s292_250, s292_253, s292_255, s292_256, s292_257, s292_258, s292_261, s292_262, s292_263, s292_264, s292_266, s292_269, s292_270, s292_273, s292_274, s292_276, s292_277, s292_279, s292_282, s292_283, s292_286, s292_287, s292_288, s292_289, s292_291, s292_294, s292_295, s292_298, s292_299, s292_300, s292_301, s292_304, s292_305, s292_306, s292_307, s292_308, s292_309, s292_310, s292_311, s292_312, s292_313, s292_316, s292_317, s292_318, s292_319, s292_320, s292_321, s292_322, s292_325, s292_326, s292_329, s292_330, s292_332, s292_333, s292_335, s292_338, s292_339, s292_342, s292_343, s292_344, s292_345, s292_348, mq_k0s, mq_k1s, mq_k2s, mq_k4s, mq_k5s, mq_k5n, mq_k5as, mq_k6s, mj_pu, mj_lo, mj_br, mj_hr, mj_hw, mq_gf, mq_len, mq_al, mq_pf, mq_ok, mj_re, mq_lkm, mq_lkn, mj_ldi, mj_ldl, mj_lda, mj_ii, mj_ll, mj_li, mj_i1, ms_1, ms_2, f1_n, f1_i, f1_r, f1_u, f1_l, f2_n, f2_i, f2_r, f2_u, f2_l, mj_tg, mj_c1, mj_c2, mj_ar, mj_aw, mq_cb, mq_oi, mj_rm, Value.category, -getElem?_pos, List.getElem?_cons_zero, decide_eq_true, decide_eq_false, nl_lt, nl_le, ln_lt, ln_le, nl_eq, ln_eq, nl_add, ln_add, nl_sub, ln_mul, nI_sub, nI_mul, nI_add, nI_lt_iff, nI_le_iff, nI_inj, nI_num, mq_ix, nI_1, nl_mul, nl_div, rb, hme, show ¬ ms.length - cbC ms p < cbV ms p by omega]
          refine mq_wk ?_ hr
          simp [S_bx_mcan1_0, S_b8_mkey_1, S_b8_mkey_0, S_b1_mterm_0, S_b1_copy_0, S_b0_mod_7, S_b0_mod_6, S_b0_mod_5, S_b0_mod_3, S_b0_mod_2, S_b0_mod_1, S_b0_mod_0, S_bx_mcan1_1h, S_b0_mod_4h, mq_sub, mj_lk]
      · have : ¬ cbC ms p + cbV ms p ≤ ms.length := fun z => nok (cbOk_hd.mpr ⟨hk, fun _ => z⟩)
        rcases h23 with h2 | h2 <;> rw [h2]
        · simp (disch := (first | omega | decide)) [S_bx_mcan1_0, S_b8_mkey_1, S_b8_mkey_0, S_b1_mterm_0, S_b1_copy_0, S_b0_mod_7, S_b0_mod_6, S_b0_mod_5, S_b0_mod_3, S_b0_mod_2, S_b0_mod_1, S_b0_mod_0, S_bx_mcan1_1h, S_b0_mod_4h, s292_0, s292_1, s292_2, s292_3, s292_5, s292_6, s292_9, s292_12, s292_13, s292_14, s292_15, s292_16, s292_19, s292_21, s292_23, s292_25, s292_28, s292_29, s292_32, s292_33, s292_34, s292_37, s292_39, s292_40, s292_43, s292_44, s292_47, s292_48, s292_49, s292_50, s292_51, s292_54, s292_55, s292_58, s292_59, s292_60, s292_61, s292_62, s292_65, s292_66, s292_67, s292_68, s292_71, s292_72, s292_75, s292_76, s292_78, s292_80, s292_83, s292_85, s292_88, s292_90, s292_91, s292_94, s292_96, s292_97, s292_100, s292_101, s292_102, s292_103, s292_105, s292_107, s292_109, s292_112, s292_113, s292_114, s292_115, s292_118, s292_119, s292_120, s292_123, s292_124, s292_126, s292_127, s292_130, s292_132, s292_133, s292_136, s292_138, s292_139, s292_142, s292_143, s292_144, s292_147, s292_148, s292_149, s292_150, s292_152, s292_153, s292_156, s292_159, s292_160, s292_161, s292_162, s292_163, s292_165, s292_166, s292_169, s292_172, s292_173, s292_174, s292_175, s292_178, s292_179, s292_180, s292_181, s292_183, s292_184, s292_185, s292_188, s292_189, s292_190, s292_191, s292_192, s292_193, s292_194, s292_196, s292_198, s292_199, s292_202, s292_204, s292_205, s292_208, s292_209, s292_210, s292_213, s292_214, s292_215, s292_216, s292_219, s292_220, s292_222, s292_223, s292_226, s292_227, s292_230, s292_231, s292_232, s292_233, s292_236, s292_237, s292_239, s292_240, s292_243, s292_246, s292_248, s292_249, s292_250, s292_253, s292_255, s292_256, s292_257, s292_258, s292_261, s292_262, s292_263, s292_264, s292_266, s292_269, s292_270, s292_273, s292_274, s292_276, s292_277, s292_279, s292_282, s292_283, s292_286, s292_287, s292_288, s292_289, s292_291, s292_294, s292_295, s292_298, s292_299, s292_300, s292_301, s292_304, s292_305, s292_306, s292_307, s292_308, s292_309, s292_310, s292_311, s292_312, s292_313, s292_316, s292_317, s292_318, s292_319, s292_320, s292_321, s292_322, s292_325, s292_326, s292_329, s292_330, s292_332, s292_333, s292_335, s292_338, s292_339, s292_342, s292_343, s292_344, s292_345, s292_348, mq_k0s, mq_k1s, mq_k2s, mq_k4s, mq_k5s, mq_k5n, mq_k5as, mq_k6s, mj_pu, mj_lo, mj_br, mj_hr, mj_hw, mq_gf, mq_len, mq_al, mq_pf, mq_ok, mj_re, mq_lkm, mq_lkn, mj_ldi, mj_ldl, mj_lda, mj_ii, mj_ll, mj_li, mj_i1, ms_1, ms_2, f1_n, f1_i, f1_r, f1_u, f1_l, f2_n, f2_i, f2_r, f2_u, f2_l, mj_tg, mj_c1, mj_c2, mj_ar, mj_aw, mq_cb, mq_oi, mj_rm, Value.category, -getElem?_pos, List.getElem?_cons_zero, decide_eq_true, decide_eq_false, nl_lt, nl_le, ln_lt, ln_le, nl_eq, ln_eq, nl_add, ln_add, nl_sub, ln_mul, nI_sub, nI_mul, nI_add, nI_lt_iff, nI_le_iff, nI_inj, nI_num, mq_ix, nI_1, nl_mul, nl_div, rb, hme, show ms.length - cbC ms p < cbV ms p by omega, narrow]
        · simp (disch := (first | omega | decide)) [S_bx_mcan1_0, S_b8_mkey_1, S_b8_mkey_0, S_b1_mterm_0, S_b1_copy_0, S_b0_mod_7, S_b0_mod_6, S_b0_mod_5, S_b0_mod_3, S_b0_mod_2, S_b0_mod_1, S_b0_mod_0, S_bx_mcan1_1h, S_b0_mod_4h, s292_0, s292_1, s292_2, s292_3, s292_5, s292_6, s292_9, s292_12, s292_13, s292_14, s292_15, s292_16, s292_19, s292_21, s292_23, s292_25, s292_28, s292_29, s292_32, s292_33, s292_34, s292_37, s292_39, s292_40, s292_43, s292_44, s292_47, s292_48, s292_49, s292_50, s292_51, s292_54, s292_55, s292_58, s292_59, s292_60, s292_61, s292_62, s292_65, s292_66, s292_67, s292_68, s292_71, s292_72, s292_75, s292_76, s292_78, s292_80, s292_83, s292_85, s292_88, s292_90, s292_91, s292_94, s292_96, s292_97, s292_100, s292_101, s292_102, s292_103, s292_105, s292_107, s292_109, s292_112, s292_113, s292_114, s292_115, s292_118, s292_119, s292_120, s292_123, s292_124, s292_126, s292_127, s292_130, s292_132, s292_133, s292_136, s292_138, s292_139, s292_142, s292_143, s292_144, s292_147, s292_148, s292_149, s292_150, s292_152, s292_153, s292_156, s292_159, s292_160, s292_161, s292_162, s292_163, s292_165, s292_166, s292_169, s292_172, s292_173, s292_174, s292_175, s292_178, s292_179, s292_180, s292_181, s292_183, s292_184, s292_185, s292_188, s292_189, s292_190, s292_191, s292_192, s292_193, s292_194, s292_196, s292_198, s292_199, s292_202, s292_204, s292_205, s292_208, s292_209, s292_210, s292_213, s292_214, s292_215, s292_216, s292_219, s292_220, s292_222, s292_223, s292_226, s292_227, s292_230, s292_231, s292_232, s292_233, s292_236, s292_237, s292_239, s292_240, s292_243, s292_246, s292_248, s292_249, s292_250, s292_253, s292_255, s292_256, s292_257, s292_258, s292_261, s292_262, s292_263, s292_264, s292_266, s292_269, s292_270, s292_273, s292_274, s292_276, s292_277, s292_279, s292_282, s292_283, s292_286, s292_287, s292_288, s292_289, s292_291, s292_294, s292_295, s292_298, s292_299, s292_300, s292_301, s292_304, s292_305, s292_306, s292_307, s292_308, s292_309, s292_310, s292_311, s292_312, s292_313, s292_316, s292_317, s292_318, s292_319, s292_320, s292_321, s292_322, s292_325, s292_326, s292_329, s292_330, s292_332, s292_333, s292_335, s292_338, s292_339, s292_342, s292_343, s292_344, s292_345, s292_348, mq_k0s, mq_k1s, mq_k2s, mq_k4s, mq_k5s, mq_k5n, mq_k5as, mq_k6s, mj_pu, mj_lo, mj_br, mj_hr, mj_hw, mq_gf, mq_len, mq_al, mq_pf, mq_ok, mj_re, mq_lkm, mq_lkn, mj_ldi, mj_ldl, mj_lda, mj_ii, mj_ll, mj_li, mj_i1, ms_1, ms_2, f1_n, f1_i, f1_r, f1_u, f1_l, f2_n, f2_i, f2_r, f2_u, f2_l, mj_tg, mj_c1, mj_c2, mj_ar, mj_aw, mq_cb, mq_oi, mj_rm, Value.category, -getElem?_pos, List.getElem?_cons_zero, decide_eq_true, decide_eq_false, nl_lt, nl_le, ln_lt, ln_le, nl_eq, ln_eq, nl_add, ln_add, nl_sub, ln_mul, nI_sub, nI_mul, nI_add, nI_lt_iff, nI_le_iff, nI_inj, nI_num, mq_ix, nI_1, nl_mul, nl_div, rb, hme, show ms.length - cbC ms p < cbV ms p by omega, narrow]
    · have ok : cbOk ms p := cbOk_hd.mpr ⟨hk, fun z => absurd z h23⟩
      rw [if_neg h23]
      refine ⟨fun _ r hr => ?_, fun z => absurd ok z⟩
      simp (disch := (first | omega | decide)) [S_bx_mcan1_0, S_b8_mkey_1, S_b8_mkey_0, S_b1_mterm_0, S_b1_copy_0, S_b0_mod_7, S_b0_mod_6, S_b0_mod_5, S_b0_mod_3, S_b0_mod_2, S_b0_mod_1, S_b0_mod_0, S_bx_mcan1_1h, S_b0_mod_4h, s292_0, s292_1, s292_2, s292_3, s292_5, s292_6, s292_9, s292_12, s292_13, s292_14, s292_15, s292_16, s292_19, s292_21, s292_23, s292_25, s292_28, s292_29, s292_32, s292_33, s292_34, s292_37, s292_39, s292_40, s292_43, s292_44, s292_47, s292_48, s292_49, s292_50, s292_51, s292_54, s292_55, s292_58, s292_59, s292_60, s292_61, s292_62, s292_65, s292_66, s292_67, s292_68, s292_71, s292_72, s292_75, s292_76, s292_78, s292_80, s292_83, s292_85, s292_88, s292_90, s292_91, s292_94, s292_96, s292_97, s292_100, s292_101, s292_102, s292_103, s292_105, s292_107, s292_109, s292_112, s292_113, s292_114, s292_115, s292_118, s292_119, s292_120, s292_123, s292_124, s292_126, s292_127, s292_130, s292_132, s292_133, s292_136, s292_138, s292_139, s292_142, s292_143, s292_144, s292_147, s292_148, s292_149, s292_150, s292_152, s292_153, s292_156, s292_159, s292_160, s292_161, s292_162, s292_163, s292_165, s292_166, s292_169, s292_172, s292_173, s292_174, s292_175, s292_178, s292_179, s292_180, s292_181, s292_183, s292_184, s292_185, s292_188, s292_189, s292_190, s292_191, s292_192, s292_193, s292_194, s292_196, s292_198, s292_199, s292_202, s292_204, s292_205, s292_208, s292_209, s292_210, s292_213, s292_214, s292_215, s292_216, s292_219, s292_220, s292_222, s292_223, s292_226, s292_227, s292_230, s292_231, s292_232, s292_233, s292_236, s292_237, s292_239, s292_240, s292_243, s292_246, s292_248, s292_249, s292_250, s292_253, s292_255, s292_256, s292_257, s292_258, s292_261, s292_262, s292_263, s292_264, s292_266, s292_269, s292_270, s292_273, s292_274, s292_276, s292_277, s292_279, s292_282, s292_283, s292_286, s292_287, s292_288, s292_289, s292_291, s292_294, s292_295, s292_298, s292_299, s292_300, s292_301, s292_304, s292_305, s292_306, s292_307, s292_308, s292_309, s292_310, s292_311, s292_312, s292_313, s292_316, s292_317, s292_318, s292_319, s292_320, s292_321, s292_322, s292_325, s292_326, s292_329, s292_330, s292_332, s292_333, s292_335, s292_338, s292_339, s292_342, s292_343, s292_344, s292_345, s292_348, mq_k0s, mq_k1s, mq_k2s, mq_k4s, mq_k5s, mq_k5n, mq_k5as, mq_k6s, mj_pu, mj_lo, mj_br, mj_hr, mj_hw, mq_gf, mq_len, mq_al, mq_pf, mq_ok, mj_re, mq_lkm, mq_lkn, mj_ldi, mj_ldl, mj_lda, mj_ii, mj_ll, mj_li, mj_i1, ms_1, ms_2, f1_n, f1_i, f1_r, f1_u, f1_l, f2_n, f2_i, f2_r, f2_u, f2_l, mj_tg, mj_c1, mj_c2, mj_ar, mj_aw, mq_cb, mq_oi, mj_rm, Value.category, -getElem?_pos, List.getElem?_cons_zero, decide_eq_true, decide_eq_false, nl_lt, nl_le, ln_lt, ln_le, nl_eq, ln_eq, nl_add, ln_add, nl_sub, ln_mul, nI_sub, nI_mul, nI_add, nI_lt_iff, nI_le_iff, nI_inj, nI_num, mq_ix, nI_1, nl_mul, nl_div, rb, h7, show ¬ cbS ms p = 2 by omega, show ¬ cbS ms p = 3 by omega]
      refine mq_wk ?_ hr
      simp [S_bx_mcan1_0, S_b8_mkey_1, S_b8_mkey_0, S_b1_mterm_0, S_b1_copy_0, S_b0_mod_7, S_b0_mod_6, S_b0_mod_5, S_b0_mod_3, S_b0_mod_2, S_b0_mod_1, S_b0_mod_0, S_bx_mcan1_1h, S_b0_mod_4h, mq_sub, mj_lk]
theorem ca_B2 {s n : Int32} {v7 : Int32} : ∀ r, mj_Rn (d + 3) mj_m292 193 [(5, .int n), (4, .int s), (3, .int (nI e)), (2, .int (nI q)), (0, .ref 67)] [] (mm B x y) = some r → mj_Rn (d + 3) mj_m292 154 [(7, .int v7), (6, .int 0), (5, .int n), (4, .int s), (3, .int (nI e)), (2, .int (nI q)), (0, .ref 67)] [] (mm B x y) = some r := by
  intro r hr
  simp (disch := (first | omega | decide)) [S_bx_mcan1_0, S_b8_mkey_1, S_b8_mkey_0, S_b1_mterm_0, S_b1_copy_0, S_b0_mod_7, S_b0_mod_6, S_b0_mod_5, S_b0_mod_3, S_b0_mod_2, S_b0_mod_1, S_b0_mod_0, S_bx_mcan1_1h, S_b0_mod_4h, s292_0, s292_1, s292_2, s292_3, s292_5, s292_6, s292_9, s292_12, s292_13, s292_14, s292_15, s292_16, s292_19, s292_21, s292_23, s292_25, s292_28, s292_29, s292_32, s292_33, s292_34, s292_37, s292_39, s292_40, s292_43, s292_44, s292_47, s292_48, s292_49, s292_50, s292_51, s292_54, s292_55, s292_58, s292_59, s292_60, s292_61, s292_62, s292_65, s292_66, s292_67, s292_68, s292_71, s292_72, s292_75, s292_76, s292_78, s292_80, s292_83, s292_85, s292_88, s292_90, s292_91, s292_94, s292_96, s292_97, s292_100, s292_101, s292_102, s292_103, s292_105, s292_107, s292_109, s292_112, s292_113, s292_114, s292_115, s292_118, s292_119, s292_120, s292_123, s292_124, s292_126, s292_127, s292_130, s292_132, s292_133, s292_136, s292_138, s292_139, s292_142, s292_143, s292_144, s292_147, s292_148, s292_149, s292_150, s292_152, s292_153, s292_154, s292_156, s292_159, s292_160, s292_161, s292_162, s292_163, s292_165, s292_166, s292_169, s292_172, s292_173, s292_174, s292_175, s292_178, s292_179, s292_180, s292_181, s292_183, s292_184, s292_185, s292_188, s292_189, s292_190, s292_191, s292_192, s292_194, s292_196, s292_198, s292_199, s292_202, s292_204, s292_205, s292_208, s292_209, s292_210, s292_213, s292_214, s292_215, s292_216, s292_219, s292_220, s292_222, s292_223, s292_226, s292_227, s292_230, s292_231, s292_232, s292_233, s292_236, s292_237, s292_239, s292_240, s292_243, s292_246, s292_248, s292_249, s292_250, s292_253, s292_255, s292_256, s292_257, s292_258, s292_261, s292_262, s292_263, s292_264, s292_266, s292_269, s292_270, s292_273, s292_274, s292_276, s292_277, s292_279, s292_282, s292_283, s292_286, s292_287, s292_288, s292_289, s292_291, s292_294, s292_295, s292_298, s292_299, s292_300, s292_301, s292_304, s292_305, s292_306, s292_307, s292_308, s292_309, s292_310, s292_311, s292_312, s292_313, s292_316, s292_317, s292_318, s292_319, s292_320, s292_321, s292_322, s292_325, s292_326, s292_329, s292_330, s292_332, s292_333, s292_335, s292_338, s292_339, s292_342, s292_343, s292_344, s292_345, s292_348, mq_k0s, mq_k1s, mq_k2s, mq_k4s, mq_k5s, mq_k5n, mq_k5as, mq_k6s, mj_pu, mj_lo, mj_br, mj_hr, mj_hw, mq_gf, mq_len, mq_al, mq_pf, mq_ok, mj_re, mq_lkm, mq_lkn, mj_ldi, mj_ldl, mj_lda, mj_ii, mj_ll, mj_li, mj_i1, ms_1, ms_2, f1_n, f1_i, f1_r, f1_u, f1_l, f2_n, f2_i, f2_r, f2_u, f2_l, mj_tg, mj_c1, mj_c2, mj_ar, mj_aw, mq_cb, mq_oi, mj_rm, Value.category, -getElem?_pos, List.getElem?_cons_zero, decide_eq_true, decide_eq_false, nl_lt, nl_le, ln_lt, ln_le, nl_eq, ln_eq, nl_add, ln_add, nl_sub, ln_mul, nI_sub, nI_mul, nI_add, nI_lt_iff, nI_le_iff, nI_inj, nI_num, mq_ix, nI_1, nl_mul, nl_div]
  refine mq_wk ?_ hr
  simp [S_bx_mcan1_0, S_b8_mkey_1, S_b8_mkey_0, S_b1_mterm_0, S_b1_copy_0, S_b0_mod_7, S_b0_mod_6, S_b0_mod_5, S_b0_mod_3, S_b0_mod_2, S_b0_mod_1, S_b0_mod_0, S_bx_mcan1_1h, S_b0_mod_4h, mq_sub, mj_lk]
theorem ca_B3 (h : xm x ms) {s n : Int32} {k : Option (Nat × Nat)} (hk : kp ms c z f k) (hf : f < 4) (hc : c.length = 5) (hz : z.length = 5) (hp : p < q) (hq : q ≤ ms.length) :
    (krs ms k p q = true → ∀ r, mj_Rn (d + 3) mj_m292 193 [(5, .int n), (4, .int s), (3, .int (nI (f + 1))), (2, .int (nI q)), (0, .ref 67)] [] (mm B x (y.st a b (c.set f (nI p)) (z.set f (nI q)))) = some r → mj_Rn (d + 3) mj_m292 154 [(7, .int (nI p)), (6, .int 1), (5, .int n), (4, .int s), (3, .int (nI (f + 1))), (2, .int (nI q)), (0, .ref 67)] [] (mm B x (y.st a b c z)) = some r) ∧
    (krs ms k p q = false → mj_Rn (d + 3) mj_m292 154 [(7, .int (nI p)), (6, .int 1), (5, .int n), (4, .int s), (3, .int (nI (f + 1))), (2, .int (nI q)), (0, .ref 67)] [] (mm B x (y.st a b c z)) = some (some (.int (-1)), mm B x (y.st a b c z))) := by
  have hle := h.1.le
  have rr : mj_V (d + 3) 298 [.ref 67, .int (nI f), .int (nI p), .int (nI q)] (mm B x (y.st a b c z)) = some (some (.int (on1 (krs ms k p q))), mm B x (y.st a b c z)) := by
    cases k with
    | none => exact q_rises0 (d := d + 1) hk (by exact hc) (by omega)
    | some ke =>
      obtain ⟨g, ge⟩ := ke
      obtain ⟨k1, k2, k3, k4⟩ := hk
      exact q_rises (d := d + 1) h k1 k2 hc hz (by omega) k3 k4 hp hq
  refine ⟨fun hr r hr2 => ?_, fun hr => ?_⟩
  · rw [hr] at rr
    simp only [on1] at rr
    simp (disch := (first | omega | decide)) [S_bx_mcan1_0, S_b8_mkey_1, S_b8_mkey_0, S_b1_mterm_0, S_b1_copy_0, S_b0_mod_7, S_b0_mod_6, S_b0_mod_5, S_b0_mod_3, S_b0_mod_2, S_b0_mod_1, S_b0_mod_0, S_bx_mcan1_1h, S_b0_mod_4h, s292_0, s292_1, s292_2, s292_3, s292_5, s292_6, s292_9, s292_12, s292_13, s292_14, s292_15, s292_16, s292_19, s292_21, s292_23, s292_25, s292_28, s292_29, s292_32, s292_33, s292_34, s292_37, s292_39, s292_40, s292_43, s292_44, s292_47, s292_48, s292_49, s292_50, s292_51, s292_54, s292_55, s292_58, s292_59, s292_60, s292_61, s292_62, s292_65, s292_66, s292_67, s292_68, s292_71, s292_72, s292_75, s292_76, s292_78, s292_80, s292_83, s292_85, s292_88, s292_90, s292_91, s292_94, s292_96, s292_97, s292_100, s292_101, s292_102, s292_103, s292_105, s292_107, s292_109, s292_112, s292_113, s292_114, s292_115, s292_118, s292_119, s292_120, s292_123, s292_124, s292_126, s292_127, s292_130, s292_132, s292_133, s292_136, s292_138, s292_139, s292_142, s292_143, s292_144, s292_147, s292_148, s292_149, s292_150, s292_152, s292_153, s292_154, s292_156, s292_159, s292_160, s292_161, s292_162, s292_163, s292_165, s292_166, s292_169, s292_172, s292_173, s292_174, s292_175, s292_178, s292_179, s292_180, s292_181, s292_183, s292_184, s292_185, s292_188, s292_189, s292_190, s292_191, s292_192, s292_194, s292_196, s292_198, s292_199, s292_202, s292_204, s292_205, s292_208, s292_209, s292_210, s292_213, s292_214, s292_215, s292_216, s292_219, s292_220, s292_222, s292_223, s292_226, s292_227, s292_230, s292_231, s292_232, s292_233, s292_236, s292_237, s292_239, s292_240, s292_243, s292_246, s292_248, s292_249, s292_250, s292_253, s292_255, s292_256, s292_257, s292_258, s292_261, s292_262, s292_263, s292_264, s292_266, s292_269, s292_270, s292_273, s292_274, s292_276, s292_277, s292_279, s292_282, s292_283, s292_286, s292_287, s292_288, s292_289, s292_291, s292_294, s292_295, s292_298, s292_299, s292_300, s292_301, s292_304, s292_305, s292_306, s292_307, s292_308, s292_309, s292_310, s292_311, s292_312, s292_313, s292_316, s292_317, s292_318, s292_319, s292_320, s292_321, s292_322, s292_325, s292_326, s292_329, s292_330, s292_332, s292_333, s292_335, s292_338, s292_339, s292_342, s292_343, s292_344, s292_345, s292_348, mq_k0s, mq_k1s, mq_k2s, mq_k4s, mq_k5s, mq_k5n, mq_k5as, mq_k6s, mj_pu, mj_lo, mj_br, mj_hr, mj_hw, mq_gf, mq_len, mq_al, mq_pf, mq_ok, mj_re, mq_lkm, mq_lkn, mj_ldi, mj_ldl, mj_lda, mj_ii, mj_ll, mj_li, mj_i1, ms_1, ms_2, f1_n, f1_i, f1_r, f1_u, f1_l, f2_n, f2_i, f2_r, f2_u, f2_l, mj_tg, mj_c1, mj_c2, mj_ar, mj_aw, mq_cb, mq_oi, mj_rm, Value.category, -getElem?_pos, List.getElem?_cons_zero, decide_eq_true, decide_eq_false, nl_lt, nl_le, ln_lt, ln_le, nl_eq, ln_eq, nl_add, ln_add, nl_sub, ln_mul, nI_sub, nI_mul, nI_add, nI_lt_iff, nI_le_iff, nI_inj, nI_num, mq_ix, nI_1, nl_mul, nl_div, rr, hc, hz]
    refine mq_wk ?_ hr2
    simp [S_bx_mcan1_0, S_b8_mkey_1, S_b8_mkey_0, S_b1_mterm_0, S_b1_copy_0, S_b0_mod_7, S_b0_mod_6, S_b0_mod_5, S_b0_mod_3, S_b0_mod_2, S_b0_mod_1, S_b0_mod_0, S_bx_mcan1_1h, S_b0_mod_4h, mq_sub, mj_lk]
  · rw [hr] at rr
    simp only [on1] at rr
    simp (disch := (first | omega | decide)) [S_bx_mcan1_0, S_b8_mkey_1, S_b8_mkey_0, S_b1_mterm_0, S_b1_copy_0, S_b0_mod_7, S_b0_mod_6, S_b0_mod_5, S_b0_mod_3, S_b0_mod_2, S_b0_mod_1, S_b0_mod_0, S_bx_mcan1_1h, S_b0_mod_4h, s292_0, s292_1, s292_2, s292_3, s292_5, s292_6, s292_9, s292_12, s292_13, s292_14, s292_15, s292_16, s292_19, s292_21, s292_23, s292_25, s292_28, s292_29, s292_32, s292_33, s292_34, s292_37, s292_39, s292_40, s292_43, s292_44, s292_47, s292_48, s292_49, s292_50, s292_51, s292_54, s292_55, s292_58, s292_59, s292_60, s292_61, s292_62, s292_65, s292_66, s292_67, s292_68, s292_71, s292_72, s292_75, s292_76, s292_78, s292_80, s292_83, s292_85, s292_88, s292_90, s292_91, s292_94, s292_96, s292_97, s292_100, s292_101, s292_102, s292_103, s292_105, s292_107, s292_109, s292_112, s292_113, s292_114, s292_115, s292_118, s292_119, s292_120, s292_123, s292_124, s292_126, s292_127, s292_130, s292_132, s292_133, s292_136, s292_138, s292_139, s292_142, s292_143, s292_144, s292_147, s292_148, s292_149, s292_150, s292_152, s292_153, s292_154, s292_156, s292_159, s292_160, s292_161, s292_162, s292_163, s292_165, s292_166, s292_169, s292_172, s292_173, s292_174, s292_175, s292_178, s292_179, s292_180, s292_181, s292_183, s292_184, s292_185, s292_188, s292_189, s292_190, s292_191, s292_192, s292_194, s292_196, s292_198, s292_199, s292_202, s292_204, s292_205, s292_208, s292_209, s292_210, s292_213, s292_214, s292_215, s292_216, s292_219, s292_220, s292_222, s292_223, s292_226, s292_227, s292_230, s292_231, s292_232, s292_233, s292_236, s292_237, s292_239, s292_240, s292_243, s292_246, s292_248, s292_249, s292_250, s292_253, s292_255, s292_256, s292_257, s292_258, s292_261, s292_262, s292_263, s292_264, s292_266, s292_269, s292_270, s292_273, s292_274, s292_276, s292_277, s292_279, s292_282, s292_283, s292_286, s292_287, s292_288, s292_289, s292_291, s292_294, s292_295, s292_298, s292_299, s292_300, s292_301, s292_304, s292_305, s292_306, s292_307, s292_308, s292_309, s292_310, s292_311, s292_312, s292_313, s292_316, s292_317, s292_318, s292_319, s292_320, s292_321, s292_322, s292_325, s292_326, s292_329, s292_330, s292_332, s292_333, s292_335, s292_338, s292_339, s292_342, s292_343, s292_344, s292_345, s292_348, mq_k0s, mq_k1s, mq_k2s, mq_k4s, mq_k5s, mq_k5n, mq_k5as, mq_k6s, mj_pu, mj_lo, mj_br, mj_hr, mj_hw, mq_gf, mq_len, mq_al, mq_pf, mq_ok, mj_re, mq_lkm, mq_lkn, mj_ldi, mj_ldl, mj_lda, mj_ii, mj_ll, mj_li, mj_i1, ms_1, ms_2, f1_n, f1_i, f1_r, f1_u, f1_l, f2_n, f2_i, f2_r, f2_u, f2_l, mj_tg, mj_c1, mj_c2, mj_ar, mj_aw, mq_cb, mq_oi, mj_rm, Value.category, -getElem?_pos, List.getElem?_cons_zero, decide_eq_true, decide_eq_false, nl_lt, nl_le, ln_lt, ln_le, nl_eq, ln_eq, nl_add, ln_add, nl_sub, ln_mul, nI_sub, nI_mul, nI_add, nI_lt_iff, nI_le_iff, nI_inj, nI_num, mq_ix, nI_1, nl_mul, nl_div, rr, narrow]
theorem ca_C1 {s : Nat} {n : Int32} (hs : s < 8) (h4 : ¬ (s = 4 ∨ s = 5)) : ∀ r, mj_Rn (d + 3) mj_m292 289 [(8, .int 1), (3, .int (nI e)), (2, .int (nI q)), (0, .ref 67)] [] (mm B x y) = some r → mj_Rn (d + 3) mj_m292 193 [(5, .int n), (4, .int (nI s)), (3, .int (nI e)), (2, .int (nI q)), (0, .ref 67)] [] (mm B x y) = some r := by
  intro r hr
  simp (disch := (first | omega | decide)) [S_bx_mcan1_0, S_b8_mkey_1, S_b8_mkey_0, S_b1_mterm_0, S_b1_copy_0, S_b0_mod_7, S_b0_mod_6, S_b0_mod_5, S_b0_mod_3, S_b0_mod_2, S_b0_mod_1, S_b0_mod_0, S_bx_mcan1_1h, S_b0_mod_4h, s292_0, s292_1, s292_2, s292_3, s292_5, s292_6, s292_9, s292_12, s292_13, s292_14, s292_15, s292_16, s292_19, s292_21, s292_23, s292_25, s292_28, s292_29, s292_32, s292_33, s292_34, s292_37, s292_39, s292_40, s292_43, s292_44, s292_47, s292_48, s292_49, s292_50, s292_51, s292_54, s292_55, s292_58, s292_59, s292_60, s292_61, s292_62, s292_65, s292_66, s292_67, s292_68, s292_71, s292_72, s292_75, s292_76, s292_78, s292_80, s292_83, s292_85, s292_88, s292_90, s292_91, s292_94, s292_96, s292_97, s292_100, s292_101, s292_102, s292_103, s292_105, s292_107, s292_109, s292_112, s292_113, s292_114, s292_115, s292_118, s292_119, s292_120, s292_123, s292_124, s292_126, s292_127, s292_130, s292_132, s292_133, s292_136, s292_138, s292_139, s292_142, s292_143, s292_144, s292_147, s292_148, s292_149, s292_150, s292_152, s292_153, s292_154, s292_156, s292_159, s292_160, s292_161, s292_162, s292_163, s292_165, s292_166, s292_169, s292_172, s292_173, s292_174, s292_175, s292_178, s292_179, s292_180, s292_181, s292_183, s292_184, s292_185, s292_188, s292_189, s292_190, s292_191, s292_192, s292_193, s292_194, s292_196, s292_198, s292_199, s292_202, s292_204, s292_205, s292_208, s292_209, s292_210, s292_213, s292_214, s292_215, s292_216, s292_219, s292_220, s292_222, s292_223, s292_226, s292_227, s292_230, s292_231, s292_232, s292_233, s292_236, s292_237, s292_239, s292_240, s292_243, s292_246, s292_248, s292_249, s292_250, s292_253, s292_255, s292_256, s292_257, s292_258, s292_261, s292_262, s292_263, s292_264, s292_266, s292_269, s292_270, s292_273, s292_274, s292_276, s292_277, s292_279, s292_282, s292_283, s292_286, s292_287, s292_288, s292_291, s292_294, s292_295, s292_298, s292_299, s292_300, s292_301, s292_304, s292_305, s292_306, s292_307, s292_308, s292_309, s292_310, s292_311, s292_312, s292_313, s292_316, s292_317, s292_318, s292_319, s292_320, s292_321, s292_322, s292_325, s292_326, s292_329, s292_330, s292_332, s292_333, s292_335, s292_338, s292_339, s292_342, s292_343, s292_344, s292_345, s292_348, mq_k0s, mq_k1s, mq_k2s, mq_k4s, mq_k5s, mq_k5n, mq_k5as, mq_k6s, mj_pu, mj_lo, mj_br, mj_hr, mj_hw, mq_gf, mq_len, mq_al, mq_pf, mq_ok, mj_re, mq_lkm, mq_lkn, mj_ldi, mj_ldl, mj_lda, mj_ii, mj_ll, mj_li, mj_i1, ms_1, ms_2, f1_n, f1_i, f1_r, f1_u, f1_l, f2_n, f2_i, f2_r, f2_u, f2_l, mj_tg, mj_c1, mj_c2, mj_ar, mj_aw, mq_cb, mq_oi, mj_rm, Value.category, -getElem?_pos, List.getElem?_cons_zero, decide_eq_true, decide_eq_false, nl_lt, nl_le, ln_lt, ln_le, nl_eq, ln_eq, nl_add, ln_add, nl_sub, ln_mul, nI_sub, nI_mul, nI_add, nI_lt_iff, nI_le_iff, nI_inj, nI_num, mq_ix, nI_1, nl_mul, nl_div, show ¬ s = 4 by omega, show ¬ s = 5 by omega]
  refine mq_wk ?_ hr
  simp [S_bx_mcan1_0, S_b8_mkey_1, S_b8_mkey_0, S_b1_mterm_0, S_b1_copy_0, S_b0_mod_7, S_b0_mod_6, S_b0_mod_5, S_b0_mod_3, S_b0_mod_2, S_b0_mod_1, S_b0_mod_0, S_bx_mcan1_1h, S_b0_mod_4h, mq_sub, mj_lk]
theorem ca_C2 {s : Nat} {n : Int32} (h4 : s = 4 ∨ s = 5) : mj_Rn (d + 3) mj_m292 193 [(5, .int n), (4, .int (nI s)), (3, .int (nI 4)), (2, .int (nI q)), (0, .ref 67)] [] (mm B x y) = some (some (.int (-1)), mm B x y) := by
  rcases h4 with rfl | rfl <;> simp (disch := (first | omega | decide)) [S_bx_mcan1_0, S_b8_mkey_1, S_b8_mkey_0, S_b1_mterm_0, S_b1_copy_0, S_b0_mod_7, S_b0_mod_6, S_b0_mod_5, S_b0_mod_3, S_b0_mod_2, S_b0_mod_1, S_b0_mod_0, S_bx_mcan1_1h, S_b0_mod_4h, s292_0, s292_1, s292_2, s292_3, s292_5, s292_6, s292_9, s292_12, s292_13, s292_14, s292_15, s292_16, s292_19, s292_21, s292_23, s292_25, s292_28, s292_29, s292_32, s292_33, s292_34, s292_37, s292_39, s292_40, s292_43, s292_44, s292_47, s292_48, s292_49, s292_50, s292_51, s292_54, s292_55, s292_58, s292_59, s292_60, s292_61, s292_62, s292_65, s292_66, s292_67, s292_68, s292_71, s292_72, s292_75, s292_76, s292_78, s292_80, s292_83, s292_85, s292_88, s292_90, s292_91, s292_94, s292_96, s292_97, s292_100, s292_101, s292_102, s292_103, s292_105, s292_107, s292_109, s292_112, s292_113, s292_114, s292_115, s292_118, s292_119, s292_120, s292_123, s292_124, s292_126, s292_127, s292_130, s292_132, s292_133, s292_136, s292_138, s292_139, s292_142, s292_143, s292_144, s292_147, s292_148, s292_149, s292_150, s292_152, s292_153, s292_154, s292_156, s292_159, s292_160, s292_161, s292_162, s292_163, s292_165, s292_166, s292_169, s292_172, s292_173, s292_174, s292_175, s292_178, s292_179, s292_180, s292_181, s292_183, s292_184, s292_185, s292_188, s292_189, s292_190, s292_191, s292_192, s292_193, s292_194, s292_196, s292_198, s292_199, s292_202, s292_204, s292_205, s292_208, s292_209, s292_210, s292_213, s292_214, s292_215, s292_216, s292_219, s292_220, s292_222, s292_223, s292_226, s292_227, s292_230, s292_231, s292_232, s292_233, s292_236, s292_237, s292_239, s292_240, s292_243, s292_246, s292_248, s292_249, s292_250, s292_253, s292_255, s292_256, s292_257, s292_258, s292_261, s292_262, s292_263, s292_264, s292_266, s292_269, s292_270, s292_273, s292_274, s292_276, s292_277, s292_279, s292_282, s292_283, s292_286, s292_287, s292_288, s292_291, s292_294, s292_295, s292_298, s292_299, s292_300, s292_301, s292_304, s292_305, s292_306, s292_307, s292_308, s292_309, s292_310, s292_311, s292_312, s292_313, s292_316, s292_317, s292_318, s292_319, s292_320, s292_321, s292_322, s292_325, s292_326, s292_329, s292_330, s292_332, s292_333, s292_335, s292_338, s292_339, s292_342, s292_343, s292_344, s292_345, s292_348, mq_k0s, mq_k1s, mq_k2s, mq_k4s, mq_k5s, mq_k5n, mq_k5as, mq_k6s, mj_pu, mj_lo, mj_br, mj_hr, mj_hw, mq_gf, mq_len, mq_al, mq_pf, mq_ok, mj_re, mq_lkm, mq_lkn, mj_ldi, mj_ldl, mj_lda, mj_ii, mj_ll, mj_li, mj_i1, ms_1, ms_2, f1_n, f1_i, f1_r, f1_u, f1_l, f2_n, f2_i, f2_r, f2_u, f2_l, mj_tg, mj_c1, mj_c2, mj_ar, mj_aw, mq_cb, mq_oi, mj_rm, Value.category, -getElem?_pos, List.getElem?_cons_zero, decide_eq_true, decide_eq_false, nl_lt, nl_le, ln_lt, ln_le, nl_eq, ln_eq, nl_add, ln_add, nl_sub, ln_mul, nI_sub, nI_mul, nI_add, nI_lt_iff, nI_le_iff, nI_inj, nI_num, mq_ix, nI_1, nl_mul, nl_div, narrow]
theorem ca_C3 {s n : Nat} (h4 : s = 4 ∨ s = 5) (he : e < 4) (ha : a.length = 5) (hb : b.length = 5) (hc : c.length = 5) (hn : n < 2 ^ 31) :
    (n = 0 → ∀ r, mj_Rn (d + 3) mj_m292 289 [(8, .int 1), (3, .int (nI e)), (2, .int (nI q)), (0, .ref 67)] [] (mm B x (y.st (a.set e (on1 (decide (s = 5)))) (b.set e (nL (if s = 5 then 2 * n else n))) (c.set e (-1)) z)) = some r → mj_Rn (d + 3) mj_m292 193 [(5, .int (nI n)), (4, .int (nI s)), (3, .int (nI e)), (2, .int (nI q)), (0, .ref 67)] [] (mm B x (y.st a b c z)) = some r) ∧
    (n ≠ 0 → ∀ r, mj_Rn (d + 3) mj_m292 4 [(3, .int (nI (e + 1))), (2, .int (nI q)), (0, .ref 67)] [] (mm B x (y.st (a.set e (on1 (decide (s = 5)))) (b.set e (nL (if s = 5 then 2 * n else n))) (c.set e (-1)) z)) = some r → mj_Rn (d + 3) mj_m292 193 [(5, .int (nI n)), (4, .int (nI s)), (3, .int (nI e)), (2, .int (nI q)), (0, .ref 67)] [] (mm B x (y.st a b c z)) = some r) := by
  have el : (2 : Int64) * nL n = nL (2 * n) := by
    unfold nL
    rw [show (2 : Int64) = Int64.ofNat 2 from rfl, ← Int64.ofNat_mul]
  have e2 := nL_l hn
  have hn1 : n ≠ 0 → ¬ nI n = 0 := fun z w => z ((nI_inj hn (by omega)).mp w)
  constructor
  · rintro rfl r hr
    rcases h4 with rfl | rfl
    · simp only [show ¬ (4 : Nat) = 5 by omega, decide_false, on1, Bool.false_eq_true, if_false] at hr
      simp (disch := (first | omega | decide)) [S_bx_mcan1_0, S_b8_mkey_1, S_b8_mkey_0, S_b1_mterm_0, S_b1_copy_0, S_b0_mod_7, S_b0_mod_6, S_b0_mod_5, S_b0_mod_3, S_b0_mod_2, S_b0_mod_1, S_b0_mod_0, S_bx_mcan1_1h, S_b0_mod_4h, s292_0, s292_1, s292_2, s292_3, s292_5, s292_6, s292_9, s292_12, s292_13, s292_14, s292_15, s292_16, s292_19, s292_21, s292_23, s292_25, s292_28, s292_29, s292_32, s292_33, s292_34, s292_37, s292_39, s292_40, s292_43, s292_44, s292_47, s292_48, s292_49, s292_50, s292_51, s292_54, s292_55, s292_58, s292_59, s292_60, s292_61, s292_62, s292_65, s292_66, s292_67, s292_68, s292_71, s292_72, s292_75, s292_76, s292_78, s292_80, s292_83, s292_85, s292_88, s292_90, s292_91, s292_94, s292_96, s292_97, s292_100, s292_101, s292_102, s292_103, s292_105, s292_107, s292_109, s292_112, s292_113, s292_114, s292_115, s292_118, s292_119, s292_120, s292_123, s292_124, s292_126, s292_127, s292_130, s292_132, s292_133, s292_136, s292_138, s292_139, s292_142, s292_143, s292_144, s292_147, s292_148, s292_149, s292_150, s292_152, s292_153, s292_154, s292_156, s292_159, s292_160, s292_161, s292_162, s292_163, s292_165, s292_166, s292_169, s292_172, s292_173, s292_174, s292_175, s292_178, s292_179, s292_180, s292_181, s292_183, s292_184, s292_185, s292_188, s292_189, s292_190, s292_191, s292_192, s292_193, s292_194, s292_196, s292_198, s292_199, s292_202, s292_204, s292_205, s292_208, s292_209, s292_210, s292_213, s292_214, s292_215, s292_216, s292_219, s292_220, s292_222, s292_223, s292_226, s292_227, s292_230, s292_231, s292_232, s292_233, s292_236, s292_237, s292_239, s292_240, s292_243, s292_246, s292_248, s292_249, s292_250, s292_253, s292_255, s292_256, s292_257, s292_258, s292_261, s292_262, s292_263, s292_264, s292_266, s292_269, s292_270, s292_273, s292_274, s292_276, s292_277, s292_279, s292_282, s292_283, s292_286, s292_287, s292_288, s292_291, s292_294, s292_295, s292_298, s292_299, s292_300, s292_301, s292_304, s292_305, s292_306, s292_307, s292_308, s292_309, s292_310, s292_311, s292_312, s292_313, s292_316, s292_317, s292_318, s292_319, s292_320, s292_321, s292_322, s292_325, s292_326, s292_329, s292_330, s292_332, s292_333, s292_335, s292_338, s292_339, s292_342, s292_343, s292_344, s292_345, s292_348, mq_k0s, mq_k1s, mq_k2s, mq_k4s, mq_k5s, mq_k5n, mq_k5as, mq_k6s, mj_pu, mj_lo, mj_br, mj_hr, mj_hw, mq_gf, mq_len, mq_al, mq_pf, mq_ok, mj_re, mq_lkm, mq_lkn, mj_ldi, mj_ldl, mj_lda, mj_ii, mj_ll, mj_li, mj_i1, ms_1, ms_2, f1_n, f1_i, f1_r, f1_u, f1_l, f2_n, f2_i, f2_r, f2_u, f2_l, mj_tg, mj_c1, mj_c2, mj_ar, mj_aw, mq_cb, mq_oi, mj_rm, Value.category, -getElem?_pos, List.getElem?_cons_zero, decide_eq_true, decide_eq_false, nl_lt, nl_le, ln_lt, ln_le, nl_eq, ln_eq, nl_add, ln_add, nl_sub, ln_mul, nI_sub, nI_mul, nI_add, nI_lt_iff, nI_le_iff, nI_inj, nI_num, mq_ix, nI_1, nl_mul, nl_div, e2, ha, hb, hc, narrow_b0]
      refine mq_wk ?_ hr
      simp [S_bx_mcan1_0, S_b8_mkey_1, S_b8_mkey_0, S_b1_mterm_0, S_b1_copy_0, S_b0_mod_7, S_b0_mod_6, S_b0_mod_5, S_b0_mod_3, S_b0_mod_2, S_b0_mod_1, S_b0_mod_0, S_bx_mcan1_1h, S_b0_mod_4h, mq_sub, mj_lk]
    · simp only [decide_true, on1, if_true] at hr
      simp (disch := (first | omega | decide)) [S_bx_mcan1_0, S_b8_mkey_1, S_b8_mkey_0, S_b1_mterm_0, S_b1_copy_0, S_b0_mod_7, S_b0_mod_6, S_b0_mod_5, S_b0_mod_3, S_b0_mod_2, S_b0_mod_1, S_b0_mod_0, S_bx_mcan1_1h, S_b0_mod_4h, s292_0, s292_1, s292_2, s292_3, s292_5, s292_6, s292_9, s292_12, s292_13, s292_14, s292_15, s292_16, s292_19, s292_21, s292_23, s292_25, s292_28, s292_29, s292_32, s292_33, s292_34, s292_37, s292_39, s292_40, s292_43, s292_44, s292_47, s292_48, s292_49, s292_50, s292_51, s292_54, s292_55, s292_58, s292_59, s292_60, s292_61, s292_62, s292_65, s292_66, s292_67, s292_68, s292_71, s292_72, s292_75, s292_76, s292_78, s292_80, s292_83, s292_85, s292_88, s292_90, s292_91, s292_94, s292_96, s292_97, s292_100, s292_101, s292_102, s292_103, s292_105, s292_107, s292_109, s292_112, s292_113, s292_114, s292_115, s292_118, s292_119, s292_120, s292_123, s292_124, s292_126, s292_127, s292_130, s292_132, s292_133, s292_136, s292_138, s292_139, s292_142, s292_143, s292_144, s292_147, s292_148, s292_149, s292_150, s292_152, s292_153, s292_154, s292_156, s292_159, s292_160, s292_161, s292_162, s292_163, s292_165, s292_166, s292_169, s292_172, s292_173, s292_174, s292_175, s292_178, s292_179, s292_180, s292_181, s292_183, s292_184, s292_185, s292_188, s292_189, s292_190, s292_191, s292_192, s292_193, s292_194, s292_196, s292_198, s292_199, s292_202, s292_204, s292_205, s292_208, s292_209, s292_210, s292_213, s292_214, s292_215, s292_216, s292_219, s292_220, s292_222, s292_223, s292_226, s292_227, s292_230, s292_231, s292_232, s292_233, s292_236, s292_237, s292_239, s292_240, s292_243, s292_246, s292_248, s292_249, s292_250, s292_253, s292_255, s292_256, s292_257, s292_258, s292_261, s292_262, s292_263, s292_264, s292_266, s292_269, s292_270, s292_273, s292_274, s292_276, s292_277, s292_279, s292_282, s292_283, s292_286, s292_287, s292_288, s292_291, s292_294, s292_295, s292_298, s292_299, s292_300, s292_301, s292_304, s292_305, s292_306, s292_307, s292_308, s292_309, s292_310, s292_311, s292_312, s292_313, s292_316, s292_317, s292_318, s292_319, s292_320, s292_321, s292_322, s292_325, s292_326, s292_329, s292_330, s292_332, s292_333, s292_335, s292_338, s292_339, s292_342, s292_343, s292_344, s292_345, s292_348, mq_k0s, mq_k1s, mq_k2s, mq_k4s, mq_k5s, mq_k5n, mq_k5as, mq_k6s, mj_pu, mj_lo, mj_br, mj_hr, mj_hw, mq_gf, mq_len, mq_al, mq_pf, mq_ok, mj_re, mq_lkm, mq_lkn, mj_ldi, mj_ldl, mj_lda, mj_ii, mj_ll, mj_li, mj_i1, ms_1, ms_2, f1_n, f1_i, f1_r, f1_u, f1_l, f2_n, f2_i, f2_r, f2_u, f2_l, mj_tg, mj_c1, mj_c2, mj_ar, mj_aw, mq_cb, mq_oi, mj_rm, Value.category, -getElem?_pos, List.getElem?_cons_zero, decide_eq_true, decide_eq_false, nl_lt, nl_le, ln_lt, ln_le, nl_eq, ln_eq, nl_add, ln_add, nl_sub, ln_mul, nI_sub, nI_mul, nI_add, nI_lt_iff, nI_le_iff, nI_inj, nI_num, mq_ix, nI_1, nl_mul, nl_div, e2, el, ha, hb, hc, narrow_b1]
      refine mq_wk ?_ hr
      simp [S_bx_mcan1_0, S_b8_mkey_1, S_b8_mkey_0, S_b1_mterm_0, S_b1_copy_0, S_b0_mod_7, S_b0_mod_6, S_b0_mod_5, S_b0_mod_3, S_b0_mod_2, S_b0_mod_1, S_b0_mod_0, S_bx_mcan1_1h, S_b0_mod_4h, mq_sub, mj_lk]
  · intro hn0 r hr
    rcases h4 with rfl | rfl
    · simp only [show ¬ (4 : Nat) = 5 by omega, decide_false, on1, Bool.false_eq_true, if_false] at hr
      simp (disch := (first | omega | decide)) [S_bx_mcan1_0, S_b8_mkey_1, S_b8_mkey_0, S_b1_mterm_0, S_b1_copy_0, S_b0_mod_7, S_b0_mod_6, S_b0_mod_5, S_b0_mod_3, S_b0_mod_2, S_b0_mod_1, S_b0_mod_0, S_bx_mcan1_1h, S_b0_mod_4h, s292_0, s292_1, s292_2, s292_3, s292_5, s292_6, s292_9, s292_12, s292_13, s292_14, s292_15, s292_16, s292_19, s292_21, s292_23, s292_25, s292_28, s292_29, s292_32, s292_33, s292_34, s292_37, s292_39, s292_40, s292_43, s292_44, s292_47, s292_48, s292_49, s292_50, s292_51, s292_54, s292_55, s292_58, s292_59, s292_60, s292_61, s292_62, s292_65, s292_66, s292_67, s292_68, s292_71, s292_72, s292_75, s292_76, s292_78, s292_80, s292_83, s292_85, s292_88, s292_90, s292_91, s292_94, s292_96, s292_97, s292_100, s292_101, s292_102, s292_103, s292_105, s292_107, s292_109, s292_112, s292_113, s292_114, s292_115, s292_118, s292_119, s292_120, s292_123, s292_124, s292_126, s292_127, s292_130, s292_132, s292_133, s292_136, s292_138, s292_139, s292_142, s292_143, s292_144, s292_147, s292_148, s292_149, s292_150, s292_152, s292_153, s292_154, s292_156, s292_159, s292_160, s292_161, s292_162, s292_163, s292_165, s292_166, s292_169, s292_172, s292_173, s292_174, s292_175, s292_178, s292_179, s292_180, s292_181, s292_183, s292_184, s292_185, s292_188, s292_189, s292_190, s292_191, s292_192, s292_193, s292_194, s292_196, s292_198, s292_199, s292_202, s292_204, s292_205, s292_208, s292_209, s292_210, s292_213, s292_214, s292_215, s292_216, s292_219, s292_220, s292_222, s292_223, s292_226, s292_227, s292_230, s292_231, s292_232, s292_233, s292_236, s292_237, s292_239, s292_240, s292_243, s292_246, s292_248, s292_249, s292_250, s292_253, s292_255, s292_256, s292_257, s292_258, s292_261, s292_262, s292_263, s292_264, s292_266, s292_269, s292_270, s292_273, s292_274, s292_276, s292_277, s292_279, s292_282, s292_283, s292_286, s292_287, s292_288, s292_289, s292_291, s292_294, s292_295, s292_298, s292_299, s292_300, s292_301, s292_304, s292_305, s292_306, s292_307, s292_308, s292_309, s292_310, s292_311, s292_312, s292_313, s292_316, s292_317, s292_318, s292_319, s292_320, s292_321, s292_322, s292_325, s292_326, s292_329, s292_330, s292_332, s292_333, s292_335, s292_338, s292_339, s292_342, s292_343, s292_344, s292_345, s292_348, mq_k0s, mq_k1s, mq_k2s, mq_k4s, mq_k5s, mq_k5n, mq_k5as, mq_k6s, mj_pu, mj_lo, mj_br, mj_hr, mj_hw, mq_gf, mq_len, mq_al, mq_pf, mq_ok, mj_re, mq_lkm, mq_lkn, mj_ldi, mj_ldl, mj_lda, mj_ii, mj_ll, mj_li, mj_i1, ms_1, ms_2, f1_n, f1_i, f1_r, f1_u, f1_l, f2_n, f2_i, f2_r, f2_u, f2_l, mj_tg, mj_c1, mj_c2, mj_ar, mj_aw, mq_cb, mq_oi, mj_rm, Value.category, -getElem?_pos, List.getElem?_cons_zero, decide_eq_true, decide_eq_false, nl_lt, nl_le, ln_lt, ln_le, nl_eq, ln_eq, nl_add, ln_add, nl_sub, ln_mul, nI_sub, nI_mul, nI_add, nI_lt_iff, nI_le_iff, nI_inj, nI_num, mq_ix, nI_1, nl_mul, nl_div, e2, ha, hb, hc, hn1 hn0, narrow_b0]
      refine mq_wk ?_ hr
      simp [S_bx_mcan1_0, S_b8_mkey_1, S_b8_mkey_0, S_b1_mterm_0, S_b1_copy_0, S_b0_mod_7, S_b0_mod_6, S_b0_mod_5, S_b0_mod_3, S_b0_mod_2, S_b0_mod_1, S_b0_mod_0, S_bx_mcan1_1h, S_b0_mod_4h, mq_sub, mj_lk]
    · simp only [decide_true, on1, if_true] at hr
      simp (disch := (first | omega | decide)) [S_bx_mcan1_0, S_b8_mkey_1, S_b8_mkey_0, S_b1_mterm_0, S_b1_copy_0, S_b0_mod_7, S_b0_mod_6, S_b0_mod_5, S_b0_mod_3, S_b0_mod_2, S_b0_mod_1, S_b0_mod_0, S_bx_mcan1_1h, S_b0_mod_4h, s292_0, s292_1, s292_2, s292_3, s292_5, s292_6, s292_9, s292_12, s292_13, s292_14, s292_15, s292_16, s292_19, s292_21, s292_23, s292_25, s292_28, s292_29, s292_32, s292_33, s292_34, s292_37, s292_39, s292_40, s292_43, s292_44, s292_47, s292_48, s292_49, s292_50, s292_51, s292_54, s292_55, s292_58, s292_59, s292_60, s292_61, s292_62, s292_65, s292_66, s292_67, s292_68, s292_71, s292_72, s292_75, s292_76, s292_78, s292_80, s292_83, s292_85, s292_88, s292_90, s292_91, s292_94, s292_96, s292_97, s292_100, s292_101, s292_102, s292_103, s292_105, s292_107, s292_109, s292_112, s292_113, s292_114, s292_115, s292_118, s292_119, s292_120, s292_123, s292_124, s292_126, s292_127, s292_130, s292_132, s292_133, s292_136, s292_138, s292_139, s292_142, s292_143, s292_144, s292_147, s292_148, s292_149, s292_150, s292_152, s292_153, s292_154, s292_156, s292_159, s292_160, s292_161, s292_162, s292_163, s292_165, s292_166, s292_169, s292_172, s292_173, s292_174, s292_175, s292_178, s292_179, s292_180, s292_181, s292_183, s292_184, s292_185, s292_188, s292_189, s292_190, s292_191, s292_192, s292_193, s292_194, s292_196, s292_198, s292_199, s292_202, s292_204, s292_205, s292_208, s292_209, s292_210, s292_213, s292_214, s292_215, s292_216, s292_219, s292_220, s292_222, s292_223, s292_226, s292_227, s292_230, s292_231, s292_232, s292_233, s292_236, s292_237, s292_239, s292_240, s292_243, s292_246, s292_248, s292_249, s292_250, s292_253, s292_255, s292_256, s292_257, s292_258, s292_261, s292_262, s292_263, s292_264, s292_266, s292_269, s292_270, s292_273, s292_274, s292_276, s292_277, s292_279, s292_282, s292_283, s292_286, s292_287, s292_288, s292_289, s292_291, s292_294, s292_295, s292_298, s292_299, s292_300, s292_301, s292_304, s292_305, s292_306, s292_307, s292_308, s292_309, s292_310, s292_311, s292_312, s292_313, s292_316, s292_317, s292_318, s292_319, s292_320, s292_321, s292_322, s292_325, s292_326, s292_329, s292_330, s292_332, s292_333, s292_335, s292_338, s292_339, s292_342, s292_343, s292_344, s292_345, s292_348, mq_k0s, mq_k1s, mq_k2s, mq_k4s, mq_k5s, mq_k5n, mq_k5as, mq_k6s, mj_pu, mj_lo, mj_br, mj_hr, mj_hw, mq_gf, mq_len, mq_al, mq_pf, mq_ok, mj_re, mq_lkm, mq_lkn, mj_ldi, mj_ldl, mj_lda, mj_ii, mj_ll, mj_li, mj_i1, ms_1, ms_2, f1_n, f1_i, f1_r, f1_u, f1_l, f2_n, f2_i, f2_r, f2_u, f2_l, mj_tg, mj_c1, mj_c2, mj_ar, mj_aw, mq_cb, mq_oi, mj_rm, Value.category, -getElem?_pos, List.getElem?_cons_zero, decide_eq_true, decide_eq_false, nl_lt, nl_le, ln_lt, ln_le, nl_eq, ln_eq, nl_add, ln_add, nl_sub, ln_mul, nI_sub, nI_mul, nI_add, nI_lt_iff, nI_le_iff, nI_inj, nI_num, mq_ix, nI_1, nl_mul, nl_div, e2, el, ha, hb, hc, hn1 hn0, narrow_b1]
      refine mq_wk ?_ hr
      simp [S_bx_mcan1_0, S_b8_mkey_1, S_b8_mkey_0, S_b1_mterm_0, S_b1_copy_0, S_b0_mod_7, S_b0_mod_6, S_b0_mod_5, S_b0_mod_3, S_b0_mod_2, S_b0_mod_1, S_b0_mod_0, S_bx_mcan1_1h, S_b0_mod_4h, mq_sub, mj_lk]
theorem ca_D0 : mj_Rn (d + 3) mj_m292 289 [(8, .int 1), (3, .int (nI 0)), (2, .int (nI q)), (0, .ref 67)] [] (mm B x y) = some (some (.int (nI q)), mm B x y) := by
  simp (disch := (first | omega | decide)) [S_bx_mcan1_0, S_b8_mkey_1, S_b8_mkey_0, S_b1_mterm_0, S_b1_copy_0, S_b0_mod_7, S_b0_mod_6, S_b0_mod_5, S_b0_mod_3, S_b0_mod_2, S_b0_mod_1, S_b0_mod_0, S_bx_mcan1_1h, S_b0_mod_4h, s292_0, s292_1, s292_2, s292_3, s292_4, s292_5, s292_6, s292_9, s292_12, s292_13, s292_14, s292_15, s292_16, s292_19, s292_21, s292_23, s292_25, s292_28, s292_29, s292_32, s292_33, s292_34, s292_37, s292_39, s292_40, s292_43, s292_44, s292_47, s292_48, s292_49, s292_50, s292_51, s292_54, s292_55, s292_58, s292_59, s292_60, s292_61, s292_62, s292_65, s292_66, s292_67, s292_68, s292_71, s292_72, s292_75, s292_76, s292_78, s292_80, s292_83, s292_85, s292_88, s292_90, s292_91, s292_94, s292_96, s292_97, s292_100, s292_101, s292_102, s292_103, s292_105, s292_107, s292_109, s292_112, s292_113, s292_114, s292_115, s292_118, s292_119, s292_120, s292_123, s292_124, s292_126, s292_127, s292_130, s292_132, s292_133, s292_136, s292_138, s292_139, s292_142, s292_143, s292_144, s292_147, s292_148, s292_149, s292_150, s292_152, s292_153, s292_154, s292_156, s292_159, s292_160, s292_161, s292_162, s292_163, s292_165, s292_166, s292_169, s292_172, s292_173, s292_174, s292_175, s292_178, s292_179, s292_180, s292_181, s292_183, s292_184, s292_185, s292_188, s292_189, s292_190, s292_191, s292_192, s292_193, s292_194, s292_196, s292_198, s292_199, s292_202, s292_204, s292_205, s292_208, s292_209, s292_210, s292_213, s292_214, s292_215, s292_216, s292_219, s292_220, s292_222, s292_223, s292_226, s292_227, s292_230, s292_231, s292_232, s292_233, s292_236, s292_237, s292_239, s292_240, s292_243, s292_246, s292_248, s292_249, s292_250, s292_253, s292_255, s292_256, s292_257, s292_258, s292_261, s292_262, s292_263, s292_264, s292_266, s292_269, s292_270, s292_273, s292_274, s292_276, s292_277, s292_279, s292_282, s292_283, s292_286, s292_287, s292_288, s292_289, s292_291, s292_294, s292_295, s292_298, s292_299, s292_300, s292_301, s292_304, s292_305, s292_306, s292_307, s292_308, s292_309, s292_310, s292_311, s292_312, s292_313, s292_316, s292_317, s292_318, s292_319, s292_320, s292_321, s292_322, s292_325, s292_326, s292_329, s292_330, s292_332, s292_333, s292_335, s292_338, s292_339, s292_342, s292_343, s292_344, s292_345, s292_348, mq_k0s, mq_k1s, mq_k2s, mq_k4s, mq_k5s, mq_k5n, mq_k5as, mq_k6s, mj_pu, mj_lo, mj_br, mj_hr, mj_hw, mq_gf, mq_len, mq_al, mq_pf, mq_ok, mj_re, mq_lkm, mq_lkn, mj_ldi, mj_ldl, mj_lda, mj_ii, mj_ll, mj_li, mj_i1, ms_1, ms_2, f1_n, f1_i, f1_r, f1_u, f1_l, f2_n, f2_i, f2_r, f2_u, f2_l, mj_tg, mj_c1, mj_c2, mj_ar, mj_aw, mq_cb, mq_oi, mj_rm, Value.category, -getElem?_pos, List.getElem?_cons_zero, decide_eq_true, decide_eq_false, nl_lt, nl_le, ln_lt, ln_le, nl_eq, ln_eq, nl_add, ln_add, nl_sub, ln_mul, nI_sub, nI_mul, nI_add, nI_lt_iff, nI_le_iff, nI_inj, nI_num, mq_ix, nI_1, nl_mul, nl_div, nI_0, narrow]
theorem ca_D1 {w : Nat} (he : e < 4) (hb : b.length = 5) (hw : b[e]? = some (nL (w + 1))) (hw9 : w < 2 ^ 40) :
    (w = 0 → ∀ r, mj_Rn (d + 3) mj_m292 289 [(8, .int 1), (3, .int (nI e)), (2, .int (nI q)), (0, .ref 67)] [] (mm B x (y.st a (b.set e (nL w)) c z)) = some r → mj_Rn (d + 3) mj_m292 289 [(8, .int 1), (3, .int (nI (e + 1))), (2, .int (nI q)), (0, .ref 67)] [] (mm B x (y.st a b c z)) = some r) ∧
    (w ≠ 0 → ∀ r, mj_Rn (d + 3) mj_m292 4 [(3, .int (nI (e + 1))), (2, .int (nI q)), (0, .ref 67)] [] (mm B x (y.st a (b.set e (nL w)) c z)) = some r → mj_Rn (d + 3) mj_m292 289 [(8, .int 1), (3, .int (nI (e + 1))), (2, .int (nI q)), (0, .ref 67)] [] (mm B x (y.st a b c z)) = some r) := by
  have ew : nL (w + 1) - 1 = nL w := by
    unfold nL
    rw [show (1 : Int64) = Int64.ofNat 1 from rfl, Int64.ofNat_add, Int64.add_sub_cancel]
  constructor
  · rintro rfl r hr
    rw [s292_289]
    simp (disch := (first | omega | decide)) [S_bx_mcan1_0, S_b8_mkey_1, S_b8_mkey_0, S_b1_mterm_0, S_b1_copy_0, S_b0_mod_7, S_b0_mod_6, S_b0_mod_5, S_b0_mod_3, S_b0_mod_2, S_b0_mod_1, S_b0_mod_0, S_bx_mcan1_1h, S_b0_mod_4h, s292_0, s292_1, s292_2, s292_3, s292_5, s292_6, s292_9, s292_12, s292_13, s292_14, s292_15, s292_16, s292_19, s292_21, s292_23, s292_25, s292_28, s292_29, s292_32, s292_33, s292_34, s292_37, s292_39, s292_40, s292_43, s292_44, s292_47, s292_48, s292_49, s292_50, s292_51, s292_54, s292_55, s292_58, s292_59, s292_60, s292_61, s292_62, s292_65, s292_66, s292_67, s292_68, s292_71, s292_72, s292_75, s292_76, s292_78, s292_80, s292_83, s292_85, s292_88, s292_90, s292_91, s292_94, s292_96, s292_97, s292_100, s292_101, s292_102, s292_103, s292_105, s292_107, s292_109, s292_112, s292_113, s292_114, s292_115, s292_118, s292_119, s292_120, s292_123, s292_124, s292_126, s292_127, s292_130, s292_132, s292_133, s292_136, s292_138, s292_139, s292_142, s292_143, s292_144, s292_147, s292_148, s292_149, s292_150, s292_152, s292_153, s292_154, s292_156, s292_159, s292_160, s292_161, s292_162, s292_163, s292_165, s292_166, s292_169, s292_172, s292_173, s292_174, s292_175, s292_178, s292_179, s292_180, s292_181, s292_183, s292_184, s292_185, s292_188, s292_189, s292_190, s292_191, s292_192, s292_193, s292_194, s292_196, s292_198, s292_199, s292_202, s292_204, s292_205, s292_208, s292_209, s292_210, s292_213, s292_214, s292_215, s292_216, s292_219, s292_220, s292_222, s292_223, s292_226, s292_227, s292_230, s292_231, s292_232, s292_233, s292_236, s292_237, s292_239, s292_240, s292_243, s292_246, s292_248, s292_249, s292_250, s292_253, s292_255, s292_256, s292_257, s292_258, s292_261, s292_262, s292_263, s292_264, s292_266, s292_269, s292_270, s292_273, s292_274, s292_276, s292_277, s292_279, s292_282, s292_283, s292_286, s292_287, s292_288, s292_291, s292_294, s292_295, s292_298, s292_299, s292_300, s292_301, s292_304, s292_305, s292_306, s292_307, s292_308, s292_309, s292_310, s292_311, s292_312, s292_313, s292_316, s292_317, s292_318, s292_319, s292_320, s292_321, s292_322, s292_325, s292_326, s292_329, s292_330, s292_332, s292_333, s292_335, s292_338, s292_339, s292_342, s292_343, s292_344, s292_345, s292_348, mq_k0s, mq_k1s, mq_k2s, mq_k4s, mq_k5s, mq_k5n, mq_k5as, mq_k6s, mj_pu, mj_lo, mj_br, mj_hr, mj_hw, mq_gf, mq_len, mq_al, mq_pf, mq_ok, mj_re, mq_lkm, mq_lkn, mj_ldi, mj_ldl, mj_lda, mj_ii, mj_ll, mj_li, mj_i1, ms_1, ms_2, f1_n, f1_i, f1_r, f1_u, f1_l, f2_n, f2_i, f2_r, f2_u, f2_l, mj_tg, mj_c1, mj_c2, mj_ar, mj_aw, mq_cb, mq_oi, mj_rm, Value.category, -getElem?_pos, List.getElem?_cons_zero, decide_eq_true, decide_eq_false, nl_lt, nl_le, ln_lt, ln_le, nl_eq, ln_eq, nl_add, ln_add, nl_sub, ln_mul, nI_sub, nI_mul, nI_add, nI_lt_iff, nI_le_iff, nI_inj, nI_num, mq_ix, nI_1, nl_mul, nl_div, hw, hb, ew, show nL 0 = 0 from rfl, show lg_cmp 0 0 = 0 from rfl]
    rw [show nL 0 = 0 from rfl] at hr
    refine mq_wk ?_ hr
    simp [S_bx_mcan1_0, S_b8_mkey_1, S_b8_mkey_0, S_b1_mterm_0, S_b1_copy_0, S_b0_mod_7, S_b0_mod_6, S_b0_mod_5, S_b0_mod_3, S_b0_mod_2, S_b0_mod_1, S_b0_mod_0, S_bx_mcan1_1h, S_b0_mod_4h, mq_sub, mj_lk]
  · intro hw0 r hr
    have hz : ¬ nL w = 0 := fun t => hw0 ((nL_eq (by omega) (by omega)).mp t)
    rw [s292_289]
    simp (disch := (first | omega | decide)) [S_bx_mcan1_0, S_b8_mkey_1, S_b8_mkey_0, S_b1_mterm_0, S_b1_copy_0, S_b0_mod_7, S_b0_mod_6, S_b0_mod_5, S_b0_mod_3, S_b0_mod_2, S_b0_mod_1, S_b0_mod_0, S_bx_mcan1_1h, S_b0_mod_4h, s292_0, s292_1, s292_2, s292_3, s292_5, s292_6, s292_9, s292_12, s292_13, s292_14, s292_15, s292_16, s292_19, s292_21, s292_23, s292_25, s292_28, s292_29, s292_32, s292_33, s292_34, s292_37, s292_39, s292_40, s292_43, s292_44, s292_47, s292_48, s292_49, s292_50, s292_51, s292_54, s292_55, s292_58, s292_59, s292_60, s292_61, s292_62, s292_65, s292_66, s292_67, s292_68, s292_71, s292_72, s292_75, s292_76, s292_78, s292_80, s292_83, s292_85, s292_88, s292_90, s292_91, s292_94, s292_96, s292_97, s292_100, s292_101, s292_102, s292_103, s292_105, s292_107, s292_109, s292_112, s292_113, s292_114, s292_115, s292_118, s292_119, s292_120, s292_123, s292_124, s292_126, s292_127, s292_130, s292_132, s292_133, s292_136, s292_138, s292_139, s292_142, s292_143, s292_144, s292_147, s292_148, s292_149, s292_150, s292_152, s292_153, s292_154, s292_156, s292_159, s292_160, s292_161, s292_162, s292_163, s292_165, s292_166, s292_169, s292_172, s292_173, s292_174, s292_175, s292_178, s292_179, s292_180, s292_181, s292_183, s292_184, s292_185, s292_188, s292_189, s292_190, s292_191, s292_192, s292_193, s292_194, s292_196, s292_198, s292_199, s292_202, s292_204, s292_205, s292_208, s292_209, s292_210, s292_213, s292_214, s292_215, s292_216, s292_219, s292_220, s292_222, s292_223, s292_226, s292_227, s292_230, s292_231, s292_232, s292_233, s292_236, s292_237, s292_239, s292_240, s292_243, s292_246, s292_248, s292_249, s292_250, s292_253, s292_255, s292_256, s292_257, s292_258, s292_261, s292_262, s292_263, s292_264, s292_266, s292_269, s292_270, s292_273, s292_274, s292_276, s292_277, s292_279, s292_282, s292_283, s292_286, s292_287, s292_288, s292_291, s292_294, s292_295, s292_298, s292_299, s292_300, s292_301, s292_304, s292_305, s292_306, s292_307, s292_308, s292_309, s292_310, s292_311, s292_312, s292_313, s292_316, s292_317, s292_318, s292_319, s292_320, s292_321, s292_322, s292_325, s292_326, s292_329, s292_330, s292_332, s292_333, s292_335, s292_338, s292_339, s292_342, s292_343, s292_344, s292_345, s292_348, mq_k0s, mq_k1s, mq_k2s, mq_k4s, mq_k5s, mq_k5n, mq_k5as, mq_k6s, mj_pu, mj_lo, mj_br, mj_hr, mj_hw, mq_gf, mq_len, mq_al, mq_pf, mq_ok, mj_re, mq_lkm, mq_lkn, mj_ldi, mj_ldl, mj_lda, mj_ii, mj_ll, mj_li, mj_i1, ms_1, ms_2, f1_n, f1_i, f1_r, f1_u, f1_l, f2_n, f2_i, f2_r, f2_u, f2_l, mj_tg, mj_c1, mj_c2, mj_ar, mj_aw, mq_cb, mq_oi, mj_rm, Value.category, -getElem?_pos, List.getElem?_cons_zero, decide_eq_true, decide_eq_false, nl_lt, nl_le, ln_lt, ln_le, nl_eq, ln_eq, nl_add, ln_add, nl_sub, ln_mul, nI_sub, nI_mul, nI_add, nI_lt_iff, nI_le_iff, nI_inj, nI_num, mq_ix, nI_1, nl_mul, nl_div, hw, hb, ew, lg_ne hz]
    rw [s292_289]
    simp (disch := (first | omega | decide)) [S_bx_mcan1_0, S_b8_mkey_1, S_b8_mkey_0, S_b1_mterm_0, S_b1_copy_0, S_b0_mod_7, S_b0_mod_6, S_b0_mod_5, S_b0_mod_3, S_b0_mod_2, S_b0_mod_1, S_b0_mod_0, S_bx_mcan1_1h, S_b0_mod_4h, s292_0, s292_1, s292_2, s292_3, s292_5, s292_6, s292_9, s292_12, s292_13, s292_14, s292_15, s292_16, s292_19, s292_21, s292_23, s292_25, s292_28, s292_29, s292_32, s292_33, s292_34, s292_37, s292_39, s292_40, s292_43, s292_44, s292_47, s292_48, s292_49, s292_50, s292_51, s292_54, s292_55, s292_58, s292_59, s292_60, s292_61, s292_62, s292_65, s292_66, s292_67, s292_68, s292_71, s292_72, s292_75, s292_76, s292_78, s292_80, s292_83, s292_85, s292_88, s292_90, s292_91, s292_94, s292_96, s292_97, s292_100, s292_101, s292_102, s292_103, s292_105, s292_107, s292_109, s292_112, s292_113, s292_114, s292_115, s292_118, s292_119, s292_120, s292_123, s292_124, s292_126, s292_127, s292_130, s292_132, s292_133, s292_136, s292_138, s292_139, s292_142, s292_143, s292_144, s292_147, s292_148, s292_149, s292_150, s292_152, s292_153, s292_154, s292_156, s292_159, s292_160, s292_161, s292_162, s292_163, s292_165, s292_166, s292_169, s292_172, s292_173, s292_174, s292_175, s292_178, s292_179, s292_180, s292_181, s292_183, s292_184, s292_185, s292_188, s292_189, s292_190, s292_191, s292_192, s292_193, s292_194, s292_196, s292_198, s292_199, s292_202, s292_204, s292_205, s292_208, s292_209, s292_210, s292_213, s292_214, s292_215, s292_216, s292_219, s292_220, s292_222, s292_223, s292_226, s292_227, s292_230, s292_231, s292_232, s292_233, s292_236, s292_237, s292_239, s292_240, s292_243, s292_246, s292_248, s292_249, s292_250, s292_253, s292_255, s292_256, s292_257, s292_258, s292_261, s292_262, s292_263, s292_264, s292_266, s292_269, s292_270, s292_273, s292_274, s292_276, s292_277, s292_279, s292_282, s292_283, s292_286, s292_287, s292_288, s292_291, s292_294, s292_295, s292_298, s292_299, s292_300, s292_301, s292_304, s292_305, s292_306, s292_307, s292_308, s292_309, s292_310, s292_311, s292_312, s292_313, s292_316, s292_317, s292_318, s292_319, s292_320, s292_321, s292_322, s292_325, s292_326, s292_329, s292_330, s292_332, s292_333, s292_335, s292_338, s292_339, s292_342, s292_343, s292_344, s292_345, s292_348, mq_k0s, mq_k1s, mq_k2s, mq_k4s, mq_k5s, mq_k5n, mq_k5as, mq_k6s, mj_pu, mj_lo, mj_br, mj_hr, mj_hw, mq_gf, mq_len, mq_al, mq_pf, mq_ok, mj_re, mq_lkm, mq_lkn, mj_ldi, mj_ldl, mj_lda, mj_ii, mj_ll, mj_li, mj_i1, ms_1, ms_2, f1_n, f1_i, f1_r, f1_u, f1_l, f2_n, f2_i, f2_r, f2_u, f2_l, mj_tg, mj_c1, mj_c2, mj_ar, mj_aw, mq_cb, mq_oi, mj_rm, Value.category, -getElem?_pos, List.getElem?_cons_zero, decide_eq_true, decide_eq_false, nl_lt, nl_le, ln_lt, ln_le, nl_eq, ln_eq, nl_add, ln_add, nl_sub, ln_mul, nI_sub, nI_mul, nI_add, nI_lt_iff, nI_le_iff, nI_inj, nI_num, mq_ix, nI_1, nl_mul, nl_div]
    refine mq_wk ?_ hr
    simp [S_bx_mcan1_0, S_b8_mkey_1, S_b8_mkey_0, S_b1_mterm_0, S_b1_copy_0, S_b0_mod_7, S_b0_mod_6, S_b0_mod_5, S_b0_mod_3, S_b0_mod_2, S_b0_mod_1, S_b0_mod_0, S_bx_mcan1_1h, S_b0_mod_4h, mq_sub, mj_lk]
end
end
/- bz.mcan3 -/
section
set_option maxRecDepth 512
/-! The model: the walk over an item is the class's. -/
abbrev Sk : Type := (List Int32) × (List Int64) × (List Int32) × (List Int32)
def Sk.ok (S : Sk) : Prop := S.1.length = 5 ∧ S.2.1.length = 5 ∧ S.2.2.1.length = 5 ∧ S.2.2.2.length = 5
def ag (e : Nat) (S S' : Sk) : Prop := ∀ i, i < e → S'.1[i]? = S.1[i]? ∧ S'.2.1[i]? = S.2.1[i]? ∧ S'.2.2.1[i]? = S.2.2.1[i]? ∧ S'.2.2.2[i]? = S.2.2.2[i]?
theorem ag.rf {e : Nat} {S : Sk} : ag e S S := fun _ _ => ⟨rfl, rfl, rfl, rfl⟩
theorem ag.tr {e : Nat} {S S' S'' : Sk} (h : ag e S S') (h' : ag e S' S'') : ag e S S'' := fun i hi => by
  obtain ⟨a, b, c, z⟩ := h i hi
  obtain ⟨a', b', c', z'⟩ := h' i hi
  exact ⟨a'.trans a, b'.trans b, c'.trans c, z'.trans z⟩
theorem ag.le {e f : Nat} {S S' : Sk} (h : ag e S S') (hf : f ≤ e) : ag f S S' := fun i hi => h i (by omega)
theorem cbI_nk {ms : List Int32} {r p : Nat} (h : ¬ cbOk ms p) : cbI ms r p = none := by
  cases r <;> (unfold cbI; rw [if_pos h])
theorem cbI_leaf {ms : List Int32} {r p : Nat} (h : cbOk ms p) (h4 : ¬ (cbS ms p = 4 ∨ cbS ms p = 5)) : cbI ms r p = some (qe ms p) := by
  unfold qe
  by_cases h23 : cbS ms p = 2 ∨ cbS ms p = 3
  · cases r <;> (unfold cbI; rw [if_neg (fun z => z h), if_pos h23, if_pos h23])
  · cases r <;> (unfold cbI; rw [if_neg (fun z => z h), if_neg h23, if_neg h4, if_neg h23])
theorem cbI_ar {ms : List Int32} {r p : Nat} (h : cbOk ms p) (h4 : cbS ms p = 4 ∨ cbS ms p = 5) : cbI ms (r + 1) p = cbQ (cbI ms r) ms (decide (cbS ms p = 5)) (cbV ms p) none (cbC ms p) := by
  unfold cbI
  rw [if_neg (fun z => z h), if_neg (by omega), if_pos h4]
theorem cbI_ar0 {ms : List Int32} {p : Nat} (h : cbOk ms p) (h4 : cbS ms p = 4 ∨ cbS ms p = 5) : cbI ms 0 p = none := by
  unfold cbI
  rw [if_neg (fun z => z h), if_neg (by omega), if_pos h4]
theorem cbKy_eq {ms : List Int32} {k : Option (Nat × Nat)} {p q : Nat} : cbKy ms k p q = ((decide (cbS ms p = 0) || decide (cbS ms p = 1) || decide (cbS ms p = 3)) && krs ms k p q) := by
  cases k <;> rfl
noncomputable abbrev R4 (d : Nat) (B : Bs) (x : Fx) (y : Sy) (e p : Nat) (S : Sk) := mj_Rn (d + 3) mj_m292 4 [(3, .int (nI e)), (2, .int (nI p)), (0, .ref 67)] [] (mm B x (y.st S.1 S.2.1 S.2.2.1 S.2.2.2))
noncomputable abbrev R9 (d : Nat) (B : Bs) (x : Fx) (y : Sy) (e p : Nat) (S : Sk) := mj_Rn (d + 3) mj_m292 289 [(8, .int 1), (3, .int (nI e)), (2, .int (nI p)), (0, .ref 67)] [] (mm B x (y.st S.1 S.2.1 S.2.2.1 S.2.2.2))
section
variable {d : Nat} {B : Bs} {x : Fx} {y : Sy} {ms : List Int32}
theorem ca_key (h : xm x ms) {f p w r : Nat} {k : Option (Nat × Nat)} {S : Sk} (hS : S.ok) (hf : f < 4) (ha : S.1[f]? = some 1) (hb : S.2.1[f]? = some (nL w)) (hw : w < 2 ^ 40) (hw2 : w % 2 = 0) (hk : kp ms S.2.2.1 S.2.2.2 f k) (hp : p ≤ ms.length) :
    (∀ q, cbI ms r p = some q → cbKy ms k p q = true → ∀ res, R9 d B x y (f + 1) q ((S.1, (S.2.1, (S.2.2.1.set f (nI p), S.2.2.2.set f (nI q)))) : Sk) = some res → R4 d B x y (f + 1) p S = some res) ∧
    ((∀ q, cbI ms r p = some q → cbKy ms k p q = false) → R4 d B x y (f + 1) p S = some (some (.int (-1)), mm B x (y.st S.1 S.2.1 S.2.2.1 S.2.2.2))) := by
  obtain ⟨l1, l2, l3, l4⟩ := hS
  have hle := h.1.le
  have A1 := ca_A1 (d := d) (B := B) (x := x) (y := y.st S.1 S.2.1 S.2.2.1 S.2.2.2) (e := f + 1) (p := p) h (by omega)
  have hq : kq S.1 S.2.1 (f + 1) true := Or.inr (Or.inr ⟨f, w, rfl, ha, hb, hw, (decide_eq_true hw2).symm⟩)
  by_cases hd : hdOk ms p
  · have A1 := A1.1 hd
    have s1 : cbS ms p < 8 := by have := (h.at hd.1).2; unfold cbS; omega
    have A2 := ca_A2 (d := d) (B := B) (x := x) (y := y) (e := f + 1) (p := p) (a := S.1) (b := S.2.1) (c := S.2.2.1) (z := S.2.2.2) (s := cbS ms p) (n := nI (nv ms p)) (kf := true) s1 (by omega) l1 l2 hq
    by_cases hs : cbS ms p = 0 ∨ cbS ms p = 1 ∨ cbS ms p = 3
    · have A2 := A2.1 (fun _ => hs)
      have B1 := ca_B1 (d := d) (B := B) (x := x) (y := y.st S.1 S.2.1 S.2.2.1 S.2.2.2) (e := f + 1) (p := p) h hd (v6 := on1 true) (by omega)
      by_cases ok : cbOk ms p
      · have B1 := B1.1 ok
        have hI : cbI ms r p = some (qe ms p) := cbI_leaf ok (by omega)
        have hlt := cbI_lt _ _ _ hI
        have B3 := ca_B3 (d := d) (B := B) (x := x) (y := y) (a := S.1) (b := S.2.1) (c := S.2.2.1) (z := S.2.2.2) (f := f) (p := p) (q := qe ms p) (s := nI (cbS ms p)) (n := nI (nv ms p)) h hk hf l3 l4 hlt.1 hlt.2
        have hky : cbKy ms k p (qe ms p) = krs ms k p (qe ms p) := by
          rw [cbKy_eq]
          rcases hs with g | g | g <;> simp [S_bx_mcan1_0, S_b8_mkey_1, S_b8_mkey_0, S_b1_mterm_0, S_b1_copy_0, S_b0_mod_7, S_b0_mod_6, S_b0_mod_5, S_b0_mod_3, S_b0_mod_2, S_b0_mod_1, S_b0_mod_0, S_bx_mcan1_1h, S_b0_mod_4h, g]
        refine ⟨fun q hI2 hkk res hr => ?_, fun hno => ?_⟩
        · rw [hI] at hI2
          obtain rfl := Option.some.inj hI2
          have C1 := ca_C1 (d := d) (B := B) (x := x) (y := y.st S.1 S.2.1 (S.2.2.1.set f (nI p)) (S.2.2.2.set f (nI (qe ms p)))) (e := f + 1) (q := qe ms p) (s := cbS ms p) (n := nI (nv ms p)) s1 (by omega)
          exact A1 _ (A2 _ (B1 _ (B3.1 (hky ▸ hkk) _ (C1 _ hr))))
        · have := hno _ hI
          exact A1 _ (A2 _ (B1 _ (B3.2 (hky ▸ this))))
      · have B1 := B1.2 ok
        refine ⟨fun q hI2 => ?_, fun _ => A1 _ (A2 _ B1)⟩
        rw [cbI_nk ok] at hI2
        cases hI2
    · have A2 := A2.2 (fun z => hs (z rfl))
      refine ⟨fun q hI hkk => ?_, fun _ => A1 _ A2⟩
      rw [cbKy_eq] at hkk
      have g : (decide (cbS ms p = 0) || decide (cbS ms p = 1) || decide (cbS ms p = 3)) = false := by
        simp only [Bool.or_eq_false_iff, decide_eq_false_iff_not]; omega
      rw [g] at hkk
      cases hkk
  · have A1 := A1.2 hd
    refine ⟨fun q hI2 => ?_, fun _ => A1⟩
    rw [cbI_nk (fun z => hd (cbOk_hd.mp z).1)] at hI2
    cases hI2
/-- an item that isn't a key -/
def caI (d : Nat) (B : Bs) (x : Fx) (y : Sy) (ms : List Int32) (r : Nat) : Prop := ∀ (e p : Nat) (S : Sk), e + r = 4 → S.ok → kq S.1 S.2.1 e false → p ≤ ms.length →
    (∀ q, cbI ms r p = some q → ∃ S' : Sk, S'.ok ∧ ag e S S' ∧ ∀ res, R9 d B x y e q S' = some res → R4 d B x y e p S = some res) ∧
    (cbI ms r p = none → ∃ S' : Sk, S'.ok ∧ R4 d B x y e p S = some (some (.int (-1)), mm B x (y.st S'.1 S'.2.1 S'.2.2.1 S'.2.2.2)))
def wW (im : Bool) (n : Nat) : Nat := if im then 2 * n else n
def caS (d : Nat) (B : Bs) (x : Fx) (y : Sy) (ms : List Int32) (r e : Nat) (im : Bool) (n W : Nat) (F : Nat → Sk → Option (Option Value × mj_H)) : Prop := ∀ (p : Nat) (k : Option (Nat × Nat)) (S : Sk), S.ok → S.1[e]? = some (on1 im) → S.2.1[e]? = some (nL W) → (im = true → kp ms S.2.2.1 S.2.2.2 e k) → p ≤ ms.length →
    (∀ q, cbQ (cbI ms r) ms im n k p = some q → ∃ S' : Sk, S'.ok ∧ ag e S S' ∧ ∀ res, R9 d B x y e q S' = some res → F p S = some res) ∧
    (cbQ (cbI ms r) ms im n k p = none → ∃ S' : Sk, S'.ok ∧ F p S = some (some (.int (-1)), mm B x (y.st S'.1 S'.2.1 S'.2.2.1 S'.2.2.2)))
theorem Sk.wb {S : Sk} {e W : Nat} {v : Int64} (hS : S.ok) (he : e < 4) : (Sk.ok ((S.1, ((S.2.1.set e v), (S.2.2.1, S.2.2.2))) : Sk)) ∧ ag e S (((S.1, ((S.2.1.set e v), (S.2.2.1, S.2.2.2))) : Sk)) ∧ (S.2.1.set e v)[e]? = some v := by
  obtain ⟨l1, l2, l3, l4⟩ := hS
  refine ⟨⟨l1, by simpa [S_bx_mcan1_0, S_b8_mkey_1, S_b8_mkey_0, S_b1_mterm_0, S_b1_copy_0, S_b0_mod_7, S_b0_mod_6, S_b0_mod_5, S_b0_mod_3, S_b0_mod_2, S_b0_mod_1, S_b0_mod_0, S_bx_mcan1_1h, S_b0_mod_4h] using l2, l3, l4⟩, fun i hi => ⟨rfl, ?_, rfl, rfl⟩, List.getElem?_set_self (by omega)⟩
  show (S.2.1.set e v)[i]? = _
  rw [List.getElem?_set_ne (by omega)]
theorem ca_Q0 {r e : Nat} {im : Bool} (he : e < 4) : caS d B x y ms r e im 0 1 (R9 d B x y (e + 1)) := by
  intro p k S hS ha hb hk hp
  have D := ca_D1 (d := d) (B := B) (x := x) (y := y) (a := S.1) (b := S.2.1) (c := S.2.2.1) (z := S.2.2.2) (e := e) (q := p) (w := 0) he hS.2.1 hb (by omega)
  obtain ⟨w1, w2, -⟩ := Sk.wb (W := 0) (v := nL 0) hS he
  refine ⟨fun q hq => ?_, fun hq => by cases hq⟩
  cases hq
  exact ⟨_, w1, w2, D.1 rfl⟩
theorem ca_QH {r e n : Nat} {im : Bool} (he : e < 4) (hn : n < 2 ^ 32) (H : caS d B x y ms r e im (n + 1) (wW im (n + 1)) (R4 d B x y (e + 1))) : caS d B x y ms r e im (n + 1) (wW im (n + 1) + 1) (R9 d B x y (e + 1)) := by
  intro p k S hS ha hb hk hp
  have hW : wW im (n + 1) < 2 ^ 40 ∧ wW im (n + 1) ≠ 0 := by unfold wW; split <;> omega
  have D := ca_D1 (d := d) (B := B) (x := x) (y := y) (a := S.1) (b := S.2.1) (c := S.2.2.1) (z := S.2.2.2) (e := e) (q := p) he hS.2.1 hb hW.1
  obtain ⟨w1, w2, w3⟩ := Sk.wb (W := 0) (v := nL (wW im (n + 1))) hS he
  obtain ⟨H1, H2⟩ := H p k ((S.1, (S.2.1.set e (nL (wW im (n + 1))), (S.2.2.1, S.2.2.2))) : Sk) w1 ha w3 hk hp
  refine ⟨fun q hq => ?_, fun hq => ?_⟩
  · obtain ⟨S', a1, a2, a3⟩ := H1 q hq
    exact ⟨S', a1, w2.tr a2, fun res hr => D.2 hW.2 _ (a3 res hr)⟩
  · obtain ⟨S', a1, a2⟩ := H2 hq
    exact ⟨S', a1, D.2 hW.2 _ a2⟩
theorem ca_HQ (h : xm x ms) {r e n : Nat} {im : Bool} (he : e + 1 + r = 4) (hn : n < 2 ^ 32) (IH : caI d B x y ms r) (Q : caS d B x y ms r e im n (wW im n + 1) (R9 d B x y (e + 1))) : caS d B x y ms r e im (n + 1) (wW im (n + 1)) (R4 d B x y (e + 1)) := by
  intro p k S hS ha hb hk hp
  cases im with
  | false =>
    have hW : wW false (n + 1) = wW false n + 1 := rfl
    have hb0 := hb
    rw [hW] at hb
    obtain ⟨I1, I2⟩ := IH (e + 1) p S he hS (Or.inr (Or.inl ⟨e, rfl, ha, rfl⟩)) hp
    unfold cbQ
    simp only [Bool.false_eq_true, if_false]
    cases hI : cbI ms r p with
    | none =>
      refine ⟨fun q hq => (by cases hq), fun _ => I2 hI⟩
    | some q1 =>
      obtain ⟨S1, a1, a2, a3⟩ := I1 q1 hI
      obtain ⟨g1, g2, g3, g4⟩ := a2 e (by omega)
      obtain ⟨Q1, Q2⟩ := Q q1 none S1 a1 (g1.trans ha) (g2.trans hb) (fun z => by cases z) (cbI_lt _ _ _ hI).2
      refine ⟨fun q hq => ?_, fun hq => ?_⟩
      · obtain ⟨S', b1, b2, b3⟩ := Q1 q hq
        exact ⟨S', b1, (a2.le (by omega)).tr b2, fun res hr => a3 _ (b3 res hr)⟩
      · obtain ⟨S', b1, b2⟩ := Q2 hq
        exact ⟨S', b1, a3 _ b2⟩
  | true =>
    have hW : wW true (n + 1) = (2 * n + 1) + 1 := by unfold wW; simp [S_bx_mcan1_0, S_b8_mkey_1, S_b8_mkey_0, S_b1_mterm_0, S_b1_copy_0, S_b0_mod_7, S_b0_mod_6, S_b0_mod_5, S_b0_mod_3, S_b0_mod_2, S_b0_mod_1, S_b0_mod_0, S_bx_mcan1_1h, S_b0_mod_4h]; omega
    have hW2 : wW true n + 1 = 2 * n + 1 := by unfold wW; simp [S_bx_mcan1_0, S_b8_mkey_1, S_b8_mkey_0, S_b1_mterm_0, S_b1_copy_0, S_b0_mod_7, S_b0_mod_6, S_b0_mod_5, S_b0_mod_3, S_b0_mod_2, S_b0_mod_1, S_b0_mod_0, S_bx_mcan1_1h, S_b0_mod_4h]
    rw [hW] at hb
    rw [hW2] at Q
    obtain ⟨K1, K2⟩ := ca_key (d := d) (B := B) (x := x) (y := y) h (r := r) hS (f := e) (by omega) ha hb (by omega) (by omega) (hk rfl) hp
    unfold cbQ
    simp only [if_true]
    cases hI : cbI ms r p with
    | none =>
      refine ⟨fun q hq => (by cases hq), fun _ => ⟨S, hS, K2 (fun q hq => ?_)⟩⟩
      rw [hI] at hq
      cases hq
    | some q1 =>
      simp only []
      cases hky : cbKy ms k p q1 with
      | false =>
        simp only [Bool.false_eq_true, if_false]
        refine ⟨fun q hq => (by cases hq), fun _ => ⟨S, hS, K2 (fun q hq => ?_)⟩⟩
        rw [hI] at hq
        cases hq
        exact hky
      | true =>
        simp only [if_true]
        have K1 := K1 q1 hI hky
        have hlt := cbI_lt _ _ _ hI
        obtain ⟨l1, l2, l3, l4⟩ := hS
        have D := ca_D1 (d := d) (B := B) (x := x) (y := y) (a := S.1) (b := S.2.1) (c := S.2.2.1.set e (nI p)) (z := S.2.2.2.set e (nI q1)) (e := e) (q := q1) (w := 2 * n + 1) (by omega) l2 hb (by omega)
        have D := D.2 (by omega)
        have ok1 : (Sk.ok ((S.1, ((S.2.1.set e (nL (2 * n + 1))), ((S.2.2.1.set e (nI p)), (S.2.2.2.set e (nI q1))))) : Sk)) := ⟨l1, by simpa [S_bx_mcan1_0, S_b8_mkey_1, S_b8_mkey_0, S_b1_mterm_0, S_b1_copy_0, S_b0_mod_7, S_b0_mod_6, S_b0_mod_5, S_b0_mod_3, S_b0_mod_2, S_b0_mod_1, S_b0_mod_0, S_bx_mcan1_1h, S_b0_mod_4h] using l2, by simpa [S_bx_mcan1_0, S_b8_mkey_1, S_b8_mkey_0, S_b1_mterm_0, S_b1_copy_0, S_b0_mod_7, S_b0_mod_6, S_b0_mod_5, S_b0_mod_3, S_b0_mod_2, S_b0_mod_1, S_b0_mod_0, S_bx_mcan1_1h, S_b0_mod_4h] using l3, by simpa [S_bx_mcan1_0, S_b8_mkey_1, S_b8_mkey_0, S_b1_mterm_0, S_b1_copy_0, S_b0_mod_7, S_b0_mod_6, S_b0_mod_5, S_b0_mod_3, S_b0_mod_2, S_b0_mod_1, S_b0_mod_0, S_bx_mcan1_1h, S_b0_mod_4h] using l4⟩
        have ag1 : ag e S (((S.1, ((S.2.1.set e (nL (2 * n + 1))), ((S.2.2.1.set e (nI p)), (S.2.2.2.set e (nI q1))))) : Sk)) := fun i hi =>
          ⟨rfl, List.getElem?_set_ne (by omega), List.getElem?_set_ne (by omega), List.getElem?_set_ne (by omega)⟩
        have gb : (S.2.1.set e (nL (2 * n + 1)))[e]? = some (nL (2 * n + 1)) := List.getElem?_set_self (by omega)
        have gc : (S.2.2.1.set e (nI p))[e]? = some (nI p) := List.getElem?_set_self (by omega)
        have gz : (S.2.2.2.set e (nI q1))[e]? = some (nI q1) := List.getElem?_set_self (by omega)
        obtain ⟨I1, I2⟩ := IH (e + 1) q1 ((S.1, (S.2.1.set e (nL (2 * n + 1)), (S.2.2.1.set e (nI p), S.2.2.2.set e (nI q1)))) : Sk) he ok1 (Or.inr (Or.inr ⟨e, 2 * n + 1, rfl, ha, gb, by omega, (decide_eq_false (by omega)).symm⟩)) hlt.2
        cases hJ : cbI ms r q1 with
        | none =>
          refine ⟨fun q hq => (by cases hq), fun _ => ?_⟩
          obtain ⟨S', b1, b2⟩ := I2 hJ
          exact ⟨S', b1, K1 _ (D _ b2)⟩
        | some q2 =>
          obtain ⟨S1, a1, a2, a3⟩ := I1 q2 hJ
          obtain ⟨g1, g2, g3, g4⟩ := a2 e (by omega)
          obtain ⟨Q1, Q2⟩ := Q q2 (some (p, q1)) S1 a1 (g1.trans ha) (g2.trans gb) (fun _ => ⟨g3.trans gc, g4.trans gz, hlt.1, hlt.2⟩) (cbI_lt _ _ _ hJ).2
          refine ⟨fun q hq => ?_, fun hq => ?_⟩
          · obtain ⟨S', b1, b2, b3⟩ := Q1 q hq
            exact ⟨S', b1, (ag1.tr (a2.le (by omega))).tr b2, fun res hr => K1 _ (D _ (a3 _ (b3 res hr)))⟩
          · obtain ⟨S', b1, b2⟩ := Q2 hq
            exact ⟨S', b1, K1 _ (D _ (a3 _ b2))⟩
theorem ca_Q (h : xm x ms) {r e : Nat} {im : Bool} (he : e + 1 + r = 4) (IH : caI d B x y ms r) : ∀ n, n < 2 ^ 32 → caS d B x y ms r e im n (wW im n + 1) (R9 d B x y (e + 1)) := by
  intro n
  induction n with
  | zero =>
    intro _
    have : wW im 0 = 0 := by unfold wW; split <;> rfl
    rw [this]
    exact ca_Q0 (by omega)
  | succ n ih => exact fun hn => ca_QH (by omega) (by omega) (ca_HQ h he (by omega) IH (ih (by omega)))
/-- from the head on, where the item isn't a key -/
theorem ca_head (h : xm x ms) {e p : Nat} {S : Sk} (hS : S.ok) (he : e ≤ 4) (hq : kq S.1 S.2.1 e false) (hp : p ≤ ms.length) :
    (¬ cbOk ms p → R4 d B x y e p S = some (some (.int (-1)), mm B x (y.st S.1 S.2.1 S.2.2.1 S.2.2.2))) ∧
    (cbOk ms p → ∀ r, mj_Rn (d + 3) mj_m292 193 [(5, .int (nI (nv ms p))), (4, .int (nI (cbS ms p))), (3, .int (nI e)), (2, .int (nI (qe ms p))), (0, .ref 67)] [] (mm B x (y.st S.1 S.2.1 S.2.2.1 S.2.2.2)) = some r → R4 d B x y e p S = some r) := by
  obtain ⟨l1, l2, l3, l4⟩ := hS
  have hle := h.1.le
  have A1 := ca_A1 (d := d) (B := B) (x := x) (y := y.st S.1 S.2.1 S.2.2.1 S.2.2.2) (e := e) (p := p) h (by omega)
  by_cases hd : hdOk ms p
  · have A1 := A1.1 hd
    have s1 : cbS ms p < 8 := by have := (h.at hd.1).2; unfold cbS; omega
    have A2 := (ca_A2 (d := d) (B := B) (x := x) (y := y) (e := e) (p := p) (a := S.1) (b := S.2.1) (c := S.2.2.1) (z := S.2.2.2) (s := cbS ms p) (n := nI (nv ms p)) (kf := false) s1 he l1 l2 hq).1 (fun z => by cases z)
    have B1 := ca_B1 (d := d) (B := B) (x := x) (y := y.st S.1 S.2.1 S.2.2.1 S.2.2.2) (e := e) (p := p) h hd (v6 := on1 false) he
    refine ⟨fun ok => A1 _ (A2 _ (B1.2 ok)), fun ok r hr => A1 _ (A2 _ (B1.1 ok _ (ca_B2 _ hr)))⟩
  · exact ⟨fun _ => A1.2 hd, fun ok => absurd (cbOk_hd.mp ok).1 hd⟩
theorem ca_I (h : xm x ms) : ∀ r, caI d B x y ms r := by
  intro r
  induction r with
  | zero =>
    intro e p S he hS hq hp
    obtain ⟨h1, h2⟩ := ca_head (d := d) (B := B) (x := x) (y := y) h hS (by omega) hq hp
    by_cases ok : cbOk ms p
    · have h2 := h2 ok
      have s1 : cbS ms p < 8 := by have := (h.at ok.1).2; unfold cbS; omega
      by_cases h4 : cbS ms p = 4 ∨ cbS ms p = 5
      · rw [cbI_ar0 ok h4]
        obtain rfl : e = 4 := by omega
        exact ⟨fun q z => (by cases z), fun _ => ⟨S, hS, h2 _ (ca_C2 h4)⟩⟩
      · rw [cbI_leaf ok h4]
        refine ⟨fun q z => ?_, fun z => by cases z⟩
        cases z
        exact ⟨S, hS, ag.rf, fun res hr => h2 _ (ca_C1 s1 h4 _ hr)⟩
    · rw [cbI_nk ok]
      exact ⟨fun q z => (by cases z), fun _ => ⟨S, hS, h1 ok⟩⟩
  | succ r ih =>
    intro e p S he hS hq hp
    obtain ⟨h1, h2⟩ := ca_head (d := d) (B := B) (x := x) (y := y) h hS (by omega) hq hp
    by_cases ok : cbOk ms p
    · have h2 := h2 ok
      have s1 : cbS ms p < 8 := by have := (h.at ok.1).2; unfold cbS; omega
      by_cases h4 : cbS ms p = 4 ∨ cbS ms p = 5
      · rw [cbI_ar ok h4]
        obtain ⟨l1, l2, l3, l4⟩ := hS
        have hV : cbV ms p < 2 ^ 31 := ok.2.2.2.2.2.1
        have hqe : qe ms p = cbC ms p := by unfold qe; rw [if_neg (by omega)]
        have hnv : nv ms p = cbV ms p := by unfold nv; rw [if_neg (by omega)]
        rw [hqe, hnv] at h2
        obtain ⟨C1, C2⟩ := ca_C3 (d := d) (B := B) (x := x) (y := y) (a := S.1) (b := S.2.1) (c := S.2.2.1) (z := S.2.2.2) (e := e) (q := cbC ms p) h4 (by omega) l1 l2 l3 hV
        have hif : (if cbS ms p = 5 then 2 * cbV ms p else cbV ms p) = wW (decide (cbS ms p = 5)) (cbV ms p) := by
          unfold wW
          by_cases g : cbS ms p = 5 <;> simp [S_bx_mcan1_0, S_b8_mkey_1, S_b8_mkey_0, S_b1_mterm_0, S_b1_copy_0, S_b0_mod_7, S_b0_mod_6, S_b0_mod_5, S_b0_mod_3, S_b0_mod_2, S_b0_mod_1, S_b0_mod_0, S_bx_mcan1_1h, S_b0_mod_4h, g]
        rw [hif] at C1 C2
        generalize hS2 : (((S.1.set e (on1 (decide (cbS ms p = 5)))), ((S.2.1.set e (nL (wW (decide (cbS ms p = 5)) (cbV ms p)))), ((S.2.2.1.set e (-1)), S.2.2.2))) : Sk) = S2
        have ok2 : Sk.ok S2 := by rw [← hS2]; exact ⟨by simpa [S_bx_mcan1_0, S_b8_mkey_1, S_b8_mkey_0, S_b1_mterm_0, S_b1_copy_0, S_b0_mod_7, S_b0_mod_6, S_b0_mod_5, S_b0_mod_3, S_b0_mod_2, S_b0_mod_1, S_b0_mod_0, S_bx_mcan1_1h, S_b0_mod_4h] using l1, by simpa [S_bx_mcan1_0, S_b8_mkey_1, S_b8_mkey_0, S_b1_mterm_0, S_b1_copy_0, S_b0_mod_7, S_b0_mod_6, S_b0_mod_5, S_b0_mod_3, S_b0_mod_2, S_b0_mod_1, S_b0_mod_0, S_bx_mcan1_1h, S_b0_mod_4h] using l2, by simpa [S_bx_mcan1_0, S_b8_mkey_1, S_b8_mkey_0, S_b1_mterm_0, S_b1_copy_0, S_b0_mod_7, S_b0_mod_6, S_b0_mod_5, S_b0_mod_3, S_b0_mod_2, S_b0_mod_1, S_b0_mod_0, S_bx_mcan1_1h, S_b0_mod_4h] using l3, l4⟩
        have ag2 : ag e S S2 := by
          rw [← hS2]
          exact fun i hi => ⟨List.getElem?_set_ne (by omega), List.getElem?_set_ne (by omega), List.getElem?_set_ne (by omega), rfl⟩
        have C1 : cbV ms p = 0 → ∀ r, R9 d B x y e (cbC ms p) S2 = some r → mj_Rn (d + 3) mj_m292 193 [(5, .int (nI (cbV ms p))), (4, .int (nI (cbS ms p))), (3, .int (nI e)), (2, .int (nI (cbC ms p))), (0, .ref 67)] [] (mm B x (y.st S.1 S.2.1 S.2.2.1 S.2.2.2)) = some r := by rw [← hS2]; exact C1
        have C2 : cbV ms p ≠ 0 → ∀ r, R4 d B x y (e + 1) (cbC ms p) S2 = some r → mj_Rn (d + 3) mj_m292 193 [(5, .int (nI (cbV ms p))), (4, .int (nI (cbS ms p))), (3, .int (nI e)), (2, .int (nI (cbC ms p))), (0, .ref 67)] [] (mm B x (y.st S.1 S.2.1 S.2.2.1 S.2.2.2)) = some r := by rw [← hS2]; exact C2
        by_cases hn : cbV ms p = 0
        · rw [hn]
          refine ⟨fun q z => ?_, fun z => by cases z⟩
          cases z
          exact ⟨S2, ok2, ag2, fun res hr => h2 _ (C1 hn _ hr)⟩
        · obtain ⟨m, hm⟩ : ∃ m, cbV ms p = m + 1 := ⟨cbV ms p - 1, by omega⟩
          have H := ca_HQ h (e := e) (im := decide (cbS ms p = 5)) (n := m) (by omega) (by omega) ih (ca_Q h (e := e) (im := decide (cbS ms p = 5)) (by omega) ih m (by omega))
          rw [← hm] at H
          have g1 : S2.1[e]? = some (on1 (decide (cbS ms p = 5))) := by
            rw [← hS2]
            show (S.1.set e _)[e]? = _
            rw [List.getElem?_set_self (by omega)]
          have g2 : S2.2.1[e]? = some (nL (wW (decide (cbS ms p = 5)) (cbV ms p))) := by
            rw [← hS2]
            show (S.2.1.set e _)[e]? = _
            rw [List.getElem?_set_self (by omega)]
          have g3 : S2.2.2.1[e]? = some (-1) := by
            rw [← hS2]
            show (S.2.2.1.set e _)[e]? = _
            rw [List.getElem?_set_self (by omega)]
          obtain ⟨H1, H2⟩ := H (cbC ms p) none S2 ok2 g1 g2 (fun _ => g3) ok.c.2
          refine ⟨fun q z => ?_, fun z => ?_⟩
          · obtain ⟨S', b1, b2, b3⟩ := H1 q z
            exact ⟨S', b1, ag2.tr b2, fun res hr => h2 _ (C2 hn _ (b3 _ hr))⟩
          · obtain ⟨S', b1, b2⟩ := H2 z
            exact ⟨S', b1, h2 _ (C2 hn _ b2)⟩
      · rw [cbI_leaf ok h4]
        refine ⟨fun q z => ?_, fun z => by cases z⟩
        cases z
        exact ⟨S, hS, ag.rf, fun res hr => h2 _ (ca_C1 s1 h4 _ hr)⟩
    · rw [cbI_nk ok]
      exact ⟨fun q z => (by cases z), fun _ => ⟨S, hS, h1 ok⟩⟩
def Sy.nc (y : Sy) : Sy := y.st [] [] [] []
theorem q_canon (h : xm x ms) (hy : ys y) (hp : 1 ≤ ms.length) : ∃ y', mj_V (d + 4) 292 [.ref 67, .int 1] (mm B x y) = some (some (.int (match cbI ms 4 1 with
    | none => -1
    | some q => nI q)), mm B x y') ∧ ys y' ∧ y'.nc = y.nc := by
  obtain ⟨h1, ⟨l1, l2, l3, l4⟩, h3⟩ := hy
  have e0 : y = y.st y.2.1.1.2.1 y.2.2.2.2 y.2.1.1.2.2 y.2.1.2.1.1 := rfl
  obtain ⟨I1, I2⟩ := ca_I (d := d) (B := B) (x := x) (y := y) h 4 0 1 ((y.2.1.1.2.1, (y.2.2.2.2, (y.2.1.1.2.2, y.2.1.2.1.1))) : Sk) rfl ⟨l1, l2, l3, l4⟩ (Or.inl ⟨rfl, rfl⟩) hp
  have pre : ∀ r, R4 d B x y 0 1 ((y.2.1.1.2.1, (y.2.2.2.2, (y.2.1.1.2.2, y.2.1.2.1.1))) : Sk) = some r → mj_V (d + 4) 292 [.ref 67, .int 1] (mm B x y) = some r := by
    intro r hr
    simp only [R4, ← e0] at hr
    simp (disch := (first | omega | decide)) [S_bx_mcan1_0, S_b8_mkey_1, S_b8_mkey_0, S_b1_mterm_0, S_b1_copy_0, S_b0_mod_7, S_b0_mod_6, S_b0_mod_5, S_b0_mod_3, S_b0_mod_2, S_b0_mod_1, S_b0_mod_0, S_bx_mcan1_1h, S_b0_mod_4h, c292, s292_0, s292_1, s292_2, s292_3, s292_5, s292_6, s292_9, s292_12, s292_13, s292_14, s292_15, s292_16, s292_19, s292_21, s292_23, s292_25, s292_28, s292_29, s292_32, s292_33, s292_34, s292_37, s292_39, s292_40, s292_43, s292_44, s292_47, s292_48, s292_49, s292_50, s292_51, s292_54, s292_55, s292_58, s292_59, s292_60, s292_61, s292_62, s292_65, s292_66, s292_67, s292_68, s292_71, s292_72, s292_75, s292_76, s292_78, s292_80, s292_83, s292_85, s292_88, s292_90, s292_91, s292_94, s292_96, s292_97, s292_100, s292_101, s292_102, s292_103, s292_105, s292_107, s292_109, s292_112, s292_113, s292_114, s292_115, s292_118, s292_119, s292_120, s292_123, s292_124, s292_126, s292_127, s292_130, s292_132, s292_133, s292_136, s292_138, s292_139, s292_142, s292_143, s292_144, s292_147, s292_148, s292_149, s292_150, s292_152, s292_153, s292_154, s292_156, s292_159, s292_160, s292_161, s292_162, s292_163, s292_165, s292_166, s292_169, s292_172, s292_173, s292_174, s292_175, s292_178, s292_179, s292_180, s292_181, s292_183, s292_184, s292_185, s292_188, s292_189, s292_190, s292_191, s292_192, s292_193, s292_194, s292_196, s292_198, s292_199, s292_202, s292_204, s292_205, s292_208, s292_209, s292_210, s292_213, s292_214, s292_215, s292_216, s292_219, s292_220, s292_222, s292_223, s292_226, s292_227, s292_230, s292_231, s292_232, s292_233, s292_236, s292_237, s292_239, s292_240, s292_243, s292_246, s292_248, s292_249, s292_250, s292_253, s292_255, s292_256, s292_257, s292_258, s292_261, s292_262, s292_263, s292_264, s292_266, s292_269, s292_270, s292_273, s292_274, s292_276, s292_277, s292_279, s292_282, s292_283, s292_286, s292_287, s292_288, s292_289, s292_291, s292_294, s292_295, s292_298, s292_299, s292_300, s292_301, s292_304, s292_305, s292_306, s292_307, s292_308, s292_309, s292_310, s292_311, s292_312, s292_313, s292_316, s292_317, s292_318, s292_319, s292_320, s292_321, s292_322, s292_325, s292_326, s292_329, s292_330, s292_332, s292_333, s292_335, s292_338, s292_339, s292_342, s292_343, s292_344, s292_345, s292_348, mq_k0s, mq_k1s, mq_k2s, mq_k4s, mq_k5s, mq_k5n, mq_k5as, mq_k6s, mj_pu, mj_lo, mj_br, mj_hr, mj_hw, mq_gf, mq_len, mq_al, mq_pf, mq_ok, mj_re, mq_lkm, mq_lkn, mj_ldi, mj_ldl, mj_lda, mj_ii, mj_ll, mj_li, mj_i1, ms_1, ms_2, f1_n, f1_i, f1_r, f1_u, f1_l, f2_n, f2_i, f2_r, f2_u, f2_l, mj_tg, mj_c1, mj_c2, mj_ar, mj_aw, mq_cb, mq_oi, mj_rm, Value.category, -getElem?_pos, List.getElem?_cons_zero, decide_eq_true, decide_eq_false, nl_lt, nl_le, ln_lt, ln_le, nl_eq, ln_eq, nl_add, ln_add, nl_sub, ln_mul, nI_sub, nI_mul, nI_add, nI_lt_iff, nI_le_iff, nI_inj, nI_num, mq_ix, nI_1, nl_mul, nl_div]
    rw [nI_0] at hr
    refine mq_wk ?_ hr
    simp [S_bx_mcan1_0, S_b8_mkey_1, S_b8_mkey_0, S_b1_mterm_0, S_b1_copy_0, S_b0_mod_7, S_b0_mod_6, S_b0_mod_5, S_b0_mod_3, S_b0_mod_2, S_b0_mod_1, S_b0_mod_0, S_bx_mcan1_1h, S_b0_mod_4h, mq_sub, mj_lk]
    rfl
  cases hI : cbI ms 4 1 with
  | none =>
    obtain ⟨S, a1, a2⟩ := I2 hI
    exact ⟨_, pre _ a2, ⟨h1, a1, h3⟩, rfl⟩
  | some q =>
    obtain ⟨S, a1, a2, a3⟩ := I1 q hI
    exact ⟨_, pre _ (a3 _ ca_D0), ⟨h1, a1, h3⟩, rfl⟩
end
end
/- c0.mbehind -/
section
set_option maxRecDepth 512
/-! The model: behind an item. -/
/- 301 PasskeyHouseModel.behind(I)I -/
theorem s301_0 {d : Nat} {ls : mj_L} {st : List Value} {M : mj_H} : mj_Rn d mj_m301 0 ls st M = mq_k0 d mj_m301 1 ls M (mj_ldi (mj_lk ls 1) st) := mj_R0 (r := (.iload_n 1, 1, 0, 0, 0)) rfl rfl
theorem s301_1 {d : Nat} {ls : mj_L} {st : List Value} {M : mj_H} : mj_Rn d mj_m301 1 ls st M = mq_k1 d mj_m301 2 M (mj_lo 7 (.istore 2) ls st) := (mj_R1 (r := (.istore_n 2, 1, 0, 0, 0)) rfl rfl).trans (congrArg (mq_k1 d mj_m301 2 M) (mq_sti (k := 2)))
theorem s301_2 {d : Nat} {ls : mj_L} {st : List Value} {M : mj_H} : mj_Rn d mj_m301 2 ls st M = mj_Rn d mj_m301 3 ls (.long 1 :: st) M := mj_R0 (r := (.lconst 1, 1, 0, 0, 0)) rfl rfl
theorem s301_3 {d : Nat} {ls : mj_L} {st : List Value} {M : mj_H} : mj_Rn d mj_m301 3 ls st M = mq_k1 d mj_m301 4 M (mj_lo 7 (.lstore 3) ls st) := (mj_R1 (r := (.lstore_n 3, 1, 0, 0, 0)) rfl rfl).trans (congrArg (mq_k1 d mj_m301 4 M) (mq_stl (k := 3)))
theorem s301_4 {d : Nat} {ls : mj_L} {st : List Value} {M : mj_H} : mj_Rn d mj_m301 4 ls st M = mq_k0 d mj_m301 5 ls M (mj_ldl (mj_lk ls 3) st) := mj_R0 (r := (.lload_n 3, 1, 0, 0, 0)) rfl rfl
theorem s301_5 {d : Nat} {ls : mj_L} {st : List Value} {M : mj_H} : mj_Rn d mj_m301 5 ls st M = mj_Rn d mj_m301 6 ls (.long 0 :: st) M := mj_R0 (r := (.lconst 0, 1, 0, 0, 0)) rfl rfl
theorem s301_6 {d : Nat} {ls : mj_L} {st : List Value} {M : mj_H} : mj_Rn d mj_m301 6 ls st M = mq_k0 d mj_m301 7 ls M (mj_pu .lcmp ls st) := mj_R0 (r := (.lcmp, 1, 0, 0, 0)) rfl rfl
theorem s301_7 {d : Nat} {ls : mj_L} {st : List Value} {M : mj_H} : mj_Rn d mj_m301 7 ls st M = mq_k2 d mj_m301 ls M (mj_br (.ifCond .le 109) 7 st) := mj_R2 (r := (.ifCond .le 109, 3, 0, 0, 0)) rfl rfl
theorem s301_10 {d : Nat} {ls : mj_L} {st : List Value} {M : mj_H} : mj_Rn d mj_m301 10 ls st M = mq_k0 d mj_m301 11 ls M (mj_lda (mj_lk ls 0) st) := mj_R0 (r := (.aload_n 0, 1, 0, 0, 0)) rfl rfl
theorem s301_11 {d : Nat} {ls : mj_L} {st : List Value} {M : mj_H} : mj_Rn d mj_m301 11 ls st M = mq_k0 d mj_m301 12 ls M (mj_ldi (mj_lk ls 2) st) := mj_R0 (r := (.iload_n 2, 1, 0, 0, 0)) rfl rfl
theorem s301_12 {d : Nat} {ls : mj_L} {st : List Value} {M : mj_H} : mj_Rn (d + 1) mj_m301 12 ls st M = mq_k5a (d + 1) mj_m301 15 ls M 294 (mq_cb 0 1 11 st M) := mj_R5e (r := (.invokevirtual 396, 3, 0, 294, 36884)) (z := mj_m294) rfl rfl (by decide) (by decide) rfl
theorem s301_15 {d : Nat} {ls : mj_L} {st : List Value} {M : mj_H} : mj_Rn d mj_m301 15 ls st M = mq_k1 d mj_m301 17 M (mj_lo 7 (.istore 5) ls st) := mj_R1 (r := (.istore 5, 2, 0, 0, 0)) rfl rfl
theorem s301_17 {d : Nat} {ls : mj_L} {st : List Value} {M : mj_H} : mj_Rn d mj_m301 17 ls st M = mq_k0 d mj_m301 19 ls M (mj_ldi (mj_lk ls 5) st) := mj_R0 (r := (.iload 5, 2, 0, 0, 0)) rfl rfl
theorem s301_19 {d : Nat} {ls : mj_L} {st : List Value} {M : mj_H} : mj_Rn d mj_m301 19 ls st M = mj_Rn d mj_m301 21 ls (.int 7 :: st) M := mj_R0 (r := (.bipush 7, 2, 0, 0, 0)) rfl rfl
theorem s301_21 {d : Nat} {ls : mj_L} {st : List Value} {M : mj_H} : mj_Rn d mj_m301 21 ls st M = mq_k2 d mj_m301 ls M (mj_br (.if_icmp .ne 7) 21 st) := mj_R2 (r := (.if_icmp .ne 7, 3, 0, 0, 0)) rfl rfl
theorem s301_24 {d : Nat} {ls : mj_L} {st : List Value} {M : mj_H} : mj_Rn d mj_m301 24 ls st M = mj_Rn d mj_m301 25 ls (.int 0 :: st) M := mj_R0 (r := (.iconst 0, 1, 0, 0, 0)) rfl rfl
theorem s301_25 {d : Nat} {ls : mj_L} {st : List Value} {M : mj_H} : mj_Rn d mj_m301 25 ls st M = mj_Rn d mj_m301 33 ls st M := mj_R2 (r := (.goto 8, 3, 0, 0, 0)) rfl rfl
theorem s301_28 {d : Nat} {ls : mj_L} {st : List Value} {M : mj_H} : mj_Rn d mj_m301 28 ls st M = mq_k0 d mj_m301 29 ls M (mj_lda (mj_lk ls 0) st) := mj_R0 (r := (.aload_n 0, 1, 0, 0, 0)) rfl rfl
theorem s301_29 {d : Nat} {ls : mj_L} {st : List Value} {M : mj_H} : mj_Rn d mj_m301 29 ls st M = mq_k0 d mj_m301 30 ls M (mj_ldi (mj_lk ls 2) st) := mj_R0 (r := (.iload_n 2, 1, 0, 0, 0)) rfl rfl
theorem s301_30 {d : Nat} {ls : mj_L} {st : List Value} {M : mj_H} : mj_Rn (d + 1) mj_m301 30 ls st M = mq_k5a (d + 1) mj_m301 33 ls M 297 (mq_cb 0 1 11 st M) := mj_R5e (r := (.invokevirtual 402, 3, 0, 297, 36895)) (z := mj_m297) rfl rfl (by decide) (by decide) rfl
theorem s301_33 {d : Nat} {ls : mj_L} {st : List Value} {M : mj_H} : mj_Rn d mj_m301 33 ls st M = mq_k1 d mj_m301 35 M (mj_lo 7 (.istore 6) ls st) := mj_R1 (r := (.istore 6, 2, 0, 0, 0)) rfl rfl
theorem s301_35 {d : Nat} {ls : mj_L} {st : List Value} {M : mj_H} : mj_Rn d mj_m301 35 ls st M = mq_k0 d mj_m301 37 ls M (mj_ldi (mj_lk ls 5) st) := mj_R0 (r := (.iload 5, 2, 0, 0, 0)) rfl rfl
theorem s301_37 {d : Nat} {ls : mj_L} {st : List Value} {M : mj_H} : mj_Rn d mj_m301 37 ls st M = mj_Rn d mj_m301 39 ls (.int 7 :: st) M := mj_R0 (r := (.bipush 7, 2, 0, 0, 0)) rfl rfl
theorem s301_39 {d : Nat} {ls : mj_L} {st : List Value} {M : mj_H} : mj_Rn d mj_m301 39 ls st M = mq_k2 d mj_m301 ls M (mj_br (.if_icmp .ne 9) 39 st) := mj_R2 (r := (.if_icmp .ne 9, 3, 0, 0, 0)) rfl rfl
theorem s301_42 {d : Nat} {ls : mj_L} {st : List Value} {M : mj_H} : mj_Rn d mj_m301 42 ls st M = mq_k0 d mj_m301 43 ls M (mj_ldi (mj_lk ls 2) st) := mj_R0 (r := (.iload_n 2, 1, 0, 0, 0)) rfl rfl
theorem s301_43 {d : Nat} {ls : mj_L} {st : List Value} {M : mj_H} : mj_Rn d mj_m301 43 ls st M = mj_Rn d mj_m301 44 ls (.int 1 :: st) M := mj_R0 (r := (.iconst 1, 1, 0, 0, 0)) rfl rfl
theorem s301_44 {d : Nat} {ls : mj_L} {st : List Value} {M : mj_H} : mj_Rn d mj_m301 44 ls st M = mq_k0 d mj_m301 45 ls M (mj_pu .iadd ls st) := mj_R0 (r := (.iadd, 1, 0, 0, 0)) rfl rfl
theorem s301_45 {d : Nat} {ls : mj_L} {st : List Value} {M : mj_H} : mj_Rn d mj_m301 45 ls st M = mj_Rn d mj_m301 53 ls st M := mj_R2 (r := (.goto 8, 3, 0, 0, 0)) rfl rfl
theorem s301_48 {d : Nat} {ls : mj_L} {st : List Value} {M : mj_H} : mj_Rn d mj_m301 48 ls st M = mq_k0 d mj_m301 49 ls M (mj_lda (mj_lk ls 0) st) := mj_R0 (r := (.aload_n 0, 1, 0, 0, 0)) rfl rfl
theorem s301_49 {d : Nat} {ls : mj_L} {st : List Value} {M : mj_H} : mj_Rn d mj_m301 49 ls st M = mq_k0 d mj_m301 50 ls M (mj_ldi (mj_lk ls 2) st) := mj_R0 (r := (.iload_n 2, 1, 0, 0, 0)) rfl rfl
theorem s301_50 {d : Nat} {ls : mj_L} {st : List Value} {M : mj_H} : mj_Rn (d + 1) mj_m301 50 ls st M = mq_k5a (d + 1) mj_m301 53 ls M 295 (mq_cb 0 1 11 st M) := mj_R5e (r := (.invokevirtual 399, 3, 0, 295, 36888)) (z := mj_m295) rfl rfl (by decide) (by decide) rfl
theorem s301_53 {d : Nat} {ls : mj_L} {st : List Value} {M : mj_H} : mj_Rn d mj_m301 53 ls st M = mq_k1 d mj_m301 54 M (mj_lo 7 (.istore 2) ls st) := (mj_R1 (r := (.istore_n 2, 1, 0, 0, 0)) rfl rfl).trans (congrArg (mq_k1 d mj_m301 54 M) (mq_sti (k := 2)))
theorem s301_54 {d : Nat} {ls : mj_L} {st : List Value} {M : mj_H} : mj_Rn d mj_m301 54 ls st M = mq_k0 d mj_m301 55 ls M (mj_ldi (mj_lk ls 2) st) := mj_R0 (r := (.iload_n 2, 1, 0, 0, 0)) rfl rfl
theorem s301_55 {d : Nat} {ls : mj_L} {st : List Value} {M : mj_H} : mj_Rn d mj_m301 55 ls st M = mq_k0 d mj_m301 57 ls M (mj_ldi (mj_lk ls 5) st) := mj_R0 (r := (.iload 5, 2, 0, 0, 0)) rfl rfl
theorem s301_57 {d : Nat} {ls : mj_L} {st : List Value} {M : mj_H} : mj_Rn d mj_m301 57 ls st M = mj_Rn d mj_m301 58 ls (.int 2 :: st) M := mj_R0 (r := (.iconst 2, 1, 0, 0, 0)) rfl rfl
theorem s301_58 {d : Nat} {ls : mj_L} {st : List Value} {M : mj_H} : mj_Rn d mj_m301 58 ls st M = mq_k2 d mj_m301 ls M (mj_br (.if_icmp .eq 9) 58 st) := mj_R2 (r := (.if_icmp .eq 9, 3, 0, 0, 0)) rfl rfl
theorem s301_61 {d : Nat} {ls : mj_L} {st : List Value} {M : mj_H} : mj_Rn d mj_m301 61 ls st M = mq_k0 d mj_m301 63 ls M (mj_ldi (mj_lk ls 5) st) := mj_R0 (r := (.iload 5, 2, 0, 0, 0)) rfl rfl
theorem s301_63 {d : Nat} {ls : mj_L} {st : List Value} {M : mj_H} : mj_Rn d mj_m301 63 ls st M = mj_Rn d mj_m301 64 ls (.int 3 :: st) M := mj_R0 (r := (.iconst 3, 1, 0, 0, 0)) rfl rfl
theorem s301_64 {d : Nat} {ls : mj_L} {st : List Value} {M : mj_H} : mj_Rn d mj_m301 64 ls st M = mq_k2 d mj_m301 ls M (mj_br (.if_icmp .ne 8) 64 st) := mj_R2 (r := (.if_icmp .ne 8, 3, 0, 0, 0)) rfl rfl
theorem s301_67 {d : Nat} {ls : mj_L} {st : List Value} {M : mj_H} : mj_Rn d mj_m301 67 ls st M = mq_k0 d mj_m301 69 ls M (mj_ldi (mj_lk ls 6) st) := mj_R0 (r := (.iload 6, 2, 0, 0, 0)) rfl rfl
theorem s301_69 {d : Nat} {ls : mj_L} {st : List Value} {M : mj_H} : mj_Rn d mj_m301 69 ls st M = mj_Rn d mj_m301 73 ls st M := mj_R2 (r := (.goto 4, 3, 0, 0, 0)) rfl rfl
theorem s301_72 {d : Nat} {ls : mj_L} {st : List Value} {M : mj_H} : mj_Rn d mj_m301 72 ls st M = mj_Rn d mj_m301 73 ls (.int 0 :: st) M := mj_R0 (r := (.iconst 0, 1, 0, 0, 0)) rfl rfl
theorem s301_73 {d : Nat} {ls : mj_L} {st : List Value} {M : mj_H} : mj_Rn d mj_m301 73 ls st M = mq_k0 d mj_m301 74 ls M (mj_pu .iadd ls st) := mj_R0 (r := (.iadd, 1, 0, 0, 0)) rfl rfl
theorem s301_74 {d : Nat} {ls : mj_L} {st : List Value} {M : mj_H} : mj_Rn d mj_m301 74 ls st M = mq_k1 d mj_m301 75 M (mj_lo 7 (.istore 2) ls st) := (mj_R1 (r := (.istore_n 2, 1, 0, 0, 0)) rfl rfl).trans (congrArg (mq_k1 d mj_m301 75 M) (mq_sti (k := 2)))
theorem s301_75 {d : Nat} {ls : mj_L} {st : List Value} {M : mj_H} : mj_Rn d mj_m301 75 ls st M = mq_k0 d mj_m301 76 ls M (mj_ldl (mj_lk ls 3) st) := mj_R0 (r := (.lload_n 3, 1, 0, 0, 0)) rfl rfl
theorem s301_76 {d : Nat} {ls : mj_L} {st : List Value} {M : mj_H} : mj_Rn d mj_m301 76 ls st M = mq_k0 d mj_m301 78 ls M (mj_ldi (mj_lk ls 5) st) := mj_R0 (r := (.iload 5, 2, 0, 0, 0)) rfl rfl
theorem s301_78 {d : Nat} {ls : mj_L} {st : List Value} {M : mj_H} : mj_Rn d mj_m301 78 ls st M = mj_Rn d mj_m301 79 ls (.int 4 :: st) M := mj_R0 (r := (.iconst 4, 1, 0, 0, 0)) rfl rfl
theorem s301_79 {d : Nat} {ls : mj_L} {st : List Value} {M : mj_H} : mj_Rn d mj_m301 79 ls st M = mq_k2 d mj_m301 ls M (mj_br (.if_icmp .ne 11) 79 st) := mj_R2 (r := (.if_icmp .ne 11, 3, 0, 0, 0)) rfl rfl
theorem s301_82 {d : Nat} {ls : mj_L} {st : List Value} {M : mj_H} : mj_Rn d mj_m301 82 ls st M = mq_k0 d mj_m301 84 ls M (mj_ldi (mj_lk ls 6) st) := mj_R0 (r := (.iload 6, 2, 0, 0, 0)) rfl rfl
theorem s301_84 {d : Nat} {ls : mj_L} {st : List Value} {M : mj_H} : mj_Rn d mj_m301 84 ls st M = mq_k0 d mj_m301 85 ls M (mj_pu .i2l ls st) := mj_R0 (r := (.i2l, 1, 0, 0, 0)) rfl rfl
theorem s301_85 {d : Nat} {ls : mj_L} {st : List Value} {M : mj_H} : mj_Rn d mj_m301 85 ls st M = mj_Rn d mj_m301 86 ls (.long 1 :: st) M := mj_R0 (r := (.lconst 1, 1, 0, 0, 0)) rfl rfl
theorem s301_86 {d : Nat} {ls : mj_L} {st : List Value} {M : mj_H} : mj_Rn d mj_m301 86 ls st M = mq_k0 d mj_m301 87 ls M (mj_pu .lsub ls st) := mj_R0 (r := (.lsub, 1, 0, 0, 0)) rfl rfl
theorem s301_87 {d : Nat} {ls : mj_L} {st : List Value} {M : mj_H} : mj_Rn d mj_m301 87 ls st M = mj_Rn d mj_m301 111 ls st M := mj_R2 (r := (.goto 24, 3, 0, 0, 0)) rfl rfl
theorem s301_90 {d : Nat} {ls : mj_L} {st : List Value} {M : mj_H} : mj_Rn d mj_m301 90 ls st M = mq_k0 d mj_m301 92 ls M (mj_ldi (mj_lk ls 5) st) := mj_R0 (r := (.iload 5, 2, 0, 0, 0)) rfl rfl
theorem s301_92 {d : Nat} {ls : mj_L} {st : List Value} {M : mj_H} : mj_Rn d mj_m301 92 ls st M = mj_Rn d mj_m301 93 ls (.int 5 :: st) M := mj_R0 (r := (.iconst 5, 1, 0, 0, 0)) rfl rfl
theorem s301_93 {d : Nat} {ls : mj_L} {st : List Value} {M : mj_H} : mj_Rn d mj_m301 93 ls st M = mq_k2 d mj_m301 ls M (mj_br (.if_icmp .ne 15) 93 st) := mj_R2 (r := (.if_icmp .ne 15, 3, 0, 0, 0)) rfl rfl
theorem s301_96 {d : Nat} {ls : mj_L} {st : List Value} {M : mj_H} : mj_Rn d mj_m301 96 ls st M = mj_Rn d mj_m301 99 ls (.long 2 :: st) M := mj_R3 (r := (.ldc2_w 409, 3, 1, 25, 36900)) rfl rfl
theorem s301_99 {d : Nat} {ls : mj_L} {st : List Value} {M : mj_H} : mj_Rn d mj_m301 99 ls st M = mq_k0 d mj_m301 101 ls M (mj_ldi (mj_lk ls 6) st) := mj_R0 (r := (.iload 6, 2, 0, 0, 0)) rfl rfl
theorem s301_101 {d : Nat} {ls : mj_L} {st : List Value} {M : mj_H} : mj_Rn d mj_m301 101 ls st M = mq_k0 d mj_m301 102 ls M (mj_pu .i2l ls st) := mj_R0 (r := (.i2l, 1, 0, 0, 0)) rfl rfl
theorem s301_102 {d : Nat} {ls : mj_L} {st : List Value} {M : mj_H} : mj_Rn d mj_m301 102 ls st M = mq_k0 d mj_m301 103 ls M (mj_pu .lmul ls st) := mj_R0 (r := (.lmul, 1, 0, 0, 0)) rfl rfl
theorem s301_103 {d : Nat} {ls : mj_L} {st : List Value} {M : mj_H} : mj_Rn d mj_m301 103 ls st M = mj_Rn d mj_m301 104 ls (.long 1 :: st) M := mj_R0 (r := (.lconst 1, 1, 0, 0, 0)) rfl rfl
theorem s301_104 {d : Nat} {ls : mj_L} {st : List Value} {M : mj_H} : mj_Rn d mj_m301 104 ls st M = mq_k0 d mj_m301 105 ls M (mj_pu .lsub ls st) := mj_R0 (r := (.lsub, 1, 0, 0, 0)) rfl rfl
theorem s301_105 {d : Nat} {ls : mj_L} {st : List Value} {M : mj_H} : mj_Rn d mj_m301 105 ls st M = mj_Rn d mj_m301 111 ls st M := mj_R2 (r := (.goto 6, 3, 0, 0, 0)) rfl rfl
theorem s301_108 {d : Nat} {ls : mj_L} {st : List Value} {M : mj_H} : mj_Rn d mj_m301 108 ls st M = mj_Rn d mj_m301 111 ls (.long (-1) :: st) M := mj_R3 (r := (.ldc2_w 414, 3, 1, 28, 36917)) rfl rfl
theorem s301_111 {d : Nat} {ls : mj_L} {st : List Value} {M : mj_H} : mj_Rn d mj_m301 111 ls st M = mq_k0 d mj_m301 112 ls M (mj_pu .ladd ls st) := mj_R0 (r := (.ladd, 1, 0, 0, 0)) rfl rfl
theorem s301_112 {d : Nat} {ls : mj_L} {st : List Value} {M : mj_H} : mj_Rn d mj_m301 112 ls st M = mq_k1 d mj_m301 113 M (mj_lo 7 (.lstore 3) ls st) := (mj_R1 (r := (.lstore_n 3, 1, 0, 0, 0)) rfl rfl).trans (congrArg (mq_k1 d mj_m301 113 M) (mq_stl (k := 3)))
theorem s301_113 {d : Nat} {ls : mj_L} {st : List Value} {M : mj_H} : mj_Rn d mj_m301 113 ls st M = mj_Rn d mj_m301 4 ls st M := mj_R2 (r := (.goto (-109), 3, 0, 0, 0)) rfl rfl
theorem s301_116 {d : Nat} {ls : mj_L} {st : List Value} {M : mj_H} : mj_Rn d mj_m301 116 ls st M = mq_k0 d mj_m301 117 ls M (mj_ldi (mj_lk ls 2) st) := mj_R0 (r := (.iload_n 2, 1, 0, 0, 0)) rfl rfl
theorem s301_117 {d : Nat} {ls : mj_L} {st : List Value} {M : mj_H} : mj_Rn d mj_m301 117 ls st M = mq_k6 M (mj_re (some .int) (.ireturn) st) := mj_R6 (r := (.ireturn, 1, 0, 0, 0)) rfl rfl
theorem c301 {d : Nat} {a0 : Nat} {x1 : Int32} {M : mj_H} : mj_V (d + 1) 301 [.ref a0, .int x1] M = mj_Rn d mj_m301 0 [(0, .ref a0), (1, .int x1)] [] M := mj_V_go rfl (Nat.le_of_ble_eq_true rfl)
theorem nL_a1 (a b : Nat) : nL (a + 1) + (nL b - 1) = nL (a + b) := by
  have e1 : nL (a + 1) = nL a + 1 := Int64.ofNat_add a 1
  have e2 : nL (a + b) = nL a + nL b := Int64.ofNat_add a b
  rw [e1, e2]
  grind
theorem nL_m1 (a : Nat) : nL (a + 1) + -1 = nL a := by
  have e1 : nL (a + 1) = nL a + 1 := Int64.ofNat_add a 1
  rw [e1]
  grind
def addL (ms : List Int32) (p : Nat) : Nat := if cbS ms p = 4 then cbV ms p else if cbS ms p = 5 then 2 * cbV ms p else 0
/-- p is the place of a canonical item -/
def Io (ms : List Int32) (p : Nat) : Prop := ∃ r, r ≤ 4 ∧ cbI ms r p = some (cbE ms p)
theorem Io.mk {ms : List Int32} {r p q : Nat} (h : cbI ms r p = some q) (hr : r ≤ 4) : Io ms p := ⟨r, hr, by rw [cbE_eq h hr]; exact h⟩
theorem Io.ok {ms : List Int32} {p : Nat} (h : Io ms p) : cbOk ms p := cbI_ok h.choose_spec.2
theorem Io.lt {ms : List Int32} {p : Nat} (h : Io ms p) : p < cbE ms p ∧ cbE ms p ≤ ms.length := cbI_lt _ _ _ h.choose_spec.2
section
variable {d : Nat} {B : Bs} {x : Fx} {y : Sy} {ms : List Int32}
theorem bh_1 (h : xm x ms) {p L : Nat} (ok : cbOk ms p) (hL : L < 2 ^ 60) : ∀ res, mj_Rn (d + 2) mj_m301 4 [(3, .long (nL (L + addL ms p))), (2, .int (nI (qe ms p))), (0, .ref 67)] [] (mm B x y) = some res → mj_Rn (d + 2) mj_m301 4 [(3, .long (nL (L + 1))), (2, .int (nI p)), (0, .ref 67)] [] (mm B x y) = some res := by
  intro res hr
  have hle := h.1.le
  have hk := (cbOk_hd.mp ok).1
  have s1 : cbS ms p < 8 := by have := (h.at hk.1).2; unfold cbS; omega
  have r1 := q_sortAt (d := d + 1) (B := B) (x := x) (y := y) h hk.1
  have r2 := q_numberAt (d := d) (B := B) (x := x) (y := y) h hk.1 hk.2.2.2.1
  have rb := q_behindHead (d := d) (B := B) (x := x) (y := y) h hk.1
  have hC : cbC ms p ≤ ms.length := hk.2.2.2.1
  have hV : cbV ms p < 2 ^ 31 := hk.2.2.2.2.2.1
  have hl0 : ¬ nL (L + 1) ≤ 0 := fun z => by have := (nL_le (b := 0) (by omega) (by omega)).mp z; omega
  have hl0 : ¬ lg_cmp (nL (L + 1)) 0 ≤ 0 := by rw [lg_cmp_le]; exact hl0
  have e0 := nL_a1 L (cbV ms p)
  have e1 := nL_a1 L (2 * cbV ms p)
  have e2 := nL_m1 L
  have el : (2 : Int64) * nL (cbV ms p) = nL (2 * cbV ms p) := by
    unfold nL
    rw [show (2 : Int64) = Int64.ofNat 2 from rfl, ← Int64.ofNat_mul]
  have e3 := nL_l hV
  unfold qe addL at hr
  rw [s301_4]
  by_cases h7 : cbS ms p = 7
  · have hX : cbX ms p < 24 := by
      rcases hk.2.2.2.2.1 with z | z | z | z
      · exact z
      · have := hk.2.2.2.2.2.2 h7; omega
      · have := hk.2.2.2.2.2.2 h7; omega
      · have := hk.2.2.2.2.2.2 h7; omega
    have hC1 : cbC ms p = p + 1 := by unfold cbC cbN; rw [if_pos hX]
    rw [if_neg (by omega), if_neg (by omega), if_neg (by omega), hC1] at hr
    rw [h7] at r1
    simp (disch := (first | omega | decide)) [S_bx_mcan1_0, S_b8_mkey_1, S_b8_mkey_0, S_b1_mterm_0, S_b1_copy_0, S_b0_mod_7, S_b0_mod_6, S_b0_mod_5, S_b0_mod_3, S_b0_mod_2, S_b0_mod_1, S_b0_mod_0, S_bx_mcan1_1h, S_b0_mod_4h, s301_0, s301_1, s301_2, s301_3, s301_5, s301_6, s301_7, s301_10, s301_11, s301_12, s301_15, s301_17, s301_19, s301_21, s301_24, s301_25, s301_28, s301_29, s301_30, s301_33, s301_35, s301_37, s301_39, s301_42, s301_43, s301_44, s301_45, s301_48, s301_49, s301_50, s301_53, s301_54, s301_55, s301_57, s301_58, s301_61, s301_63, s301_64, s301_67, s301_69, s301_72, s301_73, s301_74, s301_75, s301_76, s301_78, s301_79, s301_82, s301_84, s301_85, s301_86, s301_87, s301_90, s301_92, s301_93, s301_96, s301_99, s301_101, s301_102, s301_103, s301_104, s301_105, s301_108, s301_111, s301_112, s301_113, s301_116, s301_117, mq_k0s, mq_k1s, mq_k2s, mq_k4s, mq_k5s, mq_k5n, mq_k5as, mq_k6s, mj_pu, mj_lo, mj_br, mj_hr, mj_hw, mq_gf, mq_len, mq_al, mq_pf, mq_ok, mj_re, mq_lkm, mq_lkn, mj_ldi, mj_ldl, mj_lda, mj_ii, mj_ll, mj_li, mj_i1, ms_1, ms_2, f1_n, f1_i, f1_r, f1_u, f1_l, f2_n, f2_i, f2_r, f2_u, f2_l, mj_tg, mj_c1, mj_c2, mj_ar, mj_aw, mq_cb, mq_oi, mj_rm, Value.category, -getElem?_pos, List.getElem?_cons_zero, decide_eq_true, decide_eq_false, nl_lt, nl_le, ln_lt, ln_le, nl_eq, ln_eq, nl_add, ln_add, nl_sub, ln_mul, nI_sub, nI_mul, nI_add, nI_lt_iff, nI_le_iff, nI_inj, nI_num, mq_ix, nI_1, nl_mul, nl_div, hl0, r1, e2]
    refine mq_wk ?_ hr
    simp [S_bx_mcan1_0, S_b8_mkey_1, S_b8_mkey_0, S_b1_mterm_0, S_b1_copy_0, S_b0_mod_7, S_b0_mod_6, S_b0_mod_5, S_b0_mod_3, S_b0_mod_2, S_b0_mod_1, S_b0_mod_0, S_bx_mcan1_1h, S_b0_mod_4h, mq_sub, mj_lk]
  · by_cases h23 : cbS ms p = 2 ∨ cbS ms p = 3
    · have := (cbOk_hd.mp ok).2 h23
      rw [if_pos h23, if_neg (by omega), if_neg (by omega)] at hr
      rcases h23 with g | g <;> rw [g] at r1 <;> simp (disch := (first | omega | decide)) [S_bx_mcan1_0, S_b8_mkey_1, S_b8_mkey_0, S_b1_mterm_0, S_b1_copy_0, S_b0_mod_7, S_b0_mod_6, S_b0_mod_5, S_b0_mod_3, S_b0_mod_2, S_b0_mod_1, S_b0_mod_0, S_bx_mcan1_1h, S_b0_mod_4h, s301_0, s301_1, s301_2, s301_3, s301_5, s301_6, s301_7, s301_10, s301_11, s301_12, s301_15, s301_17, s301_19, s301_21, s301_24, s301_25, s301_28, s301_29, s301_30, s301_33, s301_35, s301_37, s301_39, s301_42, s301_43, s301_44, s301_45, s301_48, s301_49, s301_50, s301_53, s301_54, s301_55, s301_57, s301_58, s301_61, s301_63, s301_64, s301_67, s301_69, s301_72, s301_73, s301_74, s301_75, s301_76, s301_78, s301_79, s301_82, s301_84, s301_85, s301_86, s301_87, s301_90, s301_92, s301_93, s301_96, s301_99, s301_101, s301_102, s301_103, s301_104, s301_105, s301_108, s301_111, s301_112, s301_113, s301_116, s301_117, mq_k0s, mq_k1s, mq_k2s, mq_k4s, mq_k5s, mq_k5n, mq_k5as, mq_k6s, mj_pu, mj_lo, mj_br, mj_hr, mj_hw, mq_gf, mq_len, mq_al, mq_pf, mq_ok, mj_re, mq_lkm, mq_lkn, mj_ldi, mj_ldl, mj_lda, mj_ii, mj_ll, mj_li, mj_i1, ms_1, ms_2, f1_n, f1_i, f1_r, f1_u, f1_l, f2_n, f2_i, f2_r, f2_u, f2_l, mj_tg, mj_c1, mj_c2, mj_ar, mj_aw, mq_cb, mq_oi, mj_rm, Value.category, -getElem?_pos, List.getElem?_cons_zero, decide_eq_true, decide_eq_false, nl_lt, nl_le, ln_lt, ln_le, nl_eq, ln_eq, nl_add, ln_add, nl_sub, ln_mul, nI_sub, nI_mul, nI_add, nI_lt_iff, nI_le_iff, nI_inj, nI_num, mq_ix, nI_1, nl_mul, nl_div, hl0, r1, r2, rb, e2] <;> (refine mq_wk ?_ hr; simp [S_bx_mcan1_0, S_b8_mkey_1, S_b8_mkey_0, S_b1_mterm_0, S_b1_copy_0, S_b0_mod_7, S_b0_mod_6, S_b0_mod_5, S_b0_mod_3, S_b0_mod_2, S_b0_mod_1, S_b0_mod_0, S_bx_mcan1_1h, S_b0_mod_4h, mq_sub, mj_lk])
    · rw [if_neg h23] at hr
      by_cases h4 : cbS ms p = 4
      · rw [if_pos h4] at hr
        rw [h4] at r1
        simp (disch := (first | omega | decide)) [S_bx_mcan1_0, S_b8_mkey_1, S_b8_mkey_0, S_b1_mterm_0, S_b1_copy_0, S_b0_mod_7, S_b0_mod_6, S_b0_mod_5, S_b0_mod_3, S_b0_mod_2, S_b0_mod_1, S_b0_mod_0, S_bx_mcan1_1h, S_b0_mod_4h, s301_0, s301_1, s301_2, s301_3, s301_5, s301_6, s301_7, s301_10, s301_11, s301_12, s301_15, s301_17, s301_19, s301_21, s301_24, s301_25, s301_28, s301_29, s301_30, s301_33, s301_35, s301_37, s301_39, s301_42, s301_43, s301_44, s301_45, s301_48, s301_49, s301_50, s301_53, s301_54, s301_55, s301_57, s301_58, s301_61, s301_63, s301_64, s301_67, s301_69, s301_72, s301_73, s301_74, s301_75, s301_76, s301_78, s301_79, s301_82, s301_84, s301_85, s301_86, s301_87, s301_90, s301_92, s301_93, s301_96, s301_99, s301_101, s301_102, s301_103, s301_104, s301_105, s301_108, s301_111, s301_112, s301_113, s301_116, s301_117, mq_k0s, mq_k1s, mq_k2s, mq_k4s, mq_k5s, mq_k5n, mq_k5as, mq_k6s, mj_pu, mj_lo, mj_br, mj_hr, mj_hw, mq_gf, mq_len, mq_al, mq_pf, mq_ok, mj_re, mq_lkm, mq_lkn, mj_ldi, mj_ldl, mj_lda, mj_ii, mj_ll, mj_li, mj_i1, ms_1, ms_2, f1_n, f1_i, f1_r, f1_u, f1_l, f2_n, f2_i, f2_r, f2_u, f2_l, mj_tg, mj_c1, mj_c2, mj_ar, mj_aw, mq_cb, mq_oi, mj_rm, Value.category, -getElem?_pos, List.getElem?_cons_zero, decide_eq_true, decide_eq_false, nl_lt, nl_le, ln_lt, ln_le, nl_eq, ln_eq, nl_add, ln_add, nl_sub, ln_mul, nI_sub, nI_mul, nI_add, nI_lt_iff, nI_le_iff, nI_inj, nI_num, mq_ix, nI_1, nl_mul, nl_div, hl0, r1, r2, rb, e3, e0]
        refine mq_wk ?_ hr
        simp [S_bx_mcan1_0, S_b8_mkey_1, S_b8_mkey_0, S_b1_mterm_0, S_b1_copy_0, S_b0_mod_7, S_b0_mod_6, S_b0_mod_5, S_b0_mod_3, S_b0_mod_2, S_b0_mod_1, S_b0_mod_0, S_bx_mcan1_1h, S_b0_mod_4h, mq_sub, mj_lk]
      · rw [if_neg h4] at hr
        by_cases h5 : cbS ms p = 5
        · rw [if_pos h5] at hr
          rw [h5] at r1
          simp (disch := (first | omega | decide)) [S_bx_mcan1_0, S_b8_mkey_1, S_b8_mkey_0, S_b1_mterm_0, S_b1_copy_0, S_b0_mod_7, S_b0_mod_6, S_b0_mod_5, S_b0_mod_3, S_b0_mod_2, S_b0_mod_1, S_b0_mod_0, S_bx_mcan1_1h, S_b0_mod_4h, s301_0, s301_1, s301_2, s301_3, s301_5, s301_6, s301_7, s301_10, s301_11, s301_12, s301_15, s301_17, s301_19, s301_21, s301_24, s301_25, s301_28, s301_29, s301_30, s301_33, s301_35, s301_37, s301_39, s301_42, s301_43, s301_44, s301_45, s301_48, s301_49, s301_50, s301_53, s301_54, s301_55, s301_57, s301_58, s301_61, s301_63, s301_64, s301_67, s301_69, s301_72, s301_73, s301_74, s301_75, s301_76, s301_78, s301_79, s301_82, s301_84, s301_85, s301_86, s301_87, s301_90, s301_92, s301_93, s301_96, s301_99, s301_101, s301_102, s301_103, s301_104, s301_105, s301_108, s301_111, s301_112, s301_113, s301_116, s301_117, mq_k0s, mq_k1s, mq_k2s, mq_k4s, mq_k5s, mq_k5n, mq_k5as, mq_k6s, mj_pu, mj_lo, mj_br, mj_hr, mj_hw, mq_gf, mq_len, mq_al, mq_pf, mq_ok, mj_re, mq_lkm, mq_lkn, mj_ldi, mj_ldl, mj_lda, mj_ii, mj_ll, mj_li, mj_i1, ms_1, ms_2, f1_n, f1_i, f1_r, f1_u, f1_l, f2_n, f2_i, f2_r, f2_u, f2_l, mj_tg, mj_c1, mj_c2, mj_ar, mj_aw, mq_cb, mq_oi, mj_rm, Value.category, -getElem?_pos, List.getElem?_cons_zero, decide_eq_true, decide_eq_false, nl_lt, nl_le, ln_lt, ln_le, nl_eq, ln_eq, nl_add, ln_add, nl_sub, ln_mul, nI_sub, nI_mul, nI_add, nI_lt_iff, nI_le_iff, nI_inj, nI_num, mq_ix, nI_1, nl_mul, nl_div, hl0, r1, r2, rb, e3, el, e1]
          refine mq_wk ?_ hr
          simp [S_bx_mcan1_0, S_b8_mkey_1, S_b8_mkey_0, S_b1_mterm_0, S_b1_copy_0, S_b0_mod_7, S_b0_mod_6, S_b0_mod_5, S_b0_mod_3, S_b0_mod_2, S_b0_mod_1, S_b0_mod_0, S_bx_mcan1_1h, S_b0_mod_4h, mq_sub, mj_lk]
        · rw [if_neg h5] at hr
          simp (disch := (first | omega | decide)) [S_bx_mcan1_0, S_b8_mkey_1, S_b8_mkey_0, S_b1_mterm_0, S_b1_copy_0, S_b0_mod_7, S_b0_mod_6, S_b0_mod_5, S_b0_mod_3, S_b0_mod_2, S_b0_mod_1, S_b0_mod_0, S_bx_mcan1_1h, S_b0_mod_4h, s301_0, s301_1, s301_2, s301_3, s301_5, s301_6, s301_7, s301_10, s301_11, s301_12, s301_15, s301_17, s301_19, s301_21, s301_24, s301_25, s301_28, s301_29, s301_30, s301_33, s301_35, s301_37, s301_39, s301_42, s301_43, s301_44, s301_45, s301_48, s301_49, s301_50, s301_53, s301_54, s301_55, s301_57, s301_58, s301_61, s301_63, s301_64, s301_67, s301_69, s301_72, s301_73, s301_74, s301_75, s301_76, s301_78, s301_79, s301_82, s301_84, s301_85, s301_86, s301_87, s301_90, s301_92, s301_93, s301_96, s301_99, s301_101, s301_102, s301_103, s301_104, s301_105, s301_108, s301_111, s301_112, s301_113, s301_116, s301_117, mq_k0s, mq_k1s, mq_k2s, mq_k4s, mq_k5s, mq_k5n, mq_k5as, mq_k6s, mj_pu, mj_lo, mj_br, mj_hr, mj_hw, mq_gf, mq_len, mq_al, mq_pf, mq_ok, mj_re, mq_lkm, mq_lkn, mj_ldi, mj_ldl, mj_lda, mj_ii, mj_ll, mj_li, mj_i1, ms_1, ms_2, f1_n, f1_i, f1_r, f1_u, f1_l, f2_n, f2_i, f2_r, f2_u, f2_l, mj_tg, mj_c1, mj_c2, mj_ar, mj_aw, mq_cb, mq_oi, mj_rm, Value.category, -getElem?_pos, List.getElem?_cons_zero, decide_eq_true, decide_eq_false, nl_lt, nl_le, ln_lt, ln_le, nl_eq, ln_eq, nl_add, ln_add, nl_sub, ln_mul, nI_sub, nI_mul, nI_add, nI_lt_iff, nI_le_iff, nI_inj, nI_num, mq_ix, nI_1, nl_mul, nl_div, hl0, r1, r2, rb, e2, h7, h4, h5, show ¬ cbS ms p = 2 by omega, show ¬ cbS ms p = 3 by omega]
          refine mq_wk ?_ hr
          simp [S_bx_mcan1_0, S_b8_mkey_1, S_b8_mkey_0, S_b1_mterm_0, S_b1_copy_0, S_b0_mod_7, S_b0_mod_6, S_b0_mod_5, S_b0_mod_3, S_b0_mod_2, S_b0_mod_1, S_b0_mod_0, S_bx_mcan1_1h, S_b0_mod_4h, mq_sub, mj_lk]
theorem bh_l1 {L n r : Nat} (h : L + 2000 * (r + 1 + 1) < 1000000) (hn : n + 1 ≤ 640) : L + n + 2000 * (r + 1) < 1000000 ∧ L + 2 * n + 1 + 2000 * (r + 1) < 1000000 ∧ L + 2 * n + 2000 * (r + 1) < 1000000 := by omega
theorem bh_I (h : xm x ms) : ∀ (r p q L : Nat), cbI ms r p = some q → L + 2000 * (r + 1) < 1000000 → ∀ res, mj_Rn (d + 2) mj_m301 4 [(3, .long (nL L)), (2, .int (nI q)), (0, .ref 67)] [] (mm B x y) = some res → mj_Rn (d + 2) mj_m301 4 [(3, .long (nL (L + 1))), (2, .int (nI p)), (0, .ref 67)] [] (mm B x y) = some res := by
  have hle := h.1.le
  intro r
  induction r with
  | zero =>
    intro p q L hI hL res hr
    have ok := cbI_ok hI
    by_cases h4 : cbS ms p = 4 ∨ cbS ms p = 5
    · rw [cbI_ar0 ok h4] at hI; cases hI
    · rw [cbI_leaf ok h4] at hI
      cases hI
      refine bh_1 h ok (by omega) _ ?_
      have : addL ms p = 0 := by unfold addL; rw [if_neg (by omega), if_neg (by omega)]
      rw [this]
      exact hr
  | succ r ih =>
    intro p q L hI hL res hr
    have ok := cbI_ok hI
    by_cases h4 : cbS ms p = 4 ∨ cbS ms p = 5
    · rw [cbI_ar ok h4] at hI
      have hc := ok.c
      have hqe : qe ms p = cbC ms p := by unfold qe; rw [if_neg (by omega)]
      refine bh_1 h ok (by omega) _ ?_
      rw [hqe]
      have hw : addL ms p = wW (decide (cbS ms p = 5)) (cbV ms p) := by
        unfold addL wW
        by_cases g : cbS ms p = 5
        · rw [if_neg (by omega)]; simp [S_bx_mcan1_0, S_b8_mkey_1, S_b8_mkey_0, S_b1_mterm_0, S_b1_copy_0, S_b0_mod_7, S_b0_mod_6, S_b0_mod_5, S_b0_mod_3, S_b0_mod_2, S_b0_mod_1, S_b0_mod_0, S_bx_mcan1_1h, S_b0_mod_4h, g]
        · rw [if_pos (by omega)]; simp [S_bx_mcan1_0, S_b8_mkey_1, S_b8_mkey_0, S_b1_mterm_0, S_b1_copy_0, S_b0_mod_7, S_b0_mod_6, S_b0_mod_5, S_b0_mod_3, S_b0_mod_2, S_b0_mod_1, S_b0_mod_0, S_bx_mcan1_1h, S_b0_mod_4h, g]
      rw [hw]
      have key : ∀ (n : Nat) (k : Option (Nat × Nat)) (p : Nat), p ≤ ms.length → cbQ (cbI ms r) ms (decide (cbS ms p = 5)) n k p = some q → True := fun _ _ _ _ _ => trivial
      clear key hw
      have hn : cbV ms p ≤ 640 := by have := cbQ_lt (cbI_lt r) _ _ _ _ hI hc.2; omega
      generalize decide (cbS ms p = 5) = im at hI
      generalize cbV ms p = n at hI hn
      generalize cbC ms p = p1 at hI
      generalize (none : Option (Nat × Nat)) = k at hI
      clear hqe h4 hc ok
      induction n generalizing p1 k with
      | zero =>
        have : wW im 0 = 0 := by unfold wW; split <;> rfl
        rw [this]
        cases hI
        exact hr
      | succ n ihn =>
        unfold cbQ at hI
        cases im with
        | false =>
          simp only [Bool.false_eq_true, if_false] at hI
          cases hJ : cbI ms r p1 with
          | none => rw [hJ] at hI; cases hI
          | some q1 =>
            rw [hJ] at hI
            dsimp only at hI
            have := ihn (by omega) _ _ hI
            have hw : wW false n = n := rfl
            have hw1 : wW false (n + 1) = n + 1 := rfl
            rw [hw] at this
            rw [hw1, ← Nat.add_assoc]
            have hlim := (bh_l1 hL hn).1
            exact ih p1 q1 (L + n) hJ hlim _ this
        | true =>
          simp only [if_true] at hI
          cases hJ : cbI ms r p1 with
          | none => rw [hJ] at hI; cases hI
          | some q1 =>
            rw [hJ] at hI
            dsimp only at hI
            split at hI
            · cases hJ2 : cbI ms r q1 with
              | none => rw [hJ2] at hI; cases hI
              | some q2 =>
                rw [hJ2] at hI
                dsimp only at hI
                have := ihn (by omega) _ _ hI
                have hw : wW true n = 2 * n := rfl
                have hw1 : wW true (n + 1) = 2 * n + 1 + 1 := rfl
                rw [hw] at this
                rw [hw1, ← Nat.add_assoc, ← Nat.add_assoc]
                have hl1 := (bh_l1 hL hn).2.1
                have hl2 := (bh_l1 hL hn).2.2
                exact ih p1 q1 (L + 2 * n + 1) hJ hl1 _ (ih q1 q2 (L + 2 * n) hJ2 hl2 _ this)
            · cases hI
    · rw [cbI_leaf ok h4] at hI
      cases hI
      refine bh_1 h ok (by omega) _ ?_
      have : addL ms p = 0 := by unfold addL; rw [if_neg (by omega), if_neg (by omega)]
      rw [this]
      exact hr
theorem q_behind (h : xm x ms) {p : Nat} (hi : Io ms p) : mj_V (d + 3) 301 [.ref 67, .int (nI p)] (mm B x y) = some (some (.int (nI (cbE ms p))), mm B x y) := by
  obtain ⟨r, hr, hI⟩ := hi
  have hle := h.1.le
  have hl := cbI_lt _ _ _ hI
  have fin : mj_Rn (d + 2) mj_m301 4 [(3, .long (nL 0)), (2, .int (nI (cbE ms p))), (0, .ref 67)] [] (mm B x y) = some (some (.int (nI (cbE ms p))), mm B x y) := by
    simp (disch := (first | omega | decide)) [S_bx_mcan1_0, S_b8_mkey_1, S_b8_mkey_0, S_b1_mterm_0, S_b1_copy_0, S_b0_mod_7, S_b0_mod_6, S_b0_mod_5, S_b0_mod_3, S_b0_mod_2, S_b0_mod_1, S_b0_mod_0, S_bx_mcan1_1h, S_b0_mod_4h, s301_0, s301_1, s301_2, s301_3, s301_4, s301_5, s301_6, s301_7, s301_10, s301_11, s301_12, s301_15, s301_17, s301_19, s301_21, s301_24, s301_25, s301_28, s301_29, s301_30, s301_33, s301_35, s301_37, s301_39, s301_42, s301_43, s301_44, s301_45, s301_48, s301_49, s301_50, s301_53, s301_54, s301_55, s301_57, s301_58, s301_61, s301_63, s301_64, s301_67, s301_69, s301_72, s301_73, s301_74, s301_75, s301_76, s301_78, s301_79, s301_82, s301_84, s301_85, s301_86, s301_87, s301_90, s301_92, s301_93, s301_96, s301_99, s301_101, s301_102, s301_103, s301_104, s301_105, s301_108, s301_111, s301_112, s301_113, s301_116, s301_117, mq_k0s, mq_k1s, mq_k2s, mq_k4s, mq_k5s, mq_k5n, mq_k5as, mq_k6s, mj_pu, mj_lo, mj_br, mj_hr, mj_hw, mq_gf, mq_len, mq_al, mq_pf, mq_ok, mj_re, mq_lkm, mq_lkn, mj_ldi, mj_ldl, mj_lda, mj_ii, mj_ll, mj_li, mj_i1, ms_1, ms_2, f1_n, f1_i, f1_r, f1_u, f1_l, f2_n, f2_i, f2_r, f2_u, f2_l, mj_tg, mj_c1, mj_c2, mj_ar, mj_aw, mq_cb, mq_oi, mj_rm, Value.category, -getElem?_pos, List.getElem?_cons_zero, decide_eq_true, decide_eq_false, nl_lt, nl_le, ln_lt, ln_le, nl_eq, ln_eq, nl_add, ln_add, nl_sub, ln_mul, nI_sub, nI_mul, nI_add, nI_lt_iff, nI_le_iff, nI_inj, nI_num, mq_ix, nI_1, nl_mul, nl_div, show nL 0 = 0 from rfl, show lg_cmp 0 0 = 0 from rfl, narrow]
  have := bh_I (d := d) (B := B) (x := x) (y := y) h r p _ 0 hI (by omega) _ fin
  rw [show nL (0 + 1) = 1 from rfl] at this
  simp (disch := (first | omega | decide)) [S_bx_mcan1_0, S_b8_mkey_1, S_b8_mkey_0, S_b1_mterm_0, S_b1_copy_0, S_b0_mod_7, S_b0_mod_6, S_b0_mod_5, S_b0_mod_3, S_b0_mod_2, S_b0_mod_1, S_b0_mod_0, S_bx_mcan1_1h, S_b0_mod_4h, c301, s301_0, s301_1, s301_2, s301_3, s301_5, s301_6, s301_7, s301_10, s301_11, s301_12, s301_15, s301_17, s301_19, s301_21, s301_24, s301_25, s301_28, s301_29, s301_30, s301_33, s301_35, s301_37, s301_39, s301_42, s301_43, s301_44, s301_45, s301_48, s301_49, s301_50, s301_53, s301_54, s301_55, s301_57, s301_58, s301_61, s301_63, s301_64, s301_67, s301_69, s301_72, s301_73, s301_74, s301_75, s301_76, s301_78, s301_79, s301_82, s301_84, s301_85, s301_86, s301_87, s301_90, s301_92, s301_93, s301_96, s301_99, s301_101, s301_102, s301_103, s301_104, s301_105, s301_108, s301_111, s301_112, s301_113, s301_116, s301_117, mq_k0s, mq_k1s, mq_k2s, mq_k4s, mq_k5s, mq_k5n, mq_k5as, mq_k6s, mj_pu, mj_lo, mj_br, mj_hr, mj_hw, mq_gf, mq_len, mq_al, mq_pf, mq_ok, mj_re, mq_lkm, mq_lkn, mj_ldi, mj_ldl, mj_lda, mj_ii, mj_ll, mj_li, mj_i1, ms_1, ms_2, f1_n, f1_i, f1_r, f1_u, f1_l, f2_n, f2_i, f2_r, f2_u, f2_l, mj_tg, mj_c1, mj_c2, mj_ar, mj_aw, mq_cb, mq_oi, mj_rm, Value.category, -getElem?_pos, List.getElem?_cons_zero, decide_eq_true, decide_eq_false, nl_lt, nl_le, ln_lt, ln_le, nl_eq, ln_eq, nl_add, ln_add, nl_sub, ln_mul, nI_sub, nI_mul, nI_add, nI_lt_iff, nI_le_iff, nI_inj, nI_num, mq_ix, nI_1, nl_mul, nl_div]
  refine mq_wk ?_ this
  simp [S_bx_mcan1_0, S_b8_mkey_1, S_b8_mkey_0, S_b1_mterm_0, S_b1_copy_0, S_b0_mod_7, S_b0_mod_6, S_b0_mod_5, S_b0_mod_3, S_b0_mod_2, S_b0_mod_1, S_b0_mod_0, S_bx_mcan1_1h, S_b0_mod_4h, mq_sub, mj_lk]
end
end
/- c1.mmember -/
section
set_option maxRecDepth 512
/-! The model: members of a map. -/
/- 300 PasskeyHouseModel.member(II)I -/
theorem s300_0 {d : Nat} {ls : mj_L} {st : List Value} {M : mj_H} : mj_Rn d mj_m300 0 ls st M = mq_k0 d mj_m300 1 ls M (mj_lda (mj_lk ls 0) st) := mj_R0 (r := (.aload_n 0, 1, 0, 0, 0)) rfl rfl
theorem s300_1 {d : Nat} {ls : mj_L} {st : List Value} {M : mj_H} : mj_Rn d mj_m300 1 ls st M = mq_k0 d mj_m300 2 ls M (mj_ldi (mj_lk ls 1) st) := mj_R0 (r := (.iload_n 1, 1, 0, 0, 0)) rfl rfl
theorem s300_2 {d : Nat} {ls : mj_L} {st : List Value} {M : mj_H} : mj_Rn (d + 1) mj_m300 2 ls st M = mq_k5a (d + 1) mj_m300 5 ls M 297 (mq_cb 0 1 11 st M) := mj_R5e (r := (.invokevirtual 402, 3, 0, 297, 36895)) (z := mj_m297) rfl rfl (by decide) (by decide) rfl
theorem s300_5 {d : Nat} {ls : mj_L} {st : List Value} {M : mj_H} : mj_Rn d mj_m300 5 ls st M = mq_k1 d mj_m300 6 M (mj_lo 6 (.istore 3) ls st) := (mj_R1 (r := (.istore_n 3, 1, 0, 0, 0)) rfl rfl).trans (congrArg (mq_k1 d mj_m300 6 M) (mq_sti (k := 3)))
theorem s300_6 {d : Nat} {ls : mj_L} {st : List Value} {M : mj_H} : mj_Rn d mj_m300 6 ls st M = mq_k0 d mj_m300 7 ls M (mj_lda (mj_lk ls 0) st) := mj_R0 (r := (.aload_n 0, 1, 0, 0, 0)) rfl rfl
theorem s300_7 {d : Nat} {ls : mj_L} {st : List Value} {M : mj_H} : mj_Rn d mj_m300 7 ls st M = mq_k0 d mj_m300 8 ls M (mj_ldi (mj_lk ls 1) st) := mj_R0 (r := (.iload_n 1, 1, 0, 0, 0)) rfl rfl
theorem s300_8 {d : Nat} {ls : mj_L} {st : List Value} {M : mj_H} : mj_Rn (d + 1) mj_m300 8 ls st M = mq_k5a (d + 1) mj_m300 11 ls M 295 (mq_cb 0 1 11 st M) := mj_R5e (r := (.invokevirtual 399, 3, 0, 295, 36888)) (z := mj_m295) rfl rfl (by decide) (by decide) rfl
theorem s300_11 {d : Nat} {ls : mj_L} {st : List Value} {M : mj_H} : mj_Rn d mj_m300 11 ls st M = mq_k1 d mj_m300 13 M (mj_lo 6 (.istore 4) ls st) := mj_R1 (r := (.istore 4, 2, 0, 0, 0)) rfl rfl
theorem s300_13 {d : Nat} {ls : mj_L} {st : List Value} {M : mj_H} : mj_Rn d mj_m300 13 ls st M = mj_Rn d mj_m300 14 ls (.int 0 :: st) M := mj_R0 (r := (.iconst 0, 1, 0, 0, 0)) rfl rfl
theorem s300_14 {d : Nat} {ls : mj_L} {st : List Value} {M : mj_H} : mj_Rn d mj_m300 14 ls st M = mq_k1 d mj_m300 16 M (mj_lo 6 (.istore 5) ls st) := mj_R1 (r := (.istore 5, 2, 0, 0, 0)) rfl rfl
theorem s300_16 {d : Nat} {ls : mj_L} {st : List Value} {M : mj_H} : mj_Rn d mj_m300 16 ls st M = mq_k0 d mj_m300 18 ls M (mj_ldi (mj_lk ls 5) st) := mj_R0 (r := (.iload 5, 2, 0, 0, 0)) rfl rfl
theorem s300_18 {d : Nat} {ls : mj_L} {st : List Value} {M : mj_H} : mj_Rn d mj_m300 18 ls st M = mq_k0 d mj_m300 19 ls M (mj_ldi (mj_lk ls 3) st) := mj_R0 (r := (.iload_n 3, 1, 0, 0, 0)) rfl rfl
theorem s300_19 {d : Nat} {ls : mj_L} {st : List Value} {M : mj_H} : mj_Rn d mj_m300 19 ls st M = mq_k2 d mj_m300 ls M (mj_br (.if_icmp .ge 37) 19 st) := mj_R2 (r := (.if_icmp .ge 37, 3, 0, 0, 0)) rfl rfl
theorem s300_22 {d : Nat} {ls : mj_L} {st : List Value} {M : mj_H} : mj_Rn d mj_m300 22 ls st M = mq_k0 d mj_m300 23 ls M (mj_lda (mj_lk ls 0) st) := mj_R0 (r := (.aload_n 0, 1, 0, 0, 0)) rfl rfl
theorem s300_23 {d : Nat} {ls : mj_L} {st : List Value} {M : mj_H} : mj_Rn d mj_m300 23 ls st M = mq_k0 d mj_m300 26 ls M (mq_gf 11 46 st M) := (mj_R3 (r := (.getfield 127, 3, 11, 46, 57400)) rfl rfl).trans (congrArg (mq_k0 d mj_m300 26 ls M) mq_gf_eq)
theorem s300_26 {d : Nat} {ls : mj_L} {st : List Value} {M : mj_H} : mj_Rn d mj_m300 26 ls st M = mq_k0 d mj_m300 28 ls M (mj_ldi (mj_lk ls 4) st) := mj_R0 (r := (.iload 4, 2, 0, 0, 0)) rfl rfl
theorem s300_28 {d : Nat} {ls : mj_L} {st : List Value} {M : mj_H} : mj_Rn d mj_m300 28 ls st M = mq_k0 d mj_m300 29 ls M (mq_al [1000] st M) := (mj_R3 (r := (.iaload, 1, 0, 0, 0)) rfl rfl).trans (congrArg (mq_k0 d mj_m300 29 ls M) mq_ali_eq)
theorem s300_29 {d : Nat} {ls : mj_L} {st : List Value} {M : mj_H} : mj_Rn d mj_m300 29 ls st M = mq_k0 d mj_m300 30 ls M (mj_ldi (mj_lk ls 2) st) := mj_R0 (r := (.iload_n 2, 1, 0, 0, 0)) rfl rfl
theorem s300_30 {d : Nat} {ls : mj_L} {st : List Value} {M : mj_H} : mj_Rn d mj_m300 30 ls st M = mq_k2 d mj_m300 ls M (mj_br (.if_icmp .ne 8) 30 st) := mj_R2 (r := (.if_icmp .ne 8, 3, 0, 0, 0)) rfl rfl
theorem s300_33 {d : Nat} {ls : mj_L} {st : List Value} {M : mj_H} : mj_Rn d mj_m300 33 ls st M = mq_k0 d mj_m300 35 ls M (mj_ldi (mj_lk ls 4) st) := mj_R0 (r := (.iload 4, 2, 0, 0, 0)) rfl rfl
theorem s300_35 {d : Nat} {ls : mj_L} {st : List Value} {M : mj_H} : mj_Rn d mj_m300 35 ls st M = mj_Rn d mj_m300 36 ls (.int 1 :: st) M := mj_R0 (r := (.iconst 1, 1, 0, 0, 0)) rfl rfl
theorem s300_36 {d : Nat} {ls : mj_L} {st : List Value} {M : mj_H} : mj_Rn d mj_m300 36 ls st M = mq_k0 d mj_m300 37 ls M (mj_pu .iadd ls st) := mj_R0 (r := (.iadd, 1, 0, 0, 0)) rfl rfl
theorem s300_37 {d : Nat} {ls : mj_L} {st : List Value} {M : mj_H} : mj_Rn d mj_m300 37 ls st M = mq_k6 M (mj_re (some .int) (.ireturn) st) := mj_R6 (r := (.ireturn, 1, 0, 0, 0)) rfl rfl
theorem s300_38 {d : Nat} {ls : mj_L} {st : List Value} {M : mj_H} : mj_Rn d mj_m300 38 ls st M = mq_k0 d mj_m300 39 ls M (mj_lda (mj_lk ls 0) st) := mj_R0 (r := (.aload_n 0, 1, 0, 0, 0)) rfl rfl
theorem s300_39 {d : Nat} {ls : mj_L} {st : List Value} {M : mj_H} : mj_Rn d mj_m300 39 ls st M = mq_k0 d mj_m300 40 ls M (mj_lda (mj_lk ls 0) st) := mj_R0 (r := (.aload_n 0, 1, 0, 0, 0)) rfl rfl
theorem s300_40 {d : Nat} {ls : mj_L} {st : List Value} {M : mj_H} : mj_Rn d mj_m300 40 ls st M = mq_k0 d mj_m300 42 ls M (mj_ldi (mj_lk ls 4) st) := mj_R0 (r := (.iload 4, 2, 0, 0, 0)) rfl rfl
theorem s300_42 {d : Nat} {ls : mj_L} {st : List Value} {M : mj_H} : mj_Rn (d + 1) mj_m300 42 ls st M = mq_k5a (d + 1) mj_m300 45 ls M 301 (mq_cb 0 1 11 st M) := mj_R5e (r := (.invokevirtual 416, 3, 0, 301, 36913)) (z := mj_m301) rfl rfl (by decide) (by decide) rfl
theorem s300_45 {d : Nat} {ls : mj_L} {st : List Value} {M : mj_H} : mj_Rn (d + 1) mj_m300 45 ls st M = mq_k5a (d + 1) mj_m300 48 ls M 301 (mq_cb 0 1 11 st M) := mj_R5e (r := (.invokevirtual 416, 3, 0, 301, 36913)) (z := mj_m301) rfl rfl (by decide) (by decide) rfl
theorem s300_48 {d : Nat} {ls : mj_L} {st : List Value} {M : mj_H} : mj_Rn d mj_m300 48 ls st M = mq_k1 d mj_m300 50 M (mj_lo 6 (.istore 4) ls st) := mj_R1 (r := (.istore 4, 2, 0, 0, 0)) rfl rfl
theorem s300_50 {d : Nat} {ls : mj_L} {st : List Value} {M : mj_H} : mj_Rn d mj_m300 50 ls st M = mq_k1 d mj_m300 53 M (mj_lo 6 (.iinc 5 1) ls st) := mj_R1 (r := (.iinc 5 1, 3, 0, 0, 0)) rfl rfl
theorem s300_53 {d : Nat} {ls : mj_L} {st : List Value} {M : mj_H} : mj_Rn d mj_m300 53 ls st M = mj_Rn d mj_m300 16 ls st M := mj_R2 (r := (.goto (-37), 3, 0, 0, 0)) rfl rfl
theorem s300_56 {d : Nat} {ls : mj_L} {st : List Value} {M : mj_H} : mj_Rn d mj_m300 56 ls st M = mj_Rn d mj_m300 57 ls (.int (-1) :: st) M := mj_R0 (r := (.iconst (-1), 1, 0, 0, 0)) rfl rfl
theorem s300_57 {d : Nat} {ls : mj_L} {st : List Value} {M : mj_H} : mj_Rn d mj_m300 57 ls st M = mq_k6 M (mj_re (some .int) (.ireturn) st) := mj_R6 (r := (.ireturn, 1, 0, 0, 0)) rfl rfl
/- 305 PasskeyHouseModel.isName(II)Z -/
theorem s305_0 {d : Nat} {ls : mj_L} {st : List Value} {M : mj_H} : mj_Rn d mj_m305 0 ls st M = mq_k0 d mj_m305 1 ls M (mj_ldi (mj_lk ls 2) st) := mj_R0 (r := (.iload_n 2, 1, 0, 0, 0)) rfl rfl
theorem s305_1 {d : Nat} {ls : mj_L} {st : List Value} {M : mj_H} : mj_Rn (d + 1) mj_m305 1 ls st M = mq_k5a (d + 1) mj_m305 4 ls M 283 (mq_cb 2 1 11 st M) := mj_R5e (r := (.invokestatic 420, 3, 2, 283, 32983)) (z := mj_m283) rfl rfl (by decide) (by decide) rfl
theorem s305_4 {d : Nat} {ls : mj_L} {st : List Value} {M : mj_H} : mj_Rn d mj_m305 4 ls st M = mq_k1 d mj_m305 5 M (mj_lo 6 (.istore 3) ls st) := (mj_R1 (r := (.istore_n 3, 1, 0, 0, 0)) rfl rfl).trans (congrArg (mq_k1 d mj_m305 5 M) (mq_sti (k := 3)))
theorem s305_5 {d : Nat} {ls : mj_L} {st : List Value} {M : mj_H} : mj_Rn d mj_m305 5 ls st M = mq_k0 d mj_m305 6 ls M (mj_lda (mj_lk ls 0) st) := mj_R0 (r := (.aload_n 0, 1, 0, 0, 0)) rfl rfl
theorem s305_6 {d : Nat} {ls : mj_L} {st : List Value} {M : mj_H} : mj_Rn d mj_m305 6 ls st M = mq_k0 d mj_m305 9 ls M (mq_gf 11 46 st M) := (mj_R3 (r := (.getfield 127, 3, 11, 46, 57400)) rfl rfl).trans (congrArg (mq_k0 d mj_m305 9 ls M) mq_gf_eq)
theorem s305_9 {d : Nat} {ls : mj_L} {st : List Value} {M : mj_H} : mj_Rn d mj_m305 9 ls st M = mq_k0 d mj_m305 10 ls M (mj_ldi (mj_lk ls 1) st) := mj_R0 (r := (.iload_n 1, 1, 0, 0, 0)) rfl rfl
theorem s305_10 {d : Nat} {ls : mj_L} {st : List Value} {M : mj_H} : mj_Rn d mj_m305 10 ls st M = mq_k0 d mj_m305 11 ls M (mq_al [1000] st M) := (mj_R3 (r := (.iaload, 1, 0, 0, 0)) rfl rfl).trans (congrArg (mq_k0 d mj_m305 11 ls M) mq_ali_eq)
theorem s305_11 {d : Nat} {ls : mj_L} {st : List Value} {M : mj_H} : mj_Rn d mj_m305 11 ls st M = mj_Rn d mj_m305 13 ls (.int 96 :: st) M := mj_R0 (r := (.bipush 96, 2, 0, 0, 0)) rfl rfl
theorem s305_13 {d : Nat} {ls : mj_L} {st : List Value} {M : mj_H} : mj_Rn d mj_m305 13 ls st M = mq_k0 d mj_m305 14 ls M (mj_ldi (mj_lk ls 3) st) := mj_R0 (r := (.iload_n 3, 1, 0, 0, 0)) rfl rfl
theorem s305_14 {d : Nat} {ls : mj_L} {st : List Value} {M : mj_H} : mj_Rn d mj_m305 14 ls st M = mq_k0 d mj_m305 15 ls M (mj_pu .iadd ls st) := mj_R0 (r := (.iadd, 1, 0, 0, 0)) rfl rfl
theorem s305_15 {d : Nat} {ls : mj_L} {st : List Value} {M : mj_H} : mj_Rn d mj_m305 15 ls st M = mq_k2 d mj_m305 ls M (mj_br (.if_icmp .ne 7) 15 st) := mj_R2 (r := (.if_icmp .ne 7, 3, 0, 0, 0)) rfl rfl
theorem s305_18 {d : Nat} {ls : mj_L} {st : List Value} {M : mj_H} : mj_Rn d mj_m305 18 ls st M = mj_Rn d mj_m305 19 ls (.int 1 :: st) M := mj_R0 (r := (.iconst 1, 1, 0, 0, 0)) rfl rfl
theorem s305_19 {d : Nat} {ls : mj_L} {st : List Value} {M : mj_H} : mj_Rn d mj_m305 19 ls st M = mj_Rn d mj_m305 23 ls st M := mj_R2 (r := (.goto 4, 3, 0, 0, 0)) rfl rfl
theorem s305_22 {d : Nat} {ls : mj_L} {st : List Value} {M : mj_H} : mj_Rn d mj_m305 22 ls st M = mj_Rn d mj_m305 23 ls (.int 0 :: st) M := mj_R0 (r := (.iconst 0, 1, 0, 0, 0)) rfl rfl
theorem s305_23 {d : Nat} {ls : mj_L} {st : List Value} {M : mj_H} : mj_Rn d mj_m305 23 ls st M = mq_k1 d mj_m305 25 M (mj_lo 6 (.istore 4) ls st) := mj_R1 (r := (.istore 4, 2, 0, 0, 0)) rfl rfl
theorem s305_25 {d : Nat} {ls : mj_L} {st : List Value} {M : mj_H} : mj_Rn d mj_m305 25 ls st M = mj_Rn d mj_m305 26 ls (.int 0 :: st) M := mj_R0 (r := (.iconst 0, 1, 0, 0, 0)) rfl rfl
theorem s305_26 {d : Nat} {ls : mj_L} {st : List Value} {M : mj_H} : mj_Rn d mj_m305 26 ls st M = mq_k1 d mj_m305 28 M (mj_lo 6 (.istore 5) ls st) := mj_R1 (r := (.istore 5, 2, 0, 0, 0)) rfl rfl
theorem s305_28 {d : Nat} {ls : mj_L} {st : List Value} {M : mj_H} : mj_Rn d mj_m305 28 ls st M = mq_k0 d mj_m305 30 ls M (mj_ldi (mj_lk ls 5) st) := mj_R0 (r := (.iload 5, 2, 0, 0, 0)) rfl rfl
theorem s305_30 {d : Nat} {ls : mj_L} {st : List Value} {M : mj_H} : mj_Rn d mj_m305 30 ls st M = mq_k0 d mj_m305 31 ls M (mj_ldi (mj_lk ls 3) st) := mj_R0 (r := (.iload_n 3, 1, 0, 0, 0)) rfl rfl
theorem s305_31 {d : Nat} {ls : mj_L} {st : List Value} {M : mj_H} : mj_Rn d mj_m305 31 ls st M = mq_k2 d mj_m305 ls M (mj_br (.if_icmp .ge 50) 31 st) := mj_R2 (r := (.if_icmp .ge 50, 3, 0, 0, 0)) rfl rfl
theorem s305_34 {d : Nat} {ls : mj_L} {st : List Value} {M : mj_H} : mj_Rn d mj_m305 34 ls st M = mq_k0 d mj_m305 36 ls M (mj_ldi (mj_lk ls 4) st) := mj_R0 (r := (.iload 4, 2, 0, 0, 0)) rfl rfl
theorem s305_36 {d : Nat} {ls : mj_L} {st : List Value} {M : mj_H} : mj_Rn d mj_m305 36 ls st M = mq_k2 d mj_m305 ls M (mj_br (.ifCond .eq 45) 36 st) := mj_R2 (r := (.ifCond .eq 45, 3, 0, 0, 0)) rfl rfl
theorem s305_39 {d : Nat} {ls : mj_L} {st : List Value} {M : mj_H} : mj_Rn d mj_m305 39 ls st M = mq_k0 d mj_m305 40 ls M (mj_lda (mj_lk ls 0) st) := mj_R0 (r := (.aload_n 0, 1, 0, 0, 0)) rfl rfl
theorem s305_40 {d : Nat} {ls : mj_L} {st : List Value} {M : mj_H} : mj_Rn d mj_m305 40 ls st M = mq_k0 d mj_m305 43 ls M (mq_gf 11 46 st M) := (mj_R3 (r := (.getfield 127, 3, 11, 46, 57400)) rfl rfl).trans (congrArg (mq_k0 d mj_m305 43 ls M) mq_gf_eq)
theorem s305_43 {d : Nat} {ls : mj_L} {st : List Value} {M : mj_H} : mj_Rn d mj_m305 43 ls st M = mq_k0 d mj_m305 44 ls M (mj_ldi (mj_lk ls 1) st) := mj_R0 (r := (.iload_n 1, 1, 0, 0, 0)) rfl rfl
theorem s305_44 {d : Nat} {ls : mj_L} {st : List Value} {M : mj_H} : mj_Rn d mj_m305 44 ls st M = mj_Rn d mj_m305 45 ls (.int 1 :: st) M := mj_R0 (r := (.iconst 1, 1, 0, 0, 0)) rfl rfl
theorem s305_45 {d : Nat} {ls : mj_L} {st : List Value} {M : mj_H} : mj_Rn d mj_m305 45 ls st M = mq_k0 d mj_m305 46 ls M (mj_pu .iadd ls st) := mj_R0 (r := (.iadd, 1, 0, 0, 0)) rfl rfl
theorem s305_46 {d : Nat} {ls : mj_L} {st : List Value} {M : mj_H} : mj_Rn d mj_m305 46 ls st M = mq_k0 d mj_m305 48 ls M (mj_ldi (mj_lk ls 5) st) := mj_R0 (r := (.iload 5, 2, 0, 0, 0)) rfl rfl
theorem s305_48 {d : Nat} {ls : mj_L} {st : List Value} {M : mj_H} : mj_Rn d mj_m305 48 ls st M = mq_k0 d mj_m305 49 ls M (mj_pu .iadd ls st) := mj_R0 (r := (.iadd, 1, 0, 0, 0)) rfl rfl
theorem s305_49 {d : Nat} {ls : mj_L} {st : List Value} {M : mj_H} : mj_Rn d mj_m305 49 ls st M = mq_k0 d mj_m305 50 ls M (mq_al [1000] st M) := (mj_R3 (r := (.iaload, 1, 0, 0, 0)) rfl rfl).trans (congrArg (mq_k0 d mj_m305 50 ls M) mq_ali_eq)
theorem s305_50 {d : Nat} {ls : mj_L} {st : List Value} {M : mj_H} : mj_Rn d mj_m305 50 ls st M = mq_k0 d mj_m305 51 ls M (mj_ldi (mj_lk ls 2) st) := mj_R0 (r := (.iload_n 2, 1, 0, 0, 0)) rfl rfl
theorem s305_51 {d : Nat} {ls : mj_L} {st : List Value} {M : mj_H} : mj_Rn d mj_m305 51 ls st M = mj_Rn d mj_m305 53 ls (.int 8 :: st) M := mj_R0 (r := (.bipush 8, 2, 0, 0, 0)) rfl rfl
theorem s305_53 {d : Nat} {ls : mj_L} {st : List Value} {M : mj_H} : mj_Rn d mj_m305 53 ls st M = mq_k0 d mj_m305 54 ls M (mj_ldi (mj_lk ls 3) st) := mj_R0 (r := (.iload_n 3, 1, 0, 0, 0)) rfl rfl
theorem s305_54 {d : Nat} {ls : mj_L} {st : List Value} {M : mj_H} : mj_Rn d mj_m305 54 ls st M = mj_Rn d mj_m305 55 ls (.int 1 :: st) M := mj_R0 (r := (.iconst 1, 1, 0, 0, 0)) rfl rfl
theorem s305_55 {d : Nat} {ls : mj_L} {st : List Value} {M : mj_H} : mj_Rn d mj_m305 55 ls st M = mq_k0 d mj_m305 56 ls M (mj_pu .isub ls st) := mj_R0 (r := (.isub, 1, 0, 0, 0)) rfl rfl
theorem s305_56 {d : Nat} {ls : mj_L} {st : List Value} {M : mj_H} : mj_Rn d mj_m305 56 ls st M = mq_k0 d mj_m305 58 ls M (mj_ldi (mj_lk ls 5) st) := mj_R0 (r := (.iload 5, 2, 0, 0, 0)) rfl rfl
theorem s305_58 {d : Nat} {ls : mj_L} {st : List Value} {M : mj_H} : mj_Rn d mj_m305 58 ls st M = mq_k0 d mj_m305 59 ls M (mj_pu .isub ls st) := mj_R0 (r := (.isub, 1, 0, 0, 0)) rfl rfl
theorem s305_59 {d : Nat} {ls : mj_L} {st : List Value} {M : mj_H} : mj_Rn d mj_m305 59 ls st M = mq_k0 d mj_m305 60 ls M (mj_pu .imul ls st) := mj_R0 (r := (.imul, 1, 0, 0, 0)) rfl rfl
theorem s305_60 {d : Nat} {ls : mj_L} {st : List Value} {M : mj_H} : mj_Rn d mj_m305 60 ls st M = mq_k0 d mj_m305 61 ls M (mj_pu .ishr ls st) := mj_R0 (r := (.ishr, 1, 0, 0, 0)) rfl rfl
theorem s305_61 {d : Nat} {ls : mj_L} {st : List Value} {M : mj_H} : mj_Rn d mj_m305 61 ls st M = mj_Rn d mj_m305 64 ls (.int 255 :: st) M := mj_R0 (r := (.sipush 255, 3, 0, 0, 0)) rfl rfl
theorem s305_64 {d : Nat} {ls : mj_L} {st : List Value} {M : mj_H} : mj_Rn d mj_m305 64 ls st M = mq_k0 d mj_m305 65 ls M (mj_pu .iand ls st) := mj_R0 (r := (.iand, 1, 0, 0, 0)) rfl rfl
theorem s305_65 {d : Nat} {ls : mj_L} {st : List Value} {M : mj_H} : mj_Rn d mj_m305 65 ls st M = mq_k2 d mj_m305 ls M (mj_br (.if_icmp .ne 7) 65 st) := mj_R2 (r := (.if_icmp .ne 7, 3, 0, 0, 0)) rfl rfl
theorem s305_68 {d : Nat} {ls : mj_L} {st : List Value} {M : mj_H} : mj_Rn d mj_m305 68 ls st M = mj_Rn d mj_m305 69 ls (.int 1 :: st) M := mj_R0 (r := (.iconst 1, 1, 0, 0, 0)) rfl rfl
theorem s305_69 {d : Nat} {ls : mj_L} {st : List Value} {M : mj_H} : mj_Rn d mj_m305 69 ls st M = mj_Rn d mj_m305 73 ls st M := mj_R2 (r := (.goto 4, 3, 0, 0, 0)) rfl rfl
theorem s305_72 {d : Nat} {ls : mj_L} {st : List Value} {M : mj_H} : mj_Rn d mj_m305 72 ls st M = mj_Rn d mj_m305 73 ls (.int 0 :: st) M := mj_R0 (r := (.iconst 0, 1, 0, 0, 0)) rfl rfl
theorem s305_73 {d : Nat} {ls : mj_L} {st : List Value} {M : mj_H} : mj_Rn d mj_m305 73 ls st M = mq_k1 d mj_m305 75 M (mj_lo 6 (.istore 4) ls st) := mj_R1 (r := (.istore 4, 2, 0, 0, 0)) rfl rfl
theorem s305_75 {d : Nat} {ls : mj_L} {st : List Value} {M : mj_H} : mj_Rn d mj_m305 75 ls st M = mq_k1 d mj_m305 78 M (mj_lo 6 (.iinc 5 1) ls st) := mj_R1 (r := (.iinc 5 1, 3, 0, 0, 0)) rfl rfl
theorem s305_78 {d : Nat} {ls : mj_L} {st : List Value} {M : mj_H} : mj_Rn d mj_m305 78 ls st M = mj_Rn d mj_m305 28 ls st M := mj_R2 (r := (.goto (-50), 3, 0, 0, 0)) rfl rfl
theorem s305_81 {d : Nat} {ls : mj_L} {st : List Value} {M : mj_H} : mj_Rn d mj_m305 81 ls st M = mq_k0 d mj_m305 83 ls M (mj_ldi (mj_lk ls 4) st) := mj_R0 (r := (.iload 4, 2, 0, 0, 0)) rfl rfl
theorem s305_83 {d : Nat} {ls : mj_L} {st : List Value} {M : mj_H} : mj_Rn d mj_m305 83 ls st M = mq_k6 M (mj_re (some .boolean) (.ireturn) st) := mj_R6 (r := (.ireturn, 1, 0, 0, 0)) rfl rfl
/- 304 PasskeyHouseModel.named(II)I -/
theorem s304_0 {d : Nat} {ls : mj_L} {st : List Value} {M : mj_H} : mj_Rn d mj_m304 0 ls st M = mq_k0 d mj_m304 1 ls M (mj_lda (mj_lk ls 0) st) := mj_R0 (r := (.aload_n 0, 1, 0, 0, 0)) rfl rfl
theorem s304_1 {d : Nat} {ls : mj_L} {st : List Value} {M : mj_H} : mj_Rn d mj_m304 1 ls st M = mq_k0 d mj_m304 2 ls M (mj_ldi (mj_lk ls 1) st) := mj_R0 (r := (.iload_n 1, 1, 0, 0, 0)) rfl rfl
theorem s304_2 {d : Nat} {ls : mj_L} {st : List Value} {M : mj_H} : mj_Rn (d + 1) mj_m304 2 ls st M = mq_k5a (d + 1) mj_m304 5 ls M 297 (mq_cb 0 1 11 st M) := mj_R5e (r := (.invokevirtual 402, 3, 0, 297, 36895)) (z := mj_m297) rfl rfl (by decide) (by decide) rfl
theorem s304_5 {d : Nat} {ls : mj_L} {st : List Value} {M : mj_H} : mj_Rn d mj_m304 5 ls st M = mq_k1 d mj_m304 6 M (mj_lo 6 (.istore 3) ls st) := (mj_R1 (r := (.istore_n 3, 1, 0, 0, 0)) rfl rfl).trans (congrArg (mq_k1 d mj_m304 6 M) (mq_sti (k := 3)))
theorem s304_6 {d : Nat} {ls : mj_L} {st : List Value} {M : mj_H} : mj_Rn d mj_m304 6 ls st M = mq_k0 d mj_m304 7 ls M (mj_lda (mj_lk ls 0) st) := mj_R0 (r := (.aload_n 0, 1, 0, 0, 0)) rfl rfl
theorem s304_7 {d : Nat} {ls : mj_L} {st : List Value} {M : mj_H} : mj_Rn d mj_m304 7 ls st M = mq_k0 d mj_m304 8 ls M (mj_ldi (mj_lk ls 1) st) := mj_R0 (r := (.iload_n 1, 1, 0, 0, 0)) rfl rfl
theorem s304_8 {d : Nat} {ls : mj_L} {st : List Value} {M : mj_H} : mj_Rn (d + 1) mj_m304 8 ls st M = mq_k5a (d + 1) mj_m304 11 ls M 295 (mq_cb 0 1 11 st M) := mj_R5e (r := (.invokevirtual 399, 3, 0, 295, 36888)) (z := mj_m295) rfl rfl (by decide) (by decide) rfl
theorem s304_11 {d : Nat} {ls : mj_L} {st : List Value} {M : mj_H} : mj_Rn d mj_m304 11 ls st M = mq_k1 d mj_m304 13 M (mj_lo 6 (.istore 4) ls st) := mj_R1 (r := (.istore 4, 2, 0, 0, 0)) rfl rfl
theorem s304_13 {d : Nat} {ls : mj_L} {st : List Value} {M : mj_H} : mj_Rn d mj_m304 13 ls st M = mj_Rn d mj_m304 14 ls (.int 0 :: st) M := mj_R0 (r := (.iconst 0, 1, 0, 0, 0)) rfl rfl
theorem s304_14 {d : Nat} {ls : mj_L} {st : List Value} {M : mj_H} : mj_Rn d mj_m304 14 ls st M = mq_k1 d mj_m304 16 M (mj_lo 6 (.istore 5) ls st) := mj_R1 (r := (.istore 5, 2, 0, 0, 0)) rfl rfl
theorem s304_16 {d : Nat} {ls : mj_L} {st : List Value} {M : mj_H} : mj_Rn d mj_m304 16 ls st M = mq_k0 d mj_m304 18 ls M (mj_ldi (mj_lk ls 5) st) := mj_R0 (r := (.iload 5, 2, 0, 0, 0)) rfl rfl
theorem s304_18 {d : Nat} {ls : mj_L} {st : List Value} {M : mj_H} : mj_Rn d mj_m304 18 ls st M = mq_k0 d mj_m304 19 ls M (mj_ldi (mj_lk ls 3) st) := mj_R0 (r := (.iload_n 3, 1, 0, 0, 0)) rfl rfl
theorem s304_19 {d : Nat} {ls : mj_L} {st : List Value} {M : mj_H} : mj_Rn d mj_m304 19 ls st M = mq_k2 d mj_m304 ls M (mj_br (.if_icmp .ge 38) 19 st) := mj_R2 (r := (.if_icmp .ge 38, 3, 0, 0, 0)) rfl rfl
theorem s304_22 {d : Nat} {ls : mj_L} {st : List Value} {M : mj_H} : mj_Rn d mj_m304 22 ls st M = mq_k0 d mj_m304 23 ls M (mj_lda (mj_lk ls 0) st) := mj_R0 (r := (.aload_n 0, 1, 0, 0, 0)) rfl rfl
theorem s304_23 {d : Nat} {ls : mj_L} {st : List Value} {M : mj_H} : mj_Rn d mj_m304 23 ls st M = mq_k0 d mj_m304 25 ls M (mj_ldi (mj_lk ls 4) st) := mj_R0 (r := (.iload 4, 2, 0, 0, 0)) rfl rfl
theorem s304_25 {d : Nat} {ls : mj_L} {st : List Value} {M : mj_H} : mj_Rn d mj_m304 25 ls st M = mq_k0 d mj_m304 26 ls M (mj_ldi (mj_lk ls 2) st) := mj_R0 (r := (.iload_n 2, 1, 0, 0, 0)) rfl rfl
theorem s304_26 {d : Nat} {ls : mj_L} {st : List Value} {M : mj_H} : mj_Rn (d + 1) mj_m304 26 ls st M = mq_k5a (d + 1) mj_m304 29 ls M 305 (mq_cb 0 2 11 st M) := mj_R5e (r := (.invokevirtual 423, 3, 0, 305, 36930)) (z := mj_m305) rfl rfl (by decide) (by decide) rfl
theorem s304_29 {d : Nat} {ls : mj_L} {st : List Value} {M : mj_H} : mj_Rn d mj_m304 29 ls st M = mq_k2 d mj_m304 ls M (mj_br (.ifCond .eq 10) 29 st) := mj_R2 (r := (.ifCond .eq 10, 3, 0, 0, 0)) rfl rfl
theorem s304_32 {d : Nat} {ls : mj_L} {st : List Value} {M : mj_H} : mj_Rn d mj_m304 32 ls st M = mq_k0 d mj_m304 33 ls M (mj_lda (mj_lk ls 0) st) := mj_R0 (r := (.aload_n 0, 1, 0, 0, 0)) rfl rfl
theorem s304_33 {d : Nat} {ls : mj_L} {st : List Value} {M : mj_H} : mj_Rn d mj_m304 33 ls st M = mq_k0 d mj_m304 35 ls M (mj_ldi (mj_lk ls 4) st) := mj_R0 (r := (.iload 4, 2, 0, 0, 0)) rfl rfl
theorem s304_35 {d : Nat} {ls : mj_L} {st : List Value} {M : mj_H} : mj_Rn (d + 1) mj_m304 35 ls st M = mq_k5a (d + 1) mj_m304 38 ls M 301 (mq_cb 0 1 11 st M) := mj_R5e (r := (.invokevirtual 416, 3, 0, 301, 36913)) (z := mj_m301) rfl rfl (by decide) (by decide) rfl
theorem s304_38 {d : Nat} {ls : mj_L} {st : List Value} {M : mj_H} : mj_Rn d mj_m304 38 ls st M = mq_k6 M (mj_re (some .int) (.ireturn) st) := mj_R6 (r := (.ireturn, 1, 0, 0, 0)) rfl rfl
theorem s304_39 {d : Nat} {ls : mj_L} {st : List Value} {M : mj_H} : mj_Rn d mj_m304 39 ls st M = mq_k0 d mj_m304 40 ls M (mj_lda (mj_lk ls 0) st) := mj_R0 (r := (.aload_n 0, 1, 0, 0, 0)) rfl rfl
theorem s304_40 {d : Nat} {ls : mj_L} {st : List Value} {M : mj_H} : mj_Rn d mj_m304 40 ls st M = mq_k0 d mj_m304 41 ls M (mj_lda (mj_lk ls 0) st) := mj_R0 (r := (.aload_n 0, 1, 0, 0, 0)) rfl rfl
theorem s304_41 {d : Nat} {ls : mj_L} {st : List Value} {M : mj_H} : mj_Rn d mj_m304 41 ls st M = mq_k0 d mj_m304 43 ls M (mj_ldi (mj_lk ls 4) st) := mj_R0 (r := (.iload 4, 2, 0, 0, 0)) rfl rfl
theorem s304_43 {d : Nat} {ls : mj_L} {st : List Value} {M : mj_H} : mj_Rn (d + 1) mj_m304 43 ls st M = mq_k5a (d + 1) mj_m304 46 ls M 301 (mq_cb 0 1 11 st M) := mj_R5e (r := (.invokevirtual 416, 3, 0, 301, 36913)) (z := mj_m301) rfl rfl (by decide) (by decide) rfl
theorem s304_46 {d : Nat} {ls : mj_L} {st : List Value} {M : mj_H} : mj_Rn (d + 1) mj_m304 46 ls st M = mq_k5a (d + 1) mj_m304 49 ls M 301 (mq_cb 0 1 11 st M) := mj_R5e (r := (.invokevirtual 416, 3, 0, 301, 36913)) (z := mj_m301) rfl rfl (by decide) (by decide) rfl
theorem s304_49 {d : Nat} {ls : mj_L} {st : List Value} {M : mj_H} : mj_Rn d mj_m304 49 ls st M = mq_k1 d mj_m304 51 M (mj_lo 6 (.istore 4) ls st) := mj_R1 (r := (.istore 4, 2, 0, 0, 0)) rfl rfl
theorem s304_51 {d : Nat} {ls : mj_L} {st : List Value} {M : mj_H} : mj_Rn d mj_m304 51 ls st M = mq_k1 d mj_m304 54 M (mj_lo 6 (.iinc 5 1) ls st) := mj_R1 (r := (.iinc 5 1, 3, 0, 0, 0)) rfl rfl
theorem s304_54 {d : Nat} {ls : mj_L} {st : List Value} {M : mj_H} : mj_Rn d mj_m304 54 ls st M = mj_Rn d mj_m304 16 ls st M := mj_R2 (r := (.goto (-38), 3, 0, 0, 0)) rfl rfl
theorem s304_57 {d : Nat} {ls : mj_L} {st : List Value} {M : mj_H} : mj_Rn d mj_m304 57 ls st M = mj_Rn d mj_m304 58 ls (.int (-1) :: st) M := mj_R0 (r := (.iconst (-1), 1, 0, 0, 0)) rfl rfl
theorem s304_58 {d : Nat} {ls : mj_L} {st : List Value} {M : mj_H} : mj_Rn d mj_m304 58 ls st M = mq_k6 M (mj_re (some .int) (.ireturn) st) := mj_R6 (r := (.ireturn, 1, 0, 0, 0)) rfl rfl
theorem c300 {d : Nat} {a0 : Nat} {x1 : Int32} {x2 : Int32} {M : mj_H} : mj_V (d + 1) 300 [.ref a0, .int x1, .int x2] M = mj_Rn d mj_m300 0 [(0, .ref a0), (1, .int x1), (2, .int x2)] [] M := mj_V_go rfl (Nat.le_of_ble_eq_true rfl)
theorem c305 {d : Nat} {a0 : Nat} {x1 : Int32} {x2 : Int32} {M : mj_H} : mj_V (d + 1) 305 [.ref a0, .int x1, .int x2] M = mj_Rn d mj_m305 0 [(0, .ref a0), (1, .int x1), (2, .int x2)] [] M := mj_V_go rfl (Nat.le_of_ble_eq_true rfl)
theorem c304 {d : Nat} {a0 : Nat} {x1 : Int32} {x2 : Int32} {M : mj_H} : mj_V (d + 1) 304 [.ref a0, .int x1, .int x2] M = mj_Rn d mj_m304 0 [(0, .ref a0), (1, .int x1), (2, .int x2)] [] M := mj_V_go rfl (Nat.le_of_ble_eq_true rfl)
def oP : Option Nat → Int32
  | none => -1
  | some p => nI p
abbrev Nn (name : Int32) (t : List Int32) : Prop := nmL name = t.length ∧ 2 ≤ t.length ∧ t.length ≤ 4 ∧ (∀ k, k < t.length → name >>> (nI (8 * (t.length - 1 - k)) &&& 31) &&& 255 = t.getD k 0)
theorem nn_id : Nn 26980 id_ := by decide +kernel
theorem nn_alg : Nn 6384743 alg_ := by decide +kernel
theorem nn_ty : Nn 1954115685 ty_ := by decide +kernel
theorem nn_rk : Nn 29291 rk_ := by decide +kernel
theorem nn_uv : Nn 30070 uv_ := by decide +kernel
theorem nn_up : Nn 30064 up_ := by decide +kernel
theorem is_key {ms : List Int32} {p i : Nat} (ok : cbOk ms p) (hi : i < 24) : cbIs ms i p = decide (cbB ms p = i) := by
  unfold cbIs
  rw [← Bool.decide_and]
  apply decide_eq_decide.mpr
  have hk := (cbOk_hd.mp ok).1.2.2.2.2.1
  have hS : cbS ms p = cbB ms p / 32 := rfl
  have hX : cbX ms p = cbB ms p % 32 := rfl
  have hV : cbX ms p < 24 → cbV ms p = cbX ms p := fun z => by unfold cbV; rw [if_pos z]
  constructor
  · rintro ⟨a, b⟩
    by_cases z : cbX ms p < 24
    · have := hV z; omega
    · omega
  · intro a
    have := hV (by omega)
    omega
theorem is_txt {ms : List Int32} {p n : Nat} (ok : cbOk ms p) (hn : n < 24) : (cbS ms p = 3 ∧ cbV ms p = n) ↔ cbB ms p = 96 + n := by
  have hk := (cbOk_hd.mp ok).1.2.2.2.2.1
  have hS : cbS ms p = cbB ms p / 32 := rfl
  have hX : cbX ms p = cbB ms p % 32 := rfl
  have hV : cbX ms p < 24 → cbV ms p = cbX ms p := fun z => by unfold cbV; rw [if_pos z]
  constructor
  · rintro ⟨a, b⟩
    by_cases z : cbX ms p < 24
    · have := hV z; omega
    · omega
  · intro a
    have := hV (by omega)
    omega
section
variable {d : Nat} {B : Bs} {x : Fx} {y : Sy} {ms : List Int32}
theorem l_memM (h : xm x ms) {i : Nat} (hi : i < 24) {rr N : Nat} (hr : rr ≤ 4) (hN : N < 2 ^ 31) : ∀ (n j : Nat) (k : Option (Nat × Nat)) (p q : Nat), cbQ (cbI ms rr) ms true n k p = some q → p ≤ ms.length → j + n = N →
    mj_Rn (d + 3) mj_m300 16 [(5, .int (nI j)), (4, .int (nI p)), (3, .int (nI N)), (0, .ref 67), (2, .int (nI i))] [] (mm B x y) = some (some (.int (oP (cbMem ms (cbIs ms i) n p))), mm B x y) := by
  have hle := h.1.le
  have hl : x.2.1.1.1.2.2.length = 640 := by obtain ⟨g, -, hl⟩ := h.1; exact hl
  intro n
  induction n with
  | zero =>
    intro j k p q hq hp hj
    simp only [cbMem, oP]
    simp (disch := (first | omega | decide)) [S_bx_mcan1_0, S_b8_mkey_1, S_b8_mkey_0, S_b1_mterm_0, S_b1_copy_0, S_b0_mod_7, S_b0_mod_6, S_b0_mod_5, S_b0_mod_3, S_b0_mod_2, S_b0_mod_1, S_b0_mod_0, S_bx_mcan1_1h, S_b0_mod_4h, s300_0, s300_1, s300_2, s300_5, s300_6, s300_7, s300_8, s300_11, s300_13, s300_14, s300_16, s300_18, s300_19, s300_22, s300_23, s300_26, s300_28, s300_29, s300_30, s300_33, s300_35, s300_36, s300_37, s300_38, s300_39, s300_40, s300_42, s300_45, s300_48, s300_50, s300_53, s300_56, s300_57, mq_k0s, mq_k1s, mq_k2s, mq_k4s, mq_k5s, mq_k5n, mq_k5as, mq_k6s, mj_pu, mj_lo, mj_br, mj_hr, mj_hw, mq_gf, mq_len, mq_al, mq_pf, mq_ok, mj_re, mq_lkm, mq_lkn, mj_ldi, mj_ldl, mj_lda, mj_ii, mj_ll, mj_li, mj_i1, ms_1, ms_2, f1_n, f1_i, f1_r, f1_u, f1_l, f2_n, f2_i, f2_r, f2_u, f2_l, mj_tg, mj_c1, mj_c2, mj_ar, mj_aw, mq_cb, mq_oi, mj_rm, Value.category, -getElem?_pos, List.getElem?_cons_zero, decide_eq_true, decide_eq_false, nl_lt, nl_le, ln_lt, ln_le, nl_eq, ln_eq, nl_add, ln_add, nl_sub, ln_mul, nI_sub, nI_mul, nI_add, nI_lt_iff, nI_le_iff, nI_inj, nI_num, mq_ix, nI_1, nl_mul, nl_div, show N ≤ j by omega, narrow]
  | succ n ih =>
    intro j k p q hq hp hj
    obtain ⟨q1, q2, h1, hk, h2, h3⟩ := cbQ_map hq
    have l1 := cbI_lt _ _ _ h1
    have l2 := cbI_lt _ _ _ h2
    have e1 := cbE_eq h1 hr
    have e2 := cbE_eq h2 hr
    have ok := cbI_ok h1
    obtain ⟨g, gb⟩ := h.at (p := p) (by omega)
    have b1 := q_behind (d := d) (B := B) (x := x) (y := y) h (Io.mk h1 hr)
    have b2 := q_behind (d := d) (B := B) (x := x) (y := y) h (Io.mk h2 hr)
    have r := ih (j + 1) _ q2 q h3 l2.2 (by omega)
    unfold cbMem
    rw [is_key ok hi, e1, e2]
    rw [e1] at b1
    rw [e2] at b2
    rw [s300_16]
    by_cases hc : cbB ms p = i
    · rw [decide_eq_true hc, if_pos rfl]
      have hq1 : q1 = p + 1 := by
        have h3' : cbI ms rr p = some (qe ms p) := cbI_leaf ok (by unfold cbS; omega)
        rw [h1] at h3'
        cases h3'
        have hS : cbS ms p = cbB ms p / 32 := rfl
        unfold qe cbC cbX cbN
        rw [if_neg (by omega), if_pos (by omega)]
      rw [hc] at g
      rw [hq1]
      simp only [oP]
      simp (disch := (first | omega | decide)) [S_bx_mcan1_0, S_b8_mkey_1, S_b8_mkey_0, S_b1_mterm_0, S_b1_copy_0, S_b0_mod_7, S_b0_mod_6, S_b0_mod_5, S_b0_mod_3, S_b0_mod_2, S_b0_mod_1, S_b0_mod_0, S_bx_mcan1_1h, S_b0_mod_4h, s300_0, s300_1, s300_2, s300_5, s300_6, s300_7, s300_8, s300_11, s300_13, s300_14, s300_18, s300_19, s300_22, s300_23, s300_26, s300_28, s300_29, s300_30, s300_33, s300_35, s300_36, s300_37, s300_38, s300_39, s300_40, s300_42, s300_45, s300_48, s300_50, s300_53, s300_56, s300_57, mq_k0s, mq_k1s, mq_k2s, mq_k4s, mq_k5s, mq_k5n, mq_k5as, mq_k6s, mj_pu, mj_lo, mj_br, mj_hr, mj_hw, mq_gf, mq_len, mq_al, mq_pf, mq_ok, mj_re, mq_lkm, mq_lkn, mj_ldi, mj_ldl, mj_lda, mj_ii, mj_ll, mj_li, mj_i1, ms_1, ms_2, f1_n, f1_i, f1_r, f1_u, f1_l, f2_n, f2_i, f2_r, f2_u, f2_l, mj_tg, mj_c1, mj_c2, mj_ar, mj_aw, mq_cb, mq_oi, mj_rm, Value.category, -getElem?_pos, List.getElem?_cons_zero, decide_eq_true, decide_eq_false, nl_lt, nl_le, ln_lt, ln_le, nl_eq, ln_eq, nl_add, ln_add, nl_sub, ln_mul, nI_sub, nI_mul, nI_add, nI_lt_iff, nI_le_iff, nI_inj, nI_num, mq_ix, nI_1, nl_mul, nl_div, g, hl, show ¬ N ≤ j by omega, narrow]
    · rw [decide_eq_false hc, if_neg (by simp [S_bx_mcan1_0, S_b8_mkey_1, S_b8_mkey_0, S_b1_mterm_0, S_b1_copy_0, S_b0_mod_7, S_b0_mod_6, S_b0_mod_5, S_b0_mod_3, S_b0_mod_2, S_b0_mod_1, S_b0_mod_0, S_bx_mcan1_1h, S_b0_mod_4h])]
      simp (disch := (first | omega | decide)) [S_bx_mcan1_0, S_b8_mkey_1, S_b8_mkey_0, S_b1_mterm_0, S_b1_copy_0, S_b0_mod_7, S_b0_mod_6, S_b0_mod_5, S_b0_mod_3, S_b0_mod_2, S_b0_mod_1, S_b0_mod_0, S_bx_mcan1_1h, S_b0_mod_4h, s300_0, s300_1, s300_2, s300_5, s300_6, s300_7, s300_8, s300_11, s300_13, s300_14, s300_18, s300_19, s300_22, s300_23, s300_26, s300_28, s300_29, s300_30, s300_33, s300_35, s300_36, s300_37, s300_38, s300_39, s300_40, s300_42, s300_45, s300_48, s300_50, s300_53, s300_56, s300_57, mq_k0s, mq_k1s, mq_k2s, mq_k4s, mq_k5s, mq_k5n, mq_k5as, mq_k6s, mj_pu, mj_lo, mj_br, mj_hr, mj_hw, mq_gf, mq_len, mq_al, mq_pf, mq_ok, mj_re, mq_lkm, mq_lkn, mj_ldi, mj_ldl, mj_lda, mj_ii, mj_ll, mj_li, mj_i1, ms_1, ms_2, f1_n, f1_i, f1_r, f1_u, f1_l, f2_n, f2_i, f2_r, f2_u, f2_l, mj_tg, mj_c1, mj_c2, mj_ar, mj_aw, mq_cb, mq_oi, mj_rm, Value.category, -getElem?_pos, List.getElem?_cons_zero, decide_eq_true, decide_eq_false, nl_lt, nl_le, ln_lt, ln_le, nl_eq, ln_eq, nl_add, ln_add, nl_sub, ln_mul, nI_sub, nI_mul, nI_add, nI_lt_iff, nI_le_iff, nI_inj, nI_num, mq_ix, nI_1, nl_mul, nl_div, g, hl, hc, b1, b2, show ¬ N ≤ j by omega]
      refine mq_wk ?_ r
      simp [S_bx_mcan1_0, S_b8_mkey_1, S_b8_mkey_0, S_b1_mterm_0, S_b1_copy_0, S_b0_mod_7, S_b0_mod_6, S_b0_mod_5, S_b0_mod_3, S_b0_mod_2, S_b0_mod_1, S_b0_mod_0, S_bx_mcan1_1h, S_b0_mod_4h, mq_sub, mj_lk]
theorem q_memM (h : xm x ms) (hc : cbMsg ms) (h5 : cbS ms 1 = 5) {i : Nat} (hi : i < 24) : mj_V (d + 4) 300 [.ref 67, .int 1, .int (nI i)] (mm B x y) = some (some (.int (oP (mem ms i))), mm B x y) := by
  have hle := h.1.le
  have ok := cbI_ok hc
  have hk := (cbOk_hd.mp ok).1
  have r2 := q_numberAt (d := d + 1) (B := B) (x := x) (y := y) h hk.1 hk.2.2.2.1
  have rb := q_behindHead (d := d + 1) (B := B) (x := x) (y := y) h hk.1
  rw [show nI 1 = (1 : Int32) from rfl] at r2 rb
  have r := l_memM (d := d) (B := B) (x := x) (y := y) h hi (rr := 3) (by omega) hk.2.2.2.2.2.1 (cbV ms 1) 0 none (cbC ms 1) _ (cbI_map hc h5) ok.c.2 (by omega)
  have e : cbMem ms (cbIs ms i) (cbV ms 1) (cbC ms 1) = mem ms i := by unfold mem cbMb; simp [S_bx_mcan1_0, S_b8_mkey_1, S_b8_mkey_0, S_b1_mterm_0, S_b1_copy_0, S_b0_mod_7, S_b0_mod_6, S_b0_mod_5, S_b0_mod_3, S_b0_mod_2, S_b0_mod_1, S_b0_mod_0, S_bx_mcan1_1h, S_b0_mod_4h, h5]
  rw [e, nI_0] at r
  generalize oP (mem ms i) = res at *
  simp (disch := (first | omega | decide)) [S_bx_mcan1_0, S_b8_mkey_1, S_b8_mkey_0, S_b1_mterm_0, S_b1_copy_0, S_b0_mod_7, S_b0_mod_6, S_b0_mod_5, S_b0_mod_3, S_b0_mod_2, S_b0_mod_1, S_b0_mod_0, S_bx_mcan1_1h, S_b0_mod_4h, c300, s300_0, s300_1, s300_2, s300_5, s300_6, s300_7, s300_8, s300_11, s300_13, s300_14, s300_18, s300_19, s300_22, s300_23, s300_26, s300_28, s300_29, s300_30, s300_33, s300_35, s300_36, s300_37, s300_38, s300_39, s300_40, s300_42, s300_45, s300_48, s300_50, s300_53, s300_56, s300_57, mq_k0s, mq_k1s, mq_k2s, mq_k4s, mq_k5s, mq_k5n, mq_k5as, mq_k6s, mj_pu, mj_lo, mj_br, mj_hr, mj_hw, mq_gf, mq_len, mq_al, mq_pf, mq_ok, mj_re, mq_lkm, mq_lkn, mj_ldi, mj_ldl, mj_lda, mj_ii, mj_ll, mj_li, mj_i1, ms_1, ms_2, f1_n, f1_i, f1_r, f1_u, f1_l, f2_n, f2_i, f2_r, f2_u, f2_l, mj_tg, mj_c1, mj_c2, mj_ar, mj_aw, mq_cb, mq_oi, mj_rm, Value.category, -getElem?_pos, List.getElem?_cons_zero, decide_eq_true, decide_eq_false, nl_lt, nl_le, ln_lt, ln_le, nl_eq, ln_eq, nl_add, ln_add, nl_sub, ln_mul, nI_sub, nI_mul, nI_add, nI_lt_iff, nI_le_iff, nI_inj, nI_num, mq_ix, nI_1, nl_mul, nl_div, r2, rb]
  refine mq_wk ?_ r
  simp [S_bx_mcan1_0, S_b8_mkey_1, S_b8_mkey_0, S_b1_mterm_0, S_b1_copy_0, S_b0_mod_7, S_b0_mod_6, S_b0_mod_5, S_b0_mod_3, S_b0_mod_2, S_b0_mod_1, S_b0_mod_0, S_bx_mcan1_1h, S_b0_mod_4h, mq_sub, mj_lk]
theorem l_isName (h : xm x ms) {name : Int32} {t : List Int32} (hN : Nn name t) {p : Nat} (hp : p + 1 + t.length ≤ ms.length) : ∀ (m k : Nat), k + m = t.length →
    mj_Rn (d + 1) mj_m305 28 [(5, .int (nI k)), (4, .int 1), (3, .int (nI t.length)), (0, .ref 67), (1, .int (nI p)), (2, .int name)] [] (mm B x y) = some (some (.int (on1 (decide ((ms.drop (p + 1 + k)).take m = t.drop k)))), mm B x y) := by
  have hle := h.1.le
  have hl : x.2.1.1.1.2.2.length = 640 := by obtain ⟨g, -, hl⟩ := h.1; exact hl
  obtain ⟨n1, n2, n3, n4⟩ := hN
  intro m
  induction m with
  | zero =>
    intro k hk
    rw [List.take_zero, List.drop_eq_nil_of_le (by omega)]
    simp (disch := (first | omega | decide)) [S_bx_mcan1_0, S_b8_mkey_1, S_b8_mkey_0, S_b1_mterm_0, S_b1_copy_0, S_b0_mod_7, S_b0_mod_6, S_b0_mod_5, S_b0_mod_3, S_b0_mod_2, S_b0_mod_1, S_b0_mod_0, S_bx_mcan1_1h, S_b0_mod_4h, s305_0, s305_1, s305_4, s305_5, s305_6, s305_9, s305_10, s305_11, s305_13, s305_14, s305_15, s305_18, s305_19, s305_22, s305_23, s305_25, s305_26, s305_28, s305_30, s305_31, s305_34, s305_36, s305_39, s305_40, s305_43, s305_44, s305_45, s305_46, s305_48, s305_49, s305_50, s305_51, s305_53, s305_54, s305_55, s305_56, s305_58, s305_59, s305_60, s305_61, s305_64, s305_65, s305_68, s305_69, s305_72, s305_73, s305_75, s305_78, s305_81, s305_83, mq_k0s, mq_k1s, mq_k2s, mq_k4s, mq_k5s, mq_k5n, mq_k5as, mq_k6s, mj_pu, mj_lo, mj_br, mj_hr, mj_hw, mq_gf, mq_len, mq_al, mq_pf, mq_ok, mj_re, mq_lkm, mq_lkn, mj_ldi, mj_ldl, mj_lda, mj_ii, mj_ll, mj_li, mj_i1, ms_1, ms_2, f1_n, f1_i, f1_r, f1_u, f1_l, f2_n, f2_i, f2_r, f2_u, f2_l, mj_tg, mj_c1, mj_c2, mj_ar, mj_aw, mq_cb, mq_oi, mj_rm, Value.category, -getElem?_pos, List.getElem?_cons_zero, decide_eq_true, decide_eq_false, nl_lt, nl_le, ln_lt, ln_le, nl_eq, ln_eq, nl_add, ln_add, nl_sub, ln_mul, nI_sub, nI_mul, nI_add, nI_lt_iff, nI_le_iff, nI_inj, nI_num, mq_ix, nI_1, nl_mul, nl_div, show t.length ≤ k by omega, narrow_b1, on1]
  | succ m ih =>
    intro k hk
    have r := ih (k + 1) (by omega)
    obtain ⟨g, gb⟩ := h.at (p := p + 1 + k) (by omega)
    have ht := n4 k (by omega)
    have hkl : k < t.length := by omega
    have htd : t.getD k 0 = t[k] := by rw [List.getD, List.getElem?_eq_getElem hkl, Option.getD_some]
    rw [htd] at ht
    have hms : ms[p + 1 + k]'(by omega) = nI (cbB ms (p + 1 + k)) := by
      have := h.1.get (i := p + 1 + k) (by omega)
      rw [g] at this
      exact (Option.some.inj this).symm
    have e1 : (ms.drop (p + 1 + k)).take (m + 1) = nI (cbB ms (p + 1 + k)) :: (ms.drop (p + 1 + (k + 1))).take m := by
      rw [List.drop_eq_getElem_cons (by omega), List.take_succ_cons, hms]
      rfl
    have e2 : t.drop k = t[k] :: t.drop (k + 1) := List.drop_eq_getElem_cons hkl
    rw [e1, e2]
    rw [s305_28]
    generalize (ms.drop (p + 1 + (k + 1))).take m = L1 at *
    generalize t.drop (k + 1) = L2 at *
    generalize t[k] = tk at *
    by_cases hc : nI (cbB ms (p + 1 + k)) = tk
    · have e3 : decide (nI (cbB ms (p + 1 + k)) :: L1 = tk :: L2) = decide (L1 = L2) := by simp [S_bx_mcan1_0, S_b8_mkey_1, S_b8_mkey_0, S_b1_mterm_0, S_b1_copy_0, S_b0_mod_7, S_b0_mod_6, S_b0_mod_5, S_b0_mod_3, S_b0_mod_2, S_b0_mod_1, S_b0_mod_0, S_bx_mcan1_1h, S_b0_mod_4h, hc]
      rw [e3]
      rw [hc] at g
      simp (disch := (first | omega | decide)) [S_bx_mcan1_0, S_b8_mkey_1, S_b8_mkey_0, S_b1_mterm_0, S_b1_copy_0, S_b0_mod_7, S_b0_mod_6, S_b0_mod_5, S_b0_mod_3, S_b0_mod_2, S_b0_mod_1, S_b0_mod_0, S_bx_mcan1_1h, S_b0_mod_4h, s305_0, s305_1, s305_4, s305_5, s305_6, s305_9, s305_10, s305_11, s305_13, s305_14, s305_15, s305_18, s305_19, s305_22, s305_23, s305_25, s305_26, s305_30, s305_31, s305_34, s305_36, s305_39, s305_40, s305_43, s305_44, s305_45, s305_46, s305_48, s305_49, s305_50, s305_51, s305_53, s305_54, s305_55, s305_56, s305_58, s305_59, s305_60, s305_61, s305_64, s305_65, s305_68, s305_69, s305_72, s305_73, s305_75, s305_78, s305_81, s305_83, mq_k0s, mq_k1s, mq_k2s, mq_k4s, mq_k5s, mq_k5n, mq_k5as, mq_k6s, mj_pu, mj_lo, mj_br, mj_hr, mj_hw, mq_gf, mq_len, mq_al, mq_pf, mq_ok, mj_re, mq_lkm, mq_lkn, mj_ldi, mj_ldl, mj_lda, mj_ii, mj_ll, mj_li, mj_i1, ms_1, ms_2, f1_n, f1_i, f1_r, f1_u, f1_l, f2_n, f2_i, f2_r, f2_u, f2_l, mj_tg, mj_c1, mj_c2, mj_ar, mj_aw, mq_cb, mq_oi, mj_rm, Value.category, -getElem?_pos, List.getElem?_cons_zero, decide_eq_true, decide_eq_false, nl_lt, nl_le, ln_lt, ln_le, nl_eq, ln_eq, nl_add, ln_add, nl_sub, ln_mul, nI_sub, nI_mul, nI_add, nI_lt_iff, nI_le_iff, nI_inj, nI_num, mq_ix, nI_1, nl_mul, nl_div, g, hl, ht, show ¬ t.length ≤ k by omega]
      refine mq_wk ?_ r
      simp [S_bx_mcan1_0, S_b8_mkey_1, S_b8_mkey_0, S_b1_mterm_0, S_b1_copy_0, S_b0_mod_7, S_b0_mod_6, S_b0_mod_5, S_b0_mod_3, S_b0_mod_2, S_b0_mod_1, S_b0_mod_0, S_bx_mcan1_1h, S_b0_mod_4h, mq_sub, mj_lk]
    · have e3 : decide (nI (cbB ms (p + 1 + k)) :: L1 = tk :: L2) = false := by simp [S_bx_mcan1_0, S_b8_mkey_1, S_b8_mkey_0, S_b1_mterm_0, S_b1_copy_0, S_b0_mod_7, S_b0_mod_6, S_b0_mod_5, S_b0_mod_3, S_b0_mod_2, S_b0_mod_1, S_b0_mod_0, S_bx_mcan1_1h, S_b0_mod_4h, hc]
      rw [e3]
      simp (disch := (first | omega | decide)) [S_bx_mcan1_0, S_b8_mkey_1, S_b8_mkey_0, S_b1_mterm_0, S_b1_copy_0, S_b0_mod_7, S_b0_mod_6, S_b0_mod_5, S_b0_mod_3, S_b0_mod_2, S_b0_mod_1, S_b0_mod_0, S_bx_mcan1_1h, S_b0_mod_4h, s305_0, s305_1, s305_4, s305_5, s305_6, s305_9, s305_10, s305_11, s305_13, s305_14, s305_15, s305_18, s305_19, s305_22, s305_23, s305_25, s305_26, s305_30, s305_31, s305_34, s305_36, s305_39, s305_40, s305_43, s305_44, s305_45, s305_46, s305_48, s305_49, s305_50, s305_51, s305_53, s305_54, s305_55, s305_56, s305_58, s305_59, s305_60, s305_61, s305_64, s305_65, s305_68, s305_69, s305_72, s305_73, s305_75, s305_78, s305_81, s305_83, mq_k0s, mq_k1s, mq_k2s, mq_k4s, mq_k5s, mq_k5n, mq_k5as, mq_k6s, mj_pu, mj_lo, mj_br, mj_hr, mj_hw, mq_gf, mq_len, mq_al, mq_pf, mq_ok, mj_re, mq_lkm, mq_lkn, mj_ldi, mj_ldl, mj_lda, mj_ii, mj_ll, mj_li, mj_i1, ms_1, ms_2, f1_n, f1_i, f1_r, f1_u, f1_l, f2_n, f2_i, f2_r, f2_u, f2_l, mj_tg, mj_c1, mj_c2, mj_ar, mj_aw, mq_cb, mq_oi, mj_rm, Value.category, -getElem?_pos, List.getElem?_cons_zero, decide_eq_true, decide_eq_false, nl_lt, nl_le, ln_lt, ln_le, nl_eq, ln_eq, nl_add, ln_add, nl_sub, ln_mul, nI_sub, nI_mul, nI_add, nI_lt_iff, nI_le_iff, nI_inj, nI_num, mq_ix, nI_1, nl_mul, nl_div, g, hl, ht, hc, show ¬ t.length ≤ k by omega]
      rw [s305_28]
      by_cases hkk : t.length ≤ k + 1
      · simp (disch := (first | omega | decide)) [S_bx_mcan1_0, S_b8_mkey_1, S_b8_mkey_0, S_b1_mterm_0, S_b1_copy_0, S_b0_mod_7, S_b0_mod_6, S_b0_mod_5, S_b0_mod_3, S_b0_mod_2, S_b0_mod_1, S_b0_mod_0, S_bx_mcan1_1h, S_b0_mod_4h, s305_0, s305_1, s305_4, s305_5, s305_6, s305_9, s305_10, s305_11, s305_13, s305_14, s305_15, s305_18, s305_19, s305_22, s305_23, s305_25, s305_26, s305_30, s305_31, s305_34, s305_36, s305_39, s305_40, s305_43, s305_44, s305_45, s305_46, s305_48, s305_49, s305_50, s305_51, s305_53, s305_54, s305_55, s305_56, s305_58, s305_59, s305_60, s305_61, s305_64, s305_65, s305_68, s305_69, s305_72, s305_73, s305_75, s305_78, s305_81, s305_83, mq_k0s, mq_k1s, mq_k2s, mq_k4s, mq_k5s, mq_k5n, mq_k5as, mq_k6s, mj_pu, mj_lo, mj_br, mj_hr, mj_hw, mq_gf, mq_len, mq_al, mq_pf, mq_ok, mj_re, mq_lkm, mq_lkn, mj_ldi, mj_ldl, mj_lda, mj_ii, mj_ll, mj_li, mj_i1, ms_1, ms_2, f1_n, f1_i, f1_r, f1_u, f1_l, f2_n, f2_i, f2_r, f2_u, f2_l, mj_tg, mj_c1, mj_c2, mj_ar, mj_aw, mq_cb, mq_oi, mj_rm, Value.category, -getElem?_pos, List.getElem?_cons_zero, decide_eq_true, decide_eq_false, nl_lt, nl_le, ln_lt, ln_le, nl_eq, ln_eq, nl_add, ln_add, nl_sub, ln_mul, nI_sub, nI_mul, nI_add, nI_lt_iff, nI_le_iff, nI_inj, nI_num, mq_ix, nI_1, nl_mul, nl_div, hkk, narrow_b0, on1]
      · simp (disch := (first | omega | decide)) [S_bx_mcan1_0, S_b8_mkey_1, S_b8_mkey_0, S_b1_mterm_0, S_b1_copy_0, S_b0_mod_7, S_b0_mod_6, S_b0_mod_5, S_b0_mod_3, S_b0_mod_2, S_b0_mod_1, S_b0_mod_0, S_bx_mcan1_1h, S_b0_mod_4h, s305_0, s305_1, s305_4, s305_5, s305_6, s305_9, s305_10, s305_11, s305_13, s305_14, s305_15, s305_18, s305_19, s305_22, s305_23, s305_25, s305_26, s305_30, s305_31, s305_34, s305_36, s305_39, s305_40, s305_43, s305_44, s305_45, s305_46, s305_48, s305_49, s305_50, s305_51, s305_53, s305_54, s305_55, s305_56, s305_58, s305_59, s305_60, s305_61, s305_64, s305_65, s305_68, s305_69, s305_72, s305_73, s305_75, s305_78, s305_81, s305_83, mq_k0s, mq_k1s, mq_k2s, mq_k4s, mq_k5s, mq_k5n, mq_k5as, mq_k6s, mj_pu, mj_lo, mj_br, mj_hr, mj_hw, mq_gf, mq_len, mq_al, mq_pf, mq_ok, mj_re, mq_lkm, mq_lkn, mj_ldi, mj_ldl, mj_lda, mj_ii, mj_ll, mj_li, mj_i1, ms_1, ms_2, f1_n, f1_i, f1_r, f1_u, f1_l, f2_n, f2_i, f2_r, f2_u, f2_l, mj_tg, mj_c1, mj_c2, mj_ar, mj_aw, mq_cb, mq_oi, mj_rm, Value.category, -getElem?_pos, List.getElem?_cons_zero, decide_eq_true, decide_eq_false, nl_lt, nl_le, ln_lt, ln_le, nl_eq, ln_eq, nl_add, ln_add, nl_sub, ln_mul, nI_sub, nI_mul, nI_add, nI_lt_iff, nI_le_iff, nI_inj, nI_num, mq_ix, nI_1, nl_mul, nl_div, hkk, narrow_b0, on1]
theorem q_isName (h : xm x ms) {name : Int32} {t : List Int32} (hN : Nn name t) {p : Nat} (ok : cbOk ms p) : mj_V (d + 2) 305 [.ref 67, .int (nI p), .int name] (mm B x y) = some (some (.int (on1 (cbTx ms t p))), mm B x y) := by
  have hle := h.1.le
  have hl : x.2.1.1.1.2.2.length = 640 := by obtain ⟨g, -, hl⟩ := h.1; exact hl
  have hk := (cbOk_hd.mp ok).1
  have hp1 : p < ms.length := hk.1
  obtain ⟨g, gb⟩ := h.at hk.1
  have r0 := m_longOf (d := d) (M := mm B x y) name
  rw [hN.1] at r0
  have n3 := hN.2.2.1
  have it := is_txt ok (n := t.length) (by omega)
  by_cases hc : cbB ms p = 96 + t.length
  · obtain ⟨h3, hv⟩ := it.mpr hc
    have hX : cbC ms p = p + 1 := by
      unfold cbC cbX cbN
      rw [if_pos (by omega)]
    have hin := (cbOk_hd.mp ok).2 (Or.inr h3)
    rw [hX, hv] at hin
    have r := l_isName (d := d) (B := B) (x := x) (y := y) h hN hin t.length 0 (by omega)
    have e : cbTx ms t p = decide ((ms.drop (p + 1 + 0)).take t.length = t.drop 0) := by
      unfold cbTx
      simp [S_bx_mcan1_0, S_b8_mkey_1, S_b8_mkey_0, S_b1_mterm_0, S_b1_copy_0, S_b0_mod_7, S_b0_mod_6, S_b0_mod_5, S_b0_mod_3, S_b0_mod_2, S_b0_mod_1, S_b0_mod_0, S_bx_mcan1_1h, S_b0_mod_4h, h3, hv, hX]
    rw [e]
    rw [hc] at g
    rw [nI_0] at r
    generalize decide ((ms.drop (p + 1 + 0)).take t.length = t.drop 0) = res at *
    simp (disch := (first | omega | decide)) [S_bx_mcan1_0, S_b8_mkey_1, S_b8_mkey_0, S_b1_mterm_0, S_b1_copy_0, S_b0_mod_7, S_b0_mod_6, S_b0_mod_5, S_b0_mod_3, S_b0_mod_2, S_b0_mod_1, S_b0_mod_0, S_bx_mcan1_1h, S_b0_mod_4h, c305, s305_0, s305_1, s305_4, s305_5, s305_6, s305_9, s305_10, s305_11, s305_13, s305_14, s305_15, s305_18, s305_19, s305_22, s305_23, s305_25, s305_26, s305_30, s305_31, s305_34, s305_36, s305_39, s305_40, s305_43, s305_44, s305_45, s305_46, s305_48, s305_49, s305_50, s305_51, s305_53, s305_54, s305_55, s305_56, s305_58, s305_59, s305_60, s305_61, s305_64, s305_65, s305_68, s305_69, s305_72, s305_73, s305_75, s305_78, s305_81, s305_83, mq_k0s, mq_k1s, mq_k2s, mq_k4s, mq_k5s, mq_k5n, mq_k5as, mq_k6s, mj_pu, mj_lo, mj_br, mj_hr, mj_hw, mq_gf, mq_len, mq_al, mq_pf, mq_ok, mj_re, mq_lkm, mq_lkn, mj_ldi, mj_ldl, mj_lda, mj_ii, mj_ll, mj_li, mj_i1, ms_1, ms_2, f1_n, f1_i, f1_r, f1_u, f1_l, f2_n, f2_i, f2_r, f2_u, f2_l, mj_tg, mj_c1, mj_c2, mj_ar, mj_aw, mq_cb, mq_oi, mj_rm, Value.category, -getElem?_pos, List.getElem?_cons_zero, decide_eq_true, decide_eq_false, nl_lt, nl_le, ln_lt, ln_le, nl_eq, ln_eq, nl_add, ln_add, nl_sub, ln_mul, nI_sub, nI_mul, nI_add, nI_lt_iff, nI_le_iff, nI_inj, nI_num, mq_ix, nI_1, nl_mul, nl_div, r0, g, hl]
    refine mq_wk ?_ r
    simp [S_bx_mcan1_0, S_b8_mkey_1, S_b8_mkey_0, S_b1_mterm_0, S_b1_copy_0, S_b0_mod_7, S_b0_mod_6, S_b0_mod_5, S_b0_mod_3, S_b0_mod_2, S_b0_mod_1, S_b0_mod_0, S_bx_mcan1_1h, S_b0_mod_4h, mq_sub, mj_lk]
  · have e : cbTx ms t p = false := by
      unfold cbTx
      rw [← Bool.and_assoc, ← Bool.decide_and, decide_eq_false (fun z => hc (it.mp z))]
      rfl
    rw [e]
    simp (disch := (first | omega | decide)) [S_bx_mcan1_0, S_b8_mkey_1, S_b8_mkey_0, S_b1_mterm_0, S_b1_copy_0, S_b0_mod_7, S_b0_mod_6, S_b0_mod_5, S_b0_mod_3, S_b0_mod_2, S_b0_mod_1, S_b0_mod_0, S_bx_mcan1_1h, S_b0_mod_4h, c305, s305_0, s305_1, s305_4, s305_5, s305_6, s305_9, s305_10, s305_11, s305_13, s305_14, s305_15, s305_18, s305_19, s305_22, s305_23, s305_25, s305_26, s305_30, s305_31, s305_34, s305_36, s305_39, s305_40, s305_43, s305_44, s305_45, s305_46, s305_48, s305_49, s305_50, s305_51, s305_53, s305_54, s305_55, s305_56, s305_58, s305_59, s305_60, s305_61, s305_64, s305_65, s305_68, s305_69, s305_72, s305_73, s305_75, s305_78, s305_81, s305_83, mq_k0s, mq_k1s, mq_k2s, mq_k4s, mq_k5s, mq_k5n, mq_k5as, mq_k6s, mj_pu, mj_lo, mj_br, mj_hr, mj_hw, mq_gf, mq_len, mq_al, mq_pf, mq_ok, mj_re, mq_lkm, mq_lkn, mj_ldi, mj_ldl, mj_lda, mj_ii, mj_ll, mj_li, mj_i1, ms_1, ms_2, f1_n, f1_i, f1_r, f1_u, f1_l, f2_n, f2_i, f2_r, f2_u, f2_l, mj_tg, mj_c1, mj_c2, mj_ar, mj_aw, mq_cb, mq_oi, mj_rm, Value.category, -getElem?_pos, List.getElem?_cons_zero, decide_eq_true, decide_eq_false, nl_lt, nl_le, ln_lt, ln_le, nl_eq, ln_eq, nl_add, ln_add, nl_sub, ln_mul, nI_sub, nI_mul, nI_add, nI_lt_iff, nI_le_iff, nI_inj, nI_num, mq_ix, nI_1, nl_mul, nl_div, r0, g, hl, hc]
    rw [s305_28]
    simp (disch := (first | omega | decide)) [S_bx_mcan1_0, S_b8_mkey_1, S_b8_mkey_0, S_b1_mterm_0, S_b1_copy_0, S_b0_mod_7, S_b0_mod_6, S_b0_mod_5, S_b0_mod_3, S_b0_mod_2, S_b0_mod_1, S_b0_mod_0, S_bx_mcan1_1h, S_b0_mod_4h, s305_0, s305_1, s305_4, s305_5, s305_6, s305_9, s305_10, s305_11, s305_13, s305_14, s305_15, s305_18, s305_19, s305_22, s305_23, s305_25, s305_26, s305_30, s305_31, s305_34, s305_36, s305_39, s305_40, s305_43, s305_44, s305_45, s305_46, s305_48, s305_49, s305_50, s305_51, s305_53, s305_54, s305_55, s305_56, s305_58, s305_59, s305_60, s305_61, s305_64, s305_65, s305_68, s305_69, s305_72, s305_73, s305_75, s305_78, s305_81, s305_83, mq_k0s, mq_k1s, mq_k2s, mq_k4s, mq_k5s, mq_k5n, mq_k5as, mq_k6s, mj_pu, mj_lo, mj_br, mj_hr, mj_hw, mq_gf, mq_len, mq_al, mq_pf, mq_ok, mj_re, mq_lkm, mq_lkn, mj_ldi, mj_ldl, mj_lda, mj_ii, mj_ll, mj_li, mj_i1, ms_1, ms_2, f1_n, f1_i, f1_r, f1_u, f1_l, f2_n, f2_i, f2_r, f2_u, f2_l, mj_tg, mj_c1, mj_c2, mj_ar, mj_aw, mq_cb, mq_oi, mj_rm, Value.category, -getElem?_pos, List.getElem?_cons_zero, decide_eq_true, decide_eq_false, nl_lt, nl_le, ln_lt, ln_le, nl_eq, ln_eq, nl_add, ln_add, nl_sub, ln_mul, nI_sub, nI_mul, nI_add, nI_lt_iff, nI_le_iff, nI_inj, nI_num, mq_ix, nI_1, nl_mul, nl_div, show ¬ t.length ≤ 0 by have := hN.2.1; omega, show ¬ t.length = 0 by have := hN.2.1; omega, narrow_b0, on1]
theorem l_namM (h : xm x ms) {name : Int32} {t : List Int32} (hT : Nn name t) {r N : Nat} (hr : r ≤ 4) (hN : N < 2 ^ 31) : ∀ (n j : Nat) (k : Option (Nat × Nat)) (p q : Nat), cbQ (cbI ms r) ms true n k p = some q → p ≤ ms.length → j + n = N →
    mj_Rn (d + 3) mj_m304 16 [(5, .int (nI j)), (4, .int (nI p)), (3, .int (nI N)), (0, .ref 67), (2, .int name)] [] (mm B x y) = some (some (.int (oP (cbMem ms (cbTx ms t) n p))), mm B x y) := by
  have hle := h.1.le
  intro n
  induction n with
  | zero =>
    intro j k p q hq hp hj
    simp only [cbMem, oP]
    simp (disch := (first | omega | decide)) [S_bx_mcan1_0, S_b8_mkey_1, S_b8_mkey_0, S_b1_mterm_0, S_b1_copy_0, S_b0_mod_7, S_b0_mod_6, S_b0_mod_5, S_b0_mod_3, S_b0_mod_2, S_b0_mod_1, S_b0_mod_0, S_bx_mcan1_1h, S_b0_mod_4h, s304_0, s304_1, s304_2, s304_5, s304_6, s304_7, s304_8, s304_11, s304_13, s304_14, s304_16, s304_18, s304_19, s304_22, s304_23, s304_25, s304_26, s304_29, s304_32, s304_33, s304_35, s304_38, s304_39, s304_40, s304_41, s304_43, s304_46, s304_49, s304_51, s304_54, s304_57, s304_58, mq_k0s, mq_k1s, mq_k2s, mq_k4s, mq_k5s, mq_k5n, mq_k5as, mq_k6s, mj_pu, mj_lo, mj_br, mj_hr, mj_hw, mq_gf, mq_len, mq_al, mq_pf, mq_ok, mj_re, mq_lkm, mq_lkn, mj_ldi, mj_ldl, mj_lda, mj_ii, mj_ll, mj_li, mj_i1, ms_1, ms_2, f1_n, f1_i, f1_r, f1_u, f1_l, f2_n, f2_i, f2_r, f2_u, f2_l, mj_tg, mj_c1, mj_c2, mj_ar, mj_aw, mq_cb, mq_oi, mj_rm, Value.category, -getElem?_pos, List.getElem?_cons_zero, decide_eq_true, decide_eq_false, nl_lt, nl_le, ln_lt, ln_le, nl_eq, ln_eq, nl_add, ln_add, nl_sub, ln_mul, nI_sub, nI_mul, nI_add, nI_lt_iff, nI_le_iff, nI_inj, nI_num, mq_ix, nI_1, nl_mul, nl_div, show N ≤ j by omega, narrow]
  | succ n ih =>
    intro j k p q hq hp hj
    obtain ⟨q1, q2, h1, hk, h2, h3⟩ := cbQ_map hq
    have l1 := cbI_lt _ _ _ h1
    have l2 := cbI_lt _ _ _ h2
    have e1 := cbE_eq h1 hr
    have e2 := cbE_eq h2 hr
    have ok := cbI_ok h1
    have b0 := q_isName (d := d + 1) (B := B) (x := x) (y := y) h hT ok
    have b1 := q_behind (d := d) (B := B) (x := x) (y := y) h (Io.mk h1 hr)
    have b2 := q_behind (d := d) (B := B) (x := x) (y := y) h (Io.mk h2 hr)
    have r := ih (j + 1) _ q2 q h3 l2.2 (by omega)
    unfold cbMem
    rw [e1, e2]
    rw [e1] at b1
    rw [e2] at b2
    rw [s304_16]
    cases hc : cbTx ms t p with
    | true =>
      rw [hc] at b0
      rw [if_pos rfl]
      simp only [oP]
      simp (disch := (first | omega | decide)) [S_bx_mcan1_0, S_b8_mkey_1, S_b8_mkey_0, S_b1_mterm_0, S_b1_copy_0, S_b0_mod_7, S_b0_mod_6, S_b0_mod_5, S_b0_mod_3, S_b0_mod_2, S_b0_mod_1, S_b0_mod_0, S_bx_mcan1_1h, S_b0_mod_4h, s304_0, s304_1, s304_2, s304_5, s304_6, s304_7, s304_8, s304_11, s304_13, s304_14, s304_18, s304_19, s304_22, s304_23, s304_25, s304_26, s304_29, s304_32, s304_33, s304_35, s304_38, s304_39, s304_40, s304_41, s304_43, s304_46, s304_49, s304_51, s304_54, s304_57, s304_58, mq_k0s, mq_k1s, mq_k2s, mq_k4s, mq_k5s, mq_k5n, mq_k5as, mq_k6s, mj_pu, mj_lo, mj_br, mj_hr, mj_hw, mq_gf, mq_len, mq_al, mq_pf, mq_ok, mj_re, mq_lkm, mq_lkn, mj_ldi, mj_ldl, mj_lda, mj_ii, mj_ll, mj_li, mj_i1, ms_1, ms_2, f1_n, f1_i, f1_r, f1_u, f1_l, f2_n, f2_i, f2_r, f2_u, f2_l, mj_tg, mj_c1, mj_c2, mj_ar, mj_aw, mq_cb, mq_oi, mj_rm, Value.category, -getElem?_pos, List.getElem?_cons_zero, decide_eq_true, decide_eq_false, nl_lt, nl_le, ln_lt, ln_le, nl_eq, ln_eq, nl_add, ln_add, nl_sub, ln_mul, nI_sub, nI_mul, nI_add, nI_lt_iff, nI_le_iff, nI_inj, nI_num, mq_ix, nI_1, nl_mul, nl_div, b0, b1, on1, show ¬ N ≤ j by omega, narrow]
    | false =>
      rw [hc] at b0
      rw [if_neg (by simp [S_bx_mcan1_0, S_b8_mkey_1, S_b8_mkey_0, S_b1_mterm_0, S_b1_copy_0, S_b0_mod_7, S_b0_mod_6, S_b0_mod_5, S_b0_mod_3, S_b0_mod_2, S_b0_mod_1, S_b0_mod_0, S_bx_mcan1_1h, S_b0_mod_4h])]
      simp (disch := (first | omega | decide)) [S_bx_mcan1_0, S_b8_mkey_1, S_b8_mkey_0, S_b1_mterm_0, S_b1_copy_0, S_b0_mod_7, S_b0_mod_6, S_b0_mod_5, S_b0_mod_3, S_b0_mod_2, S_b0_mod_1, S_b0_mod_0, S_bx_mcan1_1h, S_b0_mod_4h, s304_0, s304_1, s304_2, s304_5, s304_6, s304_7, s304_8, s304_11, s304_13, s304_14, s304_18, s304_19, s304_22, s304_23, s304_25, s304_26, s304_29, s304_32, s304_33, s304_35, s304_38, s304_39, s304_40, s304_41, s304_43, s304_46, s304_49, s304_51, s304_54, s304_57, s304_58, mq_k0s, mq_k1s, mq_k2s, mq_k4s, mq_k5s, mq_k5n, mq_k5as, mq_k6s, mj_pu, mj_lo, mj_br, mj_hr, mj_hw, mq_gf, mq_len, mq_al, mq_pf, mq_ok, mj_re, mq_lkm, mq_lkn, mj_ldi, mj_ldl, mj_lda, mj_ii, mj_ll, mj_li, mj_i1, ms_1, ms_2, f1_n, f1_i, f1_r, f1_u, f1_l, f2_n, f2_i, f2_r, f2_u, f2_l, mj_tg, mj_c1, mj_c2, mj_ar, mj_aw, mq_cb, mq_oi, mj_rm, Value.category, -getElem?_pos, List.getElem?_cons_zero, decide_eq_true, decide_eq_false, nl_lt, nl_le, ln_lt, ln_le, nl_eq, ln_eq, nl_add, ln_add, nl_sub, ln_mul, nI_sub, nI_mul, nI_add, nI_lt_iff, nI_le_iff, nI_inj, nI_num, mq_ix, nI_1, nl_mul, nl_div, b0, b1, b2, on1, show ¬ N ≤ j by omega]
      refine mq_wk ?_ r
      simp [S_bx_mcan1_0, S_b8_mkey_1, S_b8_mkey_0, S_b1_mterm_0, S_b1_copy_0, S_b0_mod_7, S_b0_mod_6, S_b0_mod_5, S_b0_mod_3, S_b0_mod_2, S_b0_mod_1, S_b0_mod_0, S_bx_mcan1_1h, S_b0_mod_4h, mq_sub, mj_lk]
theorem Io.map {p : Nat} (h : Io ms p) (h5 : cbS ms p = 5) : ∃ r, r ≤ 3 ∧ cbQ (cbI ms r) ms true (cbV ms p) none (cbC ms p) = some (cbE ms p) := by
  obtain ⟨r, hr, hI⟩ := h
  cases r with
  | zero => rw [cbI_ar0 (cbI_ok hI) (Or.inr h5)] at hI; cases hI
  | succ r => exact ⟨r, by omega, cbI_map hI h5⟩
theorem Io.arr {p : Nat} (h : Io ms p) (h5 : cbS ms p = 4) : ∃ r, r ≤ 3 ∧ cbQ (cbI ms r) ms false (cbV ms p) none (cbC ms p) = some (cbE ms p) := by
  obtain ⟨r, hr, hI⟩ := h
  cases r with
  | zero => rw [cbI_ar0 (cbI_ok hI) (Or.inl h5)] at hI; cases hI
  | succ r => exact ⟨r, by omega, cbI_arr hI h5⟩
theorem Io.mem {p v : Nat} {f : Nat → Bool} (h : Io ms p) (hv : cbMb ms f (some p) = some v) : Io ms v := by
  unfold cbMb at hv
  dsimp only at hv
  split at hv
  · next h5 =>
    obtain ⟨r, hr, hq⟩ := h.map h5
    obtain ⟨-, ⟨e, a1, -⟩, -⟩ := memQ (r := r) (by omega) _ _ _ _ _ hq h.ok.c.2 hv
    exact Io.mk a1 (by omega)
  · cases hv
theorem Io.root (hc : cbMsg ms) : Io ms 1 := Io.mk hc (by omega)
theorem q_namM (h : xm x ms) {name : Int32} {t : List Int32} (hT : Nn name t) {p : Nat} (hi : Io ms p) (h5 : cbS ms p = 5) : mj_V (d + 4) 304 [.ref 67, .int (nI p), .int name] (mm B x y) = some (some (.int (oP (cbNm ms t (some p)))), mm B x y) := by
  have hle := h.1.le
  have ok := hi.ok
  have hk := (cbOk_hd.mp ok).1
  have r2 := q_numberAt (d := d + 1) (B := B) (x := x) (y := y) h hk.1 hk.2.2.2.1
  have rb := q_behindHead (d := d + 1) (B := B) (x := x) (y := y) h hk.1
  obtain ⟨r, hr, hq⟩ := hi.map h5
  have r := l_namM (d := d) (B := B) (x := x) (y := y) h hT (r := r) (by omega) hk.2.2.2.2.2.1 (cbV ms p) 0 none (cbC ms p) _ hq ok.c.2 (by omega)
  have e : cbMem ms (cbTx ms t) (cbV ms p) (cbC ms p) = cbNm ms t (some p) := by unfold cbNm cbMb; simp [S_bx_mcan1_0, S_b8_mkey_1, S_b8_mkey_0, S_b1_mterm_0, S_b1_copy_0, S_b0_mod_7, S_b0_mod_6, S_b0_mod_5, S_b0_mod_3, S_b0_mod_2, S_b0_mod_1, S_b0_mod_0, S_bx_mcan1_1h, S_b0_mod_4h, h5]
  rw [e, nI_0] at r
  generalize oP (cbNm ms t (some p)) = res at *
  simp (disch := (first | omega | decide)) [S_bx_mcan1_0, S_b8_mkey_1, S_b8_mkey_0, S_b1_mterm_0, S_b1_copy_0, S_b0_mod_7, S_b0_mod_6, S_b0_mod_5, S_b0_mod_3, S_b0_mod_2, S_b0_mod_1, S_b0_mod_0, S_bx_mcan1_1h, S_b0_mod_4h, c304, s304_0, s304_1, s304_2, s304_5, s304_6, s304_7, s304_8, s304_11, s304_13, s304_14, s304_18, s304_19, s304_22, s304_23, s304_25, s304_26, s304_29, s304_32, s304_33, s304_35, s304_38, s304_39, s304_40, s304_41, s304_43, s304_46, s304_49, s304_51, s304_54, s304_57, s304_58, mq_k0s, mq_k1s, mq_k2s, mq_k4s, mq_k5s, mq_k5n, mq_k5as, mq_k6s, mj_pu, mj_lo, mj_br, mj_hr, mj_hw, mq_gf, mq_len, mq_al, mq_pf, mq_ok, mj_re, mq_lkm, mq_lkn, mj_ldi, mj_ldl, mj_lda, mj_ii, mj_ll, mj_li, mj_i1, ms_1, ms_2, f1_n, f1_i, f1_r, f1_u, f1_l, f2_n, f2_i, f2_r, f2_u, f2_l, mj_tg, mj_c1, mj_c2, mj_ar, mj_aw, mq_cb, mq_oi, mj_rm, Value.category, -getElem?_pos, List.getElem?_cons_zero, decide_eq_true, decide_eq_false, nl_lt, nl_le, ln_lt, ln_le, nl_eq, ln_eq, nl_add, ln_add, nl_sub, ln_mul, nI_sub, nI_mul, nI_add, nI_lt_iff, nI_le_iff, nI_inj, nI_num, mq_ix, nI_1, nl_mul, nl_div, r2, rb]
  refine mq_wk ?_ r
  simp [S_bx_mcan1_0, S_b8_mkey_1, S_b8_mkey_0, S_b1_mterm_0, S_b1_copy_0, S_b0_mod_7, S_b0_mod_6, S_b0_mod_5, S_b0_mod_3, S_b0_mod_2, S_b0_mod_1, S_b0_mod_0, S_bx_mcan1_1h, S_b0_mod_4h, mq_sub, mj_lk]
end
end
/- c2.mfit -/
section
set_option maxRecDepth 512
/-! The model: do the members fit. -/
/- 303 PasskeyHouseModel.mayNamed(III)Z -/
theorem s303_0 {d : Nat} {ls : mj_L} {st : List Value} {M : mj_H} : mj_Rn d mj_m303 0 ls st M = mq_k0 d mj_m303 1 ls M (mj_lda (mj_lk ls 0) st) := mj_R0 (r := (.aload_n 0, 1, 0, 0, 0)) rfl rfl
theorem s303_1 {d : Nat} {ls : mj_L} {st : List Value} {M : mj_H} : mj_Rn d mj_m303 1 ls st M = mq_k0 d mj_m303 2 ls M (mj_lda (mj_lk ls 0) st) := mj_R0 (r := (.aload_n 0, 1, 0, 0, 0)) rfl rfl
theorem s303_2 {d : Nat} {ls : mj_L} {st : List Value} {M : mj_H} : mj_Rn d mj_m303 2 ls st M = mq_k0 d mj_m303 3 ls M (mj_ldi (mj_lk ls 1) st) := mj_R0 (r := (.iload_n 1, 1, 0, 0, 0)) rfl rfl
theorem s303_3 {d : Nat} {ls : mj_L} {st : List Value} {M : mj_H} : mj_Rn d mj_m303 3 ls st M = mq_k0 d mj_m303 4 ls M (mj_ldi (mj_lk ls 2) st) := mj_R0 (r := (.iload_n 2, 1, 0, 0, 0)) rfl rfl
theorem s303_4 {d : Nat} {ls : mj_L} {st : List Value} {M : mj_H} : mj_Rn (d + 1) mj_m303 4 ls st M = mq_k5a (d + 1) mj_m303 7 ls M 304 (mq_cb 0 2 11 st M) := mj_R5e (r := (.invokevirtual 427, 3, 0, 304, 36926)) (z := mj_m304) rfl rfl (by decide) (by decide) rfl
theorem s303_7 {d : Nat} {ls : mj_L} {st : List Value} {M : mj_H} : mj_Rn d mj_m303 7 ls st M = mq_k0 d mj_m303 8 ls M (mj_ldi (mj_lk ls 3) st) := mj_R0 (r := (.iload_n 3, 1, 0, 0, 0)) rfl rfl
theorem s303_8 {d : Nat} {ls : mj_L} {st : List Value} {M : mj_H} : mj_Rn (d + 1) mj_m303 8 ls st M = mq_k5a (d + 1) mj_m303 11 ls M 302 (mq_cb 0 2 11 st M) := mj_R5e (r := (.invokevirtual 430, 3, 0, 302, 36918)) (z := mj_m302) rfl rfl (by decide) (by decide) rfl
theorem s303_11 {d : Nat} {ls : mj_L} {st : List Value} {M : mj_H} : mj_Rn d mj_m303 11 ls st M = mq_k6 M (mj_re (some .boolean) (.ireturn) st) := mj_R6 (r := (.ireturn, 1, 0, 0, 0)) rfl rfl
/- 306 PasskeyHouseModel.mayEntries(IZ)Z -/
theorem s306_0 {d : Nat} {ls : mj_L} {st : List Value} {M : mj_H} : mj_Rn d mj_m306 0 ls st M = mq_k0 d mj_m306 1 ls M (mj_ldi (mj_lk ls 1) st) := mj_R0 (r := (.iload_n 1, 1, 0, 0, 0)) rfl rfl
theorem s306_1 {d : Nat} {ls : mj_L} {st : List Value} {M : mj_H} : mj_Rn d mj_m306 1 ls st M = mj_Rn d mj_m306 2 ls (.int (-1) :: st) M := mj_R0 (r := (.iconst (-1), 1, 0, 0, 0)) rfl rfl
theorem s306_2 {d : Nat} {ls : mj_L} {st : List Value} {M : mj_H} : mj_Rn d mj_m306 2 ls st M = mq_k2 d mj_m306 ls M (mj_br (.if_icmp .ne 5) 2 st) := mj_R2 (r := (.if_icmp .ne 5, 3, 0, 0, 0)) rfl rfl
theorem s306_5 {d : Nat} {ls : mj_L} {st : List Value} {M : mj_H} : mj_Rn d mj_m306 5 ls st M = mj_Rn d mj_m306 6 ls (.int 1 :: st) M := mj_R0 (r := (.iconst 1, 1, 0, 0, 0)) rfl rfl
theorem s306_6 {d : Nat} {ls : mj_L} {st : List Value} {M : mj_H} : mj_Rn d mj_m306 6 ls st M = mq_k6 M (mj_re (some .boolean) (.ireturn) st) := mj_R6 (r := (.ireturn, 1, 0, 0, 0)) rfl rfl
theorem s306_7 {d : Nat} {ls : mj_L} {st : List Value} {M : mj_H} : mj_Rn d mj_m306 7 ls st M = mq_k0 d mj_m306 8 ls M (mj_lda (mj_lk ls 0) st) := mj_R0 (r := (.aload_n 0, 1, 0, 0, 0)) rfl rfl
theorem s306_8 {d : Nat} {ls : mj_L} {st : List Value} {M : mj_H} : mj_Rn d mj_m306 8 ls st M = mq_k0 d mj_m306 9 ls M (mj_ldi (mj_lk ls 1) st) := mj_R0 (r := (.iload_n 1, 1, 0, 0, 0)) rfl rfl
theorem s306_9 {d : Nat} {ls : mj_L} {st : List Value} {M : mj_H} : mj_Rn (d + 1) mj_m306 9 ls st M = mq_k5a (d + 1) mj_m306 12 ls M 294 (mq_cb 0 1 11 st M) := mj_R5e (r := (.invokevirtual 396, 3, 0, 294, 36884)) (z := mj_m294) rfl rfl (by decide) (by decide) rfl
theorem s306_12 {d : Nat} {ls : mj_L} {st : List Value} {M : mj_H} : mj_Rn d mj_m306 12 ls st M = mj_Rn d mj_m306 13 ls (.int 4 :: st) M := mj_R0 (r := (.iconst 4, 1, 0, 0, 0)) rfl rfl
theorem s306_13 {d : Nat} {ls : mj_L} {st : List Value} {M : mj_H} : mj_Rn d mj_m306 13 ls st M = mq_k2 d mj_m306 ls M (mj_br (.if_icmp .eq 5) 13 st) := mj_R2 (r := (.if_icmp .eq 5, 3, 0, 0, 0)) rfl rfl
theorem s306_16 {d : Nat} {ls : mj_L} {st : List Value} {M : mj_H} : mj_Rn d mj_m306 16 ls st M = mj_Rn d mj_m306 17 ls (.int 0 :: st) M := mj_R0 (r := (.iconst 0, 1, 0, 0, 0)) rfl rfl
theorem s306_17 {d : Nat} {ls : mj_L} {st : List Value} {M : mj_H} : mj_Rn d mj_m306 17 ls st M = mq_k6 M (mj_re (some .boolean) (.ireturn) st) := mj_R6 (r := (.ireturn, 1, 0, 0, 0)) rfl rfl
theorem s306_18 {d : Nat} {ls : mj_L} {st : List Value} {M : mj_H} : mj_Rn d mj_m306 18 ls st M = mq_k0 d mj_m306 19 ls M (mj_lda (mj_lk ls 0) st) := mj_R0 (r := (.aload_n 0, 1, 0, 0, 0)) rfl rfl
theorem s306_19 {d : Nat} {ls : mj_L} {st : List Value} {M : mj_H} : mj_Rn d mj_m306 19 ls st M = mq_k0 d mj_m306 20 ls M (mj_ldi (mj_lk ls 1) st) := mj_R0 (r := (.iload_n 1, 1, 0, 0, 0)) rfl rfl
theorem s306_20 {d : Nat} {ls : mj_L} {st : List Value} {M : mj_H} : mj_Rn (d + 1) mj_m306 20 ls st M = mq_k5a (d + 1) mj_m306 23 ls M 297 (mq_cb 0 1 11 st M) := mj_R5e (r := (.invokevirtual 402, 3, 0, 297, 36895)) (z := mj_m297) rfl rfl (by decide) (by decide) rfl
theorem s306_23 {d : Nat} {ls : mj_L} {st : List Value} {M : mj_H} : mj_Rn d mj_m306 23 ls st M = mq_k1 d mj_m306 24 M (mj_lo 8 (.istore 3) ls st) := (mj_R1 (r := (.istore_n 3, 1, 0, 0, 0)) rfl rfl).trans (congrArg (mq_k1 d mj_m306 24 M) (mq_sti (k := 3)))
theorem s306_24 {d : Nat} {ls : mj_L} {st : List Value} {M : mj_H} : mj_Rn d mj_m306 24 ls st M = mq_k0 d mj_m306 25 ls M (mj_lda (mj_lk ls 0) st) := mj_R0 (r := (.aload_n 0, 1, 0, 0, 0)) rfl rfl
theorem s306_25 {d : Nat} {ls : mj_L} {st : List Value} {M : mj_H} : mj_Rn d mj_m306 25 ls st M = mq_k0 d mj_m306 26 ls M (mj_ldi (mj_lk ls 1) st) := mj_R0 (r := (.iload_n 1, 1, 0, 0, 0)) rfl rfl
theorem s306_26 {d : Nat} {ls : mj_L} {st : List Value} {M : mj_H} : mj_Rn (d + 1) mj_m306 26 ls st M = mq_k5a (d + 1) mj_m306 29 ls M 295 (mq_cb 0 1 11 st M) := mj_R5e (r := (.invokevirtual 399, 3, 0, 295, 36888)) (z := mj_m295) rfl rfl (by decide) (by decide) rfl
theorem s306_29 {d : Nat} {ls : mj_L} {st : List Value} {M : mj_H} : mj_Rn d mj_m306 29 ls st M = mq_k1 d mj_m306 31 M (mj_lo 8 (.istore 4) ls st) := mj_R1 (r := (.istore 4, 2, 0, 0, 0)) rfl rfl
theorem s306_31 {d : Nat} {ls : mj_L} {st : List Value} {M : mj_H} : mj_Rn d mj_m306 31 ls st M = mj_Rn d mj_m306 32 ls (.int 0 :: st) M := mj_R0 (r := (.iconst 0, 1, 0, 0, 0)) rfl rfl
theorem s306_32 {d : Nat} {ls : mj_L} {st : List Value} {M : mj_H} : mj_Rn d mj_m306 32 ls st M = mq_k1 d mj_m306 34 M (mj_lo 8 (.istore 5) ls st) := mj_R1 (r := (.istore 5, 2, 0, 0, 0)) rfl rfl
theorem s306_34 {d : Nat} {ls : mj_L} {st : List Value} {M : mj_H} : mj_Rn d mj_m306 34 ls st M = mq_k0 d mj_m306 36 ls M (mj_ldi (mj_lk ls 5) st) := mj_R0 (r := (.iload 5, 2, 0, 0, 0)) rfl rfl
theorem s306_36 {d : Nat} {ls : mj_L} {st : List Value} {M : mj_H} : mj_Rn d mj_m306 36 ls st M = mq_k0 d mj_m306 37 ls M (mj_ldi (mj_lk ls 3) st) := mj_R0 (r := (.iload_n 3, 1, 0, 0, 0)) rfl rfl
theorem s306_37 {d : Nat} {ls : mj_L} {st : List Value} {M : mj_H} : mj_Rn d mj_m306 37 ls st M = mq_k2 d mj_m306 ls M (mj_br (.if_icmp .ge 110) 37 st) := mj_R2 (r := (.if_icmp .ge 110, 3, 0, 0, 0)) rfl rfl
theorem s306_40 {d : Nat} {ls : mj_L} {st : List Value} {M : mj_H} : mj_Rn d mj_m306 40 ls st M = mq_k0 d mj_m306 41 ls M (mj_lda (mj_lk ls 0) st) := mj_R0 (r := (.aload_n 0, 1, 0, 0, 0)) rfl rfl
theorem s306_41 {d : Nat} {ls : mj_L} {st : List Value} {M : mj_H} : mj_Rn d mj_m306 41 ls st M = mq_k0 d mj_m306 43 ls M (mj_ldi (mj_lk ls 4) st) := mj_R0 (r := (.iload 4, 2, 0, 0, 0)) rfl rfl
theorem s306_43 {d : Nat} {ls : mj_L} {st : List Value} {M : mj_H} : mj_Rn (d + 1) mj_m306 43 ls st M = mq_k5a (d + 1) mj_m306 46 ls M 294 (mq_cb 0 1 11 st M) := mj_R5e (r := (.invokevirtual 396, 3, 0, 294, 36884)) (z := mj_m294) rfl rfl (by decide) (by decide) rfl
theorem s306_46 {d : Nat} {ls : mj_L} {st : List Value} {M : mj_H} : mj_Rn d mj_m306 46 ls st M = mj_Rn d mj_m306 47 ls (.int 5 :: st) M := mj_R0 (r := (.iconst 5, 1, 0, 0, 0)) rfl rfl
theorem s306_47 {d : Nat} {ls : mj_L} {st : List Value} {M : mj_H} : mj_Rn d mj_m306 47 ls st M = mq_k2 d mj_m306 ls M (mj_br (.if_icmp .eq 5) 47 st) := mj_R2 (r := (.if_icmp .eq 5, 3, 0, 0, 0)) rfl rfl
theorem s306_50 {d : Nat} {ls : mj_L} {st : List Value} {M : mj_H} : mj_Rn d mj_m306 50 ls st M = mj_Rn d mj_m306 51 ls (.int 0 :: st) M := mj_R0 (r := (.iconst 0, 1, 0, 0, 0)) rfl rfl
theorem s306_51 {d : Nat} {ls : mj_L} {st : List Value} {M : mj_H} : mj_Rn d mj_m306 51 ls st M = mq_k6 M (mj_re (some .boolean) (.ireturn) st) := mj_R6 (r := (.ireturn, 1, 0, 0, 0)) rfl rfl
theorem s306_52 {d : Nat} {ls : mj_L} {st : List Value} {M : mj_H} : mj_Rn d mj_m306 52 ls st M = mq_k0 d mj_m306 53 ls M (mj_lda (mj_lk ls 0) st) := mj_R0 (r := (.aload_n 0, 1, 0, 0, 0)) rfl rfl
theorem s306_53 {d : Nat} {ls : mj_L} {st : List Value} {M : mj_H} : mj_Rn d mj_m306 53 ls st M = mq_k0 d mj_m306 55 ls M (mj_ldi (mj_lk ls 4) st) := mj_R0 (r := (.iload 4, 2, 0, 0, 0)) rfl rfl
theorem s306_55 {d : Nat} {ls : mj_L} {st : List Value} {M : mj_H} : mj_Rn d mj_m306 55 ls st M = mq_k0 d mj_m306 56 ls M (mj_ldi (mj_lk ls 2) st) := mj_R0 (r := (.iload_n 2, 1, 0, 0, 0)) rfl rfl
theorem s306_56 {d : Nat} {ls : mj_L} {st : List Value} {M : mj_H} : mj_Rn d mj_m306 56 ls st M = mq_k2 d mj_m306 ls M (mj_br (.ifCond .eq 9) 56 st) := mj_R2 (r := (.ifCond .eq 9, 3, 0, 0, 0)) rfl rfl
theorem s306_59 {d : Nat} {ls : mj_L} {st : List Value} {M : mj_H} : mj_Rn d mj_m306 59 ls st M = mj_Rn d mj_m306 62 ls (.int 6384743 :: st) M := mj_R3 (r := (.ldc_w 433, 3, 0, 27, 36938)) rfl rfl
theorem s306_62 {d : Nat} {ls : mj_L} {st : List Value} {M : mj_H} : mj_Rn d mj_m306 62 ls st M = mj_Rn d mj_m306 68 ls st M := mj_R2 (r := (.goto 6, 3, 0, 0, 0)) rfl rfl
theorem s306_65 {d : Nat} {ls : mj_L} {st : List Value} {M : mj_H} : mj_Rn d mj_m306 65 ls st M = mj_Rn d mj_m306 68 ls (.int 26980 :: st) M := mj_R0 (r := (.sipush 26980, 3, 0, 0, 0)) rfl rfl
theorem s306_68 {d : Nat} {ls : mj_L} {st : List Value} {M : mj_H} : mj_Rn (d + 1) mj_m306 68 ls st M = mq_k5a (d + 1) mj_m306 71 ls M 304 (mq_cb 0 2 11 st M) := mj_R5e (r := (.invokevirtual 427, 3, 0, 304, 36926)) (z := mj_m304) rfl rfl (by decide) (by decide) rfl
theorem s306_71 {d : Nat} {ls : mj_L} {st : List Value} {M : mj_H} : mj_Rn d mj_m306 71 ls st M = mq_k1 d mj_m306 73 M (mj_lo 8 (.istore 6) ls st) := mj_R1 (r := (.istore 6, 2, 0, 0, 0)) rfl rfl
theorem s306_73 {d : Nat} {ls : mj_L} {st : List Value} {M : mj_H} : mj_Rn d mj_m306 73 ls st M = mq_k0 d mj_m306 75 ls M (mj_ldi (mj_lk ls 6) st) := mj_R0 (r := (.iload 6, 2, 0, 0, 0)) rfl rfl
theorem s306_75 {d : Nat} {ls : mj_L} {st : List Value} {M : mj_H} : mj_Rn d mj_m306 75 ls st M = mj_Rn d mj_m306 76 ls (.int (-1) :: st) M := mj_R0 (r := (.iconst (-1), 1, 0, 0, 0)) rfl rfl
theorem s306_76 {d : Nat} {ls : mj_L} {st : List Value} {M : mj_H} : mj_Rn d mj_m306 76 ls st M = mq_k2 d mj_m306 ls M (mj_br (.if_icmp .eq 30) 76 st) := mj_R2 (r := (.if_icmp .eq 30, 3, 0, 0, 0)) rfl rfl
theorem s306_79 {d : Nat} {ls : mj_L} {st : List Value} {M : mj_H} : mj_Rn d mj_m306 79 ls st M = mq_k0 d mj_m306 80 ls M (mj_ldi (mj_lk ls 2) st) := mj_R0 (r := (.iload_n 2, 1, 0, 0, 0)) rfl rfl
theorem s306_80 {d : Nat} {ls : mj_L} {st : List Value} {M : mj_H} : mj_Rn d mj_m306 80 ls st M = mq_k2 d mj_m306 ls M (mj_br (.ifCond .eq 16) 80 st) := mj_R2 (r := (.ifCond .eq 16, 3, 0, 0, 0)) rfl rfl
theorem s306_83 {d : Nat} {ls : mj_L} {st : List Value} {M : mj_H} : mj_Rn d mj_m306 83 ls st M = mq_k0 d mj_m306 84 ls M (mj_lda (mj_lk ls 0) st) := mj_R0 (r := (.aload_n 0, 1, 0, 0, 0)) rfl rfl
theorem s306_84 {d : Nat} {ls : mj_L} {st : List Value} {M : mj_H} : mj_Rn d mj_m306 84 ls st M = mq_k0 d mj_m306 86 ls M (mj_ldi (mj_lk ls 6) st) := mj_R0 (r := (.iload 6, 2, 0, 0, 0)) rfl rfl
theorem s306_86 {d : Nat} {ls : mj_L} {st : List Value} {M : mj_H} : mj_Rn (d + 1) mj_m306 86 ls st M = mq_k5a (d + 1) mj_m306 89 ls M 294 (mq_cb 0 1 11 st M) := mj_R5e (r := (.invokevirtual 396, 3, 0, 294, 36884)) (z := mj_m294) rfl rfl (by decide) (by decide) rfl
theorem s306_89 {d : Nat} {ls : mj_L} {st : List Value} {M : mj_H} : mj_Rn d mj_m306 89 ls st M = mj_Rn d mj_m306 90 ls (.int 2 :: st) M := mj_R0 (r := (.iconst 2, 1, 0, 0, 0)) rfl rfl
theorem s306_90 {d : Nat} {ls : mj_L} {st : List Value} {M : mj_H} : mj_Rn d mj_m306 90 ls st M = mq_k2 d mj_m306 ls M (mj_br (.if_icmp .ge 20) 90 st) := mj_R2 (r := (.if_icmp .ge 20, 3, 0, 0, 0)) rfl rfl
theorem s306_93 {d : Nat} {ls : mj_L} {st : List Value} {M : mj_H} : mj_Rn d mj_m306 93 ls st M = mj_Rn d mj_m306 106 ls st M := mj_R2 (r := (.goto 13, 3, 0, 0, 0)) rfl rfl
theorem s306_96 {d : Nat} {ls : mj_L} {st : List Value} {M : mj_H} : mj_Rn d mj_m306 96 ls st M = mq_k0 d mj_m306 97 ls M (mj_lda (mj_lk ls 0) st) := mj_R0 (r := (.aload_n 0, 1, 0, 0, 0)) rfl rfl
theorem s306_97 {d : Nat} {ls : mj_L} {st : List Value} {M : mj_H} : mj_Rn d mj_m306 97 ls st M = mq_k0 d mj_m306 99 ls M (mj_ldi (mj_lk ls 6) st) := mj_R0 (r := (.iload 6, 2, 0, 0, 0)) rfl rfl
theorem s306_99 {d : Nat} {ls : mj_L} {st : List Value} {M : mj_H} : mj_Rn (d + 1) mj_m306 99 ls st M = mq_k5a (d + 1) mj_m306 102 ls M 294 (mq_cb 0 1 11 st M) := mj_R5e (r := (.invokevirtual 396, 3, 0, 294, 36884)) (z := mj_m294) rfl rfl (by decide) (by decide) rfl
theorem s306_102 {d : Nat} {ls : mj_L} {st : List Value} {M : mj_H} : mj_Rn d mj_m306 102 ls st M = mj_Rn d mj_m306 103 ls (.int 2 :: st) M := mj_R0 (r := (.iconst 2, 1, 0, 0, 0)) rfl rfl
theorem s306_103 {d : Nat} {ls : mj_L} {st : List Value} {M : mj_H} : mj_Rn d mj_m306 103 ls st M = mq_k2 d mj_m306 ls M (mj_br (.if_icmp .ne 7) 103 st) := mj_R2 (r := (.if_icmp .ne 7, 3, 0, 0, 0)) rfl rfl
theorem s306_106 {d : Nat} {ls : mj_L} {st : List Value} {M : mj_H} : mj_Rn d mj_m306 106 ls st M = mj_Rn d mj_m306 107 ls (.int 1 :: st) M := mj_R0 (r := (.iconst 1, 1, 0, 0, 0)) rfl rfl
theorem s306_107 {d : Nat} {ls : mj_L} {st : List Value} {M : mj_H} : mj_Rn d mj_m306 107 ls st M = mj_Rn d mj_m306 111 ls st M := mj_R2 (r := (.goto 4, 3, 0, 0, 0)) rfl rfl
theorem s306_110 {d : Nat} {ls : mj_L} {st : List Value} {M : mj_H} : mj_Rn d mj_m306 110 ls st M = mj_Rn d mj_m306 111 ls (.int 0 :: st) M := mj_R0 (r := (.iconst 0, 1, 0, 0, 0)) rfl rfl
theorem s306_111 {d : Nat} {ls : mj_L} {st : List Value} {M : mj_H} : mj_Rn d mj_m306 111 ls st M = mq_k1 d mj_m306 113 M (mj_lo 8 (.istore 7) ls st) := mj_R1 (r := (.istore 7, 2, 0, 0, 0)) rfl rfl
theorem s306_113 {d : Nat} {ls : mj_L} {st : List Value} {M : mj_H} : mj_Rn d mj_m306 113 ls st M = mq_k0 d mj_m306 115 ls M (mj_ldi (mj_lk ls 7) st) := mj_R0 (r := (.iload 7, 2, 0, 0, 0)) rfl rfl
theorem s306_115 {d : Nat} {ls : mj_L} {st : List Value} {M : mj_H} : mj_Rn d mj_m306 115 ls st M = mq_k2 d mj_m306 ls M (mj_br (.ifCond .eq 16) 115 st) := mj_R2 (r := (.ifCond .eq 16, 3, 0, 0, 0)) rfl rfl
theorem s306_118 {d : Nat} {ls : mj_L} {st : List Value} {M : mj_H} : mj_Rn d mj_m306 118 ls st M = mq_k0 d mj_m306 119 ls M (mj_lda (mj_lk ls 0) st) := mj_R0 (r := (.aload_n 0, 1, 0, 0, 0)) rfl rfl
theorem s306_119 {d : Nat} {ls : mj_L} {st : List Value} {M : mj_H} : mj_Rn d mj_m306 119 ls st M = mq_k0 d mj_m306 121 ls M (mj_ldi (mj_lk ls 4) st) := mj_R0 (r := (.iload 4, 2, 0, 0, 0)) rfl rfl
theorem s306_121 {d : Nat} {ls : mj_L} {st : List Value} {M : mj_H} : mj_Rn d mj_m306 121 ls st M = mj_Rn d mj_m306 124 ls (.int 1954115685 :: st) M := mj_R3 (r := (.ldc_w 426, 3, 0, 24, 36875)) rfl rfl
theorem s306_124 {d : Nat} {ls : mj_L} {st : List Value} {M : mj_H} : mj_Rn d mj_m306 124 ls st M = mj_Rn d mj_m306 125 ls (.int 3 :: st) M := mj_R0 (r := (.iconst 3, 1, 0, 0, 0)) rfl rfl
theorem s306_125 {d : Nat} {ls : mj_L} {st : List Value} {M : mj_H} : mj_Rn (d + 1) mj_m306 125 ls st M = mq_k5a (d + 1) mj_m306 128 ls M 303 (mq_cb 0 3 11 st M) := mj_R5e (r := (.invokevirtual 434, 3, 0, 303, 36922)) (z := mj_m303) rfl rfl (by decide) (by decide) rfl
theorem s306_128 {d : Nat} {ls : mj_L} {st : List Value} {M : mj_H} : mj_Rn d mj_m306 128 ls st M = mq_k2 d mj_m306 ls M (mj_br (.ifCond .ne 5) 128 st) := mj_R2 (r := (.ifCond .ne 5, 3, 0, 0, 0)) rfl rfl
theorem s306_131 {d : Nat} {ls : mj_L} {st : List Value} {M : mj_H} : mj_Rn d mj_m306 131 ls st M = mj_Rn d mj_m306 132 ls (.int 0 :: st) M := mj_R0 (r := (.iconst 0, 1, 0, 0, 0)) rfl rfl
theorem s306_132 {d : Nat} {ls : mj_L} {st : List Value} {M : mj_H} : mj_Rn d mj_m306 132 ls st M = mq_k6 M (mj_re (some .boolean) (.ireturn) st) := mj_R6 (r := (.ireturn, 1, 0, 0, 0)) rfl rfl
theorem s306_133 {d : Nat} {ls : mj_L} {st : List Value} {M : mj_H} : mj_Rn d mj_m306 133 ls st M = mq_k0 d mj_m306 134 ls M (mj_lda (mj_lk ls 0) st) := mj_R0 (r := (.aload_n 0, 1, 0, 0, 0)) rfl rfl
theorem s306_134 {d : Nat} {ls : mj_L} {st : List Value} {M : mj_H} : mj_Rn d mj_m306 134 ls st M = mq_k0 d mj_m306 136 ls M (mj_ldi (mj_lk ls 4) st) := mj_R0 (r := (.iload 4, 2, 0, 0, 0)) rfl rfl
theorem s306_136 {d : Nat} {ls : mj_L} {st : List Value} {M : mj_H} : mj_Rn (d + 1) mj_m306 136 ls st M = mq_k5a (d + 1) mj_m306 139 ls M 301 (mq_cb 0 1 11 st M) := mj_R5e (r := (.invokevirtual 416, 3, 0, 301, 36913)) (z := mj_m301) rfl rfl (by decide) (by decide) rfl
theorem s306_139 {d : Nat} {ls : mj_L} {st : List Value} {M : mj_H} : mj_Rn d mj_m306 139 ls st M = mq_k1 d mj_m306 141 M (mj_lo 8 (.istore 4) ls st) := mj_R1 (r := (.istore 4, 2, 0, 0, 0)) rfl rfl
theorem s306_141 {d : Nat} {ls : mj_L} {st : List Value} {M : mj_H} : mj_Rn d mj_m306 141 ls st M = mq_k1 d mj_m306 144 M (mj_lo 8 (.iinc 5 1) ls st) := mj_R1 (r := (.iinc 5 1, 3, 0, 0, 0)) rfl rfl
theorem s306_144 {d : Nat} {ls : mj_L} {st : List Value} {M : mj_H} : mj_Rn d mj_m306 144 ls st M = mj_Rn d mj_m306 34 ls st M := mj_R2 (r := (.goto (-110), 3, 0, 0, 0)) rfl rfl
theorem s306_147 {d : Nat} {ls : mj_L} {st : List Value} {M : mj_H} : mj_Rn d mj_m306 147 ls st M = mj_Rn d mj_m306 148 ls (.int 1 :: st) M := mj_R0 (r := (.iconst 1, 1, 0, 0, 0)) rfl rfl
theorem s306_148 {d : Nat} {ls : mj_L} {st : List Value} {M : mj_H} : mj_Rn d mj_m306 148 ls st M = mq_k6 M (mj_re (some .boolean) (.ireturn) st) := mj_R6 (r := (.ireturn, 1, 0, 0, 0)) rfl rfl
/- 307 PasskeyHouseModel.areWhole(IZ)Z -/
theorem s307_0 {d : Nat} {ls : mj_L} {st : List Value} {M : mj_H} : mj_Rn d mj_m307 0 ls st M = mq_k0 d mj_m307 1 ls M (mj_ldi (mj_lk ls 1) st) := mj_R0 (r := (.iload_n 1, 1, 0, 0, 0)) rfl rfl
theorem s307_1 {d : Nat} {ls : mj_L} {st : List Value} {M : mj_H} : mj_Rn d mj_m307 1 ls st M = mj_Rn d mj_m307 2 ls (.int (-1) :: st) M := mj_R0 (r := (.iconst (-1), 1, 0, 0, 0)) rfl rfl
theorem s307_2 {d : Nat} {ls : mj_L} {st : List Value} {M : mj_H} : mj_Rn d mj_m307 2 ls st M = mq_k2 d mj_m307 ls M (mj_br (.if_icmp .ne 5) 2 st) := mj_R2 (r := (.if_icmp .ne 5, 3, 0, 0, 0)) rfl rfl
theorem s307_5 {d : Nat} {ls : mj_L} {st : List Value} {M : mj_H} : mj_Rn d mj_m307 5 ls st M = mj_Rn d mj_m307 6 ls (.int 1 :: st) M := mj_R0 (r := (.iconst 1, 1, 0, 0, 0)) rfl rfl
theorem s307_6 {d : Nat} {ls : mj_L} {st : List Value} {M : mj_H} : mj_Rn d mj_m307 6 ls st M = mq_k6 M (mj_re (some .boolean) (.ireturn) st) := mj_R6 (r := (.ireturn, 1, 0, 0, 0)) rfl rfl
theorem s307_7 {d : Nat} {ls : mj_L} {st : List Value} {M : mj_H} : mj_Rn d mj_m307 7 ls st M = mq_k0 d mj_m307 8 ls M (mj_lda (mj_lk ls 0) st) := mj_R0 (r := (.aload_n 0, 1, 0, 0, 0)) rfl rfl
theorem s307_8 {d : Nat} {ls : mj_L} {st : List Value} {M : mj_H} : mj_Rn d mj_m307 8 ls st M = mq_k0 d mj_m307 9 ls M (mj_ldi (mj_lk ls 1) st) := mj_R0 (r := (.iload_n 1, 1, 0, 0, 0)) rfl rfl
theorem s307_9 {d : Nat} {ls : mj_L} {st : List Value} {M : mj_H} : mj_Rn (d + 1) mj_m307 9 ls st M = mq_k5a (d + 1) mj_m307 12 ls M 297 (mq_cb 0 1 11 st M) := mj_R5e (r := (.invokevirtual 402, 3, 0, 297, 36895)) (z := mj_m297) rfl rfl (by decide) (by decide) rfl
theorem s307_12 {d : Nat} {ls : mj_L} {st : List Value} {M : mj_H} : mj_Rn d mj_m307 12 ls st M = mq_k1 d mj_m307 13 M (mj_lo 6 (.istore 3) ls st) := (mj_R1 (r := (.istore_n 3, 1, 0, 0, 0)) rfl rfl).trans (congrArg (mq_k1 d mj_m307 13 M) (mq_sti (k := 3)))
theorem s307_13 {d : Nat} {ls : mj_L} {st : List Value} {M : mj_H} : mj_Rn d mj_m307 13 ls st M = mq_k0 d mj_m307 14 ls M (mj_lda (mj_lk ls 0) st) := mj_R0 (r := (.aload_n 0, 1, 0, 0, 0)) rfl rfl
theorem s307_14 {d : Nat} {ls : mj_L} {st : List Value} {M : mj_H} : mj_Rn d mj_m307 14 ls st M = mq_k0 d mj_m307 15 ls M (mj_ldi (mj_lk ls 1) st) := mj_R0 (r := (.iload_n 1, 1, 0, 0, 0)) rfl rfl
theorem s307_15 {d : Nat} {ls : mj_L} {st : List Value} {M : mj_H} : mj_Rn (d + 1) mj_m307 15 ls st M = mq_k5a (d + 1) mj_m307 18 ls M 295 (mq_cb 0 1 11 st M) := mj_R5e (r := (.invokevirtual 399, 3, 0, 295, 36888)) (z := mj_m295) rfl rfl (by decide) (by decide) rfl
theorem s307_18 {d : Nat} {ls : mj_L} {st : List Value} {M : mj_H} : mj_Rn d mj_m307 18 ls st M = mq_k1 d mj_m307 20 M (mj_lo 6 (.istore 4) ls st) := mj_R1 (r := (.istore 4, 2, 0, 0, 0)) rfl rfl
theorem s307_20 {d : Nat} {ls : mj_L} {st : List Value} {M : mj_H} : mj_Rn d mj_m307 20 ls st M = mj_Rn d mj_m307 21 ls (.int 0 :: st) M := mj_R0 (r := (.iconst 0, 1, 0, 0, 0)) rfl rfl
theorem s307_21 {d : Nat} {ls : mj_L} {st : List Value} {M : mj_H} : mj_Rn d mj_m307 21 ls st M = mq_k1 d mj_m307 23 M (mj_lo 6 (.istore 5) ls st) := mj_R1 (r := (.istore 5, 2, 0, 0, 0)) rfl rfl
theorem s307_23 {d : Nat} {ls : mj_L} {st : List Value} {M : mj_H} : mj_Rn d mj_m307 23 ls st M = mq_k0 d mj_m307 25 ls M (mj_ldi (mj_lk ls 5) st) := mj_R0 (r := (.iload 5, 2, 0, 0, 0)) rfl rfl
theorem s307_25 {d : Nat} {ls : mj_L} {st : List Value} {M : mj_H} : mj_Rn d mj_m307 25 ls st M = mq_k0 d mj_m307 26 ls M (mj_ldi (mj_lk ls 3) st) := mj_R0 (r := (.iload_n 3, 1, 0, 0, 0)) rfl rfl
theorem s307_26 {d : Nat} {ls : mj_L} {st : List Value} {M : mj_H} : mj_Rn d mj_m307 26 ls st M = mq_k2 d mj_m307 ls M (mj_br (.if_icmp .ge 55) 26 st) := mj_R2 (r := (.if_icmp .ge 55, 3, 0, 0, 0)) rfl rfl
theorem s307_29 {d : Nat} {ls : mj_L} {st : List Value} {M : mj_H} : mj_Rn d mj_m307 29 ls st M = mq_k0 d mj_m307 30 ls M (mj_lda (mj_lk ls 0) st) := mj_R0 (r := (.aload_n 0, 1, 0, 0, 0)) rfl rfl
theorem s307_30 {d : Nat} {ls : mj_L} {st : List Value} {M : mj_H} : mj_Rn d mj_m307 30 ls st M = mq_k0 d mj_m307 32 ls M (mj_ldi (mj_lk ls 4) st) := mj_R0 (r := (.iload 4, 2, 0, 0, 0)) rfl rfl
theorem s307_32 {d : Nat} {ls : mj_L} {st : List Value} {M : mj_H} : mj_Rn d mj_m307 32 ls st M = mq_k0 d mj_m307 33 ls M (mj_ldi (mj_lk ls 2) st) := mj_R0 (r := (.iload_n 2, 1, 0, 0, 0)) rfl rfl
theorem s307_33 {d : Nat} {ls : mj_L} {st : List Value} {M : mj_H} : mj_Rn d mj_m307 33 ls st M = mq_k2 d mj_m307 ls M (mj_br (.ifCond .eq 9) 33 st) := mj_R2 (r := (.ifCond .eq 9, 3, 0, 0, 0)) rfl rfl
theorem s307_36 {d : Nat} {ls : mj_L} {st : List Value} {M : mj_H} : mj_Rn d mj_m307 36 ls st M = mj_Rn d mj_m307 39 ls (.int 6384743 :: st) M := mj_R3 (r := (.ldc_w 433, 3, 0, 27, 36938)) rfl rfl
theorem s307_39 {d : Nat} {ls : mj_L} {st : List Value} {M : mj_H} : mj_Rn d mj_m307 39 ls st M = mj_Rn d mj_m307 45 ls st M := mj_R2 (r := (.goto 6, 3, 0, 0, 0)) rfl rfl
theorem s307_42 {d : Nat} {ls : mj_L} {st : List Value} {M : mj_H} : mj_Rn d mj_m307 42 ls st M = mj_Rn d mj_m307 45 ls (.int 26980 :: st) M := mj_R0 (r := (.sipush 26980, 3, 0, 0, 0)) rfl rfl
theorem s307_45 {d : Nat} {ls : mj_L} {st : List Value} {M : mj_H} : mj_Rn (d + 1) mj_m307 45 ls st M = mq_k5a (d + 1) mj_m307 48 ls M 304 (mq_cb 0 2 11 st M) := mj_R5e (r := (.invokevirtual 427, 3, 0, 304, 36926)) (z := mj_m304) rfl rfl (by decide) (by decide) rfl
theorem s307_48 {d : Nat} {ls : mj_L} {st : List Value} {M : mj_H} : mj_Rn d mj_m307 48 ls st M = mj_Rn d mj_m307 49 ls (.int (-1) :: st) M := mj_R0 (r := (.iconst (-1), 1, 0, 0, 0)) rfl rfl
theorem s307_49 {d : Nat} {ls : mj_L} {st : List Value} {M : mj_H} : mj_Rn d mj_m307 49 ls st M = mq_k2 d mj_m307 ls M (mj_br (.if_icmp .eq 16) 49 st) := mj_R2 (r := (.if_icmp .eq 16, 3, 0, 0, 0)) rfl rfl
theorem s307_52 {d : Nat} {ls : mj_L} {st : List Value} {M : mj_H} : mj_Rn d mj_m307 52 ls st M = mq_k0 d mj_m307 53 ls M (mj_lda (mj_lk ls 0) st) := mj_R0 (r := (.aload_n 0, 1, 0, 0, 0)) rfl rfl
theorem s307_53 {d : Nat} {ls : mj_L} {st : List Value} {M : mj_H} : mj_Rn d mj_m307 53 ls st M = mq_k0 d mj_m307 55 ls M (mj_ldi (mj_lk ls 4) st) := mj_R0 (r := (.iload 4, 2, 0, 0, 0)) rfl rfl
theorem s307_55 {d : Nat} {ls : mj_L} {st : List Value} {M : mj_H} : mj_Rn d mj_m307 55 ls st M = mj_Rn d mj_m307 58 ls (.int 1954115685 :: st) M := mj_R3 (r := (.ldc_w 426, 3, 0, 24, 36875)) rfl rfl
theorem s307_58 {d : Nat} {ls : mj_L} {st : List Value} {M : mj_H} : mj_Rn (d + 1) mj_m307 58 ls st M = mq_k5a (d + 1) mj_m307 61 ls M 304 (mq_cb 0 2 11 st M) := mj_R5e (r := (.invokevirtual 427, 3, 0, 304, 36926)) (z := mj_m304) rfl rfl (by decide) (by decide) rfl
theorem s307_61 {d : Nat} {ls : mj_L} {st : List Value} {M : mj_H} : mj_Rn d mj_m307 61 ls st M = mj_Rn d mj_m307 62 ls (.int (-1) :: st) M := mj_R0 (r := (.iconst (-1), 1, 0, 0, 0)) rfl rfl
theorem s307_62 {d : Nat} {ls : mj_L} {st : List Value} {M : mj_H} : mj_Rn d mj_m307 62 ls st M = mq_k2 d mj_m307 ls M (mj_br (.if_icmp .ne 5) 62 st) := mj_R2 (r := (.if_icmp .ne 5, 3, 0, 0, 0)) rfl rfl
theorem s307_65 {d : Nat} {ls : mj_L} {st : List Value} {M : mj_H} : mj_Rn d mj_m307 65 ls st M = mj_Rn d mj_m307 66 ls (.int 0 :: st) M := mj_R0 (r := (.iconst 0, 1, 0, 0, 0)) rfl rfl
theorem s307_66 {d : Nat} {ls : mj_L} {st : List Value} {M : mj_H} : mj_Rn d mj_m307 66 ls st M = mq_k6 M (mj_re (some .boolean) (.ireturn) st) := mj_R6 (r := (.ireturn, 1, 0, 0, 0)) rfl rfl
theorem s307_67 {d : Nat} {ls : mj_L} {st : List Value} {M : mj_H} : mj_Rn d mj_m307 67 ls st M = mq_k0 d mj_m307 68 ls M (mj_lda (mj_lk ls 0) st) := mj_R0 (r := (.aload_n 0, 1, 0, 0, 0)) rfl rfl
theorem s307_68 {d : Nat} {ls : mj_L} {st : List Value} {M : mj_H} : mj_Rn d mj_m307 68 ls st M = mq_k0 d mj_m307 70 ls M (mj_ldi (mj_lk ls 4) st) := mj_R0 (r := (.iload 4, 2, 0, 0, 0)) rfl rfl
theorem s307_70 {d : Nat} {ls : mj_L} {st : List Value} {M : mj_H} : mj_Rn (d + 1) mj_m307 70 ls st M = mq_k5a (d + 1) mj_m307 73 ls M 301 (mq_cb 0 1 11 st M) := mj_R5e (r := (.invokevirtual 416, 3, 0, 301, 36913)) (z := mj_m301) rfl rfl (by decide) (by decide) rfl
theorem s307_73 {d : Nat} {ls : mj_L} {st : List Value} {M : mj_H} : mj_Rn d mj_m307 73 ls st M = mq_k1 d mj_m307 75 M (mj_lo 6 (.istore 4) ls st) := mj_R1 (r := (.istore 4, 2, 0, 0, 0)) rfl rfl
theorem s307_75 {d : Nat} {ls : mj_L} {st : List Value} {M : mj_H} : mj_Rn d mj_m307 75 ls st M = mq_k1 d mj_m307 78 M (mj_lo 6 (.iinc 5 1) ls st) := mj_R1 (r := (.iinc 5 1, 3, 0, 0, 0)) rfl rfl
theorem s307_78 {d : Nat} {ls : mj_L} {st : List Value} {M : mj_H} : mj_Rn d mj_m307 78 ls st M = mj_Rn d mj_m307 23 ls st M := mj_R2 (r := (.goto (-55), 3, 0, 0, 0)) rfl rfl
theorem s307_81 {d : Nat} {ls : mj_L} {st : List Value} {M : mj_H} : mj_Rn d mj_m307 81 ls st M = mj_Rn d mj_m307 82 ls (.int 1 :: st) M := mj_R0 (r := (.iconst 1, 1, 0, 0, 0)) rfl rfl
theorem s307_82 {d : Nat} {ls : mj_L} {st : List Value} {M : mj_H} : mj_Rn d mj_m307 82 ls st M = mq_k6 M (mj_re (some .boolean) (.ireturn) st) := mj_R6 (r := (.ireturn, 1, 0, 0, 0)) rfl rfl
/- 312 PasskeyHouseModel.isPublicKey(I)Z -/
theorem s312_0 {d : Nat} {ls : mj_L} {st : List Value} {M : mj_H} : mj_Rn d mj_m312 0 ls st M = mq_k0 d mj_m312 1 ls M (mj_lda (mj_lk ls 0) st) := mj_R0 (r := (.aload_n 0, 1, 0, 0, 0)) rfl rfl
theorem s312_1 {d : Nat} {ls : mj_L} {st : List Value} {M : mj_H} : mj_Rn d mj_m312 1 ls st M = mq_k0 d mj_m312 2 ls M (mj_ldi (mj_lk ls 1) st) := mj_R0 (r := (.iload_n 1, 1, 0, 0, 0)) rfl rfl
theorem s312_2 {d : Nat} {ls : mj_L} {st : List Value} {M : mj_H} : mj_Rn d mj_m312 2 ls st M = mj_Rn d mj_m312 5 ls (.int 1954115685 :: st) M := mj_R3 (r := (.ldc_w 426, 3, 0, 24, 36875)) rfl rfl
theorem s312_5 {d : Nat} {ls : mj_L} {st : List Value} {M : mj_H} : mj_Rn (d + 1) mj_m312 5 ls st M = mq_k5a (d + 1) mj_m312 8 ls M 304 (mq_cb 0 2 11 st M) := mj_R5e (r := (.invokevirtual 427, 3, 0, 304, 36926)) (z := mj_m304) rfl rfl (by decide) (by decide) rfl
theorem s312_8 {d : Nat} {ls : mj_L} {st : List Value} {M : mj_H} : mj_Rn d mj_m312 8 ls st M = mq_k1 d mj_m312 9 M (mj_lo 5 (.istore 2) ls st) := (mj_R1 (r := (.istore_n 2, 1, 0, 0, 0)) rfl rfl).trans (congrArg (mq_k1 d mj_m312 9 M) (mq_sti (k := 2)))
theorem s312_9 {d : Nat} {ls : mj_L} {st : List Value} {M : mj_H} : mj_Rn d mj_m312 9 ls st M = mq_k0 d mj_m312 10 ls M (mj_lda (mj_lk ls 0) st) := mj_R0 (r := (.aload_n 0, 1, 0, 0, 0)) rfl rfl
theorem s312_10 {d : Nat} {ls : mj_L} {st : List Value} {M : mj_H} : mj_Rn d mj_m312 10 ls st M = mq_k0 d mj_m312 11 ls M (mj_ldi (mj_lk ls 2) st) := mj_R0 (r := (.iload_n 2, 1, 0, 0, 0)) rfl rfl
theorem s312_11 {d : Nat} {ls : mj_L} {st : List Value} {M : mj_H} : mj_Rn (d + 1) mj_m312 11 ls st M = mq_k5a (d + 1) mj_m312 14 ls M 297 (mq_cb 0 1 11 st M) := mj_R5e (r := (.invokevirtual 402, 3, 0, 297, 36895)) (z := mj_m297) rfl rfl (by decide) (by decide) rfl
theorem s312_14 {d : Nat} {ls : mj_L} {st : List Value} {M : mj_H} : mj_Rn d mj_m312 14 ls st M = mj_Rn d mj_m312 16 ls (.int 10 :: st) M := mj_R0 (r := (.bipush 10, 2, 0, 0, 0)) rfl rfl
theorem s312_16 {d : Nat} {ls : mj_L} {st : List Value} {M : mj_H} : mj_Rn d mj_m312 16 ls st M = mq_k2 d mj_m312 ls M (mj_br (.if_icmp .ne 7) 16 st) := mj_R2 (r := (.if_icmp .ne 7, 3, 0, 0, 0)) rfl rfl
theorem s312_19 {d : Nat} {ls : mj_L} {st : List Value} {M : mj_H} : mj_Rn d mj_m312 19 ls st M = mj_Rn d mj_m312 20 ls (.int 1 :: st) M := mj_R0 (r := (.iconst 1, 1, 0, 0, 0)) rfl rfl
theorem s312_20 {d : Nat} {ls : mj_L} {st : List Value} {M : mj_H} : mj_Rn d mj_m312 20 ls st M = mj_Rn d mj_m312 24 ls st M := mj_R2 (r := (.goto 4, 3, 0, 0, 0)) rfl rfl
theorem s312_23 {d : Nat} {ls : mj_L} {st : List Value} {M : mj_H} : mj_Rn d mj_m312 23 ls st M = mj_Rn d mj_m312 24 ls (.int 0 :: st) M := mj_R0 (r := (.iconst 0, 1, 0, 0, 0)) rfl rfl
theorem s312_24 {d : Nat} {ls : mj_L} {st : List Value} {M : mj_H} : mj_Rn d mj_m312 24 ls st M = mq_k1 d mj_m312 25 M (mj_lo 5 (.istore 3) ls st) := (mj_R1 (r := (.istore_n 3, 1, 0, 0, 0)) rfl rfl).trans (congrArg (mq_k1 d mj_m312 25 M) (mq_sti (k := 3)))
theorem s312_25 {d : Nat} {ls : mj_L} {st : List Value} {M : mj_H} : mj_Rn d mj_m312 25 ls st M = mj_Rn d mj_m312 26 ls (.int 0 :: st) M := mj_R0 (r := (.iconst 0, 1, 0, 0, 0)) rfl rfl
theorem s312_26 {d : Nat} {ls : mj_L} {st : List Value} {M : mj_H} : mj_Rn d mj_m312 26 ls st M = mq_k1 d mj_m312 28 M (mj_lo 5 (.istore 4) ls st) := mj_R1 (r := (.istore 4, 2, 0, 0, 0)) rfl rfl
theorem s312_28 {d : Nat} {ls : mj_L} {st : List Value} {M : mj_H} : mj_Rn d mj_m312 28 ls st M = mq_k0 d mj_m312 30 ls M (mj_ldi (mj_lk ls 4) st) := mj_R0 (r := (.iload 4, 2, 0, 0, 0)) rfl rfl
theorem s312_30 {d : Nat} {ls : mj_L} {st : List Value} {M : mj_H} : mj_Rn d mj_m312 30 ls st M = mj_Rn d mj_m312 32 ls (.int 10 :: st) M := mj_R0 (r := (.bipush 10, 2, 0, 0, 0)) rfl rfl
theorem s312_32 {d : Nat} {ls : mj_L} {st : List Value} {M : mj_H} : mj_Rn d mj_m312 32 ls st M = mq_k2 d mj_m312 ls M (mj_br (.if_icmp .ge 42) 32 st) := mj_R2 (r := (.if_icmp .ge 42, 3, 0, 0, 0)) rfl rfl
theorem s312_35 {d : Nat} {ls : mj_L} {st : List Value} {M : mj_H} : mj_Rn d mj_m312 35 ls st M = mq_k0 d mj_m312 36 ls M (mj_ldi (mj_lk ls 3) st) := mj_R0 (r := (.iload_n 3, 1, 0, 0, 0)) rfl rfl
theorem s312_36 {d : Nat} {ls : mj_L} {st : List Value} {M : mj_H} : mj_Rn d mj_m312 36 ls st M = mq_k2 d mj_m312 ls M (mj_br (.ifCond .eq 38) 36 st) := mj_R2 (r := (.ifCond .eq 38, 3, 0, 0, 0)) rfl rfl
theorem s312_39 {d : Nat} {ls : mj_L} {st : List Value} {M : mj_H} : mj_Rn d mj_m312 39 ls st M = mq_k0 d mj_m312 40 ls M (mj_lda (mj_lk ls 0) st) := mj_R0 (r := (.aload_n 0, 1, 0, 0, 0)) rfl rfl
theorem s312_40 {d : Nat} {ls : mj_L} {st : List Value} {M : mj_H} : mj_Rn d mj_m312 40 ls st M = mq_k0 d mj_m312 43 ls M (mq_gf 11 46 st M) := (mj_R3 (r := (.getfield 127, 3, 11, 46, 57400)) rfl rfl).trans (congrArg (mq_k0 d mj_m312 43 ls M) mq_gf_eq)
theorem s312_43 {d : Nat} {ls : mj_L} {st : List Value} {M : mj_H} : mj_Rn d mj_m312 43 ls st M = mq_k0 d mj_m312 44 ls M (mj_lda (mj_lk ls 0) st) := mj_R0 (r := (.aload_n 0, 1, 0, 0, 0)) rfl rfl
theorem s312_44 {d : Nat} {ls : mj_L} {st : List Value} {M : mj_H} : mj_Rn d mj_m312 44 ls st M = mq_k0 d mj_m312 45 ls M (mj_ldi (mj_lk ls 2) st) := mj_R0 (r := (.iload_n 2, 1, 0, 0, 0)) rfl rfl
theorem s312_45 {d : Nat} {ls : mj_L} {st : List Value} {M : mj_H} : mj_Rn (d + 1) mj_m312 45 ls st M = mq_k5a (d + 1) mj_m312 48 ls M 295 (mq_cb 0 1 11 st M) := mj_R5e (r := (.invokevirtual 399, 3, 0, 295, 36888)) (z := mj_m295) rfl rfl (by decide) (by decide) rfl
theorem s312_48 {d : Nat} {ls : mj_L} {st : List Value} {M : mj_H} : mj_Rn d mj_m312 48 ls st M = mq_k0 d mj_m312 50 ls M (mj_ldi (mj_lk ls 4) st) := mj_R0 (r := (.iload 4, 2, 0, 0, 0)) rfl rfl
theorem s312_50 {d : Nat} {ls : mj_L} {st : List Value} {M : mj_H} : mj_Rn d mj_m312 50 ls st M = mq_k0 d mj_m312 51 ls M (mj_pu .iadd ls st) := mj_R0 (r := (.iadd, 1, 0, 0, 0)) rfl rfl
theorem s312_51 {d : Nat} {ls : mj_L} {st : List Value} {M : mj_H} : mj_Rn d mj_m312 51 ls st M = mq_k0 d mj_m312 52 ls M (mq_al [1000] st M) := (mj_R3 (r := (.iaload, 1, 0, 0, 0)) rfl rfl).trans (congrArg (mq_k0 d mj_m312 52 ls M) mq_ali_eq)
theorem s312_52 {d : Nat} {ls : mj_L} {st : List Value} {M : mj_H} : mj_Rn d mj_m312 52 ls st M = mq_k0 d mj_m312 53 ls M (mj_lda (mj_lk ls 0) st) := mj_R0 (r := (.aload_n 0, 1, 0, 0, 0)) rfl rfl
theorem s312_53 {d : Nat} {ls : mj_L} {st : List Value} {M : mj_H} : mj_Rn d mj_m312 53 ls st M = mq_k0 d mj_m312 56 ls M (mq_gf 11 52 st M) := (mj_R3 (r := (.getfield 143, 3, 11, 52, 57412)) rfl rfl).trans (congrArg (mq_k0 d mj_m312 56 ls M) mq_gf_eq)
theorem s312_56 {d : Nat} {ls : mj_L} {st : List Value} {M : mj_H} : mj_Rn d mj_m312 56 ls st M = mq_k0 d mj_m312 58 ls M (mj_ldi (mj_lk ls 4) st) := mj_R0 (r := (.iload 4, 2, 0, 0, 0)) rfl rfl
theorem s312_58 {d : Nat} {ls : mj_L} {st : List Value} {M : mj_H} : mj_Rn d mj_m312 58 ls st M = mq_k0 d mj_m312 59 ls M (mq_al [1000] st M) := (mj_R3 (r := (.iaload, 1, 0, 0, 0)) rfl rfl).trans (congrArg (mq_k0 d mj_m312 59 ls M) mq_ali_eq)
theorem s312_59 {d : Nat} {ls : mj_L} {st : List Value} {M : mj_H} : mj_Rn d mj_m312 59 ls st M = mq_k2 d mj_m312 ls M (mj_br (.if_icmp .ne 7) 59 st) := mj_R2 (r := (.if_icmp .ne 7, 3, 0, 0, 0)) rfl rfl
theorem s312_62 {d : Nat} {ls : mj_L} {st : List Value} {M : mj_H} : mj_Rn d mj_m312 62 ls st M = mj_Rn d mj_m312 63 ls (.int 1 :: st) M := mj_R0 (r := (.iconst 1, 1, 0, 0, 0)) rfl rfl
theorem s312_63 {d : Nat} {ls : mj_L} {st : List Value} {M : mj_H} : mj_Rn d mj_m312 63 ls st M = mj_Rn d mj_m312 67 ls st M := mj_R2 (r := (.goto 4, 3, 0, 0, 0)) rfl rfl
theorem s312_66 {d : Nat} {ls : mj_L} {st : List Value} {M : mj_H} : mj_Rn d mj_m312 66 ls st M = mj_Rn d mj_m312 67 ls (.int 0 :: st) M := mj_R0 (r := (.iconst 0, 1, 0, 0, 0)) rfl rfl
theorem s312_67 {d : Nat} {ls : mj_L} {st : List Value} {M : mj_H} : mj_Rn d mj_m312 67 ls st M = mq_k1 d mj_m312 68 M (mj_lo 5 (.istore 3) ls st) := (mj_R1 (r := (.istore_n 3, 1, 0, 0, 0)) rfl rfl).trans (congrArg (mq_k1 d mj_m312 68 M) (mq_sti (k := 3)))
theorem s312_68 {d : Nat} {ls : mj_L} {st : List Value} {M : mj_H} : mj_Rn d mj_m312 68 ls st M = mq_k1 d mj_m312 71 M (mj_lo 5 (.iinc 4 1) ls st) := mj_R1 (r := (.iinc 4 1, 3, 0, 0, 0)) rfl rfl
theorem s312_71 {d : Nat} {ls : mj_L} {st : List Value} {M : mj_H} : mj_Rn d mj_m312 71 ls st M = mj_Rn d mj_m312 28 ls st M := mj_R2 (r := (.goto (-43), 3, 0, 0, 0)) rfl rfl
theorem s312_74 {d : Nat} {ls : mj_L} {st : List Value} {M : mj_H} : mj_Rn d mj_m312 74 ls st M = mq_k0 d mj_m312 75 ls M (mj_ldi (mj_lk ls 3) st) := mj_R0 (r := (.iload_n 3, 1, 0, 0, 0)) rfl rfl
theorem s312_75 {d : Nat} {ls : mj_L} {st : List Value} {M : mj_H} : mj_Rn d mj_m312 75 ls st M = mq_k6 M (mj_re (some .boolean) (.ireturn) st) := mj_R6 (r := (.ireturn, 1, 0, 0, 0)) rfl rfl
/- 318 PasskeyHouseModel.isTrue(II)Z -/
theorem s318_0 {d : Nat} {ls : mj_L} {st : List Value} {M : mj_H} : mj_Rn d mj_m318 0 ls st M = mq_k0 d mj_m318 1 ls M (mj_ldi (mj_lk ls 1) st) := mj_R0 (r := (.iload_n 1, 1, 0, 0, 0)) rfl rfl
theorem s318_1 {d : Nat} {ls : mj_L} {st : List Value} {M : mj_H} : mj_Rn d mj_m318 1 ls st M = mj_Rn d mj_m318 2 ls (.int (-1) :: st) M := mj_R0 (r := (.iconst (-1), 1, 0, 0, 0)) rfl rfl
theorem s318_2 {d : Nat} {ls : mj_L} {st : List Value} {M : mj_H} : mj_Rn d mj_m318 2 ls st M = mq_k2 d mj_m318 ls M (mj_br (.if_icmp .ne 7) 2 st) := mj_R2 (r := (.if_icmp .ne 7, 3, 0, 0, 0)) rfl rfl
theorem s318_5 {d : Nat} {ls : mj_L} {st : List Value} {M : mj_H} : mj_Rn d mj_m318 5 ls st M = mj_Rn d mj_m318 6 ls (.int (-1) :: st) M := mj_R0 (r := (.iconst (-1), 1, 0, 0, 0)) rfl rfl
theorem s318_6 {d : Nat} {ls : mj_L} {st : List Value} {M : mj_H} : mj_Rn d mj_m318 6 ls st M = mj_Rn d mj_m318 15 ls st M := mj_R2 (r := (.goto 9, 3, 0, 0, 0)) rfl rfl
theorem s318_9 {d : Nat} {ls : mj_L} {st : List Value} {M : mj_H} : mj_Rn d mj_m318 9 ls st M = mq_k0 d mj_m318 10 ls M (mj_lda (mj_lk ls 0) st) := mj_R0 (r := (.aload_n 0, 1, 0, 0, 0)) rfl rfl
theorem s318_10 {d : Nat} {ls : mj_L} {st : List Value} {M : mj_H} : mj_Rn d mj_m318 10 ls st M = mq_k0 d mj_m318 11 ls M (mj_ldi (mj_lk ls 1) st) := mj_R0 (r := (.iload_n 1, 1, 0, 0, 0)) rfl rfl
theorem s318_11 {d : Nat} {ls : mj_L} {st : List Value} {M : mj_H} : mj_Rn d mj_m318 11 ls st M = mq_k0 d mj_m318 12 ls M (mj_ldi (mj_lk ls 2) st) := mj_R0 (r := (.iload_n 2, 1, 0, 0, 0)) rfl rfl
theorem s318_12 {d : Nat} {ls : mj_L} {st : List Value} {M : mj_H} : mj_Rn (d + 1) mj_m318 12 ls st M = mq_k5a (d + 1) mj_m318 15 ls M 304 (mq_cb 0 2 11 st M) := mj_R5e (r := (.invokevirtual 427, 3, 0, 304, 36926)) (z := mj_m304) rfl rfl (by decide) (by decide) rfl
theorem s318_15 {d : Nat} {ls : mj_L} {st : List Value} {M : mj_H} : mj_Rn d mj_m318 15 ls st M = mq_k1 d mj_m318 16 M (mj_lo 4 (.istore 3) ls st) := (mj_R1 (r := (.istore_n 3, 1, 0, 0, 0)) rfl rfl).trans (congrArg (mq_k1 d mj_m318 16 M) (mq_sti (k := 3)))
theorem s318_16 {d : Nat} {ls : mj_L} {st : List Value} {M : mj_H} : mj_Rn d mj_m318 16 ls st M = mq_k0 d mj_m318 17 ls M (mj_ldi (mj_lk ls 3) st) := mj_R0 (r := (.iload_n 3, 1, 0, 0, 0)) rfl rfl
theorem s318_17 {d : Nat} {ls : mj_L} {st : List Value} {M : mj_H} : mj_Rn d mj_m318 17 ls st M = mj_Rn d mj_m318 18 ls (.int (-1) :: st) M := mj_R0 (r := (.iconst (-1), 1, 0, 0, 0)) rfl rfl
theorem s318_18 {d : Nat} {ls : mj_L} {st : List Value} {M : mj_H} : mj_Rn d mj_m318 18 ls st M = mq_k2 d mj_m318 ls M (mj_br (.if_icmp .eq 19) 18 st) := mj_R2 (r := (.if_icmp .eq 19, 3, 0, 0, 0)) rfl rfl
theorem s318_21 {d : Nat} {ls : mj_L} {st : List Value} {M : mj_H} : mj_Rn d mj_m318 21 ls st M = mq_k0 d mj_m318 22 ls M (mj_lda (mj_lk ls 0) st) := mj_R0 (r := (.aload_n 0, 1, 0, 0, 0)) rfl rfl
theorem s318_22 {d : Nat} {ls : mj_L} {st : List Value} {M : mj_H} : mj_Rn d mj_m318 22 ls st M = mq_k0 d mj_m318 25 ls M (mq_gf 11 46 st M) := (mj_R3 (r := (.getfield 127, 3, 11, 46, 57400)) rfl rfl).trans (congrArg (mq_k0 d mj_m318 25 ls M) mq_gf_eq)
theorem s318_25 {d : Nat} {ls : mj_L} {st : List Value} {M : mj_H} : mj_Rn d mj_m318 25 ls st M = mq_k0 d mj_m318 26 ls M (mj_ldi (mj_lk ls 3) st) := mj_R0 (r := (.iload_n 3, 1, 0, 0, 0)) rfl rfl
theorem s318_26 {d : Nat} {ls : mj_L} {st : List Value} {M : mj_H} : mj_Rn d mj_m318 26 ls st M = mq_k0 d mj_m318 27 ls M (mq_al [1000] st M) := (mj_R3 (r := (.iaload, 1, 0, 0, 0)) rfl rfl).trans (congrArg (mq_k0 d mj_m318 27 ls M) mq_ali_eq)
theorem s318_27 {d : Nat} {ls : mj_L} {st : List Value} {M : mj_H} : mj_Rn d mj_m318 27 ls st M = mj_Rn d mj_m318 30 ls (.int 245 :: st) M := mj_R0 (r := (.sipush 245, 3, 0, 0, 0)) rfl rfl
theorem s318_30 {d : Nat} {ls : mj_L} {st : List Value} {M : mj_H} : mj_Rn d mj_m318 30 ls st M = mq_k2 d mj_m318 ls M (mj_br (.if_icmp .ne 7) 30 st) := mj_R2 (r := (.if_icmp .ne 7, 3, 0, 0, 0)) rfl rfl
theorem s318_33 {d : Nat} {ls : mj_L} {st : List Value} {M : mj_H} : mj_Rn d mj_m318 33 ls st M = mj_Rn d mj_m318 34 ls (.int 1 :: st) M := mj_R0 (r := (.iconst 1, 1, 0, 0, 0)) rfl rfl
theorem s318_34 {d : Nat} {ls : mj_L} {st : List Value} {M : mj_H} : mj_Rn d mj_m318 34 ls st M = mj_Rn d mj_m318 38 ls st M := mj_R2 (r := (.goto 4, 3, 0, 0, 0)) rfl rfl
theorem s318_37 {d : Nat} {ls : mj_L} {st : List Value} {M : mj_H} : mj_Rn d mj_m318 37 ls st M = mj_Rn d mj_m318 38 ls (.int 0 :: st) M := mj_R0 (r := (.iconst 0, 1, 0, 0, 0)) rfl rfl
theorem s318_38 {d : Nat} {ls : mj_L} {st : List Value} {M : mj_H} : mj_Rn d mj_m318 38 ls st M = mq_k6 M (mj_re (some .boolean) (.ireturn) st) := mj_R6 (r := (.ireturn, 1, 0, 0, 0)) rfl rfl
/- 323 PasskeyHouseModel.isFalse(II)Z -/
theorem s323_0 {d : Nat} {ls : mj_L} {st : List Value} {M : mj_H} : mj_Rn d mj_m323 0 ls st M = mq_k0 d mj_m323 1 ls M (mj_ldi (mj_lk ls 1) st) := mj_R0 (r := (.iload_n 1, 1, 0, 0, 0)) rfl rfl
theorem s323_1 {d : Nat} {ls : mj_L} {st : List Value} {M : mj_H} : mj_Rn d mj_m323 1 ls st M = mj_Rn d mj_m323 2 ls (.int (-1) :: st) M := mj_R0 (r := (.iconst (-1), 1, 0, 0, 0)) rfl rfl
theorem s323_2 {d : Nat} {ls : mj_L} {st : List Value} {M : mj_H} : mj_Rn d mj_m323 2 ls st M = mq_k2 d mj_m323 ls M (mj_br (.if_icmp .ne 7) 2 st) := mj_R2 (r := (.if_icmp .ne 7, 3, 0, 0, 0)) rfl rfl
theorem s323_5 {d : Nat} {ls : mj_L} {st : List Value} {M : mj_H} : mj_Rn d mj_m323 5 ls st M = mj_Rn d mj_m323 6 ls (.int (-1) :: st) M := mj_R0 (r := (.iconst (-1), 1, 0, 0, 0)) rfl rfl
theorem s323_6 {d : Nat} {ls : mj_L} {st : List Value} {M : mj_H} : mj_Rn d mj_m323 6 ls st M = mj_Rn d mj_m323 15 ls st M := mj_R2 (r := (.goto 9, 3, 0, 0, 0)) rfl rfl
theorem s323_9 {d : Nat} {ls : mj_L} {st : List Value} {M : mj_H} : mj_Rn d mj_m323 9 ls st M = mq_k0 d mj_m323 10 ls M (mj_lda (mj_lk ls 0) st) := mj_R0 (r := (.aload_n 0, 1, 0, 0, 0)) rfl rfl
theorem s323_10 {d : Nat} {ls : mj_L} {st : List Value} {M : mj_H} : mj_Rn d mj_m323 10 ls st M = mq_k0 d mj_m323 11 ls M (mj_ldi (mj_lk ls 1) st) := mj_R0 (r := (.iload_n 1, 1, 0, 0, 0)) rfl rfl
theorem s323_11 {d : Nat} {ls : mj_L} {st : List Value} {M : mj_H} : mj_Rn d mj_m323 11 ls st M = mq_k0 d mj_m323 12 ls M (mj_ldi (mj_lk ls 2) st) := mj_R0 (r := (.iload_n 2, 1, 0, 0, 0)) rfl rfl
theorem s323_12 {d : Nat} {ls : mj_L} {st : List Value} {M : mj_H} : mj_Rn (d + 1) mj_m323 12 ls st M = mq_k5a (d + 1) mj_m323 15 ls M 304 (mq_cb 0 2 11 st M) := mj_R5e (r := (.invokevirtual 427, 3, 0, 304, 36926)) (z := mj_m304) rfl rfl (by decide) (by decide) rfl
theorem s323_15 {d : Nat} {ls : mj_L} {st : List Value} {M : mj_H} : mj_Rn d mj_m323 15 ls st M = mq_k1 d mj_m323 16 M (mj_lo 4 (.istore 3) ls st) := (mj_R1 (r := (.istore_n 3, 1, 0, 0, 0)) rfl rfl).trans (congrArg (mq_k1 d mj_m323 16 M) (mq_sti (k := 3)))
theorem s323_16 {d : Nat} {ls : mj_L} {st : List Value} {M : mj_H} : mj_Rn d mj_m323 16 ls st M = mq_k0 d mj_m323 17 ls M (mj_ldi (mj_lk ls 3) st) := mj_R0 (r := (.iload_n 3, 1, 0, 0, 0)) rfl rfl
theorem s323_17 {d : Nat} {ls : mj_L} {st : List Value} {M : mj_H} : mj_Rn d mj_m323 17 ls st M = mj_Rn d mj_m323 18 ls (.int (-1) :: st) M := mj_R0 (r := (.iconst (-1), 1, 0, 0, 0)) rfl rfl
theorem s323_18 {d : Nat} {ls : mj_L} {st : List Value} {M : mj_H} : mj_Rn d mj_m323 18 ls st M = mq_k2 d mj_m323 ls M (mj_br (.if_icmp .eq 19) 18 st) := mj_R2 (r := (.if_icmp .eq 19, 3, 0, 0, 0)) rfl rfl
theorem s323_21 {d : Nat} {ls : mj_L} {st : List Value} {M : mj_H} : mj_Rn d mj_m323 21 ls st M = mq_k0 d mj_m323 22 ls M (mj_lda (mj_lk ls 0) st) := mj_R0 (r := (.aload_n 0, 1, 0, 0, 0)) rfl rfl
theorem s323_22 {d : Nat} {ls : mj_L} {st : List Value} {M : mj_H} : mj_Rn d mj_m323 22 ls st M = mq_k0 d mj_m323 25 ls M (mq_gf 11 46 st M) := (mj_R3 (r := (.getfield 127, 3, 11, 46, 57400)) rfl rfl).trans (congrArg (mq_k0 d mj_m323 25 ls M) mq_gf_eq)
theorem s323_25 {d : Nat} {ls : mj_L} {st : List Value} {M : mj_H} : mj_Rn d mj_m323 25 ls st M = mq_k0 d mj_m323 26 ls M (mj_ldi (mj_lk ls 3) st) := mj_R0 (r := (.iload_n 3, 1, 0, 0, 0)) rfl rfl
theorem s323_26 {d : Nat} {ls : mj_L} {st : List Value} {M : mj_H} : mj_Rn d mj_m323 26 ls st M = mq_k0 d mj_m323 27 ls M (mq_al [1000] st M) := (mj_R3 (r := (.iaload, 1, 0, 0, 0)) rfl rfl).trans (congrArg (mq_k0 d mj_m323 27 ls M) mq_ali_eq)
theorem s323_27 {d : Nat} {ls : mj_L} {st : List Value} {M : mj_H} : mj_Rn d mj_m323 27 ls st M = mj_Rn d mj_m323 30 ls (.int 244 :: st) M := mj_R0 (r := (.sipush 244, 3, 0, 0, 0)) rfl rfl
theorem s323_30 {d : Nat} {ls : mj_L} {st : List Value} {M : mj_H} : mj_Rn d mj_m323 30 ls st M = mq_k2 d mj_m323 ls M (mj_br (.if_icmp .ne 7) 30 st) := mj_R2 (r := (.if_icmp .ne 7, 3, 0, 0, 0)) rfl rfl
theorem s323_33 {d : Nat} {ls : mj_L} {st : List Value} {M : mj_H} : mj_Rn d mj_m323 33 ls st M = mj_Rn d mj_m323 34 ls (.int 1 :: st) M := mj_R0 (r := (.iconst 1, 1, 0, 0, 0)) rfl rfl
theorem s323_34 {d : Nat} {ls : mj_L} {st : List Value} {M : mj_H} : mj_Rn d mj_m323 34 ls st M = mj_Rn d mj_m323 38 ls st M := mj_R2 (r := (.goto 4, 3, 0, 0, 0)) rfl rfl
theorem s323_37 {d : Nat} {ls : mj_L} {st : List Value} {M : mj_H} : mj_Rn d mj_m323 37 ls st M = mj_Rn d mj_m323 38 ls (.int 0 :: st) M := mj_R0 (r := (.iconst 0, 1, 0, 0, 0)) rfl rfl
theorem s323_38 {d : Nat} {ls : mj_L} {st : List Value} {M : mj_H} : mj_Rn d mj_m323 38 ls st M = mq_k6 M (mj_re (some .boolean) (.ireturn) st) := mj_R6 (r := (.ireturn, 1, 0, 0, 0)) rfl rfl
theorem c303 {d : Nat} {a0 : Nat} {x1 : Int32} {x2 : Int32} {x3 : Int32} {M : mj_H} : mj_V (d + 1) 303 [.ref a0, .int x1, .int x2, .int x3] M = mj_Rn d mj_m303 0 [(0, .ref a0), (1, .int x1), (2, .int x2), (3, .int x3)] [] M := mj_V_go rfl (Nat.le_of_ble_eq_true rfl)
theorem c306 {d : Nat} {a0 : Nat} {x1 : Int32} {x2 : Int32} {M : mj_H} : mj_V (d + 1) 306 [.ref a0, .int x1, .int x2] M = mj_Rn d mj_m306 0 [(0, .ref a0), (1, .int x1), (2, .int x2)] [] M := mj_V_go rfl (Nat.le_of_ble_eq_true rfl)
theorem c307 {d : Nat} {a0 : Nat} {x1 : Int32} {x2 : Int32} {M : mj_H} : mj_V (d + 1) 307 [.ref a0, .int x1, .int x2] M = mj_Rn d mj_m307 0 [(0, .ref a0), (1, .int x1), (2, .int x2)] [] M := mj_V_go rfl (Nat.le_of_ble_eq_true rfl)
theorem c312 {d : Nat} {a0 : Nat} {x1 : Int32} {M : mj_H} : mj_V (d + 1) 312 [.ref a0, .int x1] M = mj_Rn d mj_m312 0 [(0, .ref a0), (1, .int x1)] [] M := mj_V_go rfl (Nat.le_of_ble_eq_true rfl)
theorem c318 {d : Nat} {a0 : Nat} {x1 : Int32} {x2 : Int32} {M : mj_H} : mj_V (d + 1) 318 [.ref a0, .int x1, .int x2] M = mj_Rn d mj_m318 0 [(0, .ref a0), (1, .int x1), (2, .int x2)] [] M := mj_V_go rfl (Nat.le_of_ble_eq_true rfl)
theorem c323 {d : Nat} {a0 : Nat} {x1 : Int32} {x2 : Int32} {M : mj_H} : mj_V (d + 1) 323 [.ref a0, .int x1, .int x2] M = mj_Rn d mj_m323 0 [(0, .ref a0), (1, .int x1), (2, .int x2)] [] M := mj_V_go rfl (Nat.le_of_ble_eq_true rfl)
def oJ (ms : List Int32) (o : Option Nat) : Prop := ∀ p, o = some p → Io ms p
theorem oJ.mem {ms : List Int32} {o : Option Nat} {f : Nat → Bool} (h : oJ ms o) : oJ ms (cbMb ms f o) := by
  intro v hv
  cases o with
  | none => cases hv
  | some p => exact (h p rfl).mem hv
section
variable {d : Nat} {B : Bs} {x : Fx} {y : Sy} {ms : List Int32}
theorem Io.l9 (h : xm x ms) {p : Nat} (hi : Io ms p) : p < 640 ∧ ¬ nI p = -1 := by
  have hle := h.1.le
  have := hi.lt
  exact ⟨by omega, fun z => (nI_m1 (a := p) (by omega)).mp z⟩
theorem q_mayO (h : xm x ms) {o : Option Nat} (ho : oJ ms o) {s : Nat} (hs : s < 8) : mj_V (d + 2) 302 [.ref 67, .int (oP o), .int (nI s)] (mm B x y) = some (some (.int (on1 (oFit ms s o))), mm B x y) := by
  cases o with
  | none => exact q_may0
  | some p =>
    have := (ho p rfl).lt
    rw [show oFit ms s (some p) = decide (cbS ms p = s) from by unfold oFit; simp [S_bx_mcan1_0, S_b8_mkey_1, S_b8_mkey_0, S_b1_mterm_0, S_b1_copy_0, S_b0_mod_7, S_b0_mod_6, S_b0_mod_5, S_b0_mod_3, S_b0_mod_2, S_b0_mod_1, S_b0_mod_0, S_bx_mcan1_1h, S_b0_mod_4h, show ¬ s = 8 by omega]]
    exact q_may h (by omega) hs
theorem q_mayNamed (h : xm x ms) {name : Int32} {t : List Int32} (hT : Nn name t) {p s : Nat} (hi : Io ms p) (h5 : cbS ms p = 5) (hs : s < 8) : mj_V (d + 5) 303 [.ref 67, .int (nI p), .int name, .int (nI s)] (mm B x y) = some (some (.int (on1 (oFit ms s (cbNm ms t (some p))))), mm B x y) := by
  have r1 := q_namM (d := d) (B := B) (x := x) (y := y) h hT hi h5
  have r2 := q_mayO (d := d + 2) (B := B) (x := x) (y := y) h (o := cbNm ms t (some p)) (oJ.mem (fun _ z => by cases z; exact hi)) hs
  generalize oP (cbNm ms t (some p)) = v at *
  generalize oFit ms s (cbNm ms t (some p)) = w at *
  cases w <;> simp only [on1] at r2 ⊢ <;> simp (disch := (first | omega | decide)) [S_bx_mcan1_0, S_b8_mkey_1, S_b8_mkey_0, S_b1_mterm_0, S_b1_copy_0, S_b0_mod_7, S_b0_mod_6, S_b0_mod_5, S_b0_mod_3, S_b0_mod_2, S_b0_mod_1, S_b0_mod_0, S_bx_mcan1_1h, S_b0_mod_4h, c303, s303_0, s303_1, s303_2, s303_3, s303_4, s303_7, s303_8, s303_11, mq_k0s, mq_k1s, mq_k2s, mq_k4s, mq_k5s, mq_k5n, mq_k5as, mq_k6s, mj_pu, mj_lo, mj_br, mj_hr, mj_hw, mq_gf, mq_len, mq_al, mq_pf, mq_ok, mj_re, mq_lkm, mq_lkn, mj_ldi, mj_ldl, mj_lda, mj_ii, mj_ll, mj_li, mj_i1, ms_1, ms_2, f1_n, f1_i, f1_r, f1_u, f1_l, f2_n, f2_i, f2_r, f2_u, f2_l, mj_tg, mj_c1, mj_c2, mj_ar, mj_aw, mq_cb, mq_oi, mj_rm, Value.category, -getElem?_pos, List.getElem?_cons_zero, decide_eq_true, decide_eq_false, nl_lt, nl_le, ln_lt, ln_le, nl_eq, ln_eq, nl_add, ln_add, nl_sub, ln_mul, nI_sub, nI_mul, nI_add, nI_lt_iff, nI_le_iff, nI_inj, nI_num, mq_ix, nI_1, nl_mul, nl_div, r1, r2, narrow_b0, narrow_b1]
theorem cbQ_arr {I : Nat → Option Nat} {n : Nat} {k : Option (Nat × Nat)} {p q : Nat} (h : cbQ I ms false (n + 1) k p = some q) : ∃ q1, I p = some q1 ∧ cbQ I ms false n none q1 = some q := by
  unfold cbQ at h
  simp only [Bool.false_eq_true, if_false] at h
  split at h
  · cases h
  · next q1 h1 => exact ⟨q1, h1, h⟩
def nmI (b : Bool) : Int32 := if b then 6384743 else 26980
def nmT (b : Bool) : List Int32 := if b then alg_ else id_
def nmS (b : Bool) : Nat := if b then 8 else 2
theorem nn_b (b : Bool) : Nn (nmI b) (nmT b) := by cases b; exact nn_id; exact nn_alg
theorem l_mayEntries (h : xm x ms) {ia : Bool} {r N : Nat} (hr : r ≤ 4) (hN : N < 2 ^ 31) : ∀ (n j : Nat) (k : Option (Nat × Nat)) (p q : Nat), cbQ (cbI ms r) ms false n k p = some q → p ≤ ms.length → j + n = N →
    mj_Rn (d + 5) mj_m306 34 [(5, .int (nI j)), (4, .int (nI p)), (3, .int (nI N)), (0, .ref 67), (2, .int (on1 ia))] [] (mm B x y) = some (some (.int (on1 (cbAll ms (lfF ms (nmT ia) (nmS ia)) n p))), mm B x y) := by
  have hle := h.1.le
  intro n
  induction n with
  | zero =>
    intro j k p q hq hp hj
    simp only [cbAll]
    simp (disch := (first | omega | decide)) [S_bx_mcan1_0, S_b8_mkey_1, S_b8_mkey_0, S_b1_mterm_0, S_b1_copy_0, S_b0_mod_7, S_b0_mod_6, S_b0_mod_5, S_b0_mod_3, S_b0_mod_2, S_b0_mod_1, S_b0_mod_0, S_bx_mcan1_1h, S_b0_mod_4h, s306_0, s306_1, s306_2, s306_5, s306_6, s306_7, s306_8, s306_9, s306_12, s306_13, s306_16, s306_17, s306_18, s306_19, s306_20, s306_23, s306_24, s306_25, s306_26, s306_29, s306_31, s306_32, s306_34, s306_36, s306_37, s306_40, s306_41, s306_43, s306_46, s306_47, s306_50, s306_51, s306_52, s306_53, s306_55, s306_56, s306_59, s306_62, s306_65, s306_68, s306_71, s306_73, s306_75, s306_76, s306_79, s306_80, s306_83, s306_84, s306_86, s306_89, s306_90, s306_93, s306_96, s306_97, s306_99, s306_102, s306_103, s306_106, s306_107, s306_110, s306_111, s306_113, s306_115, s306_118, s306_119, s306_121, s306_124, s306_125, s306_128, s306_131, s306_132, s306_133, s306_134, s306_136, s306_139, s306_141, s306_144, s306_147, s306_148, mq_k0s, mq_k1s, mq_k2s, mq_k4s, mq_k5s, mq_k5n, mq_k5as, mq_k6s, mj_pu, mj_lo, mj_br, mj_hr, mj_hw, mq_gf, mq_len, mq_al, mq_pf, mq_ok, mj_re, mq_lkm, mq_lkn, mj_ldi, mj_ldl, mj_lda, mj_ii, mj_ll, mj_li, mj_i1, ms_1, ms_2, f1_n, f1_i, f1_r, f1_u, f1_l, f2_n, f2_i, f2_r, f2_u, f2_l, mj_tg, mj_c1, mj_c2, mj_ar, mj_aw, mq_cb, mq_oi, mj_rm, Value.category, -getElem?_pos, List.getElem?_cons_zero, decide_eq_true, decide_eq_false, nl_lt, nl_le, ln_lt, ln_le, nl_eq, ln_eq, nl_add, ln_add, nl_sub, ln_mul, nI_sub, nI_mul, nI_add, nI_lt_iff, nI_le_iff, nI_inj, nI_num, mq_ix, nI_1, nl_mul, nl_div, show N ≤ j by omega, narrow_b1, on1]
  | succ n ih =>
    intro j k p q hq hp hj
    obtain ⟨q1, h1, h3⟩ := cbQ_arr hq
    have l1 := cbI_lt _ _ _ h1
    have e1 := cbE_eq h1 hr
    have hI := Io.mk h1 hr
    have s1 : cbS ms p < 8 := by have := (h.at (p := p) (by omega)).2; unfold cbS; omega
    have r0 := q_sortAt (d := d + 4) (B := B) (x := x) (y := y) h (p := p) (by omega)
    have b1 := q_behind (d := d + 2) (B := B) (x := x) (y := y) h hI
    have r := ih (j + 1) _ q1 q h3 l1.2 (by omega)
    rw [e1] at b1
    unfold cbAll
    rw [e1]
    by_cases h5 : cbS ms p = 5
    · have rn := q_namM (d := d + 1) (B := B) (x := x) (y := y) h (nn_b ia) hI h5
      have rm := q_mayNamed (d := d) (B := B) (x := x) (y := y) h nn_ty (s := 3) hI h5 (by omega)
      rw [show nI 3 = (3 : Int32) from rfl] at rm
      have hoI : oJ ms (cbNm ms (nmT ia) (some p)) := oJ.mem (fun _ z => by cases z; exact hI)
      have eL : lfF ms (nmT ia) (nmS ia) p = (oFit ms (nmS ia) (cbNm ms (nmT ia) (some p)) && oFit ms 3 (cbNm ms ty_ (some p))) := by
        unfold lfF; rw [decide_eq_true h5, Bool.true_and]
      rw [eL]
      rw [h5] at r0
      generalize oFit ms 3 (cbNm ms ty_ (some p)) = w at *
      generalize cbNm ms (nmT ia) (some p) = o at *
      generalize cbAll ms (lfF ms (nmT ia) (nmS ia)) n q1 = res at *
      -- where the name's member fits or not
      have fit : ∀ rr, mj_Rn (d + 5) mj_m306 111 [(6, .int (oP o)), (5, .int (nI j)), (4, .int (nI p)), (3, .int (nI N)), (0, .ref 67), (2, .int (on1 ia))] [.int (on1 (oFit ms (nmS ia) o))] (mm B x y) = some rr → mj_Rn (d + 5) mj_m306 34 [(5, .int (nI j)), (4, .int (nI p)), (3, .int (nI N)), (0, .ref 67), (2, .int (on1 ia))] [] (mm B x y) = some rr := by
        intro rr hrr
        rw [s306_34]
        cases o with
        | none =>
          simp only [oP, oFit, on1] at rn hrr
          cases ia <;> simp only [nmI, on1, if_true, Bool.false_eq_true, if_false] at rn hrr ⊢
          · simp (disch := (first | omega | decide)) [S_bx_mcan1_0, S_b8_mkey_1, S_b8_mkey_0, S_b1_mterm_0, S_b1_copy_0, S_b0_mod_7, S_b0_mod_6, S_b0_mod_5, S_b0_mod_3, S_b0_mod_2, S_b0_mod_1, S_b0_mod_0, S_bx_mcan1_1h, S_b0_mod_4h, s306_0, s306_1, s306_2, s306_5, s306_6, s306_7, s306_8, s306_9, s306_12, s306_13, s306_16, s306_17, s306_18, s306_19, s306_20, s306_23, s306_24, s306_25, s306_26, s306_29, s306_31, s306_32, s306_36, s306_37, s306_40, s306_41, s306_43, s306_46, s306_47, s306_50, s306_51, s306_52, s306_53, s306_55, s306_56, s306_59, s306_62, s306_65, s306_68, s306_71, s306_73, s306_75, s306_76, s306_79, s306_80, s306_83, s306_84, s306_86, s306_89, s306_90, s306_93, s306_96, s306_97, s306_99, s306_102, s306_103, s306_106, s306_107, s306_110, s306_113, s306_115, s306_118, s306_119, s306_121, s306_124, s306_125, s306_128, s306_131, s306_132, s306_133, s306_134, s306_136, s306_139, s306_141, s306_144, s306_147, s306_148, mq_k0s, mq_k1s, mq_k2s, mq_k4s, mq_k5s, mq_k5n, mq_k5as, mq_k6s, mj_pu, mj_lo, mj_br, mj_hr, mj_hw, mq_gf, mq_len, mq_al, mq_pf, mq_ok, mj_re, mq_lkm, mq_lkn, mj_ldi, mj_ldl, mj_lda, mj_ii, mj_ll, mj_li, mj_i1, ms_1, ms_2, f1_n, f1_i, f1_r, f1_u, f1_l, f2_n, f2_i, f2_r, f2_u, f2_l, mj_tg, mj_c1, mj_c2, mj_ar, mj_aw, mq_cb, mq_oi, mj_rm, Value.category, -getElem?_pos, List.getElem?_cons_zero, decide_eq_true, decide_eq_false, nl_lt, nl_le, ln_lt, ln_le, nl_eq, ln_eq, nl_add, ln_add, nl_sub, ln_mul, nI_sub, nI_mul, nI_add, nI_lt_iff, nI_le_iff, nI_inj, nI_num, mq_ix, nI_1, nl_mul, nl_div, r0, rn, show ¬ N ≤ j by omega]
            refine mq_wk ?_ hrr
            simp [S_bx_mcan1_0, S_b8_mkey_1, S_b8_mkey_0, S_b1_mterm_0, S_b1_copy_0, S_b0_mod_7, S_b0_mod_6, S_b0_mod_5, S_b0_mod_3, S_b0_mod_2, S_b0_mod_1, S_b0_mod_0, S_bx_mcan1_1h, S_b0_mod_4h, mq_sub, mj_lk]
          · simp (disch := (first | omega | decide)) [S_bx_mcan1_0, S_b8_mkey_1, S_b8_mkey_0, S_b1_mterm_0, S_b1_copy_0, S_b0_mod_7, S_b0_mod_6, S_b0_mod_5, S_b0_mod_3, S_b0_mod_2, S_b0_mod_1, S_b0_mod_0, S_bx_mcan1_1h, S_b0_mod_4h, s306_0, s306_1, s306_2, s306_5, s306_6, s306_7, s306_8, s306_9, s306_12, s306_13, s306_16, s306_17, s306_18, s306_19, s306_20, s306_23, s306_24, s306_25, s306_26, s306_29, s306_31, s306_32, s306_36, s306_37, s306_40, s306_41, s306_43, s306_46, s306_47, s306_50, s306_51, s306_52, s306_53, s306_55, s306_56, s306_59, s306_62, s306_65, s306_68, s306_71, s306_73, s306_75, s306_76, s306_79, s306_80, s306_83, s306_84, s306_86, s306_89, s306_90, s306_93, s306_96, s306_97, s306_99, s306_102, s306_103, s306_106, s306_107, s306_110, s306_113, s306_115, s306_118, s306_119, s306_121, s306_124, s306_125, s306_128, s306_131, s306_132, s306_133, s306_134, s306_136, s306_139, s306_141, s306_144, s306_147, s306_148, mq_k0s, mq_k1s, mq_k2s, mq_k4s, mq_k5s, mq_k5n, mq_k5as, mq_k6s, mj_pu, mj_lo, mj_br, mj_hr, mj_hw, mq_gf, mq_len, mq_al, mq_pf, mq_ok, mj_re, mq_lkm, mq_lkn, mj_ldi, mj_ldl, mj_lda, mj_ii, mj_ll, mj_li, mj_i1, ms_1, ms_2, f1_n, f1_i, f1_r, f1_u, f1_l, f2_n, f2_i, f2_r, f2_u, f2_l, mj_tg, mj_c1, mj_c2, mj_ar, mj_aw, mq_cb, mq_oi, mj_rm, Value.category, -getElem?_pos, List.getElem?_cons_zero, decide_eq_true, decide_eq_false, nl_lt, nl_le, ln_lt, ln_le, nl_eq, ln_eq, nl_add, ln_add, nl_sub, ln_mul, nI_sub, nI_mul, nI_add, nI_lt_iff, nI_le_iff, nI_inj, nI_num, mq_ix, nI_1, nl_mul, nl_div, r0, rn, show ¬ N ≤ j by omega]
            refine mq_wk ?_ hrr
            simp [S_bx_mcan1_0, S_b8_mkey_1, S_b8_mkey_0, S_b1_mterm_0, S_b1_copy_0, S_b0_mod_7, S_b0_mod_6, S_b0_mod_5, S_b0_mod_3, S_b0_mod_2, S_b0_mod_1, S_b0_mod_0, S_bx_mcan1_1h, S_b0_mod_4h, mq_sub, mj_lk]
        | some v =>
          have hv := hoI v rfl
          have hv9 := Io.l9 h hv
          have hvl := hv.lt
          have rv := q_sortAt (d := d + 4) (B := B) (x := x) (y := y) h (p := v) (by omega)
          have sv : cbS ms v < 8 := by have := (h.at (p := v) (by omega)).2; unfold cbS; omega
          simp only [oP, oFit] at rn hrr
          cases ia <;> simp only [nmI, nmS, on1, if_true, Bool.false_eq_true, if_false] at rn hrr ⊢
          · by_cases h2 : cbS ms v = 2
            · rw [h2] at rv
              simp [S_bx_mcan1_0, S_b8_mkey_1, S_b8_mkey_0, S_b1_mterm_0, S_b1_copy_0, S_b0_mod_7, S_b0_mod_6, S_b0_mod_5, S_b0_mod_3, S_b0_mod_2, S_b0_mod_1, S_b0_mod_0, S_bx_mcan1_1h, S_b0_mod_4h, h2] at hrr
              simp (disch := (first | omega | decide)) [S_bx_mcan1_0, S_b8_mkey_1, S_b8_mkey_0, S_b1_mterm_0, S_b1_copy_0, S_b0_mod_7, S_b0_mod_6, S_b0_mod_5, S_b0_mod_3, S_b0_mod_2, S_b0_mod_1, S_b0_mod_0, S_bx_mcan1_1h, S_b0_mod_4h, s306_0, s306_1, s306_2, s306_5, s306_6, s306_7, s306_8, s306_9, s306_12, s306_13, s306_16, s306_17, s306_18, s306_19, s306_20, s306_23, s306_24, s306_25, s306_26, s306_29, s306_31, s306_32, s306_36, s306_37, s306_40, s306_41, s306_43, s306_46, s306_47, s306_50, s306_51, s306_52, s306_53, s306_55, s306_56, s306_59, s306_62, s306_65, s306_68, s306_71, s306_73, s306_75, s306_76, s306_79, s306_80, s306_83, s306_84, s306_86, s306_89, s306_90, s306_93, s306_96, s306_97, s306_99, s306_102, s306_103, s306_106, s306_107, s306_110, s306_113, s306_115, s306_118, s306_119, s306_121, s306_124, s306_125, s306_128, s306_131, s306_132, s306_133, s306_134, s306_136, s306_139, s306_141, s306_144, s306_147, s306_148, mq_k0s, mq_k1s, mq_k2s, mq_k4s, mq_k5s, mq_k5n, mq_k5as, mq_k6s, mj_pu, mj_lo, mj_br, mj_hr, mj_hw, mq_gf, mq_len, mq_al, mq_pf, mq_ok, mj_re, mq_lkm, mq_lkn, mj_ldi, mj_ldl, mj_lda, mj_ii, mj_ll, mj_li, mj_i1, ms_1, ms_2, f1_n, f1_i, f1_r, f1_u, f1_l, f2_n, f2_i, f2_r, f2_u, f2_l, mj_tg, mj_c1, mj_c2, mj_ar, mj_aw, mq_cb, mq_oi, mj_rm, Value.category, -getElem?_pos, List.getElem?_cons_zero, decide_eq_true, decide_eq_false, nl_lt, nl_le, ln_lt, ln_le, nl_eq, ln_eq, nl_add, ln_add, nl_sub, ln_mul, nI_sub, nI_mul, nI_add, nI_lt_iff, nI_le_iff, nI_inj, nI_num, mq_ix, nI_1, nl_mul, nl_div, r0, rn, rv, hv9.2, show ¬ N ≤ j by omega]
              refine mq_wk ?_ hrr
              simp [S_bx_mcan1_0, S_b8_mkey_1, S_b8_mkey_0, S_b1_mterm_0, S_b1_copy_0, S_b0_mod_7, S_b0_mod_6, S_b0_mod_5, S_b0_mod_3, S_b0_mod_2, S_b0_mod_1, S_b0_mod_0, S_bx_mcan1_1h, S_b0_mod_4h, mq_sub, mj_lk]
            · simp [S_bx_mcan1_0, S_b8_mkey_1, S_b8_mkey_0, S_b1_mterm_0, S_b1_copy_0, S_b0_mod_7, S_b0_mod_6, S_b0_mod_5, S_b0_mod_3, S_b0_mod_2, S_b0_mod_1, S_b0_mod_0, S_bx_mcan1_1h, S_b0_mod_4h, h2] at hrr
              simp (disch := (first | omega | decide)) [S_bx_mcan1_0, S_b8_mkey_1, S_b8_mkey_0, S_b1_mterm_0, S_b1_copy_0, S_b0_mod_7, S_b0_mod_6, S_b0_mod_5, S_b0_mod_3, S_b0_mod_2, S_b0_mod_1, S_b0_mod_0, S_bx_mcan1_1h, S_b0_mod_4h, s306_0, s306_1, s306_2, s306_5, s306_6, s306_7, s306_8, s306_9, s306_12, s306_13, s306_16, s306_17, s306_18, s306_19, s306_20, s306_23, s306_24, s306_25, s306_26, s306_29, s306_31, s306_32, s306_36, s306_37, s306_40, s306_41, s306_43, s306_46, s306_47, s306_50, s306_51, s306_52, s306_53, s306_55, s306_56, s306_59, s306_62, s306_65, s306_68, s306_71, s306_73, s306_75, s306_76, s306_79, s306_80, s306_83, s306_84, s306_86, s306_89, s306_90, s306_93, s306_96, s306_97, s306_99, s306_102, s306_103, s306_106, s306_107, s306_110, s306_113, s306_115, s306_118, s306_119, s306_121, s306_124, s306_125, s306_128, s306_131, s306_132, s306_133, s306_134, s306_136, s306_139, s306_141, s306_144, s306_147, s306_148, mq_k0s, mq_k1s, mq_k2s, mq_k4s, mq_k5s, mq_k5n, mq_k5as, mq_k6s, mj_pu, mj_lo, mj_br, mj_hr, mj_hw, mq_gf, mq_len, mq_al, mq_pf, mq_ok, mj_re, mq_lkm, mq_lkn, mj_ldi, mj_ldl, mj_lda, mj_ii, mj_ll, mj_li, mj_i1, ms_1, ms_2, f1_n, f1_i, f1_r, f1_u, f1_l, f2_n, f2_i, f2_r, f2_u, f2_l, mj_tg, mj_c1, mj_c2, mj_ar, mj_aw, mq_cb, mq_oi, mj_rm, Value.category, -getElem?_pos, List.getElem?_cons_zero, decide_eq_true, decide_eq_false, nl_lt, nl_le, ln_lt, ln_le, nl_eq, ln_eq, nl_add, ln_add, nl_sub, ln_mul, nI_sub, nI_mul, nI_add, nI_lt_iff, nI_le_iff, nI_inj, nI_num, mq_ix, nI_1, nl_mul, nl_div, r0, rn, rv, h2, hv9.2, show ¬ N ≤ j by omega]
              refine mq_wk ?_ hrr
              simp [S_bx_mcan1_0, S_b8_mkey_1, S_b8_mkey_0, S_b1_mterm_0, S_b1_copy_0, S_b0_mod_7, S_b0_mod_6, S_b0_mod_5, S_b0_mod_3, S_b0_mod_2, S_b0_mod_1, S_b0_mod_0, S_bx_mcan1_1h, S_b0_mod_4h, mq_sub, mj_lk]
          · by_cases h2 : cbS ms v < 2
            · simp [S_bx_mcan1_0, S_b8_mkey_1, S_b8_mkey_0, S_b1_mterm_0, S_b1_copy_0, S_b0_mod_7, S_b0_mod_6, S_b0_mod_5, S_b0_mod_3, S_b0_mod_2, S_b0_mod_1, S_b0_mod_0, S_bx_mcan1_1h, S_b0_mod_4h, show cbS ms v ≤ 1 by omega] at hrr
              simp (disch := (first | omega | decide)) [S_bx_mcan1_0, S_b8_mkey_1, S_b8_mkey_0, S_b1_mterm_0, S_b1_copy_0, S_b0_mod_7, S_b0_mod_6, S_b0_mod_5, S_b0_mod_3, S_b0_mod_2, S_b0_mod_1, S_b0_mod_0, S_bx_mcan1_1h, S_b0_mod_4h, s306_0, s306_1, s306_2, s306_5, s306_6, s306_7, s306_8, s306_9, s306_12, s306_13, s306_16, s306_17, s306_18, s306_19, s306_20, s306_23, s306_24, s306_25, s306_26, s306_29, s306_31, s306_32, s306_36, s306_37, s306_40, s306_41, s306_43, s306_46, s306_47, s306_50, s306_51, s306_52, s306_53, s306_55, s306_56, s306_59, s306_62, s306_65, s306_68, s306_71, s306_73, s306_75, s306_76, s306_79, s306_80, s306_83, s306_84, s306_86, s306_89, s306_90, s306_93, s306_96, s306_97, s306_99, s306_102, s306_103, s306_106, s306_107, s306_110, s306_113, s306_115, s306_118, s306_119, s306_121, s306_124, s306_125, s306_128, s306_131, s306_132, s306_133, s306_134, s306_136, s306_139, s306_141, s306_144, s306_147, s306_148, mq_k0s, mq_k1s, mq_k2s, mq_k4s, mq_k5s, mq_k5n, mq_k5as, mq_k6s, mj_pu, mj_lo, mj_br, mj_hr, mj_hw, mq_gf, mq_len, mq_al, mq_pf, mq_ok, mj_re, mq_lkm, mq_lkn, mj_ldi, mj_ldl, mj_lda, mj_ii, mj_ll, mj_li, mj_i1, ms_1, ms_2, f1_n, f1_i, f1_r, f1_u, f1_l, f2_n, f2_i, f2_r, f2_u, f2_l, mj_tg, mj_c1, mj_c2, mj_ar, mj_aw, mq_cb, mq_oi, mj_rm, Value.category, -getElem?_pos, List.getElem?_cons_zero, decide_eq_true, decide_eq_false, nl_lt, nl_le, ln_lt, ln_le, nl_eq, ln_eq, nl_add, ln_add, nl_sub, ln_mul, nI_sub, nI_mul, nI_add, nI_lt_iff, nI_le_iff, nI_inj, nI_num, mq_ix, nI_1, nl_mul, nl_div, r0, rn, rv, h2, hv9.2, show ¬ 2 ≤ cbS ms v by omega, show ¬ N ≤ j by omega]
              refine mq_wk ?_ hrr
              simp [S_bx_mcan1_0, S_b8_mkey_1, S_b8_mkey_0, S_b1_mterm_0, S_b1_copy_0, S_b0_mod_7, S_b0_mod_6, S_b0_mod_5, S_b0_mod_3, S_b0_mod_2, S_b0_mod_1, S_b0_mod_0, S_bx_mcan1_1h, S_b0_mod_4h, mq_sub, mj_lk]
            · simp [S_bx_mcan1_0, S_b8_mkey_1, S_b8_mkey_0, S_b1_mterm_0, S_b1_copy_0, S_b0_mod_7, S_b0_mod_6, S_b0_mod_5, S_b0_mod_3, S_b0_mod_2, S_b0_mod_1, S_b0_mod_0, S_bx_mcan1_1h, S_b0_mod_4h, show ¬ cbS ms v ≤ 1 by omega, show ¬ cbS ms v = 8 by omega] at hrr
              simp (disch := (first | omega | decide)) [S_bx_mcan1_0, S_b8_mkey_1, S_b8_mkey_0, S_b1_mterm_0, S_b1_copy_0, S_b0_mod_7, S_b0_mod_6, S_b0_mod_5, S_b0_mod_3, S_b0_mod_2, S_b0_mod_1, S_b0_mod_0, S_bx_mcan1_1h, S_b0_mod_4h, s306_0, s306_1, s306_2, s306_5, s306_6, s306_7, s306_8, s306_9, s306_12, s306_13, s306_16, s306_17, s306_18, s306_19, s306_20, s306_23, s306_24, s306_25, s306_26, s306_29, s306_31, s306_32, s306_36, s306_37, s306_40, s306_41, s306_43, s306_46, s306_47, s306_50, s306_51, s306_52, s306_53, s306_55, s306_56, s306_59, s306_62, s306_65, s306_68, s306_71, s306_73, s306_75, s306_76, s306_79, s306_80, s306_83, s306_84, s306_86, s306_89, s306_90, s306_93, s306_96, s306_97, s306_99, s306_102, s306_103, s306_106, s306_107, s306_110, s306_113, s306_115, s306_118, s306_119, s306_121, s306_124, s306_125, s306_128, s306_131, s306_132, s306_133, s306_134, s306_136, s306_139, s306_141, s306_144, s306_147, s306_148, mq_k0s, mq_k1s, mq_k2s, mq_k4s, mq_k5s, mq_k5n, mq_k5as, mq_k6s, mj_pu, mj_lo, mj_br, mj_hr, mj_hw, mq_gf, mq_len, mq_al, mq_pf, mq_ok, mj_re, mq_lkm, mq_lkn, mj_ldi, mj_ldl, mj_lda, mj_ii, mj_ll, mj_li, mj_i1, ms_1, ms_2, f1_n, f1_i, f1_r, f1_u, f1_l, f2_n, f2_i, f2_r, f2_u, f2_l, mj_tg, mj_c1, mj_c2, mj_ar, mj_aw, mq_cb, mq_oi, mj_rm, Value.category, -getElem?_pos, List.getElem?_cons_zero, decide_eq_true, decide_eq_false, nl_lt, nl_le, ln_lt, ln_le, nl_eq, ln_eq, nl_add, ln_add, nl_sub, ln_mul, nI_sub, nI_mul, nI_add, nI_lt_iff, nI_le_iff, nI_inj, nI_num, mq_ix, nI_1, nl_mul, nl_div, r0, rn, rv, h2, hv9.2, show 2 ≤ cbS ms v by omega, show ¬ N ≤ j by omega]
              refine mq_wk ?_ hrr
              simp [S_bx_mcan1_0, S_b8_mkey_1, S_b8_mkey_0, S_b1_mterm_0, S_b1_copy_0, S_b0_mod_7, S_b0_mod_6, S_b0_mod_5, S_b0_mod_3, S_b0_mod_2, S_b0_mod_1, S_b0_mod_0, S_bx_mcan1_1h, S_b0_mod_4h, mq_sub, mj_lk]
      apply fit
      clear fit
      generalize oFit ms (nmS ia) o = u at *
      generalize on1 ia = iv at *
      cases u
      · simp (disch := (first | omega | decide)) [S_bx_mcan1_0, S_b8_mkey_1, S_b8_mkey_0, S_b1_mterm_0, S_b1_copy_0, S_b0_mod_7, S_b0_mod_6, S_b0_mod_5, S_b0_mod_3, S_b0_mod_2, S_b0_mod_1, S_b0_mod_0, S_bx_mcan1_1h, S_b0_mod_4h, s306_0, s306_1, s306_2, s306_5, s306_6, s306_7, s306_8, s306_9, s306_12, s306_13, s306_16, s306_17, s306_18, s306_19, s306_20, s306_23, s306_24, s306_25, s306_26, s306_29, s306_31, s306_32, s306_36, s306_37, s306_40, s306_41, s306_43, s306_46, s306_47, s306_50, s306_51, s306_52, s306_53, s306_55, s306_56, s306_59, s306_62, s306_65, s306_68, s306_71, s306_73, s306_75, s306_76, s306_79, s306_80, s306_83, s306_84, s306_86, s306_89, s306_90, s306_93, s306_96, s306_97, s306_99, s306_102, s306_103, s306_106, s306_107, s306_110, s306_111, s306_113, s306_115, s306_118, s306_119, s306_121, s306_124, s306_125, s306_128, s306_131, s306_132, s306_133, s306_134, s306_136, s306_139, s306_141, s306_144, s306_147, s306_148, mq_k0s, mq_k1s, mq_k2s, mq_k4s, mq_k5s, mq_k5n, mq_k5as, mq_k6s, mj_pu, mj_lo, mj_br, mj_hr, mj_hw, mq_gf, mq_len, mq_al, mq_pf, mq_ok, mj_re, mq_lkm, mq_lkn, mj_ldi, mj_ldl, mj_lda, mj_ii, mj_ll, mj_li, mj_i1, ms_1, ms_2, f1_n, f1_i, f1_r, f1_u, f1_l, f2_n, f2_i, f2_r, f2_u, f2_l, mj_tg, mj_c1, mj_c2, mj_ar, mj_aw, mq_cb, mq_oi, mj_rm, Value.category, -getElem?_pos, List.getElem?_cons_zero, decide_eq_true, decide_eq_false, nl_lt, nl_le, ln_lt, ln_le, nl_eq, ln_eq, nl_add, ln_add, nl_sub, ln_mul, nI_sub, nI_mul, nI_add, nI_lt_iff, nI_le_iff, nI_inj, nI_num, mq_ix, nI_1, nl_mul, nl_div, on1, narrow_b0]
      · cases w
        · simp only [on1] at rm
          simp (disch := (first | omega | decide)) [S_bx_mcan1_0, S_b8_mkey_1, S_b8_mkey_0, S_b1_mterm_0, S_b1_copy_0, S_b0_mod_7, S_b0_mod_6, S_b0_mod_5, S_b0_mod_3, S_b0_mod_2, S_b0_mod_1, S_b0_mod_0, S_bx_mcan1_1h, S_b0_mod_4h, s306_0, s306_1, s306_2, s306_5, s306_6, s306_7, s306_8, s306_9, s306_12, s306_13, s306_16, s306_17, s306_18, s306_19, s306_20, s306_23, s306_24, s306_25, s306_26, s306_29, s306_31, s306_32, s306_36, s306_37, s306_40, s306_41, s306_43, s306_46, s306_47, s306_50, s306_51, s306_52, s306_53, s306_55, s306_56, s306_59, s306_62, s306_65, s306_68, s306_71, s306_73, s306_75, s306_76, s306_79, s306_80, s306_83, s306_84, s306_86, s306_89, s306_90, s306_93, s306_96, s306_97, s306_99, s306_102, s306_103, s306_106, s306_107, s306_110, s306_111, s306_113, s306_115, s306_118, s306_119, s306_121, s306_124, s306_125, s306_128, s306_131, s306_132, s306_133, s306_134, s306_136, s306_139, s306_141, s306_144, s306_147, s306_148, mq_k0s, mq_k1s, mq_k2s, mq_k4s, mq_k5s, mq_k5n, mq_k5as, mq_k6s, mj_pu, mj_lo, mj_br, mj_hr, mj_hw, mq_gf, mq_len, mq_al, mq_pf, mq_ok, mj_re, mq_lkm, mq_lkn, mj_ldi, mj_ldl, mj_lda, mj_ii, mj_ll, mj_li, mj_i1, ms_1, ms_2, f1_n, f1_i, f1_r, f1_u, f1_l, f2_n, f2_i, f2_r, f2_u, f2_l, mj_tg, mj_c1, mj_c2, mj_ar, mj_aw, mq_cb, mq_oi, mj_rm, Value.category, -getElem?_pos, List.getElem?_cons_zero, decide_eq_true, decide_eq_false, nl_lt, nl_le, ln_lt, ln_le, nl_eq, ln_eq, nl_add, ln_add, nl_sub, ln_mul, nI_sub, nI_mul, nI_add, nI_lt_iff, nI_le_iff, nI_inj, nI_num, mq_ix, nI_1, nl_mul, nl_div, on1, rm, narrow_b0]
        · simp only [on1] at rm
          simp (disch := (first | omega | decide)) [S_bx_mcan1_0, S_b8_mkey_1, S_b8_mkey_0, S_b1_mterm_0, S_b1_copy_0, S_b0_mod_7, S_b0_mod_6, S_b0_mod_5, S_b0_mod_3, S_b0_mod_2, S_b0_mod_1, S_b0_mod_0, S_bx_mcan1_1h, S_b0_mod_4h, s306_0, s306_1, s306_2, s306_5, s306_6, s306_7, s306_8, s306_9, s306_12, s306_13, s306_16, s306_17, s306_18, s306_19, s306_20, s306_23, s306_24, s306_25, s306_26, s306_29, s306_31, s306_32, s306_36, s306_37, s306_40, s306_41, s306_43, s306_46, s306_47, s306_50, s306_51, s306_52, s306_53, s306_55, s306_56, s306_59, s306_62, s306_65, s306_68, s306_71, s306_73, s306_75, s306_76, s306_79, s306_80, s306_83, s306_84, s306_86, s306_89, s306_90, s306_93, s306_96, s306_97, s306_99, s306_102, s306_103, s306_106, s306_107, s306_110, s306_111, s306_113, s306_115, s306_118, s306_119, s306_121, s306_124, s306_125, s306_128, s306_131, s306_132, s306_133, s306_134, s306_136, s306_139, s306_141, s306_144, s306_147, s306_148, mq_k0s, mq_k1s, mq_k2s, mq_k4s, mq_k5s, mq_k5n, mq_k5as, mq_k6s, mj_pu, mj_lo, mj_br, mj_hr, mj_hw, mq_gf, mq_len, mq_al, mq_pf, mq_ok, mj_re, mq_lkm, mq_lkn, mj_ldi, mj_ldl, mj_lda, mj_ii, mj_ll, mj_li, mj_i1, ms_1, ms_2, f1_n, f1_i, f1_r, f1_u, f1_l, f2_n, f2_i, f2_r, f2_u, f2_l, mj_tg, mj_c1, mj_c2, mj_ar, mj_aw, mq_cb, mq_oi, mj_rm, Value.category, -getElem?_pos, List.getElem?_cons_zero, decide_eq_true, decide_eq_false, nl_lt, nl_le, ln_lt, ln_le, nl_eq, ln_eq, nl_add, ln_add, nl_sub, ln_mul, nI_sub, nI_mul, nI_add, nI_lt_iff, nI_le_iff, nI_inj, nI_num, mq_ix, nI_1, nl_mul, nl_div, on1, rm, b1]
          refine mq_wk ?_ r
          simp [S_bx_mcan1_0, S_b8_mkey_1, S_b8_mkey_0, S_b1_mterm_0, S_b1_copy_0, S_b0_mod_7, S_b0_mod_6, S_b0_mod_5, S_b0_mod_3, S_b0_mod_2, S_b0_mod_1, S_b0_mod_0, S_bx_mcan1_1h, S_b0_mod_4h, mq_sub, mj_lk]
    · have eL : lfF ms (nmT ia) (nmS ia) p = false := by unfold lfF; rw [decide_eq_false h5, Bool.false_and]
      rw [eL, Bool.false_and]
      rw [s306_34]
      simp (disch := (first | omega | decide)) [S_bx_mcan1_0, S_b8_mkey_1, S_b8_mkey_0, S_b1_mterm_0, S_b1_copy_0, S_b0_mod_7, S_b0_mod_6, S_b0_mod_5, S_b0_mod_3, S_b0_mod_2, S_b0_mod_1, S_b0_mod_0, S_bx_mcan1_1h, S_b0_mod_4h, s306_0, s306_1, s306_2, s306_5, s306_6, s306_7, s306_8, s306_9, s306_12, s306_13, s306_16, s306_17, s306_18, s306_19, s306_20, s306_23, s306_24, s306_25, s306_26, s306_29, s306_31, s306_32, s306_36, s306_37, s306_40, s306_41, s306_43, s306_46, s306_47, s306_50, s306_51, s306_52, s306_53, s306_55, s306_56, s306_59, s306_62, s306_65, s306_68, s306_71, s306_73, s306_75, s306_76, s306_79, s306_80, s306_83, s306_84, s306_86, s306_89, s306_90, s306_93, s306_96, s306_97, s306_99, s306_102, s306_103, s306_106, s306_107, s306_110, s306_111, s306_113, s306_115, s306_118, s306_119, s306_121, s306_124, s306_125, s306_128, s306_131, s306_132, s306_133, s306_134, s306_136, s306_139, s306_141, s306_144, s306_147, s306_148, mq_k0s, mq_k1s, mq_k2s, mq_k4s, mq_k5s, mq_k5n, mq_k5as, mq_k6s, mj_pu, mj_lo, mj_br, mj_hr, mj_hw, mq_gf, mq_len, mq_al, mq_pf, mq_ok, mj_re, mq_lkm, mq_lkn, mj_ldi, mj_ldl, mj_lda, mj_ii, mj_ll, mj_li, mj_i1, ms_1, ms_2, f1_n, f1_i, f1_r, f1_u, f1_l, f2_n, f2_i, f2_r, f2_u, f2_l, mj_tg, mj_c1, mj_c2, mj_ar, mj_aw, mq_cb, mq_oi, mj_rm, Value.category, -getElem?_pos, List.getElem?_cons_zero, decide_eq_true, decide_eq_false, nl_lt, nl_le, ln_lt, ln_le, nl_eq, ln_eq, nl_add, ln_add, nl_sub, ln_mul, nI_sub, nI_mul, nI_add, nI_lt_iff, nI_le_iff, nI_inj, nI_num, mq_ix, nI_1, nl_mul, nl_div, r0, h5, show ¬ N ≤ j by omega, narrow_b0, on1]
theorem q_mayEntries (h : xm x ms) {ia : Bool} {o : Option Nat} (ho : oJ ms o) : mj_V (d + 6) 306 [.ref 67, .int (oP o), .int (on1 ia)] (mm B x y) = some (some (.int (on1 (cbLf ms (nmT ia) (nmS ia) o))), mm B x y) := by
  cases o with
  | none => simp only [oP, cbLf]; generalize on1 ia = iv; simp (disch := (first | omega | decide)) [S_bx_mcan1_0, S_b8_mkey_1, S_b8_mkey_0, S_b1_mterm_0, S_b1_copy_0, S_b0_mod_7, S_b0_mod_6, S_b0_mod_5, S_b0_mod_3, S_b0_mod_2, S_b0_mod_1, S_b0_mod_0, S_bx_mcan1_1h, S_b0_mod_4h, c306, s306_0, s306_1, s306_2, s306_5, s306_6, s306_7, s306_8, s306_9, s306_12, s306_13, s306_16, s306_17, s306_18, s306_19, s306_20, s306_23, s306_24, s306_25, s306_26, s306_29, s306_31, s306_32, s306_34, s306_36, s306_37, s306_40, s306_41, s306_43, s306_46, s306_47, s306_50, s306_51, s306_52, s306_53, s306_55, s306_56, s306_59, s306_62, s306_65, s306_68, s306_71, s306_73, s306_75, s306_76, s306_79, s306_80, s306_83, s306_84, s306_86, s306_89, s306_90, s306_93, s306_96, s306_97, s306_99, s306_102, s306_103, s306_106, s306_107, s306_110, s306_111, s306_113, s306_115, s306_118, s306_119, s306_121, s306_124, s306_125, s306_128, s306_131, s306_132, s306_133, s306_134, s306_136, s306_139, s306_141, s306_144, s306_147, s306_148, mq_k0s, mq_k1s, mq_k2s, mq_k4s, mq_k5s, mq_k5n, mq_k5as, mq_k6s, mj_pu, mj_lo, mj_br, mj_hr, mj_hw, mq_gf, mq_len, mq_al, mq_pf, mq_ok, mj_re, mq_lkm, mq_lkn, mj_ldi, mj_ldl, mj_lda, mj_ii, mj_ll, mj_li, mj_i1, ms_1, ms_2, f1_n, f1_i, f1_r, f1_u, f1_l, f2_n, f2_i, f2_r, f2_u, f2_l, mj_tg, mj_c1, mj_c2, mj_ar, mj_aw, mq_cb, mq_oi, mj_rm, Value.category, -getElem?_pos, List.getElem?_cons_zero, decide_eq_true, decide_eq_false, nl_lt, nl_le, ln_lt, ln_le, nl_eq, ln_eq, nl_add, ln_add, nl_sub, ln_mul, nI_sub, nI_mul, nI_add, nI_lt_iff, nI_le_iff, nI_inj, nI_num, mq_ix, nI_1, nl_mul, nl_div, narrow_b1, on1]
  | some p =>
    have hi := ho p rfl
    have ok := hi.ok
    have hk := (cbOk_hd.mp ok).1
    have hp9 := Io.l9 h hi
    have r0 := q_sortAt (d := d + 4) (B := B) (x := x) (y := y) h hk.1
    have r2 := q_numberAt (d := d + 3) (B := B) (x := x) (y := y) h hk.1 hk.2.2.2.1
    have rb := q_behindHead (d := d + 3) (B := B) (x := x) (y := y) h hk.1
    have s1 : cbS ms p < 8 := by have := (h.at hk.1).2; unfold cbS; omega
    simp only [oP, cbLf]
    by_cases h4 : cbS ms p = 4
    · obtain ⟨r, hr, hq⟩ := hi.arr h4
      have rl := l_mayEntries (d := d) (B := B) (x := x) (y := y) h (ia := ia) (r := r) (by omega) hk.2.2.2.2.2.1 (cbV ms p) 0 none (cbC ms p) _ hq ok.c.2 (by omega)
      rw [h4] at r0
      rw [decide_eq_true h4, Bool.true_and]
      rw [nI_0] at rl
      generalize on1 (cbAll ms (lfF ms (nmT ia) (nmS ia)) (cbV ms p) (cbC ms p)) = res at *
      generalize on1 ia = iv at *
      simp (disch := (first | omega | decide)) [S_bx_mcan1_0, S_b8_mkey_1, S_b8_mkey_0, S_b1_mterm_0, S_b1_copy_0, S_b0_mod_7, S_b0_mod_6, S_b0_mod_5, S_b0_mod_3, S_b0_mod_2, S_b0_mod_1, S_b0_mod_0, S_bx_mcan1_1h, S_b0_mod_4h, c306, s306_0, s306_1, s306_2, s306_5, s306_6, s306_7, s306_8, s306_9, s306_12, s306_13, s306_16, s306_17, s306_18, s306_19, s306_20, s306_23, s306_24, s306_25, s306_26, s306_29, s306_31, s306_32, s306_36, s306_37, s306_40, s306_41, s306_43, s306_46, s306_47, s306_50, s306_51, s306_52, s306_53, s306_55, s306_56, s306_59, s306_62, s306_65, s306_68, s306_71, s306_73, s306_75, s306_76, s306_79, s306_80, s306_83, s306_84, s306_86, s306_89, s306_90, s306_93, s306_96, s306_97, s306_99, s306_102, s306_103, s306_106, s306_107, s306_110, s306_111, s306_113, s306_115, s306_118, s306_119, s306_121, s306_124, s306_125, s306_128, s306_131, s306_132, s306_133, s306_134, s306_136, s306_139, s306_141, s306_144, s306_147, s306_148, mq_k0s, mq_k1s, mq_k2s, mq_k4s, mq_k5s, mq_k5n, mq_k5as, mq_k6s, mj_pu, mj_lo, mj_br, mj_hr, mj_hw, mq_gf, mq_len, mq_al, mq_pf, mq_ok, mj_re, mq_lkm, mq_lkn, mj_ldi, mj_ldl, mj_lda, mj_ii, mj_ll, mj_li, mj_i1, ms_1, ms_2, f1_n, f1_i, f1_r, f1_u, f1_l, f2_n, f2_i, f2_r, f2_u, f2_l, mj_tg, mj_c1, mj_c2, mj_ar, mj_aw, mq_cb, mq_oi, mj_rm, Value.category, -getElem?_pos, List.getElem?_cons_zero, decide_eq_true, decide_eq_false, nl_lt, nl_le, ln_lt, ln_le, nl_eq, ln_eq, nl_add, ln_add, nl_sub, ln_mul, nI_sub, nI_mul, nI_add, nI_lt_iff, nI_le_iff, nI_inj, nI_num, mq_ix, nI_1, nl_mul, nl_div, r0, r2, rb, hp9.2]
      refine mq_wk ?_ rl
      simp [S_bx_mcan1_0, S_b8_mkey_1, S_b8_mkey_0, S_b1_mterm_0, S_b1_copy_0, S_b0_mod_7, S_b0_mod_6, S_b0_mod_5, S_b0_mod_3, S_b0_mod_2, S_b0_mod_1, S_b0_mod_0, S_bx_mcan1_1h, S_b0_mod_4h, mq_sub, mj_lk]
    · rw [decide_eq_false h4, Bool.false_and]
      generalize on1 ia = iv at *
      simp (disch := (first | omega | decide)) [S_bx_mcan1_0, S_b8_mkey_1, S_b8_mkey_0, S_b1_mterm_0, S_b1_copy_0, S_b0_mod_7, S_b0_mod_6, S_b0_mod_5, S_b0_mod_3, S_b0_mod_2, S_b0_mod_1, S_b0_mod_0, S_bx_mcan1_1h, S_b0_mod_4h, c306, s306_0, s306_1, s306_2, s306_5, s306_6, s306_7, s306_8, s306_9, s306_12, s306_13, s306_16, s306_17, s306_18, s306_19, s306_20, s306_23, s306_24, s306_25, s306_26, s306_29, s306_31, s306_32, s306_36, s306_37, s306_40, s306_41, s306_43, s306_46, s306_47, s306_50, s306_51, s306_52, s306_53, s306_55, s306_56, s306_59, s306_62, s306_65, s306_68, s306_71, s306_73, s306_75, s306_76, s306_79, s306_80, s306_83, s306_84, s306_86, s306_89, s306_90, s306_93, s306_96, s306_97, s306_99, s306_102, s306_103, s306_106, s306_107, s306_110, s306_111, s306_113, s306_115, s306_118, s306_119, s306_121, s306_124, s306_125, s306_128, s306_131, s306_132, s306_133, s306_134, s306_136, s306_139, s306_141, s306_144, s306_147, s306_148, mq_k0s, mq_k1s, mq_k2s, mq_k4s, mq_k5s, mq_k5n, mq_k5as, mq_k6s, mj_pu, mj_lo, mj_br, mj_hr, mj_hw, mq_gf, mq_len, mq_al, mq_pf, mq_ok, mj_re, mq_lkm, mq_lkn, mj_ldi, mj_ldl, mj_lda, mj_ii, mj_ll, mj_li, mj_i1, ms_1, ms_2, f1_n, f1_i, f1_r, f1_u, f1_l, f2_n, f2_i, f2_r, f2_u, f2_l, mj_tg, mj_c1, mj_c2, mj_ar, mj_aw, mq_cb, mq_oi, mj_rm, Value.category, -getElem?_pos, List.getElem?_cons_zero, decide_eq_true, decide_eq_false, nl_lt, nl_le, ln_lt, ln_le, nl_eq, ln_eq, nl_add, ln_add, nl_sub, ln_mul, nI_sub, nI_mul, nI_add, nI_lt_iff, nI_le_iff, nI_inj, nI_num, mq_ix, nI_1, nl_mul, nl_div, r0, h4, hp9.2, narrow_b0, on1]
end
end
/- c3.mfit2 -/
section
set_option maxRecDepth 512
/-! The model: whole entries, texts, truths. -/
section
variable {d : Nat} {B : Bs} {x : Fx} {y : Sy} {ms : List Int32}
theorem lf_and {t : List Int32} {s p : Nat} (h : lfF ms t s p = true) : cbS ms p = 5 ∧ oFit ms s (cbNm ms t (some p)) = true ∧ oFit ms 3 (cbNm ms ty_ (some p)) = true := by
  unfold lfF at h
  simpa [S_bx_mcan1_0, S_b8_mkey_1, S_b8_mkey_0, S_b1_mterm_0, S_b1_copy_0, S_b0_mod_7, S_b0_mod_6, S_b0_mod_5, S_b0_mod_3, S_b0_mod_2, S_b0_mod_1, S_b0_mod_0, S_bx_mcan1_1h, S_b0_mod_4h] using h
theorem l_areWhole (h : xm x ms) {ia : Bool} {r N : Nat} (hr : r ≤ 4) (hN : N < 2 ^ 31) : ∀ (n j : Nat) (k : Option (Nat × Nat)) (p q : Nat), cbQ (cbI ms r) ms false n k p = some q → cbAll ms (lfF ms (nmT ia) (nmS ia)) n p = true → p ≤ ms.length → j + n = N →
    mj_Rn (d + 4) mj_m307 23 [(5, .int (nI j)), (4, .int (nI p)), (3, .int (nI N)), (0, .ref 67), (2, .int (on1 ia))] [] (mm B x y) = some (some (.int (on1 (cbAll ms (lwF ms (nmT ia)) n p))), mm B x y) := by
  have hle := h.1.le
  intro n
  induction n with
  | zero =>
    intro j k p q hq hf hp hj
    simp only [cbAll]
    simp (disch := (first | omega | decide)) [S_bx_mcan1_0, S_b8_mkey_1, S_b8_mkey_0, S_b1_mterm_0, S_b1_copy_0, S_b0_mod_7, S_b0_mod_6, S_b0_mod_5, S_b0_mod_3, S_b0_mod_2, S_b0_mod_1, S_b0_mod_0, S_bx_mcan1_1h, S_b0_mod_4h, s307_0, s307_1, s307_2, s307_5, s307_6, s307_7, s307_8, s307_9, s307_12, s307_13, s307_14, s307_15, s307_18, s307_20, s307_21, s307_23, s307_25, s307_26, s307_29, s307_30, s307_32, s307_33, s307_36, s307_39, s307_42, s307_45, s307_48, s307_49, s307_52, s307_53, s307_55, s307_58, s307_61, s307_62, s307_65, s307_66, s307_67, s307_68, s307_70, s307_73, s307_75, s307_78, s307_81, s307_82, mq_k0s, mq_k1s, mq_k2s, mq_k4s, mq_k5s, mq_k5n, mq_k5as, mq_k6s, mj_pu, mj_lo, mj_br, mj_hr, mj_hw, mq_gf, mq_len, mq_al, mq_pf, mq_ok, mj_re, mq_lkm, mq_lkn, mj_ldi, mj_ldl, mj_lda, mj_ii, mj_ll, mj_li, mj_i1, ms_1, ms_2, f1_n, f1_i, f1_r, f1_u, f1_l, f2_n, f2_i, f2_r, f2_u, f2_l, mj_tg, mj_c1, mj_c2, mj_ar, mj_aw, mq_cb, mq_oi, mj_rm, Value.category, -getElem?_pos, List.getElem?_cons_zero, decide_eq_true, decide_eq_false, nl_lt, nl_le, ln_lt, ln_le, nl_eq, ln_eq, nl_add, ln_add, nl_sub, ln_mul, nI_sub, nI_mul, nI_add, nI_lt_iff, nI_le_iff, nI_inj, nI_num, mq_ix, nI_1, nl_mul, nl_div, show N ≤ j by omega, narrow_b1, on1]
  | succ n ih =>
    intro j k p q hq hf hp hj
    obtain ⟨q1, h1, h3⟩ := cbQ_arr hq
    have l1 := cbI_lt _ _ _ h1
    have e1 := cbE_eq h1 hr
    have hI := Io.mk h1 hr
    unfold cbAll at hf
    rw [e1, Bool.and_eq_true] at hf
    have h5 := (lf_and hf.1).1
    have b1 := q_behind (d := d + 1) (B := B) (x := x) (y := y) h hI
    have r := ih (j + 1) _ q1 q h3 hf.2 l1.2 (by omega)
    rw [e1] at b1
    unfold cbAll
    rw [e1]
    have rn := q_namM (d := d) (B := B) (x := x) (y := y) h (nn_b ia) hI h5
    have rm := q_namM (d := d) (B := B) (x := x) (y := y) h nn_ty hI h5
    have hoI : oJ ms (cbNm ms (nmT ia) (some p)) := oJ.mem (fun _ z => by cases z; exact hI)
    have hoI2 : oJ ms (cbNm ms ty_ (some p)) := oJ.mem (fun _ z => by cases z; exact hI)
    unfold lwF
    generalize cbNm ms (nmT ia) (some p) = o at *
    generalize cbNm ms ty_ (some p) = o2 at *
    generalize hres : cbAll ms (fun e => !(cbNm ms (nmT ia) (some e)).isNone && !(cbNm ms ty_ (some e)).isNone) n q1 = res
    have hres : cbAll ms (lwF ms (nmT ia)) n q1 = res := hres
    rw [hres] at r
    rw [s307_23]
    cases o with
    | none =>
      cases ia <;> simp only [nmI, oP, on1, if_true, Bool.false_eq_true, if_false] at rn ⊢ <;> simp (disch := (first | omega | decide)) [S_bx_mcan1_0, S_b8_mkey_1, S_b8_mkey_0, S_b1_mterm_0, S_b1_copy_0, S_b0_mod_7, S_b0_mod_6, S_b0_mod_5, S_b0_mod_3, S_b0_mod_2, S_b0_mod_1, S_b0_mod_0, S_bx_mcan1_1h, S_b0_mod_4h, s307_0, s307_1, s307_2, s307_5, s307_6, s307_7, s307_8, s307_9, s307_12, s307_13, s307_14, s307_15, s307_18, s307_20, s307_21, s307_25, s307_26, s307_29, s307_30, s307_32, s307_33, s307_36, s307_39, s307_42, s307_45, s307_48, s307_49, s307_52, s307_53, s307_55, s307_58, s307_61, s307_62, s307_65, s307_66, s307_67, s307_68, s307_70, s307_73, s307_75, s307_78, s307_81, s307_82, mq_k0s, mq_k1s, mq_k2s, mq_k4s, mq_k5s, mq_k5n, mq_k5as, mq_k6s, mj_pu, mj_lo, mj_br, mj_hr, mj_hw, mq_gf, mq_len, mq_al, mq_pf, mq_ok, mj_re, mq_lkm, mq_lkn, mj_ldi, mj_ldl, mj_lda, mj_ii, mj_ll, mj_li, mj_i1, ms_1, ms_2, f1_n, f1_i, f1_r, f1_u, f1_l, f2_n, f2_i, f2_r, f2_u, f2_l, mj_tg, mj_c1, mj_c2, mj_ar, mj_aw, mq_cb, mq_oi, mj_rm, Value.category, -getElem?_pos, List.getElem?_cons_zero, decide_eq_true, decide_eq_false, nl_lt, nl_le, ln_lt, ln_le, nl_eq, ln_eq, nl_add, ln_add, nl_sub, ln_mul, nI_sub, nI_mul, nI_add, nI_lt_iff, nI_le_iff, nI_inj, nI_num, mq_ix, nI_1, nl_mul, nl_div, rn, show ¬ N ≤ j by omega, narrow_b0]
    | some v =>
      have hv9 := Io.l9 h (hoI v rfl)
      cases o2 with
      | none =>
        cases ia <;> simp only [nmI, oP, on1, if_true, Bool.false_eq_true, if_false] at rn rm ⊢ <;> simp (disch := (first | omega | decide)) [S_bx_mcan1_0, S_b8_mkey_1, S_b8_mkey_0, S_b1_mterm_0, S_b1_copy_0, S_b0_mod_7, S_b0_mod_6, S_b0_mod_5, S_b0_mod_3, S_b0_mod_2, S_b0_mod_1, S_b0_mod_0, S_bx_mcan1_1h, S_b0_mod_4h, s307_0, s307_1, s307_2, s307_5, s307_6, s307_7, s307_8, s307_9, s307_12, s307_13, s307_14, s307_15, s307_18, s307_20, s307_21, s307_25, s307_26, s307_29, s307_30, s307_32, s307_33, s307_36, s307_39, s307_42, s307_45, s307_48, s307_49, s307_52, s307_53, s307_55, s307_58, s307_61, s307_62, s307_65, s307_66, s307_67, s307_68, s307_70, s307_73, s307_75, s307_78, s307_81, s307_82, mq_k0s, mq_k1s, mq_k2s, mq_k4s, mq_k5s, mq_k5n, mq_k5as, mq_k6s, mj_pu, mj_lo, mj_br, mj_hr, mj_hw, mq_gf, mq_len, mq_al, mq_pf, mq_ok, mj_re, mq_lkm, mq_lkn, mj_ldi, mj_ldl, mj_lda, mj_ii, mj_ll, mj_li, mj_i1, ms_1, ms_2, f1_n, f1_i, f1_r, f1_u, f1_l, f2_n, f2_i, f2_r, f2_u, f2_l, mj_tg, mj_c1, mj_c2, mj_ar, mj_aw, mq_cb, mq_oi, mj_rm, Value.category, -getElem?_pos, List.getElem?_cons_zero, decide_eq_true, decide_eq_false, nl_lt, nl_le, ln_lt, ln_le, nl_eq, ln_eq, nl_add, ln_add, nl_sub, ln_mul, nI_sub, nI_mul, nI_add, nI_lt_iff, nI_le_iff, nI_inj, nI_num, mq_ix, nI_1, nl_mul, nl_div, rn, rm, hv9.2, show ¬ N ≤ j by omega, narrow_b0]
      | some w =>
        have hw9 := Io.l9 h (hoI2 w rfl)
        simp only [Option.isNone_some, Bool.not_false, Bool.true_and]
        cases ia <;> simp only [nmI, oP, on1, if_true, Bool.false_eq_true, if_false] at rn rm r ⊢
        · simp (disch := (first | omega | decide)) [S_bx_mcan1_0, S_b8_mkey_1, S_b8_mkey_0, S_b1_mterm_0, S_b1_copy_0, S_b0_mod_7, S_b0_mod_6, S_b0_mod_5, S_b0_mod_3, S_b0_mod_2, S_b0_mod_1, S_b0_mod_0, S_bx_mcan1_1h, S_b0_mod_4h, s307_0, s307_1, s307_2, s307_5, s307_6, s307_7, s307_8, s307_9, s307_12, s307_13, s307_14, s307_15, s307_18, s307_20, s307_21, s307_25, s307_26, s307_29, s307_30, s307_32, s307_33, s307_36, s307_39, s307_42, s307_45, s307_48, s307_49, s307_52, s307_53, s307_55, s307_58, s307_61, s307_62, s307_65, s307_66, s307_67, s307_68, s307_70, s307_73, s307_75, s307_78, s307_81, s307_82, mq_k0s, mq_k1s, mq_k2s, mq_k4s, mq_k5s, mq_k5n, mq_k5as, mq_k6s, mj_pu, mj_lo, mj_br, mj_hr, mj_hw, mq_gf, mq_len, mq_al, mq_pf, mq_ok, mj_re, mq_lkm, mq_lkn, mj_ldi, mj_ldl, mj_lda, mj_ii, mj_ll, mj_li, mj_i1, ms_1, ms_2, f1_n, f1_i, f1_r, f1_u, f1_l, f2_n, f2_i, f2_r, f2_u, f2_l, mj_tg, mj_c1, mj_c2, mj_ar, mj_aw, mq_cb, mq_oi, mj_rm, Value.category, -getElem?_pos, List.getElem?_cons_zero, decide_eq_true, decide_eq_false, nl_lt, nl_le, ln_lt, ln_le, nl_eq, ln_eq, nl_add, ln_add, nl_sub, ln_mul, nI_sub, nI_mul, nI_add, nI_lt_iff, nI_le_iff, nI_inj, nI_num, mq_ix, nI_1, nl_mul, nl_div, rn, rm, hv9.2, hw9.2, b1, show ¬ N ≤ j by omega]
          refine mq_wk ?_ r
          simp [S_bx_mcan1_0, S_b8_mkey_1, S_b8_mkey_0, S_b1_mterm_0, S_b1_copy_0, S_b0_mod_7, S_b0_mod_6, S_b0_mod_5, S_b0_mod_3, S_b0_mod_2, S_b0_mod_1, S_b0_mod_0, S_bx_mcan1_1h, S_b0_mod_4h, mq_sub, mj_lk]
        · simp (disch := (first | omega | decide)) [S_bx_mcan1_0, S_b8_mkey_1, S_b8_mkey_0, S_b1_mterm_0, S_b1_copy_0, S_b0_mod_7, S_b0_mod_6, S_b0_mod_5, S_b0_mod_3, S_b0_mod_2, S_b0_mod_1, S_b0_mod_0, S_bx_mcan1_1h, S_b0_mod_4h, s307_0, s307_1, s307_2, s307_5, s307_6, s307_7, s307_8, s307_9, s307_12, s307_13, s307_14, s307_15, s307_18, s307_20, s307_21, s307_25, s307_26, s307_29, s307_30, s307_32, s307_33, s307_36, s307_39, s307_42, s307_45, s307_48, s307_49, s307_52, s307_53, s307_55, s307_58, s307_61, s307_62, s307_65, s307_66, s307_67, s307_68, s307_70, s307_73, s307_75, s307_78, s307_81, s307_82, mq_k0s, mq_k1s, mq_k2s, mq_k4s, mq_k5s, mq_k5n, mq_k5as, mq_k6s, mj_pu, mj_lo, mj_br, mj_hr, mj_hw, mq_gf, mq_len, mq_al, mq_pf, mq_ok, mj_re, mq_lkm, mq_lkn, mj_ldi, mj_ldl, mj_lda, mj_ii, mj_ll, mj_li, mj_i1, ms_1, ms_2, f1_n, f1_i, f1_r, f1_u, f1_l, f2_n, f2_i, f2_r, f2_u, f2_l, mj_tg, mj_c1, mj_c2, mj_ar, mj_aw, mq_cb, mq_oi, mj_rm, Value.category, -getElem?_pos, List.getElem?_cons_zero, decide_eq_true, decide_eq_false, nl_lt, nl_le, ln_lt, ln_le, nl_eq, ln_eq, nl_add, ln_add, nl_sub, ln_mul, nI_sub, nI_mul, nI_add, nI_lt_iff, nI_le_iff, nI_inj, nI_num, mq_ix, nI_1, nl_mul, nl_div, rn, rm, hv9.2, hw9.2, b1, show ¬ N ≤ j by omega]
          refine mq_wk ?_ r
          simp [S_bx_mcan1_0, S_b8_mkey_1, S_b8_mkey_0, S_b1_mterm_0, S_b1_copy_0, S_b0_mod_7, S_b0_mod_6, S_b0_mod_5, S_b0_mod_3, S_b0_mod_2, S_b0_mod_1, S_b0_mod_0, S_bx_mcan1_1h, S_b0_mod_4h, mq_sub, mj_lk]
theorem q_areWhole (h : xm x ms) {ia : Bool} {o : Option Nat} (ho : oJ ms o) (hf : cbLf ms (nmT ia) (nmS ia) o = true) : mj_V (d + 5) 307 [.ref 67, .int (oP o), .int (on1 ia)] (mm B x y) = some (some (.int (on1 (cbLw ms (nmT ia) o))), mm B x y) := by
  cases o with
  | none => simp only [oP, cbLw]; generalize on1 ia = iv; simp (disch := (first | omega | decide)) [S_bx_mcan1_0, S_b8_mkey_1, S_b8_mkey_0, S_b1_mterm_0, S_b1_copy_0, S_b0_mod_7, S_b0_mod_6, S_b0_mod_5, S_b0_mod_3, S_b0_mod_2, S_b0_mod_1, S_b0_mod_0, S_bx_mcan1_1h, S_b0_mod_4h, c307, s307_0, s307_1, s307_2, s307_5, s307_6, s307_7, s307_8, s307_9, s307_12, s307_13, s307_14, s307_15, s307_18, s307_20, s307_21, s307_23, s307_25, s307_26, s307_29, s307_30, s307_32, s307_33, s307_36, s307_39, s307_42, s307_45, s307_48, s307_49, s307_52, s307_53, s307_55, s307_58, s307_61, s307_62, s307_65, s307_66, s307_67, s307_68, s307_70, s307_73, s307_75, s307_78, s307_81, s307_82, mq_k0s, mq_k1s, mq_k2s, mq_k4s, mq_k5s, mq_k5n, mq_k5as, mq_k6s, mj_pu, mj_lo, mj_br, mj_hr, mj_hw, mq_gf, mq_len, mq_al, mq_pf, mq_ok, mj_re, mq_lkm, mq_lkn, mj_ldi, mj_ldl, mj_lda, mj_ii, mj_ll, mj_li, mj_i1, ms_1, ms_2, f1_n, f1_i, f1_r, f1_u, f1_l, f2_n, f2_i, f2_r, f2_u, f2_l, mj_tg, mj_c1, mj_c2, mj_ar, mj_aw, mq_cb, mq_oi, mj_rm, Value.category, -getElem?_pos, List.getElem?_cons_zero, decide_eq_true, decide_eq_false, nl_lt, nl_le, ln_lt, ln_le, nl_eq, ln_eq, nl_add, ln_add, nl_sub, ln_mul, nI_sub, nI_mul, nI_add, nI_lt_iff, nI_le_iff, nI_inj, nI_num, mq_ix, nI_1, nl_mul, nl_div, narrow_b1, on1]
  | some p =>
    have hi := ho p rfl
    have ok := hi.ok
    have hk := (cbOk_hd.mp ok).1
    have hp9 := Io.l9 h hi
    have r2 := q_numberAt (d := d + 2) (B := B) (x := x) (y := y) h hk.1 hk.2.2.2.1
    have rb := q_behindHead (d := d + 2) (B := B) (x := x) (y := y) h hk.1
    simp only [oP, cbLw]
    unfold cbLf at hf
    rw [Bool.and_eq_true, decide_eq_true_iff] at hf
    obtain ⟨r, hr, hq⟩ := hi.arr hf.1
    have rl := l_areWhole (d := d) (B := B) (x := x) (y := y) h (ia := ia) (r := r) (by omega) hk.2.2.2.2.2.1 (cbV ms p) 0 none (cbC ms p) _ hq hf.2 ok.c.2 (by omega)
    rw [nI_0] at rl
    generalize on1 (cbAll ms (lwF ms (nmT ia)) (cbV ms p) (cbC ms p)) = res at *
    generalize on1 ia = iv at *
    simp (disch := (first | omega | decide)) [S_bx_mcan1_0, S_b8_mkey_1, S_b8_mkey_0, S_b1_mterm_0, S_b1_copy_0, S_b0_mod_7, S_b0_mod_6, S_b0_mod_5, S_b0_mod_3, S_b0_mod_2, S_b0_mod_1, S_b0_mod_0, S_bx_mcan1_1h, S_b0_mod_4h, c307, s307_0, s307_1, s307_2, s307_5, s307_6, s307_7, s307_8, s307_9, s307_12, s307_13, s307_14, s307_15, s307_18, s307_20, s307_21, s307_25, s307_26, s307_29, s307_30, s307_32, s307_33, s307_36, s307_39, s307_42, s307_45, s307_48, s307_49, s307_52, s307_53, s307_55, s307_58, s307_61, s307_62, s307_65, s307_66, s307_67, s307_68, s307_70, s307_73, s307_75, s307_78, s307_81, s307_82, mq_k0s, mq_k1s, mq_k2s, mq_k4s, mq_k5s, mq_k5n, mq_k5as, mq_k6s, mj_pu, mj_lo, mj_br, mj_hr, mj_hw, mq_gf, mq_len, mq_al, mq_pf, mq_ok, mj_re, mq_lkm, mq_lkn, mj_ldi, mj_ldl, mj_lda, mj_ii, mj_ll, mj_li, mj_i1, ms_1, ms_2, f1_n, f1_i, f1_r, f1_u, f1_l, f2_n, f2_i, f2_r, f2_u, f2_l, mj_tg, mj_c1, mj_c2, mj_ar, mj_aw, mq_cb, mq_oi, mj_rm, Value.category, -getElem?_pos, List.getElem?_cons_zero, decide_eq_true, decide_eq_false, nl_lt, nl_le, ln_lt, ln_le, nl_eq, ln_eq, nl_add, ln_add, nl_sub, ln_mul, nI_sub, nI_mul, nI_add, nI_lt_iff, nI_le_iff, nI_inj, nI_num, mq_ix, nI_1, nl_mul, nl_div, r2, rb, hp9.2]
    refine mq_wk ?_ rl
    simp [S_bx_mcan1_0, S_b8_mkey_1, S_b8_mkey_0, S_b1_mterm_0, S_b1_copy_0, S_b0_mod_7, S_b0_mod_6, S_b0_mod_5, S_b0_mod_3, S_b0_mod_2, S_b0_mod_1, S_b0_mod_0, S_bx_mcan1_1h, S_b0_mod_4h, mq_sub, mj_lk]
theorem l_isPk (h : xm x ms) (hy : y.2.1.2.1.2 = pk_) {p : Nat} (hp : p < ms.length) (hC : cbC ms p + 10 ≤ ms.length) : ∀ (m k : Nat), k + m = 10 →
    mj_Rn (d + 2) mj_m312 28 [(4, .int (nI k)), (3, .int 1), (2, .int (nI p)), (0, .ref 67)] [] (mm B x y) = some (some (.int (on1 (decide ((ms.drop (cbC ms p + k)).take m = pk_.drop k)))), mm B x y) := by
  have hle := h.1.le
  have hl : x.2.1.1.1.2.2.length = 640 := by obtain ⟨g, -, hl⟩ := h.1; exact hl
  have rb := q_behindHead (d := d) (B := B) (x := x) (y := y) h hp
  have h10 : pk_.length = 10 := rfl
  intro m
  induction m with
  | zero =>
    intro k hk
    rw [List.take_zero, List.drop_eq_nil_of_le (by omega)]
    simp (disch := (first | omega | decide)) [S_bx_mcan1_0, S_b8_mkey_1, S_b8_mkey_0, S_b1_mterm_0, S_b1_copy_0, S_b0_mod_7, S_b0_mod_6, S_b0_mod_5, S_b0_mod_3, S_b0_mod_2, S_b0_mod_1, S_b0_mod_0, S_bx_mcan1_1h, S_b0_mod_4h, s312_0, s312_1, s312_2, s312_5, s312_8, s312_9, s312_10, s312_11, s312_14, s312_16, s312_19, s312_20, s312_23, s312_24, s312_25, s312_26, s312_28, s312_30, s312_32, s312_35, s312_36, s312_39, s312_40, s312_43, s312_44, s312_45, s312_48, s312_50, s312_51, s312_52, s312_53, s312_56, s312_58, s312_59, s312_62, s312_63, s312_66, s312_67, s312_68, s312_71, s312_74, s312_75, mq_k0s, mq_k1s, mq_k2s, mq_k4s, mq_k5s, mq_k5n, mq_k5as, mq_k6s, mj_pu, mj_lo, mj_br, mj_hr, mj_hw, mq_gf, mq_len, mq_al, mq_pf, mq_ok, mj_re, mq_lkm, mq_lkn, mj_ldi, mj_ldl, mj_lda, mj_ii, mj_ll, mj_li, mj_i1, ms_1, ms_2, f1_n, f1_i, f1_r, f1_u, f1_l, f2_n, f2_i, f2_r, f2_u, f2_l, mj_tg, mj_c1, mj_c2, mj_ar, mj_aw, mq_cb, mq_oi, mj_rm, Value.category, -getElem?_pos, List.getElem?_cons_zero, decide_eq_true, decide_eq_false, nl_lt, nl_le, ln_lt, ln_le, nl_eq, ln_eq, nl_add, ln_add, nl_sub, ln_mul, nI_sub, nI_mul, nI_add, nI_lt_iff, nI_le_iff, nI_inj, nI_num, mq_ix, nI_1, nl_mul, nl_div, show 10 ≤ k by omega, narrow_b1, on1]
  | succ m ih =>
    intro k hk
    have r := ih (k + 1) (by omega)
    obtain ⟨g, gb⟩ := h.at (p := cbC ms p + k) (by omega)
    have hkl : k < pk_.length := by omega
    have htd : pk_[k]? = some pk_[k] := List.getElem?_eq_getElem hkl
    have hms : ms[cbC ms p + k]'(by omega) = nI (cbB ms (cbC ms p + k)) := by
      have := h.1.get (i := cbC ms p + k) (by omega)
      rw [g] at this
      exact (Option.some.inj this).symm
    have e1 : (ms.drop (cbC ms p + k)).take (m + 1) = nI (cbB ms (cbC ms p + k)) :: (ms.drop (cbC ms p + (k + 1))).take m := by
      rw [List.drop_eq_getElem_cons (by omega), List.take_succ_cons, hms]
      rfl
    have e2 : pk_.drop k = pk_[k] :: pk_.drop (k + 1) := List.drop_eq_getElem_cons hkl
    rw [e1, e2]
    rw [s312_28]
    generalize (ms.drop (cbC ms p + (k + 1))).take m = L1 at *
    generalize pk_.drop (k + 1) = L2 at *
    generalize pk_[k] = tk at *
    generalize pk_ = pk at *
    by_cases hc : nI (cbB ms (cbC ms p + k)) = tk
    · have e3 : decide (nI (cbB ms (cbC ms p + k)) :: L1 = tk :: L2) = decide (L1 = L2) := by simp [S_bx_mcan1_0, S_b8_mkey_1, S_b8_mkey_0, S_b1_mterm_0, S_b1_copy_0, S_b0_mod_7, S_b0_mod_6, S_b0_mod_5, S_b0_mod_3, S_b0_mod_2, S_b0_mod_1, S_b0_mod_0, S_bx_mcan1_1h, S_b0_mod_4h, hc]
      rw [e3]
      rw [hc] at g
      simp (disch := (first | omega | decide)) [S_bx_mcan1_0, S_b8_mkey_1, S_b8_mkey_0, S_b1_mterm_0, S_b1_copy_0, S_b0_mod_7, S_b0_mod_6, S_b0_mod_5, S_b0_mod_3, S_b0_mod_2, S_b0_mod_1, S_b0_mod_0, S_bx_mcan1_1h, S_b0_mod_4h, s312_0, s312_1, s312_2, s312_5, s312_8, s312_9, s312_10, s312_11, s312_14, s312_16, s312_19, s312_20, s312_23, s312_24, s312_25, s312_26, s312_30, s312_32, s312_35, s312_36, s312_39, s312_40, s312_43, s312_44, s312_45, s312_48, s312_50, s312_51, s312_52, s312_53, s312_56, s312_58, s312_59, s312_62, s312_63, s312_66, s312_67, s312_68, s312_71, s312_74, s312_75, mq_k0s, mq_k1s, mq_k2s, mq_k4s, mq_k5s, mq_k5n, mq_k5as, mq_k6s, mj_pu, mj_lo, mj_br, mj_hr, mj_hw, mq_gf, mq_len, mq_al, mq_pf, mq_ok, mj_re, mq_lkm, mq_lkn, mj_ldi, mj_ldl, mj_lda, mj_ii, mj_ll, mj_li, mj_i1, ms_1, ms_2, f1_n, f1_i, f1_r, f1_u, f1_l, f2_n, f2_i, f2_r, f2_u, f2_l, mj_tg, mj_c1, mj_c2, mj_ar, mj_aw, mq_cb, mq_oi, mj_rm, Value.category, -getElem?_pos, List.getElem?_cons_zero, decide_eq_true, decide_eq_false, nl_lt, nl_le, ln_lt, ln_le, nl_eq, ln_eq, nl_add, ln_add, nl_sub, ln_mul, nI_sub, nI_mul, nI_add, nI_lt_iff, nI_le_iff, nI_inj, nI_num, mq_ix, nI_1, nl_mul, nl_div, g, hl, hy, htd, h10, rb, show ¬ 10 ≤ k by omega]
      refine mq_wk ?_ r
      simp [S_bx_mcan1_0, S_b8_mkey_1, S_b8_mkey_0, S_b1_mterm_0, S_b1_copy_0, S_b0_mod_7, S_b0_mod_6, S_b0_mod_5, S_b0_mod_3, S_b0_mod_2, S_b0_mod_1, S_b0_mod_0, S_bx_mcan1_1h, S_b0_mod_4h, mq_sub, mj_lk]
    · have e3 : decide (nI (cbB ms (cbC ms p + k)) :: L1 = tk :: L2) = false := by simp [S_bx_mcan1_0, S_b8_mkey_1, S_b8_mkey_0, S_b1_mterm_0, S_b1_copy_0, S_b0_mod_7, S_b0_mod_6, S_b0_mod_5, S_b0_mod_3, S_b0_mod_2, S_b0_mod_1, S_b0_mod_0, S_bx_mcan1_1h, S_b0_mod_4h, hc]
      rw [e3]
      simp (disch := (first | omega | decide)) [S_bx_mcan1_0, S_b8_mkey_1, S_b8_mkey_0, S_b1_mterm_0, S_b1_copy_0, S_b0_mod_7, S_b0_mod_6, S_b0_mod_5, S_b0_mod_3, S_b0_mod_2, S_b0_mod_1, S_b0_mod_0, S_bx_mcan1_1h, S_b0_mod_4h, s312_0, s312_1, s312_2, s312_5, s312_8, s312_9, s312_10, s312_11, s312_14, s312_16, s312_19, s312_20, s312_23, s312_24, s312_25, s312_26, s312_30, s312_32, s312_35, s312_36, s312_39, s312_40, s312_43, s312_44, s312_45, s312_48, s312_50, s312_51, s312_52, s312_53, s312_56, s312_58, s312_59, s312_62, s312_63, s312_66, s312_67, s312_68, s312_71, s312_74, s312_75, mq_k0s, mq_k1s, mq_k2s, mq_k4s, mq_k5s, mq_k5n, mq_k5as, mq_k6s, mj_pu, mj_lo, mj_br, mj_hr, mj_hw, mq_gf, mq_len, mq_al, mq_pf, mq_ok, mj_re, mq_lkm, mq_lkn, mj_ldi, mj_ldl, mj_lda, mj_ii, mj_ll, mj_li, mj_i1, ms_1, ms_2, f1_n, f1_i, f1_r, f1_u, f1_l, f2_n, f2_i, f2_r, f2_u, f2_l, mj_tg, mj_c1, mj_c2, mj_ar, mj_aw, mq_cb, mq_oi, mj_rm, Value.category, -getElem?_pos, List.getElem?_cons_zero, decide_eq_true, decide_eq_false, nl_lt, nl_le, ln_lt, ln_le, nl_eq, ln_eq, nl_add, ln_add, nl_sub, ln_mul, nI_sub, nI_mul, nI_add, nI_lt_iff, nI_le_iff, nI_inj, nI_num, mq_ix, nI_1, nl_mul, nl_div, g, hl, hy, htd, h10, rb, hc, show ¬ 10 ≤ k by omega]
      rw [s312_28]
      by_cases hkk : 10 ≤ k + 1
      · simp (disch := (first | omega | decide)) [S_bx_mcan1_0, S_b8_mkey_1, S_b8_mkey_0, S_b1_mterm_0, S_b1_copy_0, S_b0_mod_7, S_b0_mod_6, S_b0_mod_5, S_b0_mod_3, S_b0_mod_2, S_b0_mod_1, S_b0_mod_0, S_bx_mcan1_1h, S_b0_mod_4h, s312_0, s312_1, s312_2, s312_5, s312_8, s312_9, s312_10, s312_11, s312_14, s312_16, s312_19, s312_20, s312_23, s312_24, s312_25, s312_26, s312_30, s312_32, s312_35, s312_36, s312_39, s312_40, s312_43, s312_44, s312_45, s312_48, s312_50, s312_51, s312_52, s312_53, s312_56, s312_58, s312_59, s312_62, s312_63, s312_66, s312_67, s312_68, s312_71, s312_74, s312_75, mq_k0s, mq_k1s, mq_k2s, mq_k4s, mq_k5s, mq_k5n, mq_k5as, mq_k6s, mj_pu, mj_lo, mj_br, mj_hr, mj_hw, mq_gf, mq_len, mq_al, mq_pf, mq_ok, mj_re, mq_lkm, mq_lkn, mj_ldi, mj_ldl, mj_lda, mj_ii, mj_ll, mj_li, mj_i1, ms_1, ms_2, f1_n, f1_i, f1_r, f1_u, f1_l, f2_n, f2_i, f2_r, f2_u, f2_l, mj_tg, mj_c1, mj_c2, mj_ar, mj_aw, mq_cb, mq_oi, mj_rm, Value.category, -getElem?_pos, List.getElem?_cons_zero, decide_eq_true, decide_eq_false, nl_lt, nl_le, ln_lt, ln_le, nl_eq, ln_eq, nl_add, ln_add, nl_sub, ln_mul, nI_sub, nI_mul, nI_add, nI_lt_iff, nI_le_iff, nI_inj, nI_num, mq_ix, nI_1, nl_mul, nl_div, hkk, narrow_b0, on1]
      · simp (disch := (first | omega | decide)) [S_bx_mcan1_0, S_b8_mkey_1, S_b8_mkey_0, S_b1_mterm_0, S_b1_copy_0, S_b0_mod_7, S_b0_mod_6, S_b0_mod_5, S_b0_mod_3, S_b0_mod_2, S_b0_mod_1, S_b0_mod_0, S_bx_mcan1_1h, S_b0_mod_4h, s312_0, s312_1, s312_2, s312_5, s312_8, s312_9, s312_10, s312_11, s312_14, s312_16, s312_19, s312_20, s312_23, s312_24, s312_25, s312_26, s312_30, s312_32, s312_35, s312_36, s312_39, s312_40, s312_43, s312_44, s312_45, s312_48, s312_50, s312_51, s312_52, s312_53, s312_56, s312_58, s312_59, s312_62, s312_63, s312_66, s312_67, s312_68, s312_71, s312_74, s312_75, mq_k0s, mq_k1s, mq_k2s, mq_k4s, mq_k5s, mq_k5n, mq_k5as, mq_k6s, mj_pu, mj_lo, mj_br, mj_hr, mj_hw, mq_gf, mq_len, mq_al, mq_pf, mq_ok, mj_re, mq_lkm, mq_lkn, mj_ldi, mj_ldl, mj_lda, mj_ii, mj_ll, mj_li, mj_i1, ms_1, ms_2, f1_n, f1_i, f1_r, f1_u, f1_l, f2_n, f2_i, f2_r, f2_u, f2_l, mj_tg, mj_c1, mj_c2, mj_ar, mj_aw, mq_cb, mq_oi, mj_rm, Value.category, -getElem?_pos, List.getElem?_cons_zero, decide_eq_true, decide_eq_false, nl_lt, nl_le, ln_lt, ln_le, nl_eq, ln_eq, nl_add, ln_add, nl_sub, ln_mul, nI_sub, nI_mul, nI_add, nI_lt_iff, nI_le_iff, nI_inj, nI_num, mq_ix, nI_1, nl_mul, nl_div, hkk, narrow_b0, on1]
theorem q_isPk (h : xm x ms) (hy : y.2.1.2.1.2 = pk_) {e p : Nat} (hi : Io ms e) (h5 : cbS ms e = 5) (hp : cbNm ms ty_ (some e) = some p) (h3 : cbS ms p = 3) : mj_V (d + 5) 312 [.ref 67, .int (nI e)] (mm B x y) = some (some (.int (on1 (oT ms pk_ (cbNm ms ty_ (some e))))), mm B x y) := by
  have hle := h.1.le
  have rn := q_namM (d := d) (B := B) (x := x) (y := y) h nn_ty hi h5
  rw [hp] at rn ⊢
  have hip : Io ms p := hi.mem hp
  have ok := hip.ok
  have hk := (cbOk_hd.mp ok).1
  have r2 := q_numberAt (d := d + 2) (B := B) (x := x) (y := y) h hk.1 hk.2.2.2.1
  have hV := hk.2.2.2.2.2.1
  simp only [oP, oT] at rn ⊢
  by_cases hv : cbV ms p = 10
  · have hin := (cbOk_hd.mp ok).2 (Or.inr h3)
    rw [hv] at hin
    have r := l_isPk (d := d + 2) (B := B) (x := x) (y := y) h hy hk.1 hin 10 0 (by omega)
    have e : cbTx ms pk_ p = decide ((ms.drop (cbC ms p + 0)).take 10 = pk_.drop 0) := by
      unfold cbTx
      rw [show pk_.length = 10 from rfl]
      simp [S_bx_mcan1_0, S_b8_mkey_1, S_b8_mkey_0, S_b1_mterm_0, S_b1_copy_0, S_b0_mod_7, S_b0_mod_6, S_b0_mod_5, S_b0_mod_3, S_b0_mod_2, S_b0_mod_1, S_b0_mod_0, S_bx_mcan1_1h, S_b0_mod_4h, h3, hv]
    rw [e]
    rw [hv] at r2
    rw [nI_0] at r
    generalize decide ((ms.drop (cbC ms p + 0)).take 10 = pk_.drop 0) = res at *
    simp (disch := (first | omega | decide)) [S_bx_mcan1_0, S_b8_mkey_1, S_b8_mkey_0, S_b1_mterm_0, S_b1_copy_0, S_b0_mod_7, S_b0_mod_6, S_b0_mod_5, S_b0_mod_3, S_b0_mod_2, S_b0_mod_1, S_b0_mod_0, S_bx_mcan1_1h, S_b0_mod_4h, c312, s312_0, s312_1, s312_2, s312_5, s312_8, s312_9, s312_10, s312_11, s312_14, s312_16, s312_19, s312_20, s312_23, s312_24, s312_25, s312_26, s312_30, s312_32, s312_35, s312_36, s312_39, s312_40, s312_43, s312_44, s312_45, s312_48, s312_50, s312_51, s312_52, s312_53, s312_56, s312_58, s312_59, s312_62, s312_63, s312_66, s312_67, s312_68, s312_71, s312_74, s312_75, mq_k0s, mq_k1s, mq_k2s, mq_k4s, mq_k5s, mq_k5n, mq_k5as, mq_k6s, mj_pu, mj_lo, mj_br, mj_hr, mj_hw, mq_gf, mq_len, mq_al, mq_pf, mq_ok, mj_re, mq_lkm, mq_lkn, mj_ldi, mj_ldl, mj_lda, mj_ii, mj_ll, mj_li, mj_i1, ms_1, ms_2, f1_n, f1_i, f1_r, f1_u, f1_l, f2_n, f2_i, f2_r, f2_u, f2_l, mj_tg, mj_c1, mj_c2, mj_ar, mj_aw, mq_cb, mq_oi, mj_rm, Value.category, -getElem?_pos, List.getElem?_cons_zero, decide_eq_true, decide_eq_false, nl_lt, nl_le, ln_lt, ln_le, nl_eq, ln_eq, nl_add, ln_add, nl_sub, ln_mul, nI_sub, nI_mul, nI_add, nI_lt_iff, nI_le_iff, nI_inj, nI_num, mq_ix, nI_1, nl_mul, nl_div, rn, r2]
    refine mq_wk ?_ r
    simp [S_bx_mcan1_0, S_b8_mkey_1, S_b8_mkey_0, S_b1_mterm_0, S_b1_copy_0, S_b0_mod_7, S_b0_mod_6, S_b0_mod_5, S_b0_mod_3, S_b0_mod_2, S_b0_mod_1, S_b0_mod_0, S_bx_mcan1_1h, S_b0_mod_4h, mq_sub, mj_lk]
  · have e : cbTx ms pk_ p = false := by
      unfold cbTx
      rw [show pk_.length = 10 from rfl, decide_eq_false hv]
      simp [S_bx_mcan1_0, S_b8_mkey_1, S_b8_mkey_0, S_b1_mterm_0, S_b1_copy_0, S_b0_mod_7, S_b0_mod_6, S_b0_mod_5, S_b0_mod_3, S_b0_mod_2, S_b0_mod_1, S_b0_mod_0, S_bx_mcan1_1h, S_b0_mod_4h]
    rw [e]
    simp (disch := (first | omega | decide)) [S_bx_mcan1_0, S_b8_mkey_1, S_b8_mkey_0, S_b1_mterm_0, S_b1_copy_0, S_b0_mod_7, S_b0_mod_6, S_b0_mod_5, S_b0_mod_3, S_b0_mod_2, S_b0_mod_1, S_b0_mod_0, S_bx_mcan1_1h, S_b0_mod_4h, c312, s312_0, s312_1, s312_2, s312_5, s312_8, s312_9, s312_10, s312_11, s312_14, s312_16, s312_19, s312_20, s312_23, s312_24, s312_25, s312_26, s312_30, s312_32, s312_35, s312_36, s312_39, s312_40, s312_43, s312_44, s312_45, s312_48, s312_50, s312_51, s312_52, s312_53, s312_56, s312_58, s312_59, s312_62, s312_63, s312_66, s312_67, s312_68, s312_71, s312_74, s312_75, mq_k0s, mq_k1s, mq_k2s, mq_k4s, mq_k5s, mq_k5n, mq_k5as, mq_k6s, mj_pu, mj_lo, mj_br, mj_hr, mj_hw, mq_gf, mq_len, mq_al, mq_pf, mq_ok, mj_re, mq_lkm, mq_lkn, mj_ldi, mj_ldl, mj_lda, mj_ii, mj_ll, mj_li, mj_i1, ms_1, ms_2, f1_n, f1_i, f1_r, f1_u, f1_l, f2_n, f2_i, f2_r, f2_u, f2_l, mj_tg, mj_c1, mj_c2, mj_ar, mj_aw, mq_cb, mq_oi, mj_rm, Value.category, -getElem?_pos, List.getElem?_cons_zero, decide_eq_true, decide_eq_false, nl_lt, nl_le, ln_lt, ln_le, nl_eq, ln_eq, nl_add, ln_add, nl_sub, ln_mul, nI_sub, nI_mul, nI_add, nI_lt_iff, nI_le_iff, nI_inj, nI_num, mq_ix, nI_1, nl_mul, nl_div, rn, r2, hv]
    rw [s312_28]
    simp (disch := (first | omega | decide)) [S_bx_mcan1_0, S_b8_mkey_1, S_b8_mkey_0, S_b1_mterm_0, S_b1_copy_0, S_b0_mod_7, S_b0_mod_6, S_b0_mod_5, S_b0_mod_3, S_b0_mod_2, S_b0_mod_1, S_b0_mod_0, S_bx_mcan1_1h, S_b0_mod_4h, s312_0, s312_1, s312_2, s312_5, s312_8, s312_9, s312_10, s312_11, s312_14, s312_16, s312_19, s312_20, s312_23, s312_24, s312_25, s312_26, s312_30, s312_32, s312_35, s312_36, s312_39, s312_40, s312_43, s312_44, s312_45, s312_48, s312_50, s312_51, s312_52, s312_53, s312_56, s312_58, s312_59, s312_62, s312_63, s312_66, s312_67, s312_68, s312_71, s312_74, s312_75, mq_k0s, mq_k1s, mq_k2s, mq_k4s, mq_k5s, mq_k5n, mq_k5as, mq_k6s, mj_pu, mj_lo, mj_br, mj_hr, mj_hw, mq_gf, mq_len, mq_al, mq_pf, mq_ok, mj_re, mq_lkm, mq_lkn, mj_ldi, mj_ldl, mj_lda, mj_ii, mj_ll, mj_li, mj_i1, ms_1, ms_2, f1_n, f1_i, f1_r, f1_u, f1_l, f2_n, f2_i, f2_r, f2_u, f2_l, mj_tg, mj_c1, mj_c2, mj_ar, mj_aw, mq_cb, mq_oi, mj_rm, Value.category, -getElem?_pos, List.getElem?_cons_zero, decide_eq_true, decide_eq_false, nl_lt, nl_le, ln_lt, ln_le, nl_eq, ln_eq, nl_add, ln_add, nl_sub, ln_mul, nI_sub, nI_mul, nI_add, nI_lt_iff, nI_le_iff, nI_inj, nI_num, mq_ix, nI_1, nl_mul, nl_div, narrow_b0, on1]
theorem sim_b {p v : Nat} (ok : cbOk ms p) (hv : v = 20 ∨ v = 21) : oSim ms v (some p) = decide (cbB ms p = 224 + v) := by
  unfold oSim
  dsimp only
  rw [← Bool.decide_and]
  apply decide_eq_decide.mpr
  have hk := (cbOk_hd.mp ok).1.2.2.2.2.1
  have hS : cbS ms p = cbB ms p / 32 := rfl
  have hX : cbX ms p = cbB ms p % 32 := rfl
  have hV : cbX ms p < 24 → cbV ms p = cbX ms p := fun z => by unfold cbV; rw [if_pos z]
  constructor
  · rintro ⟨a, b⟩
    by_cases z : cbX ms p < 24
    · have := hV z; omega
    · omega
  · intro a
    have := hV (by omega)
    omega
theorem q_isTrue (h : xm x ms) {name : Int32} {t : List Int32} (hT : Nn name t) {o : Option Nat} (ho : oJ ms o) (h5 : ∀ p, o = some p → cbS ms p = 5) : mj_V (d + 5) 318 [.ref 67, .int (oP o), .int name] (mm B x y) = some (some (.int (on1 (oSim ms 21 (cbNm ms t o)))), mm B x y) := by
  have hl : x.2.1.1.1.2.2.length = 640 := by obtain ⟨g, -, hl⟩ := h.1; exact hl
  cases o with
  | none => rw [show cbNm ms t none = none from rfl]; simp only [oP, oSim]; simp (disch := (first | omega | decide)) [S_bx_mcan1_0, S_b8_mkey_1, S_b8_mkey_0, S_b1_mterm_0, S_b1_copy_0, S_b0_mod_7, S_b0_mod_6, S_b0_mod_5, S_b0_mod_3, S_b0_mod_2, S_b0_mod_1, S_b0_mod_0, S_bx_mcan1_1h, S_b0_mod_4h, c318, s318_0, s318_1, s318_2, s318_5, s318_6, s318_9, s318_10, s318_11, s318_12, s318_15, s318_16, s318_17, s318_18, s318_21, s318_22, s318_25, s318_26, s318_27, s318_30, s318_33, s318_34, s318_37, s318_38, mq_k0s, mq_k1s, mq_k2s, mq_k4s, mq_k5s, mq_k5n, mq_k5as, mq_k6s, mj_pu, mj_lo, mj_br, mj_hr, mj_hw, mq_gf, mq_len, mq_al, mq_pf, mq_ok, mj_re, mq_lkm, mq_lkn, mj_ldi, mj_ldl, mj_lda, mj_ii, mj_ll, mj_li, mj_i1, ms_1, ms_2, f1_n, f1_i, f1_r, f1_u, f1_l, f2_n, f2_i, f2_r, f2_u, f2_l, mj_tg, mj_c1, mj_c2, mj_ar, mj_aw, mq_cb, mq_oi, mj_rm, Value.category, -getElem?_pos, List.getElem?_cons_zero, decide_eq_true, decide_eq_false, nl_lt, nl_le, ln_lt, ln_le, nl_eq, ln_eq, nl_add, ln_add, nl_sub, ln_mul, nI_sub, nI_mul, nI_add, nI_lt_iff, nI_le_iff, nI_inj, nI_num, mq_ix, nI_1, nl_mul, nl_div, narrow_b0, on1]
  | some p =>
    have hi := ho p rfl
    have rn := q_namM (d := d) (B := B) (x := x) (y := y) h hT hi (h5 p rfl)
    have hp9 := Io.l9 h hi
    have hq : oJ ms (cbNm ms t (some p)) := oJ.mem ho
    generalize cbNm ms t (some p) = o2 at *
    cases o2 with
    | none => simp only [oP, oSim] at rn ⊢; simp (disch := (first | omega | decide)) [S_bx_mcan1_0, S_b8_mkey_1, S_b8_mkey_0, S_b1_mterm_0, S_b1_copy_0, S_b0_mod_7, S_b0_mod_6, S_b0_mod_5, S_b0_mod_3, S_b0_mod_2, S_b0_mod_1, S_b0_mod_0, S_bx_mcan1_1h, S_b0_mod_4h, c318, s318_0, s318_1, s318_2, s318_5, s318_6, s318_9, s318_10, s318_11, s318_12, s318_15, s318_16, s318_17, s318_18, s318_21, s318_22, s318_25, s318_26, s318_27, s318_30, s318_33, s318_34, s318_37, s318_38, mq_k0s, mq_k1s, mq_k2s, mq_k4s, mq_k5s, mq_k5n, mq_k5as, mq_k6s, mj_pu, mj_lo, mj_br, mj_hr, mj_hw, mq_gf, mq_len, mq_al, mq_pf, mq_ok, mj_re, mq_lkm, mq_lkn, mj_ldi, mj_ldl, mj_lda, mj_ii, mj_ll, mj_li, mj_i1, ms_1, ms_2, f1_n, f1_i, f1_r, f1_u, f1_l, f2_n, f2_i, f2_r, f2_u, f2_l, mj_tg, mj_c1, mj_c2, mj_ar, mj_aw, mq_cb, mq_oi, mj_rm, Value.category, -getElem?_pos, List.getElem?_cons_zero, decide_eq_true, decide_eq_false, nl_lt, nl_le, ln_lt, ln_le, nl_eq, ln_eq, nl_add, ln_add, nl_sub, ln_mul, nI_sub, nI_mul, nI_add, nI_lt_iff, nI_le_iff, nI_inj, nI_num, mq_ix, nI_1, nl_mul, nl_div, rn, hp9.2, narrow_b0, on1]
    | some v =>
      have hv := hq v rfl
      have hv9 := Io.l9 h hv
      obtain ⟨g, gb⟩ := h.at hv.ok.1
      rw [sim_b hv.ok (by omega)]
      simp only [oP] at rn ⊢
      by_cases hc : cbB ms v = 245
      · rw [hc] at g
        simp (disch := (first | omega | decide)) [S_bx_mcan1_0, S_b8_mkey_1, S_b8_mkey_0, S_b1_mterm_0, S_b1_copy_0, S_b0_mod_7, S_b0_mod_6, S_b0_mod_5, S_b0_mod_3, S_b0_mod_2, S_b0_mod_1, S_b0_mod_0, S_bx_mcan1_1h, S_b0_mod_4h, c318, s318_0, s318_1, s318_2, s318_5, s318_6, s318_9, s318_10, s318_11, s318_12, s318_15, s318_16, s318_17, s318_18, s318_21, s318_22, s318_25, s318_26, s318_27, s318_30, s318_33, s318_34, s318_37, s318_38, mq_k0s, mq_k1s, mq_k2s, mq_k4s, mq_k5s, mq_k5n, mq_k5as, mq_k6s, mj_pu, mj_lo, mj_br, mj_hr, mj_hw, mq_gf, mq_len, mq_al, mq_pf, mq_ok, mj_re, mq_lkm, mq_lkn, mj_ldi, mj_ldl, mj_lda, mj_ii, mj_ll, mj_li, mj_i1, ms_1, ms_2, f1_n, f1_i, f1_r, f1_u, f1_l, f2_n, f2_i, f2_r, f2_u, f2_l, mj_tg, mj_c1, mj_c2, mj_ar, mj_aw, mq_cb, mq_oi, mj_rm, Value.category, -getElem?_pos, List.getElem?_cons_zero, decide_eq_true, decide_eq_false, nl_lt, nl_le, ln_lt, ln_le, nl_eq, ln_eq, nl_add, ln_add, nl_sub, ln_mul, nI_sub, nI_mul, nI_add, nI_lt_iff, nI_le_iff, nI_inj, nI_num, mq_ix, nI_1, nl_mul, nl_div, rn, g, hl, hp9.2, hv9.2, hc, narrow_b1, on1]
      · simp (disch := (first | omega | decide)) [S_bx_mcan1_0, S_b8_mkey_1, S_b8_mkey_0, S_b1_mterm_0, S_b1_copy_0, S_b0_mod_7, S_b0_mod_6, S_b0_mod_5, S_b0_mod_3, S_b0_mod_2, S_b0_mod_1, S_b0_mod_0, S_bx_mcan1_1h, S_b0_mod_4h, c318, s318_0, s318_1, s318_2, s318_5, s318_6, s318_9, s318_10, s318_11, s318_12, s318_15, s318_16, s318_17, s318_18, s318_21, s318_22, s318_25, s318_26, s318_27, s318_30, s318_33, s318_34, s318_37, s318_38, mq_k0s, mq_k1s, mq_k2s, mq_k4s, mq_k5s, mq_k5n, mq_k5as, mq_k6s, mj_pu, mj_lo, mj_br, mj_hr, mj_hw, mq_gf, mq_len, mq_al, mq_pf, mq_ok, mj_re, mq_lkm, mq_lkn, mj_ldi, mj_ldl, mj_lda, mj_ii, mj_ll, mj_li, mj_i1, ms_1, ms_2, f1_n, f1_i, f1_r, f1_u, f1_l, f2_n, f2_i, f2_r, f2_u, f2_l, mj_tg, mj_c1, mj_c2, mj_ar, mj_aw, mq_cb, mq_oi, mj_rm, Value.category, -getElem?_pos, List.getElem?_cons_zero, decide_eq_true, decide_eq_false, nl_lt, nl_le, ln_lt, ln_le, nl_eq, ln_eq, nl_add, ln_add, nl_sub, ln_mul, nI_sub, nI_mul, nI_add, nI_lt_iff, nI_le_iff, nI_inj, nI_num, mq_ix, nI_1, nl_mul, nl_div, rn, g, hl, hp9.2, hv9.2, hc, narrow_b0, on1]
theorem q_isFalse (h : xm x ms) {name : Int32} {t : List Int32} (hT : Nn name t) {o : Option Nat} (ho : oJ ms o) (h5 : ∀ p, o = some p → cbS ms p = 5) : mj_V (d + 5) 323 [.ref 67, .int (oP o), .int name] (mm B x y) = some (some (.int (on1 (oSim ms 20 (cbNm ms t o)))), mm B x y) := by
  have hl : x.2.1.1.1.2.2.length = 640 := by obtain ⟨g, -, hl⟩ := h.1; exact hl
  cases o with
  | none => rw [show cbNm ms t none = none from rfl]; simp only [oP, oSim]; simp (disch := (first | omega | decide)) [S_bx_mcan1_0, S_b8_mkey_1, S_b8_mkey_0, S_b1_mterm_0, S_b1_copy_0, S_b0_mod_7, S_b0_mod_6, S_b0_mod_5, S_b0_mod_3, S_b0_mod_2, S_b0_mod_1, S_b0_mod_0, S_bx_mcan1_1h, S_b0_mod_4h, c323, s323_0, s323_1, s323_2, s323_5, s323_6, s323_9, s323_10, s323_11, s323_12, s323_15, s323_16, s323_17, s323_18, s323_21, s323_22, s323_25, s323_26, s323_27, s323_30, s323_33, s323_34, s323_37, s323_38, mq_k0s, mq_k1s, mq_k2s, mq_k4s, mq_k5s, mq_k5n, mq_k5as, mq_k6s, mj_pu, mj_lo, mj_br, mj_hr, mj_hw, mq_gf, mq_len, mq_al, mq_pf, mq_ok, mj_re, mq_lkm, mq_lkn, mj_ldi, mj_ldl, mj_lda, mj_ii, mj_ll, mj_li, mj_i1, ms_1, ms_2, f1_n, f1_i, f1_r, f1_u, f1_l, f2_n, f2_i, f2_r, f2_u, f2_l, mj_tg, mj_c1, mj_c2, mj_ar, mj_aw, mq_cb, mq_oi, mj_rm, Value.category, -getElem?_pos, List.getElem?_cons_zero, decide_eq_true, decide_eq_false, nl_lt, nl_le, ln_lt, ln_le, nl_eq, ln_eq, nl_add, ln_add, nl_sub, ln_mul, nI_sub, nI_mul, nI_add, nI_lt_iff, nI_le_iff, nI_inj, nI_num, mq_ix, nI_1, nl_mul, nl_div, narrow_b0, on1]
  | some p =>
    have hi := ho p rfl
    have rn := q_namM (d := d) (B := B) (x := x) (y := y) h hT hi (h5 p rfl)
    have hp9 := Io.l9 h hi
    have hq : oJ ms (cbNm ms t (some p)) := oJ.mem ho
    generalize cbNm ms t (some p) = o2 at *
    cases o2 with
    | none => simp only [oP, oSim] at rn ⊢; simp (disch := (first | omega | decide)) [S_bx_mcan1_0, S_b8_mkey_1, S_b8_mkey_0, S_b1_mterm_0, S_b1_copy_0, S_b0_mod_7, S_b0_mod_6, S_b0_mod_5, S_b0_mod_3, S_b0_mod_2, S_b0_mod_1, S_b0_mod_0, S_bx_mcan1_1h, S_b0_mod_4h, c323, s323_0, s323_1, s323_2, s323_5, s323_6, s323_9, s323_10, s323_11, s323_12, s323_15, s323_16, s323_17, s323_18, s323_21, s323_22, s323_25, s323_26, s323_27, s323_30, s323_33, s323_34, s323_37, s323_38, mq_k0s, mq_k1s, mq_k2s, mq_k4s, mq_k5s, mq_k5n, mq_k5as, mq_k6s, mj_pu, mj_lo, mj_br, mj_hr, mj_hw, mq_gf, mq_len, mq_al, mq_pf, mq_ok, mj_re, mq_lkm, mq_lkn, mj_ldi, mj_ldl, mj_lda, mj_ii, mj_ll, mj_li, mj_i1, ms_1, ms_2, f1_n, f1_i, f1_r, f1_u, f1_l, f2_n, f2_i, f2_r, f2_u, f2_l, mj_tg, mj_c1, mj_c2, mj_ar, mj_aw, mq_cb, mq_oi, mj_rm, Value.category, -getElem?_pos, List.getElem?_cons_zero, decide_eq_true, decide_eq_false, nl_lt, nl_le, ln_lt, ln_le, nl_eq, ln_eq, nl_add, ln_add, nl_sub, ln_mul, nI_sub, nI_mul, nI_add, nI_lt_iff, nI_le_iff, nI_inj, nI_num, mq_ix, nI_1, nl_mul, nl_div, rn, hp9.2, narrow_b0, on1]
    | some v =>
      have hv := hq v rfl
      have hv9 := Io.l9 h hv
      obtain ⟨g, gb⟩ := h.at hv.ok.1
      rw [sim_b hv.ok (by omega)]
      simp only [oP] at rn ⊢
      by_cases hc : cbB ms v = 244
      · rw [hc] at g
        simp (disch := (first | omega | decide)) [S_bx_mcan1_0, S_b8_mkey_1, S_b8_mkey_0, S_b1_mterm_0, S_b1_copy_0, S_b0_mod_7, S_b0_mod_6, S_b0_mod_5, S_b0_mod_3, S_b0_mod_2, S_b0_mod_1, S_b0_mod_0, S_bx_mcan1_1h, S_b0_mod_4h, c323, s323_0, s323_1, s323_2, s323_5, s323_6, s323_9, s323_10, s323_11, s323_12, s323_15, s323_16, s323_17, s323_18, s323_21, s323_22, s323_25, s323_26, s323_27, s323_30, s323_33, s323_34, s323_37, s323_38, mq_k0s, mq_k1s, mq_k2s, mq_k4s, mq_k5s, mq_k5n, mq_k5as, mq_k6s, mj_pu, mj_lo, mj_br, mj_hr, mj_hw, mq_gf, mq_len, mq_al, mq_pf, mq_ok, mj_re, mq_lkm, mq_lkn, mj_ldi, mj_ldl, mj_lda, mj_ii, mj_ll, mj_li, mj_i1, ms_1, ms_2, f1_n, f1_i, f1_r, f1_u, f1_l, f2_n, f2_i, f2_r, f2_u, f2_l, mj_tg, mj_c1, mj_c2, mj_ar, mj_aw, mq_cb, mq_oi, mj_rm, Value.category, -getElem?_pos, List.getElem?_cons_zero, decide_eq_true, decide_eq_false, nl_lt, nl_le, ln_lt, ln_le, nl_eq, ln_eq, nl_add, ln_add, nl_sub, ln_mul, nI_sub, nI_mul, nI_add, nI_lt_iff, nI_le_iff, nI_inj, nI_num, mq_ix, nI_1, nl_mul, nl_div, rn, g, hl, hp9.2, hv9.2, hc, narrow_b1, on1]
      · simp (disch := (first | omega | decide)) [S_bx_mcan1_0, S_b8_mkey_1, S_b8_mkey_0, S_b1_mterm_0, S_b1_copy_0, S_b0_mod_7, S_b0_mod_6, S_b0_mod_5, S_b0_mod_3, S_b0_mod_2, S_b0_mod_1, S_b0_mod_0, S_bx_mcan1_1h, S_b0_mod_4h, c323, s323_0, s323_1, s323_2, s323_5, s323_6, s323_9, s323_10, s323_11, s323_12, s323_15, s323_16, s323_17, s323_18, s323_21, s323_22, s323_25, s323_26, s323_27, s323_30, s323_33, s323_34, s323_37, s323_38, mq_k0s, mq_k1s, mq_k2s, mq_k4s, mq_k5s, mq_k5n, mq_k5as, mq_k6s, mj_pu, mj_lo, mj_br, mj_hr, mj_hw, mq_gf, mq_len, mq_al, mq_pf, mq_ok, mj_re, mq_lkm, mq_lkn, mj_ldi, mj_ldl, mj_lda, mj_ii, mj_ll, mj_li, mj_i1, ms_1, ms_2, f1_n, f1_i, f1_r, f1_u, f1_l, f2_n, f2_i, f2_r, f2_u, f2_l, mj_tg, mj_c1, mj_c2, mj_ar, mj_aw, mq_cb, mq_oi, mj_rm, Value.category, -getElem?_pos, List.getElem?_cons_zero, decide_eq_true, decide_eq_false, nl_lt, nl_le, ln_lt, ln_le, nl_eq, ln_eq, nl_add, ln_add, nl_sub, ln_mul, nI_sub, nI_mul, nI_add, nI_lt_iff, nI_le_iff, nI_inj, nI_num, mq_ix, nI_1, nl_mul, nl_div, rn, g, hl, hp9.2, hv9.2, hc, narrow_b0, on1]
theorem q_isLong (h : xm x ms) {p m : Nat} (hi : Io ms p) (hm : m < 640) : mj_V (d + 3) 309 [.ref 67, .int (nI p), .int 1, .int (nI m)] (mm B x y) = some (some (.int (on1 (decide (1 ≤ cbV ms p ∧ cbV ms p ≤ m)))), mm B x y) := by
  have ok := hi.ok
  have hk := (cbOk_hd.mp ok).1
  have hV := hk.2.2.2.2.2.1
  have r2 := q_numberAt (d := d) (B := B) (x := x) (y := y) h hk.1 hk.2.2.2.1
  generalize cbV ms p = v at *
  by_cases h1 : 1 ≤ v
  · by_cases h2 : v ≤ m
    · rw [decide_eq_true ⟨h1, h2⟩]
      simp (disch := (first | omega | decide)) [S_bx_mcan1_0, S_b8_mkey_1, S_b8_mkey_0, S_b1_mterm_0, S_b1_copy_0, S_b0_mod_7, S_b0_mod_6, S_b0_mod_5, S_b0_mod_3, S_b0_mod_2, S_b0_mod_1, S_b0_mod_0, S_bx_mcan1_1h, S_b0_mod_4h, c309, s309_0, s309_1, s309_2, s309_5, s309_6, s309_9, s309_10, s309_11, s309_14, s309_15, s309_18, s309_19, s309_22, s309_23, mq_k0s, mq_k1s, mq_k2s, mq_k4s, mq_k5s, mq_k5n, mq_k5as, mq_k6s, mj_pu, mj_lo, mj_br, mj_hr, mj_hw, mq_gf, mq_len, mq_al, mq_pf, mq_ok, mj_re, mq_lkm, mq_lkn, mj_ldi, mj_ldl, mj_lda, mj_ii, mj_ll, mj_li, mj_i1, ms_1, ms_2, f1_n, f1_i, f1_r, f1_u, f1_l, f2_n, f2_i, f2_r, f2_u, f2_l, mj_tg, mj_c1, mj_c2, mj_ar, mj_aw, mq_cb, mq_oi, mj_rm, Value.category, -getElem?_pos, List.getElem?_cons_zero, decide_eq_true, decide_eq_false, nl_lt, nl_le, ln_lt, ln_le, nl_eq, ln_eq, nl_add, ln_add, nl_sub, ln_mul, nI_sub, nI_mul, nI_add, nI_lt_iff, nI_le_iff, nI_inj, nI_num, mq_ix, nI_1, nl_mul, nl_div, r2, h1, h2, show ¬ v < 1 by omega, show ¬ m < v by omega, narrow_b1, on1]
    · rw [decide_eq_false (fun z => h2 z.2)]
      simp (disch := (first | omega | decide)) [S_bx_mcan1_0, S_b8_mkey_1, S_b8_mkey_0, S_b1_mterm_0, S_b1_copy_0, S_b0_mod_7, S_b0_mod_6, S_b0_mod_5, S_b0_mod_3, S_b0_mod_2, S_b0_mod_1, S_b0_mod_0, S_bx_mcan1_1h, S_b0_mod_4h, c309, s309_0, s309_1, s309_2, s309_5, s309_6, s309_9, s309_10, s309_11, s309_14, s309_15, s309_18, s309_19, s309_22, s309_23, mq_k0s, mq_k1s, mq_k2s, mq_k4s, mq_k5s, mq_k5n, mq_k5as, mq_k6s, mj_pu, mj_lo, mj_br, mj_hr, mj_hw, mq_gf, mq_len, mq_al, mq_pf, mq_ok, mj_re, mq_lkm, mq_lkn, mj_ldi, mj_ldl, mj_lda, mj_ii, mj_ll, mj_li, mj_i1, ms_1, ms_2, f1_n, f1_i, f1_r, f1_u, f1_l, f2_n, f2_i, f2_r, f2_u, f2_l, mj_tg, mj_c1, mj_c2, mj_ar, mj_aw, mq_cb, mq_oi, mj_rm, Value.category, -getElem?_pos, List.getElem?_cons_zero, decide_eq_true, decide_eq_false, nl_lt, nl_le, ln_lt, ln_le, nl_eq, ln_eq, nl_add, ln_add, nl_sub, ln_mul, nI_sub, nI_mul, nI_add, nI_lt_iff, nI_le_iff, nI_inj, nI_num, mq_ix, nI_1, nl_mul, nl_div, r2, h1, h2, show ¬ v < 1 by omega, show m < v by omega, narrow_b0, on1]
  · rw [decide_eq_false (fun z => h1 z.1)]
    simp (disch := (first | omega | decide)) [S_bx_mcan1_0, S_b8_mkey_1, S_b8_mkey_0, S_b1_mterm_0, S_b1_copy_0, S_b0_mod_7, S_b0_mod_6, S_b0_mod_5, S_b0_mod_3, S_b0_mod_2, S_b0_mod_1, S_b0_mod_0, S_bx_mcan1_1h, S_b0_mod_4h, c309, s309_0, s309_1, s309_2, s309_5, s309_6, s309_9, s309_10, s309_11, s309_14, s309_15, s309_18, s309_19, s309_22, s309_23, mq_k0s, mq_k1s, mq_k2s, mq_k4s, mq_k5s, mq_k5n, mq_k5as, mq_k6s, mj_pu, mj_lo, mj_br, mj_hr, mj_hw, mq_gf, mq_len, mq_al, mq_pf, mq_ok, mj_re, mq_lkm, mq_lkn, mj_ldi, mj_ldl, mj_lda, mj_ii, mj_ll, mj_li, mj_i1, ms_1, ms_2, f1_n, f1_i, f1_r, f1_u, f1_l, f2_n, f2_i, f2_r, f2_u, f2_l, mj_tg, mj_c1, mj_c2, mj_ar, mj_aw, mq_cb, mq_oi, mj_rm, Value.category, -getElem?_pos, List.getElem?_cons_zero, decide_eq_true, decide_eq_false, nl_lt, nl_le, ln_lt, ln_le, nl_eq, ln_eq, nl_add, ln_add, nl_sub, ln_mul, nI_sub, nI_mul, nI_add, nI_lt_iff, nI_le_iff, nI_inj, nI_num, mq_ix, nI_1, nl_mul, nl_div, r2, h1, show v < 1 by omega, show v = 0 by omega, narrow_b0, on1, nI_0]
end
end
/- c4.mheld -/
section
set_option maxRecDepth 512
/-! The model: hashes of items; what a key holds. -/
/- 310 PasskeyHouseModel.hashOfItem(IZ)I -/
theorem s310_0 {d : Nat} {ls : mj_L} {st : List Value} {M : mj_H} : mj_Rn d mj_m310 0 ls st M = mq_k0 d mj_m310 1 ls M (mj_lda (mj_lk ls 0) st) := mj_R0 (r := (.aload_n 0, 1, 0, 0, 0)) rfl rfl
theorem s310_1 {d : Nat} {ls : mj_L} {st : List Value} {M : mj_H} : mj_Rn d mj_m310 1 ls st M = mj_Rn d mj_m310 3 ls (.int 7 :: st) M := mj_R0 (r := (.bipush 7, 2, 0, 0, 0)) rfl rfl
theorem s310_3 {d : Nat} {ls : mj_L} {st : List Value} {M : mj_H} : mj_Rn (d + 1) mj_m310 3 ls st M = mq_k5a (d + 1) mj_m310 6 ls M 242 (mq_cb 0 1 11 st M) := mj_R5e (r := (.invokevirtual 279, 3, 0, 242, 32824)) (z := mj_m242) rfl rfl (by decide) (by decide) rfl
theorem s310_6 {d : Nat} {ls : mj_L} {st : List Value} {M : mj_H} : mj_Rn d mj_m310 6 ls st M = mq_k0 d mj_m310 7 ls M (mj_lda (mj_lk ls 0) st) := mj_R0 (r := (.aload_n 0, 1, 0, 0, 0)) rfl rfl
theorem s310_7 {d : Nat} {ls : mj_L} {st : List Value} {M : mj_H} : mj_Rn d mj_m310 7 ls st M = mq_k0 d mj_m310 8 ls M (mj_lda (mj_lk ls 0) st) := mj_R0 (r := (.aload_n 0, 1, 0, 0, 0)) rfl rfl
theorem s310_8 {d : Nat} {ls : mj_L} {st : List Value} {M : mj_H} : mj_Rn d mj_m310 8 ls st M = mq_k0 d mj_m310 11 ls M (mq_gf 11 46 st M) := (mj_R3 (r := (.getfield 127, 3, 11, 46, 57400)) rfl rfl).trans (congrArg (mq_k0 d mj_m310 11 ls M) mq_gf_eq)
theorem s310_11 {d : Nat} {ls : mj_L} {st : List Value} {M : mj_H} : mj_Rn d mj_m310 11 ls st M = mq_k0 d mj_m310 12 ls M (mj_lda (mj_lk ls 0) st) := mj_R0 (r := (.aload_n 0, 1, 0, 0, 0)) rfl rfl
theorem s310_12 {d : Nat} {ls : mj_L} {st : List Value} {M : mj_H} : mj_Rn d mj_m310 12 ls st M = mq_k0 d mj_m310 13 ls M (mj_ldi (mj_lk ls 1) st) := mj_R0 (r := (.iload_n 1, 1, 0, 0, 0)) rfl rfl
theorem s310_13 {d : Nat} {ls : mj_L} {st : List Value} {M : mj_H} : mj_Rn (d + 1) mj_m310 13 ls st M = mq_k5a (d + 1) mj_m310 16 ls M 295 (mq_cb 0 1 11 st M) := mj_R5e (r := (.invokevirtual 399, 3, 0, 295, 36888)) (z := mj_m295) rfl rfl (by decide) (by decide) rfl
theorem s310_16 {d : Nat} {ls : mj_L} {st : List Value} {M : mj_H} : mj_Rn d mj_m310 16 ls st M = mq_k0 d mj_m310 17 ls M (mj_lda (mj_lk ls 0) st) := mj_R0 (r := (.aload_n 0, 1, 0, 0, 0)) rfl rfl
theorem s310_17 {d : Nat} {ls : mj_L} {st : List Value} {M : mj_H} : mj_Rn d mj_m310 17 ls st M = mq_k0 d mj_m310 18 ls M (mj_ldi (mj_lk ls 1) st) := mj_R0 (r := (.iload_n 1, 1, 0, 0, 0)) rfl rfl
theorem s310_18 {d : Nat} {ls : mj_L} {st : List Value} {M : mj_H} : mj_Rn (d + 1) mj_m310 18 ls st M = mq_k5a (d + 1) mj_m310 21 ls M 297 (mq_cb 0 1 11 st M) := mj_R5e (r := (.invokevirtual 402, 3, 0, 297, 36895)) (z := mj_m297) rfl rfl (by decide) (by decide) rfl
theorem s310_21 {d : Nat} {ls : mj_L} {st : List Value} {M : mj_H} : mj_Rn (d + 1) mj_m310 21 ls st M = mq_k5a (d + 1) mj_m310 24 ls M 289 (mq_cb 0 3 11 st M) := mj_R5e (r := (.invokevirtual 447, 3, 0, 289, 33007)) (z := mj_m289) rfl rfl (by decide) (by decide) rfl
theorem s310_24 {d : Nat} {ls : mj_L} {st : List Value} {M : mj_H} : mj_Rn d mj_m310 24 ls st M = mq_k0 d mj_m310 25 ls M (mj_ldi (mj_lk ls 2) st) := mj_R0 (r := (.iload_n 2, 1, 0, 0, 0)) rfl rfl
theorem s310_25 {d : Nat} {ls : mj_L} {st : List Value} {M : mj_H} : mj_Rn d mj_m310 25 ls st M = mq_k2 d mj_m310 ls M (mj_br (.ifCond .eq 10) 25 st) := mj_R2 (r := (.ifCond .eq 10, 3, 0, 0, 0)) rfl rfl
theorem s310_28 {d : Nat} {ls : mj_L} {st : List Value} {M : mj_H} : mj_Rn d mj_m310 28 ls st M = mq_k0 d mj_m310 29 ls M (mj_lda (mj_lk ls 0) st) := mj_R0 (r := (.aload_n 0, 1, 0, 0, 0)) rfl rfl
theorem s310_29 {d : Nat} {ls : mj_L} {st : List Value} {M : mj_H} : mj_Rn (d + 1) mj_m310 29 ls st M = mq_k5a (d + 1) mj_m310 32 ls M 244 (mq_cb 0 0 11 st M) := mj_R5e (r := (.invokevirtual 285, 3, 0, 244, 32832)) (z := mj_m244) rfl rfl (by decide) (by decide) rfl
theorem s310_32 {d : Nat} {ls : mj_L} {st : List Value} {M : mj_H} : mj_Rn d mj_m310 32 ls st M = mj_Rn d mj_m310 39 ls st M := mj_R2 (r := (.goto 7, 3, 0, 0, 0)) rfl rfl
theorem s310_35 {d : Nat} {ls : mj_L} {st : List Value} {M : mj_H} : mj_Rn d mj_m310 35 ls st M = mq_k0 d mj_m310 36 ls M (mj_lda (mj_lk ls 0) st) := mj_R0 (r := (.aload_n 0, 1, 0, 0, 0)) rfl rfl
theorem s310_36 {d : Nat} {ls : mj_L} {st : List Value} {M : mj_H} : mj_Rn (d + 1) mj_m310 36 ls st M = mq_k5a (d + 1) mj_m310 39 ls M 245 (mq_cb 0 0 11 st M) := mj_R5e (r := (.invokevirtual 266, 3, 0, 245, 32836)) (z := mj_m245) rfl rfl (by decide) (by decide) rfl
theorem s310_39 {d : Nat} {ls : mj_L} {st : List Value} {M : mj_H} : mj_Rn d mj_m310 39 ls st M = mq_k6 M (mj_re (some .int) (.ireturn) st) := mj_R6 (r := (.ireturn, 1, 0, 0, 0)) rfl rfl
/- 314 PasskeyHouseModel.heldBy(III)I -/
theorem s314_0 {d : Nat} {ls : mj_L} {st : List Value} {M : mj_H} : mj_Rn d mj_m314 0 ls st M = mj_Rn d mj_m314 1 ls (.int 0 :: st) M := mj_R0 (r := (.iconst 0, 1, 0, 0, 0)) rfl rfl
theorem s314_1 {d : Nat} {ls : mj_L} {st : List Value} {M : mj_H} : mj_Rn d mj_m314 1 ls st M = mq_k1 d mj_m314 3 M (mj_lo 6 (.istore 4) ls st) := mj_R1 (r := (.istore 4, 2, 0, 0, 0)) rfl rfl
theorem s314_3 {d : Nat} {ls : mj_L} {st : List Value} {M : mj_H} : mj_Rn d mj_m314 3 ls st M = mq_k0 d mj_m314 5 ls M (mj_ldi (mj_lk ls 4) st) := mj_R0 (r := (.iload 4, 2, 0, 0, 0)) rfl rfl
theorem s314_5 {d : Nat} {ls : mj_L} {st : List Value} {M : mj_H} : mj_Rn d mj_m314 5 ls st M = mq_k0 d mj_m314 6 ls M (mj_lda (mj_lk ls 0) st) := mj_R0 (r := (.aload_n 0, 1, 0, 0, 0)) rfl rfl
theorem s314_6 {d : Nat} {ls : mj_L} {st : List Value} {M : mj_H} : mj_Rn d mj_m314 6 ls st M = mq_k0 d mj_m314 9 ls M (mq_gf 11 27 st M) := (mj_R3 (r := (.getfield 73, 3, 11, 27, 57362)) rfl rfl).trans (congrArg (mq_k0 d mj_m314 9 ls M) mq_gf_eq)
theorem s314_9 {d : Nat} {ls : mj_L} {st : List Value} {M : mj_H} : mj_Rn d mj_m314 9 ls st M = mq_k0 d mj_m314 10 ls M (mj_ldi (mj_lk ls 1) st) := mj_R0 (r := (.iload_n 1, 1, 0, 0, 0)) rfl rfl
theorem s314_10 {d : Nat} {ls : mj_L} {st : List Value} {M : mj_H} : mj_Rn d mj_m314 10 ls st M = mq_k0 d mj_m314 11 ls M (mq_al [1000] st M) := (mj_R3 (r := (.iaload, 1, 0, 0, 0)) rfl rfl).trans (congrArg (mq_k0 d mj_m314 11 ls M) mq_ali_eq)
theorem s314_11 {d : Nat} {ls : mj_L} {st : List Value} {M : mj_H} : mj_Rn d mj_m314 11 ls st M = mq_k2 d mj_m314 ls M (mj_br (.if_icmp .ge 43) 11 st) := mj_R2 (r := (.if_icmp .ge 43, 3, 0, 0, 0)) rfl rfl
theorem s314_14 {d : Nat} {ls : mj_L} {st : List Value} {M : mj_H} : mj_Rn d mj_m314 14 ls st M = mj_Rn d mj_m314 16 ls (.int 12 :: st) M := mj_R0 (r := (.bipush 12, 2, 0, 0, 0)) rfl rfl
theorem s314_16 {d : Nat} {ls : mj_L} {st : List Value} {M : mj_H} : mj_Rn d mj_m314 16 ls st M = mq_k0 d mj_m314 17 ls M (mj_ldi (mj_lk ls 1) st) := mj_R0 (r := (.iload_n 1, 1, 0, 0, 0)) rfl rfl
theorem s314_17 {d : Nat} {ls : mj_L} {st : List Value} {M : mj_H} : mj_Rn d mj_m314 17 ls st M = mq_k0 d mj_m314 18 ls M (mj_pu .imul ls st) := mj_R0 (r := (.imul, 1, 0, 0, 0)) rfl rfl
theorem s314_18 {d : Nat} {ls : mj_L} {st : List Value} {M : mj_H} : mj_Rn d mj_m314 18 ls st M = mq_k0 d mj_m314 20 ls M (mj_ldi (mj_lk ls 4) st) := mj_R0 (r := (.iload 4, 2, 0, 0, 0)) rfl rfl
theorem s314_20 {d : Nat} {ls : mj_L} {st : List Value} {M : mj_H} : mj_Rn d mj_m314 20 ls st M = mq_k0 d mj_m314 21 ls M (mj_pu .iadd ls st) := mj_R0 (r := (.iadd, 1, 0, 0, 0)) rfl rfl
theorem s314_21 {d : Nat} {ls : mj_L} {st : List Value} {M : mj_H} : mj_Rn d mj_m314 21 ls st M = mq_k1 d mj_m314 23 M (mj_lo 6 (.istore 5) ls st) := mj_R1 (r := (.istore 5, 2, 0, 0, 0)) rfl rfl
theorem s314_23 {d : Nat} {ls : mj_L} {st : List Value} {M : mj_H} : mj_Rn d mj_m314 23 ls st M = mq_k0 d mj_m314 24 ls M (mj_lda (mj_lk ls 0) st) := mj_R0 (r := (.aload_n 0, 1, 0, 0, 0)) rfl rfl
theorem s314_24 {d : Nat} {ls : mj_L} {st : List Value} {M : mj_H} : mj_Rn d mj_m314 24 ls st M = mq_k0 d mj_m314 27 ls M (mq_gf 11 28 st M) := (mj_R3 (r := (.getfield 76, 3, 11, 28, 57364)) rfl rfl).trans (congrArg (mq_k0 d mj_m314 27 ls M) mq_gf_eq)
theorem s314_27 {d : Nat} {ls : mj_L} {st : List Value} {M : mj_H} : mj_Rn d mj_m314 27 ls st M = mq_k0 d mj_m314 29 ls M (mj_ldi (mj_lk ls 5) st) := mj_R0 (r := (.iload 5, 2, 0, 0, 0)) rfl rfl
theorem s314_29 {d : Nat} {ls : mj_L} {st : List Value} {M : mj_H} : mj_Rn d mj_m314 29 ls st M = mq_k0 d mj_m314 30 ls M (mq_al [1000] st M) := (mj_R3 (r := (.iaload, 1, 0, 0, 0)) rfl rfl).trans (congrArg (mq_k0 d mj_m314 30 ls M) mq_ali_eq)
theorem s314_30 {d : Nat} {ls : mj_L} {st : List Value} {M : mj_H} : mj_Rn d mj_m314 30 ls st M = mq_k0 d mj_m314 31 ls M (mj_ldi (mj_lk ls 2) st) := mj_R0 (r := (.iload_n 2, 1, 0, 0, 0)) rfl rfl
theorem s314_31 {d : Nat} {ls : mj_L} {st : List Value} {M : mj_H} : mj_Rn d mj_m314 31 ls st M = mq_k2 d mj_m314 ls M (mj_br (.if_icmp .ne 17) 31 st) := mj_R2 (r := (.if_icmp .ne 17, 3, 0, 0, 0)) rfl rfl
theorem s314_34 {d : Nat} {ls : mj_L} {st : List Value} {M : mj_H} : mj_Rn d mj_m314 34 ls st M = mq_k0 d mj_m314 35 ls M (mj_lda (mj_lk ls 0) st) := mj_R0 (r := (.aload_n 0, 1, 0, 0, 0)) rfl rfl
theorem s314_35 {d : Nat} {ls : mj_L} {st : List Value} {M : mj_H} : mj_Rn d mj_m314 35 ls st M = mq_k0 d mj_m314 38 ls M (mq_gf 11 29 st M) := (mj_R3 (r := (.getfield 79, 3, 11, 29, 57366)) rfl rfl).trans (congrArg (mq_k0 d mj_m314 38 ls M) mq_gf_eq)
theorem s314_38 {d : Nat} {ls : mj_L} {st : List Value} {M : mj_H} : mj_Rn d mj_m314 38 ls st M = mq_k0 d mj_m314 40 ls M (mj_ldi (mj_lk ls 5) st) := mj_R0 (r := (.iload 5, 2, 0, 0, 0)) rfl rfl
theorem s314_40 {d : Nat} {ls : mj_L} {st : List Value} {M : mj_H} : mj_Rn d mj_m314 40 ls st M = mq_k0 d mj_m314 41 ls M (mq_al [1000] st M) := (mj_R3 (r := (.iaload, 1, 0, 0, 0)) rfl rfl).trans (congrArg (mq_k0 d mj_m314 41 ls M) mq_ali_eq)
theorem s314_41 {d : Nat} {ls : mj_L} {st : List Value} {M : mj_H} : mj_Rn d mj_m314 41 ls st M = mq_k0 d mj_m314 42 ls M (mj_ldi (mj_lk ls 3) st) := mj_R0 (r := (.iload_n 3, 1, 0, 0, 0)) rfl rfl
theorem s314_42 {d : Nat} {ls : mj_L} {st : List Value} {M : mj_H} : mj_Rn d mj_m314 42 ls st M = mq_k2 d mj_m314 ls M (mj_br (.if_icmp .ne 6) 42 st) := mj_R2 (r := (.if_icmp .ne 6, 3, 0, 0, 0)) rfl rfl
theorem s314_45 {d : Nat} {ls : mj_L} {st : List Value} {M : mj_H} : mj_Rn d mj_m314 45 ls st M = mq_k0 d mj_m314 47 ls M (mj_ldi (mj_lk ls 4) st) := mj_R0 (r := (.iload 4, 2, 0, 0, 0)) rfl rfl
theorem s314_47 {d : Nat} {ls : mj_L} {st : List Value} {M : mj_H} : mj_Rn d mj_m314 47 ls st M = mq_k6 M (mj_re (some .int) (.ireturn) st) := mj_R6 (r := (.ireturn, 1, 0, 0, 0)) rfl rfl
theorem s314_48 {d : Nat} {ls : mj_L} {st : List Value} {M : mj_H} : mj_Rn d mj_m314 48 ls st M = mq_k1 d mj_m314 51 M (mj_lo 6 (.iinc 4 1) ls st) := mj_R1 (r := (.iinc 4 1, 3, 0, 0, 0)) rfl rfl
theorem s314_51 {d : Nat} {ls : mj_L} {st : List Value} {M : mj_H} : mj_Rn d mj_m314 51 ls st M = mj_Rn d mj_m314 3 ls st M := mj_R2 (r := (.goto (-48), 3, 0, 0, 0)) rfl rfl
theorem s314_54 {d : Nat} {ls : mj_L} {st : List Value} {M : mj_H} : mj_Rn d mj_m314 54 ls st M = mj_Rn d mj_m314 55 ls (.int (-1) :: st) M := mj_R0 (r := (.iconst (-1), 1, 0, 0, 0)) rfl rfl
theorem s314_55 {d : Nat} {ls : mj_L} {st : List Value} {M : mj_H} : mj_Rn d mj_m314 55 ls st M = mq_k6 M (mj_re (some .int) (.ireturn) st) := mj_R6 (r := (.ireturn, 1, 0, 0, 0)) rfl rfl
/- 315 PasskeyHouseModel.isWrap(III)Z -/
theorem s315_0 {d : Nat} {ls : mj_L} {st : List Value} {M : mj_H} : mj_Rn d mj_m315 0 ls st M = mq_k0 d mj_m315 1 ls M (mj_lda (mj_lk ls 0) st) := mj_R0 (r := (.aload_n 0, 1, 0, 0, 0)) rfl rfl
theorem s315_1 {d : Nat} {ls : mj_L} {st : List Value} {M : mj_H} : mj_Rn d mj_m315 1 ls st M = mq_k0 d mj_m315 2 ls M (mj_ldi (mj_lk ls 2) st) := mj_R0 (r := (.iload_n 2, 1, 0, 0, 0)) rfl rfl
theorem s315_2 {d : Nat} {ls : mj_L} {st : List Value} {M : mj_H} : mj_Rn d mj_m315 2 ls st M = mj_Rn d mj_m315 4 ls (.int 8 :: st) M := mj_R0 (r := (.bipush 8, 2, 0, 0, 0)) rfl rfl
theorem s315_4 {d : Nat} {ls : mj_L} {st : List Value} {M : mj_H} : mj_Rn (d + 1) mj_m315 4 ls st M = mq_k5a (d + 1) mj_m315 7 ls M 316 (mq_cb 0 2 11 st M) := mj_R5e (r := (.invokevirtual 451, 3, 0, 316, 36975)) (z := mj_m316) rfl rfl (by decide) (by decide) rfl
theorem s315_7 {d : Nat} {ls : mj_L} {st : List Value} {M : mj_H} : mj_Rn d mj_m315 7 ls st M = mq_k2 d mj_m315 ls M (mj_br (.ifCond .eq 32) 7 st) := mj_R2 (r := (.ifCond .eq 32, 3, 0, 0, 0)) rfl rfl
theorem s315_10 {d : Nat} {ls : mj_L} {st : List Value} {M : mj_H} : mj_Rn d mj_m315 10 ls st M = mq_k0 d mj_m315 11 ls M (mj_lda (mj_lk ls 0) st) := mj_R0 (r := (.aload_n 0, 1, 0, 0, 0)) rfl rfl
theorem s315_11 {d : Nat} {ls : mj_L} {st : List Value} {M : mj_H} : mj_Rn d mj_m315 11 ls st M = mq_k0 d mj_m315 12 ls M (mj_ldi (mj_lk ls 2) st) := mj_R0 (r := (.iload_n 2, 1, 0, 0, 0)) rfl rfl
theorem s315_12 {d : Nat} {ls : mj_L} {st : List Value} {M : mj_H} : mj_Rn d mj_m315 12 ls st M = mj_Rn d mj_m315 13 ls (.int 1 :: st) M := mj_R0 (r := (.iconst 1, 1, 0, 0, 0)) rfl rfl
theorem s315_13 {d : Nat} {ls : mj_L} {st : List Value} {M : mj_H} : mj_Rn (d + 1) mj_m315 13 ls st M = mq_k5a (d + 1) mj_m315 16 ls M 234 (mq_cb 0 2 11 st M) := mj_R5e (r := (.invokevirtual 300, 3, 0, 234, 32791)) (z := mj_m234) rfl rfl (by decide) (by decide) rfl
theorem s315_16 {d : Nat} {ls : mj_L} {st : List Value} {M : mj_H} : mj_Rn d mj_m315 16 ls st M = mq_k0 d mj_m315 17 ls M (mj_lda (mj_lk ls 0) st) := mj_R0 (r := (.aload_n 0, 1, 0, 0, 0)) rfl rfl
theorem s315_17 {d : Nat} {ls : mj_L} {st : List Value} {M : mj_H} : mj_Rn d mj_m315 17 ls st M = mq_k0 d mj_m315 20 ls M (mq_gf 11 23 st M) := (mj_R3 (r := (.getfield 61, 3, 11, 23, 57354)) rfl rfl).trans (congrArg (mq_k0 d mj_m315 20 ls M) mq_gf_eq)
theorem s315_20 {d : Nat} {ls : mj_L} {st : List Value} {M : mj_H} : mj_Rn d mj_m315 20 ls st M = mq_k0 d mj_m315 21 ls M (mj_ldi (mj_lk ls 1) st) := mj_R0 (r := (.iload_n 1, 1, 0, 0, 0)) rfl rfl
theorem s315_21 {d : Nat} {ls : mj_L} {st : List Value} {M : mj_H} : mj_Rn d mj_m315 21 ls st M = mq_k0 d mj_m315 22 ls M (mq_al [1000] st M) := (mj_R3 (r := (.iaload, 1, 0, 0, 0)) rfl rfl).trans (congrArg (mq_k0 d mj_m315 22 ls M) mq_ali_eq)
theorem s315_22 {d : Nat} {ls : mj_L} {st : List Value} {M : mj_H} : mj_Rn d mj_m315 22 ls st M = mq_k2 d mj_m315 ls M (mj_br (.if_icmp .ne 17) 22 st) := mj_R2 (r := (.if_icmp .ne 17, 3, 0, 0, 0)) rfl rfl
theorem s315_25 {d : Nat} {ls : mj_L} {st : List Value} {M : mj_H} : mj_Rn d mj_m315 25 ls st M = mq_k0 d mj_m315 26 ls M (mj_lda (mj_lk ls 0) st) := mj_R0 (r := (.aload_n 0, 1, 0, 0, 0)) rfl rfl
theorem s315_26 {d : Nat} {ls : mj_L} {st : List Value} {M : mj_H} : mj_Rn d mj_m315 26 ls st M = mq_k0 d mj_m315 27 ls M (mj_ldi (mj_lk ls 2) st) := mj_R0 (r := (.iload_n 2, 1, 0, 0, 0)) rfl rfl
theorem s315_27 {d : Nat} {ls : mj_L} {st : List Value} {M : mj_H} : mj_Rn d mj_m315 27 ls st M = mj_Rn d mj_m315 28 ls (.int 2 :: st) M := mj_R0 (r := (.iconst 2, 1, 0, 0, 0)) rfl rfl
theorem s315_28 {d : Nat} {ls : mj_L} {st : List Value} {M : mj_H} : mj_Rn (d + 1) mj_m315 28 ls st M = mq_k5a (d + 1) mj_m315 31 ls M 234 (mq_cb 0 2 11 st M) := mj_R5e (r := (.invokevirtual 300, 3, 0, 234, 32791)) (z := mj_m234) rfl rfl (by decide) (by decide) rfl
theorem s315_31 {d : Nat} {ls : mj_L} {st : List Value} {M : mj_H} : mj_Rn d mj_m315 31 ls st M = mq_k0 d mj_m315 32 ls M (mj_ldi (mj_lk ls 3) st) := mj_R0 (r := (.iload_n 3, 1, 0, 0, 0)) rfl rfl
theorem s315_32 {d : Nat} {ls : mj_L} {st : List Value} {M : mj_H} : mj_Rn d mj_m315 32 ls st M = mq_k2 d mj_m315 ls M (mj_br (.if_icmp .ne 7) 32 st) := mj_R2 (r := (.if_icmp .ne 7, 3, 0, 0, 0)) rfl rfl
theorem s315_35 {d : Nat} {ls : mj_L} {st : List Value} {M : mj_H} : mj_Rn d mj_m315 35 ls st M = mj_Rn d mj_m315 36 ls (.int 1 :: st) M := mj_R0 (r := (.iconst 1, 1, 0, 0, 0)) rfl rfl
theorem s315_36 {d : Nat} {ls : mj_L} {st : List Value} {M : mj_H} : mj_Rn d mj_m315 36 ls st M = mj_Rn d mj_m315 40 ls st M := mj_R2 (r := (.goto 4, 3, 0, 0, 0)) rfl rfl
theorem s315_39 {d : Nat} {ls : mj_L} {st : List Value} {M : mj_H} : mj_Rn d mj_m315 39 ls st M = mj_Rn d mj_m315 40 ls (.int 0 :: st) M := mj_R0 (r := (.iconst 0, 1, 0, 0, 0)) rfl rfl
theorem s315_40 {d : Nat} {ls : mj_L} {st : List Value} {M : mj_H} : mj_Rn d mj_m315 40 ls st M = mq_k6 M (mj_re (some .boolean) (.ireturn) st) := mj_R6 (r := (.ireturn, 1, 0, 0, 0)) rfl rfl
theorem c310 {d : Nat} {a0 : Nat} {x1 : Int32} {x2 : Int32} {M : mj_H} : mj_V (d + 1) 310 [.ref a0, .int x1, .int x2] M = mj_Rn d mj_m310 0 [(0, .ref a0), (1, .int x1), (2, .int x2)] [] M := mj_V_go rfl (Nat.le_of_ble_eq_true rfl)
theorem c314 {d : Nat} {a0 : Nat} {x1 : Int32} {x2 : Int32} {x3 : Int32} {M : mj_H} : mj_V (d + 1) 314 [.ref a0, .int x1, .int x2, .int x3] M = mj_Rn d mj_m314 0 [(0, .ref a0), (1, .int x1), (2, .int x2), (3, .int x3)] [] M := mj_V_go rfl (Nat.le_of_ble_eq_true rfl)
theorem c315 {d : Nat} {a0 : Nat} {x1 : Int32} {x2 : Int32} {x3 : Int32} {M : mj_H} : mj_V (d + 1) 315 [.ref a0, .int x1, .int x2, .int x3] M = mj_Rn d mj_m315 0 [(0, .ref a0), (1, .int x1), (2, .int x2), (3, .int x3)] [] M := mj_V_go rfl (Nat.le_of_ble_eq_true rfl)
theorem xm.wk {x : Fx} {ms : List Int32} (h : xm x ms) (j : Nat) (s : Fl) (m : Mk) : xm (x.wk j s m) ms := h
theorem oBy_len {ms : List Int32} {p : Nat} (hi : cbC ms p + cbV ms p ≤ ms.length) : (oBy ms (some p)).length = cbV ms p := by
  unfold oBy
  rw [List.length_take, List.length_drop]
  omega
/-- rows by their kind -/
def tk8 (T : Tm) : Prop := (∀ t, bt_at (tm_row T.1 t) 0 = 8 → (tm_row T.1 t).length = 4 ∧ bt_at (tm_row T.1 t) 2 ≠ 0) ∧ (∀ t, bt_at (tm_row T.1 t) 0 = 2 → (tm_row T.1 t).length = 2) ∧ (∀ t, bt_at (tm_row T.1 t) 0 = 4 → 2 ≤ (tm_row T.1 t).length) ∧ (∀ t, bt_at (tm_row T.1 t) 0 = 9 → (tm_row T.1 t).length = 3)
theorem tk8.w8 {T : Tm} (hh_ : tk8 T) : ∀ t, bt_at (tm_row T.1 t) 0 = 8 → (tm_row T.1 t).length = 4 ∧ bt_at (tm_row T.1 t) 2 ≠ 0 := hh_.1
theorem tk8.p2 {T : Tm} (hh_ : tk8 T) : ∀ t, bt_at (tm_row T.1 t) 0 = 2 → (tm_row T.1 t).length = 2 := hh_.2.1
theorem tk8.e4 {T : Tm} (hh_ : tk8 T) : ∀ t, bt_at (tm_row T.1 t) 0 = 4 → 2 ≤ (tm_row T.1 t).length := hh_.2.2.1
theorem tk8.s9 {T : Tm} (hh_ : tk8 T) : ∀ t, bt_at (tm_row T.1 t) 0 = 9 → (tm_row T.1 t).length = 3 := hh_.2.2.2
theorem tk8_mk_ {T : Tm} (f_0_ : ∀ t, bt_at (tm_row T.1 t) 0 = 8 → (tm_row T.1 t).length = 4 ∧ bt_at (tm_row T.1 t) 2 ≠ 0) (f_1_ : ∀ t, bt_at (tm_row T.1 t) 0 = 2 → (tm_row T.1 t).length = 2) (f_2_ : ∀ t, bt_at (tm_row T.1 t) 0 = 4 → 2 ≤ (tm_row T.1 t).length) (f_3_ : ∀ t, bt_at (tm_row T.1 t) 0 = 9 → (tm_row T.1 t).length = 3) : tk8 T := And.intro f_0_ (And.intro f_1_ (And.intro f_2_ f_3_))
section
variable {d : Nat} {B : Bs} {x : Fx} {y : Sy} {j : Nat} {s : Fl} {m : Mk} {T : Tm} {D O ms : List Int32}
theorem q_sayItem (h : xm x ms) (hy : yz y T D O) {p n : Nat} (hn : p + n ≤ ms.length) (hl : D.length + n ≤ 512) : ∃ y', mj_V (d + 2) 289 [.ref 67, .ref 106, .int (nI p), .int (nI n)] (mm B x y) = some (none, mm B x y') ∧ yz y' T (D ++ (ms.drop p).take n) O ∧ y'.nd = y.nd := by
  have hle := h.1.le
  have hl6 : x.2.1.1.1.2.2.length = 640 := by obtain ⟨g, -, hl⟩ := h.1; exact hl
  obtain ⟨y', a1, a2, a3⟩ := q_sayBytes (d := d) (B := B) (x := x) (a := 106) (q := p) (n := n) (l := x.2.1.1.1.2.2) hy (fun y' _ => by simp [S_bx_mcan1_0, S_b8_mkey_1, S_b8_mkey_0, S_b1_mterm_0, S_b1_copy_0, S_b0_mod_7, S_b0_mod_6, S_b0_mod_5, S_b0_mod_3, S_b0_mod_2, S_b0_mod_1, S_b0_mod_0, S_bx_mcan1_1h, S_b0_mod_4h]) (by omega) (by omega) hl
  rw [h.1.sub hn] at a2
  exact ⟨y', a1, a2, a3⟩
theorem q_hashF (h : xm x ms) (hy : yz y T D O) {p : Nat} (hi : Io ms p) (hs : cbS ms p = 2 ∨ cbS ms p = 3) (hv : cbV ms p ≤ 400) : ∃ y', mj_V (d + 3) 310 [.ref 67, .int (nI p), .int 0] (mm B x y) = some (some (.int (nI (tm_ix T.1 (7 :: oBy ms (some p))))), mm B x y') ∧ yz y' T (7 :: oBy ms (some p)) O ∧ y'.nd = y.nd := by
  have ok := hi.ok
  have hk := (cbOk_hd.mp ok).1
  have hin := (cbOk_hd.mp ok).2 hs
  obtain ⟨y1, a1, a2, a3⟩ := q_begin (d := d + 1) (B := B) (x := x) hy 7
  have r2 := q_numberAt (d := d) (B := B) (x := x) (y := y1) h hk.1 hk.2.2.2.1
  have rb := q_behindHead (d := d) (B := B) (x := x) (y := y1) h hk.1
  obtain ⟨y2, b1, b2, b3⟩ := q_sayItem (d := d) (B := B) (x := x) h a2 hin (by simp [S_bx_mcan1_0, S_b8_mkey_1, S_b8_mkey_0, S_b1_mterm_0, S_b1_copy_0, S_b0_mod_7, S_b0_mod_6, S_b0_mod_5, S_b0_mod_3, S_b0_mod_2, S_b0_mod_1, S_b0_mod_0, S_bx_mcan1_1h, S_b0_mod_4h]; omega)
  have e : [7] ++ (ms.drop (cbC ms p)).take (cbV ms p) = 7 :: oBy ms (some p) := rfl
  rw [e] at b2
  have c1 := q_found (d := d) (B := B) (x := x) b2 (by simp [S_bx_mcan1_0, S_b8_mkey_1, S_b8_mkey_0, S_b1_mterm_0, S_b1_copy_0, S_b0_mod_7, S_b0_mod_6, S_b0_mod_5, S_b0_mod_3, S_b0_mod_2, S_b0_mod_1, S_b0_mod_0, S_bx_mcan1_1h, S_b0_mod_4h])
  refine ⟨y2, ?_, b2, b3.trans a3⟩
  generalize 7 :: oBy ms (some p) = row at *
  simp (disch := (first | omega | decide)) [S_bx_mcan1_0, S_b8_mkey_1, S_b8_mkey_0, S_b1_mterm_0, S_b1_copy_0, S_b0_mod_7, S_b0_mod_6, S_b0_mod_5, S_b0_mod_3, S_b0_mod_2, S_b0_mod_1, S_b0_mod_0, S_bx_mcan1_1h, S_b0_mod_4h, c310, s310_0, s310_1, s310_3, s310_6, s310_7, s310_8, s310_11, s310_12, s310_13, s310_16, s310_17, s310_18, s310_21, s310_24, s310_25, s310_28, s310_29, s310_32, s310_35, s310_36, s310_39, mq_k0s, mq_k1s, mq_k2s, mq_k4s, mq_k5s, mq_k5n, mq_k5as, mq_k6s, mj_pu, mj_lo, mj_br, mj_hr, mj_hw, mq_gf, mq_len, mq_al, mq_pf, mq_ok, mj_re, mq_lkm, mq_lkn, mj_ldi, mj_ldl, mj_lda, mj_ii, mj_ll, mj_li, mj_i1, ms_1, ms_2, f1_n, f1_i, f1_r, f1_u, f1_l, f2_n, f2_i, f2_r, f2_u, f2_l, mj_tg, mj_c1, mj_c2, mj_ar, mj_aw, mq_cb, mq_oi, mj_rm, Value.category, -getElem?_pos, List.getElem?_cons_zero, decide_eq_true, decide_eq_false, nl_lt, nl_le, ln_lt, ln_le, nl_eq, ln_eq, nl_add, ln_add, nl_sub, ln_mul, nI_sub, nI_mul, nI_add, nI_lt_iff, nI_le_iff, nI_inj, nI_num, mq_ix, nI_1, nl_mul, nl_div, a1, r2, rb, b1, c1, narrow]
theorem q_hashM (h : xm x ms) (hy : yz y T D O) {p : Nat} (hi : Io ms p) (hs : cbS ms p = 2 ∨ cbS ms p = 3) (hv : cbV ms p ≤ 400) (hT : T.1.length < 1000) : ∃ y', mj_V (d + 4) 310 [.ref 67, .int (nI p), .int 1] (mm B x y) = some (some (.int (nI (tm_no T (7 :: oBy ms (some p))))), mm B x y') ∧ yz y' (tm_mk T (7 :: oBy ms (some p))) (7 :: oBy ms (some p)) O ∧ yk y' = yk y := by
  have ok := hi.ok
  have hk := (cbOk_hd.mp ok).1
  have hin := (cbOk_hd.mp ok).2 hs
  obtain ⟨y1, a1, a2, a3⟩ := q_begin (d := d + 2) (B := B) (x := x) hy 7
  have r2 := q_numberAt (d := d + 1) (B := B) (x := x) (y := y1) h hk.1 hk.2.2.2.1
  have rb := q_behindHead (d := d + 1) (B := B) (x := x) (y := y1) h hk.1
  obtain ⟨y2, b1, b2, b3⟩ := q_sayItem (d := d + 1) (B := B) (x := x) h a2 hin (by simp [S_bx_mcan1_0, S_b8_mkey_1, S_b8_mkey_0, S_b1_mterm_0, S_b1_copy_0, S_b0_mod_7, S_b0_mod_6, S_b0_mod_5, S_b0_mod_3, S_b0_mod_2, S_b0_mod_1, S_b0_mod_0, S_bx_mcan1_1h, S_b0_mod_4h]; omega)
  have e : [7] ++ (ms.drop (cbC ms p)).take (cbV ms p) = 7 :: oBy ms (some p) := rfl
  rw [e] at b2
  obtain ⟨y3, c1, c2, c3⟩ := q_term (d := d) (B := B) (x := x) b2 (by simp [S_bx_mcan1_0, S_b8_mkey_1, S_b8_mkey_0, S_b1_mterm_0, S_b1_copy_0, S_b0_mod_7, S_b0_mod_6, S_b0_mod_5, S_b0_mod_3, S_b0_mod_2, S_b0_mod_1, S_b0_mod_0, S_bx_mcan1_1h, S_b0_mod_4h]) (by simp [S_bx_mcan1_0, S_b8_mkey_1, S_b8_mkey_0, S_b1_mterm_0, S_b1_copy_0, S_b0_mod_7, S_b0_mod_6, S_b0_mod_5, S_b0_mod_3, S_b0_mod_2, S_b0_mod_1, S_b0_mod_0, S_bx_mcan1_1h, S_b0_mod_4h, oBy_len hin]; omega) hT
  refine ⟨y3, ?_, c2, ?_⟩
  · generalize 7 :: oBy ms (some p) = row at *
    simp (disch := (first | omega | decide)) [S_bx_mcan1_0, S_b8_mkey_1, S_b8_mkey_0, S_b1_mterm_0, S_b1_copy_0, S_b0_mod_7, S_b0_mod_6, S_b0_mod_5, S_b0_mod_3, S_b0_mod_2, S_b0_mod_1, S_b0_mod_0, S_bx_mcan1_1h, S_b0_mod_4h, c310, s310_0, s310_1, s310_3, s310_6, s310_7, s310_8, s310_11, s310_12, s310_13, s310_16, s310_17, s310_18, s310_21, s310_24, s310_25, s310_28, s310_29, s310_32, s310_35, s310_36, s310_39, mq_k0s, mq_k1s, mq_k2s, mq_k4s, mq_k5s, mq_k5n, mq_k5as, mq_k6s, mj_pu, mj_lo, mj_br, mj_hr, mj_hw, mq_gf, mq_len, mq_al, mq_pf, mq_ok, mj_re, mq_lkm, mq_lkn, mj_ldi, mj_ldl, mj_lda, mj_ii, mj_ll, mj_li, mj_i1, ms_1, ms_2, f1_n, f1_i, f1_r, f1_u, f1_l, f2_n, f2_i, f2_r, f2_u, f2_l, mj_tg, mj_c1, mj_c2, mj_ar, mj_aw, mq_cb, mq_oi, mj_rm, Value.category, -getElem?_pos, List.getElem?_cons_zero, decide_eq_true, decide_eq_false, nl_lt, nl_le, ln_lt, ln_le, nl_eq, ln_eq, nl_add, ln_add, nl_sub, ln_mul, nI_sub, nI_mul, nI_add, nI_lt_iff, nI_le_iff, nI_inj, nI_num, mq_ix, nI_1, nl_mul, nl_div, a1, r2, rb, b1, c1, narrow]
  · rw [c3, yk_nd (b3.trans a3)]
theorem l_heldBy (hx : xk x) (hj : j < 3) (hm : wm m) (h12 : s.2.2.2.2.2.2.2.2.2.2.2.length ≤ 12) (hc : cF s.2.2.2.2.2.2.2.2.2.2.2 m) {id party : Int32} : ∀ (k i : Nat), i + k = s.2.2.2.2.2.2.2.2.2.2.2.length →
    mj_Rn d mj_m314 3 [(4, .int (nI i)), (0, .ref 67), (1, .int (nI j)), (2, .int id), (3, .int party)] [] (mm B (x.wk j s m) y) = some (some (.int (oI ((fs_id (s.2.2.2.2.2.2.2.2.2.2.2.drop i) id party).map (· + i)))), mm B (x.wk j s m) y) := by
  intro k
  induction k with
  | zero =>
    intro i hi
    rw [List.drop_eq_nil_of_le (by omega)]
    simp (disch := (first | omega | decide)) [S_bx_mcan1_0, S_b8_mkey_1, S_b8_mkey_0, S_b1_mterm_0, S_b1_copy_0, S_b0_mod_7, S_b0_mod_6, S_b0_mod_5, S_b0_mod_3, S_b0_mod_2, S_b0_mod_1, S_b0_mod_0, S_bx_mcan1_1h, S_b0_mod_4h, s314_0, s314_1, s314_3, s314_5, s314_6, s314_9, s314_10, s314_11, s314_14, s314_16, s314_17, s314_18, s314_20, s314_21, s314_23, s314_24, s314_27, s314_29, s314_30, s314_31, s314_34, s314_35, s314_38, s314_40, s314_41, s314_42, s314_45, s314_47, s314_48, s314_51, s314_54, s314_55, mq_k0s, mq_k1s, mq_k2s, mq_k4s, mq_k5s, mq_k5n, mq_k5as, mq_k6s, mj_pu, mj_lo, mj_br, mj_hr, mj_hw, mq_gf, mq_len, mq_al, mq_pf, mq_ok, mj_re, mq_lkm, mq_lkn, mj_ldi, mj_ldl, mj_lda, mj_ii, mj_ll, mj_li, mj_i1, ms_1, ms_2, f1_n, f1_i, f1_r, f1_u, f1_l, f2_n, f2_i, f2_r, f2_u, f2_l, mj_tg, mj_c1, mj_c2, mj_ar, mj_aw, mq_cb, mq_oi, mj_rm, Value.category, -getElem?_pos, List.getElem?_cons_zero, decide_eq_true, decide_eq_false, nl_lt, nl_le, ln_lt, ln_le, nl_eq, ln_eq, nl_add, ln_add, nl_sub, ln_mul, nI_sub, nI_mul, nI_add, nI_lt_iff, nI_le_iff, nI_inj, nI_num, mq_ix, nI_1, nl_mul, nl_div, wkc_on hx hj, wkl_on hx, wkc_acts hx hj, wkl_acts hx, wkc_limit hx hj, wkl_limit hx, wkc_generation hx hj, wkl_generation hx, wkc_area hx hj, wkl_area hx, wkc_fend hx hj, wkl_fend hx, wkc_master hx hj, wkl_master hx, wkc_pinOf hx hj, wkl_pinOf hx, wkc_tries hx hj, wkl_tries hx, wkc_own hx hj, wkl_own hx, wkc_creds hx hj, wkl_creds hx, wkc_presses hx hj, wkl_presses hx, wkc_taken hx hj, wkl_taken hx, wkc_answered hx hj, wkl_answered hx, wkc_agreeing hx hj, wkl_agreeing hx, wkc_token hx hj, wkl_token hx, wkc_wrong hx hj, wkl_wrong hx, wkc_heard hx hj, wkl_heard hx, wkc_listed hx hj, wkl_listed hx, wkc_listAt hx hj, wkl_listAt hx, wkc_listHash hx hj, wkl_listHash hx, wkc_listFlags hx hj, wkl_listFlags hx, wkc_answerSize hx hj, wkl_answerSize hx, wkc_flash hx hj, wkl_flash hx hj, show s.2.2.2.2.2.2.2.2.2.2.2.length ≤ i by omega, narrow, fs_id, oI]
  | succ k ih =>
    intro i hi
    have r := ih (i + 1) (by omega)
    have hil : i < s.2.2.2.2.2.2.2.2.2.2.2.length := by omega
    obtain ⟨c, hci⟩ : ∃ c, s.2.2.2.2.2.2.2.2.2.2.2[i]? = some c := ⟨_, List.getElem?_eq_getElem hil⟩
    have hd : s.2.2.2.2.2.2.2.2.2.2.2.drop i = c :: s.2.2.2.2.2.2.2.2.2.2.2.drop (i + 1) := by
      rw [List.drop_eq_getElem_cons hil]
      rw [List.getElem?_eq_getElem hil] at hci
      rw [Option.some.inj hci]
    obtain ⟨hI, hH, hS, hC, hL, h8, hU⟩ := hc i c hci
    have ep : (fs_id (s.2.2.2.2.2.2.2.2.2.2.2.drop i) id party).map (· + i) = if c.1 = id ∧ c.2.1 = party then some i else (fs_id (s.2.2.2.2.2.2.2.2.2.2.2.drop (i + 1)) id party).map (· + (i + 1)) := by
      rw [hd]
      unfold fs_id
      rw [List.findIdx?_cons]
      by_cases hq : c.1 = id ∧ c.2.1 = party
      · simp [S_bx_mcan1_0, S_b8_mkey_1, S_b8_mkey_0, S_b1_mterm_0, S_b1_copy_0, S_b0_mod_7, S_b0_mod_6, S_b0_mod_5, S_b0_mod_3, S_b0_mod_2, S_b0_mod_1, S_b0_mod_0, S_bx_mcan1_1h, S_b0_mod_4h, hq]
      · have hm : ∀ o : Option Nat, (o.map (· + 1)).map (· + i) = o.map (· + (i + 1)) := by
          intro o
          cases o with
          | none => rfl
          | some x => simp [S_bx_mcan1_0, S_b8_mkey_1, S_b8_mkey_0, S_b1_mterm_0, S_b1_copy_0, S_b0_mod_7, S_b0_mod_6, S_b0_mod_5, S_b0_mod_3, S_b0_mod_2, S_b0_mod_1, S_b0_mod_0, S_bx_mcan1_1h, S_b0_mod_4h]; omega
        rw [if_neg hq, if_neg (by simpa [S_bx_mcan1_0, S_b8_mkey_1, S_b8_mkey_0, S_b1_mterm_0, S_b1_copy_0, S_b0_mod_7, S_b0_mod_6, S_b0_mod_5, S_b0_mod_3, S_b0_mod_2, S_b0_mod_1, S_b0_mod_0, S_bx_mcan1_1h, S_b0_mod_4h] using hq)]
        exact hm _
    rw [ep, s314_3]
    generalize (fs_id (s.2.2.2.2.2.2.2.2.2.2.2.drop (i + 1)) id party).map (· + (i + 1)) = res at *
    by_cases q1 : c.1 = id
    · by_cases q2 : c.2.1 = party
      · rw [if_pos ⟨q1, q2⟩]
        rw [q1] at hI
        rw [q2] at hH
        simp (disch := (first | omega | decide)) [S_bx_mcan1_0, S_b8_mkey_1, S_b8_mkey_0, S_b1_mterm_0, S_b1_copy_0, S_b0_mod_7, S_b0_mod_6, S_b0_mod_5, S_b0_mod_3, S_b0_mod_2, S_b0_mod_1, S_b0_mod_0, S_bx_mcan1_1h, S_b0_mod_4h, s314_0, s314_1, s314_5, s314_6, s314_9, s314_10, s314_11, s314_14, s314_16, s314_17, s314_18, s314_20, s314_21, s314_23, s314_24, s314_27, s314_29, s314_30, s314_31, s314_34, s314_35, s314_38, s314_40, s314_41, s314_42, s314_45, s314_47, s314_48, s314_51, s314_54, s314_55, mq_k0s, mq_k1s, mq_k2s, mq_k4s, mq_k5s, mq_k5n, mq_k5as, mq_k6s, mj_pu, mj_lo, mj_br, mj_hr, mj_hw, mq_gf, mq_len, mq_al, mq_pf, mq_ok, mj_re, mq_lkm, mq_lkn, mj_ldi, mj_ldl, mj_lda, mj_ii, mj_ll, mj_li, mj_i1, ms_1, ms_2, f1_n, f1_i, f1_r, f1_u, f1_l, f2_n, f2_i, f2_r, f2_u, f2_l, mj_tg, mj_c1, mj_c2, mj_ar, mj_aw, mq_cb, mq_oi, mj_rm, Value.category, -getElem?_pos, List.getElem?_cons_zero, decide_eq_true, decide_eq_false, nl_lt, nl_le, ln_lt, ln_le, nl_eq, ln_eq, nl_add, ln_add, nl_sub, ln_mul, nI_sub, nI_mul, nI_add, nI_lt_iff, nI_le_iff, nI_inj, nI_num, mq_ix, nI_1, nl_mul, nl_div, wkc_on hx hj, wkl_on hx, wkc_acts hx hj, wkl_acts hx, wkc_limit hx hj, wkl_limit hx, wkc_generation hx hj, wkl_generation hx, wkc_area hx hj, wkl_area hx, wkc_fend hx hj, wkl_fend hx, wkc_master hx hj, wkl_master hx, wkc_pinOf hx hj, wkl_pinOf hx, wkc_tries hx hj, wkl_tries hx, wkc_own hx hj, wkl_own hx, wkc_creds hx hj, wkl_creds hx, wkc_presses hx hj, wkl_presses hx, wkc_taken hx hj, wkl_taken hx, wkc_answered hx hj, wkl_answered hx, wkc_agreeing hx hj, wkl_agreeing hx, wkc_token hx hj, wkl_token hx, wkc_wrong hx hj, wkl_wrong hx, wkc_heard hx hj, wkl_heard hx, wkc_listed hx hj, wkl_listed hx, wkc_listAt hx hj, wkl_listAt hx, wkc_listHash hx hj, wkl_listHash hx, wkc_listFlags hx hj, wkl_listFlags hx, wkc_answerSize hx hj, wkl_answerSize hx, wkc_flash hx hj, wkl_flash hx hj, wkf_credId hx hj hm, wkf_credHash hx hj hm, wkf_credSecret hx hj hm, wkf_credCount hx hj hm, wkf_credLong hx hj hm, wkf_credUser hx hj hm, wkf_list hx hj hm, wkf_answers hx hj hm, wkf_flash hx hj, wkc_credId hx hj hm, wkl_credId hx hj hm, wkc_credHash hx hj hm, wkl_credHash hx hj hm, wkc_credSecret hx hj hm, wkl_credSecret hx hj hm, wkc_credCount hx hj hm, wkl_credCount hx hj hm, wkc_credLong hx hj hm, wkl_credLong hx hj hm, wkc_credUser hx hj hm, wkl_credUser hx hj hm, wkc_list hx hj hm, wkl_list hx hj hm, wkc_answers hx hj hm, wkl_answers hx hj hm, hI, hH, oI, narrow, show ¬ s.2.2.2.2.2.2.2.2.2.2.2.length ≤ i by omega]
      · rw [if_neg (fun z => q2 z.2)]
        rw [q1] at hI
        simp (disch := (first | omega | decide)) [S_bx_mcan1_0, S_b8_mkey_1, S_b8_mkey_0, S_b1_mterm_0, S_b1_copy_0, S_b0_mod_7, S_b0_mod_6, S_b0_mod_5, S_b0_mod_3, S_b0_mod_2, S_b0_mod_1, S_b0_mod_0, S_bx_mcan1_1h, S_b0_mod_4h, s314_0, s314_1, s314_5, s314_6, s314_9, s314_10, s314_11, s314_14, s314_16, s314_17, s314_18, s314_20, s314_21, s314_23, s314_24, s314_27, s314_29, s314_30, s314_31, s314_34, s314_35, s314_38, s314_40, s314_41, s314_42, s314_45, s314_47, s314_48, s314_51, s314_54, s314_55, mq_k0s, mq_k1s, mq_k2s, mq_k4s, mq_k5s, mq_k5n, mq_k5as, mq_k6s, mj_pu, mj_lo, mj_br, mj_hr, mj_hw, mq_gf, mq_len, mq_al, mq_pf, mq_ok, mj_re, mq_lkm, mq_lkn, mj_ldi, mj_ldl, mj_lda, mj_ii, mj_ll, mj_li, mj_i1, ms_1, ms_2, f1_n, f1_i, f1_r, f1_u, f1_l, f2_n, f2_i, f2_r, f2_u, f2_l, mj_tg, mj_c1, mj_c2, mj_ar, mj_aw, mq_cb, mq_oi, mj_rm, Value.category, -getElem?_pos, List.getElem?_cons_zero, decide_eq_true, decide_eq_false, nl_lt, nl_le, ln_lt, ln_le, nl_eq, ln_eq, nl_add, ln_add, nl_sub, ln_mul, nI_sub, nI_mul, nI_add, nI_lt_iff, nI_le_iff, nI_inj, nI_num, mq_ix, nI_1, nl_mul, nl_div, wkc_on hx hj, wkl_on hx, wkc_acts hx hj, wkl_acts hx, wkc_limit hx hj, wkl_limit hx, wkc_generation hx hj, wkl_generation hx, wkc_area hx hj, wkl_area hx, wkc_fend hx hj, wkl_fend hx, wkc_master hx hj, wkl_master hx, wkc_pinOf hx hj, wkl_pinOf hx, wkc_tries hx hj, wkl_tries hx, wkc_own hx hj, wkl_own hx, wkc_creds hx hj, wkl_creds hx, wkc_presses hx hj, wkl_presses hx, wkc_taken hx hj, wkl_taken hx, wkc_answered hx hj, wkl_answered hx, wkc_agreeing hx hj, wkl_agreeing hx, wkc_token hx hj, wkl_token hx, wkc_wrong hx hj, wkl_wrong hx, wkc_heard hx hj, wkl_heard hx, wkc_listed hx hj, wkl_listed hx, wkc_listAt hx hj, wkl_listAt hx, wkc_listHash hx hj, wkl_listHash hx, wkc_listFlags hx hj, wkl_listFlags hx, wkc_answerSize hx hj, wkl_answerSize hx, wkc_flash hx hj, wkl_flash hx hj, wkf_credId hx hj hm, wkf_credHash hx hj hm, wkf_credSecret hx hj hm, wkf_credCount hx hj hm, wkf_credLong hx hj hm, wkf_credUser hx hj hm, wkf_list hx hj hm, wkf_answers hx hj hm, wkf_flash hx hj, wkc_credId hx hj hm, wkl_credId hx hj hm, wkc_credHash hx hj hm, wkl_credHash hx hj hm, wkc_credSecret hx hj hm, wkl_credSecret hx hj hm, wkc_credCount hx hj hm, wkl_credCount hx hj hm, wkc_credLong hx hj hm, wkl_credLong hx hj hm, wkc_credUser hx hj hm, wkl_credUser hx hj hm, wkc_list hx hj hm, wkl_list hx hj hm, wkc_answers hx hj hm, wkl_answers hx hj hm, hI, hH, q2, show ¬ s.2.2.2.2.2.2.2.2.2.2.2.length ≤ i by omega]
        refine mq_wk ?_ r
        simp [S_bx_mcan1_0, S_b8_mkey_1, S_b8_mkey_0, S_b1_mterm_0, S_b1_copy_0, S_b0_mod_7, S_b0_mod_6, S_b0_mod_5, S_b0_mod_3, S_b0_mod_2, S_b0_mod_1, S_b0_mod_0, S_bx_mcan1_1h, S_b0_mod_4h, mq_sub, mj_lk]
    · rw [if_neg (fun z => q1 z.1)]
      simp (disch := (first | omega | decide)) [S_bx_mcan1_0, S_b8_mkey_1, S_b8_mkey_0, S_b1_mterm_0, S_b1_copy_0, S_b0_mod_7, S_b0_mod_6, S_b0_mod_5, S_b0_mod_3, S_b0_mod_2, S_b0_mod_1, S_b0_mod_0, S_bx_mcan1_1h, S_b0_mod_4h, s314_0, s314_1, s314_5, s314_6, s314_9, s314_10, s314_11, s314_14, s314_16, s314_17, s314_18, s314_20, s314_21, s314_23, s314_24, s314_27, s314_29, s314_30, s314_31, s314_34, s314_35, s314_38, s314_40, s314_41, s314_42, s314_45, s314_47, s314_48, s314_51, s314_54, s314_55, mq_k0s, mq_k1s, mq_k2s, mq_k4s, mq_k5s, mq_k5n, mq_k5as, mq_k6s, mj_pu, mj_lo, mj_br, mj_hr, mj_hw, mq_gf, mq_len, mq_al, mq_pf, mq_ok, mj_re, mq_lkm, mq_lkn, mj_ldi, mj_ldl, mj_lda, mj_ii, mj_ll, mj_li, mj_i1, ms_1, ms_2, f1_n, f1_i, f1_r, f1_u, f1_l, f2_n, f2_i, f2_r, f2_u, f2_l, mj_tg, mj_c1, mj_c2, mj_ar, mj_aw, mq_cb, mq_oi, mj_rm, Value.category, -getElem?_pos, List.getElem?_cons_zero, decide_eq_true, decide_eq_false, nl_lt, nl_le, ln_lt, ln_le, nl_eq, ln_eq, nl_add, ln_add, nl_sub, ln_mul, nI_sub, nI_mul, nI_add, nI_lt_iff, nI_le_iff, nI_inj, nI_num, mq_ix, nI_1, nl_mul, nl_div, wkc_on hx hj, wkl_on hx, wkc_acts hx hj, wkl_acts hx, wkc_limit hx hj, wkl_limit hx, wkc_generation hx hj, wkl_generation hx, wkc_area hx hj, wkl_area hx, wkc_fend hx hj, wkl_fend hx, wkc_master hx hj, wkl_master hx, wkc_pinOf hx hj, wkl_pinOf hx, wkc_tries hx hj, wkl_tries hx, wkc_own hx hj, wkl_own hx, wkc_creds hx hj, wkl_creds hx, wkc_presses hx hj, wkl_presses hx, wkc_taken hx hj, wkl_taken hx, wkc_answered hx hj, wkl_answered hx, wkc_agreeing hx hj, wkl_agreeing hx, wkc_token hx hj, wkl_token hx, wkc_wrong hx hj, wkl_wrong hx, wkc_heard hx hj, wkl_heard hx, wkc_listed hx hj, wkl_listed hx, wkc_listAt hx hj, wkl_listAt hx, wkc_listHash hx hj, wkl_listHash hx, wkc_listFlags hx hj, wkl_listFlags hx, wkc_answerSize hx hj, wkl_answerSize hx, wkc_flash hx hj, wkl_flash hx hj, wkf_credId hx hj hm, wkf_credHash hx hj hm, wkf_credSecret hx hj hm, wkf_credCount hx hj hm, wkf_credLong hx hj hm, wkf_credUser hx hj hm, wkf_list hx hj hm, wkf_answers hx hj hm, wkf_flash hx hj, wkc_credId hx hj hm, wkl_credId hx hj hm, wkc_credHash hx hj hm, wkl_credHash hx hj hm, wkc_credSecret hx hj hm, wkl_credSecret hx hj hm, wkc_credCount hx hj hm, wkl_credCount hx hj hm, wkc_credLong hx hj hm, wkl_credLong hx hj hm, wkc_credUser hx hj hm, wkl_credUser hx hj hm, wkc_list hx hj hm, wkl_list hx hj hm, wkc_answers hx hj hm, wkl_answers hx hj hm, hI, hH, q1, show ¬ s.2.2.2.2.2.2.2.2.2.2.2.length ≤ i by omega]
      refine mq_wk ?_ r
      simp [S_bx_mcan1_0, S_b8_mkey_1, S_b8_mkey_0, S_b1_mterm_0, S_b1_copy_0, S_b0_mod_7, S_b0_mod_6, S_b0_mod_5, S_b0_mod_3, S_b0_mod_2, S_b0_mod_1, S_b0_mod_0, S_bx_mcan1_1h, S_b0_mod_4h, mq_sub, mj_lk]
theorem q_heldBy (hx : xk x) (hj : j < 3) (hm : wm m) (h12 : s.2.2.2.2.2.2.2.2.2.2.2.length ≤ 12) (hc : cF s.2.2.2.2.2.2.2.2.2.2.2 m) (id party : Int32) : mj_V (d + 1) 314 [.ref 67, .int (nI j), .int id, .int party] (mm B (x.wk j s m) y) = some (some (.int (oI (fs_id s.2.2.2.2.2.2.2.2.2.2.2 id party))), mm B (x.wk j s m) y) := by
  have r1 := l_heldBy (d := d) (B := B) (y := y) (id := id) (party := party) hx hj hm h12 hc s.2.2.2.2.2.2.2.2.2.2.2.length 0 (by omega)
  simp only [List.drop_zero, Nat.add_zero, Option.map_id'] at r1
  generalize oI (fs_id s.2.2.2.2.2.2.2.2.2.2.2 id party) = res at *
  rw [nI_0] at r1
  simp (disch := (first | omega | decide)) [S_bx_mcan1_0, S_b8_mkey_1, S_b8_mkey_0, S_b1_mterm_0, S_b1_copy_0, S_b0_mod_7, S_b0_mod_6, S_b0_mod_5, S_b0_mod_3, S_b0_mod_2, S_b0_mod_1, S_b0_mod_0, S_bx_mcan1_1h, S_b0_mod_4h, c314, s314_0, s314_1, s314_5, s314_6, s314_9, s314_10, s314_11, s314_14, s314_16, s314_17, s314_18, s314_20, s314_21, s314_23, s314_24, s314_27, s314_29, s314_30, s314_31, s314_34, s314_35, s314_38, s314_40, s314_41, s314_42, s314_45, s314_47, s314_48, s314_51, s314_54, s314_55, mq_k0s, mq_k1s, mq_k2s, mq_k4s, mq_k5s, mq_k5n, mq_k5as, mq_k6s, mj_pu, mj_lo, mj_br, mj_hr, mj_hw, mq_gf, mq_len, mq_al, mq_pf, mq_ok, mj_re, mq_lkm, mq_lkn, mj_ldi, mj_ldl, mj_lda, mj_ii, mj_ll, mj_li, mj_i1, ms_1, ms_2, f1_n, f1_i, f1_r, f1_u, f1_l, f2_n, f2_i, f2_r, f2_u, f2_l, mj_tg, mj_c1, mj_c2, mj_ar, mj_aw, mq_cb, mq_oi, mj_rm, Value.category, -getElem?_pos, List.getElem?_cons_zero, decide_eq_true, decide_eq_false, nl_lt, nl_le, ln_lt, ln_le, nl_eq, ln_eq, nl_add, ln_add, nl_sub, ln_mul, nI_sub, nI_mul, nI_add, nI_lt_iff, nI_le_iff, nI_inj, nI_num, mq_ix, nI_1, nl_mul, nl_div]
  refine mq_wk ?_ r1
  simp [S_bx_mcan1_0, S_b8_mkey_1, S_b8_mkey_0, S_b1_mterm_0, S_b1_copy_0, S_b0_mod_7, S_b0_mod_6, S_b0_mod_5, S_b0_mod_3, S_b0_mod_2, S_b0_mod_1, S_b0_mod_0, S_bx_mcan1_1h, S_b0_mod_4h, mq_sub, mj_lk]
theorem q_isWrap (hx : xk x) (hj : j < 3) (hy : yz y T D O) (hT : tk8 T) (id party : Int32) : mj_V (d + 2) 315 [.ref 67, .int (nI j), .int id, .int party] (mm B (x.wk j s m) y) = some (some (.int (on1 (decide (bt_at (tm_row T.1 id) 0 = 8 ∧ bt_at (tm_row T.1 id) 1 = s.2.2.2.2.2.2.2.1 ∧ bt_at (tm_row T.1 id) 2 = party)))), mm B (x.wk j s m) y) := by
  have r0 := q_isSort (d := d) (B := B) (x := x.wk j s m) hy id (s := 8) (by decide)
  by_cases h8 : bt_at (tm_row T.1 id) 0 = 8
  · have hl := (hT.w8 id h8).1
    have r1 := q_partA (d := d) (B := B) (x := x.wk j s m) hy (t := id) (k := 1) (by omega)
    have r2 := q_partA (d := d) (B := B) (x := x.wk j s m) hy (t := id) (k := 2) (by omega)
    rw [show nI 1 = (1 : Int32) from rfl] at r1
    rw [show nI 2 = (2 : Int32) from rfl] at r2
    rw [if_pos h8] at r0
    generalize bt_at (tm_row T.1 id) 1 = a1 at *
    generalize bt_at (tm_row T.1 id) 2 = a2 at *
    by_cases g1 : a1 = s.2.2.2.2.2.2.2.1
    · by_cases g2 : a2 = party
      · rw [decide_eq_true ⟨h8, g1, g2⟩]
        simp (disch := (first | omega | decide)) [S_bx_mcan1_0, S_b8_mkey_1, S_b8_mkey_0, S_b1_mterm_0, S_b1_copy_0, S_b0_mod_7, S_b0_mod_6, S_b0_mod_5, S_b0_mod_3, S_b0_mod_2, S_b0_mod_1, S_b0_mod_0, S_bx_mcan1_1h, S_b0_mod_4h, c315, s315_0, s315_1, s315_2, s315_4, s315_7, s315_10, s315_11, s315_12, s315_13, s315_16, s315_17, s315_20, s315_21, s315_22, s315_25, s315_26, s315_27, s315_28, s315_31, s315_32, s315_35, s315_36, s315_39, s315_40, mq_k0s, mq_k1s, mq_k2s, mq_k4s, mq_k5s, mq_k5n, mq_k5as, mq_k6s, mj_pu, mj_lo, mj_br, mj_hr, mj_hw, mq_gf, mq_len, mq_al, mq_pf, mq_ok, mj_re, mq_lkm, mq_lkn, mj_ldi, mj_ldl, mj_lda, mj_ii, mj_ll, mj_li, mj_i1, ms_1, ms_2, f1_n, f1_i, f1_r, f1_u, f1_l, f2_n, f2_i, f2_r, f2_u, f2_l, mj_tg, mj_c1, mj_c2, mj_ar, mj_aw, mq_cb, mq_oi, mj_rm, Value.category, -getElem?_pos, List.getElem?_cons_zero, decide_eq_true, decide_eq_false, nl_lt, nl_le, ln_lt, ln_le, nl_eq, ln_eq, nl_add, ln_add, nl_sub, ln_mul, nI_sub, nI_mul, nI_add, nI_lt_iff, nI_le_iff, nI_inj, nI_num, mq_ix, nI_1, nl_mul, nl_div, wkc_on hx hj, wkl_on hx, wkc_acts hx hj, wkl_acts hx, wkc_limit hx hj, wkl_limit hx, wkc_generation hx hj, wkl_generation hx, wkc_area hx hj, wkl_area hx, wkc_fend hx hj, wkl_fend hx, wkc_master hx hj, wkl_master hx, wkc_pinOf hx hj, wkl_pinOf hx, wkc_tries hx hj, wkl_tries hx, wkc_own hx hj, wkl_own hx, wkc_creds hx hj, wkl_creds hx, wkc_presses hx hj, wkl_presses hx, wkc_taken hx hj, wkl_taken hx, wkc_answered hx hj, wkl_answered hx, wkc_agreeing hx hj, wkl_agreeing hx, wkc_token hx hj, wkl_token hx, wkc_wrong hx hj, wkl_wrong hx, wkc_heard hx hj, wkl_heard hx, wkc_listed hx hj, wkl_listed hx, wkc_listAt hx hj, wkl_listAt hx, wkc_listHash hx hj, wkl_listHash hx, wkc_listFlags hx hj, wkl_listFlags hx, wkc_answerSize hx hj, wkl_answerSize hx, wkc_flash hx hj, wkl_flash hx hj, r0, r1, r2, g1, g2, narrow_b1, on1]
      · rw [decide_eq_false (fun z => g2 z.2.2)]
        simp (disch := (first | omega | decide)) [S_bx_mcan1_0, S_b8_mkey_1, S_b8_mkey_0, S_b1_mterm_0, S_b1_copy_0, S_b0_mod_7, S_b0_mod_6, S_b0_mod_5, S_b0_mod_3, S_b0_mod_2, S_b0_mod_1, S_b0_mod_0, S_bx_mcan1_1h, S_b0_mod_4h, c315, s315_0, s315_1, s315_2, s315_4, s315_7, s315_10, s315_11, s315_12, s315_13, s315_16, s315_17, s315_20, s315_21, s315_22, s315_25, s315_26, s315_27, s315_28, s315_31, s315_32, s315_35, s315_36, s315_39, s315_40, mq_k0s, mq_k1s, mq_k2s, mq_k4s, mq_k5s, mq_k5n, mq_k5as, mq_k6s, mj_pu, mj_lo, mj_br, mj_hr, mj_hw, mq_gf, mq_len, mq_al, mq_pf, mq_ok, mj_re, mq_lkm, mq_lkn, mj_ldi, mj_ldl, mj_lda, mj_ii, mj_ll, mj_li, mj_i1, ms_1, ms_2, f1_n, f1_i, f1_r, f1_u, f1_l, f2_n, f2_i, f2_r, f2_u, f2_l, mj_tg, mj_c1, mj_c2, mj_ar, mj_aw, mq_cb, mq_oi, mj_rm, Value.category, -getElem?_pos, List.getElem?_cons_zero, decide_eq_true, decide_eq_false, nl_lt, nl_le, ln_lt, ln_le, nl_eq, ln_eq, nl_add, ln_add, nl_sub, ln_mul, nI_sub, nI_mul, nI_add, nI_lt_iff, nI_le_iff, nI_inj, nI_num, mq_ix, nI_1, nl_mul, nl_div, wkc_on hx hj, wkl_on hx, wkc_acts hx hj, wkl_acts hx, wkc_limit hx hj, wkl_limit hx, wkc_generation hx hj, wkl_generation hx, wkc_area hx hj, wkl_area hx, wkc_fend hx hj, wkl_fend hx, wkc_master hx hj, wkl_master hx, wkc_pinOf hx hj, wkl_pinOf hx, wkc_tries hx hj, wkl_tries hx, wkc_own hx hj, wkl_own hx, wkc_creds hx hj, wkl_creds hx, wkc_presses hx hj, wkl_presses hx, wkc_taken hx hj, wkl_taken hx, wkc_answered hx hj, wkl_answered hx, wkc_agreeing hx hj, wkl_agreeing hx, wkc_token hx hj, wkl_token hx, wkc_wrong hx hj, wkl_wrong hx, wkc_heard hx hj, wkl_heard hx, wkc_listed hx hj, wkl_listed hx, wkc_listAt hx hj, wkl_listAt hx, wkc_listHash hx hj, wkl_listHash hx, wkc_listFlags hx hj, wkl_listFlags hx, wkc_answerSize hx hj, wkl_answerSize hx, wkc_flash hx hj, wkl_flash hx hj, r0, r1, r2, g1, g2, narrow_b0, on1]
    · rw [decide_eq_false (fun z => g1 z.2.1)]
      simp (disch := (first | omega | decide)) [S_bx_mcan1_0, S_b8_mkey_1, S_b8_mkey_0, S_b1_mterm_0, S_b1_copy_0, S_b0_mod_7, S_b0_mod_6, S_b0_mod_5, S_b0_mod_3, S_b0_mod_2, S_b0_mod_1, S_b0_mod_0, S_bx_mcan1_1h, S_b0_mod_4h, c315, s315_0, s315_1, s315_2, s315_4, s315_7, s315_10, s315_11, s315_12, s315_13, s315_16, s315_17, s315_20, s315_21, s315_22, s315_25, s315_26, s315_27, s315_28, s315_31, s315_32, s315_35, s315_36, s315_39, s315_40, mq_k0s, mq_k1s, mq_k2s, mq_k4s, mq_k5s, mq_k5n, mq_k5as, mq_k6s, mj_pu, mj_lo, mj_br, mj_hr, mj_hw, mq_gf, mq_len, mq_al, mq_pf, mq_ok, mj_re, mq_lkm, mq_lkn, mj_ldi, mj_ldl, mj_lda, mj_ii, mj_ll, mj_li, mj_i1, ms_1, ms_2, f1_n, f1_i, f1_r, f1_u, f1_l, f2_n, f2_i, f2_r, f2_u, f2_l, mj_tg, mj_c1, mj_c2, mj_ar, mj_aw, mq_cb, mq_oi, mj_rm, Value.category, -getElem?_pos, List.getElem?_cons_zero, decide_eq_true, decide_eq_false, nl_lt, nl_le, ln_lt, ln_le, nl_eq, ln_eq, nl_add, ln_add, nl_sub, ln_mul, nI_sub, nI_mul, nI_add, nI_lt_iff, nI_le_iff, nI_inj, nI_num, mq_ix, nI_1, nl_mul, nl_div, wkc_on hx hj, wkl_on hx, wkc_acts hx hj, wkl_acts hx, wkc_limit hx hj, wkl_limit hx, wkc_generation hx hj, wkl_generation hx, wkc_area hx hj, wkl_area hx, wkc_fend hx hj, wkl_fend hx, wkc_master hx hj, wkl_master hx, wkc_pinOf hx hj, wkl_pinOf hx, wkc_tries hx hj, wkl_tries hx, wkc_own hx hj, wkl_own hx, wkc_creds hx hj, wkl_creds hx, wkc_presses hx hj, wkl_presses hx, wkc_taken hx hj, wkl_taken hx, wkc_answered hx hj, wkl_answered hx, wkc_agreeing hx hj, wkl_agreeing hx, wkc_token hx hj, wkl_token hx, wkc_wrong hx hj, wkl_wrong hx, wkc_heard hx hj, wkl_heard hx, wkc_listed hx hj, wkl_listed hx, wkc_listAt hx hj, wkl_listAt hx, wkc_listHash hx hj, wkl_listHash hx, wkc_listFlags hx hj, wkl_listFlags hx, wkc_answerSize hx hj, wkl_answerSize hx, wkc_flash hx hj, wkl_flash hx hj, r0, r1, g1, narrow_b0, on1]
  · rw [decide_eq_false (fun z => h8 z.1)]
    rw [if_neg h8] at r0
    simp (disch := (first | omega | decide)) [S_bx_mcan1_0, S_b8_mkey_1, S_b8_mkey_0, S_b1_mterm_0, S_b1_copy_0, S_b0_mod_7, S_b0_mod_6, S_b0_mod_5, S_b0_mod_3, S_b0_mod_2, S_b0_mod_1, S_b0_mod_0, S_bx_mcan1_1h, S_b0_mod_4h, c315, s315_0, s315_1, s315_2, s315_4, s315_7, s315_10, s315_11, s315_12, s315_13, s315_16, s315_17, s315_20, s315_21, s315_22, s315_25, s315_26, s315_27, s315_28, s315_31, s315_32, s315_35, s315_36, s315_39, s315_40, mq_k0s, mq_k1s, mq_k2s, mq_k4s, mq_k5s, mq_k5n, mq_k5as, mq_k6s, mj_pu, mj_lo, mj_br, mj_hr, mj_hw, mq_gf, mq_len, mq_al, mq_pf, mq_ok, mj_re, mq_lkm, mq_lkn, mj_ldi, mj_ldl, mj_lda, mj_ii, mj_ll, mj_li, mj_i1, ms_1, ms_2, f1_n, f1_i, f1_r, f1_u, f1_l, f2_n, f2_i, f2_r, f2_u, f2_l, mj_tg, mj_c1, mj_c2, mj_ar, mj_aw, mq_cb, mq_oi, mj_rm, Value.category, -getElem?_pos, List.getElem?_cons_zero, decide_eq_true, decide_eq_false, nl_lt, nl_le, ln_lt, ln_le, nl_eq, ln_eq, nl_add, ln_add, nl_sub, ln_mul, nI_sub, nI_mul, nI_add, nI_lt_iff, nI_le_iff, nI_inj, nI_num, mq_ix, nI_1, nl_mul, nl_div, wkc_on hx hj, wkl_on hx, wkc_acts hx hj, wkl_acts hx, wkc_limit hx hj, wkl_limit hx, wkc_generation hx hj, wkl_generation hx, wkc_area hx hj, wkl_area hx, wkc_fend hx hj, wkl_fend hx, wkc_master hx hj, wkl_master hx, wkc_pinOf hx hj, wkl_pinOf hx, wkc_tries hx hj, wkl_tries hx, wkc_own hx hj, wkl_own hx, wkc_creds hx hj, wkl_creds hx, wkc_presses hx hj, wkl_presses hx, wkc_taken hx hj, wkl_taken hx, wkc_answered hx hj, wkl_answered hx, wkc_agreeing hx hj, wkl_agreeing hx, wkc_token hx hj, wkl_token hx, wkc_wrong hx hj, wkl_wrong hx, wkc_heard hx hj, wkl_heard hx, wkc_listed hx hj, wkl_listed hx, wkc_listAt hx hj, wkl_listAt hx, wkc_listHash hx hj, wkl_listHash hx, wkc_listFlags hx hj, wkl_listFlags hx, wkc_answerSize hx hj, wkl_answerSize hx, wkc_flash hx hj, wkl_flash hx hj, r0, narrow_b0, on1]
end
end
/- c5.mofkey -/
section
set_option maxRecDepth 512
/-! The model: the entries that a key knows. -/
/- 311 PasskeyHouseModel.ofKey(III)I -/
theorem s311_0 {d : Nat} {ls : mj_L} {st : List Value} {M : mj_H} : mj_Rn d mj_m311 0 ls st M = mq_k0 d mj_m311 1 ls M (mj_ldi (mj_lk ls 2) st) := mj_R0 (r := (.iload_n 2, 1, 0, 0, 0)) rfl rfl
theorem s311_1 {d : Nat} {ls : mj_L} {st : List Value} {M : mj_H} : mj_Rn d mj_m311 1 ls st M = mj_Rn d mj_m311 2 ls (.int (-1) :: st) M := mj_R0 (r := (.iconst (-1), 1, 0, 0, 0)) rfl rfl
theorem s311_2 {d : Nat} {ls : mj_L} {st : List Value} {M : mj_H} : mj_Rn d mj_m311 2 ls st M = mq_k2 d mj_m311 ls M (mj_br (.if_icmp .eq 7) 2 st) := mj_R2 (r := (.if_icmp .eq 7, 3, 0, 0, 0)) rfl rfl
theorem s311_5 {d : Nat} {ls : mj_L} {st : List Value} {M : mj_H} : mj_Rn d mj_m311 5 ls st M = mq_k0 d mj_m311 6 ls M (mj_ldi (mj_lk ls 3) st) := mj_R0 (r := (.iload_n 3, 1, 0, 0, 0)) rfl rfl
theorem s311_6 {d : Nat} {ls : mj_L} {st : List Value} {M : mj_H} : mj_Rn d mj_m311 6 ls st M = mq_k2 d mj_m311 ls M (mj_br (.ifCond .ne 7) 6 st) := mj_R2 (r := (.ifCond .ne 7, 3, 0, 0, 0)) rfl rfl
theorem s311_9 {d : Nat} {ls : mj_L} {st : List Value} {M : mj_H} : mj_Rn d mj_m311 9 ls st M = mj_Rn d mj_m311 10 ls (.int 0 :: st) M := mj_R0 (r := (.iconst 0, 1, 0, 0, 0)) rfl rfl
theorem s311_10 {d : Nat} {ls : mj_L} {st : List Value} {M : mj_H} : mj_Rn d mj_m311 10 ls st M = mj_Rn d mj_m311 18 ls st M := mj_R2 (r := (.goto 8, 3, 0, 0, 0)) rfl rfl
theorem s311_13 {d : Nat} {ls : mj_L} {st : List Value} {M : mj_H} : mj_Rn d mj_m311 13 ls st M = mq_k0 d mj_m311 14 ls M (mj_lda (mj_lk ls 0) st) := mj_R0 (r := (.aload_n 0, 1, 0, 0, 0)) rfl rfl
theorem s311_14 {d : Nat} {ls : mj_L} {st : List Value} {M : mj_H} : mj_Rn d mj_m311 14 ls st M = mq_k0 d mj_m311 15 ls M (mj_ldi (mj_lk ls 2) st) := mj_R0 (r := (.iload_n 2, 1, 0, 0, 0)) rfl rfl
theorem s311_15 {d : Nat} {ls : mj_L} {st : List Value} {M : mj_H} : mj_Rn (d + 1) mj_m311 15 ls st M = mq_k5a (d + 1) mj_m311 18 ls M 297 (mq_cb 0 1 11 st M) := mj_R5e (r := (.invokevirtual 402, 3, 0, 297, 36895)) (z := mj_m297) rfl rfl (by decide) (by decide) rfl
theorem s311_18 {d : Nat} {ls : mj_L} {st : List Value} {M : mj_H} : mj_Rn d mj_m311 18 ls st M = mq_k1 d mj_m311 20 M (mj_lo 8 (.istore 4) ls st) := mj_R1 (r := (.istore 4, 2, 0, 0, 0)) rfl rfl
theorem s311_20 {d : Nat} {ls : mj_L} {st : List Value} {M : mj_H} : mj_Rn d mj_m311 20 ls st M = mq_k0 d mj_m311 21 ls M (mj_ldi (mj_lk ls 2) st) := mj_R0 (r := (.iload_n 2, 1, 0, 0, 0)) rfl rfl
theorem s311_21 {d : Nat} {ls : mj_L} {st : List Value} {M : mj_H} : mj_Rn d mj_m311 21 ls st M = mj_Rn d mj_m311 22 ls (.int (-1) :: st) M := mj_R0 (r := (.iconst (-1), 1, 0, 0, 0)) rfl rfl
theorem s311_22 {d : Nat} {ls : mj_L} {st : List Value} {M : mj_H} : mj_Rn d mj_m311 22 ls st M = mq_k2 d mj_m311 ls M (mj_br (.if_icmp .ne 7) 22 st) := mj_R2 (r := (.if_icmp .ne 7, 3, 0, 0, 0)) rfl rfl
theorem s311_25 {d : Nat} {ls : mj_L} {st : List Value} {M : mj_H} : mj_Rn d mj_m311 25 ls st M = mj_Rn d mj_m311 26 ls (.int (-1) :: st) M := mj_R0 (r := (.iconst (-1), 1, 0, 0, 0)) rfl rfl
theorem s311_26 {d : Nat} {ls : mj_L} {st : List Value} {M : mj_H} : mj_Rn d mj_m311 26 ls st M = mj_Rn d mj_m311 34 ls st M := mj_R2 (r := (.goto 8, 3, 0, 0, 0)) rfl rfl
theorem s311_29 {d : Nat} {ls : mj_L} {st : List Value} {M : mj_H} : mj_Rn d mj_m311 29 ls st M = mq_k0 d mj_m311 30 ls M (mj_lda (mj_lk ls 0) st) := mj_R0 (r := (.aload_n 0, 1, 0, 0, 0)) rfl rfl
theorem s311_30 {d : Nat} {ls : mj_L} {st : List Value} {M : mj_H} : mj_Rn d mj_m311 30 ls st M = mq_k0 d mj_m311 31 ls M (mj_ldi (mj_lk ls 2) st) := mj_R0 (r := (.iload_n 2, 1, 0, 0, 0)) rfl rfl
theorem s311_31 {d : Nat} {ls : mj_L} {st : List Value} {M : mj_H} : mj_Rn (d + 1) mj_m311 31 ls st M = mq_k5a (d + 1) mj_m311 34 ls M 295 (mq_cb 0 1 11 st M) := mj_R5e (r := (.invokevirtual 399, 3, 0, 295, 36888)) (z := mj_m295) rfl rfl (by decide) (by decide) rfl
theorem s311_34 {d : Nat} {ls : mj_L} {st : List Value} {M : mj_H} : mj_Rn d mj_m311 34 ls st M = mq_k1 d mj_m311 36 M (mj_lo 8 (.istore 5) ls st) := mj_R1 (r := (.istore 5, 2, 0, 0, 0)) rfl rfl
theorem s311_36 {d : Nat} {ls : mj_L} {st : List Value} {M : mj_H} : mj_Rn d mj_m311 36 ls st M = mj_Rn d mj_m311 37 ls (.int 0 :: st) M := mj_R0 (r := (.iconst 0, 1, 0, 0, 0)) rfl rfl
theorem s311_37 {d : Nat} {ls : mj_L} {st : List Value} {M : mj_H} : mj_Rn d mj_m311 37 ls st M = mq_k1 d mj_m311 39 M (mj_lo 8 (.istore 6) ls st) := mj_R1 (r := (.istore 6, 2, 0, 0, 0)) rfl rfl
theorem s311_39 {d : Nat} {ls : mj_L} {st : List Value} {M : mj_H} : mj_Rn d mj_m311 39 ls st M = mq_k0 d mj_m311 41 ls M (mj_ldi (mj_lk ls 6) st) := mj_R0 (r := (.iload 6, 2, 0, 0, 0)) rfl rfl
theorem s311_41 {d : Nat} {ls : mj_L} {st : List Value} {M : mj_H} : mj_Rn d mj_m311 41 ls st M = mq_k0 d mj_m311 43 ls M (mj_ldi (mj_lk ls 4) st) := mj_R0 (r := (.iload 4, 2, 0, 0, 0)) rfl rfl
theorem s311_43 {d : Nat} {ls : mj_L} {st : List Value} {M : mj_H} : mj_Rn d mj_m311 43 ls st M = mq_k2 d mj_m311 ls M (mj_br (.if_icmp .ge 80) 43 st) := mj_R2 (r := (.if_icmp .ge 80, 3, 0, 0, 0)) rfl rfl
theorem s311_46 {d : Nat} {ls : mj_L} {st : List Value} {M : mj_H} : mj_Rn d mj_m311 46 ls st M = mq_k0 d mj_m311 47 ls M (mj_lda (mj_lk ls 0) st) := mj_R0 (r := (.aload_n 0, 1, 0, 0, 0)) rfl rfl
theorem s311_47 {d : Nat} {ls : mj_L} {st : List Value} {M : mj_H} : mj_Rn d mj_m311 47 ls st M = mq_k0 d mj_m311 49 ls M (mj_ldi (mj_lk ls 5) st) := mj_R0 (r := (.iload 5, 2, 0, 0, 0)) rfl rfl
theorem s311_49 {d : Nat} {ls : mj_L} {st : List Value} {M : mj_H} : mj_Rn d mj_m311 49 ls st M = mj_Rn d mj_m311 52 ls (.int 26980 :: st) M := mj_R0 (r := (.sipush 26980, 3, 0, 0, 0)) rfl rfl
theorem s311_52 {d : Nat} {ls : mj_L} {st : List Value} {M : mj_H} : mj_Rn (d + 1) mj_m311 52 ls st M = mq_k5a (d + 1) mj_m311 55 ls M 304 (mq_cb 0 2 11 st M) := mj_R5e (r := (.invokevirtual 427, 3, 0, 304, 36926)) (z := mj_m304) rfl rfl (by decide) (by decide) rfl
theorem s311_55 {d : Nat} {ls : mj_L} {st : List Value} {M : mj_H} : mj_Rn d mj_m311 55 ls st M = mq_k1 d mj_m311 57 M (mj_lo 8 (.istore 7) ls st) := mj_R1 (r := (.istore 7, 2, 0, 0, 0)) rfl rfl
theorem s311_57 {d : Nat} {ls : mj_L} {st : List Value} {M : mj_H} : mj_Rn d mj_m311 57 ls st M = mq_k0 d mj_m311 58 ls M (mj_lda (mj_lk ls 0) st) := mj_R0 (r := (.aload_n 0, 1, 0, 0, 0)) rfl rfl
theorem s311_58 {d : Nat} {ls : mj_L} {st : List Value} {M : mj_H} : mj_Rn d mj_m311 58 ls st M = mq_k0 d mj_m311 60 ls M (mj_ldi (mj_lk ls 5) st) := mj_R0 (r := (.iload 5, 2, 0, 0, 0)) rfl rfl
theorem s311_60 {d : Nat} {ls : mj_L} {st : List Value} {M : mj_H} : mj_Rn (d + 1) mj_m311 60 ls st M = mq_k5a (d + 1) mj_m311 63 ls M 312 (mq_cb 0 1 11 st M) := mj_R5e (r := (.invokevirtual 454, 3, 0, 312, 36959)) (z := mj_m312) rfl rfl (by decide) (by decide) rfl
theorem s311_63 {d : Nat} {ls : mj_L} {st : List Value} {M : mj_H} : mj_Rn d mj_m311 63 ls st M = mq_k2 d mj_m311 ls M (mj_br (.ifCond .eq 46) 63 st) := mj_R2 (r := (.ifCond .eq 46, 3, 0, 0, 0)) rfl rfl
theorem s311_66 {d : Nat} {ls : mj_L} {st : List Value} {M : mj_H} : mj_Rn d mj_m311 66 ls st M = mq_k0 d mj_m311 67 ls M (mj_lda (mj_lk ls 0) st) := mj_R0 (r := (.aload_n 0, 1, 0, 0, 0)) rfl rfl
theorem s311_67 {d : Nat} {ls : mj_L} {st : List Value} {M : mj_H} : mj_Rn d mj_m311 67 ls st M = mq_k0 d mj_m311 69 ls M (mj_ldi (mj_lk ls 7) st) := mj_R0 (r := (.iload 7, 2, 0, 0, 0)) rfl rfl
theorem s311_69 {d : Nat} {ls : mj_L} {st : List Value} {M : mj_H} : mj_Rn (d + 1) mj_m311 69 ls st M = mq_k5a (d + 1) mj_m311 72 ls M 308 (mq_cb 0 1 11 st M) := mj_R5e (r := (.invokevirtual 457, 3, 0, 308, 36943)) (z := mj_m308) rfl rfl (by decide) (by decide) rfl
theorem s311_72 {d : Nat} {ls : mj_L} {st : List Value} {M : mj_H} : mj_Rn d mj_m311 72 ls st M = mq_k2 d mj_m311 ls M (mj_br (.ifCond .eq 37) 72 st) := mj_R2 (r := (.ifCond .eq 37, 3, 0, 0, 0)) rfl rfl
theorem s311_75 {d : Nat} {ls : mj_L} {st : List Value} {M : mj_H} : mj_Rn d mj_m311 75 ls st M = mq_k0 d mj_m311 76 ls M (mj_lda (mj_lk ls 0) st) := mj_R0 (r := (.aload_n 0, 1, 0, 0, 0)) rfl rfl
theorem s311_76 {d : Nat} {ls : mj_L} {st : List Value} {M : mj_H} : mj_Rn d mj_m311 76 ls st M = mq_k0 d mj_m311 77 ls M (mj_ldi (mj_lk ls 1) st) := mj_R0 (r := (.iload_n 1, 1, 0, 0, 0)) rfl rfl
theorem s311_77 {d : Nat} {ls : mj_L} {st : List Value} {M : mj_H} : mj_Rn d mj_m311 77 ls st M = mq_k0 d mj_m311 78 ls M (mj_lda (mj_lk ls 0) st) := mj_R0 (r := (.aload_n 0, 1, 0, 0, 0)) rfl rfl
theorem s311_78 {d : Nat} {ls : mj_L} {st : List Value} {M : mj_H} : mj_Rn d mj_m311 78 ls st M = mq_k0 d mj_m311 80 ls M (mj_ldi (mj_lk ls 7) st) := mj_R0 (r := (.iload 7, 2, 0, 0, 0)) rfl rfl
theorem s311_80 {d : Nat} {ls : mj_L} {st : List Value} {M : mj_H} : mj_Rn (d + 1) mj_m311 80 ls st M = mq_k5a (d + 1) mj_m311 83 ls M 313 (mq_cb 0 1 11 st M) := mj_R5e (r := (.invokevirtual 460, 3, 0, 313, 36963)) (z := mj_m313) rfl rfl (by decide) (by decide) rfl
theorem s311_83 {d : Nat} {ls : mj_L} {st : List Value} {M : mj_H} : mj_Rn d mj_m311 83 ls st M = mq_k0 d mj_m311 84 ls M (mj_ldi (mj_lk ls 3) st) := mj_R0 (r := (.iload_n 3, 1, 0, 0, 0)) rfl rfl
theorem s311_84 {d : Nat} {ls : mj_L} {st : List Value} {M : mj_H} : mj_Rn (d + 1) mj_m311 84 ls st M = mq_k5a (d + 1) mj_m311 87 ls M 314 (mq_cb 0 3 11 st M) := mj_R5e (r := (.invokevirtual 463, 3, 0, 314, 36967)) (z := mj_m314) rfl rfl (by decide) (by decide) rfl
theorem s311_87 {d : Nat} {ls : mj_L} {st : List Value} {M : mj_H} : mj_Rn d mj_m311 87 ls st M = mj_Rn d mj_m311 88 ls (.int (-1) :: st) M := mj_R0 (r := (.iconst (-1), 1, 0, 0, 0)) rfl rfl
theorem s311_88 {d : Nat} {ls : mj_L} {st : List Value} {M : mj_H} : mj_Rn d mj_m311 88 ls st M = mq_k2 d mj_m311 ls M (mj_br (.if_icmp .ne 18) 88 st) := mj_R2 (r := (.if_icmp .ne 18, 3, 0, 0, 0)) rfl rfl
theorem s311_91 {d : Nat} {ls : mj_L} {st : List Value} {M : mj_H} : mj_Rn d mj_m311 91 ls st M = mq_k0 d mj_m311 92 ls M (mj_lda (mj_lk ls 0) st) := mj_R0 (r := (.aload_n 0, 1, 0, 0, 0)) rfl rfl
theorem s311_92 {d : Nat} {ls : mj_L} {st : List Value} {M : mj_H} : mj_Rn d mj_m311 92 ls st M = mq_k0 d mj_m311 93 ls M (mj_ldi (mj_lk ls 1) st) := mj_R0 (r := (.iload_n 1, 1, 0, 0, 0)) rfl rfl
theorem s311_93 {d : Nat} {ls : mj_L} {st : List Value} {M : mj_H} : mj_Rn d mj_m311 93 ls st M = mq_k0 d mj_m311 94 ls M (mj_lda (mj_lk ls 0) st) := mj_R0 (r := (.aload_n 0, 1, 0, 0, 0)) rfl rfl
theorem s311_94 {d : Nat} {ls : mj_L} {st : List Value} {M : mj_H} : mj_Rn d mj_m311 94 ls st M = mq_k0 d mj_m311 96 ls M (mj_ldi (mj_lk ls 7) st) := mj_R0 (r := (.iload 7, 2, 0, 0, 0)) rfl rfl
theorem s311_96 {d : Nat} {ls : mj_L} {st : List Value} {M : mj_H} : mj_Rn (d + 1) mj_m311 96 ls st M = mq_k5a (d + 1) mj_m311 99 ls M 313 (mq_cb 0 1 11 st M) := mj_R5e (r := (.invokevirtual 460, 3, 0, 313, 36963)) (z := mj_m313) rfl rfl (by decide) (by decide) rfl
theorem s311_99 {d : Nat} {ls : mj_L} {st : List Value} {M : mj_H} : mj_Rn d mj_m311 99 ls st M = mq_k0 d mj_m311 100 ls M (mj_ldi (mj_lk ls 3) st) := mj_R0 (r := (.iload_n 3, 1, 0, 0, 0)) rfl rfl
theorem s311_100 {d : Nat} {ls : mj_L} {st : List Value} {M : mj_H} : mj_Rn (d + 1) mj_m311 100 ls st M = mq_k5a (d + 1) mj_m311 103 ls M 315 (mq_cb 0 3 11 st M) := mj_R5e (r := (.invokevirtual 467, 3, 0, 315, 36971)) (z := mj_m315) rfl rfl (by decide) (by decide) rfl
theorem s311_103 {d : Nat} {ls : mj_L} {st : List Value} {M : mj_H} : mj_Rn d mj_m311 103 ls st M = mq_k2 d mj_m311 ls M (mj_br (.ifCond .eq 6) 103 st) := mj_R2 (r := (.ifCond .eq 6, 3, 0, 0, 0)) rfl rfl
theorem s311_106 {d : Nat} {ls : mj_L} {st : List Value} {M : mj_H} : mj_Rn d mj_m311 106 ls st M = mq_k0 d mj_m311 108 ls M (mj_ldi (mj_lk ls 7) st) := mj_R0 (r := (.iload 7, 2, 0, 0, 0)) rfl rfl
theorem s311_108 {d : Nat} {ls : mj_L} {st : List Value} {M : mj_H} : mj_Rn d mj_m311 108 ls st M = mq_k6 M (mj_re (some .int) (.ireturn) st) := mj_R6 (r := (.ireturn, 1, 0, 0, 0)) rfl rfl
theorem s311_109 {d : Nat} {ls : mj_L} {st : List Value} {M : mj_H} : mj_Rn d mj_m311 109 ls st M = mq_k0 d mj_m311 110 ls M (mj_lda (mj_lk ls 0) st) := mj_R0 (r := (.aload_n 0, 1, 0, 0, 0)) rfl rfl
theorem s311_110 {d : Nat} {ls : mj_L} {st : List Value} {M : mj_H} : mj_Rn d mj_m311 110 ls st M = mq_k0 d mj_m311 112 ls M (mj_ldi (mj_lk ls 5) st) := mj_R0 (r := (.iload 5, 2, 0, 0, 0)) rfl rfl
theorem s311_112 {d : Nat} {ls : mj_L} {st : List Value} {M : mj_H} : mj_Rn (d + 1) mj_m311 112 ls st M = mq_k5a (d + 1) mj_m311 115 ls M 301 (mq_cb 0 1 11 st M) := mj_R5e (r := (.invokevirtual 416, 3, 0, 301, 36913)) (z := mj_m301) rfl rfl (by decide) (by decide) rfl
theorem s311_115 {d : Nat} {ls : mj_L} {st : List Value} {M : mj_H} : mj_Rn d mj_m311 115 ls st M = mq_k1 d mj_m311 117 M (mj_lo 8 (.istore 5) ls st) := mj_R1 (r := (.istore 5, 2, 0, 0, 0)) rfl rfl
theorem s311_117 {d : Nat} {ls : mj_L} {st : List Value} {M : mj_H} : mj_Rn d mj_m311 117 ls st M = mq_k1 d mj_m311 120 M (mj_lo 8 (.iinc 6 1) ls st) := mj_R1 (r := (.iinc 6 1, 3, 0, 0, 0)) rfl rfl
theorem s311_120 {d : Nat} {ls : mj_L} {st : List Value} {M : mj_H} : mj_Rn d mj_m311 120 ls st M = mj_Rn d mj_m311 39 ls st M := mj_R2 (r := (.goto (-81), 3, 0, 0, 0)) rfl rfl
theorem s311_123 {d : Nat} {ls : mj_L} {st : List Value} {M : mj_H} : mj_Rn d mj_m311 123 ls st M = mj_Rn d mj_m311 124 ls (.int (-1) :: st) M := mj_R0 (r := (.iconst (-1), 1, 0, 0, 0)) rfl rfl
theorem s311_124 {d : Nat} {ls : mj_L} {st : List Value} {M : mj_H} : mj_Rn d mj_m311 124 ls st M = mq_k6 M (mj_re (some .int) (.ireturn) st) := mj_R6 (r := (.ireturn, 1, 0, 0, 0)) rfl rfl
/- 317 PasskeyHouseModel.isAlg(I)Z -/
theorem s317_0 {d : Nat} {ls : mj_L} {st : List Value} {M : mj_H} : mj_Rn d mj_m317 0 ls st M = mq_k0 d mj_m317 1 ls M (mj_lda (mj_lk ls 0) st) := mj_R0 (r := (.aload_n 0, 1, 0, 0, 0)) rfl rfl
theorem s317_1 {d : Nat} {ls : mj_L} {st : List Value} {M : mj_H} : mj_Rn d mj_m317 1 ls st M = mq_k0 d mj_m317 2 ls M (mj_ldi (mj_lk ls 1) st) := mj_R0 (r := (.iload_n 1, 1, 0, 0, 0)) rfl rfl
theorem s317_2 {d : Nat} {ls : mj_L} {st : List Value} {M : mj_H} : mj_Rn (d + 1) mj_m317 2 ls st M = mq_k5a (d + 1) mj_m317 5 ls M 297 (mq_cb 0 1 11 st M) := mj_R5e (r := (.invokevirtual 402, 3, 0, 297, 36895)) (z := mj_m297) rfl rfl (by decide) (by decide) rfl
theorem s317_5 {d : Nat} {ls : mj_L} {st : List Value} {M : mj_H} : mj_Rn d mj_m317 5 ls st M = mq_k1 d mj_m317 6 M (mj_lo 5 (.istore 2) ls st) := (mj_R1 (r := (.istore_n 2, 1, 0, 0, 0)) rfl rfl).trans (congrArg (mq_k1 d mj_m317 6 M) (mq_sti (k := 2)))
theorem s317_6 {d : Nat} {ls : mj_L} {st : List Value} {M : mj_H} : mj_Rn d mj_m317 6 ls st M = mq_k0 d mj_m317 7 ls M (mj_lda (mj_lk ls 0) st) := mj_R0 (r := (.aload_n 0, 1, 0, 0, 0)) rfl rfl
theorem s317_7 {d : Nat} {ls : mj_L} {st : List Value} {M : mj_H} : mj_Rn d mj_m317 7 ls st M = mq_k0 d mj_m317 8 ls M (mj_ldi (mj_lk ls 1) st) := mj_R0 (r := (.iload_n 1, 1, 0, 0, 0)) rfl rfl
theorem s317_8 {d : Nat} {ls : mj_L} {st : List Value} {M : mj_H} : mj_Rn (d + 1) mj_m317 8 ls st M = mq_k5a (d + 1) mj_m317 11 ls M 295 (mq_cb 0 1 11 st M) := mj_R5e (r := (.invokevirtual 399, 3, 0, 295, 36888)) (z := mj_m295) rfl rfl (by decide) (by decide) rfl
theorem s317_11 {d : Nat} {ls : mj_L} {st : List Value} {M : mj_H} : mj_Rn d mj_m317 11 ls st M = mq_k1 d mj_m317 12 M (mj_lo 5 (.istore 3) ls st) := (mj_R1 (r := (.istore_n 3, 1, 0, 0, 0)) rfl rfl).trans (congrArg (mq_k1 d mj_m317 12 M) (mq_sti (k := 3)))
theorem s317_12 {d : Nat} {ls : mj_L} {st : List Value} {M : mj_H} : mj_Rn d mj_m317 12 ls st M = mj_Rn d mj_m317 13 ls (.int 0 :: st) M := mj_R0 (r := (.iconst 0, 1, 0, 0, 0)) rfl rfl
theorem s317_13 {d : Nat} {ls : mj_L} {st : List Value} {M : mj_H} : mj_Rn d mj_m317 13 ls st M = mq_k1 d mj_m317 15 M (mj_lo 5 (.istore 4) ls st) := mj_R1 (r := (.istore 4, 2, 0, 0, 0)) rfl rfl
theorem s317_15 {d : Nat} {ls : mj_L} {st : List Value} {M : mj_H} : mj_Rn d mj_m317 15 ls st M = mq_k0 d mj_m317 17 ls M (mj_ldi (mj_lk ls 4) st) := mj_R0 (r := (.iload 4, 2, 0, 0, 0)) rfl rfl
theorem s317_17 {d : Nat} {ls : mj_L} {st : List Value} {M : mj_H} : mj_Rn d mj_m317 17 ls st M = mq_k0 d mj_m317 18 ls M (mj_ldi (mj_lk ls 2) st) := mj_R0 (r := (.iload_n 2, 1, 0, 0, 0)) rfl rfl
theorem s317_18 {d : Nat} {ls : mj_L} {st : List Value} {M : mj_H} : mj_Rn d mj_m317 18 ls st M = mq_k2 d mj_m317 ls M (mj_br (.if_icmp .ge 43) 18 st) := mj_R2 (r := (.if_icmp .ge 43, 3, 0, 0, 0)) rfl rfl
theorem s317_21 {d : Nat} {ls : mj_L} {st : List Value} {M : mj_H} : mj_Rn d mj_m317 21 ls st M = mq_k0 d mj_m317 22 ls M (mj_lda (mj_lk ls 0) st) := mj_R0 (r := (.aload_n 0, 1, 0, 0, 0)) rfl rfl
theorem s317_22 {d : Nat} {ls : mj_L} {st : List Value} {M : mj_H} : mj_Rn d mj_m317 22 ls st M = mq_k0 d mj_m317 23 ls M (mj_ldi (mj_lk ls 3) st) := mj_R0 (r := (.iload_n 3, 1, 0, 0, 0)) rfl rfl
theorem s317_23 {d : Nat} {ls : mj_L} {st : List Value} {M : mj_H} : mj_Rn (d + 1) mj_m317 23 ls st M = mq_k5a (d + 1) mj_m317 26 ls M 312 (mq_cb 0 1 11 st M) := mj_R5e (r := (.invokevirtual 454, 3, 0, 312, 36959)) (z := mj_m312) rfl rfl (by decide) (by decide) rfl
theorem s317_26 {d : Nat} {ls : mj_L} {st : List Value} {M : mj_H} : mj_Rn d mj_m317 26 ls st M = mq_k2 d mj_m317 ls M (mj_br (.ifCond .eq 23) 26 st) := mj_R2 (r := (.ifCond .eq 23, 3, 0, 0, 0)) rfl rfl
theorem s317_29 {d : Nat} {ls : mj_L} {st : List Value} {M : mj_H} : mj_Rn d mj_m317 29 ls st M = mq_k0 d mj_m317 30 ls M (mj_lda (mj_lk ls 0) st) := mj_R0 (r := (.aload_n 0, 1, 0, 0, 0)) rfl rfl
theorem s317_30 {d : Nat} {ls : mj_L} {st : List Value} {M : mj_H} : mj_Rn d mj_m317 30 ls st M = mq_k0 d mj_m317 33 ls M (mq_gf 11 46 st M) := (mj_R3 (r := (.getfield 127, 3, 11, 46, 57400)) rfl rfl).trans (congrArg (mq_k0 d mj_m317 33 ls M) mq_gf_eq)
theorem s317_33 {d : Nat} {ls : mj_L} {st : List Value} {M : mj_H} : mj_Rn d mj_m317 33 ls st M = mq_k0 d mj_m317 34 ls M (mj_lda (mj_lk ls 0) st) := mj_R0 (r := (.aload_n 0, 1, 0, 0, 0)) rfl rfl
theorem s317_34 {d : Nat} {ls : mj_L} {st : List Value} {M : mj_H} : mj_Rn d mj_m317 34 ls st M = mq_k0 d mj_m317 35 ls M (mj_ldi (mj_lk ls 3) st) := mj_R0 (r := (.iload_n 3, 1, 0, 0, 0)) rfl rfl
theorem s317_35 {d : Nat} {ls : mj_L} {st : List Value} {M : mj_H} : mj_Rn d mj_m317 35 ls st M = mj_Rn d mj_m317 38 ls (.int 6384743 :: st) M := mj_R3 (r := (.ldc_w 433, 3, 0, 27, 36938)) rfl rfl
theorem s317_38 {d : Nat} {ls : mj_L} {st : List Value} {M : mj_H} : mj_Rn (d + 1) mj_m317 38 ls st M = mq_k5a (d + 1) mj_m317 41 ls M 304 (mq_cb 0 2 11 st M) := mj_R5e (r := (.invokevirtual 427, 3, 0, 304, 36926)) (z := mj_m304) rfl rfl (by decide) (by decide) rfl
theorem s317_41 {d : Nat} {ls : mj_L} {st : List Value} {M : mj_H} : mj_Rn d mj_m317 41 ls st M = mq_k0 d mj_m317 42 ls M (mq_al [1000] st M) := (mj_R3 (r := (.iaload, 1, 0, 0, 0)) rfl rfl).trans (congrArg (mq_k0 d mj_m317 42 ls M) mq_ali_eq)
theorem s317_42 {d : Nat} {ls : mj_L} {st : List Value} {M : mj_H} : mj_Rn d mj_m317 42 ls st M = mj_Rn d mj_m317 44 ls (.int 38 :: st) M := mj_R0 (r := (.bipush 38, 2, 0, 0, 0)) rfl rfl
theorem s317_44 {d : Nat} {ls : mj_L} {st : List Value} {M : mj_H} : mj_Rn d mj_m317 44 ls st M = mq_k2 d mj_m317 ls M (mj_br (.if_icmp .ne 5) 44 st) := mj_R2 (r := (.if_icmp .ne 5, 3, 0, 0, 0)) rfl rfl
theorem s317_47 {d : Nat} {ls : mj_L} {st : List Value} {M : mj_H} : mj_Rn d mj_m317 47 ls st M = mj_Rn d mj_m317 48 ls (.int 1 :: st) M := mj_R0 (r := (.iconst 1, 1, 0, 0, 0)) rfl rfl
theorem s317_48 {d : Nat} {ls : mj_L} {st : List Value} {M : mj_H} : mj_Rn d mj_m317 48 ls st M = mq_k6 M (mj_re (some .boolean) (.ireturn) st) := mj_R6 (r := (.ireturn, 1, 0, 0, 0)) rfl rfl
theorem s317_49 {d : Nat} {ls : mj_L} {st : List Value} {M : mj_H} : mj_Rn d mj_m317 49 ls st M = mq_k0 d mj_m317 50 ls M (mj_lda (mj_lk ls 0) st) := mj_R0 (r := (.aload_n 0, 1, 0, 0, 0)) rfl rfl
theorem s317_50 {d : Nat} {ls : mj_L} {st : List Value} {M : mj_H} : mj_Rn d mj_m317 50 ls st M = mq_k0 d mj_m317 51 ls M (mj_ldi (mj_lk ls 3) st) := mj_R0 (r := (.iload_n 3, 1, 0, 0, 0)) rfl rfl
theorem s317_51 {d : Nat} {ls : mj_L} {st : List Value} {M : mj_H} : mj_Rn (d + 1) mj_m317 51 ls st M = mq_k5a (d + 1) mj_m317 54 ls M 301 (mq_cb 0 1 11 st M) := mj_R5e (r := (.invokevirtual 416, 3, 0, 301, 36913)) (z := mj_m301) rfl rfl (by decide) (by decide) rfl
theorem s317_54 {d : Nat} {ls : mj_L} {st : List Value} {M : mj_H} : mj_Rn d mj_m317 54 ls st M = mq_k1 d mj_m317 55 M (mj_lo 5 (.istore 3) ls st) := (mj_R1 (r := (.istore_n 3, 1, 0, 0, 0)) rfl rfl).trans (congrArg (mq_k1 d mj_m317 55 M) (mq_sti (k := 3)))
theorem s317_55 {d : Nat} {ls : mj_L} {st : List Value} {M : mj_H} : mj_Rn d mj_m317 55 ls st M = mq_k1 d mj_m317 58 M (mj_lo 5 (.iinc 4 1) ls st) := mj_R1 (r := (.iinc 4 1, 3, 0, 0, 0)) rfl rfl
theorem s317_58 {d : Nat} {ls : mj_L} {st : List Value} {M : mj_H} : mj_Rn d mj_m317 58 ls st M = mj_Rn d mj_m317 15 ls st M := mj_R2 (r := (.goto (-43), 3, 0, 0, 0)) rfl rfl
theorem s317_61 {d : Nat} {ls : mj_L} {st : List Value} {M : mj_H} : mj_Rn d mj_m317 61 ls st M = mj_Rn d mj_m317 62 ls (.int 0 :: st) M := mj_R0 (r := (.iconst 0, 1, 0, 0, 0)) rfl rfl
theorem s317_62 {d : Nat} {ls : mj_L} {st : List Value} {M : mj_H} : mj_Rn d mj_m317 62 ls st M = mq_k6 M (mj_re (some .boolean) (.ireturn) st) := mj_R6 (r := (.ireturn, 1, 0, 0, 0)) rfl rfl
theorem c311 {d : Nat} {a0 : Nat} {x1 : Int32} {x2 : Int32} {x3 : Int32} {M : mj_H} : mj_V (d + 1) 311 [.ref a0, .int x1, .int x2, .int x3] M = mj_Rn d mj_m311 0 [(0, .ref a0), (1, .int x1), (2, .int x2), (3, .int x3)] [] M := mj_V_go rfl (Nat.le_of_ble_eq_true rfl)
theorem c317 {d : Nat} {a0 : Nat} {x1 : Int32} {M : mj_H} : mj_V (d + 1) 317 [.ref a0, .int x1] M = mj_Rn d mj_m317 0 [(0, .ref a0), (1, .int x1)] [] M := mj_V_go rfl (Nat.le_of_ble_eq_true rfl)
def ofP (k : Ky) (T : Tm) (ms : List Int32) (party : Int32) : Nat → Nat → Option Nat
  | 0, _ => none
  | n + 1, e => if ownF k T ms party e then cbNm ms id_ (some e) else ofP k T ms party n (cbE ms e)
def ofO (k : Ky) (T : Tm) (ms : List Int32) (party : Int32) : Option Nat → Option Nat
  | none => none
  | some p => ofP k T ms party (cbV ms p) (cbC ms p)
theorem cbOwn_of {k : Ky} {T : Tm} {ms : List Int32} {party : Int32} : ∀ n e, cbOwn k T ms party n e = o4 ms (ofP k T ms party n e) := by
  intro n
  induction n with
  | zero => intro e; rfl
  | succ n ih =>
    intro e
    unfold cbOwn ofP
    split
    · rfl
    · exact ih _
theorem ky_fo_of {k : Ky} {T : Tm} {ms : List Int32} {party : Int32} (o : Option Nat) : ky_fo k T ms party o = o4 ms (ofO k T ms party o) := by
  cases o with
  | none => rfl
  | some p => exact cbOwn_of _ _
theorem wh_0 {k : Ky} {T : Tm} {party : Int32} (hid : ∀ c ∈ k.1.1.1.1.2.2.2.2.2.2.2.2.2.2.2, c.1 ≠ 0) : ky_wh k T 0 party = -1 := by
  unfold ky_wh
  have : fs_id k.1.1.1.1.2.2.2.2.2.2.2.2.2.2.2 0 party = none := by
    unfold fs_id
    rw [List.findIdx?_eq_none_iff]
    intro c hc
    simp [S_bx_mcan1_0, S_b8_mkey_1, S_b8_mkey_0, S_b1_mterm_0, S_b1_copy_0, S_b0_mod_7, S_b0_mod_6, S_b0_mod_5, S_b0_mod_3, S_b0_mod_2, S_b0_mod_1, S_b0_mod_0, S_bx_mcan1_1h, S_b0_mod_4h, hid c hc]
  rw [this]
  dsimp only
  rw [if_neg]
  intro z
  have h0 : tm_row T.1 0 = [] := by unfold tm_row; rw [if_pos (by decide)]
  rw [h0] at z
  exact absurd z.1 (by decide)
theorem wh_p0 {k : Ky} {T : Tm} {id : Int32} (hpa : ∀ c ∈ k.1.1.1.1.2.2.2.2.2.2.2.2.2.2.2, c.2.1 ≠ 0) (hT : tk8 T) : ky_wh k T id 0 = -1 := by
  unfold ky_wh
  have : fs_id k.1.1.1.1.2.2.2.2.2.2.2.2.2.2.2 id 0 = none := by
    unfold fs_id
    rw [List.findIdx?_eq_none_iff]
    intro c hc
    simp [S_bx_mcan1_0, S_b8_mkey_1, S_b8_mkey_0, S_b1_mterm_0, S_b1_copy_0, S_b0_mod_7, S_b0_mod_6, S_b0_mod_5, S_b0_mod_3, S_b0_mod_2, S_b0_mod_1, S_b0_mod_0, S_bx_mcan1_1h, S_b0_mod_4h, hpa c hc]
  rw [this]
  dsimp only
  rw [if_neg]
  intro z
  exact (hT.w8 id z.1).2 z.2.2
theorem ofP_p0 {k : Ky} {T : Tm} {ms : List Int32} (hpa : ∀ c ∈ k.1.1.1.1.2.2.2.2.2.2.2.2.2.2.2, c.2.1 ≠ 0) (hT : tk8 T) : ∀ n e, ofP k T ms 0 n e = none := by
  intro n
  induction n with
  | zero => intro e; rfl
  | succ n ih =>
    intro e
    unfold ofP
    rw [if_neg, ih]
    unfold ownF
    rw [wh_p0 hpa hT]
    simp [S_bx_mcan1_0, S_b8_mkey_1, S_b8_mkey_0, S_b1_mterm_0, S_b1_copy_0, S_b0_mod_7, S_b0_mod_6, S_b0_mod_5, S_b0_mod_3, S_b0_mod_2, S_b0_mod_1, S_b0_mod_0, S_bx_mcan1_1h, S_b0_mod_4h]
theorem ofP_ne {k : Ky} {T : Tm} {ms : List Int32} {party : Int32} (hid : ∀ c ∈ k.1.1.1.1.2.2.2.2.2.2.2.2.2.2.2, c.1 ≠ 0) : ∀ n e p, ofP k T ms party n e = some p → ky_wh k T (o4 ms (some p)) party ≠ -1 ∧ o4 ms (some p) ≠ 0 := by
  intro n
  induction n with
  | zero => intro e p h; cases h
  | succ n ih =>
    intro e p h
    unfold ofP at h
    split at h
    · next ho =>
      unfold ownF at ho
      rw [h] at ho
      simp only [Bool.and_eq_true, Bool.not_eq_true', decide_eq_false_iff_not] at ho
      refine ⟨ho.2, fun z => ho.2 ?_⟩
      rw [z]
      exact wh_0 hid
    · exact ih _ _ h
section
variable {d : Nat} {B : Bs} {x : Fx} {y : Sy} {j : Nat} {k : Ky} {m : Mk} {T : Tm} {D O ms : List Int32}
theorem o4_w4 (h8 : ∀ v ∈ ms, v &&& 255 = v) {p : Nat} (h2 : cbS ms p = 2) (h4 : cbV ms p = 4) : o4 ms (some p) = w4a ms (cbC ms p) := by
  unfold o4 w4a
  simp only [h2, h4, and_self, if_true]
  exact w4_lo _ (sl_by h8 _ _) (by rw [List.length_take]; omega)
theorem o4_no {p : Nat} (h4 : ¬ cbV ms p = 4) : o4 ms (some p) = 0 := by
  unfold o4
  dsimp only
  rw [if_neg (fun z => h4 z.2)]
theorem lw_and {t : List Int32} {p : Nat} (h : lwF ms t p = true) : (∃ v, cbNm ms t (some p) = some v) ∧ ∃ w, cbNm ms ty_ (some p) = some w := by
  unfold lwF at h
  simp only [Bool.and_eq_true, Bool.not_eq_true', Option.isNone_eq_false_iff, Option.isSome_iff_exists] at h
  exact h
theorem l_ofKey (h : xm x ms) (hx : xk x) (hj : j < 3) (hm : wm m) (h12 : k.1.1.1.1.2.2.2.2.2.2.2.2.2.2.2.length ≤ 12) (hc : cF k.1.1.1.1.2.2.2.2.2.2.2.2.2.2.2 m) (hid : ∀ c ∈ k.1.1.1.1.2.2.2.2.2.2.2.2.2.2.2, c.1 ≠ 0) (hy : yz y T D O) (hT : tk8 T) {party : Int32} {r N : Nat} (hr : r ≤ 4) (hN : N < 2 ^ 31) : ∀ (n i : Nat) (kk : Option (Nat × Nat)) (p q : Nat), cbQ (cbI ms r) ms false n kk p = some q → cbAll ms (lfF ms id_ 2) n p = true → cbAll ms (lwF ms id_) n p = true → p ≤ ms.length → i + n = N →
    mj_Rn (d + 5) mj_m311 39 [(6, .int (nI i)), (5, .int (nI p)), (4, .int (nI N)), (0, .ref 67), (1, .int (nI j)), (3, .int party)] [] (mm B (x.wk j k.1.1.1.1 m) y) = some (some (.int (oP (ofP k T ms party n p))), mm B (x.wk j k.1.1.1.1 m) y) := by
  have hle := h.1.le
  have hpk : y.2.1.2.1.2 = pk_ := hy.s.2.2.1
  intro n
  induction n with
  | zero =>
    intro i kk p q hq hf hw hp hi
    simp only [ofP, oP]
    simp (disch := (first | omega | decide)) [S_bx_mcan1_0, S_b8_mkey_1, S_b8_mkey_0, S_b1_mterm_0, S_b1_copy_0, S_b0_mod_7, S_b0_mod_6, S_b0_mod_5, S_b0_mod_3, S_b0_mod_2, S_b0_mod_1, S_b0_mod_0, S_bx_mcan1_1h, S_b0_mod_4h, s311_0, s311_1, s311_2, s311_5, s311_6, s311_9, s311_10, s311_13, s311_14, s311_15, s311_18, s311_20, s311_21, s311_22, s311_25, s311_26, s311_29, s311_30, s311_31, s311_34, s311_36, s311_37, s311_39, s311_41, s311_43, s311_46, s311_47, s311_49, s311_52, s311_55, s311_57, s311_58, s311_60, s311_63, s311_66, s311_67, s311_69, s311_72, s311_75, s311_76, s311_77, s311_78, s311_80, s311_83, s311_84, s311_87, s311_88, s311_91, s311_92, s311_93, s311_94, s311_96, s311_99, s311_100, s311_103, s311_106, s311_108, s311_109, s311_110, s311_112, s311_115, s311_117, s311_120, s311_123, s311_124, mq_k0s, mq_k1s, mq_k2s, mq_k4s, mq_k5s, mq_k5n, mq_k5as, mq_k6s, mj_pu, mj_lo, mj_br, mj_hr, mj_hw, mq_gf, mq_len, mq_al, mq_pf, mq_ok, mj_re, mq_lkm, mq_lkn, mj_ldi, mj_ldl, mj_lda, mj_ii, mj_ll, mj_li, mj_i1, ms_1, ms_2, f1_n, f1_i, f1_r, f1_u, f1_l, f2_n, f2_i, f2_r, f2_u, f2_l, mj_tg, mj_c1, mj_c2, mj_ar, mj_aw, mq_cb, mq_oi, mj_rm, Value.category, -getElem?_pos, List.getElem?_cons_zero, decide_eq_true, decide_eq_false, nl_lt, nl_le, ln_lt, ln_le, nl_eq, ln_eq, nl_add, ln_add, nl_sub, ln_mul, nI_sub, nI_mul, nI_add, nI_lt_iff, nI_le_iff, nI_inj, nI_num, mq_ix, nI_1, nl_mul, nl_div, show N ≤ i by omega, narrow]
  | succ n ih =>
    intro i kk p q hq hf hw hp hi
    obtain ⟨q1, h1, h3⟩ := cbQ_arr hq
    have l1 := cbI_lt _ _ _ h1
    have e1 := cbE_eq h1 hr
    have hI := Io.mk h1 hr
    unfold cbAll at hf hw
    rw [e1, Bool.and_eq_true] at hf hw
    obtain ⟨h5, f2, f3⟩ := lf_and hf.1
    obtain ⟨⟨v, hv⟩, ⟨w, hw2⟩⟩ := lw_and hw.1
    have r := ih (i + 1) _ q1 q h3 hf.2 hw.2 l1.2 (by omega)
    have hX := h.wk j k.1.1.1.1 m
    have b1 := q_behind (d := d + 2) (B := B) (x := x.wk j k.1.1.1.1 m) (y := y) hX hI
    rw [e1] at b1
    have rn := q_namM (d := d + 1) (B := B) (x := x.wk j k.1.1.1.1 m) (y := y) hX nn_id hI h5
    have s3 : cbS ms w = 3 := by
      rw [hw2] at f3; simpa [S_bx_mcan1_0, S_b8_mkey_1, S_b8_mkey_0, S_b1_mterm_0, S_b1_copy_0, S_b0_mod_7, S_b0_mod_6, S_b0_mod_5, S_b0_mod_3, S_b0_mod_2, S_b0_mod_1, S_b0_mod_0, S_bx_mcan1_1h, S_b0_mod_4h, oFit] using f3
    have s2 : cbS ms v = 2 := by
      rw [hv] at f2; simpa [S_bx_mcan1_0, S_b8_mkey_1, S_b8_mkey_0, S_b1_mterm_0, S_b1_copy_0, S_b0_mod_7, S_b0_mod_6, S_b0_mod_5, S_b0_mod_3, S_b0_mod_2, S_b0_mod_1, S_b0_mod_0, S_bx_mcan1_1h, S_b0_mod_4h, oFit] using f2
    have rp := q_isPk (d := d) (B := B) (x := x.wk j k.1.1.1.1 m) (y := y) hX hpk hI h5 hw2 s3
    rw [hv] at rn
    simp only [oP] at rn
    have hIv : Io ms v := hI.mem hv
    have ok := hIv.ok
    have hk := (cbOk_hd.mp ok).1
    have hin := (cbOk_hd.mp ok).2 (Or.inl s2)
    have hV := hk.2.2.2.2.2.1
    have ri := q_isInt (d := d + 2) (B := B) (x := x.wk j k.1.1.1.1 m) (y := y) hX hk.1 hk.2.2.2.1 hV
    unfold ofP
    rw [e1, hv]
    unfold ownF
    rw [hv]
    generalize oT ms pk_ (cbNm ms ty_ (some p)) = u at *
    generalize ofP k T ms party n q1 = res at *
    rw [s311_39]
    cases u with
    | false =>
      simp only [Bool.false_and, Bool.false_eq_true, if_false]
      simp (disch := (first | omega | decide)) [S_bx_mcan1_0, S_b8_mkey_1, S_b8_mkey_0, S_b1_mterm_0, S_b1_copy_0, S_b0_mod_7, S_b0_mod_6, S_b0_mod_5, S_b0_mod_3, S_b0_mod_2, S_b0_mod_1, S_b0_mod_0, S_bx_mcan1_1h, S_b0_mod_4h, s311_0, s311_1, s311_2, s311_5, s311_6, s311_9, s311_10, s311_13, s311_14, s311_15, s311_18, s311_20, s311_21, s311_22, s311_25, s311_26, s311_29, s311_30, s311_31, s311_34, s311_36, s311_37, s311_41, s311_43, s311_46, s311_47, s311_49, s311_52, s311_55, s311_57, s311_58, s311_60, s311_63, s311_66, s311_67, s311_69, s311_72, s311_75, s311_76, s311_77, s311_78, s311_80, s311_83, s311_84, s311_87, s311_88, s311_91, s311_92, s311_93, s311_94, s311_96, s311_99, s311_100, s311_103, s311_106, s311_108, s311_109, s311_110, s311_112, s311_115, s311_117, s311_120, s311_123, s311_124, mq_k0s, mq_k1s, mq_k2s, mq_k4s, mq_k5s, mq_k5n, mq_k5as, mq_k6s, mj_pu, mj_lo, mj_br, mj_hr, mj_hw, mq_gf, mq_len, mq_al, mq_pf, mq_ok, mj_re, mq_lkm, mq_lkn, mj_ldi, mj_ldl, mj_lda, mj_ii, mj_ll, mj_li, mj_i1, ms_1, ms_2, f1_n, f1_i, f1_r, f1_u, f1_l, f2_n, f2_i, f2_r, f2_u, f2_l, mj_tg, mj_c1, mj_c2, mj_ar, mj_aw, mq_cb, mq_oi, mj_rm, Value.category, -getElem?_pos, List.getElem?_cons_zero, decide_eq_true, decide_eq_false, nl_lt, nl_le, ln_lt, ln_le, nl_eq, ln_eq, nl_add, ln_add, nl_sub, ln_mul, nI_sub, nI_mul, nI_add, nI_lt_iff, nI_le_iff, nI_inj, nI_num, mq_ix, nI_1, nl_mul, nl_div, rn, rp, on1, b1, show ¬ N ≤ i by omega]
      refine mq_wk ?_ r
      simp [S_bx_mcan1_0, S_b8_mkey_1, S_b8_mkey_0, S_b1_mterm_0, S_b1_copy_0, S_b0_mod_7, S_b0_mod_6, S_b0_mod_5, S_b0_mod_3, S_b0_mod_2, S_b0_mod_1, S_b0_mod_0, S_bx_mcan1_1h, S_b0_mod_4h, mq_sub, mj_lk]
    | true =>
      by_cases h4 : cbV ms v = 4
      · rw [h4] at hin
        have rI := q_itemInt (d := d + 2) (B := B) (x := x.wk j k.1.1.1.1 m) (y := y) hX hk.1 hin
        rw [o4_w4 h.2.2 s2 h4]
        have rh := q_heldBy (d := d + 4) (B := B) (y := y) hx hj hm h12 hc (w4a ms (cbC ms v)) party
        have rw_ := q_isWrap (d := d + 3) (B := B) (x := x) (s := k.1.1.1.1) (m := m) hx hj hy hT (w4a ms (cbC ms v)) party
        rw [decide_eq_true h4] at ri
        generalize w4a ms (cbC ms v) = id at *
        unfold ky_wh
        cases hfi : fs_id k.1.1.1.1.2.2.2.2.2.2.2.2.2.2.2 id party with
        | some jj =>
          rw [hfi] at rh
          have hjl : jj < k.1.1.1.1.2.2.2.2.2.2.2.2.2.2.2.length := by
            unfold fs_id at hfi
            exact (List.findIdx?_eq_some_iff_getElem.mp hfi).1
          have hne : ¬ nI jj = -1 := fun z => (nI_m1 (a := jj) (by omega)).mp z
          simp only [oI] at rh
          simp only [hne, decide_false, Bool.not_false, Bool.and_self, if_true, oP]
          simp (disch := (first | omega | decide)) [S_bx_mcan1_0, S_b8_mkey_1, S_b8_mkey_0, S_b1_mterm_0, S_b1_copy_0, S_b0_mod_7, S_b0_mod_6, S_b0_mod_5, S_b0_mod_3, S_b0_mod_2, S_b0_mod_1, S_b0_mod_0, S_bx_mcan1_1h, S_b0_mod_4h, s311_0, s311_1, s311_2, s311_5, s311_6, s311_9, s311_10, s311_13, s311_14, s311_15, s311_18, s311_20, s311_21, s311_22, s311_25, s311_26, s311_29, s311_30, s311_31, s311_34, s311_36, s311_37, s311_41, s311_43, s311_46, s311_47, s311_49, s311_52, s311_55, s311_57, s311_58, s311_60, s311_63, s311_66, s311_67, s311_69, s311_72, s311_75, s311_76, s311_77, s311_78, s311_80, s311_83, s311_84, s311_87, s311_88, s311_91, s311_92, s311_93, s311_94, s311_96, s311_99, s311_100, s311_103, s311_106, s311_108, s311_109, s311_110, s311_112, s311_115, s311_117, s311_120, s311_123, s311_124, mq_k0s, mq_k1s, mq_k2s, mq_k4s, mq_k5s, mq_k5n, mq_k5as, mq_k6s, mj_pu, mj_lo, mj_br, mj_hr, mj_hw, mq_gf, mq_len, mq_al, mq_pf, mq_ok, mj_re, mq_lkm, mq_lkn, mj_ldi, mj_ldl, mj_lda, mj_ii, mj_ll, mj_li, mj_i1, ms_1, ms_2, f1_n, f1_i, f1_r, f1_u, f1_l, f2_n, f2_i, f2_r, f2_u, f2_l, mj_tg, mj_c1, mj_c2, mj_ar, mj_aw, mq_cb, mq_oi, mj_rm, Value.category, -getElem?_pos, List.getElem?_cons_zero, decide_eq_true, decide_eq_false, nl_lt, nl_le, ln_lt, ln_le, nl_eq, ln_eq, nl_add, ln_add, nl_sub, ln_mul, nI_sub, nI_mul, nI_add, nI_lt_iff, nI_le_iff, nI_inj, nI_num, mq_ix, nI_1, nl_mul, nl_div, rn, rp, ri, rI, rh, hne, on1, show ¬ N ≤ i by omega, narrow]
        | none =>
          rw [hfi] at rh
          simp only [oI] at rh
          by_cases hwr : bt_at (tm_row T.1 id) 0 = 8 ∧ bt_at (tm_row T.1 id) 1 = k.1.1.1.1.2.2.2.2.2.2.2.1 ∧ bt_at (tm_row T.1 id) 2 = party
          · rw [decide_eq_true hwr] at rw_
            simp only [if_pos hwr, show ¬ ((-2 : Int32) = -1) by decide, decide_false, Bool.not_false, Bool.and_self, if_true, oP]
            simp (disch := (first | omega | decide)) [S_bx_mcan1_0, S_b8_mkey_1, S_b8_mkey_0, S_b1_mterm_0, S_b1_copy_0, S_b0_mod_7, S_b0_mod_6, S_b0_mod_5, S_b0_mod_3, S_b0_mod_2, S_b0_mod_1, S_b0_mod_0, S_bx_mcan1_1h, S_b0_mod_4h, s311_0, s311_1, s311_2, s311_5, s311_6, s311_9, s311_10, s311_13, s311_14, s311_15, s311_18, s311_20, s311_21, s311_22, s311_25, s311_26, s311_29, s311_30, s311_31, s311_34, s311_36, s311_37, s311_41, s311_43, s311_46, s311_47, s311_49, s311_52, s311_55, s311_57, s311_58, s311_60, s311_63, s311_66, s311_67, s311_69, s311_72, s311_75, s311_76, s311_77, s311_78, s311_80, s311_83, s311_84, s311_87, s311_88, s311_91, s311_92, s311_93, s311_94, s311_96, s311_99, s311_100, s311_103, s311_106, s311_108, s311_109, s311_110, s311_112, s311_115, s311_117, s311_120, s311_123, s311_124, mq_k0s, mq_k1s, mq_k2s, mq_k4s, mq_k5s, mq_k5n, mq_k5as, mq_k6s, mj_pu, mj_lo, mj_br, mj_hr, mj_hw, mq_gf, mq_len, mq_al, mq_pf, mq_ok, mj_re, mq_lkm, mq_lkn, mj_ldi, mj_ldl, mj_lda, mj_ii, mj_ll, mj_li, mj_i1, ms_1, ms_2, f1_n, f1_i, f1_r, f1_u, f1_l, f2_n, f2_i, f2_r, f2_u, f2_l, mj_tg, mj_c1, mj_c2, mj_ar, mj_aw, mq_cb, mq_oi, mj_rm, Value.category, -getElem?_pos, List.getElem?_cons_zero, decide_eq_true, decide_eq_false, nl_lt, nl_le, ln_lt, ln_le, nl_eq, ln_eq, nl_add, ln_add, nl_sub, ln_mul, nI_sub, nI_mul, nI_add, nI_lt_iff, nI_le_iff, nI_inj, nI_num, mq_ix, nI_1, nl_mul, nl_div, rn, rp, ri, rI, rh, rw_, on1, show ¬ N ≤ i by omega, narrow]
          · rw [decide_eq_false hwr] at rw_
            simp only [if_neg hwr, decide_true, Bool.not_true, Bool.and_false, Bool.false_eq_true, if_false]
            simp (disch := (first | omega | decide)) [S_bx_mcan1_0, S_b8_mkey_1, S_b8_mkey_0, S_b1_mterm_0, S_b1_copy_0, S_b0_mod_7, S_b0_mod_6, S_b0_mod_5, S_b0_mod_3, S_b0_mod_2, S_b0_mod_1, S_b0_mod_0, S_bx_mcan1_1h, S_b0_mod_4h, s311_0, s311_1, s311_2, s311_5, s311_6, s311_9, s311_10, s311_13, s311_14, s311_15, s311_18, s311_20, s311_21, s311_22, s311_25, s311_26, s311_29, s311_30, s311_31, s311_34, s311_36, s311_37, s311_41, s311_43, s311_46, s311_47, s311_49, s311_52, s311_55, s311_57, s311_58, s311_60, s311_63, s311_66, s311_67, s311_69, s311_72, s311_75, s311_76, s311_77, s311_78, s311_80, s311_83, s311_84, s311_87, s311_88, s311_91, s311_92, s311_93, s311_94, s311_96, s311_99, s311_100, s311_103, s311_106, s311_108, s311_109, s311_110, s311_112, s311_115, s311_117, s311_120, s311_123, s311_124, mq_k0s, mq_k1s, mq_k2s, mq_k4s, mq_k5s, mq_k5n, mq_k5as, mq_k6s, mj_pu, mj_lo, mj_br, mj_hr, mj_hw, mq_gf, mq_len, mq_al, mq_pf, mq_ok, mj_re, mq_lkm, mq_lkn, mj_ldi, mj_ldl, mj_lda, mj_ii, mj_ll, mj_li, mj_i1, ms_1, ms_2, f1_n, f1_i, f1_r, f1_u, f1_l, f2_n, f2_i, f2_r, f2_u, f2_l, mj_tg, mj_c1, mj_c2, mj_ar, mj_aw, mq_cb, mq_oi, mj_rm, Value.category, -getElem?_pos, List.getElem?_cons_zero, decide_eq_true, decide_eq_false, nl_lt, nl_le, ln_lt, ln_le, nl_eq, ln_eq, nl_add, ln_add, nl_sub, ln_mul, nI_sub, nI_mul, nI_add, nI_lt_iff, nI_le_iff, nI_inj, nI_num, mq_ix, nI_1, nl_mul, nl_div, rn, rp, ri, rI, rh, rw_, on1, b1, show ¬ N ≤ i by omega]
            refine mq_wk ?_ r
            simp [S_bx_mcan1_0, S_b8_mkey_1, S_b8_mkey_0, S_b1_mterm_0, S_b1_copy_0, S_b0_mod_7, S_b0_mod_6, S_b0_mod_5, S_b0_mod_3, S_b0_mod_2, S_b0_mod_1, S_b0_mod_0, S_bx_mcan1_1h, S_b0_mod_4h, mq_sub, mj_lk]
      · have h0 : o4 ms (some v) = 0 := o4_no h4
        rw [h0, wh_0 hid]
        rw [decide_eq_false h4] at ri
        simp only [decide_true, Bool.not_true, Bool.and_false, Bool.false_eq_true, if_false]
        simp (disch := (first | omega | decide)) [S_bx_mcan1_0, S_b8_mkey_1, S_b8_mkey_0, S_b1_mterm_0, S_b1_copy_0, S_b0_mod_7, S_b0_mod_6, S_b0_mod_5, S_b0_mod_3, S_b0_mod_2, S_b0_mod_1, S_b0_mod_0, S_bx_mcan1_1h, S_b0_mod_4h, s311_0, s311_1, s311_2, s311_5, s311_6, s311_9, s311_10, s311_13, s311_14, s311_15, s311_18, s311_20, s311_21, s311_22, s311_25, s311_26, s311_29, s311_30, s311_31, s311_34, s311_36, s311_37, s311_41, s311_43, s311_46, s311_47, s311_49, s311_52, s311_55, s311_57, s311_58, s311_60, s311_63, s311_66, s311_67, s311_69, s311_72, s311_75, s311_76, s311_77, s311_78, s311_80, s311_83, s311_84, s311_87, s311_88, s311_91, s311_92, s311_93, s311_94, s311_96, s311_99, s311_100, s311_103, s311_106, s311_108, s311_109, s311_110, s311_112, s311_115, s311_117, s311_120, s311_123, s311_124, mq_k0s, mq_k1s, mq_k2s, mq_k4s, mq_k5s, mq_k5n, mq_k5as, mq_k6s, mj_pu, mj_lo, mj_br, mj_hr, mj_hw, mq_gf, mq_len, mq_al, mq_pf, mq_ok, mj_re, mq_lkm, mq_lkn, mj_ldi, mj_ldl, mj_lda, mj_ii, mj_ll, mj_li, mj_i1, ms_1, ms_2, f1_n, f1_i, f1_r, f1_u, f1_l, f2_n, f2_i, f2_r, f2_u, f2_l, mj_tg, mj_c1, mj_c2, mj_ar, mj_aw, mq_cb, mq_oi, mj_rm, Value.category, -getElem?_pos, List.getElem?_cons_zero, decide_eq_true, decide_eq_false, nl_lt, nl_le, ln_lt, ln_le, nl_eq, ln_eq, nl_add, ln_add, nl_sub, ln_mul, nI_sub, nI_mul, nI_add, nI_lt_iff, nI_le_iff, nI_inj, nI_num, mq_ix, nI_1, nl_mul, nl_div, rn, rp, ri, on1, b1, show ¬ N ≤ i by omega]
        refine mq_wk ?_ r
        simp [S_bx_mcan1_0, S_b8_mkey_1, S_b8_mkey_0, S_b1_mterm_0, S_b1_copy_0, S_b0_mod_7, S_b0_mod_6, S_b0_mod_5, S_b0_mod_3, S_b0_mod_2, S_b0_mod_1, S_b0_mod_0, S_bx_mcan1_1h, S_b0_mod_4h, mq_sub, mj_lk]
theorem q_ofKey (h : xm x ms) (hx : xk x) (hj : j < 3) (hm : wm m) (h12 : k.1.1.1.1.2.2.2.2.2.2.2.2.2.2.2.length ≤ 12) (hc : cF k.1.1.1.1.2.2.2.2.2.2.2.2.2.2.2 m) (hid : ∀ c ∈ k.1.1.1.1.2.2.2.2.2.2.2.2.2.2.2, c.1 ≠ 0) (hpa : ∀ c ∈ k.1.1.1.1.2.2.2.2.2.2.2.2.2.2.2, c.2.1 ≠ 0) (hy : yz y T D O) (hT : tk8 T) {party : Int32} {o : Option Nat} (ho : oJ ms o) (hf : cbLf ms id_ 2 o = true) (hw : cbLw ms id_ o = true) : mj_V (d + 6) 311 [.ref 67, .int (nI j), .int (oP o), .int party] (mm B (x.wk j k.1.1.1.1 m) y) = some (some (.int (oP (ofO k T ms party o))), mm B (x.wk j k.1.1.1.1 m) y) := by
  cases o with
  | none =>
    simp only [oP, ofO]
    simp (disch := (first | omega | decide)) [S_bx_mcan1_0, S_b8_mkey_1, S_b8_mkey_0, S_b1_mterm_0, S_b1_copy_0, S_b0_mod_7, S_b0_mod_6, S_b0_mod_5, S_b0_mod_3, S_b0_mod_2, S_b0_mod_1, S_b0_mod_0, S_bx_mcan1_1h, S_b0_mod_4h, c311, s311_0, s311_1, s311_2, s311_5, s311_6, s311_9, s311_10, s311_13, s311_14, s311_15, s311_18, s311_20, s311_21, s311_22, s311_25, s311_26, s311_29, s311_30, s311_31, s311_34, s311_36, s311_37, s311_41, s311_43, s311_46, s311_47, s311_49, s311_52, s311_55, s311_57, s311_58, s311_60, s311_63, s311_66, s311_67, s311_69, s311_72, s311_75, s311_76, s311_77, s311_78, s311_80, s311_83, s311_84, s311_87, s311_88, s311_91, s311_92, s311_93, s311_94, s311_96, s311_99, s311_100, s311_103, s311_106, s311_108, s311_109, s311_110, s311_112, s311_115, s311_117, s311_120, s311_123, s311_124, mq_k0s, mq_k1s, mq_k2s, mq_k4s, mq_k5s, mq_k5n, mq_k5as, mq_k6s, mj_pu, mj_lo, mj_br, mj_hr, mj_hw, mq_gf, mq_len, mq_al, mq_pf, mq_ok, mj_re, mq_lkm, mq_lkn, mj_ldi, mj_ldl, mj_lda, mj_ii, mj_ll, mj_li, mj_i1, ms_1, ms_2, f1_n, f1_i, f1_r, f1_u, f1_l, f2_n, f2_i, f2_r, f2_u, f2_l, mj_tg, mj_c1, mj_c2, mj_ar, mj_aw, mq_cb, mq_oi, mj_rm, Value.category, -getElem?_pos, List.getElem?_cons_zero, decide_eq_true, decide_eq_false, nl_lt, nl_le, ln_lt, ln_le, nl_eq, ln_eq, nl_add, ln_add, nl_sub, ln_mul, nI_sub, nI_mul, nI_add, nI_lt_iff, nI_le_iff, nI_inj, nI_num, mq_ix, nI_1, nl_mul, nl_div]
    rw [s311_39]
    simp (disch := (first | omega | decide)) [S_bx_mcan1_0, S_b8_mkey_1, S_b8_mkey_0, S_b1_mterm_0, S_b1_copy_0, S_b0_mod_7, S_b0_mod_6, S_b0_mod_5, S_b0_mod_3, S_b0_mod_2, S_b0_mod_1, S_b0_mod_0, S_bx_mcan1_1h, S_b0_mod_4h, s311_0, s311_1, s311_2, s311_5, s311_6, s311_9, s311_10, s311_13, s311_14, s311_15, s311_18, s311_20, s311_21, s311_22, s311_25, s311_26, s311_29, s311_30, s311_31, s311_34, s311_36, s311_37, s311_41, s311_43, s311_46, s311_47, s311_49, s311_52, s311_55, s311_57, s311_58, s311_60, s311_63, s311_66, s311_67, s311_69, s311_72, s311_75, s311_76, s311_77, s311_78, s311_80, s311_83, s311_84, s311_87, s311_88, s311_91, s311_92, s311_93, s311_94, s311_96, s311_99, s311_100, s311_103, s311_106, s311_108, s311_109, s311_110, s311_112, s311_115, s311_117, s311_120, s311_123, s311_124, mq_k0s, mq_k1s, mq_k2s, mq_k4s, mq_k5s, mq_k5n, mq_k5as, mq_k6s, mj_pu, mj_lo, mj_br, mj_hr, mj_hw, mq_gf, mq_len, mq_al, mq_pf, mq_ok, mj_re, mq_lkm, mq_lkn, mj_ldi, mj_ldl, mj_lda, mj_ii, mj_ll, mj_li, mj_i1, ms_1, ms_2, f1_n, f1_i, f1_r, f1_u, f1_l, f2_n, f2_i, f2_r, f2_u, f2_l, mj_tg, mj_c1, mj_c2, mj_ar, mj_aw, mq_cb, mq_oi, mj_rm, Value.category, -getElem?_pos, List.getElem?_cons_zero, decide_eq_true, decide_eq_false, nl_lt, nl_le, ln_lt, ln_le, nl_eq, ln_eq, nl_add, ln_add, nl_sub, ln_mul, nI_sub, nI_mul, nI_add, nI_lt_iff, nI_le_iff, nI_inj, nI_num, mq_ix, nI_1, nl_mul, nl_div, narrow]
  | some p =>
    have hi := ho p rfl
    have ok := hi.ok
    have hk := (cbOk_hd.mp ok).1
    have hp9 := Io.l9 h hi
    have hX := h.wk j k.1.1.1.1 m
    have r2 := q_numberAt (d := d + 3) (B := B) (x := x.wk j k.1.1.1.1 m) (y := y) hX hk.1 hk.2.2.2.1
    have rb := q_behindHead (d := d + 3) (B := B) (x := x.wk j k.1.1.1.1 m) (y := y) hX hk.1
    rw [show oP (some p) = nI p from rfl, show ofO k T ms party (some p) = ofP k T ms party (cbV ms p) (cbC ms p) from rfl]
    by_cases h0 : party = 0
    · subst h0
      rw [ofP_p0 hpa hT]
      simp only [oP]
      simp (disch := (first | omega | decide)) [S_bx_mcan1_0, S_b8_mkey_1, S_b8_mkey_0, S_b1_mterm_0, S_b1_copy_0, S_b0_mod_7, S_b0_mod_6, S_b0_mod_5, S_b0_mod_3, S_b0_mod_2, S_b0_mod_1, S_b0_mod_0, S_bx_mcan1_1h, S_b0_mod_4h, c311, s311_0, s311_1, s311_2, s311_5, s311_6, s311_9, s311_10, s311_13, s311_14, s311_15, s311_18, s311_20, s311_21, s311_22, s311_25, s311_26, s311_29, s311_30, s311_31, s311_34, s311_36, s311_37, s311_41, s311_43, s311_46, s311_47, s311_49, s311_52, s311_55, s311_57, s311_58, s311_60, s311_63, s311_66, s311_67, s311_69, s311_72, s311_75, s311_76, s311_77, s311_78, s311_80, s311_83, s311_84, s311_87, s311_88, s311_91, s311_92, s311_93, s311_94, s311_96, s311_99, s311_100, s311_103, s311_106, s311_108, s311_109, s311_110, s311_112, s311_115, s311_117, s311_120, s311_123, s311_124, mq_k0s, mq_k1s, mq_k2s, mq_k4s, mq_k5s, mq_k5n, mq_k5as, mq_k6s, mj_pu, mj_lo, mj_br, mj_hr, mj_hw, mq_gf, mq_len, mq_al, mq_pf, mq_ok, mj_re, mq_lkm, mq_lkn, mj_ldi, mj_ldl, mj_lda, mj_ii, mj_ll, mj_li, mj_i1, ms_1, ms_2, f1_n, f1_i, f1_r, f1_u, f1_l, f2_n, f2_i, f2_r, f2_u, f2_l, mj_tg, mj_c1, mj_c2, mj_ar, mj_aw, mq_cb, mq_oi, mj_rm, Value.category, -getElem?_pos, List.getElem?_cons_zero, decide_eq_true, decide_eq_false, nl_lt, nl_le, ln_lt, ln_le, nl_eq, ln_eq, nl_add, ln_add, nl_sub, ln_mul, nI_sub, nI_mul, nI_add, nI_lt_iff, nI_le_iff, nI_inj, nI_num, mq_ix, nI_1, nl_mul, nl_div, rb, hp9.2]
      rw [s311_39]
      simp (disch := (first | omega | decide)) [S_bx_mcan1_0, S_b8_mkey_1, S_b8_mkey_0, S_b1_mterm_0, S_b1_copy_0, S_b0_mod_7, S_b0_mod_6, S_b0_mod_5, S_b0_mod_3, S_b0_mod_2, S_b0_mod_1, S_b0_mod_0, S_bx_mcan1_1h, S_b0_mod_4h, s311_0, s311_1, s311_2, s311_5, s311_6, s311_9, s311_10, s311_13, s311_14, s311_15, s311_18, s311_20, s311_21, s311_22, s311_25, s311_26, s311_29, s311_30, s311_31, s311_34, s311_36, s311_37, s311_41, s311_43, s311_46, s311_47, s311_49, s311_52, s311_55, s311_57, s311_58, s311_60, s311_63, s311_66, s311_67, s311_69, s311_72, s311_75, s311_76, s311_77, s311_78, s311_80, s311_83, s311_84, s311_87, s311_88, s311_91, s311_92, s311_93, s311_94, s311_96, s311_99, s311_100, s311_103, s311_106, s311_108, s311_109, s311_110, s311_112, s311_115, s311_117, s311_120, s311_123, s311_124, mq_k0s, mq_k1s, mq_k2s, mq_k4s, mq_k5s, mq_k5n, mq_k5as, mq_k6s, mj_pu, mj_lo, mj_br, mj_hr, mj_hw, mq_gf, mq_len, mq_al, mq_pf, mq_ok, mj_re, mq_lkm, mq_lkn, mj_ldi, mj_ldl, mj_lda, mj_ii, mj_ll, mj_li, mj_i1, ms_1, ms_2, f1_n, f1_i, f1_r, f1_u, f1_l, f2_n, f2_i, f2_r, f2_u, f2_l, mj_tg, mj_c1, mj_c2, mj_ar, mj_aw, mq_cb, mq_oi, mj_rm, Value.category, -getElem?_pos, List.getElem?_cons_zero, decide_eq_true, decide_eq_false, nl_lt, nl_le, ln_lt, ln_le, nl_eq, ln_eq, nl_add, ln_add, nl_sub, ln_mul, nI_sub, nI_mul, nI_add, nI_lt_iff, nI_le_iff, nI_inj, nI_num, mq_ix, nI_1, nl_mul, nl_div, narrow]
    · unfold cbLf at hf
      unfold cbLw at hw
      rw [Bool.and_eq_true, decide_eq_true_iff] at hf
      obtain ⟨r, hr, hq⟩ := hi.arr hf.1
      have rl := l_ofKey (d := d) (B := B) h hx hj hm h12 hc hid hy hT (party := party) (r := r) (by omega) hk.2.2.2.2.2.1 (cbV ms p) 0 none (cbC ms p) _ hq hf.2 hw ok.c.2 (by omega)
      rw [nI_0] at rl
      generalize oP (ofP k T ms party (cbV ms p) (cbC ms p)) = res at *
      simp (disch := (first | omega | decide)) [S_bx_mcan1_0, S_b8_mkey_1, S_b8_mkey_0, S_b1_mterm_0, S_b1_copy_0, S_b0_mod_7, S_b0_mod_6, S_b0_mod_5, S_b0_mod_3, S_b0_mod_2, S_b0_mod_1, S_b0_mod_0, S_bx_mcan1_1h, S_b0_mod_4h, c311, s311_0, s311_1, s311_2, s311_5, s311_6, s311_9, s311_10, s311_13, s311_14, s311_15, s311_18, s311_20, s311_21, s311_22, s311_25, s311_26, s311_29, s311_30, s311_31, s311_34, s311_36, s311_37, s311_41, s311_43, s311_46, s311_47, s311_49, s311_52, s311_55, s311_57, s311_58, s311_60, s311_63, s311_66, s311_67, s311_69, s311_72, s311_75, s311_76, s311_77, s311_78, s311_80, s311_83, s311_84, s311_87, s311_88, s311_91, s311_92, s311_93, s311_94, s311_96, s311_99, s311_100, s311_103, s311_106, s311_108, s311_109, s311_110, s311_112, s311_115, s311_117, s311_120, s311_123, s311_124, mq_k0s, mq_k1s, mq_k2s, mq_k4s, mq_k5s, mq_k5n, mq_k5as, mq_k6s, mj_pu, mj_lo, mj_br, mj_hr, mj_hw, mq_gf, mq_len, mq_al, mq_pf, mq_ok, mj_re, mq_lkm, mq_lkn, mj_ldi, mj_ldl, mj_lda, mj_ii, mj_ll, mj_li, mj_i1, ms_1, ms_2, f1_n, f1_i, f1_r, f1_u, f1_l, f2_n, f2_i, f2_r, f2_u, f2_l, mj_tg, mj_c1, mj_c2, mj_ar, mj_aw, mq_cb, mq_oi, mj_rm, Value.category, -getElem?_pos, List.getElem?_cons_zero, decide_eq_true, decide_eq_false, nl_lt, nl_le, ln_lt, ln_le, nl_eq, ln_eq, nl_add, ln_add, nl_sub, ln_mul, nI_sub, nI_mul, nI_add, nI_lt_iff, nI_le_iff, nI_inj, nI_num, mq_ix, nI_1, nl_mul, nl_div, r2, rb, hp9.2, h0]
      refine mq_wk ?_ rl
      simp [S_bx_mcan1_0, S_b8_mkey_1, S_b8_mkey_0, S_b1_mterm_0, S_b1_copy_0, S_b0_mod_7, S_b0_mod_6, S_b0_mod_5, S_b0_mod_3, S_b0_mod_2, S_b0_mod_1, S_b0_mod_0, S_bx_mcan1_1h, S_b0_mod_4h, mq_sub, mj_lk]
theorem neg_b {p : Nat} (ok : cbOk ms p) : (cbS ms p = 1 ∧ cbV ms p = 6) ↔ cbB ms p = 38 := by
  have hk := (cbOk_hd.mp ok).1.2.2.2.2.1
  have hS : cbS ms p = cbB ms p / 32 := rfl
  have hX : cbX ms p = cbB ms p % 32 := rfl
  have hV : cbX ms p < 24 → cbV ms p = cbX ms p := fun z => by unfold cbV; rw [if_pos z]
  constructor
  · rintro ⟨a, b⟩
    by_cases z : cbX ms p < 24
    · have := hV z; omega
    · omega
  · intro a
    have := hV (by omega)
    omega
theorem l_isAlg (h : xm x ms) (hpk : y.2.1.2.1.2 = pk_) {r N : Nat} (hr : r ≤ 4) (hN : N < 2 ^ 31) : ∀ (n i : Nat) (kk : Option (Nat × Nat)) (p q : Nat), cbQ (cbI ms r) ms false n kk p = some q → cbAll ms (lfF ms alg_ 8) n p = true → cbAll ms (lwF ms alg_) n p = true → p ≤ ms.length → i + n = N →
    mj_Rn (d + 5) mj_m317 15 [(4, .int (nI i)), (3, .int (nI p)), (2, .int (nI N)), (0, .ref 67)] [] (mm B x y) = some (some (.int (on1 (cbAny ms (algF ms) n p))), mm B x y) := by
  have hle := h.1.le
  have hl : x.2.1.1.1.2.2.length = 640 := by obtain ⟨g, -, hl⟩ := h.1; exact hl
  intro n
  induction n with
  | zero =>
    intro i kk p q hq hf hw hp hi
    simp only [cbAny]
    simp (disch := (first | omega | decide)) [S_bx_mcan1_0, S_b8_mkey_1, S_b8_mkey_0, S_b1_mterm_0, S_b1_copy_0, S_b0_mod_7, S_b0_mod_6, S_b0_mod_5, S_b0_mod_3, S_b0_mod_2, S_b0_mod_1, S_b0_mod_0, S_bx_mcan1_1h, S_b0_mod_4h, s317_0, s317_1, s317_2, s317_5, s317_6, s317_7, s317_8, s317_11, s317_12, s317_13, s317_15, s317_17, s317_18, s317_21, s317_22, s317_23, s317_26, s317_29, s317_30, s317_33, s317_34, s317_35, s317_38, s317_41, s317_42, s317_44, s317_47, s317_48, s317_49, s317_50, s317_51, s317_54, s317_55, s317_58, s317_61, s317_62, mq_k0s, mq_k1s, mq_k2s, mq_k4s, mq_k5s, mq_k5n, mq_k5as, mq_k6s, mj_pu, mj_lo, mj_br, mj_hr, mj_hw, mq_gf, mq_len, mq_al, mq_pf, mq_ok, mj_re, mq_lkm, mq_lkn, mj_ldi, mj_ldl, mj_lda, mj_ii, mj_ll, mj_li, mj_i1, ms_1, ms_2, f1_n, f1_i, f1_r, f1_u, f1_l, f2_n, f2_i, f2_r, f2_u, f2_l, mj_tg, mj_c1, mj_c2, mj_ar, mj_aw, mq_cb, mq_oi, mj_rm, Value.category, -getElem?_pos, List.getElem?_cons_zero, decide_eq_true, decide_eq_false, nl_lt, nl_le, ln_lt, ln_le, nl_eq, ln_eq, nl_add, ln_add, nl_sub, ln_mul, nI_sub, nI_mul, nI_add, nI_lt_iff, nI_le_iff, nI_inj, nI_num, mq_ix, nI_1, nl_mul, nl_div, show N ≤ i by omega, narrow_b0, on1]
  | succ n ih =>
    intro i kk p q hq hf hw hp hi
    obtain ⟨q1, h1, h3⟩ := cbQ_arr hq
    have l1 := cbI_lt _ _ _ h1
    have e1 := cbE_eq h1 hr
    have hI := Io.mk h1 hr
    unfold cbAll at hf hw
    rw [e1, Bool.and_eq_true] at hf hw
    obtain ⟨h5, f2, f3⟩ := lf_and hf.1
    obtain ⟨⟨v, hv⟩, ⟨w, hw2⟩⟩ := lw_and hw.1
    have r := ih (i + 1) _ q1 q h3 hf.2 hw.2 l1.2 (by omega)
    have b1 := q_behind (d := d + 2) (B := B) (x := x) (y := y) h hI
    rw [e1] at b1
    have rn := q_namM (d := d + 1) (B := B) (x := x) (y := y) h nn_alg hI h5
    have s3 : cbS ms w = 3 := by
      rw [hw2] at f3; simpa [S_bx_mcan1_0, S_b8_mkey_1, S_b8_mkey_0, S_b1_mterm_0, S_b1_copy_0, S_b0_mod_7, S_b0_mod_6, S_b0_mod_5, S_b0_mod_3, S_b0_mod_2, S_b0_mod_1, S_b0_mod_0, S_bx_mcan1_1h, S_b0_mod_4h, oFit] using f3
    have rp := q_isPk (d := d) (B := B) (x := x) (y := y) h hpk hI h5 hw2 s3
    rw [hv] at rn
    simp only [oP] at rn
    have hIv : Io ms v := hI.mem hv
    have ok := hIv.ok
    obtain ⟨g, gb⟩ := h.at ok.1
    have hv9 := Io.l9 h hIv
    unfold cbAny
    rw [e1]
    have ea : algF ms p = (decide (cbB ms v = 38) && oT ms pk_ (cbNm ms ty_ (some p))) := by
      unfold algF
      rw [hv]
      dsimp only
      rw [← Bool.decide_and, decide_eq_decide.mpr (neg_b ok)]
    rw [ea]
    generalize oT ms pk_ (cbNm ms ty_ (some p)) = u at *
    generalize cbAny ms (algF ms) n q1 = res at *
    rw [s317_15]
    cases u with
    | false =>
      simp only [Bool.and_false, Bool.false_or]
      simp (disch := (first | omega | decide)) [S_bx_mcan1_0, S_b8_mkey_1, S_b8_mkey_0, S_b1_mterm_0, S_b1_copy_0, S_b0_mod_7, S_b0_mod_6, S_b0_mod_5, S_b0_mod_3, S_b0_mod_2, S_b0_mod_1, S_b0_mod_0, S_bx_mcan1_1h, S_b0_mod_4h, s317_0, s317_1, s317_2, s317_5, s317_6, s317_7, s317_8, s317_11, s317_12, s317_13, s317_17, s317_18, s317_21, s317_22, s317_23, s317_26, s317_29, s317_30, s317_33, s317_34, s317_35, s317_38, s317_41, s317_42, s317_44, s317_47, s317_48, s317_49, s317_50, s317_51, s317_54, s317_55, s317_58, s317_61, s317_62, mq_k0s, mq_k1s, mq_k2s, mq_k4s, mq_k5s, mq_k5n, mq_k5as, mq_k6s, mj_pu, mj_lo, mj_br, mj_hr, mj_hw, mq_gf, mq_len, mq_al, mq_pf, mq_ok, mj_re, mq_lkm, mq_lkn, mj_ldi, mj_ldl, mj_lda, mj_ii, mj_ll, mj_li, mj_i1, ms_1, ms_2, f1_n, f1_i, f1_r, f1_u, f1_l, f2_n, f2_i, f2_r, f2_u, f2_l, mj_tg, mj_c1, mj_c2, mj_ar, mj_aw, mq_cb, mq_oi, mj_rm, Value.category, -getElem?_pos, List.getElem?_cons_zero, decide_eq_true, decide_eq_false, nl_lt, nl_le, ln_lt, ln_le, nl_eq, ln_eq, nl_add, ln_add, nl_sub, ln_mul, nI_sub, nI_mul, nI_add, nI_lt_iff, nI_le_iff, nI_inj, nI_num, mq_ix, nI_1, nl_mul, nl_div, rn, rp, on1, b1, show ¬ N ≤ i by omega]
      refine mq_wk ?_ r
      simp [S_bx_mcan1_0, S_b8_mkey_1, S_b8_mkey_0, S_b1_mterm_0, S_b1_copy_0, S_b0_mod_7, S_b0_mod_6, S_b0_mod_5, S_b0_mod_3, S_b0_mod_2, S_b0_mod_1, S_b0_mod_0, S_bx_mcan1_1h, S_b0_mod_4h, mq_sub, mj_lk, on1]
    | true =>
      by_cases hc : cbB ms v = 38
      · simp only [hc, decide_true, Bool.and_self, Bool.true_or]
        rw [hc] at g
        simp (disch := (first | omega | decide)) [S_bx_mcan1_0, S_b8_mkey_1, S_b8_mkey_0, S_b1_mterm_0, S_b1_copy_0, S_b0_mod_7, S_b0_mod_6, S_b0_mod_5, S_b0_mod_3, S_b0_mod_2, S_b0_mod_1, S_b0_mod_0, S_bx_mcan1_1h, S_b0_mod_4h, s317_0, s317_1, s317_2, s317_5, s317_6, s317_7, s317_8, s317_11, s317_12, s317_13, s317_17, s317_18, s317_21, s317_22, s317_23, s317_26, s317_29, s317_30, s317_33, s317_34, s317_35, s317_38, s317_41, s317_42, s317_44, s317_47, s317_48, s317_49, s317_50, s317_51, s317_54, s317_55, s317_58, s317_61, s317_62, mq_k0s, mq_k1s, mq_k2s, mq_k4s, mq_k5s, mq_k5n, mq_k5as, mq_k6s, mj_pu, mj_lo, mj_br, mj_hr, mj_hw, mq_gf, mq_len, mq_al, mq_pf, mq_ok, mj_re, mq_lkm, mq_lkn, mj_ldi, mj_ldl, mj_lda, mj_ii, mj_ll, mj_li, mj_i1, ms_1, ms_2, f1_n, f1_i, f1_r, f1_u, f1_l, f2_n, f2_i, f2_r, f2_u, f2_l, mj_tg, mj_c1, mj_c2, mj_ar, mj_aw, mq_cb, mq_oi, mj_rm, Value.category, -getElem?_pos, List.getElem?_cons_zero, decide_eq_true, decide_eq_false, nl_lt, nl_le, ln_lt, ln_le, nl_eq, ln_eq, nl_add, ln_add, nl_sub, ln_mul, nI_sub, nI_mul, nI_add, nI_lt_iff, nI_le_iff, nI_inj, nI_num, mq_ix, nI_1, nl_mul, nl_div, rn, rp, on1, g, hl, show ¬ N ≤ i by omega, narrow_b1]
      · simp only [hc, decide_false, Bool.false_and, Bool.false_or]
        simp (disch := (first | omega | decide)) [S_bx_mcan1_0, S_b8_mkey_1, S_b8_mkey_0, S_b1_mterm_0, S_b1_copy_0, S_b0_mod_7, S_b0_mod_6, S_b0_mod_5, S_b0_mod_3, S_b0_mod_2, S_b0_mod_1, S_b0_mod_0, S_bx_mcan1_1h, S_b0_mod_4h, s317_0, s317_1, s317_2, s317_5, s317_6, s317_7, s317_8, s317_11, s317_12, s317_13, s317_17, s317_18, s317_21, s317_22, s317_23, s317_26, s317_29, s317_30, s317_33, s317_34, s317_35, s317_38, s317_41, s317_42, s317_44, s317_47, s317_48, s317_49, s317_50, s317_51, s317_54, s317_55, s317_58, s317_61, s317_62, mq_k0s, mq_k1s, mq_k2s, mq_k4s, mq_k5s, mq_k5n, mq_k5as, mq_k6s, mj_pu, mj_lo, mj_br, mj_hr, mj_hw, mq_gf, mq_len, mq_al, mq_pf, mq_ok, mj_re, mq_lkm, mq_lkn, mj_ldi, mj_ldl, mj_lda, mj_ii, mj_ll, mj_li, mj_i1, ms_1, ms_2, f1_n, f1_i, f1_r, f1_u, f1_l, f2_n, f2_i, f2_r, f2_u, f2_l, mj_tg, mj_c1, mj_c2, mj_ar, mj_aw, mq_cb, mq_oi, mj_rm, Value.category, -getElem?_pos, List.getElem?_cons_zero, decide_eq_true, decide_eq_false, nl_lt, nl_le, ln_lt, ln_le, nl_eq, ln_eq, nl_add, ln_add, nl_sub, ln_mul, nI_sub, nI_mul, nI_add, nI_lt_iff, nI_le_iff, nI_inj, nI_num, mq_ix, nI_1, nl_mul, nl_div, rn, rp, on1, g, hl, hc, b1, show ¬ N ≤ i by omega]
        refine mq_wk ?_ r
        simp [S_bx_mcan1_0, S_b8_mkey_1, S_b8_mkey_0, S_b1_mterm_0, S_b1_copy_0, S_b0_mod_7, S_b0_mod_6, S_b0_mod_5, S_b0_mod_3, S_b0_mod_2, S_b0_mod_1, S_b0_mod_0, S_bx_mcan1_1h, S_b0_mod_4h, mq_sub, mj_lk, on1]
theorem q_isAlg (h : xm x ms) (hpk : y.2.1.2.1.2 = pk_) {p : Nat} (hi : Io ms p) (hf : cbLf ms alg_ 8 (some p) = true) (hw : cbLw ms alg_ (some p) = true) : mj_V (d + 6) 317 [.ref 67, .int (nI p)] (mm B x y) = some (some (.int (on1 (ky_ha ms (some p)))), mm B x y) := by
  have ok := hi.ok
  have hk := (cbOk_hd.mp ok).1
  have r2 := q_numberAt (d := d + 3) (B := B) (x := x) (y := y) h hk.1 hk.2.2.2.1
  have rb := q_behindHead (d := d + 3) (B := B) (x := x) (y := y) h hk.1
  unfold cbLf at hf
  unfold cbLw at hw
  rw [Bool.and_eq_true, decide_eq_true_iff] at hf
  obtain ⟨r, hr, hq⟩ := hi.arr hf.1
  have rl := l_isAlg (d := d) (B := B) (y := y) h hpk (r := r) (by omega) hk.2.2.2.2.2.1 (cbV ms p) 0 none (cbC ms p) _ hq hf.2 hw ok.c.2 (by omega)
  rw [nI_0] at rl
  simp only [ky_ha]
  generalize on1 (cbAny ms (algF ms) (cbV ms p) (cbC ms p)) = res at *
  simp (disch := (first | omega | decide)) [S_bx_mcan1_0, S_b8_mkey_1, S_b8_mkey_0, S_b1_mterm_0, S_b1_copy_0, S_b0_mod_7, S_b0_mod_6, S_b0_mod_5, S_b0_mod_3, S_b0_mod_2, S_b0_mod_1, S_b0_mod_0, S_bx_mcan1_1h, S_b0_mod_4h, c317, s317_0, s317_1, s317_2, s317_5, s317_6, s317_7, s317_8, s317_11, s317_12, s317_13, s317_17, s317_18, s317_21, s317_22, s317_23, s317_26, s317_29, s317_30, s317_33, s317_34, s317_35, s317_38, s317_41, s317_42, s317_44, s317_47, s317_48, s317_49, s317_50, s317_51, s317_54, s317_55, s317_58, s317_61, s317_62, mq_k0s, mq_k1s, mq_k2s, mq_k4s, mq_k5s, mq_k5n, mq_k5as, mq_k6s, mj_pu, mj_lo, mj_br, mj_hr, mj_hw, mq_gf, mq_len, mq_al, mq_pf, mq_ok, mj_re, mq_lkm, mq_lkn, mj_ldi, mj_ldl, mj_lda, mj_ii, mj_ll, mj_li, mj_i1, ms_1, ms_2, f1_n, f1_i, f1_r, f1_u, f1_l, f2_n, f2_i, f2_r, f2_u, f2_l, mj_tg, mj_c1, mj_c2, mj_ar, mj_aw, mq_cb, mq_oi, mj_rm, Value.category, -getElem?_pos, List.getElem?_cons_zero, decide_eq_true, decide_eq_false, nl_lt, nl_le, ln_lt, ln_le, nl_eq, ln_eq, nl_add, ln_add, nl_sub, ln_mul, nI_sub, nI_mul, nI_add, nI_lt_iff, nI_le_iff, nI_inj, nI_num, mq_ix, nI_1, nl_mul, nl_div, r2, rb]
  refine mq_wk ?_ rl
  simp [S_bx_mcan1_0, S_b8_mkey_1, S_b8_mkey_0, S_b1_mterm_0, S_b1_copy_0, S_b0_mod_7, S_b0_mod_6, S_b0_mod_5, S_b0_mod_3, S_b0_mod_2, S_b0_mod_1, S_b0_mod_0, S_bx_mcan1_1h, S_b0_mod_4h, mq_sub, mj_lk]
end
end
/- c6.mpin -/
section
set_option maxRecDepth 512
/-! The model: the test of a mark; room for one more. -/
/- 319 PasskeyHouseModel.pinTest(IIII)I -/
theorem s319_0 {d : Nat} {ls : mj_L} {st : List Value} {M : mj_H} : mj_Rn d mj_m319 0 ls st M = mq_k0 d mj_m319 1 ls M (mj_lda (mj_lk ls 0) st) := mj_R0 (r := (.aload_n 0, 1, 0, 0, 0)) rfl rfl
theorem s319_1 {d : Nat} {ls : mj_L} {st : List Value} {M : mj_H} : mj_Rn d mj_m319 1 ls st M = mq_k0 d mj_m319 2 ls M (mj_ldi (mj_lk ls 2) st) := mj_R0 (r := (.iload_n 2, 1, 0, 0, 0)) rfl rfl
theorem s319_2 {d : Nat} {ls : mj_L} {st : List Value} {M : mj_H} : mj_Rn (d + 1) mj_m319 2 ls st M = mq_k5a (d + 1) mj_m319 5 ls M 297 (mq_cb 0 1 11 st M) := mj_R5e (r := (.invokevirtual 402, 3, 0, 297, 36895)) (z := mj_m297) rfl rfl (by decide) (by decide) rfl
theorem s319_5 {d : Nat} {ls : mj_L} {st : List Value} {M : mj_H} : mj_Rn d mj_m319 5 ls st M = mq_k2 d mj_m319 ls M (mj_br (.ifCond .ne 33) 5 st) := mj_R2 (r := (.ifCond .ne 33, 3, 0, 0, 0)) rfl rfl
theorem s319_8 {d : Nat} {ls : mj_L} {st : List Value} {M : mj_H} : mj_Rn d mj_m319 8 ls st M = mq_k0 d mj_m319 9 ls M (mj_lda (mj_lk ls 0) st) := mj_R0 (r := (.aload_n 0, 1, 0, 0, 0)) rfl rfl
theorem s319_9 {d : Nat} {ls : mj_L} {st : List Value} {M : mj_H} : mj_Rn d mj_m319 9 ls st M = mq_k0 d mj_m319 10 ls M (mj_ldi (mj_lk ls 1) st) := mj_R0 (r := (.iload_n 1, 1, 0, 0, 0)) rfl rfl
theorem s319_10 {d : Nat} {ls : mj_L} {st : List Value} {M : mj_H} : mj_Rn (d + 1) mj_m319 10 ls st M = mq_k5a (d + 1) mj_m319 13 ls M 285 (mq_cb 0 1 11 st M) := mj_R5e (r := (.invokevirtual 470, 3, 0, 285, 32991)) (z := mj_m285) rfl rfl (by decide) (by decide) rfl
theorem s319_13 {d : Nat} {ls : mj_L} {st : List Value} {M : mj_H} : mj_Rn d mj_m319 13 ls st M = mq_k2 d mj_m319 ls M (mj_br (.ifCond .ne 8) 13 st) := mj_R2 (r := (.ifCond .ne 8, 3, 0, 0, 0)) rfl rfl
theorem s319_16 {d : Nat} {ls : mj_L} {st : List Value} {M : mj_H} : mj_Rn d mj_m319 16 ls st M = mj_Rn d mj_m319 18 ls (.int 39 :: st) M := mj_R0 (r := (.bipush 39, 2, 0, 0, 0)) rfl rfl
theorem s319_18 {d : Nat} {ls : mj_L} {st : List Value} {M : mj_H} : mj_Rn d mj_m319 18 ls st M = mj_Rn d mj_m319 37 ls st M := mj_R2 (r := (.goto 19, 3, 0, 0, 0)) rfl rfl
theorem s319_21 {d : Nat} {ls : mj_L} {st : List Value} {M : mj_H} : mj_Rn d mj_m319 21 ls st M = mq_k0 d mj_m319 22 ls M (mj_lda (mj_lk ls 0) st) := mj_R0 (r := (.aload_n 0, 1, 0, 0, 0)) rfl rfl
theorem s319_22 {d : Nat} {ls : mj_L} {st : List Value} {M : mj_H} : mj_Rn d mj_m319 22 ls st M = mq_k0 d mj_m319 25 ls M (mq_gf 11 24 st M) := (mj_R3 (r := (.getfield 64, 3, 11, 24, 57356)) rfl rfl).trans (congrArg (mq_k0 d mj_m319 25 ls M) mq_gf_eq)
theorem s319_25 {d : Nat} {ls : mj_L} {st : List Value} {M : mj_H} : mj_Rn d mj_m319 25 ls st M = mq_k0 d mj_m319 26 ls M (mj_ldi (mj_lk ls 1) st) := mj_R0 (r := (.iload_n 1, 1, 0, 0, 0)) rfl rfl
theorem s319_26 {d : Nat} {ls : mj_L} {st : List Value} {M : mj_H} : mj_Rn d mj_m319 26 ls st M = mq_k0 d mj_m319 27 ls M (mq_al [1000] st M) := (mj_R3 (r := (.iaload, 1, 0, 0, 0)) rfl rfl).trans (congrArg (mq_k0 d mj_m319 27 ls M) mq_ali_eq)
theorem s319_27 {d : Nat} {ls : mj_L} {st : List Value} {M : mj_H} : mj_Rn d mj_m319 27 ls st M = mq_k2 d mj_m319 ls M (mj_br (.ifCond .eq 8) 27 st) := mj_R2 (r := (.ifCond .eq 8, 3, 0, 0, 0)) rfl rfl
theorem s319_30 {d : Nat} {ls : mj_L} {st : List Value} {M : mj_H} : mj_Rn d mj_m319 30 ls st M = mj_Rn d mj_m319 32 ls (.int 49 :: st) M := mj_R0 (r := (.bipush 49, 2, 0, 0, 0)) rfl rfl
theorem s319_32 {d : Nat} {ls : mj_L} {st : List Value} {M : mj_H} : mj_Rn d mj_m319 32 ls st M = mj_Rn d mj_m319 37 ls st M := mj_R2 (r := (.goto 5, 3, 0, 0, 0)) rfl rfl
theorem s319_35 {d : Nat} {ls : mj_L} {st : List Value} {M : mj_H} : mj_Rn d mj_m319 35 ls st M = mj_Rn d mj_m319 37 ls (.int 53 :: st) M := mj_R0 (r := (.bipush 53, 2, 0, 0, 0)) rfl rfl
theorem s319_37 {d : Nat} {ls : mj_L} {st : List Value} {M : mj_H} : mj_Rn d mj_m319 37 ls st M = mq_k6 M (mj_re (some .int) (.ireturn) st) := mj_R6 (r := (.ireturn, 1, 0, 0, 0)) rfl rfl
theorem s319_38 {d : Nat} {ls : mj_L} {st : List Value} {M : mj_H} : mj_Rn d mj_m319 38 ls st M = mq_k0 d mj_m319 39 ls M (mj_ldi (mj_lk ls 3) st) := mj_R0 (r := (.iload_n 3, 1, 0, 0, 0)) rfl rfl
theorem s319_39 {d : Nat} {ls : mj_L} {st : List Value} {M : mj_H} : mj_Rn d mj_m319 39 ls st M = mj_Rn d mj_m319 40 ls (.int (-1) :: st) M := mj_R0 (r := (.iconst (-1), 1, 0, 0, 0)) rfl rfl
theorem s319_40 {d : Nat} {ls : mj_L} {st : List Value} {M : mj_H} : mj_Rn d mj_m319 40 ls st M = mq_k2 d mj_m319 ls M (mj_br (.if_icmp .eq 12) 40 st) := mj_R2 (r := (.if_icmp .eq 12, 3, 0, 0, 0)) rfl rfl
theorem s319_43 {d : Nat} {ls : mj_L} {st : List Value} {M : mj_H} : mj_Rn d mj_m319 43 ls st M = mq_k0 d mj_m319 44 ls M (mj_lda (mj_lk ls 0) st) := mj_R0 (r := (.aload_n 0, 1, 0, 0, 0)) rfl rfl
theorem s319_44 {d : Nat} {ls : mj_L} {st : List Value} {M : mj_H} : mj_Rn d mj_m319 44 ls st M = mq_k0 d mj_m319 45 ls M (mj_ldi (mj_lk ls 3) st) := mj_R0 (r := (.iload_n 3, 1, 0, 0, 0)) rfl rfl
theorem s319_45 {d : Nat} {ls : mj_L} {st : List Value} {M : mj_H} : mj_Rn (d + 1) mj_m319 45 ls st M = mq_k5a (d + 1) mj_m319 48 ls M 297 (mq_cb 0 1 11 st M) := mj_R5e (r := (.invokevirtual 402, 3, 0, 297, 36895)) (z := mj_m297) rfl rfl (by decide) (by decide) rfl
theorem s319_48 {d : Nat} {ls : mj_L} {st : List Value} {M : mj_H} : mj_Rn d mj_m319 48 ls st M = mj_Rn d mj_m319 49 ls (.int 1 :: st) M := mj_R0 (r := (.iconst 1, 1, 0, 0, 0)) rfl rfl
theorem s319_49 {d : Nat} {ls : mj_L} {st : List Value} {M : mj_H} : mj_Rn d mj_m319 49 ls st M = mq_k2 d mj_m319 ls M (mj_br (.if_icmp .eq 6) 49 st) := mj_R2 (r := (.if_icmp .eq 6, 3, 0, 0, 0)) rfl rfl
theorem s319_52 {d : Nat} {ls : mj_L} {st : List Value} {M : mj_H} : mj_Rn d mj_m319 52 ls st M = mj_Rn d mj_m319 54 ls (.int 51 :: st) M := mj_R0 (r := (.bipush 51, 2, 0, 0, 0)) rfl rfl
theorem s319_54 {d : Nat} {ls : mj_L} {st : List Value} {M : mj_H} : mj_Rn d mj_m319 54 ls st M = mq_k6 M (mj_re (some .int) (.ireturn) st) := mj_R6 (r := (.ireturn, 1, 0, 0, 0)) rfl rfl
theorem s319_55 {d : Nat} {ls : mj_L} {st : List Value} {M : mj_H} : mj_Rn d mj_m319 55 ls st M = mq_k0 d mj_m319 56 ls M (mj_lda (mj_lk ls 0) st) := mj_R0 (r := (.aload_n 0, 1, 0, 0, 0)) rfl rfl
theorem s319_56 {d : Nat} {ls : mj_L} {st : List Value} {M : mj_H} : mj_Rn d mj_m319 56 ls st M = mq_k0 d mj_m319 59 ls M (mq_gf 11 24 st M) := (mj_R3 (r := (.getfield 64, 3, 11, 24, 57356)) rfl rfl).trans (congrArg (mq_k0 d mj_m319 59 ls M) mq_gf_eq)
theorem s319_59 {d : Nat} {ls : mj_L} {st : List Value} {M : mj_H} : mj_Rn d mj_m319 59 ls st M = mq_k0 d mj_m319 60 ls M (mj_ldi (mj_lk ls 1) st) := mj_R0 (r := (.iload_n 1, 1, 0, 0, 0)) rfl rfl
theorem s319_60 {d : Nat} {ls : mj_L} {st : List Value} {M : mj_H} : mj_Rn d mj_m319 60 ls st M = mq_k0 d mj_m319 61 ls M (mq_al [1000] st M) := (mj_R3 (r := (.iaload, 1, 0, 0, 0)) rfl rfl).trans (congrArg (mq_k0 d mj_m319 61 ls M) mq_ali_eq)
theorem s319_61 {d : Nat} {ls : mj_L} {st : List Value} {M : mj_H} : mj_Rn d mj_m319 61 ls st M = mq_k2 d mj_m319 ls M (mj_br (.ifCond .ne 6) 61 st) := mj_R2 (r := (.ifCond .ne 6, 3, 0, 0, 0)) rfl rfl
theorem s319_64 {d : Nat} {ls : mj_L} {st : List Value} {M : mj_H} : mj_Rn d mj_m319 64 ls st M = mj_Rn d mj_m319 66 ls (.int 53 :: st) M := mj_R0 (r := (.bipush 53, 2, 0, 0, 0)) rfl rfl
theorem s319_66 {d : Nat} {ls : mj_L} {st : List Value} {M : mj_H} : mj_Rn d mj_m319 66 ls st M = mq_k6 M (mj_re (some .int) (.ireturn) st) := mj_R6 (r := (.ireturn, 1, 0, 0, 0)) rfl rfl
theorem s319_67 {d : Nat} {ls : mj_L} {st : List Value} {M : mj_H} : mj_Rn d mj_m319 67 ls st M = mq_k0 d mj_m319 68 ls M (mj_lda (mj_lk ls 0) st) := mj_R0 (r := (.aload_n 0, 1, 0, 0, 0)) rfl rfl
theorem s319_68 {d : Nat} {ls : mj_L} {st : List Value} {M : mj_H} : mj_Rn d mj_m319 68 ls st M = mj_Rn d mj_m319 70 ls (.int 10 :: st) M := mj_R0 (r := (.bipush 10, 2, 0, 0, 0)) rfl rfl
theorem s319_70 {d : Nat} {ls : mj_L} {st : List Value} {M : mj_H} : mj_Rn (d + 1) mj_m319 70 ls st M = mq_k5a (d + 1) mj_m319 73 ls M 242 (mq_cb 0 1 11 st M) := mj_R5e (r := (.invokevirtual 279, 3, 0, 242, 32824)) (z := mj_m242) rfl rfl (by decide) (by decide) rfl
theorem s319_73 {d : Nat} {ls : mj_L} {st : List Value} {M : mj_H} : mj_Rn d mj_m319 73 ls st M = mq_k0 d mj_m319 74 ls M (mj_lda (mj_lk ls 0) st) := mj_R0 (r := (.aload_n 0, 1, 0, 0, 0)) rfl rfl
theorem s319_74 {d : Nat} {ls : mj_L} {st : List Value} {M : mj_H} : mj_Rn d mj_m319 74 ls st M = mq_k0 d mj_m319 75 ls M (mj_lda (mj_lk ls 0) st) := mj_R0 (r := (.aload_n 0, 1, 0, 0, 0)) rfl rfl
theorem s319_75 {d : Nat} {ls : mj_L} {st : List Value} {M : mj_H} : mj_Rn d mj_m319 75 ls st M = mq_k0 d mj_m319 78 ls M (mq_gf 11 35 st M) := (mj_R3 (r := (.getfield 97, 3, 11, 35, 57378)) rfl rfl).trans (congrArg (mq_k0 d mj_m319 78 ls M) mq_gf_eq)
theorem s319_78 {d : Nat} {ls : mj_L} {st : List Value} {M : mj_H} : mj_Rn d mj_m319 78 ls st M = mq_k0 d mj_m319 79 ls M (mj_ldi (mj_lk ls 1) st) := mj_R0 (r := (.iload_n 1, 1, 0, 0, 0)) rfl rfl
theorem s319_79 {d : Nat} {ls : mj_L} {st : List Value} {M : mj_H} : mj_Rn d mj_m319 79 ls st M = mq_k0 d mj_m319 80 ls M (mq_al [1000] st M) := (mj_R3 (r := (.iaload, 1, 0, 0, 0)) rfl rfl).trans (congrArg (mq_k0 d mj_m319 80 ls M) mq_ali_eq)
theorem s319_80 {d : Nat} {ls : mj_L} {st : List Value} {M : mj_H} : mj_Rn (d + 1) mj_m319 80 ls st M = mq_k5a (d + 1) mj_m319 83 ls M 243 (mq_cb 0 1 11 st M) := mj_R5e (r := (.invokevirtual 258, 3, 0, 243, 32828)) (z := mj_m243) rfl rfl (by decide) (by decide) rfl
theorem s319_83 {d : Nat} {ls : mj_L} {st : List Value} {M : mj_H} : mj_Rn d mj_m319 83 ls st M = mq_k0 d mj_m319 84 ls M (mj_lda (mj_lk ls 0) st) := mj_R0 (r := (.aload_n 0, 1, 0, 0, 0)) rfl rfl
theorem s319_84 {d : Nat} {ls : mj_L} {st : List Value} {M : mj_H} : mj_Rn d mj_m319 84 ls st M = mq_k0 d mj_m319 85 ls M (mj_lda (mj_lk ls 0) st) := mj_R0 (r := (.aload_n 0, 1, 0, 0, 0)) rfl rfl
theorem s319_85 {d : Nat} {ls : mj_L} {st : List Value} {M : mj_H} : mj_Rn d mj_m319 85 ls st M = mq_k0 d mj_m319 88 ls M (mq_gf 11 46 st M) := (mj_R3 (r := (.getfield 127, 3, 11, 46, 57400)) rfl rfl).trans (congrArg (mq_k0 d mj_m319 88 ls M) mq_gf_eq)
theorem s319_88 {d : Nat} {ls : mj_L} {st : List Value} {M : mj_H} : mj_Rn d mj_m319 88 ls st M = mq_k0 d mj_m319 89 ls M (mj_lda (mj_lk ls 0) st) := mj_R0 (r := (.aload_n 0, 1, 0, 0, 0)) rfl rfl
theorem s319_89 {d : Nat} {ls : mj_L} {st : List Value} {M : mj_H} : mj_Rn d mj_m319 89 ls st M = mq_k0 d mj_m319 91 ls M (mj_ldi (mj_lk ls 4) st) := mj_R0 (r := (.iload 4, 2, 0, 0, 0)) rfl rfl
theorem s319_91 {d : Nat} {ls : mj_L} {st : List Value} {M : mj_H} : mj_Rn (d + 1) mj_m319 91 ls st M = mq_k5a (d + 1) mj_m319 94 ls M 295 (mq_cb 0 1 11 st M) := mj_R5e (r := (.invokevirtual 399, 3, 0, 295, 36888)) (z := mj_m295) rfl rfl (by decide) (by decide) rfl
theorem s319_94 {d : Nat} {ls : mj_L} {st : List Value} {M : mj_H} : mj_Rn d mj_m319 94 ls st M = mj_Rn d mj_m319 95 ls (.int 4 :: st) M := mj_R0 (r := (.iconst 4, 1, 0, 0, 0)) rfl rfl
theorem s319_95 {d : Nat} {ls : mj_L} {st : List Value} {M : mj_H} : mj_Rn (d + 1) mj_m319 95 ls st M = mq_k5a (d + 1) mj_m319 98 ls M 289 (mq_cb 0 3 11 st M) := mj_R5e (r := (.invokevirtual 447, 3, 0, 289, 33007)) (z := mj_m289) rfl rfl (by decide) (by decide) rfl
theorem s319_98 {d : Nat} {ls : mj_L} {st : List Value} {M : mj_H} : mj_Rn d mj_m319 98 ls st M = mq_k0 d mj_m319 99 ls M (mj_lda (mj_lk ls 0) st) := mj_R0 (r := (.aload_n 0, 1, 0, 0, 0)) rfl rfl
theorem s319_99 {d : Nat} {ls : mj_L} {st : List Value} {M : mj_H} : mj_Rn (d + 1) mj_m319 99 ls st M = mq_k5a (d + 1) mj_m319 102 ls M 245 (mq_cb 0 0 11 st M) := mj_R5e (r := (.invokevirtual 266, 3, 0, 245, 32836)) (z := mj_m245) rfl rfl (by decide) (by decide) rfl
theorem s319_102 {d : Nat} {ls : mj_L} {st : List Value} {M : mj_H} : mj_Rn d mj_m319 102 ls st M = mq_k1 d mj_m319 104 M (mj_lo 6 (.istore 5) ls st) := mj_R1 (r := (.istore 5, 2, 0, 0, 0)) rfl rfl
theorem s319_104 {d : Nat} {ls : mj_L} {st : List Value} {M : mj_H} : mj_Rn d mj_m319 104 ls st M = mq_k0 d mj_m319 106 ls M (mj_ldi (mj_lk ls 5) st) := mj_R0 (r := (.iload 5, 2, 0, 0, 0)) rfl rfl
theorem s319_106 {d : Nat} {ls : mj_L} {st : List Value} {M : mj_H} : mj_Rn d mj_m319 106 ls st M = mq_k2 d mj_m319 ls M (mj_br (.ifCond .eq 25) 106 st) := mj_R2 (r := (.ifCond .eq 25, 3, 0, 0, 0)) rfl rfl
theorem s319_109 {d : Nat} {ls : mj_L} {st : List Value} {M : mj_H} : mj_Rn d mj_m319 109 ls st M = mq_k0 d mj_m319 110 ls M (mj_lda (mj_lk ls 0) st) := mj_R0 (r := (.aload_n 0, 1, 0, 0, 0)) rfl rfl
theorem s319_110 {d : Nat} {ls : mj_L} {st : List Value} {M : mj_H} : mj_Rn d mj_m319 110 ls st M = mq_k0 d mj_m319 111 ls M (mj_ldi (mj_lk ls 2) st) := mj_R0 (r := (.iload_n 2, 1, 0, 0, 0)) rfl rfl
theorem s319_111 {d : Nat} {ls : mj_L} {st : List Value} {M : mj_H} : mj_Rn (d + 1) mj_m319 111 ls st M = mq_k5a (d + 1) mj_m319 114 ls M 308 (mq_cb 0 1 11 st M) := mj_R5e (r := (.invokevirtual 457, 3, 0, 308, 36943)) (z := mj_m308) rfl rfl (by decide) (by decide) rfl
theorem s319_114 {d : Nat} {ls : mj_L} {st : List Value} {M : mj_H} : mj_Rn d mj_m319 114 ls st M = mq_k2 d mj_m319 ls M (mj_br (.ifCond .eq 17) 114 st) := mj_R2 (r := (.ifCond .eq 17, 3, 0, 0, 0)) rfl rfl
theorem s319_117 {d : Nat} {ls : mj_L} {st : List Value} {M : mj_H} : mj_Rn d mj_m319 117 ls st M = mq_k0 d mj_m319 118 ls M (mj_lda (mj_lk ls 0) st) := mj_R0 (r := (.aload_n 0, 1, 0, 0, 0)) rfl rfl
theorem s319_118 {d : Nat} {ls : mj_L} {st : List Value} {M : mj_H} : mj_Rn d mj_m319 118 ls st M = mq_k0 d mj_m319 119 ls M (mj_ldi (mj_lk ls 2) st) := mj_R0 (r := (.iload_n 2, 1, 0, 0, 0)) rfl rfl
theorem s319_119 {d : Nat} {ls : mj_L} {st : List Value} {M : mj_H} : mj_Rn (d + 1) mj_m319 119 ls st M = mq_k5a (d + 1) mj_m319 122 ls M 313 (mq_cb 0 1 11 st M) := mj_R5e (r := (.invokevirtual 460, 3, 0, 313, 36963)) (z := mj_m313) rfl rfl (by decide) (by decide) rfl
theorem s319_122 {d : Nat} {ls : mj_L} {st : List Value} {M : mj_H} : mj_Rn d mj_m319 122 ls st M = mq_k0 d mj_m319 124 ls M (mj_ldi (mj_lk ls 5) st) := mj_R0 (r := (.iload 5, 2, 0, 0, 0)) rfl rfl
theorem s319_124 {d : Nat} {ls : mj_L} {st : List Value} {M : mj_H} : mj_Rn d mj_m319 124 ls st M = mq_k2 d mj_m319 ls M (mj_br (.if_icmp .ne 7) 124 st) := mj_R2 (r := (.if_icmp .ne 7, 3, 0, 0, 0)) rfl rfl
theorem s319_127 {d : Nat} {ls : mj_L} {st : List Value} {M : mj_H} : mj_Rn d mj_m319 127 ls st M = mj_Rn d mj_m319 128 ls (.int 0 :: st) M := mj_R0 (r := (.iconst 0, 1, 0, 0, 0)) rfl rfl
theorem s319_128 {d : Nat} {ls : mj_L} {st : List Value} {M : mj_H} : mj_Rn d mj_m319 128 ls st M = mj_Rn d mj_m319 133 ls st M := mj_R2 (r := (.goto 5, 3, 0, 0, 0)) rfl rfl
theorem s319_131 {d : Nat} {ls : mj_L} {st : List Value} {M : mj_H} : mj_Rn d mj_m319 131 ls st M = mj_Rn d mj_m319 133 ls (.int 51 :: st) M := mj_R0 (r := (.bipush 51, 2, 0, 0, 0)) rfl rfl
theorem s319_133 {d : Nat} {ls : mj_L} {st : List Value} {M : mj_H} : mj_Rn d mj_m319 133 ls st M = mq_k6 M (mj_re (some .int) (.ireturn) st) := mj_R6 (r := (.ireturn, 1, 0, 0, 0)) rfl rfl
/- 320 PasskeyHouseModel.hasRoom(III)Z -/
theorem s320_0 {d : Nat} {ls : mj_L} {st : List Value} {M : mj_H} : mj_Rn d mj_m320 0 ls st M = mq_k0 d mj_m320 1 ls M (mj_lda (mj_lk ls 0) st) := mj_R0 (r := (.aload_n 0, 1, 0, 0, 0)) rfl rfl
theorem s320_1 {d : Nat} {ls : mj_L} {st : List Value} {M : mj_H} : mj_Rn d mj_m320 1 ls st M = mq_k0 d mj_m320 2 ls M (mj_ldi (mj_lk ls 3) st) := mj_R0 (r := (.iload_n 3, 1, 0, 0, 0)) rfl rfl
theorem s320_2 {d : Nat} {ls : mj_L} {st : List Value} {M : mj_H} : mj_Rn (d + 1) mj_m320 2 ls st M = mq_k5a (d + 1) mj_m320 5 ls M 297 (mq_cb 0 1 11 st M) := mj_R5e (r := (.invokevirtual 402, 3, 0, 297, 36895)) (z := mj_m297) rfl rfl (by decide) (by decide) rfl
theorem s320_5 {d : Nat} {ls : mj_L} {st : List Value} {M : mj_H} : mj_Rn d mj_m320 5 ls st M = mq_k1 d mj_m320 7 M (mj_lo 7 (.istore 4) ls st) := mj_R1 (r := (.istore 4, 2, 0, 0, 0)) rfl rfl
theorem s320_7 {d : Nat} {ls : mj_L} {st : List Value} {M : mj_H} : mj_Rn d mj_m320 7 ls st M = mj_Rn d mj_m320 9 ls (.int 61 :: st) M := mj_R0 (r := (.bipush 61, 2, 0, 0, 0)) rfl rfl
theorem s320_9 {d : Nat} {ls : mj_L} {st : List Value} {M : mj_H} : mj_Rn d mj_m320 9 ls st M = mq_k1 d mj_m320 11 M (mj_lo 7 (.istore 5) ls st) := mj_R1 (r := (.istore 5, 2, 0, 0, 0)) rfl rfl
theorem s320_11 {d : Nat} {ls : mj_L} {st : List Value} {M : mj_H} : mj_Rn d mj_m320 11 ls st M = mj_Rn d mj_m320 12 ls (.int 0 :: st) M := mj_R0 (r := (.iconst 0, 1, 0, 0, 0)) rfl rfl
theorem s320_12 {d : Nat} {ls : mj_L} {st : List Value} {M : mj_H} : mj_Rn d mj_m320 12 ls st M = mq_k1 d mj_m320 14 M (mj_lo 7 (.istore 6) ls st) := mj_R1 (r := (.istore 6, 2, 0, 0, 0)) rfl rfl
theorem s320_14 {d : Nat} {ls : mj_L} {st : List Value} {M : mj_H} : mj_Rn d mj_m320 14 ls st M = mq_k0 d mj_m320 16 ls M (mj_ldi (mj_lk ls 6) st) := mj_R0 (r := (.iload 6, 2, 0, 0, 0)) rfl rfl
theorem s320_16 {d : Nat} {ls : mj_L} {st : List Value} {M : mj_H} : mj_Rn d mj_m320 16 ls st M = mq_k0 d mj_m320 17 ls M (mj_lda (mj_lk ls 0) st) := mj_R0 (r := (.aload_n 0, 1, 0, 0, 0)) rfl rfl
theorem s320_17 {d : Nat} {ls : mj_L} {st : List Value} {M : mj_H} : mj_Rn d mj_m320 17 ls st M = mq_k0 d mj_m320 20 ls M (mq_gf 11 27 st M) := (mj_R3 (r := (.getfield 73, 3, 11, 27, 57362)) rfl rfl).trans (congrArg (mq_k0 d mj_m320 20 ls M) mq_gf_eq)
theorem s320_20 {d : Nat} {ls : mj_L} {st : List Value} {M : mj_H} : mj_Rn d mj_m320 20 ls st M = mq_k0 d mj_m320 21 ls M (mj_ldi (mj_lk ls 1) st) := mj_R0 (r := (.iload_n 1, 1, 0, 0, 0)) rfl rfl
theorem s320_21 {d : Nat} {ls : mj_L} {st : List Value} {M : mj_H} : mj_Rn d mj_m320 21 ls st M = mq_k0 d mj_m320 22 ls M (mq_al [1000] st M) := (mj_R3 (r := (.iaload, 1, 0, 0, 0)) rfl rfl).trans (congrArg (mq_k0 d mj_m320 22 ls M) mq_ali_eq)
theorem s320_22 {d : Nat} {ls : mj_L} {st : List Value} {M : mj_H} : mj_Rn d mj_m320 22 ls st M = mq_k2 d mj_m320 ls M (mj_br (.if_icmp .ge 29) 22 st) := mj_R2 (r := (.if_icmp .ge 29, 3, 0, 0, 0)) rfl rfl
theorem s320_25 {d : Nat} {ls : mj_L} {st : List Value} {M : mj_H} : mj_Rn d mj_m320 25 ls st M = mq_k0 d mj_m320 27 ls M (mj_ldi (mj_lk ls 5) st) := mj_R0 (r := (.iload 5, 2, 0, 0, 0)) rfl rfl
theorem s320_27 {d : Nat} {ls : mj_L} {st : List Value} {M : mj_H} : mj_Rn d mj_m320 27 ls st M = mj_Rn d mj_m320 29 ls (.int 28 :: st) M := mj_R0 (r := (.bipush 28, 2, 0, 0, 0)) rfl rfl
theorem s320_29 {d : Nat} {ls : mj_L} {st : List Value} {M : mj_H} : mj_Rn d mj_m320 29 ls st M = mq_k0 d mj_m320 30 ls M (mj_lda (mj_lk ls 0) st) := mj_R0 (r := (.aload_n 0, 1, 0, 0, 0)) rfl rfl
theorem s320_30 {d : Nat} {ls : mj_L} {st : List Value} {M : mj_H} : mj_Rn d mj_m320 30 ls st M = mq_k0 d mj_m320 33 ls M (mq_gf 11 32 st M) := (mj_R3 (r := (.getfield 88, 3, 11, 32, 57372)) rfl rfl).trans (congrArg (mq_k0 d mj_m320 33 ls M) mq_gf_eq)
theorem s320_33 {d : Nat} {ls : mj_L} {st : List Value} {M : mj_H} : mj_Rn d mj_m320 33 ls st M = mj_Rn d mj_m320 35 ls (.int 12 :: st) M := mj_R0 (r := (.bipush 12, 2, 0, 0, 0)) rfl rfl
theorem s320_35 {d : Nat} {ls : mj_L} {st : List Value} {M : mj_H} : mj_Rn d mj_m320 35 ls st M = mq_k0 d mj_m320 36 ls M (mj_ldi (mj_lk ls 1) st) := mj_R0 (r := (.iload_n 1, 1, 0, 0, 0)) rfl rfl
theorem s320_36 {d : Nat} {ls : mj_L} {st : List Value} {M : mj_H} : mj_Rn d mj_m320 36 ls st M = mq_k0 d mj_m320 37 ls M (mj_pu .imul ls st) := mj_R0 (r := (.imul, 1, 0, 0, 0)) rfl rfl
theorem s320_37 {d : Nat} {ls : mj_L} {st : List Value} {M : mj_H} : mj_Rn d mj_m320 37 ls st M = mq_k0 d mj_m320 39 ls M (mj_ldi (mj_lk ls 6) st) := mj_R0 (r := (.iload 6, 2, 0, 0, 0)) rfl rfl
theorem s320_39 {d : Nat} {ls : mj_L} {st : List Value} {M : mj_H} : mj_Rn d mj_m320 39 ls st M = mq_k0 d mj_m320 40 ls M (mj_pu .iadd ls st) := mj_R0 (r := (.iadd, 1, 0, 0, 0)) rfl rfl
theorem s320_40 {d : Nat} {ls : mj_L} {st : List Value} {M : mj_H} : mj_Rn d mj_m320 40 ls st M = mq_k0 d mj_m320 41 ls M (mq_al [1000] st M) := (mj_R3 (r := (.iaload, 1, 0, 0, 0)) rfl rfl).trans (congrArg (mq_k0 d mj_m320 41 ls M) mq_ali_eq)
theorem s320_41 {d : Nat} {ls : mj_L} {st : List Value} {M : mj_H} : mj_Rn d mj_m320 41 ls st M = mq_k0 d mj_m320 42 ls M (mj_pu .iadd ls st) := mj_R0 (r := (.iadd, 1, 0, 0, 0)) rfl rfl
theorem s320_42 {d : Nat} {ls : mj_L} {st : List Value} {M : mj_H} : mj_Rn d mj_m320 42 ls st M = mq_k0 d mj_m320 43 ls M (mj_pu .iadd ls st) := mj_R0 (r := (.iadd, 1, 0, 0, 0)) rfl rfl
theorem s320_43 {d : Nat} {ls : mj_L} {st : List Value} {M : mj_H} : mj_Rn d mj_m320 43 ls st M = mq_k1 d mj_m320 45 M (mj_lo 7 (.istore 5) ls st) := mj_R1 (r := (.istore 5, 2, 0, 0, 0)) rfl rfl
theorem s320_45 {d : Nat} {ls : mj_L} {st : List Value} {M : mj_H} : mj_Rn d mj_m320 45 ls st M = mq_k1 d mj_m320 48 M (mj_lo 7 (.iinc 6 1) ls st) := mj_R1 (r := (.iinc 6 1, 3, 0, 0, 0)) rfl rfl
theorem s320_48 {d : Nat} {ls : mj_L} {st : List Value} {M : mj_H} : mj_Rn d mj_m320 48 ls st M = mj_Rn d mj_m320 14 ls st M := mj_R2 (r := (.goto (-34), 3, 0, 0, 0)) rfl rfl
theorem s320_51 {d : Nat} {ls : mj_L} {st : List Value} {M : mj_H} : mj_Rn d mj_m320 51 ls st M = mq_k0 d mj_m320 52 ls M (mj_ldi (mj_lk ls 2) st) := mj_R0 (r := (.iload_n 2, 1, 0, 0, 0)) rfl rfl
theorem s320_52 {d : Nat} {ls : mj_L} {st : List Value} {M : mj_H} : mj_Rn d mj_m320 52 ls st M = mq_k2 d mj_m320 ls M (mj_br (.ifCond .ne 12) 52 st) := mj_R2 (r := (.ifCond .ne 12, 3, 0, 0, 0)) rfl rfl
theorem s320_55 {d : Nat} {ls : mj_L} {st : List Value} {M : mj_H} : mj_Rn d mj_m320 55 ls st M = mq_k0 d mj_m320 56 ls M (mj_lda (mj_lk ls 0) st) := mj_R0 (r := (.aload_n 0, 1, 0, 0, 0)) rfl rfl
theorem s320_56 {d : Nat} {ls : mj_L} {st : List Value} {M : mj_H} : mj_Rn d mj_m320 56 ls st M = mq_k0 d mj_m320 59 ls M (mq_gf 11 27 st M) := (mj_R3 (r := (.getfield 73, 3, 11, 27, 57362)) rfl rfl).trans (congrArg (mq_k0 d mj_m320 59 ls M) mq_gf_eq)
theorem s320_59 {d : Nat} {ls : mj_L} {st : List Value} {M : mj_H} : mj_Rn d mj_m320 59 ls st M = mq_k0 d mj_m320 60 ls M (mj_ldi (mj_lk ls 1) st) := mj_R0 (r := (.iload_n 1, 1, 0, 0, 0)) rfl rfl
theorem s320_60 {d : Nat} {ls : mj_L} {st : List Value} {M : mj_H} : mj_Rn d mj_m320 60 ls st M = mq_k0 d mj_m320 61 ls M (mq_al [1000] st M) := (mj_R3 (r := (.iaload, 1, 0, 0, 0)) rfl rfl).trans (congrArg (mq_k0 d mj_m320 61 ls M) mq_ali_eq)
theorem s320_61 {d : Nat} {ls : mj_L} {st : List Value} {M : mj_H} : mj_Rn d mj_m320 61 ls st M = mj_Rn d mj_m320 81 ls st M := mj_R2 (r := (.goto 20, 3, 0, 0, 0)) rfl rfl
theorem s320_64 {d : Nat} {ls : mj_L} {st : List Value} {M : mj_H} : mj_Rn d mj_m320 64 ls st M = mq_k0 d mj_m320 65 ls M (mj_lda (mj_lk ls 0) st) := mj_R0 (r := (.aload_n 0, 1, 0, 0, 0)) rfl rfl
theorem s320_65 {d : Nat} {ls : mj_L} {st : List Value} {M : mj_H} : mj_Rn d mj_m320 65 ls st M = mq_k0 d mj_m320 66 ls M (mj_ldi (mj_lk ls 1) st) := mj_R0 (r := (.iload_n 1, 1, 0, 0, 0)) rfl rfl
theorem s320_66 {d : Nat} {ls : mj_L} {st : List Value} {M : mj_H} : mj_Rn d mj_m320 66 ls st M = mq_k0 d mj_m320 67 ls M (mj_ldi (mj_lk ls 2) st) := mj_R0 (r := (.iload_n 2, 1, 0, 0, 0)) rfl rfl
theorem s320_67 {d : Nat} {ls : mj_L} {st : List Value} {M : mj_H} : mj_Rn d mj_m320 67 ls st M = mq_k0 d mj_m320 68 ls M (mj_lda (mj_lk ls 0) st) := mj_R0 (r := (.aload_n 0, 1, 0, 0, 0)) rfl rfl
theorem s320_68 {d : Nat} {ls : mj_L} {st : List Value} {M : mj_H} : mj_Rn d mj_m320 68 ls st M = mq_k0 d mj_m320 71 ls M (mq_gf 11 46 st M) := (mj_R3 (r := (.getfield 127, 3, 11, 46, 57400)) rfl rfl).trans (congrArg (mq_k0 d mj_m320 71 ls M) mq_gf_eq)
theorem s320_71 {d : Nat} {ls : mj_L} {st : List Value} {M : mj_H} : mj_Rn d mj_m320 71 ls st M = mq_k0 d mj_m320 72 ls M (mj_lda (mj_lk ls 0) st) := mj_R0 (r := (.aload_n 0, 1, 0, 0, 0)) rfl rfl
theorem s320_72 {d : Nat} {ls : mj_L} {st : List Value} {M : mj_H} : mj_Rn d mj_m320 72 ls st M = mq_k0 d mj_m320 73 ls M (mj_ldi (mj_lk ls 3) st) := mj_R0 (r := (.iload_n 3, 1, 0, 0, 0)) rfl rfl
theorem s320_73 {d : Nat} {ls : mj_L} {st : List Value} {M : mj_H} : mj_Rn (d + 1) mj_m320 73 ls st M = mq_k5a (d + 1) mj_m320 76 ls M 295 (mq_cb 0 1 11 st M) := mj_R5e (r := (.invokevirtual 399, 3, 0, 295, 36888)) (z := mj_m295) rfl rfl (by decide) (by decide) rfl
theorem s320_76 {d : Nat} {ls : mj_L} {st : List Value} {M : mj_H} : mj_Rn d mj_m320 76 ls st M = mq_k0 d mj_m320 78 ls M (mj_ldi (mj_lk ls 4) st) := mj_R0 (r := (.iload 4, 2, 0, 0, 0)) rfl rfl
theorem s320_78 {d : Nat} {ls : mj_L} {st : List Value} {M : mj_H} : mj_Rn (d + 1) mj_m320 78 ls st M = mq_k5a (d + 1) mj_m320 81 ls M 258 (mq_cb 0 5 11 st M) := mj_R5e (r := (.invokevirtual 367, 3, 0, 258, 32884)) (z := mj_m258) rfl rfl (by decide) (by decide) rfl
theorem s320_81 {d : Nat} {ls : mj_L} {st : List Value} {M : mj_H} : mj_Rn d mj_m320 81 ls st M = mq_k1 d mj_m320 83 M (mj_lo 7 (.istore 6) ls st) := mj_R1 (r := (.istore 6, 2, 0, 0, 0)) rfl rfl
theorem s320_83 {d : Nat} {ls : mj_L} {st : List Value} {M : mj_H} : mj_Rn d mj_m320 83 ls st M = mq_k0 d mj_m320 85 ls M (mj_ldi (mj_lk ls 5) st) := mj_R0 (r := (.iload 5, 2, 0, 0, 0)) rfl rfl
theorem s320_85 {d : Nat} {ls : mj_L} {st : List Value} {M : mj_H} : mj_Rn d mj_m320 85 ls st M = mq_k0 d mj_m320 87 ls M (mj_ldi (mj_lk ls 6) st) := mj_R0 (r := (.iload 6, 2, 0, 0, 0)) rfl rfl
theorem s320_87 {d : Nat} {ls : mj_L} {st : List Value} {M : mj_H} : mj_Rn d mj_m320 87 ls st M = mq_k0 d mj_m320 88 ls M (mj_lda (mj_lk ls 0) st) := mj_R0 (r := (.aload_n 0, 1, 0, 0, 0)) rfl rfl
theorem s320_88 {d : Nat} {ls : mj_L} {st : List Value} {M : mj_H} : mj_Rn d mj_m320 88 ls st M = mq_k0 d mj_m320 91 ls M (mq_gf 11 27 st M) := (mj_R3 (r := (.getfield 73, 3, 11, 27, 57362)) rfl rfl).trans (congrArg (mq_k0 d mj_m320 91 ls M) mq_gf_eq)
theorem s320_91 {d : Nat} {ls : mj_L} {st : List Value} {M : mj_H} : mj_Rn d mj_m320 91 ls st M = mq_k0 d mj_m320 92 ls M (mj_ldi (mj_lk ls 1) st) := mj_R0 (r := (.iload_n 1, 1, 0, 0, 0)) rfl rfl
theorem s320_92 {d : Nat} {ls : mj_L} {st : List Value} {M : mj_H} : mj_Rn d mj_m320 92 ls st M = mq_k0 d mj_m320 93 ls M (mq_al [1000] st M) := (mj_R3 (r := (.iaload, 1, 0, 0, 0)) rfl rfl).trans (congrArg (mq_k0 d mj_m320 93 ls M) mq_ali_eq)
theorem s320_93 {d : Nat} {ls : mj_L} {st : List Value} {M : mj_H} : mj_Rn d mj_m320 93 ls st M = mq_k2 d mj_m320 ls M (mj_br (.if_icmp .ne 11) 93 st) := mj_R2 (r := (.if_icmp .ne 11, 3, 0, 0, 0)) rfl rfl
theorem s320_96 {d : Nat} {ls : mj_L} {st : List Value} {M : mj_H} : mj_Rn d mj_m320 96 ls st M = mj_Rn d mj_m320 98 ls (.int 28 :: st) M := mj_R0 (r := (.bipush 28, 2, 0, 0, 0)) rfl rfl
theorem s320_98 {d : Nat} {ls : mj_L} {st : List Value} {M : mj_H} : mj_Rn d mj_m320 98 ls st M = mq_k0 d mj_m320 100 ls M (mj_ldi (mj_lk ls 4) st) := mj_R0 (r := (.iload 4, 2, 0, 0, 0)) rfl rfl
theorem s320_100 {d : Nat} {ls : mj_L} {st : List Value} {M : mj_H} : mj_Rn d mj_m320 100 ls st M = mq_k0 d mj_m320 101 ls M (mj_pu .iadd ls st) := mj_R0 (r := (.iadd, 1, 0, 0, 0)) rfl rfl
theorem s320_101 {d : Nat} {ls : mj_L} {st : List Value} {M : mj_H} : mj_Rn d mj_m320 101 ls st M = mj_Rn d mj_m320 105 ls st M := mj_R2 (r := (.goto 4, 3, 0, 0, 0)) rfl rfl
theorem s320_104 {d : Nat} {ls : mj_L} {st : List Value} {M : mj_H} : mj_Rn d mj_m320 104 ls st M = mj_Rn d mj_m320 105 ls (.int 0 :: st) M := mj_R0 (r := (.iconst 0, 1, 0, 0, 0)) rfl rfl
theorem s320_105 {d : Nat} {ls : mj_L} {st : List Value} {M : mj_H} : mj_Rn d mj_m320 105 ls st M = mq_k0 d mj_m320 106 ls M (mj_pu .iadd ls st) := mj_R0 (r := (.iadd, 1, 0, 0, 0)) rfl rfl
theorem s320_106 {d : Nat} {ls : mj_L} {st : List Value} {M : mj_H} : mj_Rn d mj_m320 106 ls st M = mq_k1 d mj_m320 108 M (mj_lo 7 (.istore 5) ls st) := mj_R1 (r := (.istore 5, 2, 0, 0, 0)) rfl rfl
theorem s320_108 {d : Nat} {ls : mj_L} {st : List Value} {M : mj_H} : mj_Rn d mj_m320 108 ls st M = mq_k0 d mj_m320 110 ls M (mj_ldi (mj_lk ls 5) st) := mj_R0 (r := (.iload 5, 2, 0, 0, 0)) rfl rfl
theorem s320_110 {d : Nat} {ls : mj_L} {st : List Value} {M : mj_H} : mj_Rn d mj_m320 110 ls st M = mj_Rn d mj_m320 113 ls (.int 256 :: st) M := mj_R0 (r := (.sipush 256, 3, 0, 0, 0)) rfl rfl
theorem s320_113 {d : Nat} {ls : mj_L} {st : List Value} {M : mj_H} : mj_Rn d mj_m320 113 ls st M = mq_k2 d mj_m320 ls M (mj_br (.if_icmp .gt 7) 113 st) := mj_R2 (r := (.if_icmp .gt 7, 3, 0, 0, 0)) rfl rfl
theorem s320_116 {d : Nat} {ls : mj_L} {st : List Value} {M : mj_H} : mj_Rn d mj_m320 116 ls st M = mj_Rn d mj_m320 117 ls (.int 1 :: st) M := mj_R0 (r := (.iconst 1, 1, 0, 0, 0)) rfl rfl
theorem s320_117 {d : Nat} {ls : mj_L} {st : List Value} {M : mj_H} : mj_Rn d mj_m320 117 ls st M = mj_Rn d mj_m320 121 ls st M := mj_R2 (r := (.goto 4, 3, 0, 0, 0)) rfl rfl
theorem s320_120 {d : Nat} {ls : mj_L} {st : List Value} {M : mj_H} : mj_Rn d mj_m320 120 ls st M = mj_Rn d mj_m320 121 ls (.int 0 :: st) M := mj_R0 (r := (.iconst 0, 1, 0, 0, 0)) rfl rfl
theorem s320_121 {d : Nat} {ls : mj_L} {st : List Value} {M : mj_H} : mj_Rn d mj_m320 121 ls st M = mq_k6 M (mj_re (some .boolean) (.ireturn) st) := mj_R6 (r := (.ireturn, 1, 0, 0, 0)) rfl rfl
theorem c319 {d : Nat} {a0 : Nat} {x1 : Int32} {x2 : Int32} {x3 : Int32} {x4 : Int32} {M : mj_H} : mj_V (d + 1) 319 [.ref a0, .int x1, .int x2, .int x3, .int x4] M = mj_Rn d mj_m319 0 [(0, .ref a0), (1, .int x1), (2, .int x2), (3, .int x3), (4, .int x4)] [] M := mj_V_go rfl (Nat.le_of_ble_eq_true rfl)
theorem c320 {d : Nat} {a0 : Nat} {x1 : Int32} {x2 : Int32} {x3 : Int32} {M : mj_H} : mj_V (d + 1) 320 [.ref a0, .int x1, .int x2, .int x3] M = mj_Rn d mj_m320 0 [(0, .ref a0), (1, .int x1), (2, .int x2), (3, .int x3)] [] M := mj_V_go rfl (Nat.le_of_ble_eq_true rfl)
/-- nothing, or a press taken -/
def tkn (k : Ky) (m : Mk) (k' : Ky) (m' : Mk) : Prop := (k' = k ∧ m' = m) ∨ (k.1.2.1.1 ≠ 0 ∧ k' = ky_took k ∧ m' = mTook m k.1.2.1.1)
section
variable {d : Nat} {B : Bs} {x : Fx} {y : Sy} {j : Nat} {k k' : Ky} {m m' : Mk} {T : Tm} {D O ms : List Int32}
theorem took_s : (ky_took k).1.1.1.1 = k.1.1.1.1 := by unfold ky_took; split <;> rfl
theorem tkn.s (h : tkn k m k' m') : k'.1.1.1.1 = k.1.1.1.1 := by
  rcases h with ⟨rfl, rfl⟩ | ⟨h0, rfl, rfl⟩
  · rfl
  · exact took_s
theorem tkn.wm (h : tkn k m k' m') (hm : wm m) : wm m' := by
  rcases h with ⟨rfl, rfl⟩ | ⟨h0, rfl, rfl⟩
  · exact hm
  · exact hm.took _
theorem tkn.kr (h : tkn k m k' m') (hm : kr k m) : kr k' m' := by
  rcases h with ⟨rfl, rfl⟩ | ⟨h0, rfl, rfl⟩
  · exact hm
  · exact hm.took h0
theorem tkn.cF {cr : List Cr} (h : tkn k m k' m') (hc : cF cr m) : cF cr m' := by
  rcases h with ⟨rfl, rfl⟩ | ⟨h0, rfl, rfl⟩ <;> exact hc
theorem ix_lt {row : List Int32} (h : yz y T D O) : tm_ix T.1 row < 2 ^ 30 := by
  have := tm_ix_le T.1 row
  have := h.t.few
  omega
theorem b4_w4a (h8 : ∀ v ∈ ms, v &&& 255 = v) {p : Nat} (hp : p + 4 ≤ ms.length) : b4 (w4a ms p) = (ms.drop p).take 4 := by
  unfold w4a
  exact b4_w4 (sl_by h8 _ _) (by rw [List.length_take, List.length_drop]; omega)
theorem q_pinTest (h : xm x ms) (hx : xk x) (hj : j < 3) (hm : wm m) (hk : kr k m) (h9 : k.1.2.1.1 ≤ 9) (hy : yz y T D O) {p : Nat} (hi : Io ms p) (h2 : cbS ms p = 2) {o : Option Nat} (ho : oJ ms o) {hs : Nat} (his : Io ms hs) (hs2 : cbS ms hs = 2) (hs4 : cbV ms hs = 4) :
    ∃ m' y' D', tkn k m (pnTest k T ms (some p) o (o4 ms (some hs))).2 m' ∧ yz y' T D' O ∧ yk y' = yk y ∧ mj_V (d + 4) 319 [.ref 67, .int (nI j), .int (nI p), .int (oP o), .int (nI hs)] (mm B (x.wk j k.1.1.1.1 m) y) = some (some (.int (pnTest k T ms (some p) o (o4 ms (some hs))).1), mm B (x.wk j k.1.1.1.1 m') y') := by
  have hle := h.1.le
  have hX : ∀ m, xm (x.wk j k.1.1.1.1 m) ms := fun m => h
  have ok := hi.ok
  have hd := (cbOk_hd.mp ok).1
  have hV := hd.2.2.2.2.2.1
  have rn := q_numberAt (d := d + 1) (B := B) (x := x.wk j k.1.1.1.1 m) (y := y) h hd.1 hd.2.2.2.1
  have hp := q_isPressed (d := d + 2) (B := B) (x := x) (y := y) (s := k.1.1.1.1) hx hj hk h9
  have hnz : ∀ v : Int32, (if v = 0 then (53 : Int32) else 49) = if v ≠ 0 then 49 else 53 := by intro v; by_cases z : v = 0 <;> simp [S_bx_mcan1_0, S_b8_mkey_1, S_b8_mkey_0, S_b1_mterm_0, S_b1_copy_0, S_b0_mod_7, S_b0_mod_6, S_b0_mod_5, S_b0_mod_3, S_b0_mod_2, S_b0_mod_1, S_b0_mod_0, S_bx_mcan1_1h, S_b0_mod_4h, z]
  have hoV : oVn ms (some p) = cbV ms p := rfl
  by_cases h0 : cbV ms p = 0
  · rw [h0, nI_0] at rn
    by_cases hw : k.1.2.1.1 = 0
    · have eR : pnTest k T ms (some p) o (o4 ms (some hs)) = (39, k) := by unfold pnTest; rw [if_pos (hoV.trans h0), if_pos hw]
      rw [eR]
      rw [if_pos hw, if_pos hw] at hp
      refine ⟨m, y, D, Or.inl ⟨rfl, rfl⟩, hy, rfl, ?_⟩
      simp (disch := (first | omega | decide)) [S_bx_mcan1_0, S_b8_mkey_1, S_b8_mkey_0, S_b1_mterm_0, S_b1_copy_0, S_b0_mod_7, S_b0_mod_6, S_b0_mod_5, S_b0_mod_3, S_b0_mod_2, S_b0_mod_1, S_b0_mod_0, S_bx_mcan1_1h, S_b0_mod_4h, c319, s319_0, s319_1, s319_2, s319_5, s319_8, s319_9, s319_10, s319_13, s319_16, s319_18, s319_21, s319_22, s319_25, s319_26, s319_27, s319_30, s319_32, s319_35, s319_37, s319_38, s319_39, s319_40, s319_43, s319_44, s319_45, s319_48, s319_49, s319_52, s319_54, s319_55, s319_56, s319_59, s319_60, s319_61, s319_64, s319_66, s319_67, s319_68, s319_70, s319_73, s319_74, s319_75, s319_78, s319_79, s319_80, s319_83, s319_84, s319_85, s319_88, s319_89, s319_91, s319_94, s319_95, s319_98, s319_99, s319_102, s319_104, s319_106, s319_109, s319_110, s319_111, s319_114, s319_117, s319_118, s319_119, s319_122, s319_124, s319_127, s319_128, s319_131, s319_133, mq_k0s, mq_k1s, mq_k2s, mq_k4s, mq_k5s, mq_k5n, mq_k5as, mq_k6s, mj_pu, mj_lo, mj_br, mj_hr, mj_hw, mq_gf, mq_len, mq_al, mq_pf, mq_ok, mj_re, mq_lkm, mq_lkn, mj_ldi, mj_ldl, mj_lda, mj_ii, mj_ll, mj_li, mj_i1, ms_1, ms_2, f1_n, f1_i, f1_r, f1_u, f1_l, f2_n, f2_i, f2_r, f2_u, f2_l, mj_tg, mj_c1, mj_c2, mj_ar, mj_aw, mq_cb, mq_oi, mj_rm, Value.category, -getElem?_pos, List.getElem?_cons_zero, decide_eq_true, decide_eq_false, nl_lt, nl_le, ln_lt, ln_le, nl_eq, ln_eq, nl_add, ln_add, nl_sub, ln_mul, nI_sub, nI_mul, nI_add, nI_lt_iff, nI_le_iff, nI_inj, nI_num, mq_ix, nI_1, nl_mul, nl_div, rn, hp, narrow]
    · have eR : pnTest k T ms (some p) o (o4 ms (some hs)) = (if k.1.1.1.1.2.2.2.2.2.2.2.2.1 = 0 then 53 else 49, ky_took k) := by unfold pnTest; rw [if_pos (hoV.trans h0), if_neg hw]
      rw [eR]
      rw [if_neg hw, if_neg hw] at hp
      refine ⟨_, y, D, Or.inr ⟨hw, rfl, rfl⟩, hy, rfl, ?_⟩
      by_cases hpn : k.1.1.1.1.2.2.2.2.2.2.2.2.1 = 0
      · rw [if_pos hpn]
        simp (disch := (first | omega | decide)) [S_bx_mcan1_0, S_b8_mkey_1, S_b8_mkey_0, S_b1_mterm_0, S_b1_copy_0, S_b0_mod_7, S_b0_mod_6, S_b0_mod_5, S_b0_mod_3, S_b0_mod_2, S_b0_mod_1, S_b0_mod_0, S_bx_mcan1_1h, S_b0_mod_4h, c319, s319_0, s319_1, s319_2, s319_5, s319_8, s319_9, s319_10, s319_13, s319_16, s319_18, s319_21, s319_22, s319_25, s319_26, s319_27, s319_30, s319_32, s319_35, s319_37, s319_38, s319_39, s319_40, s319_43, s319_44, s319_45, s319_48, s319_49, s319_52, s319_54, s319_55, s319_56, s319_59, s319_60, s319_61, s319_64, s319_66, s319_67, s319_68, s319_70, s319_73, s319_74, s319_75, s319_78, s319_79, s319_80, s319_83, s319_84, s319_85, s319_88, s319_89, s319_91, s319_94, s319_95, s319_98, s319_99, s319_102, s319_104, s319_106, s319_109, s319_110, s319_111, s319_114, s319_117, s319_118, s319_119, s319_122, s319_124, s319_127, s319_128, s319_131, s319_133, mq_k0s, mq_k1s, mq_k2s, mq_k4s, mq_k5s, mq_k5n, mq_k5as, mq_k6s, mj_pu, mj_lo, mj_br, mj_hr, mj_hw, mq_gf, mq_len, mq_al, mq_pf, mq_ok, mj_re, mq_lkm, mq_lkn, mj_ldi, mj_ldl, mj_lda, mj_ii, mj_ll, mj_li, mj_i1, ms_1, ms_2, f1_n, f1_i, f1_r, f1_u, f1_l, f2_n, f2_i, f2_r, f2_u, f2_l, mj_tg, mj_c1, mj_c2, mj_ar, mj_aw, mq_cb, mq_oi, mj_rm, Value.category, -getElem?_pos, List.getElem?_cons_zero, decide_eq_true, decide_eq_false, nl_lt, nl_le, ln_lt, ln_le, nl_eq, ln_eq, nl_add, ln_add, nl_sub, ln_mul, nI_sub, nI_mul, nI_add, nI_lt_iff, nI_le_iff, nI_inj, nI_num, mq_ix, nI_1, nl_mul, nl_div, wkc_on hx hj, wkl_on hx, wkc_acts hx hj, wkl_acts hx, wkc_limit hx hj, wkl_limit hx, wkc_generation hx hj, wkl_generation hx, wkc_area hx hj, wkl_area hx, wkc_fend hx hj, wkl_fend hx, wkc_master hx hj, wkl_master hx, wkc_pinOf hx hj, wkl_pinOf hx, wkc_tries hx hj, wkl_tries hx, wkc_own hx hj, wkl_own hx, wkc_creds hx hj, wkl_creds hx, wkc_presses hx hj, wkl_presses hx, wkc_taken hx hj, wkl_taken hx, wkc_answered hx hj, wkl_answered hx, wkc_agreeing hx hj, wkl_agreeing hx, wkc_token hx hj, wkl_token hx, wkc_wrong hx hj, wkl_wrong hx, wkc_heard hx hj, wkl_heard hx, wkc_listed hx hj, wkl_listed hx, wkc_listAt hx hj, wkl_listAt hx, wkc_listHash hx hj, wkl_listHash hx, wkc_listFlags hx hj, wkl_listFlags hx, wkc_answerSize hx hj, wkl_answerSize hx, wkc_flash hx hj, wkl_flash hx hj, rn, hp, hpn, narrow]
      · rw [if_neg hpn]
        simp (disch := (first | omega | decide)) [S_bx_mcan1_0, S_b8_mkey_1, S_b8_mkey_0, S_b1_mterm_0, S_b1_copy_0, S_b0_mod_7, S_b0_mod_6, S_b0_mod_5, S_b0_mod_3, S_b0_mod_2, S_b0_mod_1, S_b0_mod_0, S_bx_mcan1_1h, S_b0_mod_4h, c319, s319_0, s319_1, s319_2, s319_5, s319_8, s319_9, s319_10, s319_13, s319_16, s319_18, s319_21, s319_22, s319_25, s319_26, s319_27, s319_30, s319_32, s319_35, s319_37, s319_38, s319_39, s319_40, s319_43, s319_44, s319_45, s319_48, s319_49, s319_52, s319_54, s319_55, s319_56, s319_59, s319_60, s319_61, s319_64, s319_66, s319_67, s319_68, s319_70, s319_73, s319_74, s319_75, s319_78, s319_79, s319_80, s319_83, s319_84, s319_85, s319_88, s319_89, s319_91, s319_94, s319_95, s319_98, s319_99, s319_102, s319_104, s319_106, s319_109, s319_110, s319_111, s319_114, s319_117, s319_118, s319_119, s319_122, s319_124, s319_127, s319_128, s319_131, s319_133, mq_k0s, mq_k1s, mq_k2s, mq_k4s, mq_k5s, mq_k5n, mq_k5as, mq_k6s, mj_pu, mj_lo, mj_br, mj_hr, mj_hw, mq_gf, mq_len, mq_al, mq_pf, mq_ok, mj_re, mq_lkm, mq_lkn, mj_ldi, mj_ldl, mj_lda, mj_ii, mj_ll, mj_li, mj_i1, ms_1, ms_2, f1_n, f1_i, f1_r, f1_u, f1_l, f2_n, f2_i, f2_r, f2_u, f2_l, mj_tg, mj_c1, mj_c2, mj_ar, mj_aw, mq_cb, mq_oi, mj_rm, Value.category, -getElem?_pos, List.getElem?_cons_zero, decide_eq_true, decide_eq_false, nl_lt, nl_le, ln_lt, ln_le, nl_eq, ln_eq, nl_add, ln_add, nl_sub, ln_mul, nI_sub, nI_mul, nI_add, nI_lt_iff, nI_le_iff, nI_inj, nI_num, mq_ix, nI_1, nl_mul, nl_div, wkc_on hx hj, wkl_on hx, wkc_acts hx hj, wkl_acts hx, wkc_limit hx hj, wkl_limit hx, wkc_generation hx hj, wkl_generation hx, wkc_area hx hj, wkl_area hx, wkc_fend hx hj, wkl_fend hx, wkc_master hx hj, wkl_master hx, wkc_pinOf hx hj, wkl_pinOf hx, wkc_tries hx hj, wkl_tries hx, wkc_own hx hj, wkl_own hx, wkc_creds hx hj, wkl_creds hx, wkc_presses hx hj, wkl_presses hx, wkc_taken hx hj, wkl_taken hx, wkc_answered hx hj, wkl_answered hx, wkc_agreeing hx hj, wkl_agreeing hx, wkc_token hx hj, wkl_token hx, wkc_wrong hx hj, wkl_wrong hx, wkc_heard hx hj, wkl_heard hx, wkc_listed hx hj, wkl_listed hx, wkc_listAt hx hj, wkl_listAt hx, wkc_listHash hx hj, wkl_listHash hx, wkc_listFlags hx hj, wkl_listFlags hx, wkc_answerSize hx hj, wkl_answerSize hx, wkc_flash hx hj, wkl_flash hx hj, rn, hp, hpn, narrow]
  · have hn0 : ¬ nI (cbV ms p) = 0 := fun z => h0 ((nI_inj (b := 0) hV (by omega)).mp z)
    have e0 : ¬ oVn ms (some p) = 0 := h0
    have bad : ∀ st : Int32, mj_V (d + 4) 319 [.ref 67, .int (nI j), .int (nI p), .int (oP o), .int (nI hs)] (mm B (x.wk j k.1.1.1.1 m) y) = some (some (.int st), mm B (x.wk j k.1.1.1.1 m) y) → ∃ m' y' D', tkn k m k m' ∧ yz y' T D' O ∧ yk y' = yk y ∧ mj_V (d + 4) 319 [.ref 67, .int (nI j), .int (nI p), .int (oP o), .int (nI hs)] (mm B (x.wk j k.1.1.1.1 m) y) = some (some (.int st), mm B (x.wk j k.1.1.1.1 m') y') :=
      fun st hst => ⟨m, y, D, Or.inl ⟨rfl, rfl⟩, hy, rfl, hst⟩
    cases o with
    | none =>
      have eR : pnTest k T ms (some p) none (o4 ms (some hs)) = (51, k) := by unfold pnTest; rw [if_neg e0, if_pos (Or.inl rfl)]
      rw [eR]
      apply bad
      rw [show oP none = -1 from rfl]
      simp (disch := (first | omega | decide)) [S_bx_mcan1_0, S_b8_mkey_1, S_b8_mkey_0, S_b1_mterm_0, S_b1_copy_0, S_b0_mod_7, S_b0_mod_6, S_b0_mod_5, S_b0_mod_3, S_b0_mod_2, S_b0_mod_1, S_b0_mod_0, S_bx_mcan1_1h, S_b0_mod_4h, c319, s319_0, s319_1, s319_2, s319_5, s319_8, s319_9, s319_10, s319_13, s319_16, s319_18, s319_21, s319_22, s319_25, s319_26, s319_27, s319_30, s319_32, s319_35, s319_37, s319_38, s319_39, s319_40, s319_43, s319_44, s319_45, s319_48, s319_49, s319_52, s319_54, s319_55, s319_56, s319_59, s319_60, s319_61, s319_64, s319_66, s319_67, s319_68, s319_70, s319_73, s319_74, s319_75, s319_78, s319_79, s319_80, s319_83, s319_84, s319_85, s319_88, s319_89, s319_91, s319_94, s319_95, s319_98, s319_99, s319_102, s319_104, s319_106, s319_109, s319_110, s319_111, s319_114, s319_117, s319_118, s319_119, s319_122, s319_124, s319_127, s319_128, s319_131, s319_133, mq_k0s, mq_k1s, mq_k2s, mq_k4s, mq_k5s, mq_k5n, mq_k5as, mq_k6s, mj_pu, mj_lo, mj_br, mj_hr, mj_hw, mq_gf, mq_len, mq_al, mq_pf, mq_ok, mj_re, mq_lkm, mq_lkn, mj_ldi, mj_ldl, mj_lda, mj_ii, mj_ll, mj_li, mj_i1, ms_1, ms_2, f1_n, f1_i, f1_r, f1_u, f1_l, f2_n, f2_i, f2_r, f2_u, f2_l, mj_tg, mj_c1, mj_c2, mj_ar, mj_aw, mq_cb, mq_oi, mj_rm, Value.category, -getElem?_pos, List.getElem?_cons_zero, decide_eq_true, decide_eq_false, nl_lt, nl_le, ln_lt, ln_le, nl_eq, ln_eq, nl_add, ln_add, nl_sub, ln_mul, nI_sub, nI_mul, nI_add, nI_lt_iff, nI_le_iff, nI_inj, nI_num, mq_ix, nI_1, nl_mul, nl_div, rn, hn0, narrow]
    | some v =>
      have hiv := ho v rfl
      have hdv := (cbOk_hd.mp hiv.ok).1
      have hv9 := Io.l9 h hiv
      have rv := q_numberAt (d := d + 1) (B := B) (x := x.wk j k.1.1.1.1 m) (y := y) h hdv.1 hdv.2.2.2.1
      have hVv := hdv.2.2.2.2.2.1
      have hoP : oP (some v) = nI v := rfl
      by_cases h1 : cbV ms v = 1
      · have e1 : ¬ ((some v : Option Nat) = none ∨ oVn ms (some v) ≠ 1) := by
          rintro (z | z)
          · cases z
          · exact z h1
        rw [h1] at rv
        by_cases hpn : k.1.1.1.1.2.2.2.2.2.2.2.2.1 = 0
        · have eR : pnTest k T ms (some p) (some v) (o4 ms (some hs)) = (53, k) := by unfold pnTest; rw [if_neg e0, if_neg e1, if_pos hpn]
          rw [eR]
          apply bad
          rw [hoP]
          simp (disch := (first | omega | decide)) [S_bx_mcan1_0, S_b8_mkey_1, S_b8_mkey_0, S_b1_mterm_0, S_b1_copy_0, S_b0_mod_7, S_b0_mod_6, S_b0_mod_5, S_b0_mod_3, S_b0_mod_2, S_b0_mod_1, S_b0_mod_0, S_bx_mcan1_1h, S_b0_mod_4h, c319, s319_0, s319_1, s319_2, s319_5, s319_8, s319_9, s319_10, s319_13, s319_16, s319_18, s319_21, s319_22, s319_25, s319_26, s319_27, s319_30, s319_32, s319_35, s319_37, s319_38, s319_39, s319_40, s319_43, s319_44, s319_45, s319_48, s319_49, s319_52, s319_54, s319_55, s319_56, s319_59, s319_60, s319_61, s319_64, s319_66, s319_67, s319_68, s319_70, s319_73, s319_74, s319_75, s319_78, s319_79, s319_80, s319_83, s319_84, s319_85, s319_88, s319_89, s319_91, s319_94, s319_95, s319_98, s319_99, s319_102, s319_104, s319_106, s319_109, s319_110, s319_111, s319_114, s319_117, s319_118, s319_119, s319_122, s319_124, s319_127, s319_128, s319_131, s319_133, mq_k0s, mq_k1s, mq_k2s, mq_k4s, mq_k5s, mq_k5n, mq_k5as, mq_k6s, mj_pu, mj_lo, mj_br, mj_hr, mj_hw, mq_gf, mq_len, mq_al, mq_pf, mq_ok, mj_re, mq_lkm, mq_lkn, mj_ldi, mj_ldl, mj_lda, mj_ii, mj_ll, mj_li, mj_i1, ms_1, ms_2, f1_n, f1_i, f1_r, f1_u, f1_l, f2_n, f2_i, f2_r, f2_u, f2_l, mj_tg, mj_c1, mj_c2, mj_ar, mj_aw, mq_cb, mq_oi, mj_rm, Value.category, -getElem?_pos, List.getElem?_cons_zero, decide_eq_true, decide_eq_false, nl_lt, nl_le, ln_lt, ln_le, nl_eq, ln_eq, nl_add, ln_add, nl_sub, ln_mul, nI_sub, nI_mul, nI_add, nI_lt_iff, nI_le_iff, nI_inj, nI_num, mq_ix, nI_1, nl_mul, nl_div, wkc_on hx hj, wkl_on hx, wkc_acts hx hj, wkl_acts hx, wkc_limit hx hj, wkl_limit hx, wkc_generation hx hj, wkl_generation hx, wkc_area hx hj, wkl_area hx, wkc_fend hx hj, wkl_fend hx, wkc_master hx hj, wkl_master hx, wkc_pinOf hx hj, wkl_pinOf hx, wkc_tries hx hj, wkl_tries hx, wkc_own hx hj, wkl_own hx, wkc_creds hx hj, wkl_creds hx, wkc_presses hx hj, wkl_presses hx, wkc_taken hx hj, wkl_taken hx, wkc_answered hx hj, wkl_answered hx, wkc_agreeing hx hj, wkl_agreeing hx, wkc_token hx hj, wkl_token hx, wkc_wrong hx hj, wkl_wrong hx, wkc_heard hx hj, wkl_heard hx, wkc_listed hx hj, wkl_listed hx, wkc_listAt hx hj, wkl_listAt hx, wkc_listHash hx hj, wkl_listHash hx, wkc_listFlags hx hj, wkl_listFlags hx, wkc_answerSize hx hj, wkl_answerSize hx, wkc_flash hx hj, wkl_flash hx hj, rn, hn0, hv9.2, rv, hpn, narrow]
        · have eR : pnTest k T ms (some p) (some v) (o4 ms (some hs)) = (if kn_as T (10 :: nI k.2.1.1.1 :: b4 (o4 ms (some hs))) (o4 ms (some p)) then 0 else 51, k) := by unfold pnTest; rw [if_neg e0, if_neg e1, if_neg hpn]
          rw [eR, hoP]
          dsimp only
          obtain ⟨y1, a1, a2, a3⟩ := q_begin (d := d + 2) (B := B) (x := x.wk j k.1.1.1.1 m) hy 10
          obtain ⟨y2, b1, b2, b3⟩ := q_say (d := d + 2) (B := B) (x := x.wk j k.1.1.1.1 m) a2 (by simp [S_bx_mcan1_0, S_b8_mkey_1, S_b8_mkey_0, S_b1_mterm_0, S_b1_copy_0, S_b0_mod_7, S_b0_mod_6, S_b0_mod_5, S_b0_mod_3, S_b0_mod_2, S_b0_mod_1, S_b0_mod_0, S_bx_mcan1_1h, S_b0_mod_4h]) m.1.1.2.2
          have hdh := (cbOk_hd.mp his.ok).1
          have hin := (cbOk_hd.mp his.ok).2 (Or.inl hs2)
          rw [hs4] at hin
          have rb := q_behindHead (d := d + 1) (B := B) (x := x.wk j k.1.1.1.1 m) (y := y2) h hdh.1
          obtain ⟨y3, c1, c2, c3⟩ := q_sayItem (d := d + 1) (B := B) (x := x.wk j k.1.1.1.1 m) (hX m) b2 hin (by simp [S_bx_mcan1_0, S_b8_mkey_1, S_b8_mkey_0, S_b1_mterm_0, S_b1_copy_0, S_b0_mod_7, S_b0_mod_6, S_b0_mod_5, S_b0_mod_3, S_b0_mod_2, S_b0_mod_1, S_b0_mod_0, S_bx_mcan1_1h, S_b0_mod_4h])
          have erow : [10] ++ [m.1.1.2.2] ++ (ms.drop (cbC ms hs)).take 4 = 10 :: nI k.2.1.1.1 :: b4 (o4 ms (some hs)) := by
            rw [o4_w4 h.2.2 hs2 hs4, b4_w4a h.2.2 hin, hk.tk]; rfl
          rw [erow] at c2
          have r5 := q_found (d := d + 1) (B := B) (x := x.wk j k.1.1.1.1 m) c2 (by simp [S_bx_mcan1_0, S_b8_mkey_1, S_b8_mkey_0, S_b1_mterm_0, S_b1_copy_0, S_b0_mod_7, S_b0_mod_6, S_b0_mod_5, S_b0_mod_3, S_b0_mod_2, S_b0_mod_1, S_b0_mod_0, S_bx_mcan1_1h, S_b0_mod_4h])
          have ri := q_isInt (d := d) (B := B) (x := x.wk j k.1.1.1.1 m) (y := y3) h hd.1 hd.2.2.2.1 hV
          rw [show nI 4 = (4 : Int32) from rfl] at c1
          refine ⟨m, y3, _, Or.inl ⟨rfl, rfl⟩, c2, ?_, ?_⟩
          · rw [yk_nd c3, yk_nd b3, yk_nd a3]
          · unfold kn_as
            have hix : tm_ix T.1 (10 :: nI k.2.1.1.1 :: b4 (o4 ms (some hs))) < 2 ^ 30 := ix_lt c2
            generalize tm_ix T.1 (10 :: nI k.2.1.1.1 :: b4 (o4 ms (some hs))) = ix at *
            by_cases hix0 : ix = 0
            · simp only [hix0, decide_true, Bool.not_true, Bool.false_and, Bool.false_eq_true, if_false] at r5 ⊢
              rw [nI_0] at r5
              simp (disch := (first | omega | decide)) [S_bx_mcan1_0, S_b8_mkey_1, S_b8_mkey_0, S_b1_mterm_0, S_b1_copy_0, S_b0_mod_7, S_b0_mod_6, S_b0_mod_5, S_b0_mod_3, S_b0_mod_2, S_b0_mod_1, S_b0_mod_0, S_bx_mcan1_1h, S_b0_mod_4h, c319, s319_0, s319_1, s319_2, s319_5, s319_8, s319_9, s319_10, s319_13, s319_16, s319_18, s319_21, s319_22, s319_25, s319_26, s319_27, s319_30, s319_32, s319_35, s319_37, s319_38, s319_39, s319_40, s319_43, s319_44, s319_45, s319_48, s319_49, s319_52, s319_54, s319_55, s319_56, s319_59, s319_60, s319_61, s319_64, s319_66, s319_67, s319_68, s319_70, s319_73, s319_74, s319_75, s319_78, s319_79, s319_80, s319_83, s319_84, s319_85, s319_88, s319_89, s319_91, s319_94, s319_95, s319_98, s319_99, s319_102, s319_104, s319_106, s319_109, s319_110, s319_111, s319_114, s319_117, s319_118, s319_119, s319_122, s319_124, s319_127, s319_128, s319_131, s319_133, mq_k0s, mq_k1s, mq_k2s, mq_k4s, mq_k5s, mq_k5n, mq_k5as, mq_k6s, mj_pu, mj_lo, mj_br, mj_hr, mj_hw, mq_gf, mq_len, mq_al, mq_pf, mq_ok, mj_re, mq_lkm, mq_lkn, mj_ldi, mj_ldl, mj_lda, mj_ii, mj_ll, mj_li, mj_i1, ms_1, ms_2, f1_n, f1_i, f1_r, f1_u, f1_l, f2_n, f2_i, f2_r, f2_u, f2_l, mj_tg, mj_c1, mj_c2, mj_ar, mj_aw, mq_cb, mq_oi, mj_rm, Value.category, -getElem?_pos, List.getElem?_cons_zero, decide_eq_true, decide_eq_false, nl_lt, nl_le, ln_lt, ln_le, nl_eq, ln_eq, nl_add, ln_add, nl_sub, ln_mul, nI_sub, nI_mul, nI_add, nI_lt_iff, nI_le_iff, nI_inj, nI_num, mq_ix, nI_1, nl_mul, nl_div, wkc_on hx hj, wkl_on hx, wkc_acts hx hj, wkl_acts hx, wkc_limit hx hj, wkl_limit hx, wkc_generation hx hj, wkl_generation hx, wkc_area hx hj, wkl_area hx, wkc_fend hx hj, wkl_fend hx, wkc_master hx hj, wkl_master hx, wkc_pinOf hx hj, wkl_pinOf hx, wkc_tries hx hj, wkl_tries hx, wkc_own hx hj, wkl_own hx, wkc_creds hx hj, wkl_creds hx, wkc_presses hx hj, wkl_presses hx, wkc_taken hx hj, wkl_taken hx, wkc_answered hx hj, wkl_answered hx, wkc_agreeing hx hj, wkl_agreeing hx, wkc_token hx hj, wkl_token hx, wkc_wrong hx hj, wkl_wrong hx, wkc_heard hx hj, wkl_heard hx, wkc_listed hx hj, wkl_listed hx, wkc_listAt hx hj, wkl_listAt hx, wkc_listHash hx hj, wkl_listHash hx, wkc_listFlags hx hj, wkl_listFlags hx, wkc_answerSize hx hj, wkl_answerSize hx, wkc_flash hx hj, wkl_flash hx hj, rn, hn0, hv9.2, rv, hpn, a1, b1, rb, c1, r5, narrow]
            · have hixn : ¬ nI ix = 0 := fun z => hix0 ((nI_inj (b := 0) (by omega) (by omega)).mp z)
              by_cases h4 : cbV ms p = 4
              · have hin2 := (cbOk_hd.mp ok).2 (Or.inl h2)
                rw [h4] at hin2
                have rI := q_itemInt (d := d) (B := B) (x := x.wk j k.1.1.1.1 m) (y := y3) h hd.1 hin2
                rw [o4_w4 h.2.2 h2 h4]
                rw [decide_eq_true h4] at ri
                generalize w4a ms (cbC ms p) = id at *
                by_cases he : nI ix = id
                · simp only [hix0, he, decide_false, decide_true, Bool.not_false, Bool.and_self, if_true] at r5 ⊢
                  rw [he] at hixn
                  simp (disch := (first | omega | decide)) [S_bx_mcan1_0, S_b8_mkey_1, S_b8_mkey_0, S_b1_mterm_0, S_b1_copy_0, S_b0_mod_7, S_b0_mod_6, S_b0_mod_5, S_b0_mod_3, S_b0_mod_2, S_b0_mod_1, S_b0_mod_0, S_bx_mcan1_1h, S_b0_mod_4h, c319, s319_0, s319_1, s319_2, s319_5, s319_8, s319_9, s319_10, s319_13, s319_16, s319_18, s319_21, s319_22, s319_25, s319_26, s319_27, s319_30, s319_32, s319_35, s319_37, s319_38, s319_39, s319_40, s319_43, s319_44, s319_45, s319_48, s319_49, s319_52, s319_54, s319_55, s319_56, s319_59, s319_60, s319_61, s319_64, s319_66, s319_67, s319_68, s319_70, s319_73, s319_74, s319_75, s319_78, s319_79, s319_80, s319_83, s319_84, s319_85, s319_88, s319_89, s319_91, s319_94, s319_95, s319_98, s319_99, s319_102, s319_104, s319_106, s319_109, s319_110, s319_111, s319_114, s319_117, s319_118, s319_119, s319_122, s319_124, s319_127, s319_128, s319_131, s319_133, mq_k0s, mq_k1s, mq_k2s, mq_k4s, mq_k5s, mq_k5n, mq_k5as, mq_k6s, mj_pu, mj_lo, mj_br, mj_hr, mj_hw, mq_gf, mq_len, mq_al, mq_pf, mq_ok, mj_re, mq_lkm, mq_lkn, mj_ldi, mj_ldl, mj_lda, mj_ii, mj_ll, mj_li, mj_i1, ms_1, ms_2, f1_n, f1_i, f1_r, f1_u, f1_l, f2_n, f2_i, f2_r, f2_u, f2_l, mj_tg, mj_c1, mj_c2, mj_ar, mj_aw, mq_cb, mq_oi, mj_rm, Value.category, -getElem?_pos, List.getElem?_cons_zero, decide_eq_true, decide_eq_false, nl_lt, nl_le, ln_lt, ln_le, nl_eq, ln_eq, nl_add, ln_add, nl_sub, ln_mul, nI_sub, nI_mul, nI_add, nI_lt_iff, nI_le_iff, nI_inj, nI_num, mq_ix, nI_1, nl_mul, nl_div, wkc_on hx hj, wkl_on hx, wkc_acts hx hj, wkl_acts hx, wkc_limit hx hj, wkl_limit hx, wkc_generation hx hj, wkl_generation hx, wkc_area hx hj, wkl_area hx, wkc_fend hx hj, wkl_fend hx, wkc_master hx hj, wkl_master hx, wkc_pinOf hx hj, wkl_pinOf hx, wkc_tries hx hj, wkl_tries hx, wkc_own hx hj, wkl_own hx, wkc_creds hx hj, wkl_creds hx, wkc_presses hx hj, wkl_presses hx, wkc_taken hx hj, wkl_taken hx, wkc_answered hx hj, wkl_answered hx, wkc_agreeing hx hj, wkl_agreeing hx, wkc_token hx hj, wkl_token hx, wkc_wrong hx hj, wkl_wrong hx, wkc_heard hx hj, wkl_heard hx, wkc_listed hx hj, wkl_listed hx, wkc_listAt hx hj, wkl_listAt hx, wkc_listHash hx hj, wkl_listHash hx, wkc_listFlags hx hj, wkl_listFlags hx, wkc_answerSize hx hj, wkl_answerSize hx, wkc_flash hx hj, wkl_flash hx hj, rn, hn0, hv9.2, rv, hpn, a1, b1, rb, c1, r5, hixn, ri, rI, on1, narrow]
                · simp only [hix0, he, decide_false, Bool.not_false, Bool.and_false, Bool.false_eq_true, if_false]
                  have he2 : ¬ id = nI ix := fun z => he z.symm
                  simp (disch := (first | omega | decide)) [S_bx_mcan1_0, S_b8_mkey_1, S_b8_mkey_0, S_b1_mterm_0, S_b1_copy_0, S_b0_mod_7, S_b0_mod_6, S_b0_mod_5, S_b0_mod_3, S_b0_mod_2, S_b0_mod_1, S_b0_mod_0, S_bx_mcan1_1h, S_b0_mod_4h, c319, s319_0, s319_1, s319_2, s319_5, s319_8, s319_9, s319_10, s319_13, s319_16, s319_18, s319_21, s319_22, s319_25, s319_26, s319_27, s319_30, s319_32, s319_35, s319_37, s319_38, s319_39, s319_40, s319_43, s319_44, s319_45, s319_48, s319_49, s319_52, s319_54, s319_55, s319_56, s319_59, s319_60, s319_61, s319_64, s319_66, s319_67, s319_68, s319_70, s319_73, s319_74, s319_75, s319_78, s319_79, s319_80, s319_83, s319_84, s319_85, s319_88, s319_89, s319_91, s319_94, s319_95, s319_98, s319_99, s319_102, s319_104, s319_106, s319_109, s319_110, s319_111, s319_114, s319_117, s319_118, s319_119, s319_122, s319_124, s319_127, s319_128, s319_131, s319_133, mq_k0s, mq_k1s, mq_k2s, mq_k4s, mq_k5s, mq_k5n, mq_k5as, mq_k6s, mj_pu, mj_lo, mj_br, mj_hr, mj_hw, mq_gf, mq_len, mq_al, mq_pf, mq_ok, mj_re, mq_lkm, mq_lkn, mj_ldi, mj_ldl, mj_lda, mj_ii, mj_ll, mj_li, mj_i1, ms_1, ms_2, f1_n, f1_i, f1_r, f1_u, f1_l, f2_n, f2_i, f2_r, f2_u, f2_l, mj_tg, mj_c1, mj_c2, mj_ar, mj_aw, mq_cb, mq_oi, mj_rm, Value.category, -getElem?_pos, List.getElem?_cons_zero, decide_eq_true, decide_eq_false, nl_lt, nl_le, ln_lt, ln_le, nl_eq, ln_eq, nl_add, ln_add, nl_sub, ln_mul, nI_sub, nI_mul, nI_add, nI_lt_iff, nI_le_iff, nI_inj, nI_num, mq_ix, nI_1, nl_mul, nl_div, wkc_on hx hj, wkl_on hx, wkc_acts hx hj, wkl_acts hx, wkc_limit hx hj, wkl_limit hx, wkc_generation hx hj, wkl_generation hx, wkc_area hx hj, wkl_area hx, wkc_fend hx hj, wkl_fend hx, wkc_master hx hj, wkl_master hx, wkc_pinOf hx hj, wkl_pinOf hx, wkc_tries hx hj, wkl_tries hx, wkc_own hx hj, wkl_own hx, wkc_creds hx hj, wkl_creds hx, wkc_presses hx hj, wkl_presses hx, wkc_taken hx hj, wkl_taken hx, wkc_answered hx hj, wkl_answered hx, wkc_agreeing hx hj, wkl_agreeing hx, wkc_token hx hj, wkl_token hx, wkc_wrong hx hj, wkl_wrong hx, wkc_heard hx hj, wkl_heard hx, wkc_listed hx hj, wkl_listed hx, wkc_listAt hx hj, wkl_listAt hx, wkc_listHash hx hj, wkl_listHash hx, wkc_listFlags hx hj, wkl_listFlags hx, wkc_answerSize hx hj, wkl_answerSize hx, wkc_flash hx hj, wkl_flash hx hj, rn, hn0, hv9.2, rv, hpn, a1, b1, rb, c1, r5, hixn, ri, rI, he, he2, on1, narrow]
              · rw [o4_no h4]
                rw [decide_eq_false h4] at ri
                simp only [hixn, decide_false, Bool.and_false, Bool.false_eq_true, if_false]
                simp (disch := (first | omega | decide)) [S_bx_mcan1_0, S_b8_mkey_1, S_b8_mkey_0, S_b1_mterm_0, S_b1_copy_0, S_b0_mod_7, S_b0_mod_6, S_b0_mod_5, S_b0_mod_3, S_b0_mod_2, S_b0_mod_1, S_b0_mod_0, S_bx_mcan1_1h, S_b0_mod_4h, c319, s319_0, s319_1, s319_2, s319_5, s319_8, s319_9, s319_10, s319_13, s319_16, s319_18, s319_21, s319_22, s319_25, s319_26, s319_27, s319_30, s319_32, s319_35, s319_37, s319_38, s319_39, s319_40, s319_43, s319_44, s319_45, s319_48, s319_49, s319_52, s319_54, s319_55, s319_56, s319_59, s319_60, s319_61, s319_64, s319_66, s319_67, s319_68, s319_70, s319_73, s319_74, s319_75, s319_78, s319_79, s319_80, s319_83, s319_84, s319_85, s319_88, s319_89, s319_91, s319_94, s319_95, s319_98, s319_99, s319_102, s319_104, s319_106, s319_109, s319_110, s319_111, s319_114, s319_117, s319_118, s319_119, s319_122, s319_124, s319_127, s319_128, s319_131, s319_133, mq_k0s, mq_k1s, mq_k2s, mq_k4s, mq_k5s, mq_k5n, mq_k5as, mq_k6s, mj_pu, mj_lo, mj_br, mj_hr, mj_hw, mq_gf, mq_len, mq_al, mq_pf, mq_ok, mj_re, mq_lkm, mq_lkn, mj_ldi, mj_ldl, mj_lda, mj_ii, mj_ll, mj_li, mj_i1, ms_1, ms_2, f1_n, f1_i, f1_r, f1_u, f1_l, f2_n, f2_i, f2_r, f2_u, f2_l, mj_tg, mj_c1, mj_c2, mj_ar, mj_aw, mq_cb, mq_oi, mj_rm, Value.category, -getElem?_pos, List.getElem?_cons_zero, decide_eq_true, decide_eq_false, nl_lt, nl_le, ln_lt, ln_le, nl_eq, ln_eq, nl_add, ln_add, nl_sub, ln_mul, nI_sub, nI_mul, nI_add, nI_lt_iff, nI_le_iff, nI_inj, nI_num, mq_ix, nI_1, nl_mul, nl_div, wkc_on hx hj, wkl_on hx, wkc_acts hx hj, wkl_acts hx, wkc_limit hx hj, wkl_limit hx, wkc_generation hx hj, wkl_generation hx, wkc_area hx hj, wkl_area hx, wkc_fend hx hj, wkl_fend hx, wkc_master hx hj, wkl_master hx, wkc_pinOf hx hj, wkl_pinOf hx, wkc_tries hx hj, wkl_tries hx, wkc_own hx hj, wkl_own hx, wkc_creds hx hj, wkl_creds hx, wkc_presses hx hj, wkl_presses hx, wkc_taken hx hj, wkl_taken hx, wkc_answered hx hj, wkl_answered hx, wkc_agreeing hx hj, wkl_agreeing hx, wkc_token hx hj, wkl_token hx, wkc_wrong hx hj, wkl_wrong hx, wkc_heard hx hj, wkl_heard hx, wkc_listed hx hj, wkl_listed hx, wkc_listAt hx hj, wkl_listAt hx, wkc_listHash hx hj, wkl_listHash hx, wkc_listFlags hx hj, wkl_listFlags hx, wkc_answerSize hx hj, wkl_answerSize hx, wkc_flash hx hj, wkl_flash hx hj, rn, hn0, hv9.2, rv, hpn, a1, b1, rb, c1, r5, hixn, ri, on1, narrow]
      · have eR : pnTest k T ms (some p) (some v) (o4 ms (some hs)) = (51, k) := by unfold pnTest; rw [if_neg e0, if_pos (show (some v : Option Nat) = none ∨ oVn ms (some v) ≠ 1 from Or.inr h1)]
        rw [eR]
        apply bad
        rw [hoP]
        simp (disch := (first | omega | decide)) [S_bx_mcan1_0, S_b8_mkey_1, S_b8_mkey_0, S_b1_mterm_0, S_b1_copy_0, S_b0_mod_7, S_b0_mod_6, S_b0_mod_5, S_b0_mod_3, S_b0_mod_2, S_b0_mod_1, S_b0_mod_0, S_bx_mcan1_1h, S_b0_mod_4h, c319, s319_0, s319_1, s319_2, s319_5, s319_8, s319_9, s319_10, s319_13, s319_16, s319_18, s319_21, s319_22, s319_25, s319_26, s319_27, s319_30, s319_32, s319_35, s319_37, s319_38, s319_39, s319_40, s319_43, s319_44, s319_45, s319_48, s319_49, s319_52, s319_54, s319_55, s319_56, s319_59, s319_60, s319_61, s319_64, s319_66, s319_67, s319_68, s319_70, s319_73, s319_74, s319_75, s319_78, s319_79, s319_80, s319_83, s319_84, s319_85, s319_88, s319_89, s319_91, s319_94, s319_95, s319_98, s319_99, s319_102, s319_104, s319_106, s319_109, s319_110, s319_111, s319_114, s319_117, s319_118, s319_119, s319_122, s319_124, s319_127, s319_128, s319_131, s319_133, mq_k0s, mq_k1s, mq_k2s, mq_k4s, mq_k5s, mq_k5n, mq_k5as, mq_k6s, mj_pu, mj_lo, mj_br, mj_hr, mj_hw, mq_gf, mq_len, mq_al, mq_pf, mq_ok, mj_re, mq_lkm, mq_lkn, mj_ldi, mj_ldl, mj_lda, mj_ii, mj_ll, mj_li, mj_i1, ms_1, ms_2, f1_n, f1_i, f1_r, f1_u, f1_l, f2_n, f2_i, f2_r, f2_u, f2_l, mj_tg, mj_c1, mj_c2, mj_ar, mj_aw, mq_cb, mq_oi, mj_rm, Value.category, -getElem?_pos, List.getElem?_cons_zero, decide_eq_true, decide_eq_false, nl_lt, nl_le, ln_lt, ln_le, nl_eq, ln_eq, nl_add, ln_add, nl_sub, ln_mul, nI_sub, nI_mul, nI_add, nI_lt_iff, nI_le_iff, nI_inj, nI_num, mq_ix, nI_1, nl_mul, nl_div, rn, hn0, hv9.2, rv, h1, narrow]
def crS (cr : List Cr) : Nat := (cr.map (fun c => 28 + c.2.2.2.1.length)).sum
theorem crS_app (a b : List Cr) : crS (a ++ b) = crS a + crS b := by unfold crS; rw [List.map_append, List.sum_append]
theorem l_hasRoom {s : Fl} (hx : xk x) (hj : j < 3) (hm : wm m) (h12 : s.2.2.2.2.2.2.2.2.2.2.2.length ≤ 12) (hc : cF s.2.2.2.2.2.2.2.2.2.2.2 m) {l3 : Int32} {l2 : Int32} {l4 : Int32} : ∀ (n i : Nat), i + n = s.2.2.2.2.2.2.2.2.2.2.2.length → ∀ r,
    mj_Rn (d + 3) mj_m320 51 [(5, .int (nI (61 + crS s.2.2.2.2.2.2.2.2.2.2.2))), (4, .int l4), (0, .ref 67), (1, .int (nI j)), (2, .int l2), (3, .int l3)] [] (mm B (x.wk j s m) y) = some r →
    mj_Rn (d + 3) mj_m320 14 [(6, .int (nI i)), (5, .int (nI (61 + crS (s.2.2.2.2.2.2.2.2.2.2.2.take i)))), (4, .int l4), (0, .ref 67), (1, .int (nI j)), (2, .int l2), (3, .int l3)] [] (mm B (x.wk j s m) y) = some r := by
  intro n
  induction n with
  | zero =>
    intro i hi r hr
    rw [List.take_of_length_le (by omega)]
    rw [s320_14]
    simp (disch := (first | omega | decide)) [S_bx_mcan1_0, S_b8_mkey_1, S_b8_mkey_0, S_b1_mterm_0, S_b1_copy_0, S_b0_mod_7, S_b0_mod_6, S_b0_mod_5, S_b0_mod_3, S_b0_mod_2, S_b0_mod_1, S_b0_mod_0, S_bx_mcan1_1h, S_b0_mod_4h, s320_0, s320_1, s320_2, s320_5, s320_7, s320_9, s320_11, s320_12, s320_16, s320_17, s320_20, s320_21, s320_22, s320_25, s320_27, s320_29, s320_30, s320_33, s320_35, s320_36, s320_37, s320_39, s320_40, s320_41, s320_42, s320_43, s320_45, s320_48, s320_52, s320_55, s320_56, s320_59, s320_60, s320_61, s320_64, s320_65, s320_66, s320_67, s320_68, s320_71, s320_72, s320_73, s320_76, s320_78, s320_81, s320_83, s320_85, s320_87, s320_88, s320_91, s320_92, s320_93, s320_96, s320_98, s320_100, s320_101, s320_104, s320_105, s320_106, s320_108, s320_110, s320_113, s320_116, s320_117, s320_120, s320_121, mq_k0s, mq_k1s, mq_k2s, mq_k4s, mq_k5s, mq_k5n, mq_k5as, mq_k6s, mj_pu, mj_lo, mj_br, mj_hr, mj_hw, mq_gf, mq_len, mq_al, mq_pf, mq_ok, mj_re, mq_lkm, mq_lkn, mj_ldi, mj_ldl, mj_lda, mj_ii, mj_ll, mj_li, mj_i1, ms_1, ms_2, f1_n, f1_i, f1_r, f1_u, f1_l, f2_n, f2_i, f2_r, f2_u, f2_l, mj_tg, mj_c1, mj_c2, mj_ar, mj_aw, mq_cb, mq_oi, mj_rm, Value.category, -getElem?_pos, List.getElem?_cons_zero, decide_eq_true, decide_eq_false, nl_lt, nl_le, ln_lt, ln_le, nl_eq, ln_eq, nl_add, ln_add, nl_sub, ln_mul, nI_sub, nI_mul, nI_add, nI_lt_iff, nI_le_iff, nI_inj, nI_num, mq_ix, nI_1, nl_mul, nl_div, wkc_on hx hj, wkl_on hx, wkc_acts hx hj, wkl_acts hx, wkc_limit hx hj, wkl_limit hx, wkc_generation hx hj, wkl_generation hx, wkc_area hx hj, wkl_area hx, wkc_fend hx hj, wkl_fend hx, wkc_master hx hj, wkl_master hx, wkc_pinOf hx hj, wkl_pinOf hx, wkc_tries hx hj, wkl_tries hx, wkc_own hx hj, wkl_own hx, wkc_creds hx hj, wkl_creds hx, wkc_presses hx hj, wkl_presses hx, wkc_taken hx hj, wkl_taken hx, wkc_answered hx hj, wkl_answered hx, wkc_agreeing hx hj, wkl_agreeing hx, wkc_token hx hj, wkl_token hx, wkc_wrong hx hj, wkl_wrong hx, wkc_heard hx hj, wkl_heard hx, wkc_listed hx hj, wkl_listed hx, wkc_listAt hx hj, wkl_listAt hx, wkc_listHash hx hj, wkl_listHash hx, wkc_listFlags hx hj, wkl_listFlags hx, wkc_answerSize hx hj, wkl_answerSize hx, wkc_flash hx hj, wkl_flash hx hj, show s.2.2.2.2.2.2.2.2.2.2.2.length ≤ i by omega]
    refine mq_wk ?_ hr
    simp [S_bx_mcan1_0, S_b8_mkey_1, S_b8_mkey_0, S_b1_mterm_0, S_b1_copy_0, S_b0_mod_7, S_b0_mod_6, S_b0_mod_5, S_b0_mod_3, S_b0_mod_2, S_b0_mod_1, S_b0_mod_0, S_bx_mcan1_1h, S_b0_mod_4h, mq_sub, mj_lk]
  | succ n ih =>
    intro i hi r hr
    have r1 := ih (i + 1) (by omega) r hr
    have hil : i < s.2.2.2.2.2.2.2.2.2.2.2.length := by omega
    obtain ⟨c, hci⟩ : ∃ c, s.2.2.2.2.2.2.2.2.2.2.2[i]? = some c := ⟨_, List.getElem?_eq_getElem hil⟩
    obtain ⟨hI, hH, hS, hC, hL, h8, hU⟩ := hc i c hci
    have e : crS (s.2.2.2.2.2.2.2.2.2.2.2.take (i + 1)) = crS (s.2.2.2.2.2.2.2.2.2.2.2.take i) + (28 + c.2.2.2.1.length) := by
      rw [List.take_add_one, hci, Option.toList_some, crS_app]
      simp [S_bx_mcan1_0, S_b8_mkey_1, S_b8_mkey_0, S_b1_mterm_0, S_b1_copy_0, S_b0_mod_7, S_b0_mod_6, S_b0_mod_5, S_b0_mod_3, S_b0_mod_2, S_b0_mod_1, S_b0_mod_0, S_bx_mcan1_1h, S_b0_mod_4h, crS]
    rw [e, ← Nat.add_assoc] at r1
    generalize 61 + crS (s.2.2.2.2.2.2.2.2.2.2.2.take i) = acc at *
    rw [s320_14]
    simp (disch := (first | omega | decide)) [S_bx_mcan1_0, S_b8_mkey_1, S_b8_mkey_0, S_b1_mterm_0, S_b1_copy_0, S_b0_mod_7, S_b0_mod_6, S_b0_mod_5, S_b0_mod_3, S_b0_mod_2, S_b0_mod_1, S_b0_mod_0, S_bx_mcan1_1h, S_b0_mod_4h, s320_0, s320_1, s320_2, s320_5, s320_7, s320_9, s320_11, s320_12, s320_16, s320_17, s320_20, s320_21, s320_22, s320_25, s320_27, s320_29, s320_30, s320_33, s320_35, s320_36, s320_37, s320_39, s320_40, s320_41, s320_42, s320_43, s320_45, s320_48, s320_52, s320_55, s320_56, s320_59, s320_60, s320_61, s320_64, s320_65, s320_66, s320_67, s320_68, s320_71, s320_72, s320_73, s320_76, s320_78, s320_81, s320_83, s320_85, s320_87, s320_88, s320_91, s320_92, s320_93, s320_96, s320_98, s320_100, s320_101, s320_104, s320_105, s320_106, s320_108, s320_110, s320_113, s320_116, s320_117, s320_120, s320_121, mq_k0s, mq_k1s, mq_k2s, mq_k4s, mq_k5s, mq_k5n, mq_k5as, mq_k6s, mj_pu, mj_lo, mj_br, mj_hr, mj_hw, mq_gf, mq_len, mq_al, mq_pf, mq_ok, mj_re, mq_lkm, mq_lkn, mj_ldi, mj_ldl, mj_lda, mj_ii, mj_ll, mj_li, mj_i1, ms_1, ms_2, f1_n, f1_i, f1_r, f1_u, f1_l, f2_n, f2_i, f2_r, f2_u, f2_l, mj_tg, mj_c1, mj_c2, mj_ar, mj_aw, mq_cb, mq_oi, mj_rm, Value.category, -getElem?_pos, List.getElem?_cons_zero, decide_eq_true, decide_eq_false, nl_lt, nl_le, ln_lt, ln_le, nl_eq, ln_eq, nl_add, ln_add, nl_sub, ln_mul, nI_sub, nI_mul, nI_add, nI_lt_iff, nI_le_iff, nI_inj, nI_num, mq_ix, nI_1, nl_mul, nl_div, wkc_on hx hj, wkl_on hx, wkc_acts hx hj, wkl_acts hx, wkc_limit hx hj, wkl_limit hx, wkc_generation hx hj, wkl_generation hx, wkc_area hx hj, wkl_area hx, wkc_fend hx hj, wkl_fend hx, wkc_master hx hj, wkl_master hx, wkc_pinOf hx hj, wkl_pinOf hx, wkc_tries hx hj, wkl_tries hx, wkc_own hx hj, wkl_own hx, wkc_creds hx hj, wkl_creds hx, wkc_presses hx hj, wkl_presses hx, wkc_taken hx hj, wkl_taken hx, wkc_answered hx hj, wkl_answered hx, wkc_agreeing hx hj, wkl_agreeing hx, wkc_token hx hj, wkl_token hx, wkc_wrong hx hj, wkl_wrong hx, wkc_heard hx hj, wkl_heard hx, wkc_listed hx hj, wkl_listed hx, wkc_listAt hx hj, wkl_listAt hx, wkc_listHash hx hj, wkl_listHash hx, wkc_listFlags hx hj, wkl_listFlags hx, wkc_answerSize hx hj, wkl_answerSize hx, wkc_flash hx hj, wkl_flash hx hj, wkf_credId hx hj hm, wkf_credHash hx hj hm, wkf_credSecret hx hj hm, wkf_credCount hx hj hm, wkf_credLong hx hj hm, wkf_credUser hx hj hm, wkf_list hx hj hm, wkf_answers hx hj hm, wkf_flash hx hj, wkc_credId hx hj hm, wkl_credId hx hj hm, wkc_credHash hx hj hm, wkl_credHash hx hj hm, wkc_credSecret hx hj hm, wkl_credSecret hx hj hm, wkc_credCount hx hj hm, wkl_credCount hx hj hm, wkc_credLong hx hj hm, wkl_credLong hx hj hm, wkc_credUser hx hj hm, wkl_credUser hx hj hm, wkc_list hx hj hm, wkl_list hx hj hm, wkc_answers hx hj hm, wkl_answers hx hj hm, hL, show ¬ s.2.2.2.2.2.2.2.2.2.2.2.length ≤ i by omega]
    refine mq_wk ?_ r1
    simp [S_bx_mcan1_0, S_b8_mkey_1, S_b8_mkey_0, S_b1_mterm_0, S_b1_copy_0, S_b0_mod_7, S_b0_mod_6, S_b0_mod_5, S_b0_mod_3, S_b0_mod_2, S_b0_mod_1, S_b0_mod_0, S_bx_mcan1_1h, S_b0_mod_4h, mq_sub, mj_lk]
theorem need_eq {cr : List Cr} {party : Int32} {u : List Int32} : fs_need cr party u = 61 + crS cr + (if fs_pl cr party u = cr.length then 28 + u.length else 0) := by
  unfold fs_need
  by_cases h : fs_pl cr party u = cr.length
  · rw [if_pos h, h, List.eraseIdx_of_length_le (Nat.le_refl _)]
    unfold crS
    omega
  · have hl : fs_pl cr party u < cr.length := by
      have : fs_pl cr party u ≤ cr.length := List.findIdx_le_length
      omega
    rw [if_neg h]
    have hp := List.findIdx_getElem (p := fun c : Cr => decide (c.2.1 = party ∧ c.2.2.2.1 = u)) (w := hl)
    simp only [decide_eq_true_eq] at hp
    have e : cr = cr.take (fs_pl cr party u) ++ cr[fs_pl cr party u] :: cr.drop (fs_pl cr party u + 1) := by
      rw [← List.drop_eq_getElem_cons hl, List.take_append_drop]
    have hu : cr[fs_pl cr party u].2.2.2.1 = u := hp.2
    rw [List.eraseIdx_eq_take_drop_succ]
    have e2 : crS cr = crS (cr.take (fs_pl cr party u)) + (28 + u.length + crS (cr.drop (fs_pl cr party u + 1))) := by
      conv => lhs; rw [e]
      rw [crS_app]
      have e3 : ∀ (c : Cr) (l : List Cr), crS (c :: l) = 28 + c.2.2.2.1.length + crS l := by intro c l; simp [S_bx_mcan1_0, S_b8_mkey_1, S_b8_mkey_0, S_b1_mterm_0, S_b1_copy_0, S_b0_mod_7, S_b0_mod_6, S_b0_mod_5, S_b0_mod_3, S_b0_mod_2, S_b0_mod_1, S_b0_mod_0, S_bx_mcan1_1h, S_b0_mod_4h, crS]
      rw [e3, hu]
    rw [e2, List.map_append, List.sum_append]
    unfold crS
    omega
theorem crS_le {cr : List Cr} (h : ∀ c ∈ cr, c.2.2.2.1.length ≤ 8) : crS cr ≤ 36 * cr.length := by
  induction cr with
  | nil => simp [S_bx_mcan1_0, S_b8_mkey_1, S_b8_mkey_0, S_b1_mterm_0, S_b1_copy_0, S_b0_mod_7, S_b0_mod_6, S_b0_mod_5, S_b0_mod_3, S_b0_mod_2, S_b0_mod_1, S_b0_mod_0, S_bx_mcan1_1h, S_b0_mod_4h, crS]
  | cons c cr ih =>
    have := ih (fun c hc => h c (List.mem_cons_of_mem _ hc))
    have := h c List.mem_cons_self
    simp [S_bx_mcan1_0, S_b8_mkey_1, S_b8_mkey_0, S_b1_mterm_0, S_b1_copy_0, S_b0_mod_7, S_b0_mod_6, S_b0_mod_5, S_b0_mod_3, S_b0_mod_2, S_b0_mod_1, S_b0_mod_0, S_bx_mcan1_1h, S_b0_mod_4h, crS] at *
    omega
theorem q_hasRoom (h : xm x ms) {s : Fl} (hx : xk x) (hj : j < 3) (hm : wm m) (h12 : s.2.2.2.2.2.2.2.2.2.2.2.length ≤ 12) (hc : cF s.2.2.2.2.2.2.2.2.2.2.2 m) (hpa : ∀ c ∈ s.2.2.2.2.2.2.2.2.2.2.2, c.2.1 ≠ 0) {party : Int32} {p : Nat} (hi : Io ms p) (h2 : cbS ms p = 2) : mj_V (d + 4) 320 [.ref 67, .int (nI j), .int party, .int (nI p)] (mm B (x.wk j s m) y) = some (some (.int (on1 (decide (fs_need s.2.2.2.2.2.2.2.2.2.2.2 party (oBy ms (some p)) ≤ 256)))), mm B (x.wk j s m) y) := by
  have hle := h.1.le
  have hl6 : x.2.1.1.1.2.2.length = 640 := by obtain ⟨g, -, hl⟩ := h.1; exact hl
  have hd := (cbOk_hd.mp hi.ok).1
  have hin := (cbOk_hd.mp hi.ok).2 (Or.inl h2)
  have hV := hd.2.2.2.2.2.1
  have rn := q_numberAt (d := d + 1) (B := B) (x := x.wk j s m) (y := y) (h.wk j s m) hd.1 hd.2.2.2.1
  have rb := q_behindHead (d := d + 1) (B := B) (x := x.wk j s m) (y := y) (h.wk j s m) hd.1
  have rp := q_placeOf (d := d + 1) (B := B) (x := x) (s := s) (m := m) (y := y) hx hj hm h12 hc (a := 106) (q := cbC ms p) (n := cbV ms p) (l := x.2.1.1.1.2.2) (hash := party) (by simp [S_bx_mcan1_0, S_b8_mkey_1, S_b8_mkey_0, S_b1_mterm_0, S_b1_copy_0, S_b0_mod_7, S_b0_mod_6, S_b0_mod_5, S_b0_mod_3, S_b0_mod_2, S_b0_mod_1, S_b0_mod_0, S_bx_mcan1_1h, S_b0_mod_4h, Fx.wk]) (by omega) (by omega)
  rw [h.1.sub hin] at rp
  have hob : (ms.drop (cbC ms p)).take (cbV ms p) = oBy ms (some p) := rfl
  rw [hob] at rp
  have hlen := oBy_len hin
  have hu8 : ∀ c ∈ s.2.2.2.2.2.2.2.2.2.2.2, c.2.2.2.1.length ≤ 8 := by
    intro c hcm
    obtain ⟨i, hil, rfl⟩ := List.getElem_of_mem hcm
    exact (hc i _ (List.getElem?_eq_getElem hil)).2.2.2.2.2.1
  have hcS := crS_le hu8
  have hpl : fs_pl s.2.2.2.2.2.2.2.2.2.2.2 party (oBy ms (some p)) ≤ s.2.2.2.2.2.2.2.2.2.2.2.length := List.findIdx_le_length
  have hp0 : party = 0 → fs_pl s.2.2.2.2.2.2.2.2.2.2.2 party (oBy ms (some p)) = s.2.2.2.2.2.2.2.2.2.2.2.length := by
    rintro rfl
    unfold fs_pl
    rw [List.findIdx_eq_length]
    intro c hcm
    simp [S_bx_mcan1_0, S_b8_mkey_1, S_b8_mkey_0, S_b1_mterm_0, S_b1_copy_0, S_b0_mod_7, S_b0_mod_6, S_b0_mod_5, S_b0_mod_3, S_b0_mod_2, S_b0_mod_1, S_b0_mod_0, S_bx_mcan1_1h, S_b0_mod_4h, hpa c hcm]
  rw [need_eq, hlen]
  have pre := l_hasRoom (d := d) (B := B) (x := x) (y := y) (s := s) (m := m) hx hj hm h12 hc (l3 := nI p) (l2 := party) (l4 := nI (cbV ms p)) s.2.2.2.2.2.2.2.2.2.2.2.length 0 (by omega)
  rw [List.take_zero, show 61 + crS [] = 61 from rfl, show nI 61 = (61 : Int32) from rfl, nI_0] at pre
  generalize hplN : fs_pl s.2.2.2.2.2.2.2.2.2.2.2 party (oBy ms (some p)) = pl at *
  generalize crS s.2.2.2.2.2.2.2.2.2.2.2 = cs at *
  have fin : ∀ r, mj_Rn (d + 3) mj_m320 51 [(5, .int (nI (61 + cs))), (4, .int (nI (cbV ms p))), (0, .ref 67), (1, .int (nI j)), (2, .int party), (3, .int (nI p))] [] (mm B (x.wk j s m) y) = some r → mj_V (d + 4) 320 [.ref 67, .int (nI j), .int party, .int (nI p)] (mm B (x.wk j s m) y) = some r := by
    intro r hr
    have := pre r hr
    simp (disch := (first | omega | decide)) [S_bx_mcan1_0, S_b8_mkey_1, S_b8_mkey_0, S_b1_mterm_0, S_b1_copy_0, S_b0_mod_7, S_b0_mod_6, S_b0_mod_5, S_b0_mod_3, S_b0_mod_2, S_b0_mod_1, S_b0_mod_0, S_bx_mcan1_1h, S_b0_mod_4h, c320, s320_0, s320_1, s320_2, s320_5, s320_7, s320_9, s320_11, s320_12, s320_16, s320_17, s320_20, s320_21, s320_22, s320_25, s320_27, s320_29, s320_30, s320_33, s320_35, s320_36, s320_37, s320_39, s320_40, s320_41, s320_42, s320_43, s320_45, s320_48, s320_51, s320_52, s320_55, s320_56, s320_59, s320_60, s320_61, s320_64, s320_65, s320_66, s320_67, s320_68, s320_71, s320_72, s320_73, s320_76, s320_78, s320_81, s320_83, s320_85, s320_87, s320_88, s320_91, s320_92, s320_93, s320_96, s320_98, s320_100, s320_101, s320_104, s320_105, s320_106, s320_108, s320_110, s320_113, s320_116, s320_117, s320_120, s320_121, mq_k0s, mq_k1s, mq_k2s, mq_k4s, mq_k5s, mq_k5n, mq_k5as, mq_k6s, mj_pu, mj_lo, mj_br, mj_hr, mj_hw, mq_gf, mq_len, mq_al, mq_pf, mq_ok, mj_re, mq_lkm, mq_lkn, mj_ldi, mj_ldl, mj_lda, mj_ii, mj_ll, mj_li, mj_i1, ms_1, ms_2, f1_n, f1_i, f1_r, f1_u, f1_l, f2_n, f2_i, f2_r, f2_u, f2_l, mj_tg, mj_c1, mj_c2, mj_ar, mj_aw, mq_cb, mq_oi, mj_rm, Value.category, -getElem?_pos, List.getElem?_cons_zero, decide_eq_true, decide_eq_false, nl_lt, nl_le, ln_lt, ln_le, nl_eq, ln_eq, nl_add, ln_add, nl_sub, ln_mul, nI_sub, nI_mul, nI_add, nI_lt_iff, nI_le_iff, nI_inj, nI_num, mq_ix, nI_1, nl_mul, nl_div, rn]
    refine mq_wk ?_ this
    simp [S_bx_mcan1_0, S_b8_mkey_1, S_b8_mkey_0, S_b1_mterm_0, S_b1_copy_0, S_b0_mod_7, S_b0_mod_6, S_b0_mod_5, S_b0_mod_3, S_b0_mod_2, S_b0_mod_1, S_b0_mod_0, S_bx_mcan1_1h, S_b0_mod_4h, mq_sub, mj_lk]
  apply fin
  clear fin pre
  have at81 : ∀ r, mj_Rn (d + 3) mj_m320 81 [(5, .int (nI (61 + cs))), (4, .int (nI (cbV ms p))), (0, .ref 67), (1, .int (nI j)), (2, .int party), (3, .int (nI p))] [.int (nI pl)] (mm B (x.wk j s m) y) = some r → mj_Rn (d + 3) mj_m320 51 [(5, .int (nI (61 + cs))), (4, .int (nI (cbV ms p))), (0, .ref 67), (1, .int (nI j)), (2, .int party), (3, .int (nI p))] [] (mm B (x.wk j s m) y) = some r := by
    intro r hr
    by_cases h0 : party = 0
    · have := hp0 h0
      rw [this] at hr
      rw [h0] at hr ⊢
      simp (disch := (first | omega | decide)) [S_bx_mcan1_0, S_b8_mkey_1, S_b8_mkey_0, S_b1_mterm_0, S_b1_copy_0, S_b0_mod_7, S_b0_mod_6, S_b0_mod_5, S_b0_mod_3, S_b0_mod_2, S_b0_mod_1, S_b0_mod_0, S_bx_mcan1_1h, S_b0_mod_4h, s320_0, s320_1, s320_2, s320_5, s320_7, s320_9, s320_11, s320_12, s320_16, s320_17, s320_20, s320_21, s320_22, s320_25, s320_27, s320_29, s320_30, s320_33, s320_35, s320_36, s320_37, s320_39, s320_40, s320_41, s320_42, s320_43, s320_45, s320_48, s320_51, s320_52, s320_55, s320_56, s320_59, s320_60, s320_61, s320_64, s320_65, s320_66, s320_67, s320_68, s320_71, s320_72, s320_73, s320_76, s320_78, s320_83, s320_85, s320_87, s320_88, s320_91, s320_92, s320_93, s320_96, s320_98, s320_100, s320_101, s320_104, s320_105, s320_106, s320_108, s320_110, s320_113, s320_116, s320_117, s320_120, s320_121, mq_k0s, mq_k1s, mq_k2s, mq_k4s, mq_k5s, mq_k5n, mq_k5as, mq_k6s, mj_pu, mj_lo, mj_br, mj_hr, mj_hw, mq_gf, mq_len, mq_al, mq_pf, mq_ok, mj_re, mq_lkm, mq_lkn, mj_ldi, mj_ldl, mj_lda, mj_ii, mj_ll, mj_li, mj_i1, ms_1, ms_2, f1_n, f1_i, f1_r, f1_u, f1_l, f2_n, f2_i, f2_r, f2_u, f2_l, mj_tg, mj_c1, mj_c2, mj_ar, mj_aw, mq_cb, mq_oi, mj_rm, Value.category, -getElem?_pos, List.getElem?_cons_zero, decide_eq_true, decide_eq_false, nl_lt, nl_le, ln_lt, ln_le, nl_eq, ln_eq, nl_add, ln_add, nl_sub, ln_mul, nI_sub, nI_mul, nI_add, nI_lt_iff, nI_le_iff, nI_inj, nI_num, mq_ix, nI_1, nl_mul, nl_div, wkc_on hx hj, wkl_on hx, wkc_acts hx hj, wkl_acts hx, wkc_limit hx hj, wkl_limit hx, wkc_generation hx hj, wkl_generation hx, wkc_area hx hj, wkl_area hx, wkc_fend hx hj, wkl_fend hx, wkc_master hx hj, wkl_master hx, wkc_pinOf hx hj, wkl_pinOf hx, wkc_tries hx hj, wkl_tries hx, wkc_own hx hj, wkl_own hx, wkc_creds hx hj, wkl_creds hx, wkc_presses hx hj, wkl_presses hx, wkc_taken hx hj, wkl_taken hx, wkc_answered hx hj, wkl_answered hx, wkc_agreeing hx hj, wkl_agreeing hx, wkc_token hx hj, wkl_token hx, wkc_wrong hx hj, wkl_wrong hx, wkc_heard hx hj, wkl_heard hx, wkc_listed hx hj, wkl_listed hx, wkc_listAt hx hj, wkl_listAt hx, wkc_listHash hx hj, wkl_listHash hx, wkc_listFlags hx hj, wkl_listFlags hx, wkc_answerSize hx hj, wkl_answerSize hx, wkc_flash hx hj, wkl_flash hx hj]
      exact hr
    · simp (disch := (first | omega | decide)) [S_bx_mcan1_0, S_b8_mkey_1, S_b8_mkey_0, S_b1_mterm_0, S_b1_copy_0, S_b0_mod_7, S_b0_mod_6, S_b0_mod_5, S_b0_mod_3, S_b0_mod_2, S_b0_mod_1, S_b0_mod_0, S_bx_mcan1_1h, S_b0_mod_4h, s320_0, s320_1, s320_2, s320_5, s320_7, s320_9, s320_11, s320_12, s320_16, s320_17, s320_20, s320_21, s320_22, s320_25, s320_27, s320_29, s320_30, s320_33, s320_35, s320_36, s320_37, s320_39, s320_40, s320_41, s320_42, s320_43, s320_45, s320_48, s320_51, s320_52, s320_55, s320_56, s320_59, s320_60, s320_61, s320_64, s320_65, s320_66, s320_67, s320_68, s320_71, s320_72, s320_73, s320_76, s320_78, s320_83, s320_85, s320_87, s320_88, s320_91, s320_92, s320_93, s320_96, s320_98, s320_100, s320_101, s320_104, s320_105, s320_106, s320_108, s320_110, s320_113, s320_116, s320_117, s320_120, s320_121, mq_k0s, mq_k1s, mq_k2s, mq_k4s, mq_k5s, mq_k5n, mq_k5as, mq_k6s, mj_pu, mj_lo, mj_br, mj_hr, mj_hw, mq_gf, mq_len, mq_al, mq_pf, mq_ok, mj_re, mq_lkm, mq_lkn, mj_ldi, mj_ldl, mj_lda, mj_ii, mj_ll, mj_li, mj_i1, ms_1, ms_2, f1_n, f1_i, f1_r, f1_u, f1_l, f2_n, f2_i, f2_r, f2_u, f2_l, mj_tg, mj_c1, mj_c2, mj_ar, mj_aw, mq_cb, mq_oi, mj_rm, Value.category, -getElem?_pos, List.getElem?_cons_zero, decide_eq_true, decide_eq_false, nl_lt, nl_le, ln_lt, ln_le, nl_eq, ln_eq, nl_add, ln_add, nl_sub, ln_mul, nI_sub, nI_mul, nI_add, nI_lt_iff, nI_le_iff, nI_inj, nI_num, mq_ix, nI_1, nl_mul, nl_div, wkc_on hx hj, wkl_on hx, wkc_acts hx hj, wkl_acts hx, wkc_limit hx hj, wkl_limit hx, wkc_generation hx hj, wkl_generation hx, wkc_area hx hj, wkl_area hx, wkc_fend hx hj, wkl_fend hx, wkc_master hx hj, wkl_master hx, wkc_pinOf hx hj, wkl_pinOf hx, wkc_tries hx hj, wkl_tries hx, wkc_own hx hj, wkl_own hx, wkc_creds hx hj, wkl_creds hx, wkc_presses hx hj, wkl_presses hx, wkc_taken hx hj, wkl_taken hx, wkc_answered hx hj, wkl_answered hx, wkc_agreeing hx hj, wkl_agreeing hx, wkc_token hx hj, wkl_token hx, wkc_wrong hx hj, wkl_wrong hx, wkc_heard hx hj, wkl_heard hx, wkc_listed hx hj, wkl_listed hx, wkc_listAt hx hj, wkl_listAt hx, wkc_listHash hx hj, wkl_listHash hx, wkc_listFlags hx hj, wkl_listFlags hx, wkc_answerSize hx hj, wkl_answerSize hx, wkc_flash hx hj, wkl_flash hx hj, h0, rb, rp]
      exact hr
  apply at81
  clear at81 rp rb rn
  by_cases he : pl = s.2.2.2.2.2.2.2.2.2.2.2.length
  · rw [if_pos he]
    by_cases hr : 61 + cs + (28 + cbV ms p) ≤ 256
    · rw [decide_eq_true hr]
      simp (disch := (first | omega | decide)) [S_bx_mcan1_0, S_b8_mkey_1, S_b8_mkey_0, S_b1_mterm_0, S_b1_copy_0, S_b0_mod_7, S_b0_mod_6, S_b0_mod_5, S_b0_mod_3, S_b0_mod_2, S_b0_mod_1, S_b0_mod_0, S_bx_mcan1_1h, S_b0_mod_4h, s320_0, s320_1, s320_2, s320_5, s320_7, s320_9, s320_11, s320_12, s320_14, s320_16, s320_17, s320_20, s320_21, s320_22, s320_25, s320_27, s320_29, s320_30, s320_33, s320_35, s320_36, s320_37, s320_39, s320_40, s320_41, s320_42, s320_43, s320_45, s320_48, s320_51, s320_52, s320_55, s320_56, s320_59, s320_60, s320_61, s320_64, s320_65, s320_66, s320_67, s320_68, s320_71, s320_72, s320_73, s320_76, s320_78, s320_81, s320_83, s320_85, s320_87, s320_88, s320_91, s320_92, s320_93, s320_96, s320_98, s320_100, s320_101, s320_104, s320_105, s320_106, s320_108, s320_110, s320_113, s320_116, s320_117, s320_120, s320_121, mq_k0s, mq_k1s, mq_k2s, mq_k4s, mq_k5s, mq_k5n, mq_k5as, mq_k6s, mj_pu, mj_lo, mj_br, mj_hr, mj_hw, mq_gf, mq_len, mq_al, mq_pf, mq_ok, mj_re, mq_lkm, mq_lkn, mj_ldi, mj_ldl, mj_lda, mj_ii, mj_ll, mj_li, mj_i1, ms_1, ms_2, f1_n, f1_i, f1_r, f1_u, f1_l, f2_n, f2_i, f2_r, f2_u, f2_l, mj_tg, mj_c1, mj_c2, mj_ar, mj_aw, mq_cb, mq_oi, mj_rm, Value.category, -getElem?_pos, List.getElem?_cons_zero, decide_eq_true, decide_eq_false, nl_lt, nl_le, ln_lt, ln_le, nl_eq, ln_eq, nl_add, ln_add, nl_sub, ln_mul, nI_sub, nI_mul, nI_add, nI_lt_iff, nI_le_iff, nI_inj, nI_num, mq_ix, nI_1, nl_mul, nl_div, wkc_on hx hj, wkl_on hx, wkc_acts hx hj, wkl_acts hx, wkc_limit hx hj, wkl_limit hx, wkc_generation hx hj, wkl_generation hx, wkc_area hx hj, wkl_area hx, wkc_fend hx hj, wkl_fend hx, wkc_master hx hj, wkl_master hx, wkc_pinOf hx hj, wkl_pinOf hx, wkc_tries hx hj, wkl_tries hx, wkc_own hx hj, wkl_own hx, wkc_creds hx hj, wkl_creds hx, wkc_presses hx hj, wkl_presses hx, wkc_taken hx hj, wkl_taken hx, wkc_answered hx hj, wkl_answered hx, wkc_agreeing hx hj, wkl_agreeing hx, wkc_token hx hj, wkl_token hx, wkc_wrong hx hj, wkl_wrong hx, wkc_heard hx hj, wkl_heard hx, wkc_listed hx hj, wkl_listed hx, wkc_listAt hx hj, wkl_listAt hx, wkc_listHash hx hj, wkl_listHash hx, wkc_listFlags hx hj, wkl_listFlags hx, wkc_answerSize hx hj, wkl_answerSize hx, wkc_flash hx hj, wkl_flash hx hj, he, hr, show ¬ 256 < 61 + cs + (28 + cbV ms p) by omega, narrow_b1, on1]
    · rw [decide_eq_false hr]
      simp (disch := (first | omega | decide)) [S_bx_mcan1_0, S_b8_mkey_1, S_b8_mkey_0, S_b1_mterm_0, S_b1_copy_0, S_b0_mod_7, S_b0_mod_6, S_b0_mod_5, S_b0_mod_3, S_b0_mod_2, S_b0_mod_1, S_b0_mod_0, S_bx_mcan1_1h, S_b0_mod_4h, s320_0, s320_1, s320_2, s320_5, s320_7, s320_9, s320_11, s320_12, s320_14, s320_16, s320_17, s320_20, s320_21, s320_22, s320_25, s320_27, s320_29, s320_30, s320_33, s320_35, s320_36, s320_37, s320_39, s320_40, s320_41, s320_42, s320_43, s320_45, s320_48, s320_51, s320_52, s320_55, s320_56, s320_59, s320_60, s320_61, s320_64, s320_65, s320_66, s320_67, s320_68, s320_71, s320_72, s320_73, s320_76, s320_78, s320_81, s320_83, s320_85, s320_87, s320_88, s320_91, s320_92, s320_93, s320_96, s320_98, s320_100, s320_101, s320_104, s320_105, s320_106, s320_108, s320_110, s320_113, s320_116, s320_117, s320_120, s320_121, mq_k0s, mq_k1s, mq_k2s, mq_k4s, mq_k5s, mq_k5n, mq_k5as, mq_k6s, mj_pu, mj_lo, mj_br, mj_hr, mj_hw, mq_gf, mq_len, mq_al, mq_pf, mq_ok, mj_re, mq_lkm, mq_lkn, mj_ldi, mj_ldl, mj_lda, mj_ii, mj_ll, mj_li, mj_i1, ms_1, ms_2, f1_n, f1_i, f1_r, f1_u, f1_l, f2_n, f2_i, f2_r, f2_u, f2_l, mj_tg, mj_c1, mj_c2, mj_ar, mj_aw, mq_cb, mq_oi, mj_rm, Value.category, -getElem?_pos, List.getElem?_cons_zero, decide_eq_true, decide_eq_false, nl_lt, nl_le, ln_lt, ln_le, nl_eq, ln_eq, nl_add, ln_add, nl_sub, ln_mul, nI_sub, nI_mul, nI_add, nI_lt_iff, nI_le_iff, nI_inj, nI_num, mq_ix, nI_1, nl_mul, nl_div, wkc_on hx hj, wkl_on hx, wkc_acts hx hj, wkl_acts hx, wkc_limit hx hj, wkl_limit hx, wkc_generation hx hj, wkl_generation hx, wkc_area hx hj, wkl_area hx, wkc_fend hx hj, wkl_fend hx, wkc_master hx hj, wkl_master hx, wkc_pinOf hx hj, wkl_pinOf hx, wkc_tries hx hj, wkl_tries hx, wkc_own hx hj, wkl_own hx, wkc_creds hx hj, wkl_creds hx, wkc_presses hx hj, wkl_presses hx, wkc_taken hx hj, wkl_taken hx, wkc_answered hx hj, wkl_answered hx, wkc_agreeing hx hj, wkl_agreeing hx, wkc_token hx hj, wkl_token hx, wkc_wrong hx hj, wkl_wrong hx, wkc_heard hx hj, wkl_heard hx, wkc_listed hx hj, wkl_listed hx, wkc_listAt hx hj, wkl_listAt hx, wkc_listHash hx hj, wkl_listHash hx, wkc_listFlags hx hj, wkl_listFlags hx, wkc_answerSize hx hj, wkl_answerSize hx, wkc_flash hx hj, wkl_flash hx hj, he, hr, show 256 < 61 + cs + (28 + cbV ms p) by omega, narrow_b0, on1]
  · rw [if_neg he]
    have ez : 61 + cs + 0 = 61 + cs := rfl
    rw [ez]
    by_cases hr : 61 + cs ≤ 256
    · rw [decide_eq_true hr]
      simp (disch := (first | omega | decide)) [S_bx_mcan1_0, S_b8_mkey_1, S_b8_mkey_0, S_b1_mterm_0, S_b1_copy_0, S_b0_mod_7, S_b0_mod_6, S_b0_mod_5, S_b0_mod_3, S_b0_mod_2, S_b0_mod_1, S_b0_mod_0, S_bx_mcan1_1h, S_b0_mod_4h, s320_0, s320_1, s320_2, s320_5, s320_7, s320_9, s320_11, s320_12, s320_14, s320_16, s320_17, s320_20, s320_21, s320_22, s320_25, s320_27, s320_29, s320_30, s320_33, s320_35, s320_36, s320_37, s320_39, s320_40, s320_41, s320_42, s320_43, s320_45, s320_48, s320_51, s320_52, s320_55, s320_56, s320_59, s320_60, s320_61, s320_64, s320_65, s320_66, s320_67, s320_68, s320_71, s320_72, s320_73, s320_76, s320_78, s320_81, s320_83, s320_85, s320_87, s320_88, s320_91, s320_92, s320_93, s320_96, s320_98, s320_100, s320_101, s320_104, s320_105, s320_106, s320_108, s320_110, s320_113, s320_116, s320_117, s320_120, s320_121, mq_k0s, mq_k1s, mq_k2s, mq_k4s, mq_k5s, mq_k5n, mq_k5as, mq_k6s, mj_pu, mj_lo, mj_br, mj_hr, mj_hw, mq_gf, mq_len, mq_al, mq_pf, mq_ok, mj_re, mq_lkm, mq_lkn, mj_ldi, mj_ldl, mj_lda, mj_ii, mj_ll, mj_li, mj_i1, ms_1, ms_2, f1_n, f1_i, f1_r, f1_u, f1_l, f2_n, f2_i, f2_r, f2_u, f2_l, mj_tg, mj_c1, mj_c2, mj_ar, mj_aw, mq_cb, mq_oi, mj_rm, Value.category, -getElem?_pos, List.getElem?_cons_zero, decide_eq_true, decide_eq_false, nl_lt, nl_le, ln_lt, ln_le, nl_eq, ln_eq, nl_add, ln_add, nl_sub, ln_mul, nI_sub, nI_mul, nI_add, nI_lt_iff, nI_le_iff, nI_inj, nI_num, mq_ix, nI_1, nl_mul, nl_div, wkc_on hx hj, wkl_on hx, wkc_acts hx hj, wkl_acts hx, wkc_limit hx hj, wkl_limit hx, wkc_generation hx hj, wkl_generation hx, wkc_area hx hj, wkl_area hx, wkc_fend hx hj, wkl_fend hx, wkc_master hx hj, wkl_master hx, wkc_pinOf hx hj, wkl_pinOf hx, wkc_tries hx hj, wkl_tries hx, wkc_own hx hj, wkl_own hx, wkc_creds hx hj, wkl_creds hx, wkc_presses hx hj, wkl_presses hx, wkc_taken hx hj, wkl_taken hx, wkc_answered hx hj, wkl_answered hx, wkc_agreeing hx hj, wkl_agreeing hx, wkc_token hx hj, wkl_token hx, wkc_wrong hx hj, wkl_wrong hx, wkc_heard hx hj, wkl_heard hx, wkc_listed hx hj, wkl_listed hx, wkc_listAt hx hj, wkl_listAt hx, wkc_listHash hx hj, wkl_listHash hx, wkc_listFlags hx hj, wkl_listFlags hx, wkc_answerSize hx hj, wkl_answerSize hx, wkc_flash hx hj, wkl_flash hx hj, he, hr, show ¬ 256 < 61 + cs by omega, narrow_b1, on1]
    · rw [decide_eq_false hr]
      simp (disch := (first | omega | decide)) [S_bx_mcan1_0, S_b8_mkey_1, S_b8_mkey_0, S_b1_mterm_0, S_b1_copy_0, S_b0_mod_7, S_b0_mod_6, S_b0_mod_5, S_b0_mod_3, S_b0_mod_2, S_b0_mod_1, S_b0_mod_0, S_bx_mcan1_1h, S_b0_mod_4h, s320_0, s320_1, s320_2, s320_5, s320_7, s320_9, s320_11, s320_12, s320_14, s320_16, s320_17, s320_20, s320_21, s320_22, s320_25, s320_27, s320_29, s320_30, s320_33, s320_35, s320_36, s320_37, s320_39, s320_40, s320_41, s320_42, s320_43, s320_45, s320_48, s320_51, s320_52, s320_55, s320_56, s320_59, s320_60, s320_61, s320_64, s320_65, s320_66, s320_67, s320_68, s320_71, s320_72, s320_73, s320_76, s320_78, s320_81, s320_83, s320_85, s320_87, s320_88, s320_91, s320_92, s320_93, s320_96, s320_98, s320_100, s320_101, s320_104, s320_105, s320_106, s320_108, s320_110, s320_113, s320_116, s320_117, s320_120, s320_121, mq_k0s, mq_k1s, mq_k2s, mq_k4s, mq_k5s, mq_k5n, mq_k5as, mq_k6s, mj_pu, mj_lo, mj_br, mj_hr, mj_hw, mq_gf, mq_len, mq_al, mq_pf, mq_ok, mj_re, mq_lkm, mq_lkn, mj_ldi, mj_ldl, mj_lda, mj_ii, mj_ll, mj_li, mj_i1, ms_1, ms_2, f1_n, f1_i, f1_r, f1_u, f1_l, f2_n, f2_i, f2_r, f2_u, f2_l, mj_tg, mj_c1, mj_c2, mj_ar, mj_aw, mq_cb, mq_oi, mj_rm, Value.category, -getElem?_pos, List.getElem?_cons_zero, decide_eq_true, decide_eq_false, nl_lt, nl_le, ln_lt, ln_le, nl_eq, ln_eq, nl_add, ln_add, nl_sub, ln_mul, nI_sub, nI_mul, nI_add, nI_lt_iff, nI_le_iff, nI_inj, nI_num, mq_ix, nI_1, nl_mul, nl_div, wkc_on hx hj, wkl_on hx, wkc_acts hx hj, wkl_acts hx, wkc_limit hx hj, wkl_limit hx, wkc_generation hx hj, wkl_generation hx, wkc_area hx hj, wkl_area hx, wkc_fend hx hj, wkl_fend hx, wkc_master hx hj, wkl_master hx, wkc_pinOf hx hj, wkl_pinOf hx, wkc_tries hx hj, wkl_tries hx, wkc_own hx hj, wkl_own hx, wkc_creds hx hj, wkl_creds hx, wkc_presses hx hj, wkl_presses hx, wkc_taken hx hj, wkl_taken hx, wkc_answered hx hj, wkl_answered hx, wkc_agreeing hx hj, wkl_agreeing hx, wkc_token hx hj, wkl_token hx, wkc_wrong hx hj, wkl_wrong hx, wkc_heard hx hj, wkl_heard hx, wkc_listed hx hj, wkl_listed hx, wkc_listAt hx hj, wkl_listAt hx, wkc_listHash hx hj, wkl_listHash hx, wkc_listFlags hx hj, wkl_listFlags hx, wkc_answerSize hx hj, wkl_answerSize hx, wkc_flash hx hj, wkl_flash hx hj, he, hr, show 256 < 61 + cs by omega, narrow_b0, on1]
end
end
/- c7.mkinv -/
section
set_option maxRecDepth 512
/-! The model: what is small of a key; a record written. -/
def kI (k : Ky) (g : Nat) : Prop := (k.1.2.1.1 ≤ 9) ∧ (k.2.1.1.2 ≤ 3) ∧ (fw k.1.1.1.1) ∧ (∀ c ∈ k.1.1.1.1.2.2.2.2.2.2.2.2.2.2.2, c.1 ≠ 0 ∧ c.2.1 ≠ 0) ∧ (k.1.1.1.1.2.2.2.2.2.1 + g < 65536) ∧ (∃ n, n ≤ 8 ∧ k.1.1.1.1.2.2.2.2.2.2.2.2.2.1 = nI n)
theorem kI.w9 {k : Ky} {g : Nat} (hh_ : kI k g) : k.1.2.1.1 ≤ 9 := hh_.1
theorem kI.wr {k : Ky} {g : Nat} (hh_ : kI k g) : k.2.1.1.2 ≤ 3 := hh_.2.1
theorem kI.w {k : Ky} {g : Nat} (hh_ : kI k g) : fw k.1.1.1.1 := hh_.2.2.1
theorem kI.cr {k : Ky} {g : Nat} (hh_ : kI k g) : ∀ c ∈ k.1.1.1.1.2.2.2.2.2.2.2.2.2.2.2, c.1 ≠ 0 ∧ c.2.1 ≠ 0 := hh_.2.2.2.1
theorem kI.gn {k : Ky} {g : Nat} (hh_ : kI k g) : k.1.1.1.1.2.2.2.2.2.1 + g < 65536 := hh_.2.2.2.2.1
theorem kI.tr {k : Ky} {g : Nat} (hh_ : kI k g) : ∃ n, n ≤ 8 ∧ k.1.1.1.1.2.2.2.2.2.2.2.2.2.1 = nI n := hh_.2.2.2.2.2
theorem kI_mk_ {k : Ky} {g : Nat} (f_0_ : k.1.2.1.1 ≤ 9) (f_1_ : k.2.1.1.2 ≤ 3) (f_2_ : fw k.1.1.1.1) (f_3_ : ∀ c ∈ k.1.1.1.1.2.2.2.2.2.2.2.2.2.2.2, c.1 ≠ 0 ∧ c.2.1 ≠ 0) (f_4_ : k.1.1.1.1.2.2.2.2.2.1 + g < 65536) (f_5_ : ∃ n, n ≤ 8 ∧ k.1.1.1.1.2.2.2.2.2.2.2.2.2.1 = nI n) : kI k g := And.intro f_0_ (And.intro f_1_ (And.intro f_2_ (And.intro f_3_ (And.intro f_4_ f_5_))))
theorem kI.cs {k : Ky} {g : Nat} (h : kI k g) : 61 + crS k.1.1.1.1.2.2.2.2.2.2.2.2.2.2.2 ≤ 256 := by
  have := h.w.r
  show 61 + fs_room k.1.1.1.1.2.2.2.2.2.2.2.2.2.2.2 ≤ 256
  omega
theorem kI.le {k : Ky} {g g' : Nat} (h : kI k g) (hg : g' ≤ g) : kI k g' := (kI_mk_ h.w9 h.wr h.w h.cr (by have := h.gn; omega) h.tr)
theorem crS_ge {cr : List Cr} : 28 * cr.length ≤ crS cr := by
  induction cr with
  | nil => simp [S_bx_mcan1_0, S_b8_mkey_1, S_b8_mkey_0, S_b1_mterm_0, S_b1_copy_0, S_b0_mod_7, S_b0_mod_6, S_b0_mod_5, S_b0_mod_3, S_b0_mod_2, S_b0_mod_1, S_b0_mod_0, S_bx_mcan1_1h, S_b0_mod_4h, crS]
  | cons c cr ih =>
    simp [S_bx_mcan1_0, S_b8_mkey_1, S_b8_mkey_0, S_b1_mterm_0, S_b1_copy_0, S_b0_mod_7, S_b0_mod_6, S_b0_mod_5, S_b0_mod_3, S_b0_mod_2, S_b0_mod_1, S_b0_mod_0, S_bx_mcan1_1h, S_b0_mod_4h, crS] at *
    omega
theorem kI.six {k : Ky} {g : Nat} (h : kI k g) : k.1.1.1.1.2.2.2.2.2.2.2.2.2.2.2.length ≤ 6 := by
  have := crS_ge (cr := k.1.1.1.1.2.2.2.2.2.2.2.2.2.2.2)
  have := h.cs
  omega
theorem crecs_le (cr : List Cr) : (cr.flatMap Cr.recs).length ≤ crS cr := by
  induction cr with
  | nil => simp [S_bx_mcan1_0, S_b8_mkey_1, S_b8_mkey_0, S_b1_mterm_0, S_b1_copy_0, S_b0_mod_7, S_b0_mod_6, S_b0_mod_5, S_b0_mod_3, S_b0_mod_2, S_b0_mod_1, S_b0_mod_0, S_bx_mcan1_1h, S_b0_mod_4h, crS]
  | cons c cr ih =>
    rw [List.flatMap_cons, List.length_append]
    have e : crS (c :: cr) = 28 + c.2.2.2.1.length + crS cr := by simp [S_bx_mcan1_0, S_b8_mkey_1, S_b8_mkey_0, S_b1_mterm_0, S_b1_copy_0, S_b0_mod_7, S_b0_mod_6, S_b0_mod_5, S_b0_mod_3, S_b0_mod_2, S_b0_mod_1, S_b0_mod_0, S_bx_mcan1_1h, S_b0_mod_4h, crS]
    rw [e]
    have : c.recs.length ≤ 28 + c.2.2.2.1.length := by
      unfold Cr.recs Cr.row
      split
      · simp [S_bx_mcan1_0, S_b8_mkey_1, S_b8_mkey_0, S_b1_mterm_0, S_b1_copy_0, S_b0_mod_7, S_b0_mod_6, S_b0_mod_5, S_b0_mod_3, S_b0_mod_2, S_b0_mod_1, S_b0_mod_0, S_bx_mcan1_1h, S_b0_mod_4h, rc_len, b4_len]; omega
      · simp [S_bx_mcan1_0, S_b8_mkey_1, S_b8_mkey_0, S_b1_mterm_0, S_b1_copy_0, S_b0_mod_7, S_b0_mod_6, S_b0_mod_5, S_b0_mod_3, S_b0_mod_2, S_b0_mod_1, S_b0_mod_0, S_bx_mcan1_1h, S_b0_mod_4h, rc_len, b4_len, rcCount]; omega
    omega
theorem recs_le (s : St) : s.recs.length ≤ 33 + crS s.2.2.2.2 := by
  unfold St.recs
  rw [List.length_append]
  have := crecs_le s.2.2.2.2
  have h1 : s.own.length ≤ 33 := by
    unfold St.own
    split <;> split <;> split <;> simp [S_bx_mcan1_0, S_b8_mkey_1, S_b8_mkey_0, S_b1_mterm_0, S_b1_copy_0, S_b0_mod_7, S_b0_mod_6, S_b0_mod_5, S_b0_mod_3, S_b0_mod_2, S_b0_mod_1, S_b0_mod_0, S_bx_mcan1_1h, S_b0_mod_4h, rc_len, b4_len, rcCount]
  omega
section
variable {d : Nat} {B : Bs} {x : Fx} {y : Sy} {j g : Nat} {k : Ky} {m : Mk}
theorem q_wr (hx : xk x) (hj : j < 3) (hm : wm m) (hk : kI k (g + 1)) (hc : cF k.1.1.1.1.2.2.2.2.2.2.2.2.2.2.2 m) {a : Int32} {body : List Int32} (hr : rw4 y.2.1.1.1.1 (a :: nI body.length :: body)) (hkl : fs_kl (uN a) (uN (nI body.length)) = true) (hb : body.length ≤ 20) (hmv : y.2.1.1.1.2.length = 32) : ∃ m' y', wm m' ∧ cF (ky_w k (rc a body)).1.1.1.1.2.2.2.2.2.2.2.2.2.2.2 m' ∧ mr m' = mr m ∧ yw y y' ∧ mj_V (d + 6) 288 [.ref 67, .int (nI j), .int (nI (body.length + 2))] (mm B (x.wk j k.1.1.1.1 m) y) = some (some (.int (on1 (fs_wr (rc a body) k.1.1.1.1).2)), mm B (x.wk j (ky_w k (rc a body)).1.1.1.1 m') y') := by
  have h6 := hk.six
  have hrl := recs_le k.1.1.1.1.2.2.2.2.2.2.2
  have hcs := hk.cs
  obtain ⟨n, hn, ht⟩ := hk.tr
  exact q_wrote (d := d) (B := B) (x := x) (y := y) (s := k.1.1.1.1) (m := m) hx hj hm (by omega) hc (fun c hc => (hk.cr c hc).1) (row := a :: nI body.length :: body) hr hkl (by
    have e : uN (nI body.length) = body.length := by rw [uN_nI]; omega
    show _ = uN (nI body.length) + 2
    rw [e]; rfl) hk.w.l hk.w.a hk.w.e (by have := hk.gn; omega) (by rw [ht]; exact hd_n n (by omega)) (by simp [S_bx_mcan1_0, S_b8_mkey_1, S_b8_mkey_0, S_b1_mterm_0, S_b1_copy_0, S_b0_mod_7, S_b0_mod_6, S_b0_mod_5, S_b0_mod_3, S_b0_mod_2, S_b0_mod_1, S_b0_mod_0, S_bx_mcan1_1h, S_b0_mod_4h]; omega) hmv
theorem yz.wr {y' : Sy} {T : Tm} {D O : List Int32} (h : yz y T D O) (hw : yw y y') : yz y' T D O := by
  obtain ⟨r, l, g, h1, h2, rfl⟩ := hw
  exact (yz_mk_ h.t h.d h.o (⟨⟨h1, h2, h.s.1.2.2⟩, h.s.2⟩))
end
end
