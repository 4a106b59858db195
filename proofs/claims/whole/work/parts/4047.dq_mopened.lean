/- dq.mopened -/
section
set_option maxRecDepth 512
/-! The model: a party opens an account. -/
section
variable {x : Fx} {y : Sy} {d : Nat} {B : Bs} {H : Ho} {T : Tm} {D O u : List Int32} {j : Nat} {p : Pa}
theorem l_opened (z : mz x y H) (hp : H.2.2.2.2[j]? = some p) {id sig by_ : Int32} {data : Nat} {y' : Sy} : ∀ (r i : Nat), i + r = p.2.2.2.1.length →
    ((p.2.2.2.1.drop i).any (fun a => decide (a.1 = id)) = true → mj_Rn (d + 1) mj_m377 58 [(6, .int (nI i)), (5, .int by_), (0, .ref 67), (1, .int (nI j)), (2, .int id), (3, .int (nI data)), (4, .int sig)] [] (mm B x y') = some (some (.int 9), mm B x y')) ∧
    ((p.2.2.2.1.drop i).any (fun a => decide (a.1 = id)) = false → ∀ rr, mj_Rn (d + 1) mj_m377 94 [(6, .int (nI p.2.2.2.1.length)), (5, .int by_), (0, .ref 67), (1, .int (nI j)), (2, .int id), (3, .int (nI data)), (4, .int sig)] [] (mm B x y') = some rr → mj_Rn (d + 1) mj_m377 58 [(6, .int (nI i)), (5, .int by_), (0, .ref 67), (1, .int (nI j)), (2, .int id), (3, .int (nI data)), (4, .int sig)] [] (mm B x y') = some rr) := by
  have m := z.h.ps j p hp
  have hj := get_lt hp
  have h4 := z.h.n4
  have h8 := m.ac8
  have l0 := z.h.l.accounts
  have l1 := z.h.l.accId
  have a0 := m.ac
  intro r
  induction r with
  | zero =>
    intro i hi
    rw [List.drop_eq_nil_of_le (by omega), List.any_nil]
    refine ⟨fun w => (by cases w), fun _ rr h => ?_⟩
    have e : i = p.2.2.2.1.length := by omega
    subst e
    simp (disch := (first | omega | decide)) [S_cb_mmade4_0, S_bx_mcan1_0, S_b8_mkey_1, S_b8_mkey_0, S_b1_mterm_0, S_b1_copy_0, S_b0_mod_7, S_b0_mod_6, S_b0_mod_5, S_b0_mod_3, S_b0_mod_2, S_b0_mod_1, S_b0_mod_0, S_cb_mmade4_1h, S_bx_mcan1_1h, S_b0_mod_4h, s377_0, s377_1, s377_4, s377_5, s377_7, s377_8, s377_11, s377_13, s377_14, s377_16, s377_17, s377_20, s377_23, s377_24, s377_27, s377_28, s377_30, s377_31, s377_34, s377_35, s377_38, s377_39, s377_41, s377_43, s377_44, s377_46, s377_49, s377_52, s377_54, s377_55, s377_56, s377_58, s377_60, s377_61, s377_64, s377_65, s377_66, s377_69, s377_70, s377_73, s377_75, s377_76, s377_77, s377_79, s377_80, s377_81, s377_82, s377_85, s377_87, s377_88, s377_91, s377_95, s377_98, s377_99, s377_100, s377_102, s377_105, s377_107, s377_108, s377_110, s377_111, s377_112, s377_113, s377_116, s377_117, s377_118, s377_119, s377_121, s377_122, s377_125, s377_126, s377_127, s377_128, s377_129, s377_130, s377_131, s377_132, s377_135, s377_137, s377_138, s377_139, s377_140, s377_143, s377_145, s377_147, s377_148, s377_149, s377_152, s377_154, s377_155, s377_158, s377_159, s377_160, s377_161, s377_164, s377_165, s377_166, s377_169, s377_171, s377_172, s377_173, s377_174, s377_177, s377_179, s377_180, s377_183, s377_184, s377_185, s377_188, s377_189, s377_190, s377_193, s377_195, s377_197, s377_198, s377_200, s377_203, s377_204, mq_k0s, mq_k1s, mq_k2s, mq_k4s, mq_k5s, mq_k5n, mq_k5as, mq_k6s, mj_pu, mj_lo, mj_br, mj_hr, mj_hw, mq_gf, mq_len, mq_al, mq_pf, mq_ok, mj_re, mq_lkm, mq_lkn, mj_ldi, mj_ldl, mj_lda, mj_ii, mj_ll, mj_li, mj_i1, ms_1, ms_2, f1_n, f1_i, f1_r, f1_u, f1_l, f2_n, f2_i, f2_r, f2_u, f2_l, mj_tg, mj_c1, mj_c2, mj_ar, mj_aw, mq_cb, mq_oi, mj_rm, Value.category, -getElem?_pos, List.getElem?_cons_zero, decide_eq_true, decide_eq_false, nl_lt, nl_le, ln_lt, ln_le, nl_eq, ln_eq, nl_add, ln_add, nl_sub, ln_mul, nI_sub, nI_mul, nI_add, nI_lt_iff, nI_le_iff, nI_inj, nI_num, mq_ix, nI_1, nl_mul, nl_div, l0, a0]
    exact h
  | succ r ih =>
    intro i hi
    have hil : i < p.2.2.2.1.length := by omega
    have ha : p.2.2.2.1[i]? = some p.2.2.2.1[i] := List.getElem?_eq_getElem hil
    have a1 := (m.as i _ ha).id
    obtain ⟨r1, r2⟩ := ih (i + 1) (by omega)
    rw [List.drop_eq_getElem_cons hil, List.any_cons]
    generalize p.2.2.2.1[i] = a at *
    by_cases c : a.1 = id
    · rw [decide_eq_true c, Bool.true_or]
      refine ⟨fun _ => ?_, fun w => (by cases w)⟩
      subst c
      simp (disch := (first | omega | decide)) [S_cb_mmade4_0, S_bx_mcan1_0, S_b8_mkey_1, S_b8_mkey_0, S_b1_mterm_0, S_b1_copy_0, S_b0_mod_7, S_b0_mod_6, S_b0_mod_5, S_b0_mod_3, S_b0_mod_2, S_b0_mod_1, S_b0_mod_0, S_cb_mmade4_1h, S_bx_mcan1_1h, S_b0_mod_4h, s377_0, s377_1, s377_4, s377_5, s377_7, s377_8, s377_11, s377_13, s377_14, s377_16, s377_17, s377_20, s377_23, s377_24, s377_27, s377_28, s377_30, s377_31, s377_34, s377_35, s377_38, s377_39, s377_41, s377_43, s377_44, s377_46, s377_49, s377_52, s377_54, s377_55, s377_56, s377_58, s377_60, s377_61, s377_64, s377_65, s377_66, s377_69, s377_70, s377_73, s377_75, s377_76, s377_77, s377_79, s377_80, s377_81, s377_82, s377_85, s377_87, s377_88, s377_91, s377_94, s377_95, s377_98, s377_99, s377_100, s377_102, s377_105, s377_107, s377_108, s377_110, s377_111, s377_112, s377_113, s377_116, s377_117, s377_118, s377_119, s377_121, s377_122, s377_125, s377_126, s377_127, s377_128, s377_129, s377_130, s377_131, s377_132, s377_135, s377_137, s377_138, s377_139, s377_140, s377_143, s377_145, s377_147, s377_148, s377_149, s377_152, s377_154, s377_155, s377_158, s377_159, s377_160, s377_161, s377_164, s377_165, s377_166, s377_169, s377_171, s377_172, s377_173, s377_174, s377_177, s377_179, s377_180, s377_183, s377_184, s377_185, s377_188, s377_189, s377_190, s377_193, s377_195, s377_197, s377_198, s377_200, s377_203, s377_204, mq_k0s, mq_k1s, mq_k2s, mq_k4s, mq_k5s, mq_k5n, mq_k5as, mq_k6s, mj_pu, mj_lo, mj_br, mj_hr, mj_hw, mq_gf, mq_len, mq_al, mq_pf, mq_ok, mj_re, mq_lkm, mq_lkn, mj_ldi, mj_ldl, mj_lda, mj_ii, mj_ll, mj_li, mj_i1, ms_1, ms_2, f1_n, f1_i, f1_r, f1_u, f1_l, f2_n, f2_i, f2_r, f2_u, f2_l, mj_tg, mj_c1, mj_c2, mj_ar, mj_aw, mq_cb, mq_oi, mj_rm, Value.category, -getElem?_pos, List.getElem?_cons_zero, decide_eq_true, decide_eq_false, nl_lt, nl_le, ln_lt, ln_le, nl_eq, ln_eq, nl_add, ln_add, nl_sub, ln_mul, nI_sub, nI_mul, nI_add, nI_lt_iff, nI_le_iff, nI_inj, nI_num, mq_ix, nI_1, nl_mul, nl_div, l0, a0, show ¬ p.2.2.2.1.length ≤ i by omega, l1, a1, narrow]
    · rw [decide_eq_false c, Bool.false_or]
      refine ⟨fun w => ?_, fun w rr h => ?_⟩
      · have r3 := r1 w
        rw [s377_58]
        simp (disch := (first | omega | decide)) [S_cb_mmade4_0, S_bx_mcan1_0, S_b8_mkey_1, S_b8_mkey_0, S_b1_mterm_0, S_b1_copy_0, S_b0_mod_7, S_b0_mod_6, S_b0_mod_5, S_b0_mod_3, S_b0_mod_2, S_b0_mod_1, S_b0_mod_0, S_cb_mmade4_1h, S_bx_mcan1_1h, S_b0_mod_4h, s377_0, s377_1, s377_4, s377_5, s377_7, s377_8, s377_11, s377_13, s377_14, s377_16, s377_17, s377_20, s377_23, s377_24, s377_27, s377_28, s377_30, s377_31, s377_34, s377_35, s377_38, s377_39, s377_41, s377_43, s377_44, s377_46, s377_49, s377_52, s377_54, s377_55, s377_56, s377_60, s377_61, s377_64, s377_65, s377_66, s377_69, s377_70, s377_73, s377_75, s377_76, s377_77, s377_79, s377_80, s377_81, s377_82, s377_85, s377_87, s377_88, s377_91, s377_94, s377_95, s377_98, s377_99, s377_100, s377_102, s377_105, s377_107, s377_108, s377_110, s377_111, s377_112, s377_113, s377_116, s377_117, s377_118, s377_119, s377_121, s377_122, s377_125, s377_126, s377_127, s377_128, s377_129, s377_130, s377_131, s377_132, s377_135, s377_137, s377_138, s377_139, s377_140, s377_143, s377_145, s377_147, s377_148, s377_149, s377_152, s377_154, s377_155, s377_158, s377_159, s377_160, s377_161, s377_164, s377_165, s377_166, s377_169, s377_171, s377_172, s377_173, s377_174, s377_177, s377_179, s377_180, s377_183, s377_184, s377_185, s377_188, s377_189, s377_190, s377_193, s377_195, s377_197, s377_198, s377_200, s377_203, s377_204, mq_k0s, mq_k1s, mq_k2s, mq_k4s, mq_k5s, mq_k5n, mq_k5as, mq_k6s, mj_pu, mj_lo, mj_br, mj_hr, mj_hw, mq_gf, mq_len, mq_al, mq_pf, mq_ok, mj_re, mq_lkm, mq_lkn, mj_ldi, mj_ldl, mj_lda, mj_ii, mj_ll, mj_li, mj_i1, ms_1, ms_2, f1_n, f1_i, f1_r, f1_u, f1_l, f2_n, f2_i, f2_r, f2_u, f2_l, mj_tg, mj_c1, mj_c2, mj_ar, mj_aw, mq_cb, mq_oi, mj_rm, Value.category, -getElem?_pos, List.getElem?_cons_zero, decide_eq_true, decide_eq_false, nl_lt, nl_le, ln_lt, ln_le, nl_eq, ln_eq, nl_add, ln_add, nl_sub, ln_mul, nI_sub, nI_mul, nI_add, nI_lt_iff, nI_le_iff, nI_inj, nI_num, mq_ix, nI_1, nl_mul, nl_div, l0, a0, show ¬ p.2.2.2.1.length ≤ i by omega, l1, a1, c]
        exact r3
      · have r3 := r2 w rr h
        rw [s377_58]
        simp (disch := (first | omega | decide)) [S_cb_mmade4_0, S_bx_mcan1_0, S_b8_mkey_1, S_b8_mkey_0, S_b1_mterm_0, S_b1_copy_0, S_b0_mod_7, S_b0_mod_6, S_b0_mod_5, S_b0_mod_3, S_b0_mod_2, S_b0_mod_1, S_b0_mod_0, S_cb_mmade4_1h, S_bx_mcan1_1h, S_b0_mod_4h, s377_0, s377_1, s377_4, s377_5, s377_7, s377_8, s377_11, s377_13, s377_14, s377_16, s377_17, s377_20, s377_23, s377_24, s377_27, s377_28, s377_30, s377_31, s377_34, s377_35, s377_38, s377_39, s377_41, s377_43, s377_44, s377_46, s377_49, s377_52, s377_54, s377_55, s377_56, s377_60, s377_61, s377_64, s377_65, s377_66, s377_69, s377_70, s377_73, s377_75, s377_76, s377_77, s377_79, s377_80, s377_81, s377_82, s377_85, s377_87, s377_88, s377_91, s377_94, s377_95, s377_98, s377_99, s377_100, s377_102, s377_105, s377_107, s377_108, s377_110, s377_111, s377_112, s377_113, s377_116, s377_117, s377_118, s377_119, s377_121, s377_122, s377_125, s377_126, s377_127, s377_128, s377_129, s377_130, s377_131, s377_132, s377_135, s377_137, s377_138, s377_139, s377_140, s377_143, s377_145, s377_147, s377_148, s377_149, s377_152, s377_154, s377_155, s377_158, s377_159, s377_160, s377_161, s377_164, s377_165, s377_166, s377_169, s377_171, s377_172, s377_173, s377_174, s377_177, s377_179, s377_180, s377_183, s377_184, s377_185, s377_188, s377_189, s377_190, s377_193, s377_195, s377_197, s377_198, s377_200, s377_203, s377_204, mq_k0s, mq_k1s, mq_k2s, mq_k4s, mq_k5s, mq_k5n, mq_k5as, mq_k6s, mj_pu, mj_lo, mj_br, mj_hr, mj_hw, mq_gf, mq_len, mq_al, mq_pf, mq_ok, mj_re, mq_lkm, mq_lkn, mj_ldi, mj_ldl, mj_lda, mj_ii, mj_ll, mj_li, mj_i1, ms_1, ms_2, f1_n, f1_i, f1_r, f1_u, f1_l, f2_n, f2_i, f2_r, f2_u, f2_l, mj_tg, mj_c1, mj_c2, mj_ar, mj_aw, mq_cb, mq_oi, mj_rm, Value.category, -getElem?_pos, List.getElem?_cons_zero, decide_eq_true, decide_eq_false, nl_lt, nl_le, ln_lt, ln_le, nl_eq, ln_eq, nl_add, ln_add, nl_sub, ln_mul, nI_sub, nI_mul, nI_add, nI_lt_iff, nI_le_iff, nI_inj, nI_num, mq_ix, nI_1, nl_mul, nl_div, l0, a0, show ¬ p.2.2.2.1.length ≤ i by omega, l1, a1, c]
        exact r3
theorem q_opened (z : mz x y H) (hp : H.2.2.2.2[j]? = some p) {o : Of} (I : yi y o.2.1) (hb : ∀ v ∈ H.1, v &&& 255 = v) (h8 : tk8 H.2.1) (h9 : tk9 H.2.1) (h5 : cbB H.1 5 = p.1.length) (hor : (H.1.drop 6).take p.1.length = p.1) (hl : 32 + p.1.length ≤ H.1.length) (c4 : cbB H.1 (10 + p.1.length) = 17) (cd : jd_data H.2.1 p o H.1 65 = 0) :
    ∃ x' y', mj_V (d + 4) 377 [.ref 67, .int (nI j), .int (w4a H.1 (6 + p.1.length)), .int (nI (11 + p.1.length)), .int (w4a H.1 (11 + p.1.length + 17))] (mm B x y) = some (some (.int (jd_make H.2.1 p o H.1).1), mm B x' y') ∧ mz x' y' (H.pt j (jd_make H.2.1 p o H.1).2) := by
  have m := z.h.ps j p hp
  have hj := get_lt hp
  have h4 := z.h.n4
  have ac8 := m.ac8
  have l0 := z.h.l.accounts
  have l1 := z.h.l.accPublic
  have l2 := z.h.l.accCount
  have l3 := z.h.l.logins
  have l4 := z.h.l.accId
  have l5 := z.h.l.accLong
  have l6 := z.h.l.accUser
  have a0 := m.ac
  obtain ⟨D, O, hy⟩ := z.y
  have sameY : ∀ {y'}, (∃ D O, yz y' H.2.1 D O) → mz x y' (H.pt j p) := fun h => z.pt hp pO.rf rfl rfl ⟨rfl, rfl, rfl⟩ m h
  have vb := q_tapeInt (d := d + 2) (B := B) (y := y) z.t hb (q := 24 + p.1.length) (by omega)
  have vi' := q_tapeInt (d := d + 2) (B := B) (y := y) z.t hb (q := 20 + p.1.length) (by omega)
  have e13 : 11 + p.1.length + 13 = 24 + p.1.length := by omega
  have e9 : 11 + p.1.length + 9 = 20 + p.1.length := by omega
  have e5 : 11 + p.1.length + 5 = 16 + p.1.length := by omega
  have rs := q_isSort (d := d + 2) (B := B) (x := x) hy (w4a H.1 (24 + p.1.length)) (s := 2) (by decide)
  unfold jd_make
  rw [if_neg (fun w => w c4), if_neg (fun w => w cd)]
  by_cases h2 : bt_at (tm_row H.2.1.1 (w4a H.1 (24 + p.1.length))) 0 = 2
  · have hsec := sec_p h8 h9 _ h2
    rw [if_pos h2] at rs
    by_cases hid : w4a H.1 (20 + p.1.length) = w4a H.1 (6 + p.1.length)
    · obtain ⟨y1, p1, ⟨D1, z1⟩, k1⟩ := q_isSigned (d := d) (B := B) z.t hb hy h8 h9 (fr := 11 + p.1.length) (n := 17) (sig := w4a H.1 (11 + p.1.length + 17)) h2 (by omega) (by omega) (by omega) (by omega)
      rw [h5, hor] at p1
      have ejs : jd_sig H.2.1 p H.1 (tm_sec H.2.1.1 (w4a H.1 (24 + p.1.length))) 17 = (!decide (tm_ix H.2.1.1 (7 :: (H.1.take 5 ++ p.1)) = 0) && kn_as H.2.1 (6 :: tm_sec H.2.1.1 (w4a H.1 (24 + p.1.length)) :: ((H.1.drop (11 + p.1.length)).take 17 ++ b4 (nI (tm_ix H.2.1.1 (7 :: (H.1.take 5 ++ p.1)))))) (w4a H.1 (11 + p.1.length + 17))) := rfl
      rw [← ejs, show nI 17 = (17 : Int32) from rfl] at p1
      clear ejs
      cases hs : jd_sig H.2.1 p H.1 (tm_sec H.2.1.1 (w4a H.1 (24 + p.1.length))) 17 with
      | false =>
        rw [if_pos (Or.inr (Or.inr rfl))]
        rw [hs] at p1
        simp only [on1, Bool.false_eq_true, if_false] at p1
        refine ⟨x, y1, ?_, sameY ⟨_, _, z1⟩⟩
        rw [hid] at vi'
        generalize w4a H.1 (6 + p.1.length) = id at *
        generalize w4a H.1 (11 + p.1.length + 17) = sig at *
        generalize w4a H.1 (24 + p.1.length) = by_ at *
        simp (disch := (first | omega | decide)) [S_cb_mmade4_0, S_bx_mcan1_0, S_b8_mkey_1, S_b8_mkey_0, S_b1_mterm_0, S_b1_copy_0, S_b0_mod_7, S_b0_mod_6, S_b0_mod_5, S_b0_mod_3, S_b0_mod_2, S_b0_mod_1, S_b0_mod_0, S_cb_mmade4_1h, S_bx_mcan1_1h, S_b0_mod_4h, c377, s377_0, s377_1, s377_4, s377_5, s377_7, s377_8, s377_11, s377_13, s377_14, s377_16, s377_17, s377_20, s377_23, s377_24, s377_27, s377_28, s377_30, s377_31, s377_34, s377_35, s377_38, s377_39, s377_41, s377_43, s377_44, s377_46, s377_49, s377_52, s377_54, s377_55, s377_56, s377_58, s377_60, s377_61, s377_64, s377_65, s377_66, s377_69, s377_70, s377_73, s377_75, s377_76, s377_77, s377_79, s377_80, s377_81, s377_82, s377_85, s377_87, s377_88, s377_91, s377_94, s377_95, s377_98, s377_99, s377_100, s377_102, s377_105, s377_107, s377_108, s377_110, s377_111, s377_112, s377_113, s377_116, s377_117, s377_118, s377_119, s377_121, s377_122, s377_125, s377_126, s377_127, s377_128, s377_129, s377_130, s377_131, s377_132, s377_135, s377_137, s377_138, s377_139, s377_140, s377_143, s377_145, s377_147, s377_148, s377_149, s377_152, s377_154, s377_155, s377_158, s377_159, s377_160, s377_161, s377_164, s377_165, s377_166, s377_169, s377_171, s377_172, s377_173, s377_174, s377_177, s377_179, s377_180, s377_183, s377_184, s377_185, s377_188, s377_189, s377_190, s377_193, s377_195, s377_197, s377_198, s377_200, s377_203, s377_204, mq_k0s, mq_k1s, mq_k2s, mq_k4s, mq_k5s, mq_k5n, mq_k5as, mq_k6s, mj_pu, mj_lo, mj_br, mj_hr, mj_hw, mq_gf, mq_len, mq_al, mq_pf, mq_ok, mj_re, mq_lkm, mq_lkn, mj_ldi, mj_ldl, mj_lda, mj_ii, mj_ll, mj_li, mj_i1, ms_1, ms_2, f1_n, f1_i, f1_r, f1_u, f1_l, f2_n, f2_i, f2_r, f2_u, f2_l, mj_tg, mj_c1, mj_c2, mj_ar, mj_aw, mq_cb, mq_oi, mj_rm, Value.category, -getElem?_pos, List.getElem?_cons_zero, decide_eq_true, decide_eq_false, nl_lt, nl_le, ln_lt, ln_le, nl_eq, ln_eq, nl_add, ln_add, nl_sub, ln_mul, nI_sub, nI_mul, nI_add, nI_lt_iff, nI_le_iff, nI_inj, nI_num, mq_ix, nI_1, nl_mul, nl_div, e13, vb, rs, e9, vi', p1, narrow]
      | true =>
        rw [if_neg (fun w => by rcases w with w | w | w; exact hsec.1 w; exact w hid; cases w)]
        rw [hs] at p1
        simp only [on1, if_true] at p1
        obtain ⟨r1, r2⟩ := l_opened (d := d + 2) (B := B) z hp (id := w4a H.1 (6 + p.1.length)) (sig := w4a H.1 (11 + p.1.length + 17)) (by_ := w4a H.1 (24 + p.1.length)) (data := 11 + p.1.length) (y' := y1) p.2.2.2.1.length 0 (by omega)
        rw [List.drop_zero, nI_0] at r1 r2
        have to58 : ∀ rr, mj_Rn (d + 3) mj_m377 58 [(6, .int 0), (5, .int (w4a H.1 (24 + p.1.length))), (0, .ref 67), (1, .int (nI j)), (2, .int (w4a H.1 (6 + p.1.length))), (3, .int (nI (11 + p.1.length))), (4, .int (w4a H.1 (11 + p.1.length + 17)))] [] (mm B x y1) = some rr → mj_V (d + 4) 377 [.ref 67, .int (nI j), .int (w4a H.1 (6 + p.1.length)), .int (nI (11 + p.1.length)), .int (w4a H.1 (11 + p.1.length + 17))] (mm B x y) = some rr := by
          intro rr hr
          clear r1 r2
          rw [hid] at vi'
          generalize w4a H.1 (6 + p.1.length) = id at *
          generalize w4a H.1 (11 + p.1.length + 17) = sig at *
          generalize w4a H.1 (24 + p.1.length) = by_ at *
          simp (disch := (first | omega | decide)) [S_cb_mmade4_0, S_bx_mcan1_0, S_b8_mkey_1, S_b8_mkey_0, S_b1_mterm_0, S_b1_copy_0, S_b0_mod_7, S_b0_mod_6, S_b0_mod_5, S_b0_mod_3, S_b0_mod_2, S_b0_mod_1, S_b0_mod_0, S_cb_mmade4_1h, S_bx_mcan1_1h, S_b0_mod_4h, c377, s377_0, s377_1, s377_4, s377_5, s377_7, s377_8, s377_11, s377_13, s377_14, s377_16, s377_17, s377_20, s377_23, s377_24, s377_27, s377_28, s377_30, s377_31, s377_34, s377_35, s377_38, s377_39, s377_41, s377_43, s377_44, s377_46, s377_49, s377_52, s377_54, s377_55, s377_56, s377_60, s377_61, s377_64, s377_65, s377_66, s377_69, s377_70, s377_73, s377_75, s377_76, s377_77, s377_79, s377_80, s377_81, s377_82, s377_85, s377_87, s377_88, s377_91, s377_94, s377_95, s377_98, s377_99, s377_100, s377_102, s377_105, s377_107, s377_108, s377_110, s377_111, s377_112, s377_113, s377_116, s377_117, s377_118, s377_119, s377_121, s377_122, s377_125, s377_126, s377_127, s377_128, s377_129, s377_130, s377_131, s377_132, s377_135, s377_137, s377_138, s377_139, s377_140, s377_143, s377_145, s377_147, s377_148, s377_149, s377_152, s377_154, s377_155, s377_158, s377_159, s377_160, s377_161, s377_164, s377_165, s377_166, s377_169, s377_171, s377_172, s377_173, s377_174, s377_177, s377_179, s377_180, s377_183, s377_184, s377_185, s377_188, s377_189, s377_190, s377_193, s377_195, s377_197, s377_198, s377_200, s377_203, s377_204, mq_k0s, mq_k1s, mq_k2s, mq_k4s, mq_k5s, mq_k5n, mq_k5as, mq_k6s, mj_pu, mj_lo, mj_br, mj_hr, mj_hw, mq_gf, mq_len, mq_al, mq_pf, mq_ok, mj_re, mq_lkm, mq_lkn, mj_ldi, mj_ldl, mj_lda, mj_ii, mj_ll, mj_li, mj_i1, ms_1, ms_2, f1_n, f1_i, f1_r, f1_u, f1_l, f2_n, f2_i, f2_r, f2_u, f2_l, mj_tg, mj_c1, mj_c2, mj_ar, mj_aw, mq_cb, mq_oi, mj_rm, Value.category, -getElem?_pos, List.getElem?_cons_zero, decide_eq_true, decide_eq_false, nl_lt, nl_le, ln_lt, ln_le, nl_eq, ln_eq, nl_add, ln_add, nl_sub, ln_mul, nI_sub, nI_mul, nI_add, nI_lt_iff, nI_le_iff, nI_inj, nI_num, mq_ix, nI_1, nl_mul, nl_div, e13, vb, rs, e9, vi', p1]
          refine mq_wk ?_ hr
          simp [S_cb_mmade4_0, S_bx_mcan1_0, S_b8_mkey_1, S_b8_mkey_0, S_b1_mterm_0, S_b1_copy_0, S_b0_mod_7, S_b0_mod_6, S_b0_mod_5, S_b0_mod_3, S_b0_mod_2, S_b0_mod_1, S_b0_mod_0, S_cb_mmade4_1h, S_bx_mcan1_1h, S_b0_mod_4h, mq_sub, mj_lk]
        cases hany : p.2.2.2.1.any (fun a => decide (a.1 = w4a H.1 (6 + p.1.length))) with
        | true =>
          rw [if_pos rfl]
          exact ⟨x, y1, to58 _ (r1 hany), sameY ⟨_, _, z1⟩⟩
        | false =>
          rw [if_neg (by decide)]
          have r2 := r2 hany
          by_cases c8 : 8 ≤ p.2.2.2.1.length
          · rw [if_pos c8]
            refine ⟨x, y1, to58 _ (r2 _ ?_), sameY ⟨_, _, z1⟩⟩
            clear to58 r1 r2
            have e8 : p.2.2.2.1.length = 8 := by omega
            rw [e8] at a0 ⊢
            generalize w4a H.1 (6 + p.1.length) = id at *
            generalize w4a H.1 (11 + p.1.length + 17) = sig at *
            generalize w4a H.1 (24 + p.1.length) = by_ at *
            simp (disch := (first | omega | decide)) [S_cb_mmade4_0, S_bx_mcan1_0, S_b8_mkey_1, S_b8_mkey_0, S_b1_mterm_0, S_b1_copy_0, S_b0_mod_7, S_b0_mod_6, S_b0_mod_5, S_b0_mod_3, S_b0_mod_2, S_b0_mod_1, S_b0_mod_0, S_cb_mmade4_1h, S_bx_mcan1_1h, S_b0_mod_4h, s377_0, s377_1, s377_4, s377_5, s377_7, s377_8, s377_11, s377_13, s377_14, s377_16, s377_17, s377_20, s377_23, s377_24, s377_27, s377_28, s377_30, s377_31, s377_34, s377_35, s377_38, s377_39, s377_41, s377_43, s377_44, s377_46, s377_49, s377_52, s377_54, s377_55, s377_56, s377_58, s377_60, s377_61, s377_64, s377_65, s377_66, s377_69, s377_70, s377_73, s377_75, s377_76, s377_77, s377_79, s377_80, s377_81, s377_82, s377_85, s377_87, s377_88, s377_91, s377_94, s377_95, s377_98, s377_99, s377_100, s377_102, s377_105, s377_107, s377_108, s377_110, s377_111, s377_112, s377_113, s377_116, s377_117, s377_118, s377_119, s377_121, s377_122, s377_125, s377_126, s377_127, s377_128, s377_129, s377_130, s377_131, s377_132, s377_135, s377_137, s377_138, s377_139, s377_140, s377_143, s377_145, s377_147, s377_148, s377_149, s377_152, s377_154, s377_155, s377_158, s377_159, s377_160, s377_161, s377_164, s377_165, s377_166, s377_169, s377_171, s377_172, s377_173, s377_174, s377_177, s377_179, s377_180, s377_183, s377_184, s377_185, s377_188, s377_189, s377_190, s377_193, s377_195, s377_197, s377_198, s377_200, s377_203, s377_204, mq_k0s, mq_k1s, mq_k2s, mq_k4s, mq_k5s, mq_k5n, mq_k5as, mq_k6s, mj_pu, mj_lo, mj_br, mj_hr, mj_hw, mq_gf, mq_len, mq_al, mq_pf, mq_ok, mj_re, mq_lkm, mq_lkn, mj_ldi, mj_ldl, mj_lda, mj_ii, mj_ll, mj_li, mj_i1, ms_1, ms_2, f1_n, f1_i, f1_r, f1_u, f1_l, f2_n, f2_i, f2_r, f2_u, f2_l, mj_tg, mj_c1, mj_c2, mj_ar, mj_aw, mq_cb, mq_oi, mj_rm, Value.category, -getElem?_pos, List.getElem?_cons_zero, decide_eq_true, decide_eq_false, nl_lt, nl_le, ln_lt, ln_le, nl_eq, ln_eq, nl_add, ln_add, nl_sub, ln_mul, nI_sub, nI_mul, nI_add, nI_lt_iff, nI_le_iff, nI_inj, nI_num, mq_ix, nI_1, nl_mul, nl_div, l0, a0, show nI 8 = (8 : Int32) from rfl, narrow]
          · rw [if_neg c8]
            have I1 := I.yk k1
            have il := I1.n
            have il8 := I1.l
            have u8 := I1.u8
            let X : Fx := (((((((x.1.1.1.1.1.1, x.1.1.1.1.1.2), (x.1.1.1.1.2.1, x.1.1.1.1.2.2)), ((x.1.1.1.2.1.1, x.1.1.1.2.1.2), (x.1.1.1.2.2.1, x.1.1.1.2.2.2))), (((x.1.1.2.1.1.1, x.1.1.2.1.1.2), (x.1.1.2.1.2.1, x.1.1.2.1.2.2)), ((x.1.1.2.2.1.1, x.1.1.2.2.1.2), (x.1.1.2.2.2.1, x.1.1.2.2.2.2)))), ((((x.1.2.1.1.1.1, x.1.2.1.1.1.2), (x.1.2.1.1.2.1, x.1.2.1.1.2.2)), ((x.1.2.1.2.1.1, x.1.2.1.2.1.2), (x.1.2.1.2.2.1, x.1.2.1.2.2.2))), (((x.1.2.2.1.1.1, x.1.2.2.1.1.2), (x.1.2.2.1.2.1, x.1.2.2.1.2.2)), ((x.1.2.2.2.1.1, x.1.2.2.2.1.2), (x.1.2.2.2.2.1, x.1.2.2.2.2.2))))), (((((x.2.1.1.1.1.1, x.2.1.1.1.1.2), (x.2.1.1.1.2.1, x.2.1.1.1.2.2)), ((x.2.1.1.2.1.1, x.2.1.1.2.1.2), (x.2.1.1.2.2.1, x.2.1.1.2.2.2))), (((x.2.1.2.1.1.1, x.2.1.2.1.1.2), (x.2.1.2.1.2.1, x.2.1.2.1.2.2)), ((x.2.1.2.2.1.1, x.2.1.2.2.1.2), (x.2.1.2.2.2.1, x.2.1.2.2.2.2)))), ((((x.2.2.1.1.1.1, x.2.2.1.1.1.2), (x.2.2.1.1.2.1, x.2.2.1.1.2.2)), ((x.2.2.1.2.1.1, x.2.2.1.2.1.2), (x.2.2.1.2.2.1, x.2.2.1.2.2.2.set j (nI (p.2.2.2.1.length + 1))))), (((x.2.2.2.1.1.1.set (8 * j + p.2.2.2.1.length) (w4a H.1 (6 + p.1.length)), x.2.2.2.1.1.2.set (8 * j + p.2.2.2.1.length) (w4a H.1 (24 + p.1.length))), (x.2.2.2.1.2.1.set (8 * j + p.2.2.2.1.length) (w4a H.1 (16 + p.1.length)), x.2.2.2.1.2.2.set (8 * j + p.2.2.2.1.length) 0)), ((cpy x.2.2.2.2.1.1 (8 * (8 * j + p.2.2.2.1.length)) y1.2.2.2.1.2 0 8, x.2.2.2.2.1.2.set (8 * j + p.2.2.2.1.length) (nI o.2.1.length)), (x.2.2.2.2.2.1, x.2.2.2.2.2.2)))))) : Fx)
            have t8 : ((y1.2.2.2.1.2.drop 0).take 8).length = 8 := by rw [List.length_take, List.length_drop]; omega
            have ecp : cpy x.2.2.2.2.1.1 (8 * (8 * j + p.2.2.2.1.length)) y1.2.2.2.1.2 0 8 = spl x.2.2.2.2.1.1 (8 * (8 * j + p.2.2.2.1.length)) ((y1.2.2.2.1.2.drop 0).take 8) := cpy_spl (by omega)
            have hPO : pO x X j := (pO_mk_ ((pO.rf : pO x x j)).h ((pO.rf : pO x x j)).originLong ((pO.rf : pO x x j)).nameLong ((pO.rf : pO x x j)).offers (out.set (by omega)) ((pO.rf : pO x x j)).took ((pO.rf : pO x x j)).others ((pO.rf : pO x x j)).origins ((pO.rf : pO x x j)).names ((pO.rf : pO x x j)).offerTerm ((pO.rf : pO x x j)).offerLong ((pO.rf : pO x x j)).offerGet ((pO.rf : pO x x j)).offerPin ((pO.rf : pO x x j)).offerUser (out.set (by omega)) (out.set (by omega)) (out.set (by omega)) (out.set (by omega)) (out.set (by omega)) (by (show out x.2.2.2.2.1.1 (cpy x.2.2.2.2.1.1 (8 * (8 * j + p.2.2.2.1.length)) y1.2.2.2.1.2 0 8) (64 * j) 64); rw [ecp]; exact out.spl (by omega) (by omega)))
            refine ⟨X, y1, to58 _ (r2 _ ?_), ?_⟩
            · have v5 := q_tapeInt (d := d + 2) (B := B) (y := y1) (x := (((((((x.1.1.1.1.1.1, x.1.1.1.1.1.2), (x.1.1.1.1.2.1, x.1.1.1.1.2.2)), ((x.1.1.1.2.1.1, x.1.1.1.2.1.2), (x.1.1.1.2.2.1, x.1.1.1.2.2.2))), (((x.1.1.2.1.1.1, x.1.1.2.1.1.2), (x.1.1.2.1.2.1, x.1.1.2.1.2.2)), ((x.1.1.2.2.1.1, x.1.1.2.2.1.2), (x.1.1.2.2.2.1, x.1.1.2.2.2.2)))), ((((x.1.2.1.1.1.1, x.1.2.1.1.1.2), (x.1.2.1.1.2.1, x.1.2.1.1.2.2)), ((x.1.2.1.2.1.1, x.1.2.1.2.1.2), (x.1.2.1.2.2.1, x.1.2.1.2.2.2))), (((x.1.2.2.1.1.1, x.1.2.2.1.1.2), (x.1.2.2.1.2.1, x.1.2.2.1.2.2)), ((x.1.2.2.2.1.1, x.1.2.2.2.1.2), (x.1.2.2.2.2.1, x.1.2.2.2.2.2))))), (((((x.2.1.1.1.1.1, x.2.1.1.1.1.2), (x.2.1.1.1.2.1, x.2.1.1.1.2.2)), ((x.2.1.1.2.1.1, x.2.1.1.2.1.2), (x.2.1.1.2.2.1, x.2.1.1.2.2.2))), (((x.2.1.2.1.1.1, x.2.1.2.1.1.2), (x.2.1.2.1.2.1, x.2.1.2.1.2.2)), ((x.2.1.2.2.1.1, x.2.1.2.2.1.2), (x.2.1.2.2.2.1, x.2.1.2.2.2.2)))), ((((x.2.2.1.1.1.1, x.2.2.1.1.1.2), (x.2.2.1.1.2.1, x.2.2.1.1.2.2)), ((x.2.2.1.2.1.1, x.2.2.1.2.1.2), (x.2.2.1.2.2.1, x.2.2.1.2.2.2.set j (nI (p.2.2.2.1.length + 1))))), (((x.2.2.2.1.1.1.set (8 * j + p.2.2.2.1.length) (w4a H.1 (6 + p.1.length)), x.2.2.2.1.1.2.set (8 * j + p.2.2.2.1.length) (w4a H.1 (24 + p.1.length))), (x.2.2.2.1.2.1, x.2.2.2.1.2.2)), ((x.2.2.2.2.1.1, x.2.2.2.2.1.2), (x.2.2.2.2.2.1, x.2.2.2.2.2.2)))))) : Fx)) (t := H.1) z.t hb (q := 16 + p.1.length) (by omega)
              clear to58 r1 r2 hPO ecp
              simp only [X]
              generalize w4a H.1 (6 + p.1.length) = id at *
              generalize w4a H.1 (11 + p.1.length + 17) = sig at *
              generalize w4a H.1 (24 + p.1.length) = by_ at *
              generalize w4a H.1 (16 + p.1.length) = C at *
              simp (disch := (first | omega | decide)) [S_cb_mmade4_0, S_bx_mcan1_0, S_b8_mkey_1, S_b8_mkey_0, S_b1_mterm_0, S_b1_copy_0, S_b0_mod_7, S_b0_mod_6, S_b0_mod_5, S_b0_mod_3, S_b0_mod_2, S_b0_mod_1, S_b0_mod_0, S_cb_mmade4_1h, S_bx_mcan1_1h, S_b0_mod_4h, s377_0, s377_1, s377_4, s377_5, s377_7, s377_8, s377_11, s377_13, s377_14, s377_16, s377_17, s377_20, s377_23, s377_24, s377_27, s377_28, s377_30, s377_31, s377_34, s377_35, s377_38, s377_39, s377_41, s377_43, s377_44, s377_46, s377_49, s377_52, s377_54, s377_55, s377_56, s377_58, s377_60, s377_61, s377_64, s377_65, s377_66, s377_69, s377_70, s377_73, s377_75, s377_76, s377_77, s377_79, s377_80, s377_81, s377_82, s377_85, s377_87, s377_88, s377_91, s377_94, s377_95, s377_98, s377_99, s377_100, s377_102, s377_105, s377_107, s377_108, s377_110, s377_111, s377_112, s377_113, s377_116, s377_117, s377_118, s377_119, s377_121, s377_122, s377_125, s377_126, s377_127, s377_128, s377_129, s377_130, s377_131, s377_132, s377_135, s377_137, s377_138, s377_139, s377_140, s377_143, s377_145, s377_147, s377_148, s377_149, s377_152, s377_154, s377_155, s377_158, s377_159, s377_160, s377_161, s377_164, s377_165, s377_166, s377_169, s377_171, s377_172, s377_173, s377_174, s377_177, s377_179, s377_180, s377_183, s377_184, s377_185, s377_188, s377_189, s377_190, s377_193, s377_195, s377_197, s377_198, s377_200, s377_203, s377_204, mq_k0s, mq_k1s, mq_k2s, mq_k4s, mq_k5s, mq_k5n, mq_k5as, mq_k6s, mj_pu, mj_lo, mj_br, mj_hr, mj_hw, mq_gf, mq_len, mq_al, mq_pf, mq_ok, mj_re, mq_lkm, mq_lkn, mj_ldi, mj_ldl, mj_lda, mj_ii, mj_ll, mj_li, mj_i1, ms_1, ms_2, f1_n, f1_i, f1_r, f1_u, f1_l, f2_n, f2_i, f2_r, f2_u, f2_l, mj_tg, mj_c1, mj_c2, mj_ar, mj_aw, mq_cb, mq_oi, mj_rm, Value.category, -getElem?_pos, List.getElem?_cons_zero, decide_eq_true, decide_eq_false, nl_lt, nl_le, ln_lt, ln_le, nl_eq, ln_eq, nl_add, ln_add, nl_sub, ln_mul, nI_sub, nI_mul, nI_add, nI_lt_iff, nI_le_iff, nI_inj, nI_num, mq_ix, nI_1, nl_mul, nl_div, l0, a0, show ¬ p.2.2.2.1.length = 8 by omega, l1, l2, l3, l4, l5, l6, e5, v5, il, il8, mcpy_08, narrow]
            · refine z.pt (x' := X) hp hPO rfl rfl ⟨rfl, rfl, rfl⟩ ?_ ⟨_, _, z1⟩
              refine (pM_mk_ m.ol m.o40 m.og m.nl m.n24 m.nm m.of m.of4 (fun i o h => (m.os i o h).cg rfl rfl rfl rfl rfl) (?_) (?_) (?_) m.tk m.ot)
              · rw [List.length_append]; exact List.getElem?_set_self (by omega)
              · rw [List.length_append]; simp [S_cb_mmade4_0, S_bx_mcan1_0, S_b8_mkey_1, S_b8_mkey_0, S_b1_mterm_0, S_b1_copy_0, S_b0_mod_7, S_b0_mod_6, S_b0_mod_5, S_b0_mod_3, S_b0_mod_2, S_b0_mod_1, S_b0_mod_0, S_cb_mmade4_1h, S_bx_mcan1_1h, S_b0_mod_4h]; omega
              · intro i c hc
                have hcl := get_lt hc
                rw [List.length_append] at hcl
                simp [S_cb_mmade4_0, S_bx_mcan1_0, S_b8_mkey_1, S_b8_mkey_0, S_b1_mterm_0, S_b1_copy_0, S_b0_mod_7, S_b0_mod_6, S_b0_mod_5, S_b0_mod_3, S_b0_mod_2, S_b0_mod_1, S_b0_mod_0, S_cb_mmade4_1h, S_bx_mcan1_1h, S_b0_mod_4h] at hcl
                by_cases hie : i = p.2.2.2.1.length
                · subst hie
                  rw [List.getElem?_append_right (Nat.le_refl _), Nat.sub_self] at hc
                  cases hc
                  refine (aM_mk_ (List.getElem?_set_self (by omega)) (List.getElem?_set_self (by omega)) (List.getElem?_set_self (by omega)) (List.getElem?_set_self (by omega)) (List.getElem?_set_self (by omega)) u8 (fun q hq => ?_))
                  show (cpy x.2.2.2.2.1.1 (8 * (8 * j + p.2.2.2.1.length)) y1.2.2.2.1.2 0 8)[8 * (8 * j + p.2.2.2.1.length) + q]? = o.2.1[q]?
                  have hq : q < o.2.1.length := hq
                  rw [ecp, spl_get (by omega) (by omega), List.getElem?_take, if_pos (by omega), List.drop_zero]
                  exact I1.us q hq
                · rw [List.getElem?_append_left (by omega)] at hc
                  have cm := m.as i c hc
                  have u8' := cm.u8
                  refine (aM_mk_ ((List.getElem?_set_ne (by omega)).trans cm.id) ((List.getElem?_set_ne (by omega)).trans cm.pu) ((List.getElem?_set_ne (by omega)).trans cm.co) ((List.getElem?_set_ne (by omega)).trans cm.lo) ((List.getElem?_set_ne (by omega)).trans cm.ln) u8' (fun q hq => ?_))
                  show (cpy x.2.2.2.2.1.1 (8 * (8 * j + p.2.2.2.1.length)) y1.2.2.2.1.2 0 8)[8 * (8 * j + i) + q]? = c.2.2.2.2[q]?
                  rw [ecp, spl_far (by omega) (by omega)]
                  exact cm.us q hq
    · rw [if_pos (Or.inr (Or.inl hid))]
      refine ⟨x, y, ?_, sameY ⟨_, _, hy⟩⟩
      generalize w4a H.1 (6 + p.1.length) = id at *
      generalize w4a H.1 (11 + p.1.length + 17) = sig at *
      generalize w4a H.1 (24 + p.1.length) = by_ at *
      generalize w4a H.1 (20 + p.1.length) = id2 at *
      simp (disch := (first | omega | decide)) [S_cb_mmade4_0, S_bx_mcan1_0, S_b8_mkey_1, S_b8_mkey_0, S_b1_mterm_0, S_b1_copy_0, S_b0_mod_7, S_b0_mod_6, S_b0_mod_5, S_b0_mod_3, S_b0_mod_2, S_b0_mod_1, S_b0_mod_0, S_cb_mmade4_1h, S_bx_mcan1_1h, S_b0_mod_4h, c377, s377_0, s377_1, s377_4, s377_5, s377_7, s377_8, s377_11, s377_13, s377_14, s377_16, s377_17, s377_20, s377_23, s377_24, s377_27, s377_28, s377_30, s377_31, s377_34, s377_35, s377_38, s377_39, s377_41, s377_43, s377_44, s377_46, s377_49, s377_52, s377_54, s377_55, s377_56, s377_58, s377_60, s377_61, s377_64, s377_65, s377_66, s377_69, s377_70, s377_73, s377_75, s377_76, s377_77, s377_79, s377_80, s377_81, s377_82, s377_85, s377_87, s377_88, s377_91, s377_94, s377_95, s377_98, s377_99, s377_100, s377_102, s377_105, s377_107, s377_108, s377_110, s377_111, s377_112, s377_113, s377_116, s377_117, s377_118, s377_119, s377_121, s377_122, s377_125, s377_126, s377_127, s377_128, s377_129, s377_130, s377_131, s377_132, s377_135, s377_137, s377_138, s377_139, s377_140, s377_143, s377_145, s377_147, s377_148, s377_149, s377_152, s377_154, s377_155, s377_158, s377_159, s377_160, s377_161, s377_164, s377_165, s377_166, s377_169, s377_171, s377_172, s377_173, s377_174, s377_177, s377_179, s377_180, s377_183, s377_184, s377_185, s377_188, s377_189, s377_190, s377_193, s377_195, s377_197, s377_198, s377_200, s377_203, s377_204, mq_k0s, mq_k1s, mq_k2s, mq_k4s, mq_k5s, mq_k5n, mq_k5as, mq_k6s, mj_pu, mj_lo, mj_br, mj_hr, mj_hw, mq_gf, mq_len, mq_al, mq_pf, mq_ok, mj_re, mq_lkm, mq_lkn, mj_ldi, mj_ldl, mj_lda, mj_ii, mj_ll, mj_li, mj_i1, ms_1, ms_2, f1_n, f1_i, f1_r, f1_u, f1_l, f2_n, f2_i, f2_r, f2_u, f2_l, mj_tg, mj_c1, mj_c2, mj_ar, mj_aw, mq_cb, mq_oi, mj_rm, Value.category, -getElem?_pos, List.getElem?_cons_zero, decide_eq_true, decide_eq_false, nl_lt, nl_le, ln_lt, ln_le, nl_eq, ln_eq, nl_add, ln_add, nl_sub, ln_mul, nI_sub, nI_mul, nI_add, nI_lt_iff, nI_le_iff, nI_inj, nI_num, mq_ix, nI_1, nl_mul, nl_div, e13, vb, rs, e9, vi', hid, narrow]
  · have hz : tm_sec H.2.1.1 (w4a H.1 (24 + p.1.length)) = 0 := by unfold tm_sec; rw [if_neg h2]
    rw [if_pos (Or.inl hz)]
    rw [if_neg h2] at rs
    refine ⟨x, y, ?_, sameY ⟨_, _, hy⟩⟩
    generalize w4a H.1 (6 + p.1.length) = id at *
    generalize w4a H.1 (11 + p.1.length + 17) = sig at *
    generalize w4a H.1 (24 + p.1.length) = by_ at *
    simp (disch := (first | omega | decide)) [S_cb_mmade4_0, S_bx_mcan1_0, S_b8_mkey_1, S_b8_mkey_0, S_b1_mterm_0, S_b1_copy_0, S_b0_mod_7, S_b0_mod_6, S_b0_mod_5, S_b0_mod_3, S_b0_mod_2, S_b0_mod_1, S_b0_mod_0, S_cb_mmade4_1h, S_bx_mcan1_1h, S_b0_mod_4h, c377, s377_0, s377_1, s377_4, s377_5, s377_7, s377_8, s377_11, s377_13, s377_14, s377_16, s377_17, s377_20, s377_23, s377_24, s377_27, s377_28, s377_30, s377_31, s377_34, s377_35, s377_38, s377_39, s377_41, s377_43, s377_44, s377_46, s377_49, s377_52, s377_54, s377_55, s377_56, s377_58, s377_60, s377_61, s377_64, s377_65, s377_66, s377_69, s377_70, s377_73, s377_75, s377_76, s377_77, s377_79, s377_80, s377_81, s377_82, s377_85, s377_87, s377_88, s377_91, s377_94, s377_95, s377_98, s377_99, s377_100, s377_102, s377_105, s377_107, s377_108, s377_110, s377_111, s377_112, s377_113, s377_116, s377_117, s377_118, s377_119, s377_121, s377_122, s377_125, s377_126, s377_127, s377_128, s377_129, s377_130, s377_131, s377_132, s377_135, s377_137, s377_138, s377_139, s377_140, s377_143, s377_145, s377_147, s377_148, s377_149, s377_152, s377_154, s377_155, s377_158, s377_159, s377_160, s377_161, s377_164, s377_165, s377_166, s377_169, s377_171, s377_172, s377_173, s377_174, s377_177, s377_179, s377_180, s377_183, s377_184, s377_185, s377_188, s377_189, s377_190, s377_193, s377_195, s377_197, s377_198, s377_200, s377_203, s377_204, mq_k0s, mq_k1s, mq_k2s, mq_k4s, mq_k5s, mq_k5n, mq_k5as, mq_k6s, mj_pu, mj_lo, mj_br, mj_hr, mj_hw, mq_gf, mq_len, mq_al, mq_pf, mq_ok, mj_re, mq_lkm, mq_lkn, mj_ldi, mj_ldl, mj_lda, mj_ii, mj_ll, mj_li, mj_i1, ms_1, ms_2, f1_n, f1_i, f1_r, f1_u, f1_l, f2_n, f2_i, f2_r, f2_u, f2_l, mj_tg, mj_c1, mj_c2, mj_ar, mj_aw, mq_cb, mq_oi, mj_rm, Value.category, -getElem?_pos, List.getElem?_cons_zero, decide_eq_true, decide_eq_false, nl_lt, nl_le, ln_lt, ln_le, nl_eq, ln_eq, nl_add, ln_add, nl_sub, ln_mul, nI_sub, nI_mul, nI_add, nI_lt_iff, nI_le_iff, nI_inj, nI_num, mq_ix, nI_1, nl_mul, nl_div, e13, vb, rs, narrow]
end
end
