/- 9f.h7 -/
section
set_option maxRecDepth 512
/-! Class: the house: changePin, unlock. -/
theorem tm_no_b (T : Tm) (row : List Int32) : 0 < tm_no T row ∧ tm_no T row ≤ T.1.length + 1 := by
  unfold tm_no
  have := tm_ix_le T.1 row
  split <;> omega
theorem no_ne {T : Tm} {row : List Int32} (h : T.1.length < 1000) : nI (tm_no T row) ≠ 0 := fun e => by
  have h1 := tm_no_b T row
  have : tm_no T row = 0 := (nl_eq (a := tm_no T row) (n := 0) (by omega) rfl).mp e
  omega
section HZ
variable {M M' : mj_H} {H H' : Ho} {κs πs : List Nat} {row row' ms : List Int32} {d : Nat} {i l : Int32}
theorem h_changePin (z : hz M H κs πs row) (n : Int32) (hg : ∀ k ∈ H.2.2.1, kg k) (hl : H.2.1.1.length + 20 < 1000) : ∃ M' row', mj_V (d + 13) 186 [.ref 25, .int i, .int l, .int n] M = some (some (.int (ho_changePin H i l n).1), M') ∧ hz M' (ho_changePin H i l n).2 κs πs row' ∧ hf M M' := by
  have x0 := z.ob
  have w0 := j_in (d := d + 11) (v := n) (a := 0) (b := 12) (M := M)
  have w1 := v_size (d := d + 11) z.tp
  have o0 := z.tp.2.2.2.2.2.1
  have htl := z.tp.len
  unfold ho_changePin
  cases hia : ix i 4 with
  | none =>
    have v0 := h_hanN (d := d + 11) z hia
    refine ⟨M, row, ?_, z, hf.rf⟩
    cases hib : ix l H.2.2.1.length with
    | none =>
      have v1 := h_keyN (d := d + 11) z hib
      simp (disch := (first | omega | decide)) [c186, s186_0, s186_1, s186_2, s186_5, s186_7, s186_8, s186_9, s186_12, s186_14, s186_16, s186_19, s186_21, s186_24, s186_25, s186_26, s186_28, s186_31, s186_34, s186_35, s186_36, s186_39, s186_42, s186_45, s186_46, s186_47, s186_48, s186_50, s186_53, s186_55, s186_56, s186_59, s186_61, s186_62, s186_65, s186_68, s186_70, s186_72, s186_75, s186_77, s186_78, s186_79, s186_81, s186_83, s186_86, s186_89, s186_90, s186_92, s186_93, s186_96, s186_97, s186_100, s186_102, s186_103, s186_105, s186_108, s186_110, s186_111, s186_113, s186_115, s186_117, s186_120, s186_122, s186_123, s186_124, s186_126, s186_128, s186_131, s186_132, s186_135, s186_136, s186_139, s186_140, s186_143, s186_145, s186_148, s186_149, s186_152, s186_153, s186_156, s186_157, s186_160, s186_162, s186_165, s186_166, s186_169, s186_171, s186_174, s186_175, s186_178, s186_180, s186_183, s186_185, s186_186, s186_189, s186_192, mq_k0s, mq_k1s, mq_k2s, mq_k4s, mq_k5s, mq_k5n, mq_k5as, mq_k6s, mj_pu, mj_lo, mj_br, mj_hr, mj_hw, mq_gf, mq_len, mq_al, mq_pf, mq_ok, mj_re, mq_lkm, mq_lkn, mj_ldi, mj_ldl, mj_lda, mj_ii, mj_ll, mj_li, mj_i1, ms_1, ms_2, f1_n, f1_i, f1_r, f1_u, f1_l, f2_n, f2_i, f2_r, f2_u, f2_l, mj_tg, mj_c1, mj_c2, mj_ar, mj_aw, mq_cb, mq_oi, mj_rm, Value.category, -getElem?_pos, List.getElem?_cons_zero, decide_eq_true, decide_eq_false, nl_lt, nl_le, ln_lt, ln_le, nl_eq, ln_eq, nl_add, ln_add, nl_sub, ln_mul, nI_sub, nI_mul, nI_add, nI_lt_iff, nI_le_iff, nI_inj, nI_num, mq_ix, nI_1, nl_mul, nl_div, x0, v0, v1, narrow]
    | some b =>
      obtain ⟨rfl, hb, -⟩ := ix_some hib
      obtain ⟨κ, hκ, zk⟩ := z.kzz (List.getElem?_eq_getElem hb)
      have v1 := h_keyS (d := d + 11) z hκ
      simp (disch := (first | omega | decide)) [c186, s186_0, s186_1, s186_2, s186_5, s186_7, s186_8, s186_9, s186_12, s186_14, s186_16, s186_19, s186_21, s186_24, s186_25, s186_26, s186_28, s186_31, s186_34, s186_35, s186_36, s186_39, s186_42, s186_45, s186_46, s186_47, s186_48, s186_50, s186_53, s186_55, s186_56, s186_59, s186_61, s186_62, s186_65, s186_68, s186_70, s186_72, s186_75, s186_77, s186_78, s186_79, s186_81, s186_83, s186_86, s186_89, s186_90, s186_92, s186_93, s186_96, s186_97, s186_100, s186_102, s186_103, s186_105, s186_108, s186_110, s186_111, s186_113, s186_115, s186_117, s186_120, s186_122, s186_123, s186_124, s186_126, s186_128, s186_131, s186_132, s186_135, s186_136, s186_139, s186_140, s186_143, s186_145, s186_148, s186_149, s186_152, s186_153, s186_156, s186_157, s186_160, s186_162, s186_165, s186_166, s186_169, s186_171, s186_174, s186_175, s186_178, s186_180, s186_183, s186_185, s186_186, s186_189, s186_192, mq_k0s, mq_k1s, mq_k2s, mq_k4s, mq_k5s, mq_k5n, mq_k5as, mq_k6s, mj_pu, mj_lo, mj_br, mj_hr, mj_hw, mq_gf, mq_len, mq_al, mq_pf, mq_ok, mj_re, mq_lkm, mq_lkn, mj_ldi, mj_ldl, mj_lda, mj_ii, mj_ll, mj_li, mj_i1, ms_1, ms_2, f1_n, f1_i, f1_r, f1_u, f1_l, f2_n, f2_i, f2_r, f2_u, f2_l, mj_tg, mj_c1, mj_c2, mj_ar, mj_aw, mq_cb, mq_oi, mj_rm, Value.category, -getElem?_pos, List.getElem?_cons_zero, decide_eq_true, decide_eq_false, nl_lt, nl_le, ln_lt, ln_le, nl_eq, ln_eq, nl_add, ln_add, nl_sub, ln_mul, nI_sub, nI_mul, nI_add, nI_lt_iff, nI_le_iff, nI_inj, nI_num, mq_ix, nI_1, nl_mul, nl_div, x0, v0, v1, narrow]
  | some a =>
    obtain ⟨rfl, ha, -⟩ := ix_some hia
    have v0 := h_hanS (d := d + 11) z ha
    cases hib : ix l H.2.2.1.length with
    | none =>
      have v1 := h_keyN (d := d + 11) z hib
      refine ⟨M, row, ?_, z, hf.rf⟩
      simp (disch := (first | omega | decide)) [c186, s186_0, s186_1, s186_2, s186_5, s186_7, s186_8, s186_9, s186_12, s186_14, s186_16, s186_19, s186_21, s186_24, s186_25, s186_26, s186_28, s186_31, s186_34, s186_35, s186_36, s186_39, s186_42, s186_45, s186_46, s186_47, s186_48, s186_50, s186_53, s186_55, s186_56, s186_59, s186_61, s186_62, s186_65, s186_68, s186_70, s186_72, s186_75, s186_77, s186_78, s186_79, s186_81, s186_83, s186_86, s186_89, s186_90, s186_92, s186_93, s186_96, s186_97, s186_100, s186_102, s186_103, s186_105, s186_108, s186_110, s186_111, s186_113, s186_115, s186_117, s186_120, s186_122, s186_123, s186_124, s186_126, s186_128, s186_131, s186_132, s186_135, s186_136, s186_139, s186_140, s186_143, s186_145, s186_148, s186_149, s186_152, s186_153, s186_156, s186_157, s186_160, s186_162, s186_165, s186_166, s186_169, s186_171, s186_174, s186_175, s186_178, s186_180, s186_183, s186_185, s186_186, s186_189, s186_192, mq_k0s, mq_k1s, mq_k2s, mq_k4s, mq_k5s, mq_k5n, mq_k5as, mq_k6s, mj_pu, mj_lo, mj_br, mj_hr, mj_hw, mq_gf, mq_len, mq_al, mq_pf, mq_ok, mj_re, mq_lkm, mq_lkn, mj_ldi, mj_ldl, mj_lda, mj_ii, mj_ll, mj_li, mj_i1, ms_1, ms_2, f1_n, f1_i, f1_r, f1_u, f1_l, f2_n, f2_i, f2_r, f2_u, f2_l, mj_tg, mj_c1, mj_c2, mj_ar, mj_aw, mq_cb, mq_oi, mj_rm, Value.category, -getElem?_pos, List.getElem?_cons_zero, decide_eq_true, decide_eq_false, nl_lt, nl_le, ln_lt, ln_le, nl_eq, ln_eq, nl_add, ln_add, nl_sub, ln_mul, nI_sub, nI_mul, nI_add, nI_lt_iff, nI_le_iff, nI_inj, nI_num, mq_ix, nI_1, nl_mul, nl_div, x0, v0, v1, narrow]
    | some b =>
      obtain ⟨rfl, hb, -⟩ := ix_some hib
      have hah : a < H.2.2.2.1.length := by rw [z.hl]; exact ha
      have hh := List.getElem?_eq_getElem hah
      have hk := List.getElem?_eq_getElem hb
      obtain ⟨κ, hκ, zk⟩ := z.kzz hk
      have v1 := h_keyS (d := d + 11) z hκ
      have hkg := hg _ (List.getElem_mem hb)
      have sh : ∀ x, (H.2.2.2.1.set a x)[a]? = some x := fun x => List.getElem?_set_self hah
      have sk : ∀ x, (H.2.2.1.set b x)[b]? = some x := fun x => List.getElem?_set_self hb
      generalize H.2.2.2.1[a] = h at *
      generalize H.2.2.1[b] = k at *
      dsimp only
      rw [hh, hk]
      dsimp only
      cases hin : inR n 0 12 with
      | false =>
        rw [hin] at w0
        refine ⟨M, row, ?_, by simpa using z, hf.rf⟩
        simp (disch := (first | omega | decide)) [c186, s186_0, s186_1, s186_2, s186_5, s186_7, s186_8, s186_9, s186_12, s186_14, s186_16, s186_19, s186_21, s186_24, s186_25, s186_26, s186_28, s186_31, s186_34, s186_35, s186_36, s186_39, s186_42, s186_45, s186_46, s186_47, s186_48, s186_50, s186_53, s186_55, s186_56, s186_59, s186_61, s186_62, s186_65, s186_68, s186_70, s186_72, s186_75, s186_77, s186_78, s186_79, s186_81, s186_83, s186_86, s186_89, s186_90, s186_92, s186_93, s186_96, s186_97, s186_100, s186_102, s186_103, s186_105, s186_108, s186_110, s186_111, s186_113, s186_115, s186_117, s186_120, s186_122, s186_123, s186_124, s186_126, s186_128, s186_131, s186_132, s186_135, s186_136, s186_139, s186_140, s186_143, s186_145, s186_148, s186_149, s186_152, s186_153, s186_156, s186_157, s186_160, s186_162, s186_165, s186_166, s186_169, s186_171, s186_174, s186_175, s186_178, s186_180, s186_183, s186_185, s186_186, s186_189, s186_192, mq_k0s, mq_k1s, mq_k2s, mq_k4s, mq_k5s, mq_k5n, mq_k5as, mq_k6s, mj_pu, mj_lo, mj_br, mj_hr, mj_hw, mq_gf, mq_len, mq_al, mq_pf, mq_ok, mj_re, mq_lkm, mq_lkn, mj_ldi, mj_ldl, mj_lda, mj_ii, mj_ll, mj_li, mj_i1, ms_1, ms_2, f1_n, f1_i, f1_r, f1_u, f1_l, f2_n, f2_i, f2_r, f2_u, f2_l, mj_tg, mj_c1, mj_c2, mj_ar, mj_aw, mq_cb, mq_oi, mj_rm, Value.category, -getElem?_pos, List.getElem?_cons_zero, decide_eq_true, decide_eq_false, nl_lt, nl_le, ln_lt, ln_le, nl_eq, ln_eq, nl_add, ln_add, nl_sub, ln_mul, nI_sub, nI_mul, nI_add, nI_lt_iff, nI_le_iff, nI_inj, nI_num, mq_ix, nI_1, nl_mul, nl_div, x0, v0, v1, w0, on1, narrow]
      | true =>
      rw [hin] at w0
      obtain ⟨m, rfl, -, hm, hc⟩ := inR_nI (a := 0) (b := 12) hin (by decide) (by decide)
      rw [hc]
      by_cases hmt : m ≤ H.1.length; rotate_left
      · rw [if_pos (by simp [hmt])]
        refine ⟨M, row, ?_, z, hf.rf⟩
        simp (disch := (first | omega | decide)) [c186, s186_0, s186_1, s186_2, s186_5, s186_7, s186_8, s186_9, s186_12, s186_14, s186_16, s186_19, s186_21, s186_24, s186_25, s186_26, s186_28, s186_31, s186_34, s186_35, s186_36, s186_39, s186_42, s186_45, s186_46, s186_47, s186_48, s186_50, s186_53, s186_55, s186_56, s186_59, s186_61, s186_62, s186_65, s186_68, s186_70, s186_72, s186_75, s186_77, s186_78, s186_79, s186_81, s186_83, s186_86, s186_89, s186_90, s186_92, s186_93, s186_96, s186_97, s186_100, s186_102, s186_103, s186_105, s186_108, s186_110, s186_111, s186_113, s186_115, s186_117, s186_120, s186_122, s186_123, s186_124, s186_126, s186_128, s186_131, s186_132, s186_135, s186_136, s186_139, s186_140, s186_143, s186_145, s186_148, s186_149, s186_152, s186_153, s186_156, s186_157, s186_160, s186_162, s186_165, s186_166, s186_169, s186_171, s186_174, s186_175, s186_178, s186_180, s186_183, s186_185, s186_186, s186_189, s186_192, mq_k0s, mq_k1s, mq_k2s, mq_k4s, mq_k5s, mq_k5n, mq_k5as, mq_k6s, mj_pu, mj_lo, mj_br, mj_hr, mj_hw, mq_gf, mq_len, mq_al, mq_pf, mq_ok, mj_re, mq_lkm, mq_lkn, mj_ldi, mj_ldl, mj_lda, mj_ii, mj_ll, mj_li, mj_i1, ms_1, ms_2, f1_n, f1_i, f1_r, f1_u, f1_l, f2_n, f2_i, f2_r, f2_u, f2_l, mj_tg, mj_c1, mj_c2, mj_ar, mj_aw, mq_cb, mq_oi, mj_rm, Value.category, -getElem?_pos, List.getElem?_cons_zero, decide_eq_true, decide_eq_false, nl_lt, nl_le, ln_lt, ln_le, nl_eq, ln_eq, nl_add, ln_add, nl_sub, ln_mul, nI_sub, nI_mul, nI_add, nI_lt_iff, nI_le_iff, nI_inj, nI_num, mq_ix, nI_1, nl_mul, nl_div, x0, v0, v1, w0, on1, o0, w1, hmt, narrow]
      rw [if_neg (by simp [hmt])]
      obtain ⟨M1, M2, M3, row1, row3, p1, z1, p2, z2, p3, z3, g3, k3⟩ := h_ag (d := d) z hh hk hκ hkg hl
      have p1 := mj_V_mono (d' := d + 12) (by omega) p1
      have p2 := mj_V_mono (d' := d + 12) (by omega) p2
      have x1 := z1.ob
      obtain ⟨x2, y2⟩ := z2.fa
      have x3 := z3.ob
      obtain ⟨u3, t3⟩ := k3.fa
      obtain ⟨κ2, hκ2, zk2⟩ := z2.z.kzz hk
      rw [hκ] at hκ2
      cases hκ2
      obtain ⟨w2, t2⟩ := zk2.fa
      by_cases hs : (ag_k h k H.2.1).1 = 0; rotate_left
      · rw [if_pos hs]
        refine ⟨M3, row3, ?_, z3, g3⟩
        simp (disch := (first | omega | decide)) [c186, s186_0, s186_1, s186_2, s186_5, s186_7, s186_8, s186_9, s186_12, s186_14, s186_16, s186_19, s186_21, s186_24, s186_25, s186_26, s186_28, s186_31, s186_34, s186_35, s186_36, s186_39, s186_42, s186_45, s186_46, s186_47, s186_48, s186_50, s186_53, s186_55, s186_56, s186_59, s186_61, s186_62, s186_65, s186_68, s186_70, s186_72, s186_75, s186_77, s186_78, s186_79, s186_81, s186_83, s186_86, s186_89, s186_90, s186_92, s186_93, s186_96, s186_97, s186_100, s186_102, s186_103, s186_105, s186_108, s186_110, s186_111, s186_113, s186_115, s186_117, s186_120, s186_122, s186_123, s186_124, s186_126, s186_128, s186_131, s186_132, s186_135, s186_136, s186_139, s186_140, s186_143, s186_145, s186_148, s186_149, s186_152, s186_153, s186_156, s186_157, s186_160, s186_162, s186_165, s186_166, s186_169, s186_171, s186_174, s186_175, s186_178, s186_180, s186_183, s186_185, s186_186, s186_189, s186_192, mq_k0s, mq_k1s, mq_k2s, mq_k4s, mq_k5s, mq_k5n, mq_k5as, mq_k6s, mj_pu, mj_lo, mj_br, mj_hr, mj_hw, mq_gf, mq_len, mq_al, mq_pf, mq_ok, mj_re, mq_lkm, mq_lkn, mj_ldi, mj_ldl, mj_lda, mj_ii, mj_ll, mj_li, mj_i1, ms_1, ms_2, f1_n, f1_i, f1_r, f1_u, f1_l, f2_n, f2_i, f2_r, f2_u, f2_l, mj_tg, mj_c1, mj_c2, mj_ar, mj_aw, mq_cb, mq_oi, mj_rm, Value.category, -getElem?_pos, List.getElem?_cons_zero, decide_eq_true, decide_eq_false, nl_lt, nl_le, ln_lt, ln_le, nl_eq, ln_eq, nl_add, ln_add, nl_sub, ln_mul, nI_sub, nI_mul, nI_add, nI_lt_iff, nI_le_iff, nI_inj, nI_num, mq_ix, nI_1, nl_mul, nl_div, x0, v0, v1, w0, on1, o0, w1, hmt, p1, x1, p2, x2, t2, p3, hs, narrow]
      rw [if_neg (by simp [hs])]
      rw [hs] at p3
      have h8 := ag_r8 h k H.2.1 hs
      have hgl := ag_len h k H.2.1
      have hTl := agT_len h k H.2.1
      obtain ⟨M4, row4, p4, z4, g4⟩ := h_awa (d := d + 6) z3 (sh _) k3.re (by omega) (by show (ag_k h k H.2.1).2.2.1.length < 1000; omega)
      change hz M4 ((H.1, (ag_T h k H.2.1, (H.2.2.1.set b (ag_k h k H.2.1).2.1, ((H.2.2.2.1.set a (own_h h H.2.1)).set a (ag_h h k H.2.1), H.2.2.2.2)))) : Ho) κs πs row4 at z4
      rw [List.set_set] at z4
      change hz M4 (H.hk a (ag_h h k H.2.1) b ((ag_k h k H.2.1).2.1, ag_T h k H.2.1)) κs πs row4 at z4
      have x4 := z4.ob
      have o4 := z4.tp.2.2.2.2.2.1
      obtain ⟨M5, row5, p5, z5, g5⟩ := h_enc (d := d + 7) (n := m) z4 (sh _) z4.tp (by unfold hA; omega) (by unfold hA; omega) hmt (by omega) (by show (ag_T h k H.2.1).1.length < 1000; omega)
      generalize hah' : ag_h h k H.2.1 = h' at *
      generalize haT : ag_T h k H.2.1 = T' at *
      change mj_V (d + 12) 183 [.ref 25, .ref (46 + 5 * a), .ref 26, .int (nI m)] M4 = some (some (.int (cp_e h' T' (H.1.take m))), M5) at p5
      have hm5 := tm_mk_len T' (enc_row h' (H.1.take m))
      have x5 := z5.ob
      obtain ⟨M6, row6, p6, z6, g6⟩ := h_ech (d := d + 7) z5 (sh _) (by show (tm_mk T' (enc_row h' (H.1.take m))).1.length + 1 < 1000; omega)
      change mj_V (d + 12) 187 [.ref 25, .ref (46 + 5 * a)] M5 = some (some (.int (cp_o h' T' (H.1.take m))), M6) at p6
      change hz M6 ((H.1, (cp_T h' T' (H.1.take m), (H.2.2.1.set b (ag_k h k H.2.1).2.1, (H.2.2.2.1.set a h', H.2.2.2.2)))) : Ho) κs πs row6 at z6
      have x6 := z6.ob
      have hm6 : (cp_T h' T' (H.1.take m)).1.length ≤ T'.1.length + 3 := by
        have q1 := tm_mk_len (tm_mk T' (enc_row h' (H.1.take m))) (7 :: h'.1)
        have q2 := tm_mk_len (tm_mk (tm_mk T' (enc_row h' (H.1.take m))) (7 :: h'.1)) (enc_row h' (b4 (nI (tm_no (tm_mk T' (enc_row h' (H.1.take m))) (7 :: h'.1)))))
        show (tm_mk (tm_mk (tm_mk T' (enc_row h' (H.1.take m))) (7 :: h'.1)) (enc_row h' (b4 (nI (tm_no (tm_mk T' (enc_row h' (H.1.take m))) (7 :: h'.1)))))).1.length ≤ _
        omega
      have hcpo : cp_o h' T' (H.1.take m) ≠ 0 := by
        have q1 := tm_mk_len (tm_mk T' (enc_row h' (H.1.take m))) (7 :: h'.1)
        exact no_ne (by omega)
      obtain ⟨M7, row7, p7, z7, g7⟩ := h_prf (d := d + 7) z6 (sh _) (cp_e h' T' (H.1.take m)) (cp_o h' T' (H.1.take m)) (by show (cp_T h' T' (H.1.take m)).1.length < 1000; omega)
      rw [if_neg hcpo] at p7 z7
      have x7 := z7.ob
      have hm7 := tm_mk_len (cp_T h' T' (H.1.take m)) (mac_row h' (b4 (cp_e h' T' (H.1.take m)) ++ b4 (cp_o h' T' (H.1.take m))))
      obtain ⟨M8, p8, z8, g8⟩ := h_bpm (d := d + 8) z7 4 (own_n H.2.1) 6 166 (by decide) h_56
      obtain ⟨x8, y8⟩ := z8.fa
      have hpn : ∀ r : List Int32, (pnMsg 166 4 (own_n H.2.1) r).length = 12 + r.length := by intro r; simp [pnMsg, b4_len]; omega
      have hp0 := hpn []
      simp only [List.length_nil] at hp0
      generalize hPM : pnMsg 166 4 (own_n H.2.1) [] = PM at *
      dsimp only at p7
      generalize hmac : nI (tm_no (cp_T h' T' (H.1.take m)) (mac_row h' (b4 (cp_e h' T' (H.1.take m)) ++ b4 (cp_o h' T' (H.1.take m))))) = mac at *
      generalize henc : cp_e h' T' (H.1.take m) = enc at *
      generalize holdh : cp_o h' T' (H.1.take m) = old at *
      obtain ⟨M9, p9, z9, g9⟩ := hm_pushX (d := d + 11) z8 4 (PM ++ [4]) (by simp only [List.append_assoc, List.cons_append, List.nil_append, List.append_nil, h_53, h_54, h_55, h_52, h_51, h_41, h_217, h_29, h_22, h_16, h_721, h_720, h_0400, aa_1, aa_2, aa_3, aa_4, aa_5, aa_6, tx_0, tx_1, tx_2, tx_3, tx_5, tx_6, tx_7, tx_8, tx_9, tx_10, h_56, h_44, aa_7, aa_8, aa_9]) (by simp [b4_len] <;> omega)
      obtain ⟨x9, y9⟩ := z9.fa
      obtain ⟨M10, p10, z10, g10⟩ := hm_termX (d := d + 9) z9 mac ((PM ++ [4]) ++ (68 :: b4 mac)) rfl (by simp [b4_len] <;> omega)
      obtain ⟨x10, y10⟩ := z10.fa
      obtain ⟨M11, p11, z11, g11⟩ := hm_pushX (d := d + 11) z10 5 (((PM ++ [4]) ++ (68 :: b4 mac)) ++ [5]) (by simp only [List.append_assoc, List.cons_append, List.nil_append, List.append_nil, h_53, h_54, h_55, h_52, h_51, h_41, h_217, h_29, h_22, h_16, h_721, h_720, h_0400, aa_1, aa_2, aa_3, aa_4, aa_5, aa_6, tx_0, tx_1, tx_2, tx_3, tx_5, tx_6, tx_7, tx_8, tx_9, tx_10, h_56, h_44, aa_7, aa_8, aa_9]) (by simp [b4_len] <;> omega)
      obtain ⟨x11, y11⟩ := z11.fa
      obtain ⟨M12, p12, z12, g12⟩ := hm_termX (d := d + 9) z11 enc ((((PM ++ [4]) ++ (68 :: b4 mac)) ++ [5]) ++ (68 :: b4 enc)) rfl (by simp [b4_len] <;> omega)
      obtain ⟨x12, y12⟩ := z12.fa
      obtain ⟨M13, p13, z13, g13⟩ := hm_pushX (d := d + 11) z12 6 (((((PM ++ [4]) ++ (68 :: b4 mac)) ++ [5]) ++ (68 :: b4 enc)) ++ [6]) (by simp only [List.append_assoc, List.cons_append, List.nil_append, List.append_nil, h_53, h_54, h_55, h_52, h_51, h_41, h_217, h_29, h_22, h_16, h_721, h_720, h_0400, aa_1, aa_2, aa_3, aa_4, aa_5, aa_6, tx_0, tx_1, tx_2, tx_3, tx_5, tx_6, tx_7, tx_8, tx_9, tx_10, h_56, h_44, aa_7, aa_8, aa_9]) (by simp [b4_len] <;> omega)
      obtain ⟨x13, y13⟩ := z13.fa
      obtain ⟨M14, p14, z14, g14⟩ := hm_termX (d := d + 9) z13 old ((((((PM ++ [4]) ++ (68 :: b4 mac)) ++ [5]) ++ (68 :: b4 enc)) ++ [6]) ++ (68 :: b4 old)) rfl (by simp [b4_len] <;> omega)
      obtain ⟨x14, y14⟩ := z14.fa
      have e14 : PM ++ [4] ++ (68 :: b4 mac) ++ [5] ++ (68 :: b4 enc) ++ [6] ++ (68 :: b4 old) = pnMsg 166 4 (own_n H.2.1) (mbr 4 mac ++ (mbr 5 enc ++ mbr 6 old)) := by rw [← hPM]; simp [pnMsg, mbr]
      rw [e14] at z14
      obtain ⟨M15, row15, p15, z15, g15, k15⟩ := z14.rcv (d := d) (sk _) hκ (ag_kg hkg) (by show (tm_mk (cp_T h' T' (H.1.take m)) (mac_row h' (b4 enc ++ b4 old))).1.length + 5 < 1000; omega)
      obtain ⟨κ3, hκ3, zk14⟩ := z14.z.kzz (sk _)
      rw [hκ] at hκ3
      cases hκ3
      obtain ⟨w14, t14⟩ := zk14.fa
      have esp : cp_2 h' (ag_k h k H.2.1).2.1 T' (own_n H.2.1) (H.1.take m) = ky_recv (pnMsg 166 4 (own_n H.2.1) (mbr 4 mac ++ (mbr 5 enc ++ mbr 6 old))) (ag_k h k H.2.1).2.1 (tm_mk (cp_T h' T' (H.1.take m)) (mac_row h' (b4 enc ++ b4 old))) := by unfold cp_2; rw [henc, holdh, hmac]
      rw [esp]
      refine ⟨M15, row15, ?_, ?_, (((((((((((g3.tr g4).tr g5).tr g6).tr g7).tr g8).tr g9).tr g10).tr g11).tr g12).tr g13).tr g14).tr g15⟩
      · change mj_V (d + 12) 78 [.ref κ, .ref 28] M14 = some (some (.int (ky_recv (pnMsg 166 4 (own_n H.2.1) (mbr 4 mac ++ (mbr 5 enc ++ mbr 6 old))) (ag_k h k H.2.1).2.1 (tm_mk (cp_T h' T' (H.1.take m)) (mac_row h' (b4 enc ++ b4 old)))).1), M15) at p15
        simp (disch := (first | omega | decide)) [c186, s186_0, s186_1, s186_2, s186_5, s186_7, s186_8, s186_9, s186_12, s186_14, s186_16, s186_19, s186_21, s186_24, s186_25, s186_26, s186_28, s186_31, s186_34, s186_35, s186_36, s186_39, s186_42, s186_45, s186_46, s186_47, s186_48, s186_50, s186_53, s186_55, s186_56, s186_59, s186_61, s186_62, s186_65, s186_68, s186_70, s186_72, s186_75, s186_77, s186_78, s186_79, s186_81, s186_83, s186_86, s186_89, s186_90, s186_92, s186_93, s186_96, s186_97, s186_100, s186_102, s186_103, s186_105, s186_108, s186_110, s186_111, s186_113, s186_115, s186_117, s186_120, s186_122, s186_123, s186_124, s186_126, s186_128, s186_131, s186_132, s186_135, s186_136, s186_139, s186_140, s186_143, s186_145, s186_148, s186_149, s186_152, s186_153, s186_156, s186_157, s186_160, s186_162, s186_165, s186_166, s186_169, s186_171, s186_174, s186_175, s186_178, s186_180, s186_183, s186_185, s186_186, s186_189, s186_192, mq_k0s, mq_k1s, mq_k2s, mq_k4s, mq_k5s, mq_k5n, mq_k5as, mq_k6s, mj_pu, mj_lo, mj_br, mj_hr, mj_hw, mq_gf, mq_len, mq_al, mq_pf, mq_ok, mj_re, mq_lkm, mq_lkn, mj_ldi, mj_ldl, mj_lda, mj_ii, mj_ll, mj_li, mj_i1, ms_1, ms_2, f1_n, f1_i, f1_r, f1_u, f1_l, f2_n, f2_i, f2_r, f2_u, f2_l, mj_tg, mj_c1, mj_c2, mj_ar, mj_aw, mq_cb, mq_oi, mj_rm, Value.category, -getElem?_pos, List.getElem?_cons_zero, decide_eq_true, decide_eq_false, nl_lt, nl_le, ln_lt, ln_le, nl_eq, ln_eq, nl_add, ln_add, nl_sub, ln_mul, nI_sub, nI_mul, nI_add, nI_lt_iff, nI_le_iff, nI_inj, nI_num, mq_ix, nI_1, nl_mul, nl_div, x0, v0, v1, w0, on1, o0, w1, hmt, p1, x1, p2, x2, t2, p3, x3, t3, p4, x4, o4, p5, x5, p6, x6, p7, x7, p8, x8, y8, p9, x9, y9, p10, x10, y10, p11, x11, y11, p12, x12, y12, p13, x13, y13, p14, x14, y14, t14, p15, narrow]
      · change hz M15 ((H.1, ((ky_recv (pnMsg 166 4 (own_n H.2.1) (mbr 4 mac ++ (mbr 5 enc ++ mbr 6 old))) (ag_k h k H.2.1).2.1 (tm_mk (cp_T h' T' (H.1.take m)) (mac_row h' (b4 enc ++ b4 old)))).2.2, ((H.2.2.1.set b (ag_k h k H.2.1).2.1).set b (ky_recv (pnMsg 166 4 (own_n H.2.1) (mbr 4 mac ++ (mbr 5 enc ++ mbr 6 old))) (ag_k h k H.2.1).2.1 (tm_mk (cp_T h' T' (H.1.take m)) (mac_row h' (b4 enc ++ b4 old)))).2.1, (H.2.2.2.1.set a h', H.2.2.2.2)))) : Ho) κs πs row15 at z15
        rw [List.set_set] at z15
        exact z15
theorem h_unlock (z : hz M H κs πs row) (hg : ∀ k ∈ H.2.2.1, kg k) (hl : H.2.1.1.length + 20 < 1000) : ∃ M' row', mj_V (d + 13) 188 [.ref 25, .int i, .int l] M = some (some (.int (ho_unlock H i l).1), M') ∧ hz M' (ho_unlock H i l).2 κs πs row' ∧ hf M M' := by
  have x0 := z.ob
  unfold ho_unlock
  cases hia : ix i 4 with
  | none =>
    have v0 := h_hanN (d := d + 11) z hia
    refine ⟨M, row, ?_, z, hf.rf⟩
    cases hib : ix l H.2.2.1.length with
    | none =>
      have v1 := h_keyN (d := d + 11) z hib
      simp (disch := (first | omega | decide)) [c188, s188_0, s188_1, s188_2, s188_5, s188_6, s188_7, s188_8, s188_11, s188_13, s188_14, s188_17, s188_19, s188_22, s188_23, s188_24, s188_25, s188_26, s188_29, s188_31, s188_32, s188_35, s188_37, s188_38, s188_41, s188_44, s188_46, s188_48, s188_51, s188_53, s188_54, s188_55, s188_56, s188_58, s188_61, s188_64, s188_65, s188_66, s188_69, s188_71, s188_72, s188_73, s188_75, s188_76, s188_79, s188_80, s188_83, s188_85, s188_88, s188_89, s188_92, s188_94, s188_97, s188_99, s188_100, s188_103, s188_106, s188_108, s188_110, s188_113, s188_114, s188_115, s188_117, s188_120, s188_121, s188_124, s188_127, s188_128, s188_130, mq_k0s, mq_k1s, mq_k2s, mq_k4s, mq_k5s, mq_k5n, mq_k5as, mq_k6s, mj_pu, mj_lo, mj_br, mj_hr, mj_hw, mq_gf, mq_len, mq_al, mq_pf, mq_ok, mj_re, mq_lkm, mq_lkn, mj_ldi, mj_ldl, mj_lda, mj_ii, mj_ll, mj_li, mj_i1, ms_1, ms_2, f1_n, f1_i, f1_r, f1_u, f1_l, f2_n, f2_i, f2_r, f2_u, f2_l, mj_tg, mj_c1, mj_c2, mj_ar, mj_aw, mq_cb, mq_oi, mj_rm, Value.category, -getElem?_pos, List.getElem?_cons_zero, decide_eq_true, decide_eq_false, nl_lt, nl_le, ln_lt, ln_le, nl_eq, ln_eq, nl_add, ln_add, nl_sub, ln_mul, nI_sub, nI_mul, nI_add, nI_lt_iff, nI_le_iff, nI_inj, nI_num, mq_ix, nI_1, nl_mul, nl_div, x0, v0, v1, narrow]
    | some b =>
      obtain ⟨rfl, hb, -⟩ := ix_some hib
      obtain ⟨κ, hκ, zk⟩ := z.kzz (List.getElem?_eq_getElem hb)
      have v1 := h_keyS (d := d + 11) z hκ
      simp (disch := (first | omega | decide)) [c188, s188_0, s188_1, s188_2, s188_5, s188_6, s188_7, s188_8, s188_11, s188_13, s188_14, s188_17, s188_19, s188_22, s188_23, s188_24, s188_25, s188_26, s188_29, s188_31, s188_32, s188_35, s188_37, s188_38, s188_41, s188_44, s188_46, s188_48, s188_51, s188_53, s188_54, s188_55, s188_56, s188_58, s188_61, s188_64, s188_65, s188_66, s188_69, s188_71, s188_72, s188_73, s188_75, s188_76, s188_79, s188_80, s188_83, s188_85, s188_88, s188_89, s188_92, s188_94, s188_97, s188_99, s188_100, s188_103, s188_106, s188_108, s188_110, s188_113, s188_114, s188_115, s188_117, s188_120, s188_121, s188_124, s188_127, s188_128, s188_130, mq_k0s, mq_k1s, mq_k2s, mq_k4s, mq_k5s, mq_k5n, mq_k5as, mq_k6s, mj_pu, mj_lo, mj_br, mj_hr, mj_hw, mq_gf, mq_len, mq_al, mq_pf, mq_ok, mj_re, mq_lkm, mq_lkn, mj_ldi, mj_ldl, mj_lda, mj_ii, mj_ll, mj_li, mj_i1, ms_1, ms_2, f1_n, f1_i, f1_r, f1_u, f1_l, f2_n, f2_i, f2_r, f2_u, f2_l, mj_tg, mj_c1, mj_c2, mj_ar, mj_aw, mq_cb, mq_oi, mj_rm, Value.category, -getElem?_pos, List.getElem?_cons_zero, decide_eq_true, decide_eq_false, nl_lt, nl_le, ln_lt, ln_le, nl_eq, ln_eq, nl_add, ln_add, nl_sub, ln_mul, nI_sub, nI_mul, nI_add, nI_lt_iff, nI_le_iff, nI_inj, nI_num, mq_ix, nI_1, nl_mul, nl_div, x0, v0, v1, narrow]
  | some a =>
    obtain ⟨rfl, ha, -⟩ := ix_some hia
    have v0 := h_hanS (d := d + 11) z ha
    cases hib : ix l H.2.2.1.length with
    | none =>
      have v1 := h_keyN (d := d + 11) z hib
      refine ⟨M, row, ?_, z, hf.rf⟩
      simp (disch := (first | omega | decide)) [c188, s188_0, s188_1, s188_2, s188_5, s188_6, s188_7, s188_8, s188_11, s188_13, s188_14, s188_17, s188_19, s188_22, s188_23, s188_24, s188_25, s188_26, s188_29, s188_31, s188_32, s188_35, s188_37, s188_38, s188_41, s188_44, s188_46, s188_48, s188_51, s188_53, s188_54, s188_55, s188_56, s188_58, s188_61, s188_64, s188_65, s188_66, s188_69, s188_71, s188_72, s188_73, s188_75, s188_76, s188_79, s188_80, s188_83, s188_85, s188_88, s188_89, s188_92, s188_94, s188_97, s188_99, s188_100, s188_103, s188_106, s188_108, s188_110, s188_113, s188_114, s188_115, s188_117, s188_120, s188_121, s188_124, s188_127, s188_128, s188_130, mq_k0s, mq_k1s, mq_k2s, mq_k4s, mq_k5s, mq_k5n, mq_k5as, mq_k6s, mj_pu, mj_lo, mj_br, mj_hr, mj_hw, mq_gf, mq_len, mq_al, mq_pf, mq_ok, mj_re, mq_lkm, mq_lkn, mj_ldi, mj_ldl, mj_lda, mj_ii, mj_ll, mj_li, mj_i1, ms_1, ms_2, f1_n, f1_i, f1_r, f1_u, f1_l, f2_n, f2_i, f2_r, f2_u, f2_l, mj_tg, mj_c1, mj_c2, mj_ar, mj_aw, mq_cb, mq_oi, mj_rm, Value.category, -getElem?_pos, List.getElem?_cons_zero, decide_eq_true, decide_eq_false, nl_lt, nl_le, ln_lt, ln_le, nl_eq, ln_eq, nl_add, ln_add, nl_sub, ln_mul, nI_sub, nI_mul, nI_add, nI_lt_iff, nI_le_iff, nI_inj, nI_num, mq_ix, nI_1, nl_mul, nl_div, x0, v0, v1, narrow]
    | some b =>
      obtain ⟨rfl, hb, -⟩ := ix_some hib
      have hah : a < H.2.2.2.1.length := by rw [z.hl]; exact ha
      have hh := List.getElem?_eq_getElem hah
      have hk := List.getElem?_eq_getElem hb
      obtain ⟨κ, hκ, zk⟩ := z.kzz hk
      have v1 := h_keyS (d := d + 11) z hκ
      have hkg := hg _ (List.getElem_mem hb)
      have sh : ∀ x, (H.2.2.2.1.set a x)[a]? = some x := fun x => List.getElem?_set_self hah
      have sk : ∀ x, (H.2.2.1.set b x)[b]? = some x := fun x => List.getElem?_set_self hb
      generalize H.2.2.2.1[a] = h at *
      generalize H.2.2.1[b] = k at *
      dsimp only
      rw [hh, hk]
      dsimp only
      obtain ⟨M1, M2, M3, row1, row3, p1, z1, p2, z2, p3, z3, g3, k3⟩ := h_ag (d := d) z hh hk hκ hkg hl
      have p1 := mj_V_mono (d' := d + 12) (by omega) p1
      have p2 := mj_V_mono (d' := d + 12) (by omega) p2
      have x1 := z1.ob
      obtain ⟨x2, y2⟩ := z2.fa
      have x3 := z3.ob
      obtain ⟨u3, t3⟩ := k3.fa
      obtain ⟨κ2, hκ2, zk2⟩ := z2.z.kzz hk
      rw [hκ] at hκ2
      cases hκ2
      obtain ⟨w2, t2⟩ := zk2.fa
      by_cases hs : (ag_k h k H.2.1).1 = 0; rotate_left
      · rw [if_pos hs]
        refine ⟨M3, row3, ?_, z3, g3⟩
        simp (disch := (first | omega | decide)) [c188, s188_0, s188_1, s188_2, s188_5, s188_6, s188_7, s188_8, s188_11, s188_13, s188_14, s188_17, s188_19, s188_22, s188_23, s188_24, s188_25, s188_26, s188_29, s188_31, s188_32, s188_35, s188_37, s188_38, s188_41, s188_44, s188_46, s188_48, s188_51, s188_53, s188_54, s188_55, s188_56, s188_58, s188_61, s188_64, s188_65, s188_66, s188_69, s188_71, s188_72, s188_73, s188_75, s188_76, s188_79, s188_80, s188_83, s188_85, s188_88, s188_89, s188_92, s188_94, s188_97, s188_99, s188_100, s188_103, s188_106, s188_108, s188_110, s188_113, s188_114, s188_115, s188_117, s188_120, s188_121, s188_124, s188_127, s188_128, s188_130, mq_k0s, mq_k1s, mq_k2s, mq_k4s, mq_k5s, mq_k5n, mq_k5as, mq_k6s, mj_pu, mj_lo, mj_br, mj_hr, mj_hw, mq_gf, mq_len, mq_al, mq_pf, mq_ok, mj_re, mq_lkm, mq_lkn, mj_ldi, mj_ldl, mj_lda, mj_ii, mj_ll, mj_li, mj_i1, ms_1, ms_2, f1_n, f1_i, f1_r, f1_u, f1_l, f2_n, f2_i, f2_r, f2_u, f2_l, mj_tg, mj_c1, mj_c2, mj_ar, mj_aw, mq_cb, mq_oi, mj_rm, Value.category, -getElem?_pos, List.getElem?_cons_zero, decide_eq_true, decide_eq_false, nl_lt, nl_le, ln_lt, ln_le, nl_eq, ln_eq, nl_add, ln_add, nl_sub, ln_mul, nI_sub, nI_mul, nI_add, nI_lt_iff, nI_le_iff, nI_inj, nI_num, mq_ix, nI_1, nl_mul, nl_div, x0, v0, v1, p1, x1, p2, x2, t2, p3, hs, narrow]
      rw [if_neg (by simp [hs])]
      rw [hs] at p3
      have h8 := ag_r8 h k H.2.1 hs
      have hgl := ag_len h k H.2.1
      have hTl := agT_len h k H.2.1
      obtain ⟨M4, row4, p4, z4, g4⟩ := h_awa (d := d + 6) z3 (sh _) k3.re (by omega) (by show (ag_k h k H.2.1).2.2.1.length < 1000; omega)
      change hz M4 ((H.1, (ag_T h k H.2.1, (H.2.2.1.set b (ag_k h k H.2.1).2.1, ((H.2.2.2.1.set a (own_h h H.2.1)).set a (ag_h h k H.2.1), H.2.2.2.2)))) : Ho) κs πs row4 at z4
      rw [List.set_set] at z4
      change hz M4 (H.hk a (ag_h h k H.2.1) b ((ag_k h k H.2.1).2.1, ag_T h k H.2.1)) κs πs row4 at z4
      have x4 := z4.ob
      obtain ⟨M5, row5, p5, z5, g5⟩ := h_ech (d := d + 7) z4 (sh _) (by show (ag_T h k H.2.1).1.length + 1 < 1000; omega)
      generalize hah' : ag_h h k H.2.1 = h' at *
      generalize haT : ag_T h k H.2.1 = T' at *
      change mj_V (d + 12) 187 [.ref 25, .ref (46 + 5 * a)] M4 = some (some (.int (eh_n h' T')), M5) at p5
      change hz M5 ((H.1, (eh_T h' T', (H.2.2.1.set b (ag_k h k H.2.1).2.1, (H.2.2.2.1.set a h', H.2.2.2.2)))) : Ho) κs πs row5 at z5
      have x5 := z5.ob
      have hm5 : (eh_T h' T').1.length ≤ T'.1.length + 2 := by
        have q1 := tm_mk_len T' (7 :: h'.1)
        have q2 := tm_mk_len (tm_mk T' (7 :: h'.1)) (enc_row h' (b4 (nI (tm_no T' (7 :: h'.1)))))
        show (tm_mk (tm_mk T' (7 :: h'.1)) (enc_row h' (b4 (nI (tm_no T' (7 :: h'.1)))))).1.length ≤ _
        omega
      obtain ⟨M6, p6, z6, g6⟩ := h_bpm (d := d + 8) z5 5 (own_n H.2.1) 4 164 (by decide) h_54
      obtain ⟨x6, y6⟩ := z6.fa
      have hpn : ∀ r : List Int32, (pnMsg 164 5 (own_n H.2.1) r).length = 12 + r.length := by intro r; simp [pnMsg, b4_len]; omega
      have hp0 := hpn []
      simp only [List.length_nil] at hp0
      generalize hPM : pnMsg 164 5 (own_n H.2.1) [] = PM at *
      generalize henc : eh_n h' T' = enc at *
      obtain ⟨M7, p7, z7, g7⟩ := hm_pushX (d := d + 11) z6 6 (PM ++ [6]) (by simp only [List.append_assoc, List.cons_append, List.nil_append, List.append_nil, h_53, h_54, h_55, h_52, h_51, h_41, h_217, h_29, h_22, h_16, h_721, h_720, h_0400, aa_1, aa_2, aa_3, aa_4, aa_5, aa_6, tx_0, tx_1, tx_2, tx_3, tx_5, tx_6, tx_7, tx_8, tx_9, tx_10, h_56, h_44, aa_7, aa_8, aa_9]) (by simp [b4_len] <;> omega)
      obtain ⟨x7, y7⟩ := z7.fa
      obtain ⟨M8, p8, z8, g8⟩ := hm_termX (d := d + 9) z7 enc ((PM ++ [6]) ++ (68 :: b4 enc)) rfl (by simp [b4_len] <;> omega)
      obtain ⟨x8, y8⟩ := z8.fa
      have e8 : PM ++ [6] ++ (68 :: b4 enc) = pnMsg 164 5 (own_n H.2.1) (mbr 6 enc) := by rw [← hPM]; simp [pnMsg, mbr]
      rw [e8] at z8
      obtain ⟨M9, row9, p9, z9, g9, k9⟩ := z8.rcv (d := d) (sk _) hκ (ag_kg hkg) (by show (eh_T h' T').1.length + 5 < 1000; omega)
      obtain ⟨κ3, hκ3, zk8⟩ := z8.z.kzz (sk _)
      rw [hκ] at hκ3
      cases hκ3
      obtain ⟨w8, t8⟩ := zk8.fa
      have esp : ul_2 h' (ag_k h k H.2.1).2.1 T' (own_n H.2.1) = ky_recv (pnMsg 164 5 (own_n H.2.1) (mbr 6 enc)) (ag_k h k H.2.1).2.1 (eh_T h' T') := by unfold ul_2; rw [henc]
      rw [esp]
      have hst := ul_ok (k := (ag_k h k H.2.1).2.1) (T := eh_T h' T') (own := own_n H.2.1) (x := enc)
      change mj_V (d + 12) 78 [.ref κ, .ref 28] M8 = some (some (.int (ky_recv (pnMsg 164 5 (own_n H.2.1) (mbr 6 enc)) (ag_k h k H.2.1).2.1 (eh_T h' T')).1), M9) at p9
      change hz M9 ((H.1, ((ky_recv (pnMsg 164 5 (own_n H.2.1) (mbr 6 enc)) (ag_k h k H.2.1).2.1 (eh_T h' T')).2.2, ((H.2.2.1.set b (ag_k h k H.2.1).2.1).set b (ky_recv (pnMsg 164 5 (own_n H.2.1) (mbr 6 enc)) (ag_k h k H.2.1).2.1 (eh_T h' T')).2.1, (H.2.2.2.1.set a h', H.2.2.2.2)))) : Ho) κs πs row9 at z9
      rw [List.set_set] at z9
      change kz (hA κs πs) κ M9 (ky_recv (pnMsg 164 5 (own_n H.2.1) (mbr 6 enc)) (ag_k h k H.2.1).2.1 (eh_T h' T')).2.1 (ky_recv (pnMsg 164 5 (own_n H.2.1) (mbr 6 enc)) (ag_k h k H.2.1).2.1 (eh_T h' T')).2.2 row9 at k9
      generalize hR : ky_recv (pnMsg 164 5 (own_n H.2.1) (mbr 6 enc)) (ag_k h k H.2.1).2.1 (eh_T h' T') = R at *
      have gg : hf M M9 := (((((g3.tr g4).tr g5).tr g6).tr g7).tr g8).tr g9
      by_cases hs2 : R.1 = 0
      · have hr8 : R.2.1.1.1.1.2.length = 8 := by rw [(hst hs2).1]; rfl
        have x9 := z9.ob
        obtain ⟨u9, t9⟩ := k9.fa
        obtain ⟨w, v9, hw⟩ := v_four (d := d + 10) k9.re (p := 4) (by omega)
        have hwe : w = w4a R.2.1.1.1.1.2 4 := by
          rw [hw (by omega), w4_lo _ (sl_by k9.re.2.2.2.2.1 _ _) (by rw [sl_len (by omega)]; omega)]; rfl
        subst hwe
        obtain ⟨M10, p10, z10, g10⟩ := h_takeT (d := d + 9) z9 (sh _) (w4a R.2.1.1.1.1.2 4)
        have eul : ul_h h' R = tok_h h' R.2.2 (w4a R.2.1.1.1.1.2 4) := by unfold ul_h; rw [if_pos hs2]
        rw [eul]
        refine ⟨M10, row9, ?_, ?_, gg.tr g10⟩
        · rw [hs2] at p9
          rw [show nI 4 = 4 from rfl] at v9
          simp (disch := (first | omega | decide)) [c188, s188_0, s188_1, s188_2, s188_5, s188_6, s188_7, s188_8, s188_11, s188_13, s188_14, s188_17, s188_19, s188_22, s188_23, s188_24, s188_25, s188_26, s188_29, s188_31, s188_32, s188_35, s188_37, s188_38, s188_41, s188_44, s188_46, s188_48, s188_51, s188_53, s188_54, s188_55, s188_56, s188_58, s188_61, s188_64, s188_65, s188_66, s188_69, s188_71, s188_72, s188_73, s188_75, s188_76, s188_79, s188_80, s188_83, s188_85, s188_88, s188_89, s188_92, s188_94, s188_97, s188_99, s188_100, s188_103, s188_106, s188_108, s188_110, s188_113, s188_114, s188_115, s188_117, s188_120, s188_121, s188_124, s188_127, s188_128, s188_130, mq_k0s, mq_k1s, mq_k2s, mq_k4s, mq_k5s, mq_k5n, mq_k5as, mq_k6s, mj_pu, mj_lo, mj_br, mj_hr, mj_hw, mq_gf, mq_len, mq_al, mq_pf, mq_ok, mj_re, mq_lkm, mq_lkn, mj_ldi, mj_ldl, mj_lda, mj_ii, mj_ll, mj_li, mj_i1, ms_1, ms_2, f1_n, f1_i, f1_r, f1_u, f1_l, f2_n, f2_i, f2_r, f2_u, f2_l, mj_tg, mj_c1, mj_c2, mj_ar, mj_aw, mq_cb, mq_oi, mj_rm, Value.category, -getElem?_pos, List.getElem?_cons_zero, decide_eq_true, decide_eq_false, nl_lt, nl_le, ln_lt, ln_le, nl_eq, ln_eq, nl_add, ln_add, nl_sub, ln_mul, nI_sub, nI_mul, nI_add, nI_lt_iff, nI_le_iff, nI_inj, nI_num, mq_ix, nI_1, nl_mul, nl_div, x0, v0, v1, p1, x1, p2, x2, t2, p3, x3, t3, p4, x4, p5, x5, p6, x6, y6, p7, x7, y7, p8, x8, y8, t8, p9, hs2, x9, t9, v9, p10, narrow]
        · change hz M10 ((H.1, (R.2.2, (H.2.2.1.set b R.2.1, ((H.2.2.2.1.set a h').set a (tok_h h' R.2.2 (w4a R.2.1.1.1.1.2 4)), H.2.2.2.2)))) : Ho) κs πs row9 at z10
          rw [List.set_set] at z10
          exact z10
      · have eul : ul_h h' R = h' := by unfold ul_h; rw [if_neg hs2]
        rw [eul]
        refine ⟨M9, row9, ?_, z9, gg⟩
        simp (disch := (first | omega | decide)) [c188, s188_0, s188_1, s188_2, s188_5, s188_6, s188_7, s188_8, s188_11, s188_13, s188_14, s188_17, s188_19, s188_22, s188_23, s188_24, s188_25, s188_26, s188_29, s188_31, s188_32, s188_35, s188_37, s188_38, s188_41, s188_44, s188_46, s188_48, s188_51, s188_53, s188_54, s188_55, s188_56, s188_58, s188_61, s188_64, s188_65, s188_66, s188_69, s188_71, s188_72, s188_73, s188_75, s188_76, s188_79, s188_80, s188_83, s188_85, s188_88, s188_89, s188_92, s188_94, s188_97, s188_99, s188_100, s188_103, s188_106, s188_108, s188_110, s188_113, s188_114, s188_115, s188_117, s188_120, s188_121, s188_124, s188_127, s188_128, s188_130, mq_k0s, mq_k1s, mq_k2s, mq_k4s, mq_k5s, mq_k5n, mq_k5as, mq_k6s, mj_pu, mj_lo, mj_br, mj_hr, mj_hw, mq_gf, mq_len, mq_al, mq_pf, mq_ok, mj_re, mq_lkm, mq_lkn, mj_ldi, mj_ldl, mj_lda, mj_ii, mj_ll, mj_li, mj_i1, ms_1, ms_2, f1_n, f1_i, f1_r, f1_u, f1_l, f2_n, f2_i, f2_r, f2_u, f2_l, mj_tg, mj_c1, mj_c2, mj_ar, mj_aw, mq_cb, mq_oi, mj_rm, Value.category, -getElem?_pos, List.getElem?_cons_zero, decide_eq_true, decide_eq_false, nl_lt, nl_le, ln_lt, ln_le, nl_eq, ln_eq, nl_add, ln_add, nl_sub, ln_mul, nI_sub, nI_mul, nI_add, nI_lt_iff, nI_le_iff, nI_inj, nI_num, mq_ix, nI_1, nl_mul, nl_div, x0, v0, v1, p1, x1, p2, x2, t2, p3, x3, t3, p4, x4, p5, x5, p6, x6, y6, p7, x7, y7, p8, x8, y8, t8, p9, hs2, narrow]
end HZ
end
/- 9g.h8 -/
section
set_option maxRecDepth 512
/-! Class: the house: helps of create and get. -/
/- 190 PasskeyHouse.areFit(III)Z -/
theorem s190_0 {d : Nat} {ls : mj_L} {st : List Value} {M : mj_H} : mj_Rn d mj_m190 0 ls st M = mq_k0 d mj_m190 1 ls M (mj_ldi (mj_lk ls 1) st) := mj_R0 (r := (.iload_n 1, 1, 0, 0, 0)) rfl rfl
theorem s190_1 {d : Nat} {ls : mj_L} {st : List Value} {M : mj_H} : mj_Rn d mj_m190 1 ls st M = mj_Rn d mj_m190 2 ls (.int (-1) :: st) M := mj_R0 (r := (.iconst (-1), 1, 0, 0, 0)) rfl rfl
theorem s190_2 {d : Nat} {ls : mj_L} {st : List Value} {M : mj_H} : mj_Rn d mj_m190 2 ls st M = mq_k2 d mj_m190 ls M (mj_br (.if_icmp .eq 11) 2 st) := mj_R2 (r := (.if_icmp .eq 11, 3, 0, 0, 0)) rfl rfl
theorem s190_5 {d : Nat} {ls : mj_L} {st : List Value} {M : mj_H} : mj_Rn d mj_m190 5 ls st M = mq_k0 d mj_m190 6 ls M (mj_lda (mj_lk ls 0) st) := mj_R0 (r := (.aload_n 0, 1, 0, 0, 0)) rfl rfl
theorem s190_6 {d : Nat} {ls : mj_L} {st : List Value} {M : mj_H} : mj_Rn d mj_m190 6 ls st M = mq_k0 d mj_m190 7 ls M (mj_ldi (mj_lk ls 1) st) := mj_R0 (r := (.iload_n 1, 1, 0, 0, 0)) rfl rfl
theorem s190_7 {d : Nat} {ls : mj_L} {st : List Value} {M : mj_H} : mj_Rn (d + 1) mj_m190 7 ls st M = mq_k5a (d + 1) mj_m190 10 ls M 191 (mq_cb 0 1 10 st M) := mj_R5e (r := (.invokevirtual 238, 3, 0, 191, 20668)) (z := mj_m191) rfl rfl (by decide) (by decide) rfl
theorem s190_10 {d : Nat} {ls : mj_L} {st : List Value} {M : mj_H} : mj_Rn d mj_m190 10 ls st M = mq_k2 d mj_m190 ls M (mj_br (.ifnull 7) 10 st) := mj_R2 (r := (.ifnull 7, 3, 0, 0, 0)) rfl rfl
theorem s190_13 {d : Nat} {ls : mj_L} {st : List Value} {M : mj_H} : mj_Rn d mj_m190 13 ls st M = mj_Rn d mj_m190 14 ls (.int 1 :: st) M := mj_R0 (r := (.iconst 1, 1, 0, 0, 0)) rfl rfl
theorem s190_14 {d : Nat} {ls : mj_L} {st : List Value} {M : mj_H} : mj_Rn d mj_m190 14 ls st M = mj_Rn d mj_m190 18 ls st M := mj_R2 (r := (.goto 4, 3, 0, 0, 0)) rfl rfl
theorem s190_17 {d : Nat} {ls : mj_L} {st : List Value} {M : mj_H} : mj_Rn d mj_m190 17 ls st M = mj_Rn d mj_m190 18 ls (.int 0 :: st) M := mj_R0 (r := (.iconst 0, 1, 0, 0, 0)) rfl rfl
theorem s190_18 {d : Nat} {ls : mj_L} {st : List Value} {M : mj_H} : mj_Rn d mj_m190 18 ls st M = mq_k1 d mj_m190 20 M (mj_lo 5 (.istore 4) ls st) := mj_R1 (r := (.istore 4, 2, 0, 0, 0)) rfl rfl
theorem s190_20 {d : Nat} {ls : mj_L} {st : List Value} {M : mj_H} : mj_Rn d mj_m190 20 ls st M = mq_k0 d mj_m190 22 ls M (mj_ldi (mj_lk ls 4) st) := mj_R0 (r := (.iload 4, 2, 0, 0, 0)) rfl rfl
theorem s190_22 {d : Nat} {ls : mj_L} {st : List Value} {M : mj_H} : mj_Rn d mj_m190 22 ls st M = mq_k2 d mj_m190 ls M (mj_br (.ifCond .eq 38) 22 st) := mj_R2 (r := (.ifCond .eq 38, 3, 0, 0, 0)) rfl rfl
theorem s190_25 {d : Nat} {ls : mj_L} {st : List Value} {M : mj_H} : mj_Rn d mj_m190 25 ls st M = mq_k0 d mj_m190 26 ls M (mj_ldi (mj_lk ls 2) st) := mj_R0 (r := (.iload_n 2, 1, 0, 0, 0)) rfl rfl
theorem s190_26 {d : Nat} {ls : mj_L} {st : List Value} {M : mj_H} : mj_Rn d mj_m190 26 ls st M = mj_Rn d mj_m190 27 ls (.int 1 :: st) M := mj_R0 (r := (.iconst 1, 1, 0, 0, 0)) rfl rfl
theorem s190_27 {d : Nat} {ls : mj_L} {st : List Value} {M : mj_H} : mj_Rn d mj_m190 27 ls st M = mj_Rn d mj_m190 29 ls (.int 8 :: st) M := mj_R0 (r := (.bipush 8, 2, 0, 0, 0)) rfl rfl
theorem s190_29 {d : Nat} {ls : mj_L} {st : List Value} {M : mj_H} : mj_Rn (d + 1) mj_m190 29 ls st M = mq_k5a (d + 1) mj_m190 32 ls M 8 (mq_cb 2 3 10 st M) := mj_R5e (r := (.invokestatic 61, 3, 2, 8, 4275)) (z := mj_m8) rfl rfl (by decide) (by decide) rfl
theorem s190_32 {d : Nat} {ls : mj_L} {st : List Value} {M : mj_H} : mj_Rn d mj_m190 32 ls st M = mq_k2 d mj_m190 ls M (mj_br (.ifCond .eq 28) 32 st) := mj_R2 (r := (.ifCond .eq 28, 3, 0, 0, 0)) rfl rfl
theorem s190_35 {d : Nat} {ls : mj_L} {st : List Value} {M : mj_H} : mj_Rn d mj_m190 35 ls st M = mq_k0 d mj_m190 36 ls M (mj_ldi (mj_lk ls 3) st) := mj_R0 (r := (.iload_n 3, 1, 0, 0, 0)) rfl rfl
theorem s190_36 {d : Nat} {ls : mj_L} {st : List Value} {M : mj_H} : mj_Rn d mj_m190 36 ls st M = mj_Rn d mj_m190 37 ls (.int 1 :: st) M := mj_R0 (r := (.iconst 1, 1, 0, 0, 0)) rfl rfl
theorem s190_37 {d : Nat} {ls : mj_L} {st : List Value} {M : mj_H} : mj_Rn d mj_m190 37 ls st M = mj_Rn d mj_m190 39 ls (.int 24 :: st) M := mj_R0 (r := (.bipush 24, 2, 0, 0, 0)) rfl rfl
theorem s190_39 {d : Nat} {ls : mj_L} {st : List Value} {M : mj_H} : mj_Rn (d + 1) mj_m190 39 ls st M = mq_k5a (d + 1) mj_m190 42 ls M 8 (mq_cb 2 3 10 st M) := mj_R5e (r := (.invokestatic 61, 3, 2, 8, 4275)) (z := mj_m8) rfl rfl (by decide) (by decide) rfl
theorem s190_42 {d : Nat} {ls : mj_L} {st : List Value} {M : mj_H} : mj_Rn d mj_m190 42 ls st M = mq_k2 d mj_m190 ls M (mj_br (.ifCond .eq 18) 42 st) := mj_R2 (r := (.ifCond .eq 18, 3, 0, 0, 0)) rfl rfl
theorem s190_45 {d : Nat} {ls : mj_L} {st : List Value} {M : mj_H} : mj_Rn d mj_m190 45 ls st M = mq_k0 d mj_m190 46 ls M (mj_ldi (mj_lk ls 3) st) := mj_R0 (r := (.iload_n 3, 1, 0, 0, 0)) rfl rfl
theorem s190_46 {d : Nat} {ls : mj_L} {st : List Value} {M : mj_H} : mj_Rn d mj_m190 46 ls st M = mq_k0 d mj_m190 47 ls M (mj_lda (mj_lk ls 0) st) := mj_R0 (r := (.aload_n 0, 1, 0, 0, 0)) rfl rfl
theorem s190_47 {d : Nat} {ls : mj_L} {st : List Value} {M : mj_H} : mj_Rn d mj_m190 47 ls st M = mq_k0 d mj_m190 50 ls M (mq_gf 10 0 st M) := (mj_R3 (r := (.getfield 14, 3, 10, 0, 8486)) rfl rfl).trans (congrArg (mq_k0 d mj_m190 50 ls M) mq_gf_eq)
theorem s190_50 {d : Nat} {ls : mj_L} {st : List Value} {M : mj_H} : mj_Rn (d + 1) mj_m190 50 ls st M = mq_k5a (d + 1) mj_m190 53 ls M 9 (mq_cb 0 0 1 st M) := mj_R5e (r := (.invokevirtual 65, 3, 0, 9, 4278)) (z := mj_m9) rfl rfl (by decide) (by decide) rfl
theorem s190_53 {d : Nat} {ls : mj_L} {st : List Value} {M : mj_H} : mj_Rn d mj_m190 53 ls st M = mq_k2 d mj_m190 ls M (mj_br (.if_icmp .gt 7) 53 st) := mj_R2 (r := (.if_icmp .gt 7, 3, 0, 0, 0)) rfl rfl
theorem s190_56 {d : Nat} {ls : mj_L} {st : List Value} {M : mj_H} : mj_Rn d mj_m190 56 ls st M = mj_Rn d mj_m190 57 ls (.int 1 :: st) M := mj_R0 (r := (.iconst 1, 1, 0, 0, 0)) rfl rfl
theorem s190_57 {d : Nat} {ls : mj_L} {st : List Value} {M : mj_H} : mj_Rn d mj_m190 57 ls st M = mj_Rn d mj_m190 61 ls st M := mj_R2 (r := (.goto 4, 3, 0, 0, 0)) rfl rfl
theorem s190_60 {d : Nat} {ls : mj_L} {st : List Value} {M : mj_H} : mj_Rn d mj_m190 60 ls st M = mj_Rn d mj_m190 61 ls (.int 0 :: st) M := mj_R0 (r := (.iconst 0, 1, 0, 0, 0)) rfl rfl
theorem s190_61 {d : Nat} {ls : mj_L} {st : List Value} {M : mj_H} : mj_Rn d mj_m190 61 ls st M = mq_k6 M (mj_re (some .boolean) (.ireturn) st) := mj_R6 (r := (.ireturn, 1, 0, 0, 0)) rfl rfl
/- 192 PasskeyHouse.isRight(LPasskeyHouse$Bytes;IILPasskeyHouse$Bytes;II)Z -/
theorem s192_0 {d : Nat} {ls : mj_L} {st : List Value} {M : mj_H} : mj_Rn d mj_m192 0 ls st M = mq_k0 d mj_m192 1 ls M (mj_ldi (mj_lk ls 2) st) := mj_R0 (r := (.iload_n 2, 1, 0, 0, 0)) rfl rfl
theorem s192_1 {d : Nat} {ls : mj_L} {st : List Value} {M : mj_H} : mj_Rn d mj_m192 1 ls st M = mq_k0 d mj_m192 3 ls M (mj_ldi (mj_lk ls 5) st) := mj_R0 (r := (.iload 5, 2, 0, 0, 0)) rfl rfl
theorem s192_3 {d : Nat} {ls : mj_L} {st : List Value} {M : mj_H} : mj_Rn d mj_m192 3 ls st M = mq_k0 d mj_m192 4 ls M (mj_pu .isub ls st) := mj_R0 (r := (.isub, 1, 0, 0, 0)) rfl rfl
theorem s192_4 {d : Nat} {ls : mj_L} {st : List Value} {M : mj_H} : mj_Rn d mj_m192 4 ls st M = mq_k1 d mj_m192 6 M (mj_lo 7 (.istore 6) ls st) := mj_R1 (r := (.istore 6, 2, 0, 0, 0)) rfl rfl
theorem s192_6 {d : Nat} {ls : mj_L} {st : List Value} {M : mj_H} : mj_Rn d mj_m192 6 ls st M = mq_k0 d mj_m192 8 ls M (mj_ldi (mj_lk ls 6) st) := mj_R0 (r := (.iload 6, 2, 0, 0, 0)) rfl rfl
theorem s192_8 {d : Nat} {ls : mj_L} {st : List Value} {M : mj_H} : mj_Rn d mj_m192 8 ls st M = mq_k2 d mj_m192 ls M (mj_br (.ifCond .lt 23) 8 st) := mj_R2 (r := (.ifCond .lt 23, 3, 0, 0, 0)) rfl rfl
theorem s192_11 {d : Nat} {ls : mj_L} {st : List Value} {M : mj_H} : mj_Rn d mj_m192 11 ls st M = mq_k0 d mj_m192 13 ls M (mj_ldi (mj_lk ls 6) st) := mj_R0 (r := (.iload 6, 2, 0, 0, 0)) rfl rfl
theorem s192_13 {d : Nat} {ls : mj_L} {st : List Value} {M : mj_H} : mj_Rn d mj_m192 13 ls st M = mq_k2 d mj_m192 ls M (mj_br (.ifCond .le 20) 13 st) := mj_R2 (r := (.ifCond .le 20, 3, 0, 0, 0)) rfl rfl
theorem s192_16 {d : Nat} {ls : mj_L} {st : List Value} {M : mj_H} : mj_Rn d mj_m192 16 ls st M = mq_k0 d mj_m192 17 ls M (mj_lda (mj_lk ls 0) st) := mj_R0 (r := (.aload_n 0, 1, 0, 0, 0)) rfl rfl
theorem s192_17 {d : Nat} {ls : mj_L} {st : List Value} {M : mj_H} : mj_Rn d mj_m192 17 ls st M = mq_k0 d mj_m192 18 ls M (mj_ldi (mj_lk ls 1) st) := mj_R0 (r := (.iload_n 1, 1, 0, 0, 0)) rfl rfl
theorem s192_18 {d : Nat} {ls : mj_L} {st : List Value} {M : mj_H} : mj_Rn d mj_m192 18 ls st M = mq_k0 d mj_m192 20 ls M (mj_ldi (mj_lk ls 6) st) := mj_R0 (r := (.iload 6, 2, 0, 0, 0)) rfl rfl
theorem s192_20 {d : Nat} {ls : mj_L} {st : List Value} {M : mj_H} : mj_Rn d mj_m192 20 ls st M = mq_k0 d mj_m192 21 ls M (mj_pu .iadd ls st) := mj_R0 (r := (.iadd, 1, 0, 0, 0)) rfl rfl
theorem s192_21 {d : Nat} {ls : mj_L} {st : List Value} {M : mj_H} : mj_Rn d mj_m192 21 ls st M = mj_Rn d mj_m192 22 ls (.int 1 :: st) M := mj_R0 (r := (.iconst 1, 1, 0, 0, 0)) rfl rfl
theorem s192_22 {d : Nat} {ls : mj_L} {st : List Value} {M : mj_H} : mj_Rn d mj_m192 22 ls st M = mq_k0 d mj_m192 23 ls M (mj_pu .isub ls st) := mj_R0 (r := (.isub, 1, 0, 0, 0)) rfl rfl
theorem s192_23 {d : Nat} {ls : mj_L} {st : List Value} {M : mj_H} : mj_Rn (d + 1) mj_m192 23 ls st M = mq_k5a (d + 1) mj_m192 26 ls M 14 (mq_cb 0 1 1 st M) := mj_R5e (r := (.invokevirtual 76, 3, 0, 14, 4298)) (z := mj_m14) rfl rfl (by decide) (by decide) rfl
theorem s192_26 {d : Nat} {ls : mj_L} {st : List Value} {M : mj_H} : mj_Rn d mj_m192 26 ls st M = mj_Rn d mj_m192 28 ls (.int 46 :: st) M := mj_R0 (r := (.bipush 46, 2, 0, 0, 0)) rfl rfl
theorem s192_28 {d : Nat} {ls : mj_L} {st : List Value} {M : mj_H} : mj_Rn d mj_m192 28 ls st M = mq_k2 d mj_m192 ls M (mj_br (.if_icmp .eq 5) 28 st) := mj_R2 (r := (.if_icmp .eq 5, 3, 0, 0, 0)) rfl rfl
theorem s192_31 {d : Nat} {ls : mj_L} {st : List Value} {M : mj_H} : mj_Rn d mj_m192 31 ls st M = mj_Rn d mj_m192 32 ls (.int 0 :: st) M := mj_R0 (r := (.iconst 0, 1, 0, 0, 0)) rfl rfl
theorem s192_32 {d : Nat} {ls : mj_L} {st : List Value} {M : mj_H} : mj_Rn d mj_m192 32 ls st M = mq_k6 M (mj_re (some .boolean) (.ireturn) st) := mj_R6 (r := (.ireturn, 1, 0, 0, 0)) rfl rfl
theorem s192_33 {d : Nat} {ls : mj_L} {st : List Value} {M : mj_H} : mj_Rn d mj_m192 33 ls st M = mq_k0 d mj_m192 34 ls M (mj_lda (mj_lk ls 0) st) := mj_R0 (r := (.aload_n 0, 1, 0, 0, 0)) rfl rfl
theorem s192_34 {d : Nat} {ls : mj_L} {st : List Value} {M : mj_H} : mj_Rn d mj_m192 34 ls st M = mq_k0 d mj_m192 35 ls M (mj_ldi (mj_lk ls 1) st) := mj_R0 (r := (.iload_n 1, 1, 0, 0, 0)) rfl rfl
theorem s192_35 {d : Nat} {ls : mj_L} {st : List Value} {M : mj_H} : mj_Rn d mj_m192 35 ls st M = mq_k0 d mj_m192 37 ls M (mj_ldi (mj_lk ls 6) st) := mj_R0 (r := (.iload 6, 2, 0, 0, 0)) rfl rfl
theorem s192_37 {d : Nat} {ls : mj_L} {st : List Value} {M : mj_H} : mj_Rn d mj_m192 37 ls st M = mq_k0 d mj_m192 38 ls M (mj_pu .iadd ls st) := mj_R0 (r := (.iadd, 1, 0, 0, 0)) rfl rfl
theorem s192_38 {d : Nat} {ls : mj_L} {st : List Value} {M : mj_H} : mj_Rn d mj_m192 38 ls st M = mq_k0 d mj_m192 39 ls M (mj_lda (mj_lk ls 3) st) := mj_R0 (r := (.aload_n 3, 1, 0, 0, 0)) rfl rfl
theorem s192_39 {d : Nat} {ls : mj_L} {st : List Value} {M : mj_H} : mj_Rn d mj_m192 39 ls st M = mq_k0 d mj_m192 41 ls M (mj_ldi (mj_lk ls 4) st) := mj_R0 (r := (.iload 4, 2, 0, 0, 0)) rfl rfl
theorem s192_41 {d : Nat} {ls : mj_L} {st : List Value} {M : mj_H} : mj_Rn d mj_m192 41 ls st M = mq_k0 d mj_m192 43 ls M (mj_ldi (mj_lk ls 5) st) := mj_R0 (r := (.iload 5, 2, 0, 0, 0)) rfl rfl
theorem s192_43 {d : Nat} {ls : mj_L} {st : List Value} {M : mj_H} : mj_Rn (d + 1) mj_m192 43 ls st M = mq_k5a (d + 1) mj_m192 46 ls M 193 (mq_cb 0 4 1 st M) := mj_R5e (r := (.invokevirtual 340, 3, 0, 193, 20675)) (z := mj_m193) rfl rfl (by decide) (by decide) rfl
theorem s192_46 {d : Nat} {ls : mj_L} {st : List Value} {M : mj_H} : mj_Rn d mj_m192 46 ls st M = mq_k6 M (mj_re (some .boolean) (.ireturn) st) := mj_R6 (r := (.ireturn, 1, 0, 0, 0)) rfl rfl
/- 194 PasskeyHouse.challengeOf(ILPasskeyHouse$Party;)I -/
theorem s194_0 {d : Nat} {ls : mj_L} {st : List Value} {M : mj_H} : mj_Rn d mj_m194 0 ls st M = mq_k0 d mj_m194 1 ls M (mj_ldi (mj_lk ls 1) st) := mj_R0 (r := (.iload_n 1, 1, 0, 0, 0)) rfl rfl
theorem s194_1 {d : Nat} {ls : mj_L} {st : List Value} {M : mj_H} : mj_Rn d mj_m194 1 ls st M = mq_k2 d mj_m194 ls M (mj_br (.ifCond .ne 7) 1 st) := mj_R2 (r := (.ifCond .ne 7, 3, 0, 0, 0)) rfl rfl
theorem s194_4 {d : Nat} {ls : mj_L} {st : List Value} {M : mj_H} : mj_Rn d mj_m194 4 ls st M = mq_k0 d mj_m194 5 ls M (mj_lda (mj_lk ls 2) st) := mj_R0 (r := (.aload_n 2, 1, 0, 0, 0)) rfl rfl
theorem s194_5 {d : Nat} {ls : mj_L} {st : List Value} {M : mj_H} : mj_Rn d mj_m194 5 ls st M = mq_k2 d mj_m194 ls M (mj_br (.ifnonnull 7) 5 st) := mj_R2 (r := (.ifnonnull 7, 3, 0, 0, 0)) rfl rfl
theorem s194_8 {d : Nat} {ls : mj_L} {st : List Value} {M : mj_H} : mj_Rn d mj_m194 8 ls st M = mq_k0 d mj_m194 9 ls M (mj_ldi (mj_lk ls 1) st) := mj_R0 (r := (.iload_n 1, 1, 0, 0, 0)) rfl rfl
theorem s194_9 {d : Nat} {ls : mj_L} {st : List Value} {M : mj_H} : mj_Rn d mj_m194 9 ls st M = mj_Rn d mj_m194 16 ls st M := mj_R2 (r := (.goto 7, 3, 0, 0, 0)) rfl rfl
theorem s194_12 {d : Nat} {ls : mj_L} {st : List Value} {M : mj_H} : mj_Rn d mj_m194 12 ls st M = mq_k0 d mj_m194 13 ls M (mj_lda (mj_lk ls 2) st) := mj_R0 (r := (.aload_n 2, 1, 0, 0, 0)) rfl rfl
theorem s194_13 {d : Nat} {ls : mj_L} {st : List Value} {M : mj_H} : mj_Rn (d + 1) mj_m194 13 ls st M = mq_k5a (d + 1) mj_m194 16 ls M 195 (mq_cb 0 0 7 st M) := mj_R5e (r := (.invokevirtual 359, 3, 0, 195, 20683)) (z := mj_m195) rfl rfl (by decide) (by decide) rfl
theorem s194_16 {d : Nat} {ls : mj_L} {st : List Value} {M : mj_H} : mj_Rn d mj_m194 16 ls st M = mq_k6 M (mj_re (some .int) (.ireturn) st) := mj_R6 (r := (.ireturn, 1, 0, 0, 0)) rfl rfl
/- 195 PasskeyHouse$Party.latestChallenge()I -/
theorem s195_0 {d : Nat} {ls : mj_L} {st : List Value} {M : mj_H} : mj_Rn d mj_m195 0 ls st M = mq_k0 d mj_m195 1 ls M (mj_lda (mj_lk ls 0) st) := mj_R0 (r := (.aload_n 0, 1, 0, 0, 0)) rfl rfl
theorem s195_1 {d : Nat} {ls : mj_L} {st : List Value} {M : mj_H} : mj_Rn d mj_m195 1 ls st M = mq_k0 d mj_m195 4 ls M (mq_gf 7 4 st M) := (mj_R3 (r := (.getfield 49, 3, 7, 4, 49370)) rfl rfl).trans (congrArg (mq_k0 d mj_m195 4 ls M) mq_gf_eq)
theorem s195_4 {d : Nat} {ls : mj_L} {st : List Value} {M : mj_H} : mj_Rn d mj_m195 4 ls st M = mj_Rn d mj_m195 5 ls (.int 1 :: st) M := mj_R0 (r := (.iconst 1, 1, 0, 0, 0)) rfl rfl
theorem s195_5 {d : Nat} {ls : mj_L} {st : List Value} {M : mj_H} : mj_Rn d mj_m195 5 ls st M = mq_k0 d mj_m195 6 ls M (mj_pu .isub ls st) := mj_R0 (r := (.isub, 1, 0, 0, 0)) rfl rfl
theorem s195_6 {d : Nat} {ls : mj_L} {st : List Value} {M : mj_H} : mj_Rn d mj_m195 6 ls st M = mq_k1 d mj_m195 7 M (mj_lo 2 (.istore 1) ls st) := (mj_R1 (r := (.istore_n 1, 1, 0, 0, 0)) rfl rfl).trans (congrArg (mq_k1 d mj_m195 7 M) (mq_sti (k := 1)))
theorem s195_7 {d : Nat} {ls : mj_L} {st : List Value} {M : mj_H} : mj_Rn d mj_m195 7 ls st M = mq_k0 d mj_m195 8 ls M (mj_ldi (mj_lk ls 1) st) := mj_R0 (r := (.iload_n 1, 1, 0, 0, 0)) rfl rfl
theorem s195_8 {d : Nat} {ls : mj_L} {st : List Value} {M : mj_H} : mj_Rn d mj_m195 8 ls st M = mq_k2 d mj_m195 ls M (mj_br (.ifCond .lt 21) 8 st) := mj_R2 (r := (.ifCond .lt 21, 3, 0, 0, 0)) rfl rfl
theorem s195_11 {d : Nat} {ls : mj_L} {st : List Value} {M : mj_H} : mj_Rn d mj_m195 11 ls st M = mq_k0 d mj_m195 12 ls M (mj_ldi (mj_lk ls 1) st) := mj_R0 (r := (.iload_n 1, 1, 0, 0, 0)) rfl rfl
theorem s195_12 {d : Nat} {ls : mj_L} {st : List Value} {M : mj_H} : mj_Rn d mj_m195 12 ls st M = mq_k0 d mj_m195 13 ls M (mj_lda (mj_lk ls 0) st) := mj_R0 (r := (.aload_n 0, 1, 0, 0, 0)) rfl rfl
theorem s195_13 {d : Nat} {ls : mj_L} {st : List Value} {M : mj_H} : mj_Rn d mj_m195 13 ls st M = mq_k0 d mj_m195 16 ls M (mq_gf 7 2 st M) := (mj_R3 (r := (.getfield 25, 3, 7, 2, 49366)) rfl rfl).trans (congrArg (mq_k0 d mj_m195 16 ls M) mq_gf_eq)
theorem s195_16 {d : Nat} {ls : mj_L} {st : List Value} {M : mj_H} : mj_Rn d mj_m195 16 ls st M = mq_k0 d mj_m195 17 ls M (mq_len st M) := (mj_R3 (r := (.arraylength, 1, 0, 0, 0)) rfl rfl).trans (congrArg (mq_k0 d mj_m195 17 ls M) mq_len_eq)
theorem s195_17 {d : Nat} {ls : mj_L} {st : List Value} {M : mj_H} : mj_Rn d mj_m195 17 ls st M = mq_k2 d mj_m195 ls M (mj_br (.if_icmp .ge 12) 17 st) := mj_R2 (r := (.if_icmp .ge 12, 3, 0, 0, 0)) rfl rfl
theorem s195_20 {d : Nat} {ls : mj_L} {st : List Value} {M : mj_H} : mj_Rn d mj_m195 20 ls st M = mq_k0 d mj_m195 21 ls M (mj_lda (mj_lk ls 0) st) := mj_R0 (r := (.aload_n 0, 1, 0, 0, 0)) rfl rfl
theorem s195_21 {d : Nat} {ls : mj_L} {st : List Value} {M : mj_H} : mj_Rn d mj_m195 21 ls st M = mq_k0 d mj_m195 24 ls M (mq_gf 7 2 st M) := (mj_R3 (r := (.getfield 25, 3, 7, 2, 49366)) rfl rfl).trans (congrArg (mq_k0 d mj_m195 24 ls M) mq_gf_eq)
theorem s195_24 {d : Nat} {ls : mj_L} {st : List Value} {M : mj_H} : mj_Rn d mj_m195 24 ls st M = mq_k0 d mj_m195 25 ls M (mj_ldi (mj_lk ls 1) st) := mj_R0 (r := (.iload_n 1, 1, 0, 0, 0)) rfl rfl
theorem s195_25 {d : Nat} {ls : mj_L} {st : List Value} {M : mj_H} : mj_Rn d mj_m195 25 ls st M = mq_k0 d mj_m195 26 ls M (mq_al [1004, 1005, 1006, 1007, 1008, 1009] st M) := (mj_R3 (r := (.aaload, 1, 0, 0, 0)) rfl rfl).trans (congrArg (mq_k0 d mj_m195 26 ls M) mq_ala_eq)
theorem s195_26 {d : Nat} {ls : mj_L} {st : List Value} {M : mj_H} : mj_Rn d mj_m195 26 ls st M = mq_k2 d mj_m195 ls M (mj_br (.ifnonnull 7) 26 st) := mj_R2 (r := (.ifnonnull 7, 3, 0, 0, 0)) rfl rfl
theorem s195_29 {d : Nat} {ls : mj_L} {st : List Value} {M : mj_H} : mj_Rn d mj_m195 29 ls st M = mj_Rn d mj_m195 30 ls (.int 0 :: st) M := mj_R0 (r := (.iconst 0, 1, 0, 0, 0)) rfl rfl
theorem s195_30 {d : Nat} {ls : mj_L} {st : List Value} {M : mj_H} : mj_Rn d mj_m195 30 ls st M = mj_Rn d mj_m195 42 ls st M := mj_R2 (r := (.goto 12, 3, 0, 0, 0)) rfl rfl
theorem s195_33 {d : Nat} {ls : mj_L} {st : List Value} {M : mj_H} : mj_Rn d mj_m195 33 ls st M = mq_k0 d mj_m195 34 ls M (mj_lda (mj_lk ls 0) st) := mj_R0 (r := (.aload_n 0, 1, 0, 0, 0)) rfl rfl
theorem s195_34 {d : Nat} {ls : mj_L} {st : List Value} {M : mj_H} : mj_Rn d mj_m195 34 ls st M = mq_k0 d mj_m195 37 ls M (mq_gf 7 2 st M) := (mj_R3 (r := (.getfield 25, 3, 7, 2, 49366)) rfl rfl).trans (congrArg (mq_k0 d mj_m195 37 ls M) mq_gf_eq)
theorem s195_37 {d : Nat} {ls : mj_L} {st : List Value} {M : mj_H} : mj_Rn d mj_m195 37 ls st M = mq_k0 d mj_m195 38 ls M (mj_ldi (mj_lk ls 1) st) := mj_R0 (r := (.iload_n 1, 1, 0, 0, 0)) rfl rfl
theorem s195_38 {d : Nat} {ls : mj_L} {st : List Value} {M : mj_H} : mj_Rn d mj_m195 38 ls st M = mq_k0 d mj_m195 39 ls M (mq_al [1004, 1005, 1006, 1007, 1008, 1009] st M) := (mj_R3 (r := (.aaload, 1, 0, 0, 0)) rfl rfl).trans (congrArg (mq_k0 d mj_m195 39 ls M) mq_ala_eq)
theorem s195_39 {d : Nat} {ls : mj_L} {st : List Value} {M : mj_H} : mj_Rn d mj_m195 39 ls st M = mq_k0 d mj_m195 42 ls M (mq_gf 6 0 st M) := (mj_R3 (r := (.getfield 58, 3, 6, 0, 49251)) rfl rfl).trans (congrArg (mq_k0 d mj_m195 42 ls M) mq_gf_eq)
theorem s195_42 {d : Nat} {ls : mj_L} {st : List Value} {M : mj_H} : mj_Rn d mj_m195 42 ls st M = mq_k6 M (mj_re (some .int) (.ireturn) st) := mj_R6 (r := (.ireturn, 1, 0, 0, 0)) rfl rfl
/- 196 PasskeyHouse.clientHash(IILPasskeyHouse$Bytes;)I -/
theorem s196_0 {d : Nat} {ls : mj_L} {st : List Value} {M : mj_H} : mj_Rn d mj_m196 0 ls st M = mq_k0 d mj_m196 1 ls M (mj_lda (mj_lk ls 0) st) := mj_R0 (r := (.aload_n 0, 1, 0, 0, 0)) rfl rfl
theorem s196_1 {d : Nat} {ls : mj_L} {st : List Value} {M : mj_H} : mj_Rn d mj_m196 1 ls st M = mq_k0 d mj_m196 4 ls M (mq_gf 10 2 st M) := (mj_R3 (r := (.getfield 24, 3, 10, 2, 8490)) rfl rfl).trans (congrArg (mq_k0 d mj_m196 4 ls M) mq_gf_eq)
theorem s196_4 {d : Nat} {ls : mj_L} {st : List Value} {M : mj_H} : mj_Rn d mj_m196 4 ls st M = mj_Rn d mj_m196 6 ls (.int 7 :: st) M := mj_R0 (r := (.bipush 7, 2, 0, 0, 0)) rfl rfl
theorem s196_6 {d : Nat} {ls : mj_L} {st : List Value} {M : mj_H} : mj_Rn (d + 1) mj_m196 6 ls st M = mq_k5a (d + 1) mj_m196 9 ls M 28 (mq_cb 0 1 9 st M) := mj_R5e (r := (.invokevirtual 173, 3, 0, 28, 20595)) (z := mj_m28) rfl rfl (by decide) (by decide) rfl
theorem s196_9 {d : Nat} {ls : mj_L} {st : List Value} {M : mj_H} : mj_Rn d mj_m196 9 ls st M = mq_k0 d mj_m196 10 ls M (mj_lda (mj_lk ls 0) st) := mj_R0 (r := (.aload_n 0, 1, 0, 0, 0)) rfl rfl
theorem s196_10 {d : Nat} {ls : mj_L} {st : List Value} {M : mj_H} : mj_Rn d mj_m196 10 ls st M = mq_k0 d mj_m196 13 ls M (mq_gf 10 2 st M) := (mj_R3 (r := (.getfield 24, 3, 10, 2, 8490)) rfl rfl).trans (congrArg (mq_k0 d mj_m196 13 ls M) mq_gf_eq)
theorem s196_13 {d : Nat} {ls : mj_L} {st : List Value} {M : mj_H} : mj_Rn d mj_m196 13 ls st M = mq_k0 d mj_m196 14 ls M (mj_ldi (mj_lk ls 1) st) := mj_R0 (r := (.iload_n 1, 1, 0, 0, 0)) rfl rfl
theorem s196_14 {d : Nat} {ls : mj_L} {st : List Value} {M : mj_H} : mj_Rn (d + 1) mj_m196 14 ls st M = mq_k5a (d + 1) mj_m196 17 ls M 29 (mq_cb 0 1 9 st M) := mj_R5e (r := (.invokevirtual 175, 3, 0, 29, 20596)) (z := mj_m29) rfl rfl (by decide) (by decide) rfl
theorem s196_17 {d : Nat} {ls : mj_L} {st : List Value} {M : mj_H} : mj_Rn d mj_m196 17 ls st M = mq_k0 d mj_m196 18 ls M (mj_lda (mj_lk ls 0) st) := mj_R0 (r := (.aload_n 0, 1, 0, 0, 0)) rfl rfl
theorem s196_18 {d : Nat} {ls : mj_L} {st : List Value} {M : mj_H} : mj_Rn d mj_m196 18 ls st M = mq_k0 d mj_m196 21 ls M (mq_gf 10 2 st M) := (mj_R3 (r := (.getfield 24, 3, 10, 2, 8490)) rfl rfl).trans (congrArg (mq_k0 d mj_m196 21 ls M) mq_gf_eq)
theorem s196_21 {d : Nat} {ls : mj_L} {st : List Value} {M : mj_H} : mj_Rn d mj_m196 21 ls st M = mq_k0 d mj_m196 22 ls M (mj_ldi (mj_lk ls 2) st) := mj_R0 (r := (.iload_n 2, 1, 0, 0, 0)) rfl rfl
theorem s196_22 {d : Nat} {ls : mj_L} {st : List Value} {M : mj_H} : mj_Rn (d + 1) mj_m196 22 ls st M = mq_k5a (d + 1) mj_m196 25 ls M 122 (mq_cb 0 1 9 st M) := mj_R5e (r := (.invokevirtual 356, 3, 0, 122, 20642)) (z := mj_m122) rfl rfl (by decide) (by decide) rfl
theorem s196_25 {d : Nat} {ls : mj_L} {st : List Value} {M : mj_H} : mj_Rn d mj_m196 25 ls st M = mq_k0 d mj_m196 26 ls M (mj_lda (mj_lk ls 0) st) := mj_R0 (r := (.aload_n 0, 1, 0, 0, 0)) rfl rfl
theorem s196_26 {d : Nat} {ls : mj_L} {st : List Value} {M : mj_H} : mj_Rn d mj_m196 26 ls st M = mq_k0 d mj_m196 29 ls M (mq_gf 10 2 st M) := (mj_R3 (r := (.getfield 24, 3, 10, 2, 8490)) rfl rfl).trans (congrArg (mq_k0 d mj_m196 29 ls M) mq_gf_eq)
theorem s196_29 {d : Nat} {ls : mj_L} {st : List Value} {M : mj_H} : mj_Rn d mj_m196 29 ls st M = mq_k0 d mj_m196 30 ls M (mj_lda (mj_lk ls 3) st) := mj_R0 (r := (.aload_n 3, 1, 0, 0, 0)) rfl rfl
theorem s196_30 {d : Nat} {ls : mj_L} {st : List Value} {M : mj_H} : mj_Rn d mj_m196 30 ls st M = mj_Rn d mj_m196 31 ls (.int 0 :: st) M := mj_R0 (r := (.iconst 0, 1, 0, 0, 0)) rfl rfl
theorem s196_31 {d : Nat} {ls : mj_L} {st : List Value} {M : mj_H} : mj_Rn d mj_m196 31 ls st M = mq_k0 d mj_m196 32 ls M (mj_lda (mj_lk ls 3) st) := mj_R0 (r := (.aload_n 3, 1, 0, 0, 0)) rfl rfl
theorem s196_32 {d : Nat} {ls : mj_L} {st : List Value} {M : mj_H} : mj_Rn (d + 1) mj_m196 32 ls st M = mq_k5a (d + 1) mj_m196 35 ls M 9 (mq_cb 0 0 1 st M) := mj_R5e (r := (.invokevirtual 65, 3, 0, 9, 4278)) (z := mj_m9) rfl rfl (by decide) (by decide) rfl
theorem s196_35 {d : Nat} {ls : mj_L} {st : List Value} {M : mj_H} : mj_Rn (d + 1) mj_m196 35 ls st M = mq_k5a (d + 1) mj_m196 38 ls M 113 (mq_cb 0 3 9 st M) := mj_R5e (r := (.invokevirtual 178, 3, 0, 113, 20597)) (z := mj_m113) rfl rfl (by decide) (by decide) rfl
theorem s196_38 {d : Nat} {ls : mj_L} {st : List Value} {M : mj_H} : mj_Rn d mj_m196 38 ls st M = mq_k0 d mj_m196 39 ls M (mj_lda (mj_lk ls 0) st) := mj_R0 (r := (.aload_n 0, 1, 0, 0, 0)) rfl rfl
theorem s196_39 {d : Nat} {ls : mj_L} {st : List Value} {M : mj_H} : mj_Rn d mj_m196 39 ls st M = mq_k0 d mj_m196 42 ls M (mq_gf 10 2 st M) := (mj_R3 (r := (.getfield 24, 3, 10, 2, 8490)) rfl rfl).trans (congrArg (mq_k0 d mj_m196 42 ls M) mq_gf_eq)
theorem s196_42 {d : Nat} {ls : mj_L} {st : List Value} {M : mj_H} : mj_Rn (d + 1) mj_m196 42 ls st M = mq_k5a (d + 1) mj_m196 45 ls M 30 (mq_cb 0 0 9 st M) := mj_R5e (r := (.invokevirtual 181, 3, 0, 30, 20582)) (z := mj_m30) rfl rfl (by decide) (by decide) rfl
theorem s196_45 {d : Nat} {ls : mj_L} {st : List Value} {M : mj_H} : mj_Rn d mj_m196 45 ls st M = mq_k6 M (mj_re (some .int) (.ireturn) st) := mj_R6 (r := (.ireturn, 1, 0, 0, 0)) rfl rfl
/- 197 PasskeyHouse.markOf(II)I -/
theorem s197_0 {d : Nat} {ls : mj_L} {st : List Value} {M : mj_H} : mj_Rn d mj_m197 0 ls st M = mq_k0 d mj_m197 1 ls M (mj_lda (mj_lk ls 0) st) := mj_R0 (r := (.aload_n 0, 1, 0, 0, 0)) rfl rfl
theorem s197_1 {d : Nat} {ls : mj_L} {st : List Value} {M : mj_H} : mj_Rn d mj_m197 1 ls st M = mq_k0 d mj_m197 4 ls M (mq_gf 10 2 st M) := (mj_R3 (r := (.getfield 24, 3, 10, 2, 8490)) rfl rfl).trans (congrArg (mq_k0 d mj_m197 4 ls M) mq_gf_eq)
theorem s197_4 {d : Nat} {ls : mj_L} {st : List Value} {M : mj_H} : mj_Rn d mj_m197 4 ls st M = mj_Rn d mj_m197 6 ls (.int 10 :: st) M := mj_R0 (r := (.bipush 10, 2, 0, 0, 0)) rfl rfl
theorem s197_6 {d : Nat} {ls : mj_L} {st : List Value} {M : mj_H} : mj_Rn (d + 1) mj_m197 6 ls st M = mq_k5a (d + 1) mj_m197 9 ls M 28 (mq_cb 0 1 9 st M) := mj_R5e (r := (.invokevirtual 173, 3, 0, 28, 20595)) (z := mj_m28) rfl rfl (by decide) (by decide) rfl
theorem s197_9 {d : Nat} {ls : mj_L} {st : List Value} {M : mj_H} : mj_Rn d mj_m197 9 ls st M = mq_k0 d mj_m197 10 ls M (mj_lda (mj_lk ls 0) st) := mj_R0 (r := (.aload_n 0, 1, 0, 0, 0)) rfl rfl
theorem s197_10 {d : Nat} {ls : mj_L} {st : List Value} {M : mj_H} : mj_Rn d mj_m197 10 ls st M = mq_k0 d mj_m197 13 ls M (mq_gf 10 2 st M) := (mj_R3 (r := (.getfield 24, 3, 10, 2, 8490)) rfl rfl).trans (congrArg (mq_k0 d mj_m197 13 ls M) mq_gf_eq)
theorem s197_13 {d : Nat} {ls : mj_L} {st : List Value} {M : mj_H} : mj_Rn d mj_m197 13 ls st M = mq_k0 d mj_m197 14 ls M (mj_ldi (mj_lk ls 1) st) := mj_R0 (r := (.iload_n 1, 1, 0, 0, 0)) rfl rfl
theorem s197_14 {d : Nat} {ls : mj_L} {st : List Value} {M : mj_H} : mj_Rn (d + 1) mj_m197 14 ls st M = mq_k5a (d + 1) mj_m197 17 ls M 29 (mq_cb 0 1 9 st M) := mj_R5e (r := (.invokevirtual 175, 3, 0, 29, 20596)) (z := mj_m29) rfl rfl (by decide) (by decide) rfl
theorem s197_17 {d : Nat} {ls : mj_L} {st : List Value} {M : mj_H} : mj_Rn d mj_m197 17 ls st M = mq_k0 d mj_m197 18 ls M (mj_lda (mj_lk ls 0) st) := mj_R0 (r := (.aload_n 0, 1, 0, 0, 0)) rfl rfl
theorem s197_18 {d : Nat} {ls : mj_L} {st : List Value} {M : mj_H} : mj_Rn d mj_m197 18 ls st M = mq_k0 d mj_m197 21 ls M (mq_gf 10 2 st M) := (mj_R3 (r := (.getfield 24, 3, 10, 2, 8490)) rfl rfl).trans (congrArg (mq_k0 d mj_m197 21 ls M) mq_gf_eq)
theorem s197_21 {d : Nat} {ls : mj_L} {st : List Value} {M : mj_H} : mj_Rn d mj_m197 21 ls st M = mq_k0 d mj_m197 22 ls M (mj_ldi (mj_lk ls 2) st) := mj_R0 (r := (.iload_n 2, 1, 0, 0, 0)) rfl rfl
theorem s197_22 {d : Nat} {ls : mj_L} {st : List Value} {M : mj_H} : mj_Rn (d + 1) mj_m197 22 ls st M = mq_k5a (d + 1) mj_m197 25 ls M 122 (mq_cb 0 1 9 st M) := mj_R5e (r := (.invokevirtual 356, 3, 0, 122, 20642)) (z := mj_m122) rfl rfl (by decide) (by decide) rfl
theorem s197_25 {d : Nat} {ls : mj_L} {st : List Value} {M : mj_H} : mj_Rn d mj_m197 25 ls st M = mq_k0 d mj_m197 26 ls M (mj_lda (mj_lk ls 0) st) := mj_R0 (r := (.aload_n 0, 1, 0, 0, 0)) rfl rfl
theorem s197_26 {d : Nat} {ls : mj_L} {st : List Value} {M : mj_H} : mj_Rn d mj_m197 26 ls st M = mq_k0 d mj_m197 29 ls M (mq_gf 10 2 st M) := (mj_R3 (r := (.getfield 24, 3, 10, 2, 8490)) rfl rfl).trans (congrArg (mq_k0 d mj_m197 29 ls M) mq_gf_eq)
theorem s197_29 {d : Nat} {ls : mj_L} {st : List Value} {M : mj_H} : mj_Rn (d + 1) mj_m197 29 ls st M = mq_k5a (d + 1) mj_m197 32 ls M 30 (mq_cb 0 0 9 st M) := mj_R5e (r := (.invokevirtual 181, 3, 0, 30, 20582)) (z := mj_m30) rfl rfl (by decide) (by decide) rfl
theorem s197_32 {d : Nat} {ls : mj_L} {st : List Value} {M : mj_H} : mj_Rn d mj_m197 32 ls st M = mq_k6 M (mj_re (some .int) (.ireturn) st) := mj_R6 (r := (.ireturn, 1, 0, 0, 0)) rfl rfl
/- 198 PasskeyHouse.lowest(JI)J -/
theorem s198_0 {d : Nat} {ls : mj_L} {st : List Value} {M : mj_H} : mj_Rn d mj_m198 0 ls st M = mq_k0 d mj_m198 1 ls M (mj_ldi (mj_lk ls 2) st) := mj_R0 (r := (.iload_n 2, 1, 0, 0, 0)) rfl rfl
theorem s198_1 {d : Nat} {ls : mj_L} {st : List Value} {M : mj_H} : mj_Rn d mj_m198 1 ls st M = mj_Rn d mj_m198 3 ls (.int 8 :: st) M := mj_R0 (r := (.bipush 8, 2, 0, 0, 0)) rfl rfl
theorem s198_3 {d : Nat} {ls : mj_L} {st : List Value} {M : mj_H} : mj_Rn d mj_m198 3 ls st M = mq_k2 d mj_m198 ls M (mj_br (.if_icmp .lt 7) 3 st) := mj_R2 (r := (.if_icmp .lt 7, 3, 0, 0, 0)) rfl rfl
theorem s198_6 {d : Nat} {ls : mj_L} {st : List Value} {M : mj_H} : mj_Rn d mj_m198 6 ls st M = mq_k0 d mj_m198 7 ls M (mj_ldl (mj_lk ls 0) st) := mj_R0 (r := (.lload_n 0, 1, 0, 0, 0)) rfl rfl
theorem s198_7 {d : Nat} {ls : mj_L} {st : List Value} {M : mj_H} : mj_Rn d mj_m198 7 ls st M = mj_Rn d mj_m198 20 ls st M := mj_R2 (r := (.goto 13, 3, 0, 0, 0)) rfl rfl
theorem s198_10 {d : Nat} {ls : mj_L} {st : List Value} {M : mj_H} : mj_Rn d mj_m198 10 ls st M = mq_k0 d mj_m198 11 ls M (mj_ldl (mj_lk ls 0) st) := mj_R0 (r := (.lload_n 0, 1, 0, 0, 0)) rfl rfl
theorem s198_11 {d : Nat} {ls : mj_L} {st : List Value} {M : mj_H} : mj_Rn d mj_m198 11 ls st M = mj_Rn d mj_m198 12 ls (.long 1 :: st) M := mj_R0 (r := (.lconst 1, 1, 0, 0, 0)) rfl rfl
theorem s198_12 {d : Nat} {ls : mj_L} {st : List Value} {M : mj_H} : mj_Rn d mj_m198 12 ls st M = mj_Rn d mj_m198 14 ls (.int 8 :: st) M := mj_R0 (r := (.bipush 8, 2, 0, 0, 0)) rfl rfl
theorem s198_14 {d : Nat} {ls : mj_L} {st : List Value} {M : mj_H} : mj_Rn d mj_m198 14 ls st M = mq_k0 d mj_m198 15 ls M (mj_ldi (mj_lk ls 2) st) := mj_R0 (r := (.iload_n 2, 1, 0, 0, 0)) rfl rfl
theorem s198_15 {d : Nat} {ls : mj_L} {st : List Value} {M : mj_H} : mj_Rn d mj_m198 15 ls st M = mq_k0 d mj_m198 16 ls M (mj_pu .imul ls st) := mj_R0 (r := (.imul, 1, 0, 0, 0)) rfl rfl
theorem s198_16 {d : Nat} {ls : mj_L} {st : List Value} {M : mj_H} : mj_Rn d mj_m198 16 ls st M = mq_k0 d mj_m198 17 ls M (mj_pu .lshl ls st) := mj_R0 (r := (.lshl, 1, 0, 0, 0)) rfl rfl
theorem s198_17 {d : Nat} {ls : mj_L} {st : List Value} {M : mj_H} : mj_Rn d mj_m198 17 ls st M = mj_Rn d mj_m198 18 ls (.long 1 :: st) M := mj_R0 (r := (.lconst 1, 1, 0, 0, 0)) rfl rfl
theorem s198_18 {d : Nat} {ls : mj_L} {st : List Value} {M : mj_H} : mj_Rn d mj_m198 18 ls st M = mq_k0 d mj_m198 19 ls M (mj_pu .lsub ls st) := mj_R0 (r := (.lsub, 1, 0, 0, 0)) rfl rfl
theorem s198_19 {d : Nat} {ls : mj_L} {st : List Value} {M : mj_H} : mj_Rn d mj_m198 19 ls st M = mq_k0 d mj_m198 20 ls M (mj_pu .land ls st) := mj_R0 (r := (.land, 1, 0, 0, 0)) rfl rfl
theorem s198_20 {d : Nat} {ls : mj_L} {st : List Value} {M : mj_H} : mj_Rn d mj_m198 20 ls st M = mq_k6 M (mj_re (some .long) (.lreturn) st) := mj_R6 (r := (.lreturn, 1, 0, 0, 0)) rfl rfl
/- 199 PasskeyHouse$Party.accountsOf(JI)I -/
theorem s199_0 {d : Nat} {ls : mj_L} {st : List Value} {M : mj_H} : mj_Rn d mj_m199 0 ls st M = mj_Rn d mj_m199 1 ls (.int 0 :: st) M := mj_R0 (r := (.iconst 0, 1, 0, 0, 0)) rfl rfl
theorem s199_1 {d : Nat} {ls : mj_L} {st : List Value} {M : mj_H} : mj_Rn d mj_m199 1 ls st M = mq_k1 d mj_m199 3 M (mj_lo 7 (.istore 4) ls st) := mj_R1 (r := (.istore 4, 2, 0, 0, 0)) rfl rfl
theorem s199_3 {d : Nat} {ls : mj_L} {st : List Value} {M : mj_H} : mj_Rn d mj_m199 3 ls st M = mj_Rn d mj_m199 4 ls (.int 0 :: st) M := mj_R0 (r := (.iconst 0, 1, 0, 0, 0)) rfl rfl
theorem s199_4 {d : Nat} {ls : mj_L} {st : List Value} {M : mj_H} : mj_Rn d mj_m199 4 ls st M = mq_k1 d mj_m199 6 M (mj_lo 7 (.istore 5) ls st) := mj_R1 (r := (.istore 5, 2, 0, 0, 0)) rfl rfl
theorem s199_6 {d : Nat} {ls : mj_L} {st : List Value} {M : mj_H} : mj_Rn d mj_m199 6 ls st M = mq_k0 d mj_m199 8 ls M (mj_ldi (mj_lk ls 5) st) := mj_R0 (r := (.iload 5, 2, 0, 0, 0)) rfl rfl
theorem s199_8 {d : Nat} {ls : mj_L} {st : List Value} {M : mj_H} : mj_Rn d mj_m199 8 ls st M = mq_k0 d mj_m199 9 ls M (mj_lda (mj_lk ls 0) st) := mj_R0 (r := (.aload_n 0, 1, 0, 0, 0)) rfl rfl
theorem s199_9 {d : Nat} {ls : mj_L} {st : List Value} {M : mj_H} : mj_Rn d mj_m199 9 ls st M = mq_k0 d mj_m199 12 ls M (mq_gf 7 5 st M) := (mj_R3 (r := (.getfield 37, 3, 7, 5, 49374)) rfl rfl).trans (congrArg (mq_k0 d mj_m199 12 ls M) mq_gf_eq)
theorem s199_12 {d : Nat} {ls : mj_L} {st : List Value} {M : mj_H} : mj_Rn d mj_m199 12 ls st M = mq_k2 d mj_m199 ls M (mj_br (.if_icmp .ge 42) 12 st) := mj_R2 (r := (.if_icmp .ge 42, 3, 0, 0, 0)) rfl rfl
theorem s199_15 {d : Nat} {ls : mj_L} {st : List Value} {M : mj_H} : mj_Rn d mj_m199 15 ls st M = mq_k0 d mj_m199 16 ls M (mj_lda (mj_lk ls 0) st) := mj_R0 (r := (.aload_n 0, 1, 0, 0, 0)) rfl rfl
theorem s199_16 {d : Nat} {ls : mj_L} {st : List Value} {M : mj_H} : mj_Rn d mj_m199 16 ls st M = mq_k0 d mj_m199 18 ls M (mj_ldi (mj_lk ls 5) st) := mj_R0 (r := (.iload 5, 2, 0, 0, 0)) rfl rfl
theorem s199_18 {d : Nat} {ls : mj_L} {st : List Value} {M : mj_H} : mj_Rn (d + 1) mj_m199 18 ls st M = mq_k5a (d + 1) mj_m199 21 ls M 200 (mq_cb 0 1 7 st M) := mj_R5e (r := (.invokevirtual 41, 3, 0, 200, 20702)) (z := mj_m200) rfl rfl (by decide) (by decide) rfl
theorem s199_21 {d : Nat} {ls : mj_L} {st : List Value} {M : mj_H} : mj_Rn d mj_m199 21 ls st M = mq_k1 d mj_m199 23 M (mj_lo 7 (.astore 6) ls st) := mj_R1 (r := (.astore 6, 2, 0, 0, 0)) rfl rfl
theorem s199_23 {d : Nat} {ls : mj_L} {st : List Value} {M : mj_H} : mj_Rn d mj_m199 23 ls st M = mq_k0 d mj_m199 25 ls M (mj_ldi (mj_lk ls 4) st) := mj_R0 (r := (.iload 4, 2, 0, 0, 0)) rfl rfl
theorem s199_25 {d : Nat} {ls : mj_L} {st : List Value} {M : mj_H} : mj_Rn d mj_m199 25 ls st M = mq_k0 d mj_m199 27 ls M (mj_lda (mj_lk ls 6) st) := mj_R0 (r := (.aload 6, 2, 0, 0, 0)) rfl rfl
theorem s199_27 {d : Nat} {ls : mj_L} {st : List Value} {M : mj_H} : mj_Rn d mj_m199 27 ls st M = mq_k2 d mj_m199 ls M (mj_br (.ifnull 17) 27 st) := mj_R2 (r := (.ifnull 17, 3, 0, 0, 0)) rfl rfl
theorem s199_30 {d : Nat} {ls : mj_L} {st : List Value} {M : mj_H} : mj_Rn d mj_m199 30 ls st M = mq_k0 d mj_m199 32 ls M (mj_lda (mj_lk ls 6) st) := mj_R0 (r := (.aload 6, 2, 0, 0, 0)) rfl rfl
theorem s199_32 {d : Nat} {ls : mj_L} {st : List Value} {M : mj_H} : mj_Rn d mj_m199 32 ls st M = mq_k0 d mj_m199 33 ls M (mj_ldl (mj_lk ls 1) st) := mj_R0 (r := (.lload_n 1, 1, 0, 0, 0)) rfl rfl
theorem s199_33 {d : Nat} {ls : mj_L} {st : List Value} {M : mj_H} : mj_Rn d mj_m199 33 ls st M = mq_k0 d mj_m199 34 ls M (mj_ldi (mj_lk ls 3) st) := mj_R0 (r := (.iload_n 3, 1, 0, 0, 0)) rfl rfl
theorem s199_34 {d : Nat} {ls : mj_L} {st : List Value} {M : mj_H} : mj_Rn (d + 1) mj_m199 34 ls st M = mq_k5a (d + 1) mj_m199 37 ls M 201 (mq_cb 0 2 0 st M) := mj_R5e (r := (.invokevirtual 45, 3, 0, 201, 20706)) (z := mj_m201) rfl rfl (by decide) (by decide) rfl
theorem s199_37 {d : Nat} {ls : mj_L} {st : List Value} {M : mj_H} : mj_Rn d mj_m199 37 ls st M = mq_k2 d mj_m199 ls M (mj_br (.ifCond .eq 7) 37 st) := mj_R2 (r := (.ifCond .eq 7, 3, 0, 0, 0)) rfl rfl
theorem s199_40 {d : Nat} {ls : mj_L} {st : List Value} {M : mj_H} : mj_Rn d mj_m199 40 ls st M = mj_Rn d mj_m199 41 ls (.int 1 :: st) M := mj_R0 (r := (.iconst 1, 1, 0, 0, 0)) rfl rfl
theorem s199_41 {d : Nat} {ls : mj_L} {st : List Value} {M : mj_H} : mj_Rn d mj_m199 41 ls st M = mj_Rn d mj_m199 45 ls st M := mj_R2 (r := (.goto 4, 3, 0, 0, 0)) rfl rfl
theorem s199_44 {d : Nat} {ls : mj_L} {st : List Value} {M : mj_H} : mj_Rn d mj_m199 44 ls st M = mj_Rn d mj_m199 45 ls (.int 0 :: st) M := mj_R0 (r := (.iconst 0, 1, 0, 0, 0)) rfl rfl
theorem s199_45 {d : Nat} {ls : mj_L} {st : List Value} {M : mj_H} : mj_Rn d mj_m199 45 ls st M = mq_k0 d mj_m199 46 ls M (mj_pu .iadd ls st) := mj_R0 (r := (.iadd, 1, 0, 0, 0)) rfl rfl
theorem s199_46 {d : Nat} {ls : mj_L} {st : List Value} {M : mj_H} : mj_Rn d mj_m199 46 ls st M = mq_k1 d mj_m199 48 M (mj_lo 7 (.istore 4) ls st) := mj_R1 (r := (.istore 4, 2, 0, 0, 0)) rfl rfl
theorem s199_48 {d : Nat} {ls : mj_L} {st : List Value} {M : mj_H} : mj_Rn d mj_m199 48 ls st M = mq_k1 d mj_m199 51 M (mj_lo 7 (.iinc 5 1) ls st) := mj_R1 (r := (.iinc 5 1, 3, 0, 0, 0)) rfl rfl
theorem s199_51 {d : Nat} {ls : mj_L} {st : List Value} {M : mj_H} : mj_Rn d mj_m199 51 ls st M = mj_Rn d mj_m199 6 ls st M := mj_R2 (r := (.goto (-45), 3, 0, 0, 0)) rfl rfl
theorem s199_54 {d : Nat} {ls : mj_L} {st : List Value} {M : mj_H} : mj_Rn d mj_m199 54 ls st M = mq_k0 d mj_m199 56 ls M (mj_ldi (mj_lk ls 4) st) := mj_R0 (r := (.iload 4, 2, 0, 0, 0)) rfl rfl
theorem s199_56 {d : Nat} {ls : mj_L} {st : List Value} {M : mj_H} : mj_Rn d mj_m199 56 ls st M = mq_k6 M (mj_re (some .int) (.ireturn) st) := mj_R6 (r := (.ireturn, 1, 0, 0, 0)) rfl rfl
/- 200 PasskeyHouse$Party.accountAt(I)LPasskeyHouse$Account; -/
theorem s200_0 {d : Nat} {ls : mj_L} {st : List Value} {M : mj_H} : mj_Rn d mj_m200 0 ls st M = mq_k0 d mj_m200 1 ls M (mj_ldi (mj_lk ls 1) st) := mj_R0 (r := (.iload_n 1, 1, 0, 0, 0)) rfl rfl
theorem s200_1 {d : Nat} {ls : mj_L} {st : List Value} {M : mj_H} : mj_Rn d mj_m200 1 ls st M = mq_k2 d mj_m200 ls M (mj_br (.ifCond .lt 20) 1 st) := mj_R2 (r := (.ifCond .lt 20, 3, 0, 0, 0)) rfl rfl
theorem s200_4 {d : Nat} {ls : mj_L} {st : List Value} {M : mj_H} : mj_Rn d mj_m200 4 ls st M = mq_k0 d mj_m200 5 ls M (mj_ldi (mj_lk ls 1) st) := mj_R0 (r := (.iload_n 1, 1, 0, 0, 0)) rfl rfl
theorem s200_5 {d : Nat} {ls : mj_L} {st : List Value} {M : mj_H} : mj_Rn d mj_m200 5 ls st M = mq_k0 d mj_m200 6 ls M (mj_lda (mj_lk ls 0) st) := mj_R0 (r := (.aload_n 0, 1, 0, 0, 0)) rfl rfl
theorem s200_6 {d : Nat} {ls : mj_L} {st : List Value} {M : mj_H} : mj_Rn d mj_m200 6 ls st M = mq_k0 d mj_m200 9 ls M (mq_gf 7 5 st M) := (mj_R3 (r := (.getfield 37, 3, 7, 5, 49374)) rfl rfl).trans (congrArg (mq_k0 d mj_m200 9 ls M) mq_gf_eq)
theorem s200_9 {d : Nat} {ls : mj_L} {st : List Value} {M : mj_H} : mj_Rn d mj_m200 9 ls st M = mq_k2 d mj_m200 ls M (mj_br (.if_icmp .ge 12) 9 st) := mj_R2 (r := (.if_icmp .ge 12, 3, 0, 0, 0)) rfl rfl
theorem s200_12 {d : Nat} {ls : mj_L} {st : List Value} {M : mj_H} : mj_Rn d mj_m200 12 ls st M = mq_k0 d mj_m200 13 ls M (mj_ldi (mj_lk ls 1) st) := mj_R0 (r := (.iload_n 1, 1, 0, 0, 0)) rfl rfl
theorem s200_13 {d : Nat} {ls : mj_L} {st : List Value} {M : mj_H} : mj_Rn d mj_m200 13 ls st M = mq_k0 d mj_m200 14 ls M (mj_lda (mj_lk ls 0) st) := mj_R0 (r := (.aload_n 0, 1, 0, 0, 0)) rfl rfl
theorem s200_14 {d : Nat} {ls : mj_L} {st : List Value} {M : mj_H} : mj_Rn d mj_m200 14 ls st M = mq_k0 d mj_m200 17 ls M (mq_gf 7 3 st M) := (mj_R3 (r := (.getfield 32, 3, 7, 3, 49368)) rfl rfl).trans (congrArg (mq_k0 d mj_m200 17 ls M) mq_gf_eq)
theorem s200_17 {d : Nat} {ls : mj_L} {st : List Value} {M : mj_H} : mj_Rn d mj_m200 17 ls st M = mq_k0 d mj_m200 18 ls M (mq_len st M) := (mj_R3 (r := (.arraylength, 1, 0, 0, 0)) rfl rfl).trans (congrArg (mq_k0 d mj_m200 18 ls M) mq_len_eq)
theorem s200_18 {d : Nat} {ls : mj_L} {st : List Value} {M : mj_H} : mj_Rn d mj_m200 18 ls st M = mq_k2 d mj_m200 ls M (mj_br (.if_icmp .lt 7) 18 st) := mj_R2 (r := (.if_icmp .lt 7, 3, 0, 0, 0)) rfl rfl
theorem s200_21 {d : Nat} {ls : mj_L} {st : List Value} {M : mj_H} : mj_Rn d mj_m200 21 ls st M = mj_Rn d mj_m200 22 ls (.null :: st) M := mj_R0 (r := (.aconst_null, 1, 0, 0, 0)) rfl rfl
theorem s200_22 {d : Nat} {ls : mj_L} {st : List Value} {M : mj_H} : mj_Rn d mj_m200 22 ls st M = mj_Rn d mj_m200 31 ls st M := mj_R2 (r := (.goto 9, 3, 0, 0, 0)) rfl rfl
theorem s200_25 {d : Nat} {ls : mj_L} {st : List Value} {M : mj_H} : mj_Rn d mj_m200 25 ls st M = mq_k0 d mj_m200 26 ls M (mj_lda (mj_lk ls 0) st) := mj_R0 (r := (.aload_n 0, 1, 0, 0, 0)) rfl rfl
theorem s200_26 {d : Nat} {ls : mj_L} {st : List Value} {M : mj_H} : mj_Rn d mj_m200 26 ls st M = mq_k0 d mj_m200 29 ls M (mq_gf 7 3 st M) := (mj_R3 (r := (.getfield 32, 3, 7, 3, 49368)) rfl rfl).trans (congrArg (mq_k0 d mj_m200 29 ls M) mq_gf_eq)
theorem s200_29 {d : Nat} {ls : mj_L} {st : List Value} {M : mj_H} : mj_Rn d mj_m200 29 ls st M = mq_k0 d mj_m200 30 ls M (mj_ldi (mj_lk ls 1) st) := mj_R0 (r := (.iload_n 1, 1, 0, 0, 0)) rfl rfl
theorem s200_30 {d : Nat} {ls : mj_L} {st : List Value} {M : mj_H} : mj_Rn d mj_m200 30 ls st M = mq_k0 d mj_m200 31 ls M (mq_al [1004, 1005, 1006, 1007, 1008, 1009] st M) := (mj_R3 (r := (.aaload, 1, 0, 0, 0)) rfl rfl).trans (congrArg (mq_k0 d mj_m200 31 ls M) mq_ala_eq)
theorem s200_31 {d : Nat} {ls : mj_L} {st : List Value} {M : mj_H} : mj_Rn d mj_m200 31 ls st M = mq_k6 M (mj_re (some (.object "PasskeyHouse$Account")) (.areturn) st) := mj_R6 (r := (.areturn, 1, 0, 0, 0)) rfl rfl
/- 201 PasskeyHouse$Account.isOf(JI)Z -/
theorem s201_0 {d : Nat} {ls : mj_L} {st : List Value} {M : mj_H} : mj_Rn d mj_m201 0 ls st M = mq_k0 d mj_m201 1 ls M (mj_lda (mj_lk ls 0) st) := mj_R0 (r := (.aload_n 0, 1, 0, 0, 0)) rfl rfl
theorem s201_1 {d : Nat} {ls : mj_L} {st : List Value} {M : mj_H} : mj_Rn d mj_m201 1 ls st M = mq_k0 d mj_m201 4 ls M (mq_gf 0 4 st M) := (mj_R3 (r := (.getfield 9, 3, 0, 4, 49324)) rfl rfl).trans (congrArg (mq_k0 d mj_m201 4 ls M) mq_gf_eq)
theorem s201_4 {d : Nat} {ls : mj_L} {st : List Value} {M : mj_H} : mj_Rn d mj_m201 4 ls st M = mq_k0 d mj_m201 5 ls M (mj_ldl (mj_lk ls 1) st) := mj_R0 (r := (.lload_n 1, 1, 0, 0, 0)) rfl rfl
theorem s201_5 {d : Nat} {ls : mj_L} {st : List Value} {M : mj_H} : mj_Rn d mj_m201 5 ls st M = mq_k0 d mj_m201 6 ls M (mj_pu .lcmp ls st) := mj_R0 (r := (.lcmp, 1, 0, 0, 0)) rfl rfl
theorem s201_6 {d : Nat} {ls : mj_L} {st : List Value} {M : mj_H} : mj_Rn d mj_m201 6 ls st M = mq_k2 d mj_m201 ls M (mj_br (.ifCond .ne 15) 6 st) := mj_R2 (r := (.ifCond .ne 15, 3, 0, 0, 0)) rfl rfl
theorem s201_9 {d : Nat} {ls : mj_L} {st : List Value} {M : mj_H} : mj_Rn d mj_m201 9 ls st M = mq_k0 d mj_m201 10 ls M (mj_lda (mj_lk ls 0) st) := mj_R0 (r := (.aload_n 0, 1, 0, 0, 0)) rfl rfl
theorem s201_10 {d : Nat} {ls : mj_L} {st : List Value} {M : mj_H} : mj_Rn d mj_m201 10 ls st M = mq_k0 d mj_m201 13 ls M (mq_gf 0 5 st M) := (mj_R3 (r := (.getfield 15, 3, 0, 5, 49328)) rfl rfl).trans (congrArg (mq_k0 d mj_m201 13 ls M) mq_gf_eq)
theorem s201_13 {d : Nat} {ls : mj_L} {st : List Value} {M : mj_H} : mj_Rn d mj_m201 13 ls st M = mq_k0 d mj_m201 14 ls M (mj_ldi (mj_lk ls 3) st) := mj_R0 (r := (.iload_n 3, 1, 0, 0, 0)) rfl rfl
theorem s201_14 {d : Nat} {ls : mj_L} {st : List Value} {M : mj_H} : mj_Rn d mj_m201 14 ls st M = mq_k2 d mj_m201 ls M (mj_br (.if_icmp .ne 7) 14 st) := mj_R2 (r := (.if_icmp .ne 7, 3, 0, 0, 0)) rfl rfl
theorem s201_17 {d : Nat} {ls : mj_L} {st : List Value} {M : mj_H} : mj_Rn d mj_m201 17 ls st M = mj_Rn d mj_m201 18 ls (.int 1 :: st) M := mj_R0 (r := (.iconst 1, 1, 0, 0, 0)) rfl rfl
theorem s201_18 {d : Nat} {ls : mj_L} {st : List Value} {M : mj_H} : mj_Rn d mj_m201 18 ls st M = mj_Rn d mj_m201 22 ls st M := mj_R2 (r := (.goto 4, 3, 0, 0, 0)) rfl rfl
theorem s201_21 {d : Nat} {ls : mj_L} {st : List Value} {M : mj_H} : mj_Rn d mj_m201 21 ls st M = mj_Rn d mj_m201 22 ls (.int 0 :: st) M := mj_R0 (r := (.iconst 0, 1, 0, 0, 0)) rfl rfl
theorem s201_22 {d : Nat} {ls : mj_L} {st : List Value} {M : mj_H} : mj_Rn d mj_m201 22 ls st M = mq_k6 M (mj_re (some .boolean) (.ireturn) st) := mj_R6 (r := (.ireturn, 1, 0, 0, 0)) rfl rfl
/- 204 PasskeyHouse.pushOption(Ljava/lang/String;I)V -/
theorem s204_0 {d : Nat} {ls : mj_L} {st : List Value} {M : mj_H} : mj_Rn d mj_m204 0 ls st M = mq_k0 d mj_m204 1 ls M (mj_lda (mj_lk ls 0) st) := mj_R0 (r := (.aload_n 0, 1, 0, 0, 0)) rfl rfl
theorem s204_1 {d : Nat} {ls : mj_L} {st : List Value} {M : mj_H} : mj_Rn d mj_m204 1 ls st M = mq_k0 d mj_m204 4 ls M (mq_gf 10 1 st M) := (mj_R3 (r := (.getfield 18, 3, 10, 1, 8488)) rfl rfl).trans (congrArg (mq_k0 d mj_m204 4 ls M) mq_gf_eq)
theorem s204_4 {d : Nat} {ls : mj_L} {st : List Value} {M : mj_H} : mj_Rn d mj_m204 4 ls st M = mj_Rn d mj_m204 5 ls (.int 5 :: st) M := mj_R0 (r := (.iconst 5, 1, 0, 0, 0)) rfl rfl
theorem s204_5 {d : Nat} {ls : mj_L} {st : List Value} {M : mj_H} : mj_Rn d mj_m204 5 ls st M = mj_Rn d mj_m204 6 ls (.int 1 :: st) M := mj_R0 (r := (.iconst 1, 1, 0, 0, 0)) rfl rfl
theorem s204_6 {d : Nat} {ls : mj_L} {st : List Value} {M : mj_H} : mj_Rn (d + 1) mj_m204 6 ls st M = mq_k5a (d + 1) mj_m204 9 ls M 131 (mq_cb 0 2 1 st M) := mj_R5e (r := (.invokevirtual 353, 3, 0, 131, 20628)) (z := mj_m131) rfl rfl (by decide) (by decide) rfl
theorem s204_9 {d : Nat} {ls : mj_L} {st : List Value} {M : mj_H} : mj_Rn d mj_m204 9 ls st M = mq_k0 d mj_m204 10 ls M (mj_lda (mj_lk ls 0) st) := mj_R0 (r := (.aload_n 0, 1, 0, 0, 0)) rfl rfl
theorem s204_10 {d : Nat} {ls : mj_L} {st : List Value} {M : mj_H} : mj_Rn d mj_m204 10 ls st M = mq_k0 d mj_m204 13 ls M (mq_gf 10 1 st M) := (mj_R3 (r := (.getfield 18, 3, 10, 1, 8488)) rfl rfl).trans (congrArg (mq_k0 d mj_m204 13 ls M) mq_gf_eq)
theorem s204_13 {d : Nat} {ls : mj_L} {st : List Value} {M : mj_H} : mj_Rn d mj_m204 13 ls st M = mq_k0 d mj_m204 14 ls M (mj_lda (mj_lk ls 1) st) := mj_R0 (r := (.aload_n 1, 1, 0, 0, 0)) rfl rfl
theorem s204_14 {d : Nat} {ls : mj_L} {st : List Value} {M : mj_H} : mj_Rn (d + 1) mj_m204 14 ls st M = mq_k5a (d + 1) mj_m204 17 ls M 132 (mq_cb 0 1 1 st M) := mj_R5e (r := (.invokevirtual 364, 3, 0, 132, 20715)) (z := mj_m132) rfl rfl (by decide) (by decide) rfl
theorem s204_17 {d : Nat} {ls : mj_L} {st : List Value} {M : mj_H} : mj_Rn d mj_m204 17 ls st M = mq_k0 d mj_m204 18 ls M (mj_lda (mj_lk ls 0) st) := mj_R0 (r := (.aload_n 0, 1, 0, 0, 0)) rfl rfl
theorem s204_18 {d : Nat} {ls : mj_L} {st : List Value} {M : mj_H} : mj_Rn d mj_m204 18 ls st M = mq_k0 d mj_m204 21 ls M (mq_gf 10 1 st M) := (mj_R3 (r := (.getfield 18, 3, 10, 1, 8488)) rfl rfl).trans (congrArg (mq_k0 d mj_m204 21 ls M) mq_gf_eq)
theorem s204_21 {d : Nat} {ls : mj_L} {st : List Value} {M : mj_H} : mj_Rn d mj_m204 21 ls st M = mj_Rn d mj_m204 23 ls (.int 7 :: st) M := mj_R0 (r := (.bipush 7, 2, 0, 0, 0)) rfl rfl
theorem s204_23 {d : Nat} {ls : mj_L} {st : List Value} {M : mj_H} : mj_Rn d mj_m204 23 ls st M = mq_k0 d mj_m204 24 ls M (mj_ldi (mj_lk ls 2) st) := mj_R0 (r := (.iload_n 2, 1, 0, 0, 0)) rfl rfl
theorem s204_24 {d : Nat} {ls : mj_L} {st : List Value} {M : mj_H} : mj_Rn (d + 1) mj_m204 24 ls st M = mq_k5a (d + 1) mj_m204 27 ls M 131 (mq_cb 0 2 1 st M) := mj_R5e (r := (.invokevirtual 353, 3, 0, 131, 20628)) (z := mj_m131) rfl rfl (by decide) (by decide) rfl
theorem s204_27 {d : Nat} {ls : mj_L} {st : List Value} {M : mj_H} : mj_Rn d mj_m204 27 ls st M = mq_k6 M (mj_re none (.return_) st) := mj_R6 (r := (.return_, 1, 0, 0, 0)) rfl rfl
/- 205 PasskeyHouse.pushMark(II)V -/
theorem s205_0 {d : Nat} {ls : mj_L} {st : List Value} {M : mj_H} : mj_Rn d mj_m205 0 ls st M = mq_k0 d mj_m205 1 ls M (mj_lda (mj_lk ls 0) st) := mj_R0 (r := (.aload_n 0, 1, 0, 0, 0)) rfl rfl
theorem s205_1 {d : Nat} {ls : mj_L} {st : List Value} {M : mj_H} : mj_Rn d mj_m205 1 ls st M = mq_k0 d mj_m205 4 ls M (mq_gf 10 1 st M) := (mj_R3 (r := (.getfield 18, 3, 10, 1, 8488)) rfl rfl).trans (congrArg (mq_k0 d mj_m205 4 ls M) mq_gf_eq)
theorem s205_4 {d : Nat} {ls : mj_L} {st : List Value} {M : mj_H} : mj_Rn d mj_m205 4 ls st M = mq_k0 d mj_m205 5 ls M (mj_ldi (mj_lk ls 1) st) := mj_R0 (r := (.iload_n 1, 1, 0, 0, 0)) rfl rfl
theorem s205_5 {d : Nat} {ls : mj_L} {st : List Value} {M : mj_H} : mj_Rn (d + 1) mj_m205 5 ls st M = mq_k5a (d + 1) mj_m205 8 ls M 45 (mq_cb 0 1 1 st M) := mj_R5e (r := (.invokevirtual 190, 3, 0, 45, 20603)) (z := mj_m45) rfl rfl (by decide) (by decide) rfl
theorem s205_8 {d : Nat} {ls : mj_L} {st : List Value} {M : mj_H} : mj_Rn d mj_m205 8 ls st M = mq_k0 d mj_m205 9 ls M (mj_lda (mj_lk ls 0) st) := mj_R0 (r := (.aload_n 0, 1, 0, 0, 0)) rfl rfl
theorem s205_9 {d : Nat} {ls : mj_L} {st : List Value} {M : mj_H} : mj_Rn d mj_m205 9 ls st M = mq_k0 d mj_m205 12 ls M (mq_gf 10 1 st M) := (mj_R3 (r := (.getfield 18, 3, 10, 1, 8488)) rfl rfl).trans (congrArg (mq_k0 d mj_m205 12 ls M) mq_gf_eq)
theorem s205_12 {d : Nat} {ls : mj_L} {st : List Value} {M : mj_H} : mj_Rn d mj_m205 12 ls st M = mq_k0 d mj_m205 13 ls M (mj_ldi (mj_lk ls 2) st) := mj_R0 (r := (.iload_n 2, 1, 0, 0, 0)) rfl rfl
theorem s205_13 {d : Nat} {ls : mj_L} {st : List Value} {M : mj_H} : mj_Rn (d + 1) mj_m205 13 ls st M = mq_k5a (d + 1) mj_m205 16 ls M 134 (mq_cb 0 1 1 st M) := mj_R5e (r := (.invokevirtual 222, 3, 0, 134, 20647)) (z := mj_m134) rfl rfl (by decide) (by decide) rfl
theorem s205_16 {d : Nat} {ls : mj_L} {st : List Value} {M : mj_H} : mj_Rn d mj_m205 16 ls st M = mq_k0 d mj_m205 17 ls M (mj_lda (mj_lk ls 0) st) := mj_R0 (r := (.aload_n 0, 1, 0, 0, 0)) rfl rfl
theorem s205_17 {d : Nat} {ls : mj_L} {st : List Value} {M : mj_H} : mj_Rn d mj_m205 17 ls st M = mq_k0 d mj_m205 20 ls M (mq_gf 10 1 st M) := (mj_R3 (r := (.getfield 18, 3, 10, 1, 8488)) rfl rfl).trans (congrArg (mq_k0 d mj_m205 20 ls M) mq_gf_eq)
theorem s205_20 {d : Nat} {ls : mj_L} {st : List Value} {M : mj_H} : mj_Rn d mj_m205 20 ls st M = mq_k0 d mj_m205 21 ls M (mj_ldi (mj_lk ls 1) st) := mj_R0 (r := (.iload_n 1, 1, 0, 0, 0)) rfl rfl
theorem s205_21 {d : Nat} {ls : mj_L} {st : List Value} {M : mj_H} : mj_Rn d mj_m205 21 ls st M = mj_Rn d mj_m205 22 ls (.int 1 :: st) M := mj_R0 (r := (.iconst 1, 1, 0, 0, 0)) rfl rfl
theorem s205_22 {d : Nat} {ls : mj_L} {st : List Value} {M : mj_H} : mj_Rn d mj_m205 22 ls st M = mq_k0 d mj_m205 23 ls M (mj_pu .iadd ls st) := mj_R0 (r := (.iadd, 1, 0, 0, 0)) rfl rfl
theorem s205_23 {d : Nat} {ls : mj_L} {st : List Value} {M : mj_H} : mj_Rn (d + 1) mj_m205 23 ls st M = mq_k5a (d + 1) mj_m205 26 ls M 45 (mq_cb 0 1 1 st M) := mj_R5e (r := (.invokevirtual 190, 3, 0, 45, 20603)) (z := mj_m45) rfl rfl (by decide) (by decide) rfl
theorem s205_26 {d : Nat} {ls : mj_L} {st : List Value} {M : mj_H} : mj_Rn d mj_m205 26 ls st M = mq_k0 d mj_m205 27 ls M (mj_lda (mj_lk ls 0) st) := mj_R0 (r := (.aload_n 0, 1, 0, 0, 0)) rfl rfl
theorem s205_27 {d : Nat} {ls : mj_L} {st : List Value} {M : mj_H} : mj_Rn d mj_m205 27 ls st M = mq_k0 d mj_m205 30 ls M (mq_gf 10 1 st M) := (mj_R3 (r := (.getfield 18, 3, 10, 1, 8488)) rfl rfl).trans (congrArg (mq_k0 d mj_m205 30 ls M) mq_gf_eq)
theorem s205_30 {d : Nat} {ls : mj_L} {st : List Value} {M : mj_H} : mj_Rn d mj_m205 30 ls st M = mj_Rn d mj_m205 31 ls (.int 1 :: st) M := mj_R0 (r := (.iconst 1, 1, 0, 0, 0)) rfl rfl
theorem s205_31 {d : Nat} {ls : mj_L} {st : List Value} {M : mj_H} : mj_Rn (d + 1) mj_m205 31 ls st M = mq_k5a (d + 1) mj_m205 34 ls M 45 (mq_cb 0 1 1 st M) := mj_R5e (r := (.invokevirtual 190, 3, 0, 45, 20603)) (z := mj_m45) rfl rfl (by decide) (by decide) rfl
theorem s205_34 {d : Nat} {ls : mj_L} {st : List Value} {M : mj_H} : mj_Rn d mj_m205 34 ls st M = mq_k6 M (mj_re none (.return_) st) := mj_R6 (r := (.return_, 1, 0, 0, 0)) rfl rfl
theorem c190 {d : Nat} {a0 : Nat} {x1 : Int32} {x2 : Int32} {x3 : Int32} {M : mj_H} : mj_V (d + 1) 190 [.ref a0, .int x1, .int x2, .int x3] M = mj_Rn d mj_m190 0 [(0, .ref a0), (1, .int x1), (2, .int x2), (3, .int x3)] [] M := mj_V_go rfl (Nat.le_of_ble_eq_true rfl)
theorem c192 {d : Nat} {a0 : Nat} {x1 : Int32} {x2 : Int32} {a3 : Nat} {x4 : Int32} {x5 : Int32} {M : mj_H} : mj_V (d + 1) 192 [.ref a0, .int x1, .int x2, .ref a3, .int x4, .int x5] M = mj_Rn d mj_m192 0 [(0, .ref a0), (1, .int x1), (2, .int x2), (3, .ref a3), (4, .int x4), (5, .int x5)] [] M := mj_V_go rfl (Nat.le_of_ble_eq_true rfl)
theorem c194 {d : Nat} {a0 : Nat} {x1 : Int32} {a2 : Nat} {M : mj_H} : mj_V (d + 1) 194 [.ref a0, .int x1, .ref a2] M = mj_Rn d mj_m194 0 [(0, .ref a0), (1, .int x1), (2, .ref a2)] [] M := mj_V_go rfl (Nat.le_of_ble_eq_true rfl)
theorem c194n2 {d : Nat} {a0 : Nat} {x1 : Int32} {M : mj_H} : mj_V (d + 1) 194 [.ref a0, .int x1, .null] M = mj_Rn d mj_m194 0 [(0, .ref a0), (1, .int x1), (2, .null)] [] M := mj_V_go rfl (Nat.le_of_ble_eq_true rfl)
theorem c195 {d : Nat} {a0 : Nat} {M : mj_H} : mj_V (d + 1) 195 [.ref a0] M = mj_Rn d mj_m195 0 [(0, .ref a0)] [] M := mj_V_go rfl (Nat.le_of_ble_eq_true rfl)
theorem c196 {d : Nat} {a0 : Nat} {x1 : Int32} {x2 : Int32} {a3 : Nat} {M : mj_H} : mj_V (d + 1) 196 [.ref a0, .int x1, .int x2, .ref a3] M = mj_Rn d mj_m196 0 [(0, .ref a0), (1, .int x1), (2, .int x2), (3, .ref a3)] [] M := mj_V_go rfl (Nat.le_of_ble_eq_true rfl)
theorem c197 {d : Nat} {a0 : Nat} {x1 : Int32} {x2 : Int32} {M : mj_H} : mj_V (d + 1) 197 [.ref a0, .int x1, .int x2] M = mj_Rn d mj_m197 0 [(0, .ref a0), (1, .int x1), (2, .int x2)] [] M := mj_V_go rfl (Nat.le_of_ble_eq_true rfl)
theorem c198 {d : Nat} {x0 : Int64} {x1 : Int32} {M : mj_H} : mj_V (d + 1) 198 [.long x0, .int x1] M = mj_Rn d mj_m198 0 [(0, .long x0), (2, .int x1)] [] M := mj_V_go rfl (Nat.le_of_ble_eq_true rfl)
theorem c199 {d : Nat} {a0 : Nat} {x1 : Int64} {x2 : Int32} {M : mj_H} : mj_V (d + 1) 199 [.ref a0, .long x1, .int x2] M = mj_Rn d mj_m199 0 [(0, .ref a0), (1, .long x1), (3, .int x2)] [] M := mj_V_go rfl (Nat.le_of_ble_eq_true rfl)
theorem c200 {d : Nat} {a0 : Nat} {x1 : Int32} {M : mj_H} : mj_V (d + 1) 200 [.ref a0, .int x1] M = mj_Rn d mj_m200 0 [(0, .ref a0), (1, .int x1)] [] M := mj_V_go rfl (Nat.le_of_ble_eq_true rfl)
theorem c201 {d : Nat} {a0 : Nat} {x1 : Int64} {x2 : Int32} {M : mj_H} : mj_V (d + 1) 201 [.ref a0, .long x1, .int x2] M = mj_Rn d mj_m201 0 [(0, .ref a0), (1, .long x1), (3, .int x2)] [] M := mj_V_go rfl (Nat.le_of_ble_eq_true rfl)
theorem c204 {d : Nat} {a0 : Nat} {a1 : Nat} {x2 : Int32} {M : mj_H} : mj_V (d + 1) 204 [.ref a0, .ref a1, .int x2] M = mj_Rn d mj_m204 0 [(0, .ref a0), (1, .ref a1), (2, .int x2)] [] M := mj_V_go rfl (Nat.le_of_ble_eq_true rfl)
theorem c205 {d : Nat} {a0 : Nat} {x1 : Int32} {x2 : Int32} {M : mj_H} : mj_V (d + 1) 205 [.ref a0, .int x1, .int x2] M = mj_Rn d mj_m205 0 [(0, .ref a0), (1, .int x1), (2, .int x2)] [] M := mj_V_go rfl (Nat.le_of_ble_eq_true rfl)
theorem bt_mt_eq {xs ys : List Int32} (h8 : ∀ v ∈ xs, v &&& 255 = v) : ∀ (n p q : Nat), p + n ≤ xs.length → q + n ≤ ys.length → bt_mt xs ys p q n = decide ((xs.drop p).take n = (ys.drop q).take n) := by
  intro n
  induction n with
  | zero => intro p q _ _; simp [bt_mt]
  | succ n ih =>
    intro p q hp hq
    unfold bt_mt
    have hpl : p < xs.length := by omega
    have hql : q < ys.length := by omega
    rw [ih (p + 1) (q + 1) (by omega) (by omega)]
    rw [List.getD_eq_getElem?_getD, List.getD_eq_getElem?_getD, List.getElem?_eq_getElem hpl, List.getElem?_eq_getElem hql, Option.getD_some, Option.getD_some]
    obtain ⟨b, hb, he⟩ := by_nI (h8 _ (List.getElem_mem hpl))
    have h1 : ¬ xs[p] = -1 := by
      rw [he]; intro e; exact (nI_m1 (show b < 2 ^ 31 by omega)).mp e
    rw [List.drop_eq_getElem_cons hpl, List.drop_eq_getElem_cons hql, List.take_succ_cons, List.take_succ_cons]
    by_cases h2 : xs[p] = ys[q]
    · have h1' : ¬ ys[q] = -1 := by rw [← h2]; exact h1
      simp [h1', h2]
    · simp [h2]
theorem bn_low (w : Int64) : ∀ m, m ≤ 8 → bn (bt_low w m) = uL w % 256 ^ m := by
  intro m
  induction m with
  | zero => intro _; simp [bt_low, bn, Nat.mod_one]
  | succ m ih =>
    intro hm
    unfold bt_low
    rw [bn_cons, bt_low_len, ih (by omega), bt_by_nat w (by omega), nI_clamp (by omega), Nat.pow_succ, Nat.mod_mul]
    omega
theorem uL_lo : ∀ l : List Int32, (∀ v ∈ l, v &&& 255 = v) → l.length ≤ 8 → uL (bt_lo l) = bn l := by
  have key : ∀ (n : Nat) (l : List Int32), l.length = n → (∀ v ∈ l, v &&& 255 = v) → l.length ≤ 8 → uL (bt_lo l) = bn l := by
   intro n
   induction n with
   | zero => intro l hn _ _; rw [List.length_eq_zero_iff.mp hn]; rfl
   | succ n ih' =>
    intro l0 hn h hl
    have hne : l0 ≠ [] := by intro e; rw [e] at hn; cases hn
    obtain ⟨l, v, rfl⟩ : ∃ l v, l0 = l ++ [v] := ⟨l0.dropLast, l0.getLast hne, (List.dropLast_concat_getLast hne).symm⟩
    have ih := ih' l (by simpa using hn)
    have h1 := ih (fun x hx => h x (by simp [hx])) (by simp at hl; omega)
    have hv := h v (by simp)
    have e : bt_lo (l ++ [v]) = bt_ls (bt_lo l) v := by unfold bt_lo; rw [List.foldl_append]; rfl
    rw [e, uL_ls hv, h1, bn_app, uN_cl hv]
    have hb := bn_lt (l ++ [v]) h
    rw [bn_app, uN_cl hv] at hb
    have : 256 ^ (l ++ [v]).length ≤ 256 ^ 8 := Nat.pow_le_pow_right (by decide) hl
    apply Nat.mod_eq_of_lt
    omega
  exact fun l => key _ l rfl
theorem uL_inj {a b : Int64} (h : uL a = uL b) : a = b := by rw [← nL_uL a, h, nL_uL]
theorem uL_and (w : Int64) {k : Nat} (hk : k < 64) : uL (w &&& nL (2 ^ k - 1)) = uL w % 2 ^ k := by
  unfold uL nL
  simp
  have h1 : 2 ^ k ≤ 2 ^ 63 := Nat.pow_le_pow_right (by decide) (by omega)
  have h2 : 0 < 2 ^ k := Nat.pow_pos (by decide)
  rw [Nat.mod_eq_of_lt (by omega), Nat.and_two_pow_sub_one_eq_mod]
theorem lo_low (w : Int64) {m : Nat} (hm : m ≤ 8) : uL (bt_lo (bt_low w m)) = uL w % 256 ^ m := by
  rw [uL_lo _ (bt_low_by w m) (by rw [bt_low_len]; exact hm), bn_low w m hm]
theorem j_lowest {d : Nat} {M : mj_H} (w : Int64) {m : Nat} (hm : 1 ≤ m ∧ m ≤ 8) : mj_V (d + 1) 198 [.long w, .int (nI m)] M = some (some (.long (bt_lo (bt_low w m))), M) := by
  by_cases h8 : m = 8
  · subst h8
    have e : bt_lo (bt_low w 8) = w := uL_inj (by rw [lo_low w (by omega), Nat.mod_eq_of_lt (uL_lt w)])
    rw [e]
    simp (disch := (first | omega | decide)) [c198, s198_0, s198_1, s198_3, s198_6, s198_7, s198_10, s198_11, s198_12, s198_14, s198_15, s198_16, s198_17, s198_18, s198_19, s198_20, mq_k0s, mq_k1s, mq_k2s, mq_k4s, mq_k5s, mq_k5n, mq_k5as, mq_k6s, mj_pu, mj_lo, mj_br, mj_hr, mj_hw, mq_gf, mq_len, mq_al, mq_pf, mq_ok, mj_re, mq_lkm, mq_lkn, mj_ldi, mj_ldl, mj_lda, mj_ii, mj_ll, mj_li, mj_i1, ms_1, ms_2, f1_n, f1_i, f1_r, f1_u, f1_l, f2_n, f2_i, f2_r, f2_u, f2_l, mj_tg, mj_c1, mj_c2, mj_ar, mj_aw, mq_cb, mq_oi, mj_rm, Value.category, -getElem?_pos, List.getElem?_cons_zero, decide_eq_true, decide_eq_false, nl_lt, nl_le, ln_lt, ln_le, nl_eq, ln_eq, nl_add, ln_add, nl_sub, ln_mul, nI_sub, nI_mul, nI_add, nI_lt_iff, nI_le_iff, nI_inj, nI_num, mq_ix, nI_1, nl_mul, nl_div, narrow]
  · have e : bt_lo (bt_low w m) = w &&& nL (2 ^ (8 * m) - 1) := uL_inj (by rw [lo_low w (by omega), uL_and w (by omega), Nat.pow_mul])
    rw [e]
    have hsh : ∀ m : Nat, m < 8 → (1 : Int64) <<< (((8 : Int32) * nI m).toInt64 &&& 63) - 1 = nL (2 ^ (8 * m) - 1) := by decide +kernel
    have hs := hsh m (by omega)
    have hlt : m < 8 := by omega
    have hn : ¬ 8 ≤ m := by omega
    have e8 : (8 : Int32) * nI m = nI (8 * m) := nI_mul 8 m
    rw [e8] at hs
    simp (disch := (first | omega | decide)) [c198, s198_0, s198_1, s198_3, s198_6, s198_7, s198_10, s198_11, s198_12, s198_14, s198_15, s198_16, s198_17, s198_18, s198_19, s198_20, mq_k0s, mq_k1s, mq_k2s, mq_k4s, mq_k5s, mq_k5n, mq_k5as, mq_k6s, mj_pu, mj_lo, mj_br, mj_hr, mj_hw, mq_gf, mq_len, mq_al, mq_pf, mq_ok, mj_re, mq_lkm, mq_lkn, mj_ldi, mj_ldl, mj_lda, mj_ii, mj_ll, mj_li, mj_i1, ms_1, ms_2, f1_n, f1_i, f1_r, f1_u, f1_l, f2_n, f2_i, f2_r, f2_u, f2_l, mj_tg, mj_c1, mj_c2, mj_ar, mj_aw, mq_cb, mq_oi, mj_rm, Value.category, -getElem?_pos, List.getElem?_cons_zero, decide_eq_true, decide_eq_false, nl_lt, nl_le, ln_lt, ln_le, nl_eq, ln_eq, nl_add, ln_add, nl_sub, ln_mul, nI_sub, nI_mul, nI_add, nI_lt_iff, nI_le_iff, nI_inj, nI_num, mq_ix, nI_1, nl_mul, nl_div, hlt, hn, hs, narrow]
section HZ
variable {M M' : mj_H} {H H' : Ho} {κs πs : List Nat} {row row' ms : List Int32} {d : Nat} {i l : Int32}
theorem h_fit (z : hz M H κs πs row) (party m n : Int32) : mj_V (d + 2) 190 [.ref 25, .int party, .int m, .int n] M = some (some (.int (on1 (fitA H party m n))), M) := by
  have x0 := z.ob
  have w0 := j_in (d := d) (v := m) (a := 1) (b := 8) (M := M)
  have w1 := j_in (d := d) (v := n) (a := 1) (b := 24) (M := M)
  have w2 := v_size (d := d) z.tp
  have o0 := z.tp.2.2.2.2.2.1
  have hl := z.tp.len
  -- behind the party
  have fin : mj_Rn (d + 1) mj_m190 20 [(4, .int 1), (0, .ref 25), (1, .int party), (2, .int m), (3, .int n)] [] M = some (some (.int (on1 (inR m 1 8 && (inR n 1 24 && decide (n.toNatClampNeg ≤ H.1.length))))), M) := by
    cases h1 : inR m 1 8 with
    | false => rw [h1] at w0; simp (disch := (first | omega | decide)) [s190_0, s190_1, s190_2, s190_5, s190_6, s190_7, s190_10, s190_13, s190_14, s190_17, s190_18, s190_20, s190_22, s190_25, s190_26, s190_27, s190_29, s190_32, s190_35, s190_36, s190_37, s190_39, s190_42, s190_45, s190_46, s190_47, s190_50, s190_53, s190_56, s190_57, s190_60, s190_61, mq_k0s, mq_k1s, mq_k2s, mq_k4s, mq_k5s, mq_k5n, mq_k5as, mq_k6s, mj_pu, mj_lo, mj_br, mj_hr, mj_hw, mq_gf, mq_len, mq_al, mq_pf, mq_ok, mj_re, mq_lkm, mq_lkn, mj_ldi, mj_ldl, mj_lda, mj_ii, mj_ll, mj_li, mj_i1, ms_1, ms_2, f1_n, f1_i, f1_r, f1_u, f1_l, f2_n, f2_i, f2_r, f2_u, f2_l, mj_tg, mj_c1, mj_c2, mj_ar, mj_aw, mq_cb, mq_oi, mj_rm, Value.category, -getElem?_pos, List.getElem?_cons_zero, decide_eq_true, decide_eq_false, nl_lt, nl_le, ln_lt, ln_le, nl_eq, ln_eq, nl_add, ln_add, nl_sub, ln_mul, nI_sub, nI_mul, nI_add, nI_lt_iff, nI_le_iff, nI_inj, nI_num, mq_ix, nI_1, nl_mul, nl_div, w0, on1, narrow_b0]
    | true =>
      rw [h1] at w0
      cases h2 : inR n 1 24 with
      | false => rw [h2] at w1; simp (disch := (first | omega | decide)) [s190_0, s190_1, s190_2, s190_5, s190_6, s190_7, s190_10, s190_13, s190_14, s190_17, s190_18, s190_20, s190_22, s190_25, s190_26, s190_27, s190_29, s190_32, s190_35, s190_36, s190_37, s190_39, s190_42, s190_45, s190_46, s190_47, s190_50, s190_53, s190_56, s190_57, s190_60, s190_61, mq_k0s, mq_k1s, mq_k2s, mq_k4s, mq_k5s, mq_k5n, mq_k5as, mq_k6s, mj_pu, mj_lo, mj_br, mj_hr, mj_hw, mq_gf, mq_len, mq_al, mq_pf, mq_ok, mj_re, mq_lkm, mq_lkn, mj_ldi, mj_ldl, mj_lda, mj_ii, mj_ll, mj_li, mj_i1, ms_1, ms_2, f1_n, f1_i, f1_r, f1_u, f1_l, f2_n, f2_i, f2_r, f2_u, f2_l, mj_tg, mj_c1, mj_c2, mj_ar, mj_aw, mq_cb, mq_oi, mj_rm, Value.category, -getElem?_pos, List.getElem?_cons_zero, decide_eq_true, decide_eq_false, nl_lt, nl_le, ln_lt, ln_le, nl_eq, ln_eq, nl_add, ln_add, nl_sub, ln_mul, nI_sub, nI_mul, nI_add, nI_lt_iff, nI_le_iff, nI_inj, nI_num, mq_ix, nI_1, nl_mul, nl_div, w0, w1, on1, narrow_b0]
      | true =>
        rw [h2] at w1
        obtain ⟨k, rfl, -, hk, hc⟩ := inR_nI (a := 1) (b := 24) h2 (by decide) (by decide)
        rw [hc]
        by_cases h3 : k ≤ H.1.length
        · simp (disch := (first | omega | decide)) [s190_0, s190_1, s190_2, s190_5, s190_6, s190_7, s190_10, s190_13, s190_14, s190_17, s190_18, s190_20, s190_22, s190_25, s190_26, s190_27, s190_29, s190_32, s190_35, s190_36, s190_37, s190_39, s190_42, s190_45, s190_46, s190_47, s190_50, s190_53, s190_56, s190_57, s190_60, s190_61, mq_k0s, mq_k1s, mq_k2s, mq_k4s, mq_k5s, mq_k5n, mq_k5as, mq_k6s, mj_pu, mj_lo, mj_br, mj_hr, mj_hw, mq_gf, mq_len, mq_al, mq_pf, mq_ok, mj_re, mq_lkm, mq_lkn, mj_ldi, mj_ldl, mj_lda, mj_ii, mj_ll, mj_li, mj_i1, ms_1, ms_2, f1_n, f1_i, f1_r, f1_u, f1_l, f2_n, f2_i, f2_r, f2_u, f2_l, mj_tg, mj_c1, mj_c2, mj_ar, mj_aw, mq_cb, mq_oi, mj_rm, Value.category, -getElem?_pos, List.getElem?_cons_zero, decide_eq_true, decide_eq_false, nl_lt, nl_le, ln_lt, ln_le, nl_eq, ln_eq, nl_add, ln_add, nl_sub, ln_mul, nI_sub, nI_mul, nI_add, nI_lt_iff, nI_le_iff, nI_inj, nI_num, mq_ix, nI_1, nl_mul, nl_div, w0, w1, on1, x0, o0, w2, h3, narrow_b1]
        · simp (disch := (first | omega | decide)) [s190_0, s190_1, s190_2, s190_5, s190_6, s190_7, s190_10, s190_13, s190_14, s190_17, s190_18, s190_20, s190_22, s190_25, s190_26, s190_27, s190_29, s190_32, s190_35, s190_36, s190_37, s190_39, s190_42, s190_45, s190_46, s190_47, s190_50, s190_53, s190_56, s190_57, s190_60, s190_61, mq_k0s, mq_k1s, mq_k2s, mq_k4s, mq_k5s, mq_k5n, mq_k5as, mq_k6s, mj_pu, mj_lo, mj_br, mj_hr, mj_hw, mq_gf, mq_len, mq_al, mq_pf, mq_ok, mj_re, mq_lkm, mq_lkn, mj_ldi, mj_ldl, mj_lda, mj_ii, mj_ll, mj_li, mj_i1, ms_1, ms_2, f1_n, f1_i, f1_r, f1_u, f1_l, f2_n, f2_i, f2_r, f2_u, f2_l, mj_tg, mj_c1, mj_c2, mj_ar, mj_aw, mq_cb, mq_oi, mj_rm, Value.category, -getElem?_pos, List.getElem?_cons_zero, decide_eq_true, decide_eq_false, nl_lt, nl_le, ln_lt, ln_le, nl_eq, ln_eq, nl_add, ln_add, nl_sub, ln_mul, nI_sub, nI_mul, nI_add, nI_lt_iff, nI_le_iff, nI_inj, nI_num, mq_ix, nI_1, nl_mul, nl_div, w0, w1, on1, x0, o0, w2, h3, narrow_b0]
  unfold fitA
  by_cases hp : party = -1
  · subst hp
    simp only [decide_true, Bool.true_or, Bool.true_and]
    simp (disch := (first | omega | decide)) [c190, s190_0, s190_1, s190_2, s190_5, s190_6, s190_7, s190_10, s190_13, s190_14, s190_17, s190_18, s190_22, s190_25, s190_26, s190_27, s190_29, s190_32, s190_35, s190_36, s190_37, s190_39, s190_42, s190_45, s190_46, s190_47, s190_50, s190_53, s190_56, s190_57, s190_60, s190_61, mq_k0s, mq_k1s, mq_k2s, mq_k4s, mq_k5s, mq_k5n, mq_k5as, mq_k6s, mj_pu, mj_lo, mj_br, mj_hr, mj_hw, mq_gf, mq_len, mq_al, mq_pf, mq_ok, mj_re, mq_lkm, mq_lkn, mj_ldi, mj_ldl, mj_lda, mj_ii, mj_ll, mj_li, mj_i1, ms_1, ms_2, f1_n, f1_i, f1_r, f1_u, f1_l, f2_n, f2_i, f2_r, f2_u, f2_l, mj_tg, mj_c1, mj_c2, mj_ar, mj_aw, mq_cb, mq_oi, mj_rm, Value.category, -getElem?_pos, List.getElem?_cons_zero, decide_eq_true, decide_eq_false, nl_lt, nl_le, ln_lt, ln_le, nl_eq, ln_eq, nl_add, ln_add, nl_sub, ln_mul, nI_sub, nI_mul, nI_add, nI_lt_iff, nI_le_iff, nI_inj, nI_num, mq_ix, nI_1, nl_mul, nl_div]
    exact fin
  · cases hix : ix party H.2.2.2.2.length with
    | none =>
      have v0 := h_parN (d := d) z hix
      simp only [pOf, hix, Option.bind_none, Option.isSome_none, hp, decide_false, Bool.or_false, Bool.false_and]
      simp (disch := (first | omega | decide)) [c190, s190_0, s190_1, s190_2, s190_5, s190_6, s190_7, s190_10, s190_13, s190_14, s190_17, s190_18, s190_20, s190_22, s190_25, s190_26, s190_27, s190_29, s190_32, s190_35, s190_36, s190_37, s190_39, s190_42, s190_45, s190_46, s190_47, s190_50, s190_53, s190_56, s190_57, s190_60, s190_61, mq_k0s, mq_k1s, mq_k2s, mq_k4s, mq_k5s, mq_k5n, mq_k5as, mq_k6s, mj_pu, mj_lo, mj_br, mj_hr, mj_hw, mq_gf, mq_len, mq_al, mq_pf, mq_ok, mj_re, mq_lkm, mq_lkn, mj_ldi, mj_ldl, mj_lda, mj_ii, mj_ll, mj_li, mj_i1, ms_1, ms_2, f1_n, f1_i, f1_r, f1_u, f1_l, f2_n, f2_i, f2_r, f2_u, f2_l, mj_tg, mj_c1, mj_c2, mj_ar, mj_aw, mq_cb, mq_oi, mj_rm, Value.category, -getElem?_pos, List.getElem?_cons_zero, decide_eq_true, decide_eq_false, nl_lt, nl_le, ln_lt, ln_le, nl_eq, ln_eq, nl_add, ln_add, nl_sub, ln_mul, nI_sub, nI_mul, nI_add, nI_lt_iff, nI_le_iff, nI_inj, nI_num, mq_ix, nI_1, nl_mul, nl_div, x0, v0, hp, on1, narrow_b0]
    | some j =>
      obtain ⟨rfl, hj, -⟩ := ix_some hix
      have hq : πs[j]? = some (πs[j]'(by rw [z.pl]; exact hj)) := List.getElem?_eq_getElem _
      have v0 := h_parS (d := d) z hq
      simp only [pOf, hix, Option.bind_some, List.getElem?_eq_getElem hj, Option.isSome_some, Bool.or_true, Bool.true_and]
      simp (disch := (first | omega | decide)) [c190, s190_0, s190_1, s190_2, s190_5, s190_6, s190_7, s190_10, s190_13, s190_14, s190_17, s190_18, s190_22, s190_25, s190_26, s190_27, s190_29, s190_32, s190_35, s190_36, s190_37, s190_39, s190_42, s190_45, s190_46, s190_47, s190_50, s190_53, s190_56, s190_57, s190_60, s190_61, mq_k0s, mq_k1s, mq_k2s, mq_k4s, mq_k5s, mq_k5n, mq_k5as, mq_k6s, mj_pu, mj_lo, mj_br, mj_hr, mj_hw, mq_gf, mq_len, mq_al, mq_pf, mq_ok, mj_re, mq_lkm, mq_lkn, mj_ldi, mj_ldl, mj_lda, mj_ii, mj_ll, mj_li, mj_i1, ms_1, ms_2, f1_n, f1_i, f1_r, f1_u, f1_l, f2_n, f2_i, f2_r, f2_u, f2_l, mj_tg, mj_c1, mj_c2, mj_ar, mj_aw, mq_cb, mq_oi, mj_rm, Value.category, -getElem?_pos, List.getElem?_cons_zero, decide_eq_true, decide_eq_false, nl_lt, nl_le, ln_lt, ln_le, nl_eq, ln_eq, nl_add, ln_add, nl_sub, ln_mul, nI_sub, nI_mul, nI_add, nI_lt_iff, nI_le_iff, nI_inj, nI_num, mq_ix, nI_1, nl_mul, nl_div, x0, v0, nI_m1]
      exact fin
theorem j_right {a b cap c e cap2 s q n : Nat} {xs ys : List Int32} (hx : bb M a b cap xs) (hy : bb M c e cap2 ys) (hs : s ≤ xs.length) (hq : q + n ≤ ys.length) (hcap : cap ≤ 400) (hcap2 : cap2 ≤ 400) : mj_V (d + 3) 192 [.ref a, .int 0, .int (nI s), .ref c, .int (nI q), .int (nI n)] M = some (some (.int (on1 (isR (xs.take s) ((ys.drop q).take n)))), M) := by
  have hxl := hx.len
  have hyl := hy.len
  have o0 := hx.2.2.2.2.2.1
  have h8 := hx.2.2.2.2.1
  have en : ((ys.drop q).take n).length = n := sl_len hq
  have es : (xs.take s).length = s := by simp; omega
  unfold isR
  rw [en, es]
  by_cases h1 : n ≤ s; rotate_left
  · have hneg : nI s - nI n < 0 := by
      rw [Int32.lt_iff_toInt_lt]
      have : (nI s - nI n).toInt = (s : Int) - n := by
        rw [Int32.toInt_sub, nI_toInt (by omega), nI_toInt (by omega)]
        exact Int.bmod_eq_of_le (by omega) (by omega)
      rw [this]; simp; omega
    simp only [h1, decide_false, Bool.false_and]
    simp (disch := (first | omega | decide)) [c192, s192_0, s192_1, s192_3, s192_4, s192_6, s192_8, s192_11, s192_13, s192_16, s192_17, s192_18, s192_20, s192_21, s192_22, s192_23, s192_26, s192_28, s192_31, s192_32, s192_33, s192_34, s192_35, s192_37, s192_38, s192_39, s192_41, s192_43, s192_46, mq_k0s, mq_k1s, mq_k2s, mq_k4s, mq_k5s, mq_k5n, mq_k5as, mq_k6s, mj_pu, mj_lo, mj_br, mj_hr, mj_hw, mq_gf, mq_len, mq_al, mq_pf, mq_ok, mj_re, mq_lkm, mq_lkn, mj_ldi, mj_ldl, mj_lda, mj_ii, mj_ll, mj_li, mj_i1, ms_1, ms_2, f1_n, f1_i, f1_r, f1_u, f1_l, f2_n, f2_i, f2_r, f2_u, f2_l, mj_tg, mj_c1, mj_c2, mj_ar, mj_aw, mq_cb, mq_oi, mj_rm, Value.category, -getElem?_pos, List.getElem?_cons_zero, decide_eq_true, decide_eq_false, nl_lt, nl_le, ln_lt, ln_le, nl_eq, ln_eq, nl_add, ln_add, nl_sub, ln_mul, nI_sub, nI_mul, nI_add, nI_lt_iff, nI_le_iff, nI_inj, nI_num, mq_ix, nI_1, nl_mul, nl_div, hneg, on1, narrow_b0]
  have vm := v_matches (d := d) hx hy (p := s - n) (q := q) (n := n) (by omega) (by omega)
  rw [bt_mt_eq h8 n (s - n) q (by omega) hq] at vm
  have esl : (xs.drop (s - n)).take n = (xs.take s).drop (s - n) := by
    rw [List.drop_take]; congr 1; omega
  rw [esl] at vm
  by_cases h2 : s = n
  · subst h2
    simp only [Nat.sub_self, List.drop_zero] at vm ⊢
    simp only [Nat.le_refl, decide_true, Bool.true_or, Bool.true_and]
    rw [nI_0] at vm
    have e0 : nI s - nI s = nI 0 := by rw [nI_sub (Nat.le_refl _), Nat.sub_self]
    by_cases h3 : xs.take s = (ys.drop q).take s
    · simp only [h3, decide_true, if_true] at vm
      simp (disch := (first | omega | decide)) [c192, s192_0, s192_1, s192_3, s192_4, s192_6, s192_8, s192_11, s192_13, s192_16, s192_17, s192_18, s192_20, s192_21, s192_22, s192_23, s192_26, s192_28, s192_31, s192_32, s192_33, s192_34, s192_35, s192_37, s192_38, s192_39, s192_41, s192_43, s192_46, mq_k0s, mq_k1s, mq_k2s, mq_k4s, mq_k5s, mq_k5n, mq_k5as, mq_k6s, mj_pu, mj_lo, mj_br, mj_hr, mj_hw, mq_gf, mq_len, mq_al, mq_pf, mq_ok, mj_re, mq_lkm, mq_lkn, mj_ldi, mj_ldl, mj_lda, mj_ii, mj_ll, mj_li, mj_i1, ms_1, ms_2, f1_n, f1_i, f1_r, f1_u, f1_l, f2_n, f2_i, f2_r, f2_u, f2_l, mj_tg, mj_c1, mj_c2, mj_ar, mj_aw, mq_cb, mq_oi, mj_rm, Value.category, -getElem?_pos, List.getElem?_cons_zero, decide_eq_true, decide_eq_false, nl_lt, nl_le, ln_lt, ln_le, nl_eq, ln_eq, nl_add, ln_add, nl_sub, ln_mul, nI_sub, nI_mul, nI_add, nI_lt_iff, nI_le_iff, nI_inj, nI_num, mq_ix, nI_1, nl_mul, nl_div, e0, o0, vm, h3, on1, narrow_b1, nI_0]
    · simp only [h3, decide_false] at vm
      simp (disch := (first | omega | decide)) [c192, s192_0, s192_1, s192_3, s192_4, s192_6, s192_8, s192_11, s192_13, s192_16, s192_17, s192_18, s192_20, s192_21, s192_22, s192_23, s192_26, s192_28, s192_31, s192_32, s192_33, s192_34, s192_35, s192_37, s192_38, s192_39, s192_41, s192_43, s192_46, mq_k0s, mq_k1s, mq_k2s, mq_k4s, mq_k5s, mq_k5n, mq_k5as, mq_k6s, mj_pu, mj_lo, mj_br, mj_hr, mj_hw, mq_gf, mq_len, mq_al, mq_pf, mq_ok, mj_re, mq_lkm, mq_lkn, mj_ldi, mj_ldl, mj_lda, mj_ii, mj_ll, mj_li, mj_i1, ms_1, ms_2, f1_n, f1_i, f1_r, f1_u, f1_l, f2_n, f2_i, f2_r, f2_u, f2_l, mj_tg, mj_c1, mj_c2, mj_ar, mj_aw, mq_cb, mq_oi, mj_rm, Value.category, -getElem?_pos, List.getElem?_cons_zero, decide_eq_true, decide_eq_false, nl_lt, nl_le, ln_lt, ln_le, nl_eq, ln_eq, nl_add, ln_add, nl_sub, ln_mul, nI_sub, nI_mul, nI_add, nI_lt_iff, nI_le_iff, nI_inj, nI_num, mq_ix, nI_1, nl_mul, nl_div, e0, o0, vm, h3, on1, narrow_b0, nI_0]
  · have vi := v_item (d := d + 1) hx (nI (s - n - 1))
    rw [bt_at_nI (by omega)] at vi
    have eg : xs.getD (s - n - 1) (-1) = (xs.take s).getD (s - n - 1) (-1) := by
      rw [List.getD_eq_getElem?_getD, List.getD_eq_getElem?_getD, List.getElem?_take_of_lt (by omega)]
    rw [eg] at vi
    generalize (xs.take s).getD (s - n - 1) (-1) = G at *
    simp only [h1, h2, decide_true, decide_false, Bool.false_or, Bool.true_and]
    have hp : 0 < s - n := by omega
    have hnz : ¬ s - n = 0 := by omega
    by_cases h4 : G = 46
    · rw [h4] at vi
      by_cases h3 : (xs.take s).drop (s - n) = (ys.drop q).take n
      · simp only [h3, decide_true, if_true] at vm
        simp (disch := (first | omega | decide)) [c192, s192_0, s192_1, s192_3, s192_4, s192_6, s192_8, s192_11, s192_13, s192_16, s192_17, s192_18, s192_20, s192_21, s192_22, s192_23, s192_26, s192_28, s192_31, s192_32, s192_33, s192_34, s192_35, s192_37, s192_38, s192_39, s192_41, s192_43, s192_46, mq_k0s, mq_k1s, mq_k2s, mq_k4s, mq_k5s, mq_k5n, mq_k5as, mq_k6s, mj_pu, mj_lo, mj_br, mj_hr, mj_hw, mq_gf, mq_len, mq_al, mq_pf, mq_ok, mj_re, mq_lkm, mq_lkn, mj_ldi, mj_ldl, mj_lda, mj_ii, mj_ll, mj_li, mj_i1, ms_1, ms_2, f1_n, f1_i, f1_r, f1_u, f1_l, f2_n, f2_i, f2_r, f2_u, f2_l, mj_tg, mj_c1, mj_c2, mj_ar, mj_aw, mq_cb, mq_oi, mj_rm, Value.category, -getElem?_pos, List.getElem?_cons_zero, decide_eq_true, decide_eq_false, nl_lt, nl_le, ln_lt, ln_le, nl_eq, ln_eq, nl_add, ln_add, nl_sub, ln_mul, nI_sub, nI_mul, nI_add, nI_lt_iff, nI_le_iff, nI_inj, nI_num, mq_ix, nI_1, nl_mul, nl_div, hp, hnz, o0, vi, h4, vm, h3, on1, narrow_b1]
      · simp only [h3, decide_false] at vm
        simp (disch := (first | omega | decide)) [c192, s192_0, s192_1, s192_3, s192_4, s192_6, s192_8, s192_11, s192_13, s192_16, s192_17, s192_18, s192_20, s192_21, s192_22, s192_23, s192_26, s192_28, s192_31, s192_32, s192_33, s192_34, s192_35, s192_37, s192_38, s192_39, s192_41, s192_43, s192_46, mq_k0s, mq_k1s, mq_k2s, mq_k4s, mq_k5s, mq_k5n, mq_k5as, mq_k6s, mj_pu, mj_lo, mj_br, mj_hr, mj_hw, mq_gf, mq_len, mq_al, mq_pf, mq_ok, mj_re, mq_lkm, mq_lkn, mj_ldi, mj_ldl, mj_lda, mj_ii, mj_ll, mj_li, mj_i1, ms_1, ms_2, f1_n, f1_i, f1_r, f1_u, f1_l, f2_n, f2_i, f2_r, f2_u, f2_l, mj_tg, mj_c1, mj_c2, mj_ar, mj_aw, mq_cb, mq_oi, mj_rm, Value.category, -getElem?_pos, List.getElem?_cons_zero, decide_eq_true, decide_eq_false, nl_lt, nl_le, ln_lt, ln_le, nl_eq, ln_eq, nl_add, ln_add, nl_sub, ln_mul, nI_sub, nI_mul, nI_add, nI_lt_iff, nI_le_iff, nI_inj, nI_num, mq_ix, nI_1, nl_mul, nl_div, hp, hnz, o0, vi, h4, vm, h3, on1, narrow_b0]
    · simp (disch := (first | omega | decide)) [c192, s192_0, s192_1, s192_3, s192_4, s192_6, s192_8, s192_11, s192_13, s192_16, s192_17, s192_18, s192_20, s192_21, s192_22, s192_23, s192_26, s192_28, s192_31, s192_32, s192_33, s192_34, s192_35, s192_37, s192_38, s192_39, s192_41, s192_43, s192_46, mq_k0s, mq_k1s, mq_k2s, mq_k4s, mq_k5s, mq_k5n, mq_k5as, mq_k6s, mj_pu, mj_lo, mj_br, mj_hr, mj_hw, mq_gf, mq_len, mq_al, mq_pf, mq_ok, mj_re, mq_lkm, mq_lkn, mj_ldi, mj_ldl, mj_lda, mj_ii, mj_ll, mj_li, mj_i1, ms_1, ms_2, f1_n, f1_i, f1_r, f1_u, f1_l, f2_n, f2_i, f2_r, f2_u, f2_l, mj_tg, mj_c1, mj_c2, mj_ar, mj_aw, mq_cb, mq_oi, mj_rm, Value.category, -getElem?_pos, List.getElem?_cons_zero, decide_eq_true, decide_eq_false, nl_lt, nl_le, ln_lt, ln_le, nl_eq, ln_eq, nl_add, ln_add, nl_sub, ln_mul, nI_sub, nI_mul, nI_add, nI_lt_iff, nI_le_iff, nI_inj, nI_num, mq_ix, nI_1, nl_mul, nl_div, hp, hnz, o0, vi, h4, on1, narrow_b0]
/-- the latest challenge of a party -/
theorem j_latest {π : Nat} {p : Pa} (h : pz M π p) : mj_V (d + 1) 195 [.ref π] M = some (some (.int (chOf 0 (some p))), M) := by
  obtain ⟨ol, o1, o2, o3, o4, o5, o6⟩ := h.oa
  have x0 := h.ob
  have l4 := h.l4
  unfold chOf
  rw [if_neg (by simp)]
  dsimp only
  by_cases h0 : p.2.2.1.length = 0
  · have : p.2.2.1 = [] := List.length_eq_zero_iff.mp h0
    rw [this, List.getLast?_nil]
    have hneg : nI p.2.2.1.length - 1 < 0 := by rw [h0]; decide
    simp (disch := (first | omega | decide)) [c195, s195_0, s195_1, s195_4, s195_5, s195_6, s195_7, s195_8, s195_11, s195_12, s195_13, s195_16, s195_17, s195_20, s195_21, s195_24, s195_25, s195_26, s195_29, s195_30, s195_33, s195_34, s195_37, s195_38, s195_39, s195_42, mq_k0s, mq_k1s, mq_k2s, mq_k4s, mq_k5s, mq_k5n, mq_k5as, mq_k6s, mj_pu, mj_lo, mj_br, mj_hr, mj_hw, mq_gf, mq_len, mq_al, mq_pf, mq_ok, mj_re, mq_lkm, mq_lkn, mj_ldi, mj_ldl, mj_lda, mj_ii, mj_ll, mj_li, mj_i1, ms_1, ms_2, f1_n, f1_i, f1_r, f1_u, f1_l, f2_n, f2_i, f2_r, f2_u, f2_l, mj_tg, mj_c1, mj_c2, mj_ar, mj_aw, mq_cb, mq_oi, mj_rm, Value.category, -getElem?_pos, List.getElem?_cons_zero, decide_eq_true, decide_eq_false, nl_lt, nl_le, ln_lt, ln_le, nl_eq, ln_eq, nl_add, ln_add, nl_sub, ln_mul, nI_sub, nI_mul, nI_add, nI_lt_iff, nI_le_iff, nI_inj, nI_num, mq_ix, nI_1, nl_mul, nl_div, x0, hneg, narrow]
  · have hl : p.2.2.1.length - 1 < p.2.2.1.length := by omega
    have hol : p.2.2.1.length - 1 < ol.length := by omega
    have hx := o5 _ _ _ (List.getElem?_eq_getElem hl) (List.getElem?_eq_getElem hol)
    rw [List.getLast?_eq_getElem?, List.getElem?_eq_getElem hl]
    have e1 : (ol.map Value.ref).length = 4 := by simp [o1]
    have e2 : (ol.map Value.ref)[p.2.2.1.length - 1]? = some (.ref ol[p.2.2.1.length - 1]) := by rw [List.getElem?_map, List.getElem?_eq_getElem hol]; rfl
    generalize ol.map Value.ref = zs at *
    unfold oc at hx
    have hp : 1 ≤ p.2.2.1.length := by omega
    simp (disch := (first | omega | decide)) [c195, s195_0, s195_1, s195_4, s195_5, s195_6, s195_7, s195_8, s195_11, s195_12, s195_13, s195_16, s195_17, s195_20, s195_21, s195_24, s195_25, s195_26, s195_29, s195_30, s195_33, s195_34, s195_37, s195_38, s195_39, s195_42, mq_k0s, mq_k1s, mq_k2s, mq_k4s, mq_k5s, mq_k5n, mq_k5as, mq_k6s, mj_pu, mj_lo, mj_br, mj_hr, mj_hw, mq_gf, mq_len, mq_al, mq_pf, mq_ok, mj_re, mq_lkm, mq_lkn, mj_ldi, mj_ldl, mj_lda, mj_ii, mj_ll, mj_li, mj_i1, ms_1, ms_2, f1_n, f1_i, f1_r, f1_u, f1_l, f2_n, f2_i, f2_r, f2_u, f2_l, mj_tg, mj_c1, mj_c2, mj_ar, mj_aw, mq_cb, mq_oi, mj_rm, Value.category, -getElem?_pos, List.getElem?_cons_zero, decide_eq_true, decide_eq_false, nl_lt, nl_le, ln_lt, ln_le, nl_eq, ln_eq, nl_add, ln_add, nl_sub, ln_mul, nI_sub, nI_mul, nI_add, nI_lt_iff, nI_le_iff, nI_inj, nI_num, mq_ix, nI_1, nl_mul, nl_div, x0, o2, e1, e2, hp, hx, narrow]
theorem h_chN (c : Int32) : mj_V (d + 2) 194 [.ref 25, .int c, .null] M = some (some (.int (chOf c none)), M) := by
  unfold chOf
  by_cases h : c = 0
  · subst h; simp (disch := (first | omega | decide)) [c194n2, s194_0, s194_1, s194_4, s194_5, s194_8, s194_9, s194_12, s194_13, s194_16, mq_k0s, mq_k1s, mq_k2s, mq_k4s, mq_k5s, mq_k5n, mq_k5as, mq_k6s, mj_pu, mj_lo, mj_br, mj_hr, mj_hw, mq_gf, mq_len, mq_al, mq_pf, mq_ok, mj_re, mq_lkm, mq_lkn, mj_ldi, mj_ldl, mj_lda, mj_ii, mj_ll, mj_li, mj_i1, ms_1, ms_2, f1_n, f1_i, f1_r, f1_u, f1_l, f2_n, f2_i, f2_r, f2_u, f2_l, mj_tg, mj_c1, mj_c2, mj_ar, mj_aw, mq_cb, mq_oi, mj_rm, Value.category, -getElem?_pos, List.getElem?_cons_zero, decide_eq_true, decide_eq_false, nl_lt, nl_le, ln_lt, ln_le, nl_eq, ln_eq, nl_add, ln_add, nl_sub, ln_mul, nI_sub, nI_mul, nI_add, nI_lt_iff, nI_le_iff, nI_inj, nI_num, mq_ix, nI_1, nl_mul, nl_div, narrow]
  · simp (disch := (first | omega | decide)) [c194n2, s194_0, s194_1, s194_4, s194_5, s194_8, s194_9, s194_12, s194_13, s194_16, mq_k0s, mq_k1s, mq_k2s, mq_k4s, mq_k5s, mq_k5n, mq_k5as, mq_k6s, mj_pu, mj_lo, mj_br, mj_hr, mj_hw, mq_gf, mq_len, mq_al, mq_pf, mq_ok, mj_re, mq_lkm, mq_lkn, mj_ldi, mj_ldl, mj_lda, mj_ii, mj_ll, mj_li, mj_i1, ms_1, ms_2, f1_n, f1_i, f1_r, f1_u, f1_l, f2_n, f2_i, f2_r, f2_u, f2_l, mj_tg, mj_c1, mj_c2, mj_ar, mj_aw, mq_cb, mq_oi, mj_rm, Value.category, -getElem?_pos, List.getElem?_cons_zero, decide_eq_true, decide_eq_false, nl_lt, nl_le, ln_lt, ln_le, nl_eq, ln_eq, nl_add, ln_add, nl_sub, ln_mul, nI_sub, nI_mul, nI_add, nI_lt_iff, nI_le_iff, nI_inj, nI_num, mq_ix, nI_1, nl_mul, nl_div, h, narrow]
theorem h_chS (c : Int32) {π : Nat} {p : Pa} (h : pz M π p) : mj_V (d + 2) 194 [.ref 25, .int c, .ref π] M = some (some (.int (chOf c (some p))), M) := by
  have v0 := j_latest (d := d) h
  have x0 := h.ob
  by_cases hc : c = 0
  · subst hc
    simp (disch := (first | omega | decide)) [c194, s194_0, s194_1, s194_4, s194_5, s194_8, s194_9, s194_12, s194_13, s194_16, mq_k0s, mq_k1s, mq_k2s, mq_k4s, mq_k5s, mq_k5n, mq_k5as, mq_k6s, mj_pu, mj_lo, mj_br, mj_hr, mj_hw, mq_gf, mq_len, mq_al, mq_pf, mq_ok, mj_re, mq_lkm, mq_lkn, mj_ldi, mj_ldl, mj_lda, mj_ii, mj_ll, mj_li, mj_i1, ms_1, ms_2, f1_n, f1_i, f1_r, f1_u, f1_l, f2_n, f2_i, f2_r, f2_u, f2_l, mj_tg, mj_c1, mj_c2, mj_ar, mj_aw, mq_cb, mq_oi, mj_rm, Value.category, -getElem?_pos, List.getElem?_cons_zero, decide_eq_true, decide_eq_false, nl_lt, nl_le, ln_lt, ln_le, nl_eq, ln_eq, nl_add, ln_add, nl_sub, ln_mul, nI_sub, nI_mul, nI_add, nI_lt_iff, nI_le_iff, nI_inj, nI_num, mq_ix, nI_1, nl_mul, nl_div, x0, v0, narrow]
  · have e : chOf c (some p) = c := by unfold chOf; rw [if_pos hc]
    rw [e]
    simp (disch := (first | omega | decide)) [c194, s194_0, s194_1, s194_4, s194_5, s194_8, s194_9, s194_12, s194_13, s194_16, mq_k0s, mq_k1s, mq_k2s, mq_k4s, mq_k5s, mq_k5n, mq_k5as, mq_k6s, mj_pu, mj_lo, mj_br, mj_hr, mj_hw, mq_gf, mq_len, mq_al, mq_pf, mq_ok, mj_re, mq_lkm, mq_lkn, mj_ldi, mj_ldl, mj_lda, mj_ii, mj_ll, mj_li, mj_i1, ms_1, ms_2, f1_n, f1_i, f1_r, f1_u, f1_l, f2_n, f2_i, f2_r, f2_u, f2_l, mj_tg, mj_c1, mj_c2, mj_ar, mj_aw, mq_cb, mq_oi, mj_rm, Value.category, -getElem?_pos, List.getElem?_cons_zero, decide_eq_true, decide_eq_false, nl_lt, nl_le, ln_lt, ln_le, nl_eq, ln_eq, nl_add, ln_add, nl_sub, ln_mul, nI_sub, nI_mul, nI_add, nI_lt_iff, nI_le_iff, nI_inj, nI_num, mq_ix, nI_1, nl_mul, nl_div, hc, narrow]
theorem h_chash (z : hz M H κs πs row) {j : Nat} {h : Hd} (hh : H.2.2.2.1[j]? = some h) (kind c : Int32) (hl : H.2.1.1.length < 1000) : ∃ M' row', mj_V (d + 5) 196 [.ref 25, .int kind, .int c, .ref (49 + 5 * j)] M = some (some (.int (cl_h h H.2.1 kind c)), M') ∧ hz M' ((H.1, (tm_mk H.2.1 (chRow kind c h.2.1), (H.2.2.1, (H.2.2.2.1, H.2.2.2.2)))) : Ho) κs πs row' ∧ hf M M' := by
  have hj := z.hj hh
  have x0 := z.ob
  obtain ⟨u0, t0⟩ := z.o30
  obtain ⟨M1, p1, z1, g1⟩ := hz_begin (d := d + 2) z 7
  have x1 := z1.ob
  obtain ⟨u1, t1⟩ := z1.o30
  obtain ⟨M2, p2, z2, g2⟩ := hz_add (d := d + 3) z1 (by simp) kind
  have x2 := z2.ob
  obtain ⟨u2, t2⟩ := z2.o30
  obtain ⟨M3, p3, z3, g3⟩ := hz_addFour (d := d + 2) z2 (by simp) c
  have x3 := z3.ob
  obtain ⟨u3, t3⟩ := z3.o30
  have zh3 := z3.hd j h hh
  have hpl := zh3.pg.len
  have o3 := zh3.pg.2.2.2.2.2.1
  have v3 := v_size (d := d + 3) zh3.pg
  obtain ⟨M4, p4, z4, g4⟩ := hz_addBytes (d := d + 2) (q := 0) (n := h.2.1.length) z3 zh3.pg (by unfold hA; omega) (by unfold hA; omega) (by omega) (by simp [b4_len]; omega)
  have x4 := z4.ob
  obtain ⟨u4, t4⟩ := z4.o30
  obtain ⟨M5, p5, z5, g5⟩ := hz_made (d := d) z4 (by simp) hl
  have e : [7] ++ [kind] ++ b4 c ++ (h.2.1.drop 0).take h.2.1.length = chRow kind c h.2.1 := by simp [chRow]
  rw [e] at p5 z5
  refine ⟨M5, _, ?_, z5, (((((g1).tr g2).tr g3).tr g4).tr g5)⟩
  rw [nI_0] at p4
  have ea : 46 + 5 * j + 3 = 49 + 5 * j := by omega
  have eb : 46 + 5 * j + 4 = 50 + 5 * j := by omega
  rw [ea, eb] at o3
  rw [ea] at v3 p4
  simp (disch := (first | omega | decide)) [c196, s196_0, s196_1, s196_4, s196_6, s196_9, s196_10, s196_13, s196_14, s196_17, s196_18, s196_21, s196_22, s196_25, s196_26, s196_29, s196_30, s196_31, s196_32, s196_35, s196_38, s196_39, s196_42, s196_45, mq_k0s, mq_k1s, mq_k2s, mq_k4s, mq_k5s, mq_k5n, mq_k5as, mq_k6s, mj_pu, mj_lo, mj_br, mj_hr, mj_hw, mq_gf, mq_len, mq_al, mq_pf, mq_ok, mj_re, mq_lkm, mq_lkn, mj_ldi, mj_ldl, mj_lda, mj_ii, mj_ll, mj_li, mj_i1, ms_1, ms_2, f1_n, f1_i, f1_r, f1_u, f1_l, f2_n, f2_i, f2_r, f2_u, f2_l, mj_tg, mj_c1, mj_c2, mj_ar, mj_aw, mq_cb, mq_oi, mj_rm, Value.category, -getElem?_pos, List.getElem?_cons_zero, decide_eq_true, decide_eq_false, nl_lt, nl_le, ln_lt, ln_le, nl_eq, ln_eq, nl_add, ln_add, nl_sub, ln_mul, nI_sub, nI_mul, nI_add, nI_lt_iff, nI_le_iff, nI_inj, nI_num, mq_ix, nI_1, nl_mul, nl_div, x0, t0, p1, x1, t1, p2, x2, t2, p3, x3, t3, o3, v3, p4, x4, t4, p5, narrow, cl_h]
theorem h_mark (z : hz M H κs πs row) (tok hash : Int32) (hl : H.2.1.1.length < 1000) : ∃ M' row', mj_V (d + 5) 197 [.ref 25, .int tok, .int hash] M = some (some (.int (nI (tm_no H.2.1 (10 :: tok :: b4 hash)))), M') ∧ hz M' ((H.1, (tm_mk H.2.1 (10 :: tok :: b4 hash), (H.2.2.1, (H.2.2.2.1, H.2.2.2.2)))) : Ho) κs πs row' ∧ hf M M' := by
  have x0 := z.ob
  obtain ⟨u0, t0⟩ := z.o30
  obtain ⟨M1, p1, z1, g1⟩ := hz_begin (d := d + 2) z 10
  have x1 := z1.ob
  obtain ⟨u1, t1⟩ := z1.o30
  obtain ⟨M2, p2, z2, g2⟩ := hz_add (d := d + 3) z1 (by simp) tok
  have x2 := z2.ob
  obtain ⟨u2, t2⟩ := z2.o30
  obtain ⟨M3, p3, z3, g3⟩ := hz_addFour (d := d + 2) z2 (by simp) hash
  have x3 := z3.ob
  obtain ⟨u3, t3⟩ := z3.o30
  obtain ⟨M4, p4, z4, g4⟩ := hz_made (d := d) z3 (by simp) hl
  have e : [10] ++ [tok] ++ b4 hash = 10 :: tok :: b4 hash := by simp
  rw [e] at p4 z4
  refine ⟨M4, _, ?_, z4, ((((g1).tr g2).tr g3).tr g4)⟩
  simp (disch := (first | omega | decide)) [c197, s197_0, s197_1, s197_4, s197_6, s197_9, s197_10, s197_13, s197_14, s197_17, s197_18, s197_21, s197_22, s197_25, s197_26, s197_29, s197_32, mq_k0s, mq_k1s, mq_k2s, mq_k4s, mq_k5s, mq_k5n, mq_k5as, mq_k6s, mj_pu, mj_lo, mj_br, mj_hr, mj_hw, mq_gf, mq_len, mq_al, mq_pf, mq_ok, mj_re, mq_lkm, mq_lkn, mj_ldi, mj_ldl, mj_lda, mj_ii, mj_ll, mj_li, mj_i1, ms_1, ms_2, f1_n, f1_i, f1_r, f1_u, f1_l, f2_n, f2_i, f2_r, f2_u, f2_l, mj_tg, mj_c1, mj_c2, mj_ar, mj_aw, mq_cb, mq_oi, mj_rm, Value.category, -getElem?_pos, List.getElem?_cons_zero, decide_eq_true, decide_eq_false, nl_lt, nl_le, ln_lt, ln_le, nl_eq, ln_eq, nl_add, ln_add, nl_sub, ln_mul, nI_sub, nI_mul, nI_add, nI_lt_iff, nI_le_iff, nI_inj, nI_num, mq_ix, nI_1, nl_mul, nl_div, x0, t0, p1, x1, t1, p2, x2, t2, p3, x3, t3, p4, narrow]
end HZ
end
/- 9h.h9 -/
section
set_option maxRecDepth 512
/-! Class: the house: accounts in messages. -/
/- 202 PasskeyHouse.beginMake(IJIII)V -/
theorem s202_0 {d : Nat} {ls : mj_L} {st : List Value} {M : mj_H} : mj_Rn d mj_m202 0 ls st M = mq_k0 d mj_m202 1 ls M (mj_lda (mj_lk ls 0) st) := mj_R0 (r := (.aload_n 0, 1, 0, 0, 0)) rfl rfl
theorem s202_1 {d : Nat} {ls : mj_L} {st : List Value} {M : mj_H} : mj_Rn d mj_m202 1 ls st M = mq_k0 d mj_m202 4 ls M (mq_gf 10 1 st M) := (mj_R3 (r := (.getfield 18, 3, 10, 1, 8488)) rfl rfl).trans (congrArg (mq_k0 d mj_m202 4 ls M) mq_gf_eq)
theorem s202_4 {d : Nat} {ls : mj_L} {st : List Value} {M : mj_H} : mj_Rn (d + 1) mj_m202 4 ls st M = mq_k5a (d + 1) mj_m202 7 ls M 12 (mq_cb 0 0 1 st M) := mj_R5e (r := (.invokevirtual 73, 3, 0, 12, 4290)) (z := mj_m12) rfl rfl (by decide) (by decide) rfl
theorem s202_7 {d : Nat} {ls : mj_L} {st : List Value} {M : mj_H} : mj_Rn d mj_m202 7 ls st M = mq_k0 d mj_m202 8 ls M (mj_lda (mj_lk ls 0) st) := mj_R0 (r := (.aload_n 0, 1, 0, 0, 0)) rfl rfl
theorem s202_8 {d : Nat} {ls : mj_L} {st : List Value} {M : mj_H} : mj_Rn d mj_m202 8 ls st M = mq_k0 d mj_m202 11 ls M (mq_gf 10 1 st M) := (mj_R3 (r := (.getfield 18, 3, 10, 1, 8488)) rfl rfl).trans (congrArg (mq_k0 d mj_m202 11 ls M) mq_gf_eq)
theorem s202_11 {d : Nat} {ls : mj_L} {st : List Value} {M : mj_H} : mj_Rn d mj_m202 11 ls st M = mj_Rn d mj_m202 12 ls (.int 1 :: st) M := mj_R0 (r := (.iconst 1, 1, 0, 0, 0)) rfl rfl
theorem s202_12 {d : Nat} {ls : mj_L} {st : List Value} {M : mj_H} : mj_Rn (d + 1) mj_m202 12 ls st M = mq_k5a (d + 1) mj_m202 15 ls M 45 (mq_cb 0 1 1 st M) := mj_R5e (r := (.invokevirtual 190, 3, 0, 45, 20603)) (z := mj_m45) rfl rfl (by decide) (by decide) rfl
theorem s202_15 {d : Nat} {ls : mj_L} {st : List Value} {M : mj_H} : mj_Rn d mj_m202 15 ls st M = mq_k0 d mj_m202 16 ls M (mj_lda (mj_lk ls 0) st) := mj_R0 (r := (.aload_n 0, 1, 0, 0, 0)) rfl rfl
theorem s202_16 {d : Nat} {ls : mj_L} {st : List Value} {M : mj_H} : mj_Rn d mj_m202 16 ls st M = mq_k0 d mj_m202 19 ls M (mq_gf 10 1 st M) := (mj_R3 (r := (.getfield 18, 3, 10, 1, 8488)) rfl rfl).trans (congrArg (mq_k0 d mj_m202 19 ls M) mq_gf_eq)
theorem s202_19 {d : Nat} {ls : mj_L} {st : List Value} {M : mj_H} : mj_Rn d mj_m202 19 ls st M = mj_Rn d mj_m202 20 ls (.int 5 :: st) M := mj_R0 (r := (.iconst 5, 1, 0, 0, 0)) rfl rfl
theorem s202_20 {d : Nat} {ls : mj_L} {st : List Value} {M : mj_H} : mj_Rn d mj_m202 20 ls st M = mj_Rn d mj_m202 21 ls (.int 4 :: st) M := mj_R0 (r := (.iconst 4, 1, 0, 0, 0)) rfl rfl
theorem s202_21 {d : Nat} {ls : mj_L} {st : List Value} {M : mj_H} : mj_Rn d mj_m202 21 ls st M = mq_k0 d mj_m202 23 ls M (mj_ldi (mj_lk ls 6) st) := mj_R0 (r := (.iload 6, 2, 0, 0, 0)) rfl rfl
theorem s202_23 {d : Nat} {ls : mj_L} {st : List Value} {M : mj_H} : mj_Rn d mj_m202 23 ls st M = mq_k0 d mj_m202 24 ls M (mj_pu .iadd ls st) := mj_R0 (r := (.iadd, 1, 0, 0, 0)) rfl rfl
theorem s202_24 {d : Nat} {ls : mj_L} {st : List Value} {M : mj_H} : mj_Rn (d + 1) mj_m202 24 ls st M = mq_k5a (d + 1) mj_m202 27 ls M 131 (mq_cb 0 2 1 st M) := mj_R5e (r := (.invokevirtual 353, 3, 0, 131, 20628)) (z := mj_m131) rfl rfl (by decide) (by decide) rfl
theorem s202_27 {d : Nat} {ls : mj_L} {st : List Value} {M : mj_H} : mj_Rn d mj_m202 27 ls st M = mq_k0 d mj_m202 28 ls M (mj_lda (mj_lk ls 0) st) := mj_R0 (r := (.aload_n 0, 1, 0, 0, 0)) rfl rfl
theorem s202_28 {d : Nat} {ls : mj_L} {st : List Value} {M : mj_H} : mj_Rn d mj_m202 28 ls st M = mq_k0 d mj_m202 31 ls M (mq_gf 10 1 st M) := (mj_R3 (r := (.getfield 18, 3, 10, 1, 8488)) rfl rfl).trans (congrArg (mq_k0 d mj_m202 31 ls M) mq_gf_eq)
theorem s202_31 {d : Nat} {ls : mj_L} {st : List Value} {M : mj_H} : mj_Rn d mj_m202 31 ls st M = mj_Rn d mj_m202 32 ls (.int 1 :: st) M := mj_R0 (r := (.iconst 1, 1, 0, 0, 0)) rfl rfl
theorem s202_32 {d : Nat} {ls : mj_L} {st : List Value} {M : mj_H} : mj_Rn (d + 1) mj_m202 32 ls st M = mq_k5a (d + 1) mj_m202 35 ls M 45 (mq_cb 0 1 1 st M) := mj_R5e (r := (.invokevirtual 190, 3, 0, 45, 20603)) (z := mj_m45) rfl rfl (by decide) (by decide) rfl
theorem s202_35 {d : Nat} {ls : mj_L} {st : List Value} {M : mj_H} : mj_Rn d mj_m202 35 ls st M = mq_k0 d mj_m202 36 ls M (mj_lda (mj_lk ls 0) st) := mj_R0 (r := (.aload_n 0, 1, 0, 0, 0)) rfl rfl
theorem s202_36 {d : Nat} {ls : mj_L} {st : List Value} {M : mj_H} : mj_Rn d mj_m202 36 ls st M = mq_k0 d mj_m202 39 ls M (mq_gf 10 1 st M) := (mj_R3 (r := (.getfield 18, 3, 10, 1, 8488)) rfl rfl).trans (congrArg (mq_k0 d mj_m202 39 ls M) mq_gf_eq)
theorem s202_39 {d : Nat} {ls : mj_L} {st : List Value} {M : mj_H} : mj_Rn d mj_m202 39 ls st M = mq_k0 d mj_m202 40 ls M (mj_ldi (mj_lk ls 1) st) := mj_R0 (r := (.iload_n 1, 1, 0, 0, 0)) rfl rfl
theorem s202_40 {d : Nat} {ls : mj_L} {st : List Value} {M : mj_H} : mj_Rn (d + 1) mj_m202 40 ls st M = mq_k5a (d + 1) mj_m202 43 ls M 134 (mq_cb 0 1 1 st M) := mj_R5e (r := (.invokevirtual 222, 3, 0, 134, 20647)) (z := mj_m134) rfl rfl (by decide) (by decide) rfl
theorem s202_43 {d : Nat} {ls : mj_L} {st : List Value} {M : mj_H} : mj_Rn d mj_m202 43 ls st M = mq_k0 d mj_m202 44 ls M (mj_lda (mj_lk ls 0) st) := mj_R0 (r := (.aload_n 0, 1, 0, 0, 0)) rfl rfl
theorem s202_44 {d : Nat} {ls : mj_L} {st : List Value} {M : mj_H} : mj_Rn d mj_m202 44 ls st M = mq_k0 d mj_m202 47 ls M (mq_gf 10 1 st M) := (mj_R3 (r := (.getfield 18, 3, 10, 1, 8488)) rfl rfl).trans (congrArg (mq_k0 d mj_m202 47 ls M) mq_gf_eq)
theorem s202_47 {d : Nat} {ls : mj_L} {st : List Value} {M : mj_H} : mj_Rn d mj_m202 47 ls st M = mj_Rn d mj_m202 48 ls (.int 2 :: st) M := mj_R0 (r := (.iconst 2, 1, 0, 0, 0)) rfl rfl
theorem s202_48 {d : Nat} {ls : mj_L} {st : List Value} {M : mj_H} : mj_Rn (d + 1) mj_m202 48 ls st M = mq_k5a (d + 1) mj_m202 51 ls M 45 (mq_cb 0 1 1 st M) := mj_R5e (r := (.invokevirtual 190, 3, 0, 45, 20603)) (z := mj_m45) rfl rfl (by decide) (by decide) rfl
theorem s202_51 {d : Nat} {ls : mj_L} {st : List Value} {M : mj_H} : mj_Rn d mj_m202 51 ls st M = mq_k0 d mj_m202 52 ls M (mj_lda (mj_lk ls 0) st) := mj_R0 (r := (.aload_n 0, 1, 0, 0, 0)) rfl rfl
theorem s202_52 {d : Nat} {ls : mj_L} {st : List Value} {M : mj_H} : mj_Rn d mj_m202 52 ls st M = mq_k0 d mj_m202 55 ls M (mq_gf 10 1 st M) := (mj_R3 (r := (.getfield 18, 3, 10, 1, 8488)) rfl rfl).trans (congrArg (mq_k0 d mj_m202 55 ls M) mq_gf_eq)
theorem s202_55 {d : Nat} {ls : mj_L} {st : List Value} {M : mj_H} : mj_Rn d mj_m202 55 ls st M = mj_Rn d mj_m202 56 ls (.int 5 :: st) M := mj_R0 (r := (.iconst 5, 1, 0, 0, 0)) rfl rfl
theorem s202_56 {d : Nat} {ls : mj_L} {st : List Value} {M : mj_H} : mj_Rn d mj_m202 56 ls st M = mj_Rn d mj_m202 57 ls (.int 1 :: st) M := mj_R0 (r := (.iconst 1, 1, 0, 0, 0)) rfl rfl
theorem s202_57 {d : Nat} {ls : mj_L} {st : List Value} {M : mj_H} : mj_Rn (d + 1) mj_m202 57 ls st M = mq_k5a (d + 1) mj_m202 60 ls M 131 (mq_cb 0 2 1 st M) := mj_R5e (r := (.invokevirtual 353, 3, 0, 131, 20628)) (z := mj_m131) rfl rfl (by decide) (by decide) rfl
theorem s202_60 {d : Nat} {ls : mj_L} {st : List Value} {M : mj_H} : mj_Rn d mj_m202 60 ls st M = mq_k0 d mj_m202 61 ls M (mj_lda (mj_lk ls 0) st) := mj_R0 (r := (.aload_n 0, 1, 0, 0, 0)) rfl rfl
theorem s202_61 {d : Nat} {ls : mj_L} {st : List Value} {M : mj_H} : mj_Rn d mj_m202 61 ls st M = mq_k0 d mj_m202 64 ls M (mq_gf 10 1 st M) := (mj_R3 (r := (.getfield 18, 3, 10, 1, 8488)) rfl rfl).trans (congrArg (mq_k0 d mj_m202 64 ls M) mq_gf_eq)
theorem s202_64 {d : Nat} {ls : mj_L} {st : List Value} {M : mj_H} : mj_Rn d mj_m202 64 ls st M = mj_Rn d mj_m202 67 ls (.ref 3 :: st) M := mj_R3 (r := (.ldc_w 362, 3, 2, 8, 20714)) rfl rfl
theorem s202_67 {d : Nat} {ls : mj_L} {st : List Value} {M : mj_H} : mj_Rn (d + 1) mj_m202 67 ls st M = mq_k5a (d + 1) mj_m202 70 ls M 132 (mq_cb 0 1 1 st M) := mj_R5e (r := (.invokevirtual 364, 3, 0, 132, 20715)) (z := mj_m132) rfl rfl (by decide) (by decide) rfl
theorem s202_70 {d : Nat} {ls : mj_L} {st : List Value} {M : mj_H} : mj_Rn d mj_m202 70 ls st M = mq_k0 d mj_m202 71 ls M (mj_lda (mj_lk ls 0) st) := mj_R0 (r := (.aload_n 0, 1, 0, 0, 0)) rfl rfl
theorem s202_71 {d : Nat} {ls : mj_L} {st : List Value} {M : mj_H} : mj_Rn d mj_m202 71 ls st M = mq_k0 d mj_m202 74 ls M (mq_gf 10 1 st M) := (mj_R3 (r := (.getfield 18, 3, 10, 1, 8488)) rfl rfl).trans (congrArg (mq_k0 d mj_m202 74 ls M) mq_gf_eq)
theorem s202_74 {d : Nat} {ls : mj_L} {st : List Value} {M : mj_H} : mj_Rn d mj_m202 74 ls st M = mj_Rn d mj_m202 75 ls (.int 3 :: st) M := mj_R0 (r := (.iconst 3, 1, 0, 0, 0)) rfl rfl
theorem s202_75 {d : Nat} {ls : mj_L} {st : List Value} {M : mj_H} : mj_Rn d mj_m202 75 ls st M = mq_k0 d mj_m202 77 ls M (mj_ldi (mj_lk ls 5) st) := mj_R0 (r := (.iload 5, 2, 0, 0, 0)) rfl rfl
theorem s202_77 {d : Nat} {ls : mj_L} {st : List Value} {M : mj_H} : mj_Rn (d + 1) mj_m202 77 ls st M = mq_k5a (d + 1) mj_m202 80 ls M 131 (mq_cb 0 2 1 st M) := mj_R5e (r := (.invokevirtual 353, 3, 0, 131, 20628)) (z := mj_m131) rfl rfl (by decide) (by decide) rfl
theorem s202_80 {d : Nat} {ls : mj_L} {st : List Value} {M : mj_H} : mj_Rn d mj_m202 80 ls st M = mq_k0 d mj_m202 81 ls M (mj_lda (mj_lk ls 0) st) := mj_R0 (r := (.aload_n 0, 1, 0, 0, 0)) rfl rfl
theorem s202_81 {d : Nat} {ls : mj_L} {st : List Value} {M : mj_H} : mj_Rn d mj_m202 81 ls st M = mq_k0 d mj_m202 84 ls M (mq_gf 10 1 st M) := (mj_R3 (r := (.getfield 18, 3, 10, 1, 8488)) rfl rfl).trans (congrArg (mq_k0 d mj_m202 84 ls M) mq_gf_eq)
theorem s202_84 {d : Nat} {ls : mj_L} {st : List Value} {M : mj_H} : mj_Rn d mj_m202 84 ls st M = mq_k0 d mj_m202 85 ls M (mj_lda (mj_lk ls 0) st) := mj_R0 (r := (.aload_n 0, 1, 0, 0, 0)) rfl rfl
theorem s202_85 {d : Nat} {ls : mj_L} {st : List Value} {M : mj_H} : mj_Rn d mj_m202 85 ls st M = mq_k0 d mj_m202 88 ls M (mq_gf 10 0 st M) := (mj_R3 (r := (.getfield 14, 3, 10, 0, 8486)) rfl rfl).trans (congrArg (mq_k0 d mj_m202 88 ls M) mq_gf_eq)
theorem s202_88 {d : Nat} {ls : mj_L} {st : List Value} {M : mj_H} : mj_Rn d mj_m202 88 ls st M = mj_Rn d mj_m202 89 ls (.int 0 :: st) M := mj_R0 (r := (.iconst 0, 1, 0, 0, 0)) rfl rfl
theorem s202_89 {d : Nat} {ls : mj_L} {st : List Value} {M : mj_H} : mj_Rn d mj_m202 89 ls st M = mq_k0 d mj_m202 91 ls M (mj_ldi (mj_lk ls 5) st) := mj_R0 (r := (.iload 5, 2, 0, 0, 0)) rfl rfl
theorem s202_91 {d : Nat} {ls : mj_L} {st : List Value} {M : mj_H} : mj_Rn (d + 1) mj_m202 91 ls st M = mq_k5a (d + 1) mj_m202 94 ls M 77 (mq_cb 0 3 1 st M) := mj_R5e (r := (.invokevirtual 118, 3, 0, 77, 12429)) (z := mj_m77) rfl rfl (by decide) (by decide) rfl
theorem s202_94 {d : Nat} {ls : mj_L} {st : List Value} {M : mj_H} : mj_Rn d mj_m202 94 ls st M = mq_k0 d mj_m202 95 ls M (mj_lda (mj_lk ls 0) st) := mj_R0 (r := (.aload_n 0, 1, 0, 0, 0)) rfl rfl
theorem s202_95 {d : Nat} {ls : mj_L} {st : List Value} {M : mj_H} : mj_Rn d mj_m202 95 ls st M = mq_k0 d mj_m202 98 ls M (mq_gf 10 1 st M) := (mj_R3 (r := (.getfield 18, 3, 10, 1, 8488)) rfl rfl).trans (congrArg (mq_k0 d mj_m202 98 ls M) mq_gf_eq)
theorem s202_98 {d : Nat} {ls : mj_L} {st : List Value} {M : mj_H} : mj_Rn d mj_m202 98 ls st M = mj_Rn d mj_m202 99 ls (.int 3 :: st) M := mj_R0 (r := (.iconst 3, 1, 0, 0, 0)) rfl rfl
theorem s202_99 {d : Nat} {ls : mj_L} {st : List Value} {M : mj_H} : mj_Rn (d + 1) mj_m202 99 ls st M = mq_k5a (d + 1) mj_m202 102 ls M 45 (mq_cb 0 1 1 st M) := mj_R5e (r := (.invokevirtual 190, 3, 0, 45, 20603)) (z := mj_m45) rfl rfl (by decide) (by decide) rfl
theorem s202_102 {d : Nat} {ls : mj_L} {st : List Value} {M : mj_H} : mj_Rn d mj_m202 102 ls st M = mq_k0 d mj_m202 103 ls M (mj_lda (mj_lk ls 0) st) := mj_R0 (r := (.aload_n 0, 1, 0, 0, 0)) rfl rfl
theorem s202_103 {d : Nat} {ls : mj_L} {st : List Value} {M : mj_H} : mj_Rn d mj_m202 103 ls st M = mq_k0 d mj_m202 106 ls M (mq_gf 10 1 st M) := (mj_R3 (r := (.getfield 18, 3, 10, 1, 8488)) rfl rfl).trans (congrArg (mq_k0 d mj_m202 106 ls M) mq_gf_eq)
theorem s202_106 {d : Nat} {ls : mj_L} {st : List Value} {M : mj_H} : mj_Rn d mj_m202 106 ls st M = mj_Rn d mj_m202 107 ls (.int 5 :: st) M := mj_R0 (r := (.iconst 5, 1, 0, 0, 0)) rfl rfl
theorem s202_107 {d : Nat} {ls : mj_L} {st : List Value} {M : mj_H} : mj_Rn d mj_m202 107 ls st M = mj_Rn d mj_m202 108 ls (.int 1 :: st) M := mj_R0 (r := (.iconst 1, 1, 0, 0, 0)) rfl rfl
theorem s202_108 {d : Nat} {ls : mj_L} {st : List Value} {M : mj_H} : mj_Rn (d + 1) mj_m202 108 ls st M = mq_k5a (d + 1) mj_m202 111 ls M 131 (mq_cb 0 2 1 st M) := mj_R5e (r := (.invokevirtual 353, 3, 0, 131, 20628)) (z := mj_m131) rfl rfl (by decide) (by decide) rfl
theorem s202_111 {d : Nat} {ls : mj_L} {st : List Value} {M : mj_H} : mj_Rn d mj_m202 111 ls st M = mq_k0 d mj_m202 112 ls M (mj_lda (mj_lk ls 0) st) := mj_R0 (r := (.aload_n 0, 1, 0, 0, 0)) rfl rfl
theorem s202_112 {d : Nat} {ls : mj_L} {st : List Value} {M : mj_H} : mj_Rn d mj_m202 112 ls st M = mq_k0 d mj_m202 115 ls M (mq_gf 10 1 st M) := (mj_R3 (r := (.getfield 18, 3, 10, 1, 8488)) rfl rfl).trans (congrArg (mq_k0 d mj_m202 115 ls M) mq_gf_eq)
theorem s202_115 {d : Nat} {ls : mj_L} {st : List Value} {M : mj_H} : mj_Rn d mj_m202 115 ls st M = mj_Rn d mj_m202 118 ls (.ref 3 :: st) M := mj_R3 (r := (.ldc_w 362, 3, 2, 8, 20714)) rfl rfl
theorem s202_118 {d : Nat} {ls : mj_L} {st : List Value} {M : mj_H} : mj_Rn (d + 1) mj_m202 118 ls st M = mq_k5a (d + 1) mj_m202 121 ls M 132 (mq_cb 0 1 1 st M) := mj_R5e (r := (.invokevirtual 364, 3, 0, 132, 20715)) (z := mj_m132) rfl rfl (by decide) (by decide) rfl
theorem s202_121 {d : Nat} {ls : mj_L} {st : List Value} {M : mj_H} : mj_Rn d mj_m202 121 ls st M = mq_k0 d mj_m202 122 ls M (mj_lda (mj_lk ls 0) st) := mj_R0 (r := (.aload_n 0, 1, 0, 0, 0)) rfl rfl
theorem s202_122 {d : Nat} {ls : mj_L} {st : List Value} {M : mj_H} : mj_Rn d mj_m202 122 ls st M = mq_k0 d mj_m202 125 ls M (mq_gf 10 1 st M) := (mj_R3 (r := (.getfield 18, 3, 10, 1, 8488)) rfl rfl).trans (congrArg (mq_k0 d mj_m202 125 ls M) mq_gf_eq)
theorem s202_125 {d : Nat} {ls : mj_L} {st : List Value} {M : mj_H} : mj_Rn d mj_m202 125 ls st M = mj_Rn d mj_m202 126 ls (.int 2 :: st) M := mj_R0 (r := (.iconst 2, 1, 0, 0, 0)) rfl rfl
theorem s202_126 {d : Nat} {ls : mj_L} {st : List Value} {M : mj_H} : mj_Rn d mj_m202 126 ls st M = mq_k0 d mj_m202 128 ls M (mj_ldi (mj_lk ls 4) st) := mj_R0 (r := (.iload 4, 2, 0, 0, 0)) rfl rfl
theorem s202_128 {d : Nat} {ls : mj_L} {st : List Value} {M : mj_H} : mj_Rn (d + 1) mj_m202 128 ls st M = mq_k5a (d + 1) mj_m202 131 ls M 131 (mq_cb 0 2 1 st M) := mj_R5e (r := (.invokevirtual 353, 3, 0, 131, 20628)) (z := mj_m131) rfl rfl (by decide) (by decide) rfl
theorem s202_131 {d : Nat} {ls : mj_L} {st : List Value} {M : mj_H} : mj_Rn d mj_m202 131 ls st M = mq_k0 d mj_m202 132 ls M (mj_lda (mj_lk ls 0) st) := mj_R0 (r := (.aload_n 0, 1, 0, 0, 0)) rfl rfl
theorem s202_132 {d : Nat} {ls : mj_L} {st : List Value} {M : mj_H} : mj_Rn d mj_m202 132 ls st M = mq_k0 d mj_m202 135 ls M (mq_gf 10 1 st M) := (mj_R3 (r := (.getfield 18, 3, 10, 1, 8488)) rfl rfl).trans (congrArg (mq_k0 d mj_m202 135 ls M) mq_gf_eq)
theorem s202_135 {d : Nat} {ls : mj_L} {st : List Value} {M : mj_H} : mj_Rn d mj_m202 135 ls st M = mq_k0 d mj_m202 136 ls M (mj_ldl (mj_lk ls 2) st) := mj_R0 (r := (.lload_n 2, 1, 0, 0, 0)) rfl rfl
theorem s202_136 {d : Nat} {ls : mj_L} {st : List Value} {M : mj_H} : mj_Rn d mj_m202 136 ls st M = mq_k0 d mj_m202 138 ls M (mj_ldi (mj_lk ls 4) st) := mj_R0 (r := (.iload 4, 2, 0, 0, 0)) rfl rfl
theorem s202_138 {d : Nat} {ls : mj_L} {st : List Value} {M : mj_H} : mj_Rn (d + 1) mj_m202 138 ls st M = mq_k5a (d + 1) mj_m202 141 ls M 10 (mq_cb 0 2 1 st M) := mj_R5e (r := (.invokevirtual 69, 3, 0, 10, 4282)) (z := mj_m10) rfl rfl (by decide) (by decide) rfl
theorem s202_141 {d : Nat} {ls : mj_L} {st : List Value} {M : mj_H} : mj_Rn d mj_m202 141 ls st M = mq_k0 d mj_m202 142 ls M (mj_lda (mj_lk ls 0) st) := mj_R0 (r := (.aload_n 0, 1, 0, 0, 0)) rfl rfl
theorem s202_142 {d : Nat} {ls : mj_L} {st : List Value} {M : mj_H} : mj_Rn d mj_m202 142 ls st M = mq_k0 d mj_m202 145 ls M (mq_gf 10 1 st M) := (mj_R3 (r := (.getfield 18, 3, 10, 1, 8488)) rfl rfl).trans (congrArg (mq_k0 d mj_m202 145 ls M) mq_gf_eq)
theorem s202_145 {d : Nat} {ls : mj_L} {st : List Value} {M : mj_H} : mj_Rn d mj_m202 145 ls st M = mj_Rn d mj_m202 146 ls (.int 4 :: st) M := mj_R0 (r := (.iconst 4, 1, 0, 0, 0)) rfl rfl
theorem s202_146 {d : Nat} {ls : mj_L} {st : List Value} {M : mj_H} : mj_Rn (d + 1) mj_m202 146 ls st M = mq_k5a (d + 1) mj_m202 149 ls M 45 (mq_cb 0 1 1 st M) := mj_R5e (r := (.invokevirtual 190, 3, 0, 45, 20603)) (z := mj_m45) rfl rfl (by decide) (by decide) rfl
theorem s202_149 {d : Nat} {ls : mj_L} {st : List Value} {M : mj_H} : mj_Rn d mj_m202 149 ls st M = mq_k0 d mj_m202 150 ls M (mj_lda (mj_lk ls 0) st) := mj_R0 (r := (.aload_n 0, 1, 0, 0, 0)) rfl rfl
theorem s202_150 {d : Nat} {ls : mj_L} {st : List Value} {M : mj_H} : mj_Rn d mj_m202 150 ls st M = mq_k0 d mj_m202 153 ls M (mq_gf 10 1 st M) := (mj_R3 (r := (.getfield 18, 3, 10, 1, 8488)) rfl rfl).trans (congrArg (mq_k0 d mj_m202 153 ls M) mq_gf_eq)
theorem s202_153 {d : Nat} {ls : mj_L} {st : List Value} {M : mj_H} : mj_Rn d mj_m202 153 ls st M = mj_Rn d mj_m202 154 ls (.int 4 :: st) M := mj_R0 (r := (.iconst 4, 1, 0, 0, 0)) rfl rfl
theorem s202_154 {d : Nat} {ls : mj_L} {st : List Value} {M : mj_H} : mj_Rn d mj_m202 154 ls st M = mj_Rn d mj_m202 155 ls (.int 1 :: st) M := mj_R0 (r := (.iconst 1, 1, 0, 0, 0)) rfl rfl
theorem s202_155 {d : Nat} {ls : mj_L} {st : List Value} {M : mj_H} : mj_Rn (d + 1) mj_m202 155 ls st M = mq_k5a (d + 1) mj_m202 158 ls M 131 (mq_cb 0 2 1 st M) := mj_R5e (r := (.invokevirtual 353, 3, 0, 131, 20628)) (z := mj_m131) rfl rfl (by decide) (by decide) rfl
theorem s202_158 {d : Nat} {ls : mj_L} {st : List Value} {M : mj_H} : mj_Rn d mj_m202 158 ls st M = mq_k0 d mj_m202 159 ls M (mj_lda (mj_lk ls 0) st) := mj_R0 (r := (.aload_n 0, 1, 0, 0, 0)) rfl rfl
theorem s202_159 {d : Nat} {ls : mj_L} {st : List Value} {M : mj_H} : mj_Rn d mj_m202 159 ls st M = mq_k0 d mj_m202 162 ls M (mq_gf 10 1 st M) := (mj_R3 (r := (.getfield 18, 3, 10, 1, 8488)) rfl rfl).trans (congrArg (mq_k0 d mj_m202 162 ls M) mq_gf_eq)
theorem s202_162 {d : Nat} {ls : mj_L} {st : List Value} {M : mj_H} : mj_Rn d mj_m202 162 ls st M = mj_Rn d mj_m202 163 ls (.int 5 :: st) M := mj_R0 (r := (.iconst 5, 1, 0, 0, 0)) rfl rfl
theorem s202_163 {d : Nat} {ls : mj_L} {st : List Value} {M : mj_H} : mj_Rn d mj_m202 163 ls st M = mj_Rn d mj_m202 164 ls (.int 2 :: st) M := mj_R0 (r := (.iconst 2, 1, 0, 0, 0)) rfl rfl
theorem s202_164 {d : Nat} {ls : mj_L} {st : List Value} {M : mj_H} : mj_Rn (d + 1) mj_m202 164 ls st M = mq_k5a (d + 1) mj_m202 167 ls M 131 (mq_cb 0 2 1 st M) := mj_R5e (r := (.invokevirtual 353, 3, 0, 131, 20628)) (z := mj_m131) rfl rfl (by decide) (by decide) rfl
theorem s202_167 {d : Nat} {ls : mj_L} {st : List Value} {M : mj_H} : mj_Rn d mj_m202 167 ls st M = mq_k0 d mj_m202 168 ls M (mj_lda (mj_lk ls 0) st) := mj_R0 (r := (.aload_n 0, 1, 0, 0, 0)) rfl rfl
theorem s202_168 {d : Nat} {ls : mj_L} {st : List Value} {M : mj_H} : mj_Rn d mj_m202 168 ls st M = mq_k0 d mj_m202 171 ls M (mq_gf 10 1 st M) := (mj_R3 (r := (.getfield 18, 3, 10, 1, 8488)) rfl rfl).trans (congrArg (mq_k0 d mj_m202 171 ls M) mq_gf_eq)
theorem s202_171 {d : Nat} {ls : mj_L} {st : List Value} {M : mj_H} : mj_Rn d mj_m202 171 ls st M = mj_Rn d mj_m202 174 ls (.ref 5 :: st) M := mj_R3 (r := (.ldc_w 368, 3, 2, 11, 20716)) rfl rfl
theorem s202_174 {d : Nat} {ls : mj_L} {st : List Value} {M : mj_H} : mj_Rn (d + 1) mj_m202 174 ls st M = mq_k5a (d + 1) mj_m202 177 ls M 132 (mq_cb 0 1 1 st M) := mj_R5e (r := (.invokevirtual 364, 3, 0, 132, 20715)) (z := mj_m132) rfl rfl (by decide) (by decide) rfl
theorem s202_177 {d : Nat} {ls : mj_L} {st : List Value} {M : mj_H} : mj_Rn d mj_m202 177 ls st M = mq_k0 d mj_m202 178 ls M (mj_lda (mj_lk ls 0) st) := mj_R0 (r := (.aload_n 0, 1, 0, 0, 0)) rfl rfl
theorem s202_178 {d : Nat} {ls : mj_L} {st : List Value} {M : mj_H} : mj_Rn d mj_m202 178 ls st M = mq_k0 d mj_m202 181 ls M (mq_gf 10 1 st M) := (mj_R3 (r := (.getfield 18, 3, 10, 1, 8488)) rfl rfl).trans (congrArg (mq_k0 d mj_m202 181 ls M) mq_gf_eq)
theorem s202_181 {d : Nat} {ls : mj_L} {st : List Value} {M : mj_H} : mj_Rn d mj_m202 181 ls st M = mj_Rn d mj_m202 182 ls (.int 1 :: st) M := mj_R0 (r := (.iconst 1, 1, 0, 0, 0)) rfl rfl
theorem s202_182 {d : Nat} {ls : mj_L} {st : List Value} {M : mj_H} : mj_Rn d mj_m202 182 ls st M = mj_Rn d mj_m202 184 ls (.int 6 :: st) M := mj_R0 (r := (.bipush 6, 2, 0, 0, 0)) rfl rfl
theorem s202_184 {d : Nat} {ls : mj_L} {st : List Value} {M : mj_H} : mj_Rn (d + 1) mj_m202 184 ls st M = mq_k5a (d + 1) mj_m202 187 ls M 131 (mq_cb 0 2 1 st M) := mj_R5e (r := (.invokevirtual 353, 3, 0, 131, 20628)) (z := mj_m131) rfl rfl (by decide) (by decide) rfl
theorem s202_187 {d : Nat} {ls : mj_L} {st : List Value} {M : mj_H} : mj_Rn d mj_m202 187 ls st M = mq_k0 d mj_m202 188 ls M (mj_lda (mj_lk ls 0) st) := mj_R0 (r := (.aload_n 0, 1, 0, 0, 0)) rfl rfl
theorem s202_188 {d : Nat} {ls : mj_L} {st : List Value} {M : mj_H} : mj_Rn d mj_m202 188 ls st M = mq_k0 d mj_m202 191 ls M (mq_gf 10 1 st M) := (mj_R3 (r := (.getfield 18, 3, 10, 1, 8488)) rfl rfl).trans (congrArg (mq_k0 d mj_m202 191 ls M) mq_gf_eq)
theorem s202_191 {d : Nat} {ls : mj_L} {st : List Value} {M : mj_H} : mj_Rn d mj_m202 191 ls st M = mj_Rn d mj_m202 194 ls (.ref 7 :: st) M := mj_R3 (r := (.ldc_w 370, 3, 2, 12, 20717)) rfl rfl
theorem s202_194 {d : Nat} {ls : mj_L} {st : List Value} {M : mj_H} : mj_Rn (d + 1) mj_m202 194 ls st M = mq_k5a (d + 1) mj_m202 197 ls M 132 (mq_cb 0 1 1 st M) := mj_R5e (r := (.invokevirtual 364, 3, 0, 132, 20715)) (z := mj_m132) rfl rfl (by decide) (by decide) rfl
theorem s202_197 {d : Nat} {ls : mj_L} {st : List Value} {M : mj_H} : mj_Rn d mj_m202 197 ls st M = mq_k0 d mj_m202 198 ls M (mj_lda (mj_lk ls 0) st) := mj_R0 (r := (.aload_n 0, 1, 0, 0, 0)) rfl rfl
theorem s202_198 {d : Nat} {ls : mj_L} {st : List Value} {M : mj_H} : mj_Rn d mj_m202 198 ls st M = mq_k0 d mj_m202 201 ls M (mq_gf 10 1 st M) := (mj_R3 (r := (.getfield 18, 3, 10, 1, 8488)) rfl rfl).trans (congrArg (mq_k0 d mj_m202 201 ls M) mq_gf_eq)
theorem s202_201 {d : Nat} {ls : mj_L} {st : List Value} {M : mj_H} : mj_Rn d mj_m202 201 ls st M = mj_Rn d mj_m202 204 ls (.ref 13 :: st) M := mj_R3 (r := (.ldc_w 372, 3, 2, 13, 20718)) rfl rfl
theorem s202_204 {d : Nat} {ls : mj_L} {st : List Value} {M : mj_H} : mj_Rn (d + 1) mj_m202 204 ls st M = mq_k5a (d + 1) mj_m202 207 ls M 132 (mq_cb 0 1 1 st M) := mj_R5e (r := (.invokevirtual 364, 3, 0, 132, 20715)) (z := mj_m132) rfl rfl (by decide) (by decide) rfl
theorem s202_207 {d : Nat} {ls : mj_L} {st : List Value} {M : mj_H} : mj_Rn d mj_m202 207 ls st M = mq_k6 M (mj_re none (.return_) st) := mj_R6 (r := (.return_, 1, 0, 0, 0)) rfl rfl
/- 203 PasskeyHouse.pushAccounts(LPasskeyHouse$Party;JII)V -/
theorem s203_0 {d : Nat} {ls : mj_L} {st : List Value} {M : mj_H} : mj_Rn d mj_m203 0 ls st M = mq_k0 d mj_m203 1 ls M (mj_lda (mj_lk ls 0) st) := mj_R0 (r := (.aload_n 0, 1, 0, 0, 0)) rfl rfl
theorem s203_1 {d : Nat} {ls : mj_L} {st : List Value} {M : mj_H} : mj_Rn d mj_m203 1 ls st M = mq_k0 d mj_m203 4 ls M (mq_gf 10 1 st M) := (mj_R3 (r := (.getfield 18, 3, 10, 1, 8488)) rfl rfl).trans (congrArg (mq_k0 d mj_m203 4 ls M) mq_gf_eq)
theorem s203_4 {d : Nat} {ls : mj_L} {st : List Value} {M : mj_H} : mj_Rn d mj_m203 4 ls st M = mj_Rn d mj_m203 5 ls (.int 4 :: st) M := mj_R0 (r := (.iconst 4, 1, 0, 0, 0)) rfl rfl
theorem s203_5 {d : Nat} {ls : mj_L} {st : List Value} {M : mj_H} : mj_Rn d mj_m203 5 ls st M = mq_k0 d mj_m203 7 ls M (mj_ldi (mj_lk ls 5) st) := mj_R0 (r := (.iload 5, 2, 0, 0, 0)) rfl rfl
theorem s203_7 {d : Nat} {ls : mj_L} {st : List Value} {M : mj_H} : mj_Rn (d + 1) mj_m203 7 ls st M = mq_k5a (d + 1) mj_m203 10 ls M 131 (mq_cb 0 2 1 st M) := mj_R5e (r := (.invokevirtual 353, 3, 0, 131, 20628)) (z := mj_m131) rfl rfl (by decide) (by decide) rfl
theorem s203_10 {d : Nat} {ls : mj_L} {st : List Value} {M : mj_H} : mj_Rn d mj_m203 10 ls st M = mj_Rn d mj_m203 11 ls (.int 0 :: st) M := mj_R0 (r := (.iconst 0, 1, 0, 0, 0)) rfl rfl
theorem s203_11 {d : Nat} {ls : mj_L} {st : List Value} {M : mj_H} : mj_Rn d mj_m203 11 ls st M = mq_k1 d mj_m203 13 M (mj_lo 8 (.istore 6) ls st) := mj_R1 (r := (.istore 6, 2, 0, 0, 0)) rfl rfl
theorem s203_13 {d : Nat} {ls : mj_L} {st : List Value} {M : mj_H} : mj_Rn d mj_m203 13 ls st M = mq_k0 d mj_m203 14 ls M (mj_lda (mj_lk ls 1) st) := mj_R0 (r := (.aload_n 1, 1, 0, 0, 0)) rfl rfl
theorem s203_14 {d : Nat} {ls : mj_L} {st : List Value} {M : mj_H} : mj_Rn d mj_m203 14 ls st M = mq_k2 d mj_m203 ls M (mj_br (.ifnull 93) 14 st) := mj_R2 (r := (.ifnull 93, 3, 0, 0, 0)) rfl rfl
theorem s203_17 {d : Nat} {ls : mj_L} {st : List Value} {M : mj_H} : mj_Rn d mj_m203 17 ls st M = mq_k0 d mj_m203 19 ls M (mj_ldi (mj_lk ls 6) st) := mj_R0 (r := (.iload 6, 2, 0, 0, 0)) rfl rfl
theorem s203_19 {d : Nat} {ls : mj_L} {st : List Value} {M : mj_H} : mj_Rn d mj_m203 19 ls st M = mq_k0 d mj_m203 20 ls M (mj_lda (mj_lk ls 1) st) := mj_R0 (r := (.aload_n 1, 1, 0, 0, 0)) rfl rfl
theorem s203_20 {d : Nat} {ls : mj_L} {st : List Value} {M : mj_H} : mj_Rn d mj_m203 20 ls st M = mq_k0 d mj_m203 23 ls M (mq_gf 7 5 st M) := (mj_R3 (r := (.getfield 376, 3, 7, 5, 49377)) rfl rfl).trans (congrArg (mq_k0 d mj_m203 23 ls M) mq_gf_eq)
theorem s203_23 {d : Nat} {ls : mj_L} {st : List Value} {M : mj_H} : mj_Rn d mj_m203 23 ls st M = mq_k2 d mj_m203 ls M (mj_br (.if_icmp .ge 84) 23 st) := mj_R2 (r := (.if_icmp .ge 84, 3, 0, 0, 0)) rfl rfl
theorem s203_26 {d : Nat} {ls : mj_L} {st : List Value} {M : mj_H} : mj_Rn d mj_m203 26 ls st M = mq_k0 d mj_m203 27 ls M (mj_lda (mj_lk ls 1) st) := mj_R0 (r := (.aload_n 1, 1, 0, 0, 0)) rfl rfl
theorem s203_27 {d : Nat} {ls : mj_L} {st : List Value} {M : mj_H} : mj_Rn d mj_m203 27 ls st M = mq_k0 d mj_m203 29 ls M (mj_ldi (mj_lk ls 6) st) := mj_R0 (r := (.iload 6, 2, 0, 0, 0)) rfl rfl
theorem s203_29 {d : Nat} {ls : mj_L} {st : List Value} {M : mj_H} : mj_Rn (d + 1) mj_m203 29 ls st M = mq_k5a (d + 1) mj_m203 32 ls M 200 (mq_cb 0 1 7 st M) := mj_R5e (r := (.invokevirtual 333, 3, 0, 200, 24579)) (z := mj_m200) rfl rfl (by decide) (by decide) rfl
theorem s203_32 {d : Nat} {ls : mj_L} {st : List Value} {M : mj_H} : mj_Rn d mj_m203 32 ls st M = mq_k1 d mj_m203 34 M (mj_lo 8 (.astore 7) ls st) := mj_R1 (r := (.astore 7, 2, 0, 0, 0)) rfl rfl
theorem s203_34 {d : Nat} {ls : mj_L} {st : List Value} {M : mj_H} : mj_Rn d mj_m203 34 ls st M = mq_k0 d mj_m203 36 ls M (mj_lda (mj_lk ls 7) st) := mj_R0 (r := (.aload 7, 2, 0, 0, 0)) rfl rfl
theorem s203_36 {d : Nat} {ls : mj_L} {st : List Value} {M : mj_H} : mj_Rn d mj_m203 36 ls st M = mq_k2 d mj_m203 ls M (mj_br (.ifnull 65) 36 st) := mj_R2 (r := (.ifnull 65, 3, 0, 0, 0)) rfl rfl
theorem s203_39 {d : Nat} {ls : mj_L} {st : List Value} {M : mj_H} : mj_Rn d mj_m203 39 ls st M = mq_k0 d mj_m203 41 ls M (mj_lda (mj_lk ls 7) st) := mj_R0 (r := (.aload 7, 2, 0, 0, 0)) rfl rfl
theorem s203_41 {d : Nat} {ls : mj_L} {st : List Value} {M : mj_H} : mj_Rn d mj_m203 41 ls st M = mq_k0 d mj_m203 42 ls M (mj_ldl (mj_lk ls 2) st) := mj_R0 (r := (.lload_n 2, 1, 0, 0, 0)) rfl rfl
theorem s203_42 {d : Nat} {ls : mj_L} {st : List Value} {M : mj_H} : mj_Rn d mj_m203 42 ls st M = mq_k0 d mj_m203 44 ls M (mj_ldi (mj_lk ls 4) st) := mj_R0 (r := (.iload 4, 2, 0, 0, 0)) rfl rfl
theorem s203_44 {d : Nat} {ls : mj_L} {st : List Value} {M : mj_H} : mj_Rn (d + 1) mj_m203 44 ls st M = mq_k5a (d + 1) mj_m203 47 ls M 201 (mq_cb 0 2 0 st M) := mj_R5e (r := (.invokevirtual 379, 3, 0, 201, 24580)) (z := mj_m201) rfl rfl (by decide) (by decide) rfl
theorem s203_47 {d : Nat} {ls : mj_L} {st : List Value} {M : mj_H} : mj_Rn d mj_m203 47 ls st M = mq_k2 d mj_m203 ls M (mj_br (.ifCond .eq 54) 47 st) := mj_R2 (r := (.ifCond .eq 54, 3, 0, 0, 0)) rfl rfl
theorem s203_50 {d : Nat} {ls : mj_L} {st : List Value} {M : mj_H} : mj_Rn d mj_m203 50 ls st M = mq_k0 d mj_m203 51 ls M (mj_lda (mj_lk ls 0) st) := mj_R0 (r := (.aload_n 0, 1, 0, 0, 0)) rfl rfl
theorem s203_51 {d : Nat} {ls : mj_L} {st : List Value} {M : mj_H} : mj_Rn d mj_m203 51 ls st M = mq_k0 d mj_m203 54 ls M (mq_gf 10 1 st M) := (mj_R3 (r := (.getfield 18, 3, 10, 1, 8488)) rfl rfl).trans (congrArg (mq_k0 d mj_m203 54 ls M) mq_gf_eq)
theorem s203_54 {d : Nat} {ls : mj_L} {st : List Value} {M : mj_H} : mj_Rn d mj_m203 54 ls st M = mj_Rn d mj_m203 55 ls (.int 5 :: st) M := mj_R0 (r := (.iconst 5, 1, 0, 0, 0)) rfl rfl
theorem s203_55 {d : Nat} {ls : mj_L} {st : List Value} {M : mj_H} : mj_Rn d mj_m203 55 ls st M = mj_Rn d mj_m203 56 ls (.int 2 :: st) M := mj_R0 (r := (.iconst 2, 1, 0, 0, 0)) rfl rfl
theorem s203_56 {d : Nat} {ls : mj_L} {st : List Value} {M : mj_H} : mj_Rn (d + 1) mj_m203 56 ls st M = mq_k5a (d + 1) mj_m203 59 ls M 131 (mq_cb 0 2 1 st M) := mj_R5e (r := (.invokevirtual 353, 3, 0, 131, 20628)) (z := mj_m131) rfl rfl (by decide) (by decide) rfl
theorem s203_59 {d : Nat} {ls : mj_L} {st : List Value} {M : mj_H} : mj_Rn d mj_m203 59 ls st M = mq_k0 d mj_m203 60 ls M (mj_lda (mj_lk ls 0) st) := mj_R0 (r := (.aload_n 0, 1, 0, 0, 0)) rfl rfl
theorem s203_60 {d : Nat} {ls : mj_L} {st : List Value} {M : mj_H} : mj_Rn d mj_m203 60 ls st M = mq_k0 d mj_m203 63 ls M (mq_gf 10 1 st M) := (mj_R3 (r := (.getfield 18, 3, 10, 1, 8488)) rfl rfl).trans (congrArg (mq_k0 d mj_m203 63 ls M) mq_gf_eq)
theorem s203_63 {d : Nat} {ls : mj_L} {st : List Value} {M : mj_H} : mj_Rn d mj_m203 63 ls st M = mj_Rn d mj_m203 66 ls (.ref 3 :: st) M := mj_R3 (r := (.ldc_w 362, 3, 2, 8, 20714)) rfl rfl
theorem s203_66 {d : Nat} {ls : mj_L} {st : List Value} {M : mj_H} : mj_Rn (d + 1) mj_m203 66 ls st M = mq_k5a (d + 1) mj_m203 69 ls M 132 (mq_cb 0 1 1 st M) := mj_R5e (r := (.invokevirtual 364, 3, 0, 132, 20715)) (z := mj_m132) rfl rfl (by decide) (by decide) rfl
theorem s203_69 {d : Nat} {ls : mj_L} {st : List Value} {M : mj_H} : mj_Rn d mj_m203 69 ls st M = mq_k0 d mj_m203 70 ls M (mj_lda (mj_lk ls 0) st) := mj_R0 (r := (.aload_n 0, 1, 0, 0, 0)) rfl rfl
theorem s203_70 {d : Nat} {ls : mj_L} {st : List Value} {M : mj_H} : mj_Rn d mj_m203 70 ls st M = mq_k0 d mj_m203 73 ls M (mq_gf 10 1 st M) := (mj_R3 (r := (.getfield 18, 3, 10, 1, 8488)) rfl rfl).trans (congrArg (mq_k0 d mj_m203 73 ls M) mq_gf_eq)
theorem s203_73 {d : Nat} {ls : mj_L} {st : List Value} {M : mj_H} : mj_Rn d mj_m203 73 ls st M = mq_k0 d mj_m203 75 ls M (mj_lda (mj_lk ls 7) st) := mj_R0 (r := (.aload 7, 2, 0, 0, 0)) rfl rfl
theorem s203_75 {d : Nat} {ls : mj_L} {st : List Value} {M : mj_H} : mj_Rn d mj_m203 75 ls st M = mq_k0 d mj_m203 78 ls M (mq_gf 0 0 st M) := (mj_R3 (r := (.getfield 383, 3, 0, 0, 49311)) rfl rfl).trans (congrArg (mq_k0 d mj_m203 78 ls M) mq_gf_eq)
theorem s203_78 {d : Nat} {ls : mj_L} {st : List Value} {M : mj_H} : mj_Rn (d + 1) mj_m203 78 ls st M = mq_k5a (d + 1) mj_m203 81 ls M 134 (mq_cb 0 1 1 st M) := mj_R5e (r := (.invokevirtual 222, 3, 0, 134, 20647)) (z := mj_m134) rfl rfl (by decide) (by decide) rfl
theorem s203_81 {d : Nat} {ls : mj_L} {st : List Value} {M : mj_H} : mj_Rn d mj_m203 81 ls st M = mq_k0 d mj_m203 82 ls M (mj_lda (mj_lk ls 0) st) := mj_R0 (r := (.aload_n 0, 1, 0, 0, 0)) rfl rfl
theorem s203_82 {d : Nat} {ls : mj_L} {st : List Value} {M : mj_H} : mj_Rn d mj_m203 82 ls st M = mq_k0 d mj_m203 85 ls M (mq_gf 10 1 st M) := (mj_R3 (r := (.getfield 18, 3, 10, 1, 8488)) rfl rfl).trans (congrArg (mq_k0 d mj_m203 85 ls M) mq_gf_eq)
theorem s203_85 {d : Nat} {ls : mj_L} {st : List Value} {M : mj_H} : mj_Rn d mj_m203 85 ls st M = mj_Rn d mj_m203 88 ls (.ref 7 :: st) M := mj_R3 (r := (.ldc_w 370, 3, 2, 12, 20717)) rfl rfl
theorem s203_88 {d : Nat} {ls : mj_L} {st : List Value} {M : mj_H} : mj_Rn (d + 1) mj_m203 88 ls st M = mq_k5a (d + 1) mj_m203 91 ls M 132 (mq_cb 0 1 1 st M) := mj_R5e (r := (.invokevirtual 364, 3, 0, 132, 20715)) (z := mj_m132) rfl rfl (by decide) (by decide) rfl
theorem s203_91 {d : Nat} {ls : mj_L} {st : List Value} {M : mj_H} : mj_Rn d mj_m203 91 ls st M = mq_k0 d mj_m203 92 ls M (mj_lda (mj_lk ls 0) st) := mj_R0 (r := (.aload_n 0, 1, 0, 0, 0)) rfl rfl
theorem s203_92 {d : Nat} {ls : mj_L} {st : List Value} {M : mj_H} : mj_Rn d mj_m203 92 ls st M = mq_k0 d mj_m203 95 ls M (mq_gf 10 1 st M) := (mj_R3 (r := (.getfield 18, 3, 10, 1, 8488)) rfl rfl).trans (congrArg (mq_k0 d mj_m203 95 ls M) mq_gf_eq)
theorem s203_95 {d : Nat} {ls : mj_L} {st : List Value} {M : mj_H} : mj_Rn d mj_m203 95 ls st M = mj_Rn d mj_m203 98 ls (.ref 13 :: st) M := mj_R3 (r := (.ldc_w 372, 3, 2, 13, 20718)) rfl rfl
theorem s203_98 {d : Nat} {ls : mj_L} {st : List Value} {M : mj_H} : mj_Rn (d + 1) mj_m203 98 ls st M = mq_k5a (d + 1) mj_m203 101 ls M 132 (mq_cb 0 1 1 st M) := mj_R5e (r := (.invokevirtual 364, 3, 0, 132, 20715)) (z := mj_m132) rfl rfl (by decide) (by decide) rfl
theorem s203_101 {d : Nat} {ls : mj_L} {st : List Value} {M : mj_H} : mj_Rn d mj_m203 101 ls st M = mq_k1 d mj_m203 104 M (mj_lo 8 (.iinc 6 1) ls st) := mj_R1 (r := (.iinc 6 1, 3, 0, 0, 0)) rfl rfl
theorem s203_104 {d : Nat} {ls : mj_L} {st : List Value} {M : mj_H} : mj_Rn d mj_m203 104 ls st M = mj_Rn d mj_m203 13 ls st M := mj_R2 (r := (.goto (-91), 3, 0, 0, 0)) rfl rfl
theorem s203_107 {d : Nat} {ls : mj_L} {st : List Value} {M : mj_H} : mj_Rn d mj_m203 107 ls st M = mq_k6 M (mj_re none (.return_) st) := mj_R6 (r := (.return_, 1, 0, 0, 0)) rfl rfl
/- 206 PasskeyHouse.beginResponse(IILPasskeyHouse$Bytes;)V -/
theorem s206_0 {d : Nat} {ls : mj_L} {st : List Value} {M : mj_H} : mj_Rn d mj_m206 0 ls st M = mq_k0 d mj_m206 1 ls M (mj_lda (mj_lk ls 0) st) := mj_R0 (r := (.aload_n 0, 1, 0, 0, 0)) rfl rfl
theorem s206_1 {d : Nat} {ls : mj_L} {st : List Value} {M : mj_H} : mj_Rn d mj_m206 1 ls st M = mq_k0 d mj_m206 4 ls M (mq_gf 10 0 st M) := (mj_R3 (r := (.getfield 14, 3, 10, 0, 8486)) rfl rfl).trans (congrArg (mq_k0 d mj_m206 4 ls M) mq_gf_eq)
theorem s206_4 {d : Nat} {ls : mj_L} {st : List Value} {M : mj_H} : mj_Rn (d + 1) mj_m206 4 ls st M = mq_k5a (d + 1) mj_m206 7 ls M 12 (mq_cb 0 0 1 st M) := mj_R5e (r := (.invokevirtual 73, 3, 0, 12, 4290)) (z := mj_m12) rfl rfl (by decide) (by decide) rfl
theorem s206_7 {d : Nat} {ls : mj_L} {st : List Value} {M : mj_H} : mj_Rn d mj_m206 7 ls st M = mq_k0 d mj_m206 8 ls M (mj_lda (mj_lk ls 0) st) := mj_R0 (r := (.aload_n 0, 1, 0, 0, 0)) rfl rfl
theorem s206_8 {d : Nat} {ls : mj_L} {st : List Value} {M : mj_H} : mj_Rn d mj_m206 8 ls st M = mq_k0 d mj_m206 11 ls M (mq_gf 10 0 st M) := (mj_R3 (r := (.getfield 14, 3, 10, 0, 8486)) rfl rfl).trans (congrArg (mq_k0 d mj_m206 11 ls M) mq_gf_eq)
theorem s206_11 {d : Nat} {ls : mj_L} {st : List Value} {M : mj_H} : mj_Rn d mj_m206 11 ls st M = mq_k0 d mj_m206 12 ls M (mj_ldi (mj_lk ls 1) st) := mj_R0 (r := (.iload_n 1, 1, 0, 0, 0)) rfl rfl
theorem s206_12 {d : Nat} {ls : mj_L} {st : List Value} {M : mj_H} : mj_Rn (d + 1) mj_m206 12 ls st M = mq_k5a (d + 1) mj_m206 15 ls M 45 (mq_cb 0 1 1 st M) := mj_R5e (r := (.invokevirtual 190, 3, 0, 45, 20603)) (z := mj_m45) rfl rfl (by decide) (by decide) rfl
theorem s206_15 {d : Nat} {ls : mj_L} {st : List Value} {M : mj_H} : mj_Rn d mj_m206 15 ls st M = mq_k0 d mj_m206 16 ls M (mj_lda (mj_lk ls 0) st) := mj_R0 (r := (.aload_n 0, 1, 0, 0, 0)) rfl rfl
theorem s206_16 {d : Nat} {ls : mj_L} {st : List Value} {M : mj_H} : mj_Rn d mj_m206 16 ls st M = mq_k0 d mj_m206 19 ls M (mq_gf 10 0 st M) := (mj_R3 (r := (.getfield 14, 3, 10, 0, 8486)) rfl rfl).trans (congrArg (mq_k0 d mj_m206 19 ls M) mq_gf_eq)
theorem s206_19 {d : Nat} {ls : mj_L} {st : List Value} {M : mj_H} : mj_Rn d mj_m206 19 ls st M = mq_k0 d mj_m206 20 ls M (mj_ldi (mj_lk ls 2) st) := mj_R0 (r := (.iload_n 2, 1, 0, 0, 0)) rfl rfl
theorem s206_20 {d : Nat} {ls : mj_L} {st : List Value} {M : mj_H} : mj_Rn d mj_m206 20 ls st M = mq_k0 d mj_m206 21 ls M (mj_pu .i2l ls st) := mj_R0 (r := (.i2l, 1, 0, 0, 0)) rfl rfl
theorem s206_21 {d : Nat} {ls : mj_L} {st : List Value} {M : mj_H} : mj_Rn d mj_m206 21 ls st M = mj_Rn d mj_m206 22 ls (.int 4 :: st) M := mj_R0 (r := (.iconst 4, 1, 0, 0, 0)) rfl rfl
theorem s206_22 {d : Nat} {ls : mj_L} {st : List Value} {M : mj_H} : mj_Rn (d + 1) mj_m206 22 ls st M = mq_k5a (d + 1) mj_m206 25 ls M 10 (mq_cb 0 2 1 st M) := mj_R5e (r := (.invokevirtual 69, 3, 0, 10, 4282)) (z := mj_m10) rfl rfl (by decide) (by decide) rfl
theorem s206_25 {d : Nat} {ls : mj_L} {st : List Value} {M : mj_H} : mj_Rn d mj_m206 25 ls st M = mq_k0 d mj_m206 26 ls M (mj_lda (mj_lk ls 0) st) := mj_R0 (r := (.aload_n 0, 1, 0, 0, 0)) rfl rfl
theorem s206_26 {d : Nat} {ls : mj_L} {st : List Value} {M : mj_H} : mj_Rn d mj_m206 26 ls st M = mq_k0 d mj_m206 29 ls M (mq_gf 10 0 st M) := (mj_R3 (r := (.getfield 14, 3, 10, 0, 8486)) rfl rfl).trans (congrArg (mq_k0 d mj_m206 29 ls M) mq_gf_eq)
theorem s206_29 {d : Nat} {ls : mj_L} {st : List Value} {M : mj_H} : mj_Rn d mj_m206 29 ls st M = mq_k0 d mj_m206 30 ls M (mj_lda (mj_lk ls 3) st) := mj_R0 (r := (.aload_n 3, 1, 0, 0, 0)) rfl rfl
theorem s206_30 {d : Nat} {ls : mj_L} {st : List Value} {M : mj_H} : mj_Rn (d + 1) mj_m206 30 ls st M = mq_k5a (d + 1) mj_m206 33 ls M 9 (mq_cb 0 0 1 st M) := mj_R5e (r := (.invokevirtual 65, 3, 0, 9, 4278)) (z := mj_m9) rfl rfl (by decide) (by decide) rfl
theorem s206_33 {d : Nat} {ls : mj_L} {st : List Value} {M : mj_H} : mj_Rn (d + 1) mj_m206 33 ls st M = mq_k5a (d + 1) mj_m206 36 ls M 45 (mq_cb 0 1 1 st M) := mj_R5e (r := (.invokevirtual 190, 3, 0, 45, 20603)) (z := mj_m45) rfl rfl (by decide) (by decide) rfl
theorem s206_36 {d : Nat} {ls : mj_L} {st : List Value} {M : mj_H} : mj_Rn d mj_m206 36 ls st M = mq_k0 d mj_m206 37 ls M (mj_lda (mj_lk ls 0) st) := mj_R0 (r := (.aload_n 0, 1, 0, 0, 0)) rfl rfl
theorem s206_37 {d : Nat} {ls : mj_L} {st : List Value} {M : mj_H} : mj_Rn d mj_m206 37 ls st M = mq_k0 d mj_m206 40 ls M (mq_gf 10 0 st M) := (mj_R3 (r := (.getfield 14, 3, 10, 0, 8486)) rfl rfl).trans (congrArg (mq_k0 d mj_m206 40 ls M) mq_gf_eq)
theorem s206_40 {d : Nat} {ls : mj_L} {st : List Value} {M : mj_H} : mj_Rn d mj_m206 40 ls st M = mq_k0 d mj_m206 41 ls M (mj_lda (mj_lk ls 3) st) := mj_R0 (r := (.aload_n 3, 1, 0, 0, 0)) rfl rfl
theorem s206_41 {d : Nat} {ls : mj_L} {st : List Value} {M : mj_H} : mj_Rn d mj_m206 41 ls st M = mj_Rn d mj_m206 42 ls (.int 0 :: st) M := mj_R0 (r := (.iconst 0, 1, 0, 0, 0)) rfl rfl
theorem s206_42 {d : Nat} {ls : mj_L} {st : List Value} {M : mj_H} : mj_Rn d mj_m206 42 ls st M = mq_k0 d mj_m206 43 ls M (mj_lda (mj_lk ls 3) st) := mj_R0 (r := (.aload_n 3, 1, 0, 0, 0)) rfl rfl
theorem s206_43 {d : Nat} {ls : mj_L} {st : List Value} {M : mj_H} : mj_Rn (d + 1) mj_m206 43 ls st M = mq_k5a (d + 1) mj_m206 46 ls M 9 (mq_cb 0 0 1 st M) := mj_R5e (r := (.invokevirtual 65, 3, 0, 9, 4278)) (z := mj_m9) rfl rfl (by decide) (by decide) rfl
theorem s206_46 {d : Nat} {ls : mj_L} {st : List Value} {M : mj_H} : mj_Rn (d + 1) mj_m206 46 ls st M = mq_k5a (d + 1) mj_m206 49 ls M 77 (mq_cb 0 3 1 st M) := mj_R5e (r := (.invokevirtual 118, 3, 0, 77, 12429)) (z := mj_m77) rfl rfl (by decide) (by decide) rfl
theorem s206_49 {d : Nat} {ls : mj_L} {st : List Value} {M : mj_H} : mj_Rn d mj_m206 49 ls st M = mq_k6 M (mj_re none (.return_) st) := mj_R6 (r := (.return_, 1, 0, 0, 0)) rfl rfl
/- 207 PasskeyHouse.endResponse(LPasskeyHouse$Bytes;III)V -/
theorem s207_0 {d : Nat} {ls : mj_L} {st : List Value} {M : mj_H} : mj_Rn d mj_m207 0 ls st M = mq_k0 d mj_m207 1 ls M (mj_lda (mj_lk ls 0) st) := mj_R0 (r := (.aload_n 0, 1, 0, 0, 0)) rfl rfl
theorem s207_1 {d : Nat} {ls : mj_L} {st : List Value} {M : mj_H} : mj_Rn d mj_m207 1 ls st M = mq_k0 d mj_m207 4 ls M (mq_gf 10 0 st M) := (mj_R3 (r := (.getfield 14, 3, 10, 0, 8486)) rfl rfl).trans (congrArg (mq_k0 d mj_m207 4 ls M) mq_gf_eq)
theorem s207_4 {d : Nat} {ls : mj_L} {st : List Value} {M : mj_H} : mj_Rn d mj_m207 4 ls st M = mq_k0 d mj_m207 5 ls M (mj_lda (mj_lk ls 1) st) := mj_R0 (r := (.aload_n 1, 1, 0, 0, 0)) rfl rfl
theorem s207_5 {d : Nat} {ls : mj_L} {st : List Value} {M : mj_H} : mj_Rn d mj_m207 5 ls st M = mq_k0 d mj_m207 6 ls M (mj_ldi (mj_lk ls 2) st) := mj_R0 (r := (.iload_n 2, 1, 0, 0, 0)) rfl rfl
theorem s207_6 {d : Nat} {ls : mj_L} {st : List Value} {M : mj_H} : mj_Rn d mj_m207 6 ls st M = mj_Rn d mj_m207 7 ls (.int 4 :: st) M := mj_R0 (r := (.iconst 4, 1, 0, 0, 0)) rfl rfl
theorem s207_7 {d : Nat} {ls : mj_L} {st : List Value} {M : mj_H} : mj_Rn (d + 1) mj_m207 7 ls st M = mq_k5a (d + 1) mj_m207 10 ls M 77 (mq_cb 0 3 1 st M) := mj_R5e (r := (.invokevirtual 118, 3, 0, 77, 12429)) (z := mj_m77) rfl rfl (by decide) (by decide) rfl
theorem s207_10 {d : Nat} {ls : mj_L} {st : List Value} {M : mj_H} : mj_Rn d mj_m207 10 ls st M = mq_k0 d mj_m207 11 ls M (mj_lda (mj_lk ls 0) st) := mj_R0 (r := (.aload_n 0, 1, 0, 0, 0)) rfl rfl
theorem s207_11 {d : Nat} {ls : mj_L} {st : List Value} {M : mj_H} : mj_Rn d mj_m207 11 ls st M = mq_k0 d mj_m207 14 ls M (mq_gf 10 0 st M) := (mj_R3 (r := (.getfield 14, 3, 10, 0, 8486)) rfl rfl).trans (congrArg (mq_k0 d mj_m207 14 ls M) mq_gf_eq)
theorem s207_14 {d : Nat} {ls : mj_L} {st : List Value} {M : mj_H} : mj_Rn d mj_m207 14 ls st M = mq_k0 d mj_m207 16 ls M (mj_ldi (mj_lk ls 4) st) := mj_R0 (r := (.iload 4, 2, 0, 0, 0)) rfl rfl
theorem s207_16 {d : Nat} {ls : mj_L} {st : List Value} {M : mj_H} : mj_Rn (d + 1) mj_m207 16 ls st M = mq_k5a (d + 1) mj_m207 19 ls M 45 (mq_cb 0 1 1 st M) := mj_R5e (r := (.invokevirtual 190, 3, 0, 45, 20603)) (z := mj_m45) rfl rfl (by decide) (by decide) rfl
theorem s207_19 {d : Nat} {ls : mj_L} {st : List Value} {M : mj_H} : mj_Rn d mj_m207 19 ls st M = mq_k0 d mj_m207 20 ls M (mj_lda (mj_lk ls 0) st) := mj_R0 (r := (.aload_n 0, 1, 0, 0, 0)) rfl rfl
theorem s207_20 {d : Nat} {ls : mj_L} {st : List Value} {M : mj_H} : mj_Rn d mj_m207 20 ls st M = mq_k0 d mj_m207 23 ls M (mq_gf 10 0 st M) := (mj_R3 (r := (.getfield 14, 3, 10, 0, 8486)) rfl rfl).trans (congrArg (mq_k0 d mj_m207 23 ls M) mq_gf_eq)
theorem s207_23 {d : Nat} {ls : mj_L} {st : List Value} {M : mj_H} : mj_Rn d mj_m207 23 ls st M = mq_k0 d mj_m207 24 ls M (mj_lda (mj_lk ls 1) st) := mj_R0 (r := (.aload_n 1, 1, 0, 0, 0)) rfl rfl
theorem s207_24 {d : Nat} {ls : mj_L} {st : List Value} {M : mj_H} : mj_Rn d mj_m207 24 ls st M = mq_k0 d mj_m207 25 ls M (mj_ldi (mj_lk ls 3) st) := mj_R0 (r := (.iload_n 3, 1, 0, 0, 0)) rfl rfl
theorem s207_25 {d : Nat} {ls : mj_L} {st : List Value} {M : mj_H} : mj_Rn d mj_m207 25 ls st M = mq_k0 d mj_m207 27 ls M (mj_ldi (mj_lk ls 4) st) := mj_R0 (r := (.iload 4, 2, 0, 0, 0)) rfl rfl
theorem s207_27 {d : Nat} {ls : mj_L} {st : List Value} {M : mj_H} : mj_Rn (d + 1) mj_m207 27 ls st M = mq_k5a (d + 1) mj_m207 30 ls M 77 (mq_cb 0 3 1 st M) := mj_R5e (r := (.invokevirtual 118, 3, 0, 77, 12429)) (z := mj_m77) rfl rfl (by decide) (by decide) rfl
theorem s207_30 {d : Nat} {ls : mj_L} {st : List Value} {M : mj_H} : mj_Rn d mj_m207 30 ls st M = mq_k0 d mj_m207 31 ls M (mj_lda (mj_lk ls 0) st) := mj_R0 (r := (.aload_n 0, 1, 0, 0, 0)) rfl rfl
theorem s207_31 {d : Nat} {ls : mj_L} {st : List Value} {M : mj_H} : mj_Rn d mj_m207 31 ls st M = mq_k0 d mj_m207 34 ls M (mq_gf 10 0 st M) := (mj_R3 (r := (.getfield 14, 3, 10, 0, 8486)) rfl rfl).trans (congrArg (mq_k0 d mj_m207 34 ls M) mq_gf_eq)
theorem s207_34 {d : Nat} {ls : mj_L} {st : List Value} {M : mj_H} : mj_Rn d mj_m207 34 ls st M = mq_k0 d mj_m207 35 ls M (mj_lda (mj_lk ls 1) st) := mj_R0 (r := (.aload_n 1, 1, 0, 0, 0)) rfl rfl
theorem s207_35 {d : Nat} {ls : mj_L} {st : List Value} {M : mj_H} : mj_Rn d mj_m207 35 ls st M = mj_Rn d mj_m207 37 ls (.int 41 :: st) M := mj_R0 (r := (.bipush 41, 2, 0, 0, 0)) rfl rfl
theorem s207_37 {d : Nat} {ls : mj_L} {st : List Value} {M : mj_H} : mj_Rn d mj_m207 37 ls st M = mj_Rn d mj_m207 38 ls (.int 4 :: st) M := mj_R0 (r := (.iconst 4, 1, 0, 0, 0)) rfl rfl
theorem s207_38 {d : Nat} {ls : mj_L} {st : List Value} {M : mj_H} : mj_Rn (d + 1) mj_m207 38 ls st M = mq_k5a (d + 1) mj_m207 41 ls M 77 (mq_cb 0 3 1 st M) := mj_R5e (r := (.invokevirtual 118, 3, 0, 77, 12429)) (z := mj_m77) rfl rfl (by decide) (by decide) rfl
theorem s207_41 {d : Nat} {ls : mj_L} {st : List Value} {M : mj_H} : mj_Rn d mj_m207 41 ls st M = mq_k6 M (mj_re none (.return_) st) := mj_R6 (r := (.return_, 1, 0, 0, 0)) rfl rfl
/- 209 PasskeyHouse.writeSign(IILPasskeyHouse$Party;JIIZ)V -/
theorem s209_0 {d : Nat} {ls : mj_L} {st : List Value} {M : mj_H} : mj_Rn d mj_m209 0 ls st M = mq_k0 d mj_m209 1 ls M (mj_lda (mj_lk ls 3) st) := mj_R0 (r := (.aload_n 3, 1, 0, 0, 0)) rfl rfl
theorem s209_1 {d : Nat} {ls : mj_L} {st : List Value} {M : mj_H} : mj_Rn d mj_m209 1 ls st M = mq_k2 d mj_m209 ls M (mj_br (.ifnonnull 7) 1 st) := mj_R2 (r := (.ifnonnull 7, 3, 0, 0, 0)) rfl rfl
theorem s209_4 {d : Nat} {ls : mj_L} {st : List Value} {M : mj_H} : mj_Rn d mj_m209 4 ls st M = mj_Rn d mj_m209 5 ls (.int 0 :: st) M := mj_R0 (r := (.iconst 0, 1, 0, 0, 0)) rfl rfl
theorem s209_5 {d : Nat} {ls : mj_L} {st : List Value} {M : mj_H} : mj_Rn d mj_m209 5 ls st M = mj_Rn d mj_m209 16 ls st M := mj_R2 (r := (.goto 11, 3, 0, 0, 0)) rfl rfl
theorem s209_8 {d : Nat} {ls : mj_L} {st : List Value} {M : mj_H} : mj_Rn d mj_m209 8 ls st M = mq_k0 d mj_m209 9 ls M (mj_lda (mj_lk ls 3) st) := mj_R0 (r := (.aload_n 3, 1, 0, 0, 0)) rfl rfl
theorem s209_9 {d : Nat} {ls : mj_L} {st : List Value} {M : mj_H} : mj_Rn d mj_m209 9 ls st M = mq_k0 d mj_m209 11 ls M (mj_ldl (mj_lk ls 4) st) := mj_R0 (r := (.lload 4, 2, 0, 0, 0)) rfl rfl
theorem s209_11 {d : Nat} {ls : mj_L} {st : List Value} {M : mj_H} : mj_Rn d mj_m209 11 ls st M = mq_k0 d mj_m209 13 ls M (mj_ldi (mj_lk ls 6) st) := mj_R0 (r := (.iload 6, 2, 0, 0, 0)) rfl rfl
theorem s209_13 {d : Nat} {ls : mj_L} {st : List Value} {M : mj_H} : mj_Rn (d + 1) mj_m209 13 ls st M = mq_k5a (d + 1) mj_m209 16 ls M 199 (mq_cb 0 2 7 st M) := mj_R5e (r := (.invokevirtual 260, 3, 0, 199, 20698)) (z := mj_m199) rfl rfl (by decide) (by decide) rfl
theorem s209_16 {d : Nat} {ls : mj_L} {st : List Value} {M : mj_H} : mj_Rn d mj_m209 16 ls st M = mq_k1 d mj_m209 18 M (mj_lo 10 (.istore 9) ls st) := mj_R1 (r := (.istore 9, 2, 0, 0, 0)) rfl rfl
theorem s209_18 {d : Nat} {ls : mj_L} {st : List Value} {M : mj_H} : mj_Rn d mj_m209 18 ls st M = mq_k0 d mj_m209 19 ls M (mj_lda (mj_lk ls 0) st) := mj_R0 (r := (.aload_n 0, 1, 0, 0, 0)) rfl rfl
theorem s209_19 {d : Nat} {ls : mj_L} {st : List Value} {M : mj_H} : mj_Rn d mj_m209 19 ls st M = mq_k0 d mj_m209 22 ls M (mq_gf 10 1 st M) := (mj_R3 (r := (.getfield 18, 3, 10, 1, 8488)) rfl rfl).trans (congrArg (mq_k0 d mj_m209 22 ls M) mq_gf_eq)
theorem s209_22 {d : Nat} {ls : mj_L} {st : List Value} {M : mj_H} : mj_Rn (d + 1) mj_m209 22 ls st M = mq_k5a (d + 1) mj_m209 25 ls M 12 (mq_cb 0 0 1 st M) := mj_R5e (r := (.invokevirtual 73, 3, 0, 12, 4290)) (z := mj_m12) rfl rfl (by decide) (by decide) rfl
theorem s209_25 {d : Nat} {ls : mj_L} {st : List Value} {M : mj_H} : mj_Rn d mj_m209 25 ls st M = mq_k0 d mj_m209 26 ls M (mj_lda (mj_lk ls 0) st) := mj_R0 (r := (.aload_n 0, 1, 0, 0, 0)) rfl rfl
theorem s209_26 {d : Nat} {ls : mj_L} {st : List Value} {M : mj_H} : mj_Rn d mj_m209 26 ls st M = mq_k0 d mj_m209 29 ls M (mq_gf 10 1 st M) := (mj_R3 (r := (.getfield 18, 3, 10, 1, 8488)) rfl rfl).trans (congrArg (mq_k0 d mj_m209 29 ls M) mq_gf_eq)
theorem s209_29 {d : Nat} {ls : mj_L} {st : List Value} {M : mj_H} : mj_Rn d mj_m209 29 ls st M = mj_Rn d mj_m209 30 ls (.int 2 :: st) M := mj_R0 (r := (.iconst 2, 1, 0, 0, 0)) rfl rfl
theorem s209_30 {d : Nat} {ls : mj_L} {st : List Value} {M : mj_H} : mj_Rn (d + 1) mj_m209 30 ls st M = mq_k5a (d + 1) mj_m209 33 ls M 45 (mq_cb 0 1 1 st M) := mj_R5e (r := (.invokevirtual 190, 3, 0, 45, 20603)) (z := mj_m45) rfl rfl (by decide) (by decide) rfl
theorem s209_33 {d : Nat} {ls : mj_L} {st : List Value} {M : mj_H} : mj_Rn d mj_m209 33 ls st M = mq_k0 d mj_m209 34 ls M (mj_lda (mj_lk ls 0) st) := mj_R0 (r := (.aload_n 0, 1, 0, 0, 0)) rfl rfl
theorem s209_34 {d : Nat} {ls : mj_L} {st : List Value} {M : mj_H} : mj_Rn d mj_m209 34 ls st M = mq_k0 d mj_m209 37 ls M (mq_gf 10 1 st M) := (mj_R3 (r := (.getfield 18, 3, 10, 1, 8488)) rfl rfl).trans (congrArg (mq_k0 d mj_m209 37 ls M) mq_gf_eq)
theorem s209_37 {d : Nat} {ls : mj_L} {st : List Value} {M : mj_H} : mj_Rn d mj_m209 37 ls st M = mj_Rn d mj_m209 38 ls (.int 5 :: st) M := mj_R0 (r := (.iconst 5, 1, 0, 0, 0)) rfl rfl
theorem s209_38 {d : Nat} {ls : mj_L} {st : List Value} {M : mj_H} : mj_Rn d mj_m209 38 ls st M = mj_Rn d mj_m209 39 ls (.int 2 :: st) M := mj_R0 (r := (.iconst 2, 1, 0, 0, 0)) rfl rfl
theorem s209_39 {d : Nat} {ls : mj_L} {st : List Value} {M : mj_H} : mj_Rn d mj_m209 39 ls st M = mq_k0 d mj_m209 41 ls M (mj_ldi (mj_lk ls 9) st) := mj_R0 (r := (.iload 9, 2, 0, 0, 0)) rfl rfl
theorem s209_41 {d : Nat} {ls : mj_L} {st : List Value} {M : mj_H} : mj_Rn d mj_m209 41 ls st M = mq_k2 d mj_m209 ls M (mj_br (.ifCond .le 7) 41 st) := mj_R2 (r := (.ifCond .le 7, 3, 0, 0, 0)) rfl rfl
theorem s209_44 {d : Nat} {ls : mj_L} {st : List Value} {M : mj_H} : mj_Rn d mj_m209 44 ls st M = mj_Rn d mj_m209 45 ls (.int 1 :: st) M := mj_R0 (r := (.iconst 1, 1, 0, 0, 0)) rfl rfl
theorem s209_45 {d : Nat} {ls : mj_L} {st : List Value} {M : mj_H} : mj_Rn d mj_m209 45 ls st M = mj_Rn d mj_m209 49 ls st M := mj_R2 (r := (.goto 4, 3, 0, 0, 0)) rfl rfl
theorem s209_48 {d : Nat} {ls : mj_L} {st : List Value} {M : mj_H} : mj_Rn d mj_m209 48 ls st M = mj_Rn d mj_m209 49 ls (.int 0 :: st) M := mj_R0 (r := (.iconst 0, 1, 0, 0, 0)) rfl rfl
theorem s209_49 {d : Nat} {ls : mj_L} {st : List Value} {M : mj_H} : mj_Rn d mj_m209 49 ls st M = mq_k0 d mj_m209 50 ls M (mj_pu .iadd ls st) := mj_R0 (r := (.iadd, 1, 0, 0, 0)) rfl rfl
theorem s209_50 {d : Nat} {ls : mj_L} {st : List Value} {M : mj_H} : mj_Rn d mj_m209 50 ls st M = mq_k0 d mj_m209 52 ls M (mj_ldi (mj_lk ls 8) st) := mj_R0 (r := (.iload 8, 2, 0, 0, 0)) rfl rfl
theorem s209_52 {d : Nat} {ls : mj_L} {st : List Value} {M : mj_H} : mj_Rn d mj_m209 52 ls st M = mq_k2 d mj_m209 ls M (mj_br (.ifCond .eq 7) 52 st) := mj_R2 (r := (.ifCond .eq 7, 3, 0, 0, 0)) rfl rfl
theorem s209_55 {d : Nat} {ls : mj_L} {st : List Value} {M : mj_H} : mj_Rn d mj_m209 55 ls st M = mj_Rn d mj_m209 56 ls (.int 1 :: st) M := mj_R0 (r := (.iconst 1, 1, 0, 0, 0)) rfl rfl
theorem s209_56 {d : Nat} {ls : mj_L} {st : List Value} {M : mj_H} : mj_Rn d mj_m209 56 ls st M = mj_Rn d mj_m209 60 ls st M := mj_R2 (r := (.goto 4, 3, 0, 0, 0)) rfl rfl
theorem s209_59 {d : Nat} {ls : mj_L} {st : List Value} {M : mj_H} : mj_Rn d mj_m209 59 ls st M = mj_Rn d mj_m209 60 ls (.int 0 :: st) M := mj_R0 (r := (.iconst 0, 1, 0, 0, 0)) rfl rfl
theorem s209_60 {d : Nat} {ls : mj_L} {st : List Value} {M : mj_H} : mj_Rn d mj_m209 60 ls st M = mq_k0 d mj_m209 61 ls M (mj_pu .iadd ls st) := mj_R0 (r := (.iadd, 1, 0, 0, 0)) rfl rfl
theorem s209_61 {d : Nat} {ls : mj_L} {st : List Value} {M : mj_H} : mj_Rn d mj_m209 61 ls st M = mq_k0 d mj_m209 62 ls M (mj_ldi (mj_lk ls 2) st) := mj_R0 (r := (.iload_n 2, 1, 0, 0, 0)) rfl rfl
theorem s209_62 {d : Nat} {ls : mj_L} {st : List Value} {M : mj_H} : mj_Rn d mj_m209 62 ls st M = mq_k2 d mj_m209 ls M (mj_br (.ifCond .le 7) 62 st) := mj_R2 (r := (.ifCond .le 7, 3, 0, 0, 0)) rfl rfl
theorem s209_65 {d : Nat} {ls : mj_L} {st : List Value} {M : mj_H} : mj_Rn d mj_m209 65 ls st M = mj_Rn d mj_m209 66 ls (.int 2 :: st) M := mj_R0 (r := (.iconst 2, 1, 0, 0, 0)) rfl rfl
theorem s209_66 {d : Nat} {ls : mj_L} {st : List Value} {M : mj_H} : mj_Rn d mj_m209 66 ls st M = mj_Rn d mj_m209 70 ls st M := mj_R2 (r := (.goto 4, 3, 0, 0, 0)) rfl rfl
theorem s209_69 {d : Nat} {ls : mj_L} {st : List Value} {M : mj_H} : mj_Rn d mj_m209 69 ls st M = mj_Rn d mj_m209 70 ls (.int 0 :: st) M := mj_R0 (r := (.iconst 0, 1, 0, 0, 0)) rfl rfl
theorem s209_70 {d : Nat} {ls : mj_L} {st : List Value} {M : mj_H} : mj_Rn d mj_m209 70 ls st M = mq_k0 d mj_m209 71 ls M (mj_pu .iadd ls st) := mj_R0 (r := (.iadd, 1, 0, 0, 0)) rfl rfl
theorem s209_71 {d : Nat} {ls : mj_L} {st : List Value} {M : mj_H} : mj_Rn (d + 1) mj_m209 71 ls st M = mq_k5a (d + 1) mj_m209 74 ls M 131 (mq_cb 0 2 1 st M) := mj_R5e (r := (.invokevirtual 353, 3, 0, 131, 20628)) (z := mj_m131) rfl rfl (by decide) (by decide) rfl
theorem s209_74 {d : Nat} {ls : mj_L} {st : List Value} {M : mj_H} : mj_Rn d mj_m209 74 ls st M = mq_k0 d mj_m209 75 ls M (mj_lda (mj_lk ls 0) st) := mj_R0 (r := (.aload_n 0, 1, 0, 0, 0)) rfl rfl
theorem s209_75 {d : Nat} {ls : mj_L} {st : List Value} {M : mj_H} : mj_Rn d mj_m209 75 ls st M = mq_k0 d mj_m209 78 ls M (mq_gf 10 1 st M) := (mj_R3 (r := (.getfield 18, 3, 10, 1, 8488)) rfl rfl).trans (congrArg (mq_k0 d mj_m209 78 ls M) mq_gf_eq)
theorem s209_78 {d : Nat} {ls : mj_L} {st : List Value} {M : mj_H} : mj_Rn d mj_m209 78 ls st M = mj_Rn d mj_m209 79 ls (.int 1 :: st) M := mj_R0 (r := (.iconst 1, 1, 0, 0, 0)) rfl rfl
theorem s209_79 {d : Nat} {ls : mj_L} {st : List Value} {M : mj_H} : mj_Rn (d + 1) mj_m209 79 ls st M = mq_k5a (d + 1) mj_m209 82 ls M 45 (mq_cb 0 1 1 st M) := mj_R5e (r := (.invokevirtual 190, 3, 0, 45, 20603)) (z := mj_m45) rfl rfl (by decide) (by decide) rfl
theorem s209_82 {d : Nat} {ls : mj_L} {st : List Value} {M : mj_H} : mj_Rn d mj_m209 82 ls st M = mq_k0 d mj_m209 83 ls M (mj_lda (mj_lk ls 0) st) := mj_R0 (r := (.aload_n 0, 1, 0, 0, 0)) rfl rfl
theorem s209_83 {d : Nat} {ls : mj_L} {st : List Value} {M : mj_H} : mj_Rn d mj_m209 83 ls st M = mq_k0 d mj_m209 86 ls M (mq_gf 10 1 st M) := (mj_R3 (r := (.getfield 18, 3, 10, 1, 8488)) rfl rfl).trans (congrArg (mq_k0 d mj_m209 86 ls M) mq_gf_eq)
theorem s209_86 {d : Nat} {ls : mj_L} {st : List Value} {M : mj_H} : mj_Rn d mj_m209 86 ls st M = mj_Rn d mj_m209 87 ls (.int 3 :: st) M := mj_R0 (r := (.iconst 3, 1, 0, 0, 0)) rfl rfl
theorem s209_87 {d : Nat} {ls : mj_L} {st : List Value} {M : mj_H} : mj_Rn d mj_m209 87 ls st M = mq_k0 d mj_m209 89 ls M (mj_ldi (mj_lk ls 7) st) := mj_R0 (r := (.iload 7, 2, 0, 0, 0)) rfl rfl
theorem s209_89 {d : Nat} {ls : mj_L} {st : List Value} {M : mj_H} : mj_Rn (d + 1) mj_m209 89 ls st M = mq_k5a (d + 1) mj_m209 92 ls M 131 (mq_cb 0 2 1 st M) := mj_R5e (r := (.invokevirtual 353, 3, 0, 131, 20628)) (z := mj_m131) rfl rfl (by decide) (by decide) rfl
theorem s209_92 {d : Nat} {ls : mj_L} {st : List Value} {M : mj_H} : mj_Rn d mj_m209 92 ls st M = mq_k0 d mj_m209 93 ls M (mj_lda (mj_lk ls 0) st) := mj_R0 (r := (.aload_n 0, 1, 0, 0, 0)) rfl rfl
theorem s209_93 {d : Nat} {ls : mj_L} {st : List Value} {M : mj_H} : mj_Rn d mj_m209 93 ls st M = mq_k0 d mj_m209 96 ls M (mq_gf 10 1 st M) := (mj_R3 (r := (.getfield 18, 3, 10, 1, 8488)) rfl rfl).trans (congrArg (mq_k0 d mj_m209 96 ls M) mq_gf_eq)
theorem s209_96 {d : Nat} {ls : mj_L} {st : List Value} {M : mj_H} : mj_Rn d mj_m209 96 ls st M = mq_k0 d mj_m209 97 ls M (mj_lda (mj_lk ls 0) st) := mj_R0 (r := (.aload_n 0, 1, 0, 0, 0)) rfl rfl
theorem s209_97 {d : Nat} {ls : mj_L} {st : List Value} {M : mj_H} : mj_Rn d mj_m209 97 ls st M = mq_k0 d mj_m209 100 ls M (mq_gf 10 0 st M) := (mj_R3 (r := (.getfield 14, 3, 10, 0, 8486)) rfl rfl).trans (congrArg (mq_k0 d mj_m209 100 ls M) mq_gf_eq)
theorem s209_100 {d : Nat} {ls : mj_L} {st : List Value} {M : mj_H} : mj_Rn d mj_m209 100 ls st M = mj_Rn d mj_m209 101 ls (.int 0 :: st) M := mj_R0 (r := (.iconst 0, 1, 0, 0, 0)) rfl rfl
theorem s209_101 {d : Nat} {ls : mj_L} {st : List Value} {M : mj_H} : mj_Rn d mj_m209 101 ls st M = mq_k0 d mj_m209 103 ls M (mj_ldi (mj_lk ls 7) st) := mj_R0 (r := (.iload 7, 2, 0, 0, 0)) rfl rfl
theorem s209_103 {d : Nat} {ls : mj_L} {st : List Value} {M : mj_H} : mj_Rn (d + 1) mj_m209 103 ls st M = mq_k5a (d + 1) mj_m209 106 ls M 77 (mq_cb 0 3 1 st M) := mj_R5e (r := (.invokevirtual 118, 3, 0, 77, 12429)) (z := mj_m77) rfl rfl (by decide) (by decide) rfl
theorem s209_106 {d : Nat} {ls : mj_L} {st : List Value} {M : mj_H} : mj_Rn d mj_m209 106 ls st M = mq_k0 d mj_m209 107 ls M (mj_lda (mj_lk ls 0) st) := mj_R0 (r := (.aload_n 0, 1, 0, 0, 0)) rfl rfl
theorem s209_107 {d : Nat} {ls : mj_L} {st : List Value} {M : mj_H} : mj_Rn d mj_m209 107 ls st M = mq_k0 d mj_m209 110 ls M (mq_gf 10 1 st M) := (mj_R3 (r := (.getfield 18, 3, 10, 1, 8488)) rfl rfl).trans (congrArg (mq_k0 d mj_m209 110 ls M) mq_gf_eq)
theorem s209_110 {d : Nat} {ls : mj_L} {st : List Value} {M : mj_H} : mj_Rn d mj_m209 110 ls st M = mj_Rn d mj_m209 111 ls (.int 2 :: st) M := mj_R0 (r := (.iconst 2, 1, 0, 0, 0)) rfl rfl
theorem s209_111 {d : Nat} {ls : mj_L} {st : List Value} {M : mj_H} : mj_Rn (d + 1) mj_m209 111 ls st M = mq_k5a (d + 1) mj_m209 114 ls M 45 (mq_cb 0 1 1 st M) := mj_R5e (r := (.invokevirtual 190, 3, 0, 45, 20603)) (z := mj_m45) rfl rfl (by decide) (by decide) rfl
theorem s209_114 {d : Nat} {ls : mj_L} {st : List Value} {M : mj_H} : mj_Rn d mj_m209 114 ls st M = mq_k0 d mj_m209 115 ls M (mj_lda (mj_lk ls 0) st) := mj_R0 (r := (.aload_n 0, 1, 0, 0, 0)) rfl rfl
theorem s209_115 {d : Nat} {ls : mj_L} {st : List Value} {M : mj_H} : mj_Rn d mj_m209 115 ls st M = mq_k0 d mj_m209 118 ls M (mq_gf 10 1 st M) := (mj_R3 (r := (.getfield 18, 3, 10, 1, 8488)) rfl rfl).trans (congrArg (mq_k0 d mj_m209 118 ls M) mq_gf_eq)
theorem s209_118 {d : Nat} {ls : mj_L} {st : List Value} {M : mj_H} : mj_Rn d mj_m209 118 ls st M = mq_k0 d mj_m209 119 ls M (mj_ldi (mj_lk ls 1) st) := mj_R0 (r := (.iload_n 1, 1, 0, 0, 0)) rfl rfl
theorem s209_119 {d : Nat} {ls : mj_L} {st : List Value} {M : mj_H} : mj_Rn (d + 1) mj_m209 119 ls st M = mq_k5a (d + 1) mj_m209 122 ls M 134 (mq_cb 0 1 1 st M) := mj_R5e (r := (.invokevirtual 222, 3, 0, 134, 20647)) (z := mj_m134) rfl rfl (by decide) (by decide) rfl
theorem s209_122 {d : Nat} {ls : mj_L} {st : List Value} {M : mj_H} : mj_Rn d mj_m209 122 ls st M = mq_k0 d mj_m209 124 ls M (mj_ldi (mj_lk ls 9) st) := mj_R0 (r := (.iload 9, 2, 0, 0, 0)) rfl rfl
theorem s209_124 {d : Nat} {ls : mj_L} {st : List Value} {M : mj_H} : mj_Rn d mj_m209 124 ls st M = mq_k2 d mj_m209 ls M (mj_br (.ifCond .le 22) 124 st) := mj_R2 (r := (.ifCond .le 22, 3, 0, 0, 0)) rfl rfl
theorem s209_127 {d : Nat} {ls : mj_L} {st : List Value} {M : mj_H} : mj_Rn d mj_m209 127 ls st M = mq_k0 d mj_m209 128 ls M (mj_lda (mj_lk ls 0) st) := mj_R0 (r := (.aload_n 0, 1, 0, 0, 0)) rfl rfl
theorem s209_128 {d : Nat} {ls : mj_L} {st : List Value} {M : mj_H} : mj_Rn d mj_m209 128 ls st M = mq_k0 d mj_m209 131 ls M (mq_gf 10 1 st M) := (mj_R3 (r := (.getfield 18, 3, 10, 1, 8488)) rfl rfl).trans (congrArg (mq_k0 d mj_m209 131 ls M) mq_gf_eq)
theorem s209_131 {d : Nat} {ls : mj_L} {st : List Value} {M : mj_H} : mj_Rn d mj_m209 131 ls st M = mj_Rn d mj_m209 132 ls (.int 3 :: st) M := mj_R0 (r := (.iconst 3, 1, 0, 0, 0)) rfl rfl
theorem s209_132 {d : Nat} {ls : mj_L} {st : List Value} {M : mj_H} : mj_Rn (d + 1) mj_m209 132 ls st M = mq_k5a (d + 1) mj_m209 135 ls M 45 (mq_cb 0 1 1 st M) := mj_R5e (r := (.invokevirtual 190, 3, 0, 45, 20603)) (z := mj_m45) rfl rfl (by decide) (by decide) rfl
theorem s209_135 {d : Nat} {ls : mj_L} {st : List Value} {M : mj_H} : mj_Rn d mj_m209 135 ls st M = mq_k0 d mj_m209 136 ls M (mj_lda (mj_lk ls 0) st) := mj_R0 (r := (.aload_n 0, 1, 0, 0, 0)) rfl rfl
theorem s209_136 {d : Nat} {ls : mj_L} {st : List Value} {M : mj_H} : mj_Rn d mj_m209 136 ls st M = mq_k0 d mj_m209 137 ls M (mj_lda (mj_lk ls 3) st) := mj_R0 (r := (.aload_n 3, 1, 0, 0, 0)) rfl rfl
theorem s209_137 {d : Nat} {ls : mj_L} {st : List Value} {M : mj_H} : mj_Rn d mj_m209 137 ls st M = mq_k0 d mj_m209 139 ls M (mj_ldl (mj_lk ls 4) st) := mj_R0 (r := (.lload 4, 2, 0, 0, 0)) rfl rfl
theorem s209_139 {d : Nat} {ls : mj_L} {st : List Value} {M : mj_H} : mj_Rn d mj_m209 139 ls st M = mq_k0 d mj_m209 141 ls M (mj_ldi (mj_lk ls 6) st) := mj_R0 (r := (.iload 6, 2, 0, 0, 0)) rfl rfl
theorem s209_141 {d : Nat} {ls : mj_L} {st : List Value} {M : mj_H} : mj_Rn d mj_m209 141 ls st M = mq_k0 d mj_m209 143 ls M (mj_ldi (mj_lk ls 9) st) := mj_R0 (r := (.iload 9, 2, 0, 0, 0)) rfl rfl
theorem s209_143 {d : Nat} {ls : mj_L} {st : List Value} {M : mj_H} : mj_Rn (d + 1) mj_m209 143 ls st M = mq_k5a (d + 1) mj_m209 146 ls M 203 (mq_cb 0 4 10 st M) := mj_R5e (r := (.invokevirtual 268, 3, 0, 203, 20719)) (z := mj_m203) rfl rfl (by decide) (by decide) rfl
theorem s209_146 {d : Nat} {ls : mj_L} {st : List Value} {M : mj_H} : mj_Rn d mj_m209 146 ls st M = mq_k0 d mj_m209 148 ls M (mj_ldi (mj_lk ls 8) st) := mj_R0 (r := (.iload 8, 2, 0, 0, 0)) rfl rfl
theorem s209_148 {d : Nat} {ls : mj_L} {st : List Value} {M : mj_H} : mj_Rn d mj_m209 148 ls st M = mq_k2 d mj_m209 ls M (mj_br (.ifCond .eq 20) 148 st) := mj_R2 (r := (.ifCond .eq 20, 3, 0, 0, 0)) rfl rfl
theorem s209_151 {d : Nat} {ls : mj_L} {st : List Value} {M : mj_H} : mj_Rn d mj_m209 151 ls st M = mq_k0 d mj_m209 152 ls M (mj_lda (mj_lk ls 0) st) := mj_R0 (r := (.aload_n 0, 1, 0, 0, 0)) rfl rfl
theorem s209_152 {d : Nat} {ls : mj_L} {st : List Value} {M : mj_H} : mj_Rn d mj_m209 152 ls st M = mq_k0 d mj_m209 155 ls M (mq_gf 10 1 st M) := (mj_R3 (r := (.getfield 18, 3, 10, 1, 8488)) rfl rfl).trans (congrArg (mq_k0 d mj_m209 155 ls M) mq_gf_eq)
theorem s209_155 {d : Nat} {ls : mj_L} {st : List Value} {M : mj_H} : mj_Rn d mj_m209 155 ls st M = mj_Rn d mj_m209 156 ls (.int 5 :: st) M := mj_R0 (r := (.iconst 5, 1, 0, 0, 0)) rfl rfl
theorem s209_156 {d : Nat} {ls : mj_L} {st : List Value} {M : mj_H} : mj_Rn (d + 1) mj_m209 156 ls st M = mq_k5a (d + 1) mj_m209 159 ls M 45 (mq_cb 0 1 1 st M) := mj_R5e (r := (.invokevirtual 190, 3, 0, 45, 20603)) (z := mj_m45) rfl rfl (by decide) (by decide) rfl
theorem s209_159 {d : Nat} {ls : mj_L} {st : List Value} {M : mj_H} : mj_Rn d mj_m209 159 ls st M = mq_k0 d mj_m209 160 ls M (mj_lda (mj_lk ls 0) st) := mj_R0 (r := (.aload_n 0, 1, 0, 0, 0)) rfl rfl
theorem s209_160 {d : Nat} {ls : mj_L} {st : List Value} {M : mj_H} : mj_Rn d mj_m209 160 ls st M = mj_Rn d mj_m209 163 ls (.ref 19 :: st) M := mj_R3 (r := (.ldc_w 374, 3, 2, 16, 24606)) rfl rfl
theorem s209_163 {d : Nat} {ls : mj_L} {st : List Value} {M : mj_H} : mj_Rn d mj_m209 163 ls st M = mj_Rn d mj_m209 165 ls (.int 20 :: st) M := mj_R0 (r := (.bipush 20, 2, 0, 0, 0)) rfl rfl
theorem s209_165 {d : Nat} {ls : mj_L} {st : List Value} {M : mj_H} : mj_Rn (d + 1) mj_m209 165 ls st M = mq_k5a (d + 1) mj_m209 168 ls M 204 (mq_cb 0 2 10 st M) := mj_R5e (r := (.invokevirtual 274, 3, 0, 204, 24582)) (z := mj_m204) rfl rfl (by decide) (by decide) rfl
theorem s209_168 {d : Nat} {ls : mj_L} {st : List Value} {M : mj_H} : mj_Rn d mj_m209 168 ls st M = mq_k0 d mj_m209 169 ls M (mj_ldi (mj_lk ls 2) st) := mj_R0 (r := (.iload_n 2, 1, 0, 0, 0)) rfl rfl
theorem s209_169 {d : Nat} {ls : mj_L} {st : List Value} {M : mj_H} : mj_Rn d mj_m209 169 ls st M = mq_k2 d mj_m209 ls M (mj_br (.ifCond .le 10) 169 st) := mj_R2 (r := (.ifCond .le 10, 3, 0, 0, 0)) rfl rfl
theorem s209_172 {d : Nat} {ls : mj_L} {st : List Value} {M : mj_H} : mj_Rn d mj_m209 172 ls st M = mq_k0 d mj_m209 173 ls M (mj_lda (mj_lk ls 0) st) := mj_R0 (r := (.aload_n 0, 1, 0, 0, 0)) rfl rfl
theorem s209_173 {d : Nat} {ls : mj_L} {st : List Value} {M : mj_H} : mj_Rn d mj_m209 173 ls st M = mj_Rn d mj_m209 175 ls (.int 6 :: st) M := mj_R0 (r := (.bipush 6, 2, 0, 0, 0)) rfl rfl
theorem s209_175 {d : Nat} {ls : mj_L} {st : List Value} {M : mj_H} : mj_Rn d mj_m209 175 ls st M = mq_k0 d mj_m209 176 ls M (mj_ldi (mj_lk ls 2) st) := mj_R0 (r := (.iload_n 2, 1, 0, 0, 0)) rfl rfl
theorem s209_176 {d : Nat} {ls : mj_L} {st : List Value} {M : mj_H} : mj_Rn (d + 1) mj_m209 176 ls st M = mq_k5a (d + 1) mj_m209 179 ls M 205 (mq_cb 0 2 10 st M) := mj_R5e (r := (.invokevirtual 278, 3, 0, 205, 24586)) (z := mj_m205) rfl rfl (by decide) (by decide) rfl
theorem s209_179 {d : Nat} {ls : mj_L} {st : List Value} {M : mj_H} : mj_Rn d mj_m209 179 ls st M = mq_k6 M (mj_re none (.return_) st) := mj_R6 (r := (.return_, 1, 0, 0, 0)) rfl rfl
theorem c202 {d : Nat} {a0 : Nat} {x1 : Int32} {x2 : Int64} {x3 : Int32} {x4 : Int32} {x5 : Int32} {M : mj_H} : mj_V (d + 1) 202 [.ref a0, .int x1, .long x2, .int x3, .int x4, .int x5] M = mj_Rn d mj_m202 0 [(0, .ref a0), (1, .int x1), (2, .long x2), (4, .int x3), (5, .int x4), (6, .int x5)] [] M := mj_V_go rfl (Nat.le_of_ble_eq_true rfl)
theorem c203 {d : Nat} {a0 : Nat} {a1 : Nat} {x2 : Int64} {x3 : Int32} {x4 : Int32} {M : mj_H} : mj_V (d + 1) 203 [.ref a0, .ref a1, .long x2, .int x3, .int x4] M = mj_Rn d mj_m203 0 [(0, .ref a0), (1, .ref a1), (2, .long x2), (4, .int x3), (5, .int x4)] [] M := mj_V_go rfl (Nat.le_of_ble_eq_true rfl)
theorem c206 {d : Nat} {a0 : Nat} {x1 : Int32} {x2 : Int32} {a3 : Nat} {M : mj_H} : mj_V (d + 1) 206 [.ref a0, .int x1, .int x2, .ref a3] M = mj_Rn d mj_m206 0 [(0, .ref a0), (1, .int x1), (2, .int x2), (3, .ref a3)] [] M := mj_V_go rfl (Nat.le_of_ble_eq_true rfl)
theorem c207 {d : Nat} {a0 : Nat} {a1 : Nat} {x2 : Int32} {x3 : Int32} {x4 : Int32} {M : mj_H} : mj_V (d + 1) 207 [.ref a0, .ref a1, .int x2, .int x3, .int x4] M = mj_Rn d mj_m207 0 [(0, .ref a0), (1, .ref a1), (2, .int x2), (3, .int x3), (4, .int x4)] [] M := mj_V_go rfl (Nat.le_of_ble_eq_true rfl)
theorem c209 {d : Nat} {a0 : Nat} {x1 : Int32} {x2 : Int32} {a3 : Nat} {x4 : Int64} {x5 : Int32} {x6 : Int32} {x7 : Int32} {M : mj_H} : mj_V (d + 1) 209 [.ref a0, .int x1, .int x2, .ref a3, .long x4, .int x5, .int x6, .int x7] M = mj_Rn d mj_m209 0 [(0, .ref a0), (1, .int x1), (2, .int x2), (3, .ref a3), (4, .long x4), (6, .int x5), (7, .int x6), (8, .int x7)] [] M := mj_V_go rfl (Nat.le_of_ble_eq_true rfl)
theorem c209n3 {d : Nat} {a0 : Nat} {x1 : Int32} {x2 : Int32} {x4 : Int64} {x5 : Int32} {x6 : Int32} {x7 : Int32} {M : mj_H} : mj_V (d + 1) 209 [.ref a0, .int x1, .int x2, .null, .long x4, .int x5, .int x6, .int x7] M = mj_Rn d mj_m209 0 [(0, .ref a0), (1, .int x1), (2, .int x2), (3, .null), (4, .long x4), (6, .int x5), (7, .int x6), (8, .int x7)] [] M := mj_V_go rfl (Nat.le_of_ble_eq_true rfl)
theorem pz.arr {M : mj_H} {π : Nat} {p : Pa} (h : pz M π p) {i : Nat} (hi : i < 8) : ∃ zs : List Value, M[π + 10]? = some (1009, zs) ∧ zs.length = 8 ∧ zs[i]? = some (.ref (π + 11 + i)) := by
  refine ⟨_, h.aa, rfl, ?_⟩
  rcases (show i = 0 ∨ i = 1 ∨ i = 2 ∨ i = 3 ∨ i = 4 ∨ i = 5 ∨ i = 6 ∨ i = 7 by omega) with rfl | rfl | rfl | rfl | rfl | rfl | rfl | rfl <;> rfl
def okA (p : Pa) : Prop := ∀ a ∈ p.2.2.2.1, a.2.2.2.2.length ≤ 8 ∧ ∀ v ∈ a.2.2.2.2, v &&& 255 = v
section HZ
variable {M M' : mj_H} {H H' : Ho} {κs πs : List Nat} {row row' ms : List Int32} {d : Nat} {i l : Int32} {π : Nat} {p : Pa} {u : List Int32}
theorem j_acc (h : pz M π p) {k : Nat} (hk : k < p.2.2.2.1.length) : mj_V (d + 1) 200 [.ref π, .int (nI k)] M = some (some (.ref (π + 11 + k)), M) := by
  have x0 := h.ob
  have l8 := h.l8
  obtain ⟨zs, e1, e2, e3⟩ := h.arr (show k < 8 by omega)
  simp (disch := (first | omega | decide)) [c200, s200_0, s200_1, s200_4, s200_5, s200_6, s200_9, s200_12, s200_13, s200_14, s200_17, s200_18, s200_21, s200_22, s200_25, s200_26, s200_29, s200_30, s200_31, mq_k0s, mq_k1s, mq_k2s, mq_k4s, mq_k5s, mq_k5n, mq_k5as, mq_k6s, mj_pu, mj_lo, mj_br, mj_hr, mj_hw, mq_gf, mq_len, mq_al, mq_pf, mq_ok, mj_re, mq_lkm, mq_lkn, mj_ldi, mj_ldl, mj_lda, mj_ii, mj_ll, mj_li, mj_i1, ms_1, ms_2, f1_n, f1_i, f1_r, f1_u, f1_l, f2_n, f2_i, f2_r, f2_u, f2_l, mj_tg, mj_c1, mj_c2, mj_ar, mj_aw, mq_cb, mq_oi, mj_rm, Value.category, -getElem?_pos, List.getElem?_cons_zero, decide_eq_true, decide_eq_false, nl_lt, nl_le, ln_lt, ln_le, nl_eq, ln_eq, nl_add, ln_add, nl_sub, ln_mul, nI_sub, nI_mul, nI_add, nI_lt_iff, nI_le_iff, nI_inj, nI_num, mq_ix, nI_1, nl_mul, nl_div, x0, e1, e2, e3, hk, narrow]
theorem j_accN (h : pz M π p) {k : Int32} (hk : ix k p.2.2.2.1.length = none) : mj_V (d + 1) 200 [.ref π, .int k] M = some (some .null, M) := by
  have x0 := h.ob
  have l8 := h.l8
  rcases ix_none hk with h0 | ⟨n, rfl, hn, h0⟩
  · simp (disch := (first | omega | decide)) [c200, s200_0, s200_1, s200_4, s200_5, s200_6, s200_9, s200_12, s200_13, s200_14, s200_17, s200_18, s200_21, s200_22, s200_25, s200_26, s200_29, s200_30, s200_31, mq_k0s, mq_k1s, mq_k2s, mq_k4s, mq_k5s, mq_k5n, mq_k5as, mq_k6s, mj_pu, mj_lo, mj_br, mj_hr, mj_hw, mq_gf, mq_len, mq_al, mq_pf, mq_ok, mj_re, mq_lkm, mq_lkn, mj_ldi, mj_ldl, mj_lda, mj_ii, mj_ll, mj_li, mj_i1, ms_1, ms_2, f1_n, f1_i, f1_r, f1_u, f1_l, f2_n, f2_i, f2_r, f2_u, f2_l, mj_tg, mj_c1, mj_c2, mj_ar, mj_aw, mq_cb, mq_oi, mj_rm, Value.category, -getElem?_pos, List.getElem?_cons_zero, decide_eq_true, decide_eq_false, nl_lt, nl_le, ln_lt, ln_le, nl_eq, ln_eq, nl_add, ln_add, nl_sub, ln_mul, nI_sub, nI_mul, nI_add, nI_lt_iff, nI_le_iff, nI_inj, nI_num, mq_ix, nI_1, nl_mul, nl_div, x0, h0, narrow]
  · simp (disch := (first | omega | decide)) [c200, s200_0, s200_1, s200_4, s200_5, s200_6, s200_9, s200_12, s200_13, s200_14, s200_17, s200_18, s200_21, s200_22, s200_25, s200_26, s200_29, s200_30, s200_31, mq_k0s, mq_k1s, mq_k2s, mq_k4s, mq_k5s, mq_k5n, mq_k5as, mq_k6s, mj_pu, mj_lo, mj_br, mj_hr, mj_hw, mq_gf, mq_len, mq_al, mq_pf, mq_ok, mj_re, mq_lkm, mq_lkn, mj_ldi, mj_ldl, mj_lda, mj_ii, mj_ll, mj_li, mj_i1, ms_1, ms_2, f1_n, f1_i, f1_r, f1_u, f1_l, f2_n, f2_i, f2_r, f2_u, f2_l, mj_tg, mj_c1, mj_c2, mj_ar, mj_aw, mq_cb, mq_oi, mj_rm, Value.category, -getElem?_pos, List.getElem?_cons_zero, decide_eq_true, decide_eq_false, nl_lt, nl_le, ln_lt, ln_le, nl_eq, ln_eq, nl_add, ln_add, nl_sub, ln_mul, nI_sub, nI_mul, nI_add, nI_lt_iff, nI_le_iff, nI_inj, nI_num, mq_ix, nI_1, nl_mul, nl_div, x0, h0, narrow]
theorem j_isOf {a : Nat} {c : Ac} (hc : M[a]? = some (acc c)) (hu : c.2.2.2.2.length ≤ 8 ∧ ∀ v ∈ c.2.2.2.2, v &&& 255 = v) (h8 : ∀ v ∈ u, v &&& 255 = v) (hl : u.length ≤ 8) : mj_V (d + 1) 201 [.ref a, .long (bt_lo u), .int (nI u.length)] M = some (some (.int (on1 (decide (c.2.2.2.2 = u)))), M) := by
  unfold acc at hc
  by_cases q2 : bt_lo c.2.2.2.2 = bt_lo u
  · by_cases q3 : c.2.2.2.2.length = u.length
    · have q4 : c.2.2.2.2 = u := bt_lo_inj hu.2 h8 hu.1 q3 q2
      simp (disch := (first | omega | decide)) [c201, s201_0, s201_1, s201_4, s201_5, s201_6, s201_9, s201_10, s201_13, s201_14, s201_17, s201_18, s201_21, s201_22, mq_k0s, mq_k1s, mq_k2s, mq_k4s, mq_k5s, mq_k5n, mq_k5as, mq_k6s, mj_pu, mj_lo, mj_br, mj_hr, mj_hw, mq_gf, mq_len, mq_al, mq_pf, mq_ok, mj_re, mq_lkm, mq_lkn, mj_ldi, mj_ldl, mj_lda, mj_ii, mj_ll, mj_li, mj_i1, ms_1, ms_2, f1_n, f1_i, f1_r, f1_u, f1_l, f2_n, f2_i, f2_r, f2_u, f2_l, mj_tg, mj_c1, mj_c2, mj_ar, mj_aw, mq_cb, mq_oi, mj_rm, Value.category, -getElem?_pos, List.getElem?_cons_zero, decide_eq_true, decide_eq_false, nl_lt, nl_le, ln_lt, ln_le, nl_eq, ln_eq, nl_add, ln_add, nl_sub, ln_mul, nI_sub, nI_mul, nI_add, nI_lt_iff, nI_le_iff, nI_inj, nI_num, mq_ix, nI_1, nl_mul, nl_div, nL_lt, nL_le, nL_eq, nL_l, nL_i, nLl_lt, nLl_le, nLl_eq, lnL_lt, lnL_le, lg_cmp_ge, lg_cmp_le, lg_cmp_gt, lg_cmp_lt, lg_cmp_eq, hc, q2, q3, q4, on1, narrow_b1]
    · have q4 : ¬ c.2.2.2.2 = u := fun z => q3 (by rw [z])
      simp (disch := (first | omega | decide)) [c201, s201_0, s201_1, s201_4, s201_5, s201_6, s201_9, s201_10, s201_13, s201_14, s201_17, s201_18, s201_21, s201_22, mq_k0s, mq_k1s, mq_k2s, mq_k4s, mq_k5s, mq_k5n, mq_k5as, mq_k6s, mj_pu, mj_lo, mj_br, mj_hr, mj_hw, mq_gf, mq_len, mq_al, mq_pf, mq_ok, mj_re, mq_lkm, mq_lkn, mj_ldi, mj_ldl, mj_lda, mj_ii, mj_ll, mj_li, mj_i1, ms_1, ms_2, f1_n, f1_i, f1_r, f1_u, f1_l, f2_n, f2_i, f2_r, f2_u, f2_l, mj_tg, mj_c1, mj_c2, mj_ar, mj_aw, mq_cb, mq_oi, mj_rm, Value.category, -getElem?_pos, List.getElem?_cons_zero, decide_eq_true, decide_eq_false, nl_lt, nl_le, ln_lt, ln_le, nl_eq, ln_eq, nl_add, ln_add, nl_sub, ln_mul, nI_sub, nI_mul, nI_add, nI_lt_iff, nI_le_iff, nI_inj, nI_num, mq_ix, nI_1, nl_mul, nl_div, nL_lt, nL_le, nL_eq, nL_l, nL_i, nLl_lt, nLl_le, nLl_eq, lnL_lt, lnL_le, lg_cmp_ge, lg_cmp_le, lg_cmp_gt, lg_cmp_lt, lg_cmp_eq, hc, q2, q3, q4, on1, narrow_b0]
  · have q4 : ¬ c.2.2.2.2 = u := fun z => q2 (by rw [z])
    simp (disch := (first | omega | decide)) [c201, s201_0, s201_1, s201_4, s201_5, s201_6, s201_9, s201_10, s201_13, s201_14, s201_17, s201_18, s201_21, s201_22, mq_k0s, mq_k1s, mq_k2s, mq_k4s, mq_k5s, mq_k5n, mq_k5as, mq_k6s, mj_pu, mj_lo, mj_br, mj_hr, mj_hw, mq_gf, mq_len, mq_al, mq_pf, mq_ok, mj_re, mq_lkm, mq_lkn, mj_ldi, mj_ldl, mj_lda, mj_ii, mj_ll, mj_li, mj_i1, ms_1, ms_2, f1_n, f1_i, f1_r, f1_u, f1_l, f2_n, f2_i, f2_r, f2_u, f2_l, mj_tg, mj_c1, mj_c2, mj_ar, mj_aw, mq_cb, mq_oi, mj_rm, Value.category, -getElem?_pos, List.getElem?_cons_zero, decide_eq_true, decide_eq_false, nl_lt, nl_le, ln_lt, ln_le, nl_eq, ln_eq, nl_add, ln_add, nl_sub, ln_mul, nI_sub, nI_mul, nI_add, nI_lt_iff, nI_le_iff, nI_inj, nI_num, mq_ix, nI_1, nl_mul, nl_div, nL_lt, nL_le, nL_eq, nL_l, nL_i, nLl_lt, nLl_le, nLl_eq, lnL_lt, lnL_le, lg_cmp_ge, lg_cmp_le, lg_cmp_gt, lg_cmp_lt, lg_cmp_eq, hc, q2, q4, on1, narrow_b0]
def acF (p : Pa) (u : List Int32) : List Ac := p.2.2.2.1.filter (fun a => decide (a.2.2.2.2 = u))
theorem l_accs (h : pz M π p) (ho : okA p) (h8 : ∀ v ∈ u, v &&& 255 = v) (hl : u.length ≤ 8) : ∀ (m k n : Nat), k + m = p.2.2.2.1.length → n ≤ k → mj_Rn (d + 1) mj_m199 6 [(5, .int (nI k)), (4, .int (nI n)), (0, .ref π), (1, .long (bt_lo u)), (3, .int (nI u.length))] [] M = some (some (.int (nI (n + ((p.2.2.2.1.drop k).filter (fun a => decide (a.2.2.2.2 = u))).length))), M) := by
  have x0 := h.ob
  have l8 := h.l8
  intro m
  induction m with
  | zero =>
    intro k n hk hn
    rw [List.drop_eq_nil_of_le (by omega)]
    have e : k = p.2.2.2.1.length := by omega
    subst e
    simp (disch := (first | omega | decide)) [s199_0, s199_1, s199_3, s199_4, s199_6, s199_8, s199_9, s199_12, s199_15, s199_16, s199_18, s199_21, s199_23, s199_25, s199_27, s199_30, s199_32, s199_33, s199_34, s199_37, s199_40, s199_41, s199_44, s199_45, s199_46, s199_48, s199_51, s199_54, s199_56, mq_k0s, mq_k1s, mq_k2s, mq_k4s, mq_k5s, mq_k5n, mq_k5as, mq_k6s, mj_pu, mj_lo, mj_br, mj_hr, mj_hw, mq_gf, mq_len, mq_al, mq_pf, mq_ok, mj_re, mq_lkm, mq_lkn, mj_ldi, mj_ldl, mj_lda, mj_ii, mj_ll, mj_li, mj_i1, ms_1, ms_2, f1_n, f1_i, f1_r, f1_u, f1_l, f2_n, f2_i, f2_r, f2_u, f2_l, mj_tg, mj_c1, mj_c2, mj_ar, mj_aw, mq_cb, mq_oi, mj_rm, Value.category, -getElem?_pos, List.getElem?_cons_zero, decide_eq_true, decide_eq_false, nl_lt, nl_le, ln_lt, ln_le, nl_eq, ln_eq, nl_add, ln_add, nl_sub, ln_mul, nI_sub, nI_mul, nI_add, nI_lt_iff, nI_le_iff, nI_inj, nI_num, mq_ix, nI_1, nl_mul, nl_div, x0, narrow]
  | succ m ih =>
    intro k n hk hn
    have hkl : k < p.2.2.2.1.length := by omega
    have hcc := h.ac k _ (List.getElem?_eq_getElem hkl)
    have v1 := j_acc (d := d) h hkl
    have v2 := j_isOf (d := d) hcc (ho _ (List.getElem_mem hkl)) h8 hl
    rw [List.drop_eq_getElem_cons hkl, List.filter_cons]
    rw [s199_6]
    unfold acc at hcc
    by_cases q : p.2.2.2.1[k].2.2.2.2 = u
    · simp only [q, decide_true, on1_t] at v2
      have r1 := ih (k + 1) (n + 1) (by omega) (by omega)
      rw [if_pos (by simp [q]), List.length_cons]
      simp (disch := (first | omega | decide)) [s199_0, s199_1, s199_3, s199_4, s199_8, s199_9, s199_12, s199_15, s199_16, s199_18, s199_21, s199_23, s199_25, s199_27, s199_30, s199_32, s199_33, s199_34, s199_37, s199_40, s199_41, s199_44, s199_45, s199_46, s199_48, s199_51, s199_54, s199_56, mq_k0s, mq_k1s, mq_k2s, mq_k4s, mq_k5s, mq_k5n, mq_k5as, mq_k6s, mj_pu, mj_lo, mj_br, mj_hr, mj_hw, mq_gf, mq_len, mq_al, mq_pf, mq_ok, mj_re, mq_lkm, mq_lkn, mj_ldi, mj_ldl, mj_lda, mj_ii, mj_ll, mj_li, mj_i1, ms_1, ms_2, f1_n, f1_i, f1_r, f1_u, f1_l, f2_n, f2_i, f2_r, f2_u, f2_l, mj_tg, mj_c1, mj_c2, mj_ar, mj_aw, mq_cb, mq_oi, mj_rm, Value.category, -getElem?_pos, List.getElem?_cons_zero, decide_eq_true, decide_eq_false, nl_lt, nl_le, ln_lt, ln_le, nl_eq, ln_eq, nl_add, ln_add, nl_sub, ln_mul, nI_sub, nI_mul, nI_add, nI_lt_iff, nI_le_iff, nI_inj, nI_num, mq_ix, nI_1, nl_mul, nl_div, x0, v1, hcc, v2]
      refine mq_wk ?_ (by rw [show n + (((p.2.2.2.1.drop (k + 1)).filter (fun a => decide (a.2.2.2.2 = u))).length + 1) = n + 1 + ((p.2.2.2.1.drop (k + 1)).filter (fun a => decide (a.2.2.2.2 = u))).length by omega]; exact r1)
      simp [mq_sub, mj_lk]
    · simp only [q, decide_false, on1_f] at v2
      have r1 := ih (k + 1) n (by omega) (by omega)
      rw [if_neg (by simp [q])]
      simp (disch := (first | omega | decide)) [s199_0, s199_1, s199_3, s199_4, s199_8, s199_9, s199_12, s199_15, s199_16, s199_18, s199_21, s199_23, s199_25, s199_27, s199_30, s199_32, s199_33, s199_34, s199_37, s199_40, s199_41, s199_44, s199_45, s199_46, s199_48, s199_51, s199_54, s199_56, mq_k0s, mq_k1s, mq_k2s, mq_k4s, mq_k5s, mq_k5n, mq_k5as, mq_k6s, mj_pu, mj_lo, mj_br, mj_hr, mj_hw, mq_gf, mq_len, mq_al, mq_pf, mq_ok, mj_re, mq_lkm, mq_lkn, mj_ldi, mj_ldl, mj_lda, mj_ii, mj_ll, mj_li, mj_i1, ms_1, ms_2, f1_n, f1_i, f1_r, f1_u, f1_l, f2_n, f2_i, f2_r, f2_u, f2_l, mj_tg, mj_c1, mj_c2, mj_ar, mj_aw, mq_cb, mq_oi, mj_rm, Value.category, -getElem?_pos, List.getElem?_cons_zero, decide_eq_true, decide_eq_false, nl_lt, nl_le, ln_lt, ln_le, nl_eq, ln_eq, nl_add, ln_add, nl_sub, ln_mul, nI_sub, nI_mul, nI_add, nI_lt_iff, nI_le_iff, nI_inj, nI_num, mq_ix, nI_1, nl_mul, nl_div, x0, v1, hcc, v2]
      refine mq_wk ?_ r1
      simp [mq_sub, mj_lk]
theorem j_accs (h : pz M π p) (ho : okA p) (h8 : ∀ v ∈ u, v &&& 255 = v) (hl : u.length ≤ 8) : mj_V (d + 2) 199 [.ref π, .long (bt_lo u), .int (nI u.length)] M = some (some (.int (nI (acF p u).length)), M) := by
  have r := l_accs (d := d) h ho h8 hl p.2.2.2.1.length 0 0 (by omega) (by omega)
  simp only [List.drop_zero, Nat.zero_add, nI_0] at r
  simp (disch := (first | omega | decide)) [c199, s199_0, s199_1, s199_3, s199_4, s199_8, s199_9, s199_12, s199_15, s199_16, s199_18, s199_21, s199_23, s199_25, s199_27, s199_30, s199_32, s199_33, s199_34, s199_37, s199_40, s199_41, s199_44, s199_45, s199_46, s199_48, s199_51, s199_54, s199_56, mq_k0s, mq_k1s, mq_k2s, mq_k4s, mq_k5s, mq_k5n, mq_k5as, mq_k6s, mj_pu, mj_lo, mj_br, mj_hr, mj_hw, mq_gf, mq_len, mq_al, mq_pf, mq_ok, mj_re, mq_lkm, mq_lkn, mj_ldi, mj_ldl, mj_lda, mj_ii, mj_ll, mj_li, mj_i1, ms_1, ms_2, f1_n, f1_i, f1_r, f1_u, f1_l, f2_n, f2_i, f2_r, f2_u, f2_l, mj_tg, mj_c1, mj_c2, mj_ar, mj_aw, mq_cb, mq_oi, mj_rm, Value.category, -getElem?_pos, List.getElem?_cons_zero, decide_eq_true, decide_eq_false, nl_lt, nl_le, ln_lt, ln_le, nl_eq, ln_eq, nl_add, ln_add, nl_sub, ln_mul, nI_sub, nI_mul, nI_add, nI_lt_iff, nI_le_iff, nI_inj, nI_num, mq_ix, nI_1, nl_mul, nl_div]
  exact r
theorem acF_le : (acF p u).length ≤ p.2.2.2.1.length := List.length_filter_le _ _
theorem acEnt_len (a : Ac) : (acEnt a).length = 25 := by simp [acEnt, b4_len]
theorem ent_len (l : List Ac) : (l.flatMap acEnt).length = 25 * l.length := by
  induction l with
  | nil => rfl
  | cons a l ih => rw [List.flatMap_cons, List.length_append, acEnt_len, ih, List.length_cons]; omega
theorem hz.pzz (z : hz M H κs πs row) {j : Nat} (hp : H.2.2.2.2[j]? = some p) : ∃ π, πs[j]? = some π ∧ pz M π p := by
  have hl := (List.getElem?_eq_some_iff.mp hp).1
  have hl2 : j < πs.length := by rw [z.pl]; exact hl
  exact ⟨_, List.getElem?_eq_getElem hl2, z.py j p _ hp (List.getElem?_eq_getElem hl2)⟩
theorem l_pac {j : Nat} (hp : H.2.2.2.2[j]? = some p) (hπ : πs[j]? = some π) (ho : okA p) (h8 : ∀ v ∈ u, v &&& 255 = v) (hl : u.length ≤ 8) {x5 : Int32} : ∀ (m k : Nat) (xs : List Int32) (M : mj_H), k + m = p.2.2.2.1.length → xs.length + 25 * m ≤ 400 → hm M H κs πs row xs → ∃ M', mj_Rn (d + 5) mj_m203 13 [(6, .int (nI k)), (0, .ref 25), (1, .ref π), (2, .long (bt_lo u)), (4, .int (nI u.length)), (5, .int x5)] [] M = some (none, M') ∧ hm M' H κs πs row (xs ++ ((p.2.2.2.1.drop k).filter (fun a => decide (a.2.2.2.2 = u))).flatMap acEnt) ∧ hf M M' := by
  intro m
  induction m with
  | zero =>
    intro k xs M hk hxs z
    have h := z.z.py j p π hp hπ
    have x0 := h.ob
    have l8 := h.l8
    rw [List.drop_eq_nil_of_le (by omega)]
    have e : k = p.2.2.2.1.length := by omega
    subst e
    refine ⟨M, ?_, by simpa using z, hf.rf⟩
    simp (disch := (first | omega | decide)) [s203_0, s203_1, s203_4, s203_5, s203_7, s203_10, s203_11, s203_13, s203_14, s203_17, s203_19, s203_20, s203_23, s203_26, s203_27, s203_29, s203_32, s203_34, s203_36, s203_39, s203_41, s203_42, s203_44, s203_47, s203_50, s203_51, s203_54, s203_55, s203_56, s203_59, s203_60, s203_63, s203_66, s203_69, s203_70, s203_73, s203_75, s203_78, s203_81, s203_82, s203_85, s203_88, s203_91, s203_92, s203_95, s203_98, s203_101, s203_104, s203_107, mq_k0s, mq_k1s, mq_k2s, mq_k4s, mq_k5s, mq_k5n, mq_k5as, mq_k6s, mj_pu, mj_lo, mj_br, mj_hr, mj_hw, mq_gf, mq_len, mq_al, mq_pf, mq_ok, mj_re, mq_lkm, mq_lkn, mj_ldi, mj_ldl, mj_lda, mj_ii, mj_ll, mj_li, mj_i1, ms_1, ms_2, f1_n, f1_i, f1_r, f1_u, f1_l, f2_n, f2_i, f2_r, f2_u, f2_l, mj_tg, mj_c1, mj_c2, mj_ar, mj_aw, mq_cb, mq_oi, mj_rm, Value.category, -getElem?_pos, List.getElem?_cons_zero, decide_eq_true, decide_eq_false, nl_lt, nl_le, ln_lt, ln_le, nl_eq, ln_eq, nl_add, ln_add, nl_sub, ln_mul, nI_sub, nI_mul, nI_add, nI_lt_iff, nI_le_iff, nI_inj, nI_num, mq_ix, nI_1, nl_mul, nl_div, x0, narrow]
  | succ m ih =>
    intro k xs M hk hxs z
    have h := z.z.py j p π hp hπ
    have x0 := h.ob
    have l8 := h.l8
    have hkl : k < p.2.2.2.1.length := by omega
    have hcc := h.ac k _ (List.getElem?_eq_getElem hkl)
    have v1 := j_acc (d := d + 4) h hkl
    have v2 := j_isOf (d := d + 4) hcc (ho _ (List.getElem_mem hkl)) h8 hl
    rw [List.drop_eq_getElem_cons hkl, List.filter_cons]
    by_cases q : p.2.2.2.1[k].2.2.2.2 = u
    · simp only [q, decide_true, on1_t] at v2
      rw [if_pos (by simp [q]), List.flatMap_cons, ← List.append_assoc]
      have z0 := z
      obtain ⟨y0, w0⟩ := z0.fa
      obtain ⟨M1, p1, z1, g1⟩ := hm_headX (d := d + 3) z0 5 2 (xs ++ [162]) (by simp only [List.append_assoc, List.cons_append, List.nil_append, List.append_nil, h_53, h_54, h_55, h_52, h_51, h_41, h_217, h_29, h_22, h_16, h_721, h_720, h_0400, aa_1, aa_2, aa_3, aa_4, aa_5, aa_6, tx_0, tx_1, tx_2, tx_3, tx_5, tx_6, tx_7, tx_8, tx_9, tx_10, h_56, h_44, aa_7, aa_8, aa_9]) (by simp [b4_len] <;> omega)
      obtain ⟨x1, y1⟩ := z1.fa
      obtain ⟨M2, p2, z2, g2⟩ := hm_textX (d := d) (j := 0) (a := 3) z1 (by omega) ((xs ++ [162]) ++ [98,  105,  100]) rfl (by simp only [List.append_assoc, List.cons_append, List.nil_append, List.append_nil, h_53, h_54, h_55, h_52, h_51, h_41, h_217, h_29, h_22, h_16, h_721, h_720, h_0400, aa_1, aa_2, aa_3, aa_4, aa_5, aa_6, tx_0, tx_1, tx_2, tx_3, tx_5, tx_6, tx_7, tx_8, tx_9, tx_10, h_56, h_44, aa_7, aa_8, aa_9]) (by simp [b4_len] <;> omega)
      obtain ⟨x2, y2⟩ := z2.fa
      have hcc2 := (z2.z.py j p π hp hπ).ac k _ (List.getElem?_eq_getElem hkl)
      obtain ⟨M3, p3, z3, g3⟩ := hm_termX (d := d + 2) z2 (p.2.2.2.1[k].1) ((xs ++ [162] ++ [98, 105, 100]) ++ (68 :: b4 (p.2.2.2.1[k].1))) rfl (by simp [b4_len] <;> omega)
      obtain ⟨x3, y3⟩ := z3.fa
      obtain ⟨M4, p4, z4, g4⟩ := hm_textX (d := d) (j := 2) (a := 7) z3 (by omega) (((xs ++ [162] ++ [98, 105, 100]) ++ (68 :: b4 (p.2.2.2.1[k].1))) ++ [100,  116,  121,  112,  101]) rfl (by simp only [List.append_assoc, List.cons_append, List.nil_append, List.append_nil, h_53, h_54, h_55, h_52, h_51, h_41, h_217, h_29, h_22, h_16, h_721, h_720, h_0400, aa_1, aa_2, aa_3, aa_4, aa_5, aa_6, tx_0, tx_1, tx_2, tx_3, tx_5, tx_6, tx_7, tx_8, tx_9, tx_10, h_56, h_44, aa_7, aa_8, aa_9]) (by simp [b4_len] <;> omega)
      obtain ⟨x4, y4⟩ := z4.fa
      obtain ⟨M5, p5, z5, g5⟩ := hm_textX (d := d) (j := 5) (a := 13) z4 (by omega) ((((xs ++ [162] ++ [98, 105, 100]) ++ (68 :: b4 (p.2.2.2.1[k].1))) ++ [100,  116,  121,  112,  101]) ++ [106,  112,  117,  98,  108,  105,  99,  45,  107,  101,  121]) rfl (by simp only [List.append_assoc, List.cons_append, List.nil_append, List.append_nil, h_53, h_54, h_55, h_52, h_51, h_41, h_217, h_29, h_22, h_16, h_721, h_720, h_0400, aa_1, aa_2, aa_3, aa_4, aa_5, aa_6, tx_0, tx_1, tx_2, tx_3, tx_5, tx_6, tx_7, tx_8, tx_9, tx_10, h_56, h_44, aa_7, aa_8, aa_9]) (by simp [b4_len] <;> omega)
      obtain ⟨x5, y5⟩ := z5.fa
      have e : xs ++ [162] ++ [98, 105, 100] ++ (68 :: b4 p.2.2.2.1[k].1) ++ [100, 116, 121, 112, 101] ++ [106, 112, 117, 98, 108, 105, 99, 45, 107, 101, 121] = xs ++ acEnt p.2.2.2.1[k] := by simp [acEnt]
      rw [e] at z5
      obtain ⟨M6, p6, z6, g6⟩ := ih (k + 1) (xs ++ acEnt p.2.2.2.1[k]) M5 (by omega) (by rw [List.length_append, acEnt_len]; omega) z5
      refine ⟨M6, ?_, z6, ((((((g1).tr g2).tr g3).tr g4).tr g5).tr g6)⟩
      rw [s203_13]
      unfold acc at hcc hcc2
      simp (disch := (first | omega | decide)) [s203_0, s203_1, s203_4, s203_5, s203_7, s203_10, s203_11, s203_14, s203_17, s203_19, s203_20, s203_23, s203_26, s203_27, s203_29, s203_32, s203_34, s203_36, s203_39, s203_41, s203_42, s203_44, s203_47, s203_50, s203_51, s203_54, s203_55, s203_56, s203_59, s203_60, s203_63, s203_66, s203_69, s203_70, s203_73, s203_75, s203_78, s203_81, s203_82, s203_85, s203_88, s203_91, s203_92, s203_95, s203_98, s203_101, s203_104, s203_107, mq_k0s, mq_k1s, mq_k2s, mq_k4s, mq_k5s, mq_k5n, mq_k5as, mq_k6s, mj_pu, mj_lo, mj_br, mj_hr, mj_hw, mq_gf, mq_len, mq_al, mq_pf, mq_ok, mj_re, mq_lkm, mq_lkn, mj_ldi, mj_ldl, mj_lda, mj_ii, mj_ll, mj_li, mj_i1, ms_1, ms_2, f1_n, f1_i, f1_r, f1_u, f1_l, f2_n, f2_i, f2_r, f2_u, f2_l, mj_tg, mj_c1, mj_c2, mj_ar, mj_aw, mq_cb, mq_oi, mj_rm, Value.category, -getElem?_pos, List.getElem?_cons_zero, decide_eq_true, decide_eq_false, nl_lt, nl_le, ln_lt, ln_le, nl_eq, ln_eq, nl_add, ln_add, nl_sub, ln_mul, nI_sub, nI_mul, nI_add, nI_lt_iff, nI_le_iff, nI_inj, nI_num, mq_ix, nI_1, nl_mul, nl_div, x0, v1, hcc, v2, y0, w0, p1, x1, y1, p2, x2, y2, hcc2, p3, x3, y3, p4, x4, y4, p5]
      refine mq_wk ?_ p6
      simp [mq_sub, mj_lk]
    · simp only [q, decide_false, on1_f] at v2
      rw [if_neg (by simp [q])]
      obtain ⟨M6, p6, z6, g6⟩ := ih (k + 1) xs M (by omega) (by omega) z
      refine ⟨M6, ?_, z6, g6⟩
      rw [s203_13]
      unfold acc at hcc
      simp (disch := (first | omega | decide)) [s203_0, s203_1, s203_4, s203_5, s203_7, s203_10, s203_11, s203_14, s203_17, s203_19, s203_20, s203_23, s203_26, s203_27, s203_29, s203_32, s203_34, s203_36, s203_39, s203_41, s203_42, s203_44, s203_47, s203_50, s203_51, s203_54, s203_55, s203_56, s203_59, s203_60, s203_63, s203_66, s203_69, s203_70, s203_73, s203_75, s203_78, s203_81, s203_82, s203_85, s203_88, s203_91, s203_92, s203_95, s203_98, s203_101, s203_104, s203_107, mq_k0s, mq_k1s, mq_k2s, mq_k4s, mq_k5s, mq_k5n, mq_k5as, mq_k6s, mj_pu, mj_lo, mj_br, mj_hr, mj_hw, mq_gf, mq_len, mq_al, mq_pf, mq_ok, mj_re, mq_lkm, mq_lkn, mj_ldi, mj_ldl, mj_lda, mj_ii, mj_ll, mj_li, mj_i1, ms_1, ms_2, f1_n, f1_i, f1_r, f1_u, f1_l, f2_n, f2_i, f2_r, f2_u, f2_l, mj_tg, mj_c1, mj_c2, mj_ar, mj_aw, mq_cb, mq_oi, mj_rm, Value.category, -getElem?_pos, List.getElem?_cons_zero, decide_eq_true, decide_eq_false, nl_lt, nl_le, ln_lt, ln_le, nl_eq, ln_eq, nl_add, ln_add, nl_sub, ln_mul, nI_sub, nI_mul, nI_add, nI_lt_iff, nI_le_iff, nI_inj, nI_num, mq_ix, nI_1, nl_mul, nl_div, x0, v1, hcc, v2]
      refine mq_wk ?_ p6
      simp [mq_sub, mj_lk]
theorem h_pac (z : hm M H κs πs row ms) {j : Nat} (hp : H.2.2.2.2[j]? = some p) (hπ : πs[j]? = some π) (ho : okA p) (h8 : ∀ v ∈ u, v &&& 255 = v) (hl : u.length ≤ 8) (hms : ms.length ≤ 190) : ∃ M', mj_V (d + 6) 203 [.ref 25, .ref π, .long (bt_lo u), .int (nI u.length), .int (nI (acF p u).length)] M = some (none, M') ∧ hm M' H κs πs row (ms ++ (bt_hd 4 (nI (acF p u).length) ++ (acF p u).flatMap acEnt)) ∧ hf M M' := by
  have h := z.z.py j p π hp hπ
  have l8 := h.l8
  have z0 := z
  obtain ⟨x0, y0⟩ := z0.fa
  have hbl := bt_hd_len 4 (nI (acF p u).length)
  obtain ⟨M1, p1, z1, g1⟩ := hm_headX (d := d + 3) z0 4 (nI (acF p u).length) (ms ++ bt_hd 4 (nI (acF p u).length)) rfl (by simp; omega)
  obtain ⟨M2, p2, z2, g2⟩ := l_pac (d := d) (x5 := nI (acF p u).length) hp hπ ho h8 hl p.2.2.2.1.length 0 _ M1 (by omega) (by simp; omega) z1
  simp only [List.drop_zero] at z2
  rw [List.append_assoc] at z2
  refine ⟨M2, ?_, z2, g1.tr g2⟩
  rw [nI_0] at p2
  simp (disch := (first | omega | decide)) [c203, s203_0, s203_1, s203_4, s203_5, s203_7, s203_10, s203_11, s203_14, s203_17, s203_19, s203_20, s203_23, s203_26, s203_27, s203_29, s203_32, s203_34, s203_36, s203_39, s203_41, s203_42, s203_44, s203_47, s203_50, s203_51, s203_54, s203_55, s203_56, s203_59, s203_60, s203_63, s203_66, s203_69, s203_70, s203_73, s203_75, s203_78, s203_81, s203_82, s203_85, s203_88, s203_91, s203_92, s203_95, s203_98, s203_101, s203_104, s203_107, mq_k0s, mq_k1s, mq_k2s, mq_k4s, mq_k5s, mq_k5n, mq_k5as, mq_k6s, mj_pu, mj_lo, mj_br, mj_hr, mj_hw, mq_gf, mq_len, mq_al, mq_pf, mq_ok, mj_re, mq_lkm, mq_lkn, mj_ldi, mj_ldl, mj_lda, mj_ii, mj_ll, mj_li, mj_i1, ms_1, ms_2, f1_n, f1_i, f1_r, f1_u, f1_l, f2_n, f2_i, f2_r, f2_u, f2_l, mj_tg, mj_c1, mj_c2, mj_ar, mj_aw, mq_cb, mq_oi, mj_rm, Value.category, -getElem?_pos, List.getElem?_cons_zero, decide_eq_true, decide_eq_false, nl_lt, nl_le, ln_lt, ln_le, nl_eq, ln_eq, nl_add, ln_add, nl_sub, ln_mul, nI_sub, nI_mul, nI_add, nI_lt_iff, nI_le_iff, nI_inj, nI_num, mq_ix, nI_1, nl_mul, nl_div, x0, y0, p1]
  exact p2
theorem h_popt (z : hm M H κs πs row ms) {j a : Nat} (hj : j < 11) (ha : 3 + 2 * j = a) (v b : Int32) (hv : bt_hd 7 v = [b]) (tx : List Int32) (htx : bt_hd 3 (nI (mj_str.getD j []).length) ++ mj_str.getD j [] = tx) (htl : tx.length ≤ 11) (hms : ms.length ≤ 380) : ∃ M', mj_V (d + 6) 204 [.ref 25, .ref a, .int v] M = some (none, M') ∧ hm M' H κs πs row (ms ++ (161 :: (tx ++ [b]))) ∧ hf M M' := by
  have z0 := z
  obtain ⟨x0, y0⟩ := z0.fa
  obtain ⟨M1, p1, z1, g1⟩ := hm_headX (d := d + 3) z0 5 1 (ms ++ [161]) (by simp only [List.append_assoc, List.cons_append, List.nil_append, List.append_nil, h_53, h_54, h_55, h_52, h_51, h_41, h_217, h_29, h_22, h_16, h_721, h_720, h_0400, aa_1, aa_2, aa_3, aa_4, aa_5, aa_6, tx_0, tx_1, tx_2, tx_3, tx_5, tx_6, tx_7, tx_8, tx_9, tx_10, h_56, h_44, aa_7, aa_8, aa_9]) (by simp [b4_len] <;> omega)
  obtain ⟨x1, y1⟩ := z1.fa
  obtain ⟨M2, p2, z2, g2⟩ := hm_textX (d := d) (j := j) (a := a) z1 hj (ms ++ [161] ++ tx) ha (by rw [htx]) (by simp; omega)
  obtain ⟨x2, y2⟩ := z2.fa
  obtain ⟨M3, p3, z3, g3⟩ := hm_headX (d := d + 3) z2 7 v (ms ++ [161] ++ tx ++ [b]) (by rw [hv]) (by simp; omega)
  have e : ms ++ [161] ++ tx ++ [b] = ms ++ (161 :: (tx ++ [b])) := by simp
  rw [e] at z3
  refine ⟨M3, ?_, z3, (((g1).tr g2).tr g3)⟩
  simp (disch := (first | omega | decide)) [c204, s204_0, s204_1, s204_4, s204_5, s204_6, s204_9, s204_10, s204_13, s204_14, s204_17, s204_18, s204_21, s204_23, s204_24, s204_27, mq_k0s, mq_k1s, mq_k2s, mq_k4s, mq_k5s, mq_k5n, mq_k5as, mq_k6s, mj_pu, mj_lo, mj_br, mj_hr, mj_hw, mq_gf, mq_len, mq_al, mq_pf, mq_ok, mj_re, mq_lkm, mq_lkn, mj_ldi, mj_ldl, mj_lda, mj_ii, mj_ll, mj_li, mj_i1, ms_1, ms_2, f1_n, f1_i, f1_r, f1_u, f1_l, f2_n, f2_i, f2_r, f2_u, f2_l, mj_tg, mj_c1, mj_c2, mj_ar, mj_aw, mq_cb, mq_oi, mj_rm, Value.category, -getElem?_pos, List.getElem?_cons_zero, decide_eq_true, decide_eq_false, nl_lt, nl_le, ln_lt, ln_le, nl_eq, ln_eq, nl_add, ln_add, nl_sub, ln_mul, nI_sub, nI_mul, nI_add, nI_lt_iff, nI_le_iff, nI_inj, nI_num, mq_ix, nI_1, nl_mul, nl_div, x0, y0, p1, x1, y1, p2, x2, y2, p3]
theorem h_pmk (z : hm M H κs πs row ms) (m : Nat) (hm9 : m = 6 ∨ m = 8) (v : Int32) (hms : ms.length ≤ 380) : ∃ M', mj_V (d + 4) 205 [.ref 25, .int (nI m), .int v] M = some (none, M') ∧ hm M' H κs πs row (ms ++ (mbr (nI m) v ++ [nI (m + 1), 1])) ∧ hf M M' := by
  have z0 := z
  obtain ⟨x0, y0⟩ := z0.fa
  have e1 : nI m &&& 255 = nI m := by rcases hm9 with rfl | rfl <;> decide
  have e2 : nI (m + 1) &&& 255 = nI (m + 1) := by rcases hm9 with rfl | rfl <;> decide
  obtain ⟨M1, p1, z1, g1⟩ := hm_pushX (d := d + 2) z0 (nI m) (ms ++ [nI m]) (by rw [e1]) (by simp; omega)
  obtain ⟨x1, y1⟩ := z1.fa
  obtain ⟨M2, p2, z2, g2⟩ := hm_termX (d := d) z1 v (ms ++ [nI m] ++ (68 :: b4 v)) rfl (by simp [b4_len]; omega)
  obtain ⟨x2, y2⟩ := z2.fa
  obtain ⟨M3, p3, z3, g3⟩ := hm_pushX (d := d + 2) z2 (nI (m + 1)) (ms ++ [nI m] ++ (68 :: b4 v) ++ [nI (m + 1)]) (by rw [e2]) (by simp [b4_len]; omega)
  obtain ⟨x3, y3⟩ := z3.fa
  obtain ⟨M4, p4, z4, g4⟩ := hm_pushX (d := d + 2) z3 1 (ms ++ [nI m] ++ (68 :: b4 v) ++ [nI (m + 1)] ++ [1]) (by rw [aa_1]) (by simp [b4_len]; omega)
  have e : ms ++ [nI m] ++ (68 :: b4 v) ++ [nI (m + 1)] ++ [1] = ms ++ (mbr (nI m) v ++ [nI (m + 1), 1]) := by simp [mbr]
  rw [e] at z4
  refine ⟨M4, ?_, z4, ((((g1).tr g2).tr g3).tr g4)⟩
  simp (disch := (first | omega | decide)) [c205, s205_0, s205_1, s205_4, s205_5, s205_8, s205_9, s205_12, s205_13, s205_16, s205_17, s205_20, s205_21, s205_22, s205_23, s205_26, s205_27, s205_30, s205_31, s205_34, mq_k0s, mq_k1s, mq_k2s, mq_k4s, mq_k5s, mq_k5n, mq_k5as, mq_k6s, mj_pu, mj_lo, mj_br, mj_hr, mj_hw, mq_gf, mq_len, mq_al, mq_pf, mq_ok, mj_re, mq_lkm, mq_lkn, mj_ldi, mj_ldl, mj_lda, mj_ii, mj_ll, mj_li, mj_i1, ms_1, ms_2, f1_n, f1_i, f1_r, f1_u, f1_l, f2_n, f2_i, f2_r, f2_u, f2_l, mj_tg, mj_c1, mj_c2, mj_ar, mj_aw, mq_cb, mq_oi, mj_rm, Value.category, -getElem?_pos, List.getElem?_cons_zero, decide_eq_true, decide_eq_false, nl_lt, nl_le, ln_lt, ln_le, nl_eq, ln_eq, nl_add, ln_add, nl_sub, ln_mul, nI_sub, nI_mul, nI_add, nI_lt_iff, nI_le_iff, nI_inj, nI_num, mq_ix, nI_1, nl_mul, nl_div, x0, y0, p1, x1, y1, p2, x2, y2, p3, x3, y3, p4]
/-- the beginning of MAKE's message -/
def bmMsg (hash : Int32) (name u : List Int32) (hb : Int32) : List Int32 := [1, hb] ++ (mbr 1 hash ++ ([2, 161, 98, 105, 100] ++ (bt_hd 3 (nI name.length) ++ (name ++ ([3, 161, 98, 105, 100] ++ (bt_hd 2 (nI u.length) ++ (u ++ [4, 129, 162, 99, 97, 108, 103, 38, 100, 116, 121, 112, 101, 106, 112, 117, 98, 108, 105, 99, 45, 107, 101, 121])))))))
theorem h_bmk (z : hz M H κs πs row) (hash : Int32) (w : Int64) {m n more : Nat} (hm8 : 1 ≤ m ∧ m ≤ 8) (hn : 1 ≤ n ∧ n ≤ 24) (hnt : n ≤ H.1.length) (hmo : more ≤ 4) (hb : Int32) (hhb : bt_hd 5 (nI (4 + more)) = [hb]) : ∃ M', mj_V (d + 6) 202 [.ref 25, .int hash, .long w, .int (nI m), .int (nI n), .int (nI more)] M = some (none, M') ∧ hm M' H κs πs row (bmMsg hash (H.1.take n) (bt_low w m) hb) ∧ hf M M' := by
  obtain ⟨ms0, hb0⟩ := z.ms
  have z0 : hm M H κs πs row ms0 := (hm_mk_ z hb0)
  obtain ⟨x0, y0⟩ := z0.fa
  have o0 := z.tp.2.2.2.2.2.1
  have enl : (H.1.take n).length = n := by simp; omega
  have ul := bt_low_len w m
  generalize hN : H.1.take n = N at *
  generalize hU : bt_low w m = U at *
  have hbl := bt_hd_len 3 (nI N.length)
  have hbu := bt_hd_len 2 (nI U.length)
  obtain ⟨M1, p1, z1, g1⟩ := hm_clear (d := d + 4) z0
  obtain ⟨x1, y1⟩ := z1.fa
  obtain ⟨M2, p2, z2, g2⟩ := hm_pushX (d := d + 4) z1 1 ([] ++ [1]) (by simp only [List.append_assoc, List.cons_append, List.nil_append, List.append_nil, h_53, h_54, h_55, h_52, h_51, h_41, h_217, h_29, h_22, h_16, h_721, h_720, h_0400, aa_1, aa_2, aa_3, aa_4, aa_5, aa_6, tx_0, tx_1, tx_2, tx_3, tx_5, tx_6, tx_7, tx_8, tx_9, tx_10, h_56, h_44, aa_7, aa_8, aa_9]) (by simp [b4_len] <;> omega)
  obtain ⟨x2, y2⟩ := z2.fa
  obtain ⟨M3, p3, z3, g3⟩ := hm_headX (d := d + 3) z2 5 (nI (4 + more)) ([] ++ [1] ++ [hb]) (by rw [hhb]) (by simp)
  obtain ⟨x3, y3⟩ := z3.fa
  obtain ⟨M4, p4, z4, g4⟩ := hm_pushX (d := d + 4) z3 1 (([] ++ [1] ++ [hb]) ++ [1]) (by simp only [List.append_assoc, List.cons_append, List.nil_append, List.append_nil, h_53, h_54, h_55, h_52, h_51, h_41, h_217, h_29, h_22, h_16, h_721, h_720, h_0400, aa_1, aa_2, aa_3, aa_4, aa_5, aa_6, tx_0, tx_1, tx_2, tx_3, tx_5, tx_6, tx_7, tx_8, tx_9, tx_10, h_56, h_44, aa_7, aa_8, aa_9]) (by simp [b4_len] <;> omega)
  obtain ⟨x4, y4⟩ := z4.fa
  obtain ⟨M5, p5, z5, g5⟩ := hm_termX (d := d + 2) z4 hash ((([] ++ [1] ++ [hb]) ++ [1]) ++ (68 :: b4 hash)) rfl (by simp [b4_len] <;> omega)
  obtain ⟨x5, y5⟩ := z5.fa
  obtain ⟨M6, p6, z6, g6⟩ := hm_pushX (d := d + 4) z5 2 (((([] ++ [1] ++ [hb]) ++ [1]) ++ (68 :: b4 hash)) ++ [2]) (by simp only [List.append_assoc, List.cons_append, List.nil_append, List.append_nil, h_53, h_54, h_55, h_52, h_51, h_41, h_217, h_29, h_22, h_16, h_721, h_720, h_0400, aa_1, aa_2, aa_3, aa_4, aa_5, aa_6, tx_0, tx_1, tx_2, tx_3, tx_5, tx_6, tx_7, tx_8, tx_9, tx_10, h_56, h_44, aa_7, aa_8, aa_9]) (by simp [b4_len] <;> omega)
  obtain ⟨x6, y6⟩ := z6.fa
  obtain ⟨M7, p7, z7, g7⟩ := hm_headX (d := d + 3) z6 5 1 ((((([] ++ [1] ++ [hb]) ++ [1]) ++ (68 :: b4 hash)) ++ [2]) ++ [161]) (by simp only [List.append_assoc, List.cons_append, List.nil_append, List.append_nil, h_53, h_54, h_55, h_52, h_51, h_41, h_217, h_29, h_22, h_16, h_721, h_720, h_0400, aa_1, aa_2, aa_3, aa_4, aa_5, aa_6, tx_0, tx_1, tx_2, tx_3, tx_5, tx_6, tx_7, tx_8, tx_9, tx_10, h_56, h_44, aa_7, aa_8, aa_9]) (by simp [b4_len] <;> omega)
  obtain ⟨x7, y7⟩ := z7.fa
  obtain ⟨M8, p8, z8, g8⟩ := hm_textX (d := d) (j := 0) (a := 3) z7 (by omega) (((((([] ++ [1] ++ [hb]) ++ [1]) ++ (68 :: b4 hash)) ++ [2]) ++ [161]) ++ [98,  105,  100]) rfl (by simp only [List.append_assoc, List.cons_append, List.nil_append, List.append_nil, h_53, h_54, h_55, h_52, h_51, h_41, h_217, h_29, h_22, h_16, h_721, h_720, h_0400, aa_1, aa_2, aa_3, aa_4, aa_5, aa_6, tx_0, tx_1, tx_2, tx_3, tx_5, tx_6, tx_7, tx_8, tx_9, tx_10, h_56, h_44, aa_7, aa_8, aa_9]) (by simp [b4_len] <;> omega)
  obtain ⟨x8, y8⟩ := z8.fa
  obtain ⟨M9, p9, z9, g9⟩ := hm_headX (d := d + 3) z8 3 (nI N.length) ((((((([] ++ [1] ++ [hb]) ++ [1]) ++ (68 :: b4 hash)) ++ [2]) ++ [161]) ++ [98,  105,  100]) ++ bt_hd 3 (nI N.length)) rfl (by simp [b4_len] <;> omega)
  obtain ⟨x9, y9⟩ := z9.fa
  generalize hA1 : [] ++ [1] ++ [hb] ++ [1] ++ (68 :: b4 hash) ++ [2] ++ [161] ++ [98, 105, 100] ++ bt_hd 3 (nI N.length) = A1 at *
  have lA1 : A1.length ≤ 20 := by rw [← hA1]; simp [b4_len]; omega
  obtain ⟨M10, p10, z10, g10⟩ := hm_partX (d := d + 3) (n := n) z9 (A1 ++ N) hnt hN rfl (by simp; omega)
  obtain ⟨x10, y10⟩ := z10.fa
  obtain ⟨M11, p11, z11, g11⟩ := hm_pushX (d := d + 4) z10 3 ((A1 ++ N) ++ [3]) (by simp only [List.append_assoc, List.cons_append, List.nil_append, List.append_nil, h_53, h_54, h_55, h_52, h_51, h_41, h_217, h_29, h_22, h_16, h_721, h_720, h_0400, aa_1, aa_2, aa_3, aa_4, aa_5, aa_6, tx_0, tx_1, tx_2, tx_3, tx_5, tx_6, tx_7, tx_8, tx_9, tx_10, h_56, h_44, aa_7, aa_8, aa_9]) (by simp [b4_len] <;> omega)
  obtain ⟨x11, y11⟩ := z11.fa
  obtain ⟨M12, p12, z12, g12⟩ := hm_headX (d := d + 3) z11 5 1 (((A1 ++ N) ++ [3]) ++ [161]) (by simp only [List.append_assoc, List.cons_append, List.nil_append, List.append_nil, h_53, h_54, h_55, h_52, h_51, h_41, h_217, h_29, h_22, h_16, h_721, h_720, h_0400, aa_1, aa_2, aa_3, aa_4, aa_5, aa_6, tx_0, tx_1, tx_2, tx_3, tx_5, tx_6, tx_7, tx_8, tx_9, tx_10, h_56, h_44, aa_7, aa_8, aa_9]) (by simp [b4_len] <;> omega)
  obtain ⟨x12, y12⟩ := z12.fa
  obtain ⟨M13, p13, z13, g13⟩ := hm_textX (d := d) (j := 0) (a := 3) z12 (by omega) ((((A1 ++ N) ++ [3]) ++ [161]) ++ [98,  105,  100]) rfl (by simp only [List.append_assoc, List.cons_append, List.nil_append, List.append_nil, h_53, h_54, h_55, h_52, h_51, h_41, h_217, h_29, h_22, h_16, h_721, h_720, h_0400, aa_1, aa_2, aa_3, aa_4, aa_5, aa_6, tx_0, tx_1, tx_2, tx_3, tx_5, tx_6, tx_7, tx_8, tx_9, tx_10, h_56, h_44, aa_7, aa_8, aa_9]) (by simp [b4_len] <;> omega)
  obtain ⟨x13, y13⟩ := z13.fa
  obtain ⟨M14, p14, z14, g14⟩ := hm_headX (d := d + 3) z13 2 (nI U.length) (((((A1 ++ N) ++ [3]) ++ [161]) ++ [98,  105,  100]) ++ bt_hd 2 (nI U.length)) rfl (by simp [b4_len] <;> omega)
  obtain ⟨x14, y14⟩ := z14.fa
  generalize hA2 : A1 ++ N ++ [3] ++ [161] ++ [98, 105, 100] ++ bt_hd 2 (nI U.length) = A2 at *
  have lA2 : A2.length ≤ 60 := by rw [← hA2]; simp; omega
  obtain ⟨M15, p15, z15, g15⟩ := hm_lowX (d := d + 4) (m := m) (w := w) z14 (A2 ++ U) hU rfl (by simp; omega) (by omega)
  obtain ⟨x15, y15⟩ := z15.fa
  obtain ⟨M16, p16, z16, g16⟩ := hm_pushX (d := d + 4) z15 4 ((A2 ++ U) ++ [4]) (by simp only [List.append_assoc, List.cons_append, List.nil_append, List.append_nil, h_53, h_54, h_55, h_52, h_51, h_41, h_217, h_29, h_22, h_16, h_721, h_720, h_0400, aa_1, aa_2, aa_3, aa_4, aa_5, aa_6, tx_0, tx_1, tx_2, tx_3, tx_5, tx_6, tx_7, tx_8, tx_9, tx_10, h_56, h_44, aa_7, aa_8, aa_9]) (by simp [b4_len] <;> omega)
  obtain ⟨x16, y16⟩ := z16.fa
  obtain ⟨M17, p17, z17, g17⟩ := hm_headX (d := d + 3) z16 4 1 (((A2 ++ U) ++ [4]) ++ [129]) (by simp only [List.append_assoc, List.cons_append, List.nil_append, List.append_nil, h_53, h_54, h_55, h_52, h_51, h_41, h_217, h_29, h_22, h_16, h_721, h_720, h_0400, aa_1, aa_2, aa_3, aa_4, aa_5, aa_6, tx_0, tx_1, tx_2, tx_3, tx_5, tx_6, tx_7, tx_8, tx_9, tx_10, h_56, h_44, aa_7, aa_8, aa_9]) (by simp [b4_len] <;> omega)
  obtain ⟨x17, y17⟩ := z17.fa
  obtain ⟨M18, p18, z18, g18⟩ := hm_headX (d := d + 3) z17 5 2 ((((A2 ++ U) ++ [4]) ++ [129]) ++ [162]) (by simp only [List.append_assoc, List.cons_append, List.nil_append, List.append_nil, h_53, h_54, h_55, h_52, h_51, h_41, h_217, h_29, h_22, h_16, h_721, h_720, h_0400, aa_1, aa_2, aa_3, aa_4, aa_5, aa_6, tx_0, tx_1, tx_2, tx_3, tx_5, tx_6, tx_7, tx_8, tx_9, tx_10, h_56, h_44, aa_7, aa_8, aa_9]) (by simp [b4_len] <;> omega)
  obtain ⟨x18, y18⟩ := z18.fa
  obtain ⟨M19, p19, z19, g19⟩ := hm_textX (d := d) (j := 1) (a := 5) z18 (by omega) (((((A2 ++ U) ++ [4]) ++ [129]) ++ [162]) ++ [99,  97,  108,  103]) rfl (by simp only [List.append_assoc, List.cons_append, List.nil_append, List.append_nil, h_53, h_54, h_55, h_52, h_51, h_41, h_217, h_29, h_22, h_16, h_721, h_720, h_0400, aa_1, aa_2, aa_3, aa_4, aa_5, aa_6, tx_0, tx_1, tx_2, tx_3, tx_5, tx_6, tx_7, tx_8, tx_9, tx_10, h_56, h_44, aa_7, aa_8, aa_9]) (by simp [b4_len] <;> omega)
  obtain ⟨x19, y19⟩ := z19.fa
  obtain ⟨M20, p20, z20, g20⟩ := hm_headX (d := d + 3) z19 1 6 ((((((A2 ++ U) ++ [4]) ++ [129]) ++ [162]) ++ [99,  97,  108,  103]) ++ [38]) (by simp only [List.append_assoc, List.cons_append, List.nil_append, List.append_nil, h_53, h_54, h_55, h_52, h_51, h_41, h_217, h_29, h_22, h_16, h_721, h_720, h_0400, aa_1, aa_2, aa_3, aa_4, aa_5, aa_6, tx_0, tx_1, tx_2, tx_3, tx_5, tx_6, tx_7, tx_8, tx_9, tx_10, h_56, h_44, aa_7, aa_8, aa_9]) (by simp [b4_len] <;> omega)
  obtain ⟨x20, y20⟩ := z20.fa
  obtain ⟨M21, p21, z21, g21⟩ := hm_textX (d := d) (j := 2) (a := 7) z20 (by omega) (((((((A2 ++ U) ++ [4]) ++ [129]) ++ [162]) ++ [99,  97,  108,  103]) ++ [38]) ++ [100,  116,  121,  112,  101]) rfl (by simp only [List.append_assoc, List.cons_append, List.nil_append, List.append_nil, h_53, h_54, h_55, h_52, h_51, h_41, h_217, h_29, h_22, h_16, h_721, h_720, h_0400, aa_1, aa_2, aa_3, aa_4, aa_5, aa_6, tx_0, tx_1, tx_2, tx_3, tx_5, tx_6, tx_7, tx_8, tx_9, tx_10, h_56, h_44, aa_7, aa_8, aa_9]) (by simp [b4_len] <;> omega)
  obtain ⟨x21, y21⟩ := z21.fa
  obtain ⟨M22, p22, z22, g22⟩ := hm_textX (d := d) (j := 5) (a := 13) z21 (by omega) ((((((((A2 ++ U) ++ [4]) ++ [129]) ++ [162]) ++ [99,  97,  108,  103]) ++ [38]) ++ [100,  116,  121,  112,  101]) ++ [106,  112,  117,  98,  108,  105,  99,  45,  107,  101,  121]) rfl (by simp only [List.append_assoc, List.cons_append, List.nil_append, List.append_nil, h_53, h_54, h_55, h_52, h_51, h_41, h_217, h_29, h_22, h_16, h_721, h_720, h_0400, aa_1, aa_2, aa_3, aa_4, aa_5, aa_6, tx_0, tx_1, tx_2, tx_3, tx_5, tx_6, tx_7, tx_8, tx_9, tx_10, h_56, h_44, aa_7, aa_8, aa_9]) (by simp [b4_len] <;> omega)
  obtain ⟨x22, y22⟩ := z22.fa
  have e : A2 ++ U ++ [4] ++ [129] ++ [162] ++ [99, 97, 108, 103] ++ [38] ++ [100, 116, 121, 112, 101] ++ [106, 112, 117, 98, 108, 105, 99, 45, 107, 101, 121] = bmMsg hash N U hb := by
    rw [← hA2, ← hA1]; simp [bmMsg, mbr]
  rw [e] at z22
  refine ⟨M22, ?_, z22, ((((((((((((((((((((((g1).tr g2).tr g3).tr g4).tr g5).tr g6).tr g7).tr g8).tr g9).tr g10).tr g11).tr g12).tr g13).tr g14).tr g15).tr g16).tr g17).tr g18).tr g19).tr g20).tr g21).tr g22)⟩
  have o9 := z9.z.tp.2.2.2.2.2.1
  rw [enl] at p9
  rw [ul] at p14
  simp (disch := (first | omega | decide)) [c202, s202_0, s202_1, s202_4, s202_7, s202_8, s202_11, s202_12, s202_15, s202_16, s202_19, s202_20, s202_21, s202_23, s202_24, s202_27, s202_28, s202_31, s202_32, s202_35, s202_36, s202_39, s202_40, s202_43, s202_44, s202_47, s202_48, s202_51, s202_52, s202_55, s202_56, s202_57, s202_60, s202_61, s202_64, s202_67, s202_70, s202_71, s202_74, s202_75, s202_77, s202_80, s202_81, s202_84, s202_85, s202_88, s202_89, s202_91, s202_94, s202_95, s202_98, s202_99, s202_102, s202_103, s202_106, s202_107, s202_108, s202_111, s202_112, s202_115, s202_118, s202_121, s202_122, s202_125, s202_126, s202_128, s202_131, s202_132, s202_135, s202_136, s202_138, s202_141, s202_142, s202_145, s202_146, s202_149, s202_150, s202_153, s202_154, s202_155, s202_158, s202_159, s202_162, s202_163, s202_164, s202_167, s202_168, s202_171, s202_174, s202_177, s202_178, s202_181, s202_182, s202_184, s202_187, s202_188, s202_191, s202_194, s202_197, s202_198, s202_201, s202_204, s202_207, mq_k0s, mq_k1s, mq_k2s, mq_k4s, mq_k5s, mq_k5n, mq_k5as, mq_k6s, mj_pu, mj_lo, mj_br, mj_hr, mj_hw, mq_gf, mq_len, mq_al, mq_pf, mq_ok, mj_re, mq_lkm, mq_lkn, mj_ldi, mj_ldl, mj_lda, mj_ii, mj_ll, mj_li, mj_i1, ms_1, ms_2, f1_n, f1_i, f1_r, f1_u, f1_l, f2_n, f2_i, f2_r, f2_u, f2_l, mj_tg, mj_c1, mj_c2, mj_ar, mj_aw, mq_cb, mq_oi, mj_rm, Value.category, -getElem?_pos, List.getElem?_cons_zero, decide_eq_true, decide_eq_false, nl_lt, nl_le, ln_lt, ln_le, nl_eq, ln_eq, nl_add, ln_add, nl_sub, ln_mul, nI_sub, nI_mul, nI_add, nI_lt_iff, nI_le_iff, nI_inj, nI_num, mq_ix, nI_1, nl_mul, nl_div, x0, y0, p1, x1, y1, p2, x2, y2, p3, x3, y3, p4, x4, y4, p5, x5, y5, p6, x6, y6, p7, x7, y7, p8, x8, y8, p9, x9, y9, o9, p10, x10, y10, p11, x11, y11, p12, x12, y12, p13, x13, y13, p14, x14, y14, p15, x15, y15, p16, x16, y16, p17, x17, y17, p18, x18, y18, p19, x19, y19, p20, x20, y20, p21, x21, y21, p22]
end HZ
end
/- 9i.ha -/
section
set_option maxRecDepth 512
/-! Class: the house: SIGN's message, responses. -/
theorem hd_sum5 : ∀ a b c : Bool, bt_hd 5 (nI (2 + ((if a then 1 else 0) + ((if b then 1 else 0) + (if c then 2 else 0))))) = [nI (162 + ((if a then 1 else 0) + ((if b then 1 else 0) + (if c then 2 else 0))))] := by decide
theorem hd_sum4 : ∀ a b c : Bool, bt_hd 5 (nI (4 + ((if a then 1 else 0) + ((if b then 1 else 0) + (if c then 2 else 0))))) = [nI (164 + ((if a then 1 else 0) + ((if b then 1 else 0) + (if c then 2 else 0))))] := by decide
def optM (b : Bool) (m : Int32) (tx : List Int32) (v : Int32) : List Int32 := if b then m :: 161 :: (tx ++ [v]) else []
def mrkM (mark m m' : Int32) : List Int32 := if mark = 0 then [] else mbr m mark ++ [m', 1]
section HZ
variable {M M' : mj_H} {H H' : Ho} {κs πs : List Nat} {row row' ms : List Int32} {d : Nat} {i l : Int32} {π : Nat} {p : Pa} {u : List Int32}
theorem ws_D {hash : Int32} {lv : Value} {le w6 w7 w8 : Int32} {mk : Nat} (hmk : mk ≤ 1000) (z : hm M H κs πs row ms) (hms : ms.length ≤ 370) : ∃ M', mj_Rn (d + 6) mj_m209 168 [(9, .int le), (0, .ref 25), (1, .int hash), (2, .int (nI mk)), (3, lv), (4, .long (bt_lo u)), (6, .int w6), (7, .int w7), (8, .int w8)] [] M = some (none, M') ∧ hm M' H κs πs row (ms ++ mrkM (nI mk) 6 7) ∧ hf M M' := by
  obtain ⟨x0, y0⟩ := z.fa
  by_cases h0 : mk = 0
  · subst h0
    have e : mrkM (nI 0) 6 7 = [] := by unfold mrkM; rw [if_pos nI_0]
    rw [e, List.append_nil]
    refine ⟨M, ?_, z, hf.rf⟩
    rw [nI_0]
    simp (disch := (first | omega | decide)) [s209_0, s209_1, s209_4, s209_5, s209_8, s209_9, s209_11, s209_13, s209_16, s209_18, s209_19, s209_22, s209_25, s209_26, s209_29, s209_30, s209_33, s209_34, s209_37, s209_38, s209_39, s209_41, s209_44, s209_45, s209_48, s209_49, s209_50, s209_52, s209_55, s209_56, s209_59, s209_60, s209_61, s209_62, s209_65, s209_66, s209_69, s209_70, s209_71, s209_74, s209_75, s209_78, s209_79, s209_82, s209_83, s209_86, s209_87, s209_89, s209_92, s209_93, s209_96, s209_97, s209_100, s209_101, s209_103, s209_106, s209_107, s209_110, s209_111, s209_114, s209_115, s209_118, s209_119, s209_122, s209_124, s209_127, s209_128, s209_131, s209_132, s209_135, s209_136, s209_137, s209_139, s209_141, s209_143, s209_146, s209_148, s209_151, s209_152, s209_155, s209_156, s209_159, s209_160, s209_163, s209_165, s209_168, s209_169, s209_172, s209_173, s209_175, s209_176, s209_179, mq_k0s, mq_k1s, mq_k2s, mq_k4s, mq_k5s, mq_k5n, mq_k5as, mq_k6s, mj_pu, mj_lo, mj_br, mj_hr, mj_hw, mq_gf, mq_len, mq_al, mq_pf, mq_ok, mj_re, mq_lkm, mq_lkn, mj_ldi, mj_ldl, mj_lda, mj_ii, mj_ll, mj_li, mj_i1, ms_1, ms_2, f1_n, f1_i, f1_r, f1_u, f1_l, f2_n, f2_i, f2_r, f2_u, f2_l, mj_tg, mj_c1, mj_c2, mj_ar, mj_aw, mq_cb, mq_oi, mj_rm, Value.category, -getElem?_pos, List.getElem?_cons_zero, decide_eq_true, decide_eq_false, nl_lt, nl_le, ln_lt, ln_le, nl_eq, ln_eq, nl_add, ln_add, nl_sub, ln_mul, nI_sub, nI_mul, nI_add, nI_lt_iff, nI_le_iff, nI_inj, nI_num, mq_ix, nI_1, nl_mul, nl_div]
  · have hne : nI mk ≠ 0 := fun e => h0 ((nl_eq (a := mk) (n := 0) (by omega) rfl).mp e)
    have e : mrkM (nI mk) 6 7 = mbr 6 (nI mk) ++ [7, 1] := by unfold mrkM; rw [if_neg hne]
    rw [e]
    obtain ⟨M1, p1, z1, g1⟩ := h_pmk (d := d + 2) z 6 (Or.inl rfl) (nI mk) (by omega)
    refine ⟨M1, ?_, z1, g1⟩
    rw [show nI 6 = 6 from rfl] at p1
    have hp : ¬ mk ≤ 0 := by omega
    simp (disch := (first | omega | decide)) [s209_0, s209_1, s209_4, s209_5, s209_8, s209_9, s209_11, s209_13, s209_16, s209_18, s209_19, s209_22, s209_25, s209_26, s209_29, s209_30, s209_33, s209_34, s209_37, s209_38, s209_39, s209_41, s209_44, s209_45, s209_48, s209_49, s209_50, s209_52, s209_55, s209_56, s209_59, s209_60, s209_61, s209_62, s209_65, s209_66, s209_69, s209_70, s209_71, s209_74, s209_75, s209_78, s209_79, s209_82, s209_83, s209_86, s209_87, s209_89, s209_92, s209_93, s209_96, s209_97, s209_100, s209_101, s209_103, s209_106, s209_107, s209_110, s209_111, s209_114, s209_115, s209_118, s209_119, s209_122, s209_124, s209_127, s209_128, s209_131, s209_132, s209_135, s209_136, s209_137, s209_139, s209_141, s209_143, s209_146, s209_148, s209_151, s209_152, s209_155, s209_156, s209_159, s209_160, s209_163, s209_165, s209_168, s209_169, s209_172, s209_173, s209_175, s209_176, s209_179, mq_k0s, mq_k1s, mq_k2s, mq_k4s, mq_k5s, mq_k5n, mq_k5as, mq_k6s, mj_pu, mj_lo, mj_br, mj_hr, mj_hw, mq_gf, mq_len, mq_al, mq_pf, mq_ok, mj_re, mq_lkm, mq_lkn, mj_ldi, mj_ldl, mj_lda, mj_ii, mj_ll, mj_li, mj_i1, ms_1, ms_2, f1_n, f1_i, f1_r, f1_u, f1_l, f2_n, f2_i, f2_r, f2_u, f2_l, mj_tg, mj_c1, mj_c2, mj_ar, mj_aw, mq_cb, mq_oi, mj_rm, Value.category, -getElem?_pos, List.getElem?_cons_zero, decide_eq_true, decide_eq_false, nl_lt, nl_le, ln_lt, ln_le, nl_eq, ln_eq, nl_add, ln_add, nl_sub, ln_mul, nI_sub, nI_mul, nI_add, nI_lt_iff, nI_le_iff, nI_inj, nI_num, mq_ix, nI_1, nl_mul, nl_div, hp, x0, p1]
theorem ws_C {hash : Int32} {lv : Value} {le w6 w7 : Int32} {mk : Nat} {b : Bool} (hmk : mk ≤ 1000) (z : hm M H κs πs row ms) (hms : ms.length ≤ 360) : ∃ M', mj_Rn (d + 6) mj_m209 146 [(9, .int le), (0, .ref 25), (1, .int hash), (2, .int (nI mk)), (3, lv), (4, .long (bt_lo u)), (6, .int w6), (7, .int w7), (8, .int (on1 b))] [] M = some (none, M') ∧ hm M' H κs πs row (ms ++ (optM b 5 [98, 117, 112] 244 ++ mrkM (nI mk) 6 7)) ∧ hf M M' := by
  cases b with
  | false =>
    obtain ⟨M1, p1, z1, g1⟩ := ws_D (d := d) (hash := hash) (lv := lv) (le := le) (w6 := w6) (w7 := w7) (w8 := on1 false) (u := u) hmk z (by omega)
    refine ⟨M1, ?_, z1, g1⟩
    rw [on1_f] at p1 ⊢
    simp (disch := (first | omega | decide)) [s209_0, s209_1, s209_4, s209_5, s209_8, s209_9, s209_11, s209_13, s209_16, s209_18, s209_19, s209_22, s209_25, s209_26, s209_29, s209_30, s209_33, s209_34, s209_37, s209_38, s209_39, s209_41, s209_44, s209_45, s209_48, s209_49, s209_50, s209_52, s209_55, s209_56, s209_59, s209_60, s209_61, s209_62, s209_65, s209_66, s209_69, s209_70, s209_71, s209_74, s209_75, s209_78, s209_79, s209_82, s209_83, s209_86, s209_87, s209_89, s209_92, s209_93, s209_96, s209_97, s209_100, s209_101, s209_103, s209_106, s209_107, s209_110, s209_111, s209_114, s209_115, s209_118, s209_119, s209_122, s209_124, s209_127, s209_128, s209_131, s209_132, s209_135, s209_136, s209_137, s209_139, s209_141, s209_143, s209_146, s209_148, s209_151, s209_152, s209_155, s209_156, s209_159, s209_160, s209_163, s209_165, s209_169, s209_172, s209_173, s209_175, s209_176, s209_179, mq_k0s, mq_k1s, mq_k2s, mq_k4s, mq_k5s, mq_k5n, mq_k5as, mq_k6s, mj_pu, mj_lo, mj_br, mj_hr, mj_hw, mq_gf, mq_len, mq_al, mq_pf, mq_ok, mj_re, mq_lkm, mq_lkn, mj_ldi, mj_ldl, mj_lda, mj_ii, mj_ll, mj_li, mj_i1, ms_1, ms_2, f1_n, f1_i, f1_r, f1_u, f1_l, f2_n, f2_i, f2_r, f2_u, f2_l, mj_tg, mj_c1, mj_c2, mj_ar, mj_aw, mq_cb, mq_oi, mj_rm, Value.category, -getElem?_pos, List.getElem?_cons_zero, decide_eq_true, decide_eq_false, nl_lt, nl_le, ln_lt, ln_le, nl_eq, ln_eq, nl_add, ln_add, nl_sub, ln_mul, nI_sub, nI_mul, nI_add, nI_lt_iff, nI_le_iff, nI_inj, nI_num, mq_ix, nI_1, nl_mul, nl_div]
    exact p1
  | true =>
    have z0 := z
    obtain ⟨x0, y0⟩ := z0.fa
    obtain ⟨M1, p1, z1, g1⟩ := hm_pushX (d := d + 5) z0 5 (ms ++ [5]) (by simp only [List.append_assoc, List.cons_append, List.nil_append, List.append_nil, h_53, h_54, h_55, h_52, h_51, h_41, h_217, h_29, h_22, h_16, h_721, h_720, h_0400, aa_1, aa_2, aa_3, aa_4, aa_5, aa_6, tx_0, tx_1, tx_2, tx_3, tx_5, tx_6, tx_7, tx_8, tx_9, tx_10, h_56, h_44, aa_7, aa_8, aa_9]) (by simp [b4_len] <;> omega)
    obtain ⟨x1, y1⟩ := z1.fa
    obtain ⟨M2, p2, z2, g2⟩ := h_popt (d := d) z1 (j := 8) (a := 19) (by omega) rfl 20 244 h_720 [98, 117, 112] tx_8 (by simp) (by simp; omega)
    obtain ⟨M3, p3, z3, g3⟩ := ws_D (d := d) (hash := hash) (lv := lv) (le := le) (w6 := w6) (w7 := w7) (w8 := on1 true) (u := u) hmk z2 (by simp; omega)
    have e : ms ++ [5] ++ (161 :: ([98, 117, 112] ++ [244])) ++ mrkM (nI mk) 6 7 = ms ++ (optM true 5 [98, 117, 112] 244 ++ mrkM (nI mk) 6 7) := by simp [optM]
    rw [e] at z3
    refine ⟨M3, ?_, z3, (((g1).tr g2).tr g3)⟩
    rw [on1_t] at p3 ⊢
    simp (disch := (first | omega | decide)) [s209_0, s209_1, s209_4, s209_5, s209_8, s209_9, s209_11, s209_13, s209_16, s209_18, s209_19, s209_22, s209_25, s209_26, s209_29, s209_30, s209_33, s209_34, s209_37, s209_38, s209_39, s209_41, s209_44, s209_45, s209_48, s209_49, s209_50, s209_52, s209_55, s209_56, s209_59, s209_60, s209_61, s209_62, s209_65, s209_66, s209_69, s209_70, s209_71, s209_74, s209_75, s209_78, s209_79, s209_82, s209_83, s209_86, s209_87, s209_89, s209_92, s209_93, s209_96, s209_97, s209_100, s209_101, s209_103, s209_106, s209_107, s209_110, s209_111, s209_114, s209_115, s209_118, s209_119, s209_122, s209_124, s209_127, s209_128, s209_131, s209_132, s209_135, s209_136, s209_137, s209_139, s209_141, s209_143, s209_146, s209_148, s209_151, s209_152, s209_155, s209_156, s209_159, s209_160, s209_163, s209_165, s209_169, s209_172, s209_173, s209_175, s209_176, s209_179, mq_k0s, mq_k1s, mq_k2s, mq_k4s, mq_k5s, mq_k5n, mq_k5as, mq_k6s, mj_pu, mj_lo, mj_br, mj_hr, mj_hw, mq_gf, mq_len, mq_al, mq_pf, mq_ok, mj_re, mq_lkm, mq_lkn, mj_ldi, mj_ldl, mj_lda, mj_ii, mj_ll, mj_li, mj_i1, ms_1, ms_2, f1_n, f1_i, f1_r, f1_u, f1_l, f2_n, f2_i, f2_r, f2_u, f2_l, mj_tg, mj_c1, mj_c2, mj_ar, mj_aw, mq_cb, mq_oi, mj_rm, Value.category, -getElem?_pos, List.getElem?_cons_zero, decide_eq_true, decide_eq_false, nl_lt, nl_le, ln_lt, ln_le, nl_eq, ln_eq, nl_add, ln_add, nl_sub, ln_mul, nI_sub, nI_mul, nI_add, nI_lt_iff, nI_le_iff, nI_inj, nI_num, mq_ix, nI_1, nl_mul, nl_div, x0, y0, p1, x1, y1, p2]
    exact p3
def sgBase (hash hb : Int32) (name : List Int32) : List Int32 := [2, hb] ++ (1 :: (bt_hd 3 (nI name.length) ++ (name ++ mbr 2 hash)))
theorem sgBase_len (hash hb : Int32) {N : List Int32} (h : N.length ≤ 24) : (sgBase hash hb N).length ≤ 60 := by
  have := bt_hd_len 3 (nI N.length)
  simp [sgBase, mbr, b4_len]; omega
/-- SIGN's message -/
theorem ws_A (z : hz M H κs πs row) {hash : Int32} {lv : Value} {L : List Ac} {mk n : Nat} {b : Bool} (hmk : mk ≤ 1000) (hn : 1 ≤ n ∧ n ≤ 24) (hnt : n ≤ H.1.length) (hL8 : L.length ≤ 8) (hul : u.length ≤ 8) :
    ∃ M', hm M' H κs πs row (sgBase hash (nI (162 + ((if !L.isEmpty then 1 else 0) + ((if b then 1 else 0) + (if !decide (mk = 0) then 2 else 0))))) (H.1.take n)) ∧ hf M M' ∧ ∀ q, mj_Rn (d + 6) mj_m209 122 [(9, .int (nI L.length)), (0, .ref 25), (1, .int hash), (2, .int (nI mk)), (3, lv), (4, .long (bt_lo u)), (6, .int (nI u.length)), (7, .int (nI n)), (8, .int (on1 b))] [] M' = some q → mj_Rn (d + 6) mj_m209 18 [(9, .int (nI L.length)), (0, .ref 25), (1, .int hash), (2, .int (nI mk)), (3, lv), (4, .long (bt_lo u)), (6, .int (nI u.length)), (7, .int (nI n)), (8, .int (on1 b))] [] M = some q := by
  obtain ⟨ms0, hb0⟩ := z.ms
  have z0 : hm M H κs πs row ms0 := (hm_mk_ z hb0)
  obtain ⟨x0, y0⟩ := z0.fa
  have enl : (H.1.take n).length = n := by simp; omega
  generalize hN : H.1.take n = N at *
  have hbl := bt_hd_len 3 (nI N.length)
  have hsum := hd_sum5 (!L.isEmpty) b (!decide (mk = 0))
  generalize hS : ((if !L.isEmpty then 1 else 0) + ((if b then 1 else 0) + (if !decide (mk = 0) then 2 else 0)) : Nat) = Sm at *
  obtain ⟨M1, p1, z1, g1⟩ := hm_clear (d := d + 5) z0
  obtain ⟨x1, y1⟩ := z1.fa
  obtain ⟨M2, p2, z2, g2⟩ := hm_pushX (d := d + 5) z1 2 ([] ++ [2]) (by simp only [List.append_assoc, List.cons_append, List.nil_append, List.append_nil, h_53, h_54, h_55, h_52, h_51, h_41, h_217, h_29, h_22, h_16, h_721, h_720, h_0400, aa_1, aa_2, aa_3, aa_4, aa_5, aa_6, tx_0, tx_1, tx_2, tx_3, tx_5, tx_6, tx_7, tx_8, tx_9, tx_10, h_56, h_44, aa_7, aa_8, aa_9]) (by simp [b4_len] <;> omega)
  obtain ⟨x2, y2⟩ := z2.fa
  obtain ⟨M3, p3, z3, g3⟩ := hm_headX (d := d + 4) z2 5 (nI (2 + Sm)) ([] ++ [2] ++ [nI (162 + Sm)]) (by rw [hsum]) (by simp)
  obtain ⟨x3, y3⟩ := z3.fa
  obtain ⟨M4, p4, z4, g4⟩ := hm_pushX (d := d + 5) z3 1 (([] ++ [2] ++ [nI (162 + Sm)]) ++ [1]) (by simp only [List.append_assoc, List.cons_append, List.nil_append, List.append_nil, h_53, h_54, h_55, h_52, h_51, h_41, h_217, h_29, h_22, h_16, h_721, h_720, h_0400, aa_1, aa_2, aa_3, aa_4, aa_5, aa_6, tx_0, tx_1, tx_2, tx_3, tx_5, tx_6, tx_7, tx_8, tx_9, tx_10, h_56, h_44, aa_7, aa_8, aa_9]) (by simp [b4_len] <;> omega)
  obtain ⟨x4, y4⟩ := z4.fa
  obtain ⟨M5, p5, z5, g5⟩ := hm_headX (d := d + 4) z4 3 (nI N.length) ((([] ++ [2] ++ [nI (162 + Sm)]) ++ [1]) ++ bt_hd 3 (nI N.length)) rfl (by simp [b4_len] <;> omega)
  obtain ⟨x5, y5⟩ := z5.fa
  obtain ⟨M6, p6, z6, g6⟩ := hm_partX (d := d + 4) (n := n) z5 ([] ++ [2] ++ [nI (162 + Sm)] ++ [1] ++ bt_hd 3 (nI N.length) ++ N) hnt hN rfl (by simp; omega)
  obtain ⟨x6, y6⟩ := z6.fa
  obtain ⟨M7, p7, z7, g7⟩ := hm_pushX (d := d + 5) z6 2 (([] ++ [2] ++ [nI (162 + Sm)] ++ [1] ++ bt_hd 3 (nI N.length) ++ N) ++ [2]) (by simp only [List.append_assoc, List.cons_append, List.nil_append, List.append_nil, h_53, h_54, h_55, h_52, h_51, h_41, h_217, h_29, h_22, h_16, h_721, h_720, h_0400, aa_1, aa_2, aa_3, aa_4, aa_5, aa_6, tx_0, tx_1, tx_2, tx_3, tx_5, tx_6, tx_7, tx_8, tx_9, tx_10, h_56, h_44, aa_7, aa_8, aa_9]) (by simp [b4_len] <;> omega)
  obtain ⟨x7, y7⟩ := z7.fa
  obtain ⟨M8, p8, z8, g8⟩ := hm_termX (d := d + 3) z7 hash ((([] ++ [2] ++ [nI (162 + Sm)] ++ [1] ++ bt_hd 3 (nI N.length) ++ N) ++ [2]) ++ (68 :: b4 hash)) rfl (by simp [b4_len] <;> omega)
  obtain ⟨x8, y8⟩ := z8.fa
  have e : [] ++ [2] ++ [nI (162 + Sm)] ++ [1] ++ bt_hd 3 (nI N.length) ++ N ++ [2] ++ (68 :: b4 hash) = sgBase hash (nI (162 + Sm)) N := by simp [sgBase, mbr]
  rw [e] at z8
  refine ⟨M8, z8, ((((((((g1).tr g2).tr g3).tr g4).tr g5).tr g6).tr g7).tr g8), fun q hq => ?_⟩
  have o5 := z5.z.tp.2.2.2.2.2.1
  rw [enl] at p5
  -- the head's number
  have fin : ∀ (a1 a2 a3 : Nat), a1 + (a2 + a3) = Sm → ∀ Ln : Nat, Ln = L.length → True := fun _ _ _ _ _ _ => trivial
  by_cases hE : L = []
  · subst hE
    cases b with
    | false =>
      by_cases h0 : mk = 0
      · subst h0
        have hs : Sm = 0 := by rw [← hS]; rfl
        subst hs
        change mj_V (d + 6) 131 [.ref 28, .int 5, .int 2] M2 = some (none, M3) at p3
        simp only [on1_f, nI_0, List.length_nil] at *
        simp (disch := (first | omega | decide)) [s209_0, s209_1, s209_4, s209_5, s209_8, s209_9, s209_11, s209_13, s209_16, s209_18, s209_19, s209_22, s209_25, s209_26, s209_29, s209_30, s209_33, s209_34, s209_37, s209_38, s209_39, s209_41, s209_44, s209_45, s209_48, s209_49, s209_50, s209_52, s209_55, s209_56, s209_59, s209_60, s209_61, s209_62, s209_65, s209_66, s209_69, s209_70, s209_71, s209_74, s209_75, s209_78, s209_79, s209_82, s209_83, s209_86, s209_87, s209_89, s209_92, s209_93, s209_96, s209_97, s209_100, s209_101, s209_103, s209_106, s209_107, s209_110, s209_111, s209_114, s209_115, s209_118, s209_119, s209_124, s209_127, s209_128, s209_131, s209_132, s209_135, s209_136, s209_137, s209_139, s209_141, s209_143, s209_146, s209_148, s209_151, s209_152, s209_155, s209_156, s209_159, s209_160, s209_163, s209_165, s209_168, s209_169, s209_172, s209_173, s209_175, s209_176, s209_179, mq_k0s, mq_k1s, mq_k2s, mq_k4s, mq_k5s, mq_k5n, mq_k5as, mq_k6s, mj_pu, mj_lo, mj_br, mj_hr, mj_hw, mq_gf, mq_len, mq_al, mq_pf, mq_ok, mj_re, mq_lkm, mq_lkn, mj_ldi, mj_ldl, mj_lda, mj_ii, mj_ll, mj_li, mj_i1, ms_1, ms_2, f1_n, f1_i, f1_r, f1_u, f1_l, f2_n, f2_i, f2_r, f2_u, f2_l, mj_tg, mj_c1, mj_c2, mj_ar, mj_aw, mq_cb, mq_oi, mj_rm, Value.category, -getElem?_pos, List.getElem?_cons_zero, decide_eq_true, decide_eq_false, nl_lt, nl_le, ln_lt, ln_le, nl_eq, ln_eq, nl_add, ln_add, nl_sub, ln_mul, nI_sub, nI_mul, nI_add, nI_lt_iff, nI_le_iff, nI_inj, nI_num, mq_ix, nI_1, nl_mul, nl_div, x0, y0, p1, x1, y1, p2, x2, y2, p3, x3, y3, p4, x4, y4, p5, x5, y5, o5, p6, x6, y6, p7, x7, y7, p8, x8, y8]
        exact hq
      · have hs : Sm = 2 := by rw [← hS]; simp [h0]
        subst hs
        change mj_V (d + 6) 131 [.ref 28, .int 5, .int 4] M2 = some (none, M3) at p3
        have hp : ¬ mk ≤ 0 := by omega
        simp only [on1_f, nI_0, List.length_nil] at *
        simp (disch := (first | omega | decide)) [s209_0, s209_1, s209_4, s209_5, s209_8, s209_9, s209_11, s209_13, s209_16, s209_18, s209_19, s209_22, s209_25, s209_26, s209_29, s209_30, s209_33, s209_34, s209_37, s209_38, s209_39, s209_41, s209_44, s209_45, s209_48, s209_49, s209_50, s209_52, s209_55, s209_56, s209_59, s209_60, s209_61, s209_62, s209_65, s209_66, s209_69, s209_70, s209_71, s209_74, s209_75, s209_78, s209_79, s209_82, s209_83, s209_86, s209_87, s209_89, s209_92, s209_93, s209_96, s209_97, s209_100, s209_101, s209_103, s209_106, s209_107, s209_110, s209_111, s209_114, s209_115, s209_118, s209_119, s209_124, s209_127, s209_128, s209_131, s209_132, s209_135, s209_136, s209_137, s209_139, s209_141, s209_143, s209_146, s209_148, s209_151, s209_152, s209_155, s209_156, s209_159, s209_160, s209_163, s209_165, s209_168, s209_169, s209_172, s209_173, s209_175, s209_176, s209_179, mq_k0s, mq_k1s, mq_k2s, mq_k4s, mq_k5s, mq_k5n, mq_k5as, mq_k6s, mj_pu, mj_lo, mj_br, mj_hr, mj_hw, mq_gf, mq_len, mq_al, mq_pf, mq_ok, mj_re, mq_lkm, mq_lkn, mj_ldi, mj_ldl, mj_lda, mj_ii, mj_ll, mj_li, mj_i1, ms_1, ms_2, f1_n, f1_i, f1_r, f1_u, f1_l, f2_n, f2_i, f2_r, f2_u, f2_l, mj_tg, mj_c1, mj_c2, mj_ar, mj_aw, mq_cb, mq_oi, mj_rm, Value.category, -getElem?_pos, List.getElem?_cons_zero, decide_eq_true, decide_eq_false, nl_lt, nl_le, ln_lt, ln_le, nl_eq, ln_eq, nl_add, ln_add, nl_sub, ln_mul, nI_sub, nI_mul, nI_add, nI_lt_iff, nI_le_iff, nI_inj, nI_num, mq_ix, nI_1, nl_mul, nl_div, hp, x0, y0, p1, x1, y1, p2, x2, y2, p3, x3, y3, p4, x4, y4, p5, x5, y5, o5, p6, x6, y6, p7, x7, y7, p8, x8, y8]
        exact hq
    | true =>
      by_cases h0 : mk = 0
      · subst h0
        have hs : Sm = 1 := by rw [← hS]; rfl
        subst hs
        change mj_V (d + 6) 131 [.ref 28, .int 5, .int 3] M2 = some (none, M3) at p3
        simp only [on1_t, nI_0, List.length_nil] at *
        simp (disch := (first | omega | decide)) [s209_0, s209_1, s209_4, s209_5, s209_8, s209_9, s209_11, s209_13, s209_16, s209_18, s209_19, s209_22, s209_25, s209_26, s209_29, s209_30, s209_33, s209_34, s209_37, s209_38, s209_39, s209_41, s209_44, s209_45, s209_48, s209_49, s209_50, s209_52, s209_55, s209_56, s209_59, s209_60, s209_61, s209_62, s209_65, s209_66, s209_69, s209_70, s209_71, s209_74, s209_75, s209_78, s209_79, s209_82, s209_83, s209_86, s209_87, s209_89, s209_92, s209_93, s209_96, s209_97, s209_100, s209_101, s209_103, s209_106, s209_107, s209_110, s209_111, s209_114, s209_115, s209_118, s209_119, s209_124, s209_127, s209_128, s209_131, s209_132, s209_135, s209_136, s209_137, s209_139, s209_141, s209_143, s209_146, s209_148, s209_151, s209_152, s209_155, s209_156, s209_159, s209_160, s209_163, s209_165, s209_168, s209_169, s209_172, s209_173, s209_175, s209_176, s209_179, mq_k0s, mq_k1s, mq_k2s, mq_k4s, mq_k5s, mq_k5n, mq_k5as, mq_k6s, mj_pu, mj_lo, mj_br, mj_hr, mj_hw, mq_gf, mq_len, mq_al, mq_pf, mq_ok, mj_re, mq_lkm, mq_lkn, mj_ldi, mj_ldl, mj_lda, mj_ii, mj_ll, mj_li, mj_i1, ms_1, ms_2, f1_n, f1_i, f1_r, f1_u, f1_l, f2_n, f2_i, f2_r, f2_u, f2_l, mj_tg, mj_c1, mj_c2, mj_ar, mj_aw, mq_cb, mq_oi, mj_rm, Value.category, -getElem?_pos, List.getElem?_cons_zero, decide_eq_true, decide_eq_false, nl_lt, nl_le, ln_lt, ln_le, nl_eq, ln_eq, nl_add, ln_add, nl_sub, ln_mul, nI_sub, nI_mul, nI_add, nI_lt_iff, nI_le_iff, nI_inj, nI_num, mq_ix, nI_1, nl_mul, nl_div, x0, y0, p1, x1, y1, p2, x2, y2, p3, x3, y3, p4, x4, y4, p5, x5, y5, o5, p6, x6, y6, p7, x7, y7, p8, x8, y8]
        exact hq
      · have hs : Sm = 3 := by rw [← hS]; simp [h0]
        subst hs
        change mj_V (d + 6) 131 [.ref 28, .int 5, .int 5] M2 = some (none, M3) at p3
        have hp : ¬ mk ≤ 0 := by omega
        simp only [on1_t, nI_0, List.length_nil] at *
        simp (disch := (first | omega | decide)) [s209_0, s209_1, s209_4, s209_5, s209_8, s209_9, s209_11, s209_13, s209_16, s209_18, s209_19, s209_22, s209_25, s209_26, s209_29, s209_30, s209_33, s209_34, s209_37, s209_38, s209_39, s209_41, s209_44, s209_45, s209_48, s209_49, s209_50, s209_52, s209_55, s209_56, s209_59, s209_60, s209_61, s209_62, s209_65, s209_66, s209_69, s209_70, s209_71, s209_74, s209_75, s209_78, s209_79, s209_82, s209_83, s209_86, s209_87, s209_89, s209_92, s209_93, s209_96, s209_97, s209_100, s209_101, s209_103, s209_106, s209_107, s209_110, s209_111, s209_114, s209_115, s209_118, s209_119, s209_124, s209_127, s209_128, s209_131, s209_132, s209_135, s209_136, s209_137, s209_139, s209_141, s209_143, s209_146, s209_148, s209_151, s209_152, s209_155, s209_156, s209_159, s209_160, s209_163, s209_165, s209_168, s209_169, s209_172, s209_173, s209_175, s209_176, s209_179, mq_k0s, mq_k1s, mq_k2s, mq_k4s, mq_k5s, mq_k5n, mq_k5as, mq_k6s, mj_pu, mj_lo, mj_br, mj_hr, mj_hw, mq_gf, mq_len, mq_al, mq_pf, mq_ok, mj_re, mq_lkm, mq_lkn, mj_ldi, mj_ldl, mj_lda, mj_ii, mj_ll, mj_li, mj_i1, ms_1, ms_2, f1_n, f1_i, f1_r, f1_u, f1_l, f2_n, f2_i, f2_r, f2_u, f2_l, mj_tg, mj_c1, mj_c2, mj_ar, mj_aw, mq_cb, mq_oi, mj_rm, Value.category, -getElem?_pos, List.getElem?_cons_zero, decide_eq_true, decide_eq_false, nl_lt, nl_le, ln_lt, ln_le, nl_eq, ln_eq, nl_add, ln_add, nl_sub, ln_mul, nI_sub, nI_mul, nI_add, nI_lt_iff, nI_le_iff, nI_inj, nI_num, mq_ix, nI_1, nl_mul, nl_div, hp, x0, y0, p1, x1, y1, p2, x2, y2, p3, x3, y3, p4, x4, y4, p5, x5, y5, o5, p6, x6, y6, p7, x7, y7, p8, x8, y8]
        exact hq
  · have hE2 : L.isEmpty = false := by cases L with
      | nil => exact absurd rfl hE
      | cons a b => rfl
    have hLp : ¬ L.length ≤ 0 := by have := List.length_pos_iff.mpr hE; omega
    generalize L.length = Ln at *
    cases b with
    | false =>
      by_cases h0 : mk = 0
      · subst h0
        have hs : Sm = 1 := by rw [← hS]; simp [hE2]
        subst hs
        change mj_V (d + 6) 131 [.ref 28, .int 5, .int 3] M2 = some (none, M3) at p3
        simp only [on1_f, nI_0] at *
        simp (disch := (first | omega | decide)) [s209_0, s209_1, s209_4, s209_5, s209_8, s209_9, s209_11, s209_13, s209_16, s209_18, s209_19, s209_22, s209_25, s209_26, s209_29, s209_30, s209_33, s209_34, s209_37, s209_38, s209_39, s209_41, s209_44, s209_45, s209_48, s209_49, s209_50, s209_52, s209_55, s209_56, s209_59, s209_60, s209_61, s209_62, s209_65, s209_66, s209_69, s209_70, s209_71, s209_74, s209_75, s209_78, s209_79, s209_82, s209_83, s209_86, s209_87, s209_89, s209_92, s209_93, s209_96, s209_97, s209_100, s209_101, s209_103, s209_106, s209_107, s209_110, s209_111, s209_114, s209_115, s209_118, s209_119, s209_124, s209_127, s209_128, s209_131, s209_132, s209_135, s209_136, s209_137, s209_139, s209_141, s209_143, s209_146, s209_148, s209_151, s209_152, s209_155, s209_156, s209_159, s209_160, s209_163, s209_165, s209_168, s209_169, s209_172, s209_173, s209_175, s209_176, s209_179, mq_k0s, mq_k1s, mq_k2s, mq_k4s, mq_k5s, mq_k5n, mq_k5as, mq_k6s, mj_pu, mj_lo, mj_br, mj_hr, mj_hw, mq_gf, mq_len, mq_al, mq_pf, mq_ok, mj_re, mq_lkm, mq_lkn, mj_ldi, mj_ldl, mj_lda, mj_ii, mj_ll, mj_li, mj_i1, ms_1, ms_2, f1_n, f1_i, f1_r, f1_u, f1_l, f2_n, f2_i, f2_r, f2_u, f2_l, mj_tg, mj_c1, mj_c2, mj_ar, mj_aw, mq_cb, mq_oi, mj_rm, Value.category, -getElem?_pos, List.getElem?_cons_zero, decide_eq_true, decide_eq_false, nl_lt, nl_le, ln_lt, ln_le, nl_eq, ln_eq, nl_add, ln_add, nl_sub, ln_mul, nI_sub, nI_mul, nI_add, nI_lt_iff, nI_le_iff, nI_inj, nI_num, mq_ix, nI_1, nl_mul, nl_div, hLp, x0, y0, p1, x1, y1, p2, x2, y2, p3, x3, y3, p4, x4, y4, p5, x5, y5, o5, p6, x6, y6, p7, x7, y7, p8, x8, y8]
        exact hq
      · have hs : Sm = 3 := by rw [← hS]; simp [h0, hE2]
        subst hs
        change mj_V (d + 6) 131 [.ref 28, .int 5, .int 5] M2 = some (none, M3) at p3
        have hp : ¬ mk ≤ 0 := by omega
        simp only [on1_f] at *
        simp (disch := (first | omega | decide)) [s209_0, s209_1, s209_4, s209_5, s209_8, s209_9, s209_11, s209_13, s209_16, s209_18, s209_19, s209_22, s209_25, s209_26, s209_29, s209_30, s209_33, s209_34, s209_37, s209_38, s209_39, s209_41, s209_44, s209_45, s209_48, s209_49, s209_50, s209_52, s209_55, s209_56, s209_59, s209_60, s209_61, s209_62, s209_65, s209_66, s209_69, s209_70, s209_71, s209_74, s209_75, s209_78, s209_79, s209_82, s209_83, s209_86, s209_87, s209_89, s209_92, s209_93, s209_96, s209_97, s209_100, s209_101, s209_103, s209_106, s209_107, s209_110, s209_111, s209_114, s209_115, s209_118, s209_119, s209_124, s209_127, s209_128, s209_131, s209_132, s209_135, s209_136, s209_137, s209_139, s209_141, s209_143, s209_146, s209_148, s209_151, s209_152, s209_155, s209_156, s209_159, s209_160, s209_163, s209_165, s209_168, s209_169, s209_172, s209_173, s209_175, s209_176, s209_179, mq_k0s, mq_k1s, mq_k2s, mq_k4s, mq_k5s, mq_k5n, mq_k5as, mq_k6s, mj_pu, mj_lo, mj_br, mj_hr, mj_hw, mq_gf, mq_len, mq_al, mq_pf, mq_ok, mj_re, mq_lkm, mq_lkn, mj_ldi, mj_ldl, mj_lda, mj_ii, mj_ll, mj_li, mj_i1, ms_1, ms_2, f1_n, f1_i, f1_r, f1_u, f1_l, f2_n, f2_i, f2_r, f2_u, f2_l, mj_tg, mj_c1, mj_c2, mj_ar, mj_aw, mq_cb, mq_oi, mj_rm, Value.category, -getElem?_pos, List.getElem?_cons_zero, decide_eq_true, decide_eq_false, nl_lt, nl_le, ln_lt, ln_le, nl_eq, ln_eq, nl_add, ln_add, nl_sub, ln_mul, nI_sub, nI_mul, nI_add, nI_lt_iff, nI_le_iff, nI_inj, nI_num, mq_ix, nI_1, nl_mul, nl_div, hLp, hp, x0, y0, p1, x1, y1, p2, x2, y2, p3, x3, y3, p4, x4, y4, p5, x5, y5, o5, p6, x6, y6, p7, x7, y7, p8, x8, y8]
        exact hq
    | true =>
      by_cases h0 : mk = 0
      · subst h0
        have hs : Sm = 2 := by rw [← hS]; simp [hE2]
        subst hs
        change mj_V (d + 6) 131 [.ref 28, .int 5, .int 4] M2 = some (none, M3) at p3
        simp only [on1_t, nI_0] at *
        simp (disch := (first | omega | decide)) [s209_0, s209_1, s209_4, s209_5, s209_8, s209_9, s209_11, s209_13, s209_16, s209_18, s209_19, s209_22, s209_25, s209_26, s209_29, s209_30, s209_33, s209_34, s209_37, s209_38, s209_39, s209_41, s209_44, s209_45, s209_48, s209_49, s209_50, s209_52, s209_55, s209_56, s209_59, s209_60, s209_61, s209_62, s209_65, s209_66, s209_69, s209_70, s209_71, s209_74, s209_75, s209_78, s209_79, s209_82, s209_83, s209_86, s209_87, s209_89, s209_92, s209_93, s209_96, s209_97, s209_100, s209_101, s209_103, s209_106, s209_107, s209_110, s209_111, s209_114, s209_115, s209_118, s209_119, s209_124, s209_127, s209_128, s209_131, s209_132, s209_135, s209_136, s209_137, s209_139, s209_141, s209_143, s209_146, s209_148, s209_151, s209_152, s209_155, s209_156, s209_159, s209_160, s209_163, s209_165, s209_168, s209_169, s209_172, s209_173, s209_175, s209_176, s209_179, mq_k0s, mq_k1s, mq_k2s, mq_k4s, mq_k5s, mq_k5n, mq_k5as, mq_k6s, mj_pu, mj_lo, mj_br, mj_hr, mj_hw, mq_gf, mq_len, mq_al, mq_pf, mq_ok, mj_re, mq_lkm, mq_lkn, mj_ldi, mj_ldl, mj_lda, mj_ii, mj_ll, mj_li, mj_i1, ms_1, ms_2, f1_n, f1_i, f1_r, f1_u, f1_l, f2_n, f2_i, f2_r, f2_u, f2_l, mj_tg, mj_c1, mj_c2, mj_ar, mj_aw, mq_cb, mq_oi, mj_rm, Value.category, -getElem?_pos, List.getElem?_cons_zero, decide_eq_true, decide_eq_false, nl_lt, nl_le, ln_lt, ln_le, nl_eq, ln_eq, nl_add, ln_add, nl_sub, ln_mul, nI_sub, nI_mul, nI_add, nI_lt_iff, nI_le_iff, nI_inj, nI_num, mq_ix, nI_1, nl_mul, nl_div, hLp, x0, y0, p1, x1, y1, p2, x2, y2, p3, x3, y3, p4, x4, y4, p5, x5, y5, o5, p6, x6, y6, p7, x7, y7, p8, x8, y8]
        exact hq
      · have hs : Sm = 4 := by rw [← hS]; simp [h0, hE2]
        subst hs
        change mj_V (d + 6) 131 [.ref 28, .int 5, .int 6] M2 = some (none, M3) at p3
        have hp : ¬ mk ≤ 0 := by omega
        simp only [on1_t] at *
        simp (disch := (first | omega | decide)) [s209_0, s209_1, s209_4, s209_5, s209_8, s209_9, s209_11, s209_13, s209_16, s209_18, s209_19, s209_22, s209_25, s209_26, s209_29, s209_30, s209_33, s209_34, s209_37, s209_38, s209_39, s209_41, s209_44, s209_45, s209_48, s209_49, s209_50, s209_52, s209_55, s209_56, s209_59, s209_60, s209_61, s209_62, s209_65, s209_66, s209_69, s209_70, s209_71, s209_74, s209_75, s209_78, s209_79, s209_82, s209_83, s209_86, s209_87, s209_89, s209_92, s209_93, s209_96, s209_97, s209_100, s209_101, s209_103, s209_106, s209_107, s209_110, s209_111, s209_114, s209_115, s209_118, s209_119, s209_124, s209_127, s209_128, s209_131, s209_132, s209_135, s209_136, s209_137, s209_139, s209_141, s209_143, s209_146, s209_148, s209_151, s209_152, s209_155, s209_156, s209_159, s209_160, s209_163, s209_165, s209_168, s209_169, s209_172, s209_173, s209_175, s209_176, s209_179, mq_k0s, mq_k1s, mq_k2s, mq_k4s, mq_k5s, mq_k5n, mq_k5as, mq_k6s, mj_pu, mj_lo, mj_br, mj_hr, mj_hw, mq_gf, mq_len, mq_al, mq_pf, mq_ok, mj_re, mq_lkm, mq_lkn, mj_ldi, mj_ldl, mj_lda, mj_ii, mj_ll, mj_li, mj_i1, ms_1, ms_2, f1_n, f1_i, f1_r, f1_u, f1_l, f2_n, f2_i, f2_r, f2_u, f2_l, mj_tg, mj_c1, mj_c2, mj_ar, mj_aw, mq_cb, mq_oi, mj_rm, Value.category, -getElem?_pos, List.getElem?_cons_zero, decide_eq_true, decide_eq_false, nl_lt, nl_le, ln_lt, ln_le, nl_eq, ln_eq, nl_add, ln_add, nl_sub, ln_mul, nI_sub, nI_mul, nI_add, nI_lt_iff, nI_le_iff, nI_inj, nI_num, mq_ix, nI_1, nl_mul, nl_div, hLp, hp, x0, y0, p1, x1, y1, p2, x2, y2, p3, x3, y3, p4, x4, y4, p5, x5, y5, o5, p6, x6, y6, p7, x7, y7, p8, x8, y8]
        exact hq
/-- SIGN's message, no list -/
theorem h_ws0 (z : hz M H κs πs row) (hash : Int32) {mk n : Nat} {b : Bool} (hmk : mk ≤ 1000) (hn : 1 ≤ n ∧ n ≤ 24) (hnt : n ≤ H.1.length) (hul : u.length ≤ 8) : ∃ M', mj_V (d + 7) 209 [.ref 25, .int hash, .int (nI mk), .null, .long (bt_lo u), .int (nI u.length), .int (nI n), .int (on1 b)] M = some (none, M') ∧ hm M' H κs πs row (sgBase hash (nI (162 + (0 + ((if b then 1 else 0) + (if !decide (mk = 0) then 2 else 0))))) (H.1.take n) ++ (optM b 5 [98, 117, 112] 244 ++ mrkM (nI mk) 6 7)) ∧ hf M M' := by
  obtain ⟨M1, z1, g1, q1⟩ := ws_A (d := d) (u := u) (hash := hash) (lv := .null) (L := []) (mk := mk) (n := n) (b := b) z hmk hn hnt (by simp) hul
  have hl1 : (sgBase hash (nI (162 + (0 + ((if b then 1 else 0) + (if !decide (mk = 0) then 2 else 0))))) (H.1.take n)).length ≤ 60 := sgBase_len _ _ (by simp; omega)
  obtain ⟨M2, p2, z2, g2⟩ := ws_C (d := d) (hash := hash) (lv := .null) (le := nI 0) (w6 := nI u.length) (w7 := nI n) (mk := mk) (b := b) (u := u) hmk z1 (by simpa using Nat.le_trans hl1 (by omega))
  refine ⟨M2, ?_, z2, g1.tr g2⟩
  have := q1 (none, M2) (by
    simp only [List.length_nil]
    rw [nI_0] at p2 ⊢
    simp (disch := (first | omega | decide)) [s209_0, s209_1, s209_4, s209_5, s209_8, s209_9, s209_11, s209_13, s209_16, s209_18, s209_19, s209_22, s209_25, s209_26, s209_29, s209_30, s209_33, s209_34, s209_37, s209_38, s209_39, s209_41, s209_44, s209_45, s209_48, s209_49, s209_50, s209_52, s209_55, s209_56, s209_59, s209_60, s209_61, s209_62, s209_65, s209_66, s209_69, s209_70, s209_71, s209_74, s209_75, s209_78, s209_79, s209_82, s209_83, s209_86, s209_87, s209_89, s209_92, s209_93, s209_96, s209_97, s209_100, s209_101, s209_103, s209_106, s209_107, s209_110, s209_111, s209_114, s209_115, s209_118, s209_119, s209_122, s209_124, s209_127, s209_128, s209_131, s209_132, s209_135, s209_136, s209_137, s209_139, s209_141, s209_143, s209_148, s209_151, s209_152, s209_155, s209_156, s209_159, s209_160, s209_163, s209_165, s209_168, s209_169, s209_172, s209_173, s209_175, s209_176, s209_179, mq_k0s, mq_k1s, mq_k2s, mq_k4s, mq_k5s, mq_k5n, mq_k5as, mq_k6s, mj_pu, mj_lo, mj_br, mj_hr, mj_hw, mq_gf, mq_len, mq_al, mq_pf, mq_ok, mj_re, mq_lkm, mq_lkn, mj_ldi, mj_ldl, mj_lda, mj_ii, mj_ll, mj_li, mj_i1, ms_1, ms_2, f1_n, f1_i, f1_r, f1_u, f1_l, f2_n, f2_i, f2_r, f2_u, f2_l, mj_tg, mj_c1, mj_c2, mj_ar, mj_aw, mq_cb, mq_oi, mj_rm, Value.category, -getElem?_pos, List.getElem?_cons_zero, decide_eq_true, decide_eq_false, nl_lt, nl_le, ln_lt, ln_le, nl_eq, ln_eq, nl_add, ln_add, nl_sub, ln_mul, nI_sub, nI_mul, nI_add, nI_lt_iff, nI_le_iff, nI_inj, nI_num, mq_ix, nI_1, nl_mul, nl_div]
    exact p2)
  simp only [List.length_nil] at this
  rw [nI_0] at this
  simp (disch := (first | omega | decide)) [c209n3, s209_0, s209_1, s209_4, s209_5, s209_8, s209_9, s209_11, s209_13, s209_16, s209_19, s209_22, s209_25, s209_26, s209_29, s209_30, s209_33, s209_34, s209_37, s209_38, s209_39, s209_41, s209_44, s209_45, s209_48, s209_49, s209_50, s209_52, s209_55, s209_56, s209_59, s209_60, s209_61, s209_62, s209_65, s209_66, s209_69, s209_70, s209_71, s209_74, s209_75, s209_78, s209_79, s209_82, s209_83, s209_86, s209_87, s209_89, s209_92, s209_93, s209_96, s209_97, s209_100, s209_101, s209_103, s209_106, s209_107, s209_110, s209_111, s209_114, s209_115, s209_118, s209_119, s209_122, s209_124, s209_127, s209_128, s209_131, s209_132, s209_135, s209_136, s209_137, s209_139, s209_141, s209_143, s209_146, s209_148, s209_151, s209_152, s209_155, s209_156, s209_159, s209_160, s209_163, s209_165, s209_168, s209_169, s209_172, s209_173, s209_175, s209_176, s209_179, mq_k0s, mq_k1s, mq_k2s, mq_k4s, mq_k5s, mq_k5n, mq_k5as, mq_k6s, mj_pu, mj_lo, mj_br, mj_hr, mj_hw, mq_gf, mq_len, mq_al, mq_pf, mq_ok, mj_re, mq_lkm, mq_lkn, mj_ldi, mj_ldl, mj_lda, mj_ii, mj_ll, mj_li, mj_i1, ms_1, ms_2, f1_n, f1_i, f1_r, f1_u, f1_l, f2_n, f2_i, f2_r, f2_u, f2_l, mj_tg, mj_c1, mj_c2, mj_ar, mj_aw, mq_cb, mq_oi, mj_rm, Value.category, -getElem?_pos, List.getElem?_cons_zero, decide_eq_true, decide_eq_false, nl_lt, nl_le, ln_lt, ln_le, nl_eq, ln_eq, nl_add, ln_add, nl_sub, ln_mul, nI_sub, nI_mul, nI_add, nI_lt_iff, nI_le_iff, nI_inj, nI_num, mq_ix, nI_1, nl_mul, nl_div]
  exact this
theorem h_ws1 (z : hz M H κs πs row) (hash : Int32) {j mk n : Nat} {b : Bool} (hp : H.2.2.2.2[j]? = some p) (hπ : πs[j]? = some π) (ho : okA p) (h8 : ∀ v ∈ u, v &&& 255 = v) (hmk : mk ≤ 1000) (hn : 1 ≤ n ∧ n ≤ 24) (hnt : n ≤ H.1.length) (hul : u.length ≤ 8) : ∃ M', mj_V (d + 7) 209 [.ref 25, .int hash, .int (nI mk), .ref π, .long (bt_lo u), .int (nI u.length), .int (nI n), .int (on1 b)] M = some (none, M') ∧ hm M' H κs πs row (sgBase hash (nI (162 + ((if !(acF p u).isEmpty then 1 else 0) + ((if b then 1 else 0) + (if !decide (mk = 0) then 2 else 0))))) (H.1.take n) ++ (acMsg 3 (acF p u) ++ (optM b 5 [98, 117, 112] 244 ++ mrkM (nI mk) 6 7))) ∧ hf M M' := by
  have hpz := z.py j p π hp hπ
  have l8 := hpz.l8
  have lF := acF_le (p := p) (u := u)
  have xp := hpz.ob
  have v0 := j_accs (d := d + 4) hpz ho h8 hul
  obtain ⟨M1, z1, g1, q1⟩ := ws_A (d := d) (u := u) (hash := hash) (lv := .ref π) (L := acF p u) (mk := mk) (n := n) (b := b) z hmk hn hnt (by omega) hul
  have hl1 := sgBase_len hash (nI (162 + ((if !(acF p u).isEmpty then 1 else 0) + ((if b then 1 else 0) + (if !decide (mk = 0) then 2 else 0))))) (N := H.1.take n) (by simp; omega)
  generalize sgBase hash (nI (162 + ((if !(acF p u).isEmpty then 1 else 0) + ((if b then 1 else 0) + (if !decide (mk = 0) then 2 else 0))))) (H.1.take n) = B at *
  have pre : ∀ q, mj_Rn (d + 6) mj_m209 18 [(9, .int (nI (acF p u).length)), (0, .ref 25), (1, .int hash), (2, .int (nI mk)), (3, .ref π), (4, .long (bt_lo u)), (6, .int (nI u.length)), (7, .int (nI n)), (8, .int (on1 b))] [] M = some q → mj_V (d + 7) 209 [.ref 25, .int hash, .int (nI mk), .ref π, .long (bt_lo u), .int (nI u.length), .int (nI n), .int (on1 b)] M = some q := by
    intro q hq
    simp (disch := (first | omega | decide)) [c209, s209_0, s209_1, s209_4, s209_5, s209_8, s209_9, s209_11, s209_13, s209_16, s209_19, s209_22, s209_25, s209_26, s209_29, s209_30, s209_33, s209_34, s209_37, s209_38, s209_39, s209_41, s209_44, s209_45, s209_48, s209_49, s209_50, s209_52, s209_55, s209_56, s209_59, s209_60, s209_61, s209_62, s209_65, s209_66, s209_69, s209_70, s209_71, s209_74, s209_75, s209_78, s209_79, s209_82, s209_83, s209_86, s209_87, s209_89, s209_92, s209_93, s209_96, s209_97, s209_100, s209_101, s209_103, s209_106, s209_107, s209_110, s209_111, s209_114, s209_115, s209_118, s209_119, s209_122, s209_124, s209_127, s209_128, s209_131, s209_132, s209_135, s209_136, s209_137, s209_139, s209_141, s209_143, s209_146, s209_148, s209_151, s209_152, s209_155, s209_156, s209_159, s209_160, s209_163, s209_165, s209_168, s209_169, s209_172, s209_173, s209_175, s209_176, s209_179, mq_k0s, mq_k1s, mq_k2s, mq_k4s, mq_k5s, mq_k5n, mq_k5as, mq_k6s, mj_pu, mj_lo, mj_br, mj_hr, mj_hw, mq_gf, mq_len, mq_al, mq_pf, mq_ok, mj_re, mq_lkm, mq_lkn, mj_ldi, mj_ldl, mj_lda, mj_ii, mj_ll, mj_li, mj_i1, ms_1, ms_2, f1_n, f1_i, f1_r, f1_u, f1_l, f2_n, f2_i, f2_r, f2_u, f2_l, mj_tg, mj_c1, mj_c2, mj_ar, mj_aw, mq_cb, mq_oi, mj_rm, Value.category, -getElem?_pos, List.getElem?_cons_zero, decide_eq_true, decide_eq_false, nl_lt, nl_le, ln_lt, ln_le, nl_eq, ln_eq, nl_add, ln_add, nl_sub, ln_mul, nI_sub, nI_mul, nI_add, nI_lt_iff, nI_le_iff, nI_inj, nI_num, mq_ix, nI_1, nl_mul, nl_div, xp, v0]
    exact hq
  by_cases hE : acF p u = []
  · obtain ⟨M2, p2, z2, g2⟩ := ws_C (d := d) (hash := hash) (lv := .ref π) (le := nI 0) (w6 := nI u.length) (w7 := nI n) (mk := mk) (b := b) (u := u) hmk z1 (by omega)
    have e : acMsg 3 (acF p u) = [] := by unfold acMsg; rw [if_pos hE]
    rw [e, List.nil_append]
    refine ⟨M2, pre _ (q1 _ ?_), z2, g1.tr g2⟩
    rw [hE, List.length_nil]
    rw [nI_0] at p2 ⊢
    simp (disch := (first | omega | decide)) [s209_0, s209_1, s209_4, s209_5, s209_8, s209_9, s209_11, s209_13, s209_16, s209_18, s209_19, s209_22, s209_25, s209_26, s209_29, s209_30, s209_33, s209_34, s209_37, s209_38, s209_39, s209_41, s209_44, s209_45, s209_48, s209_49, s209_50, s209_52, s209_55, s209_56, s209_59, s209_60, s209_61, s209_62, s209_65, s209_66, s209_69, s209_70, s209_71, s209_74, s209_75, s209_78, s209_79, s209_82, s209_83, s209_86, s209_87, s209_89, s209_92, s209_93, s209_96, s209_97, s209_100, s209_101, s209_103, s209_106, s209_107, s209_110, s209_111, s209_114, s209_115, s209_118, s209_119, s209_122, s209_124, s209_127, s209_128, s209_131, s209_132, s209_135, s209_136, s209_137, s209_139, s209_141, s209_143, s209_148, s209_151, s209_152, s209_155, s209_156, s209_159, s209_160, s209_163, s209_165, s209_168, s209_169, s209_172, s209_173, s209_175, s209_176, s209_179, mq_k0s, mq_k1s, mq_k2s, mq_k4s, mq_k5s, mq_k5n, mq_k5as, mq_k6s, mj_pu, mj_lo, mj_br, mj_hr, mj_hw, mq_gf, mq_len, mq_al, mq_pf, mq_ok, mj_re, mq_lkm, mq_lkn, mj_ldi, mj_ldl, mj_lda, mj_ii, mj_ll, mj_li, mj_i1, ms_1, ms_2, f1_n, f1_i, f1_r, f1_u, f1_l, f2_n, f2_i, f2_r, f2_u, f2_l, mj_tg, mj_c1, mj_c2, mj_ar, mj_aw, mq_cb, mq_oi, mj_rm, Value.category, -getElem?_pos, List.getElem?_cons_zero, decide_eq_true, decide_eq_false, nl_lt, nl_le, ln_lt, ln_le, nl_eq, ln_eq, nl_add, ln_add, nl_sub, ln_mul, nI_sub, nI_mul, nI_add, nI_lt_iff, nI_le_iff, nI_inj, nI_num, mq_ix, nI_1, nl_mul, nl_div]
    exact p2
  · have hLp : ¬ (acF p u).length ≤ 0 := by have := List.length_pos_iff.mpr hE; omega
    obtain ⟨x1, y1⟩ := z1.fa
    obtain ⟨M2, p2, z2, g2⟩ := hm_pushX (d := d + 5) z1 3 (B ++ [3]) (by rw [aa_3]) (by simp; omega)
    obtain ⟨x2, y2⟩ := z2.fa
    obtain ⟨M3, p3, z3, g3⟩ := h_pac (d := d) z2 hp hπ ho h8 hul (by simp; omega)
    have hel := ent_len (acF p u)
    have hbl := bt_hd_len 4 (nI (acF p u).length)
    obtain ⟨M4, p4, z4, g4⟩ := ws_C (d := d) (hash := hash) (lv := .ref π) (le := nI (acF p u).length) (w6 := nI u.length) (w7 := nI n) (mk := mk) (b := b) (u := u) hmk z3 (by simp only [List.length_append, hel, List.length_cons, List.length_nil]; omega)
    have e : B ++ [3] ++ (bt_hd 4 (nI (acF p u).length) ++ (acF p u).flatMap acEnt) ++ (optM b 5 [98, 117, 112] 244 ++ mrkM (nI mk) 6 7) = B ++ (acMsg 3 (acF p u) ++ (optM b 5 [98, 117, 112] 244 ++ mrkM (nI mk) 6 7)) := by
      unfold acMsg; rw [if_neg hE]; simp
    rw [e] at z4
    refine ⟨M4, pre _ (q1 _ ?_), z4, ((g1.tr g2).tr g3).tr g4⟩
    generalize (acF p u).length = Ln at *
    simp (disch := (first | omega | decide)) [s209_0, s209_1, s209_4, s209_5, s209_8, s209_9, s209_11, s209_13, s209_16, s209_18, s209_19, s209_22, s209_25, s209_26, s209_29, s209_30, s209_33, s209_34, s209_37, s209_38, s209_39, s209_41, s209_44, s209_45, s209_48, s209_49, s209_50, s209_52, s209_55, s209_56, s209_59, s209_60, s209_61, s209_62, s209_65, s209_66, s209_69, s209_70, s209_71, s209_74, s209_75, s209_78, s209_79, s209_82, s209_83, s209_86, s209_87, s209_89, s209_92, s209_93, s209_96, s209_97, s209_100, s209_101, s209_103, s209_106, s209_107, s209_110, s209_111, s209_114, s209_115, s209_118, s209_119, s209_122, s209_124, s209_127, s209_128, s209_131, s209_132, s209_135, s209_136, s209_137, s209_139, s209_141, s209_143, s209_148, s209_151, s209_152, s209_155, s209_156, s209_159, s209_160, s209_163, s209_165, s209_168, s209_169, s209_172, s209_173, s209_175, s209_176, s209_179, mq_k0s, mq_k1s, mq_k2s, mq_k4s, mq_k5s, mq_k5n, mq_k5as, mq_k6s, mj_pu, mj_lo, mj_br, mj_hr, mj_hw, mq_gf, mq_len, mq_al, mq_pf, mq_ok, mj_re, mq_lkm, mq_lkn, mj_ldi, mj_ldl, mj_lda, mj_ii, mj_ll, mj_li, mj_i1, ms_1, ms_2, f1_n, f1_i, f1_r, f1_u, f1_l, f2_n, f2_i, f2_r, f2_u, f2_l, mj_tg, mj_c1, mj_c2, mj_ar, mj_aw, mq_cb, mq_oi, mj_rm, Value.category, -getElem?_pos, List.getElem?_cons_zero, decide_eq_true, decide_eq_false, nl_lt, nl_le, ln_lt, ln_le, nl_eq, ln_eq, nl_add, ln_add, nl_sub, ln_mul, nI_sub, nI_mul, nI_add, nI_lt_iff, nI_le_iff, nI_inj, nI_num, mq_ix, nI_1, nl_mul, nl_div, hLp, x1, y1, p2, x2, p3]
    exact p4
/-- the response goes to the tape -/
theorem h_brs (z : hz M H κs πs row) {j : Nat} {h : Hd} (hh : H.2.2.2.1[j]? = some h) (kind c : Int32) (hk : kind &&& 255 = kind) : ∃ M', mj_V (d + 3) 206 [.ref 25, .int kind, .int c, .ref (49 + 5 * j)] M = some (none, M') ∧ hz M' ((kind :: (b4 c ++ (nI h.2.1.length :: h.2.1)), (H.2.1, (H.2.2.1, (H.2.2.2.1, H.2.2.2.2)))) : Ho) κs πs row ∧ hf M M' := by
  have hj := z.hj hh
  have x0 := z.ob
  have o0 := z.tp.2.2.2.2.2.1
  have hpl := (z.hd j h hh).pg.len
  obtain ⟨M1, p1, b1, f1⟩ := v_clear (d := d + 1) z.tp
  obtain ⟨z1, g1⟩ := z.tape b1 (f1.mono (by simp)) (mj_V_gr p1)
  have x1 := z1.ob
  have o1 := b1.2.2.2.2.2.1
  obtain ⟨M2, p2, b2, f2⟩ := v_push (d := d + 1) b1 kind
  rw [hk, bt_app_in (by simp), List.nil_append] at b2
  obtain ⟨z2, g2⟩ := z1.tape b2 f2 (mj_V_gr p2)
  have x2 := z2.ob
  have o2 := b2.2.2.2.2.2.1
  obtain ⟨M3, p3, b3, f3⟩ := v_pushLow (d := d + 1) (w := c.toInt64) (m := 4) (by omega) b2
  rw [b4_low, bt_app_in (by simp [b4_len])] at b3
  obtain ⟨z3, g3⟩ := z2.tape b3 f3 (mj_V_gr p3)
  have x3 := z3.ob
  have o3 := b3.2.2.2.2.2.1
  have zh3 := z3.hd j h hh
  have q3 := zh3.pg.2.2.2.2.2.1
  have v3 := v_size (d := d + 1) zh3.pg
  obtain ⟨M4, p4, b4', f4⟩ := v_push (d := d + 1) b3 (nI h.2.1.length)
  rw [by_nat _ (by omega), bt_app_in (by simp [b4_len])] at b4'
  obtain ⟨z4, g4⟩ := z3.tape b4' f4 (mj_V_gr p4)
  have x4 := z4.ob
  have o4 := b4'.2.2.2.2.2.1
  have zh4 := z4.hd j h hh
  have q4 := zh4.pg.2.2.2.2.2.1
  have v4 := v_size (d := d + 1) zh4.pg
  obtain ⟨M5, p5, b5, f5⟩ := v_pushPart (d := d) (p := 0) (n := h.2.1.length) (by omega) (by omega) (by omega) (by omega) (by omega) b4' zh4.pg
  rw [List.drop_zero, List.take_of_length_le (Nat.le_refl _), bt_app_in (by simp [b4_len]; omega)] at b5
  have e : [kind] ++ b4 c ++ [nI h.2.1.length] ++ h.2.1 = kind :: (b4 c ++ (nI h.2.1.length :: h.2.1)) := by simp
  rw [e] at b5
  obtain ⟨z5, g5⟩ := z4.tape b5 f5 (mj_V_gr p5)
  refine ⟨M5, ?_, z5, (((((g1).tr g2).tr g3).tr g4).tr g5)⟩
  have ea : 46 + 5 * j + 3 = 49 + 5 * j := by omega
  have eb : 46 + 5 * j + 4 = 50 + 5 * j := by omega
  rw [ea, eb] at q3 q4
  rw [ea] at v3 v4 p5
  rw [nI_0] at p5
  rw [show nI 4 = 4 from rfl] at p3
  simp (disch := (first | omega | decide)) [c206, s206_0, s206_1, s206_4, s206_7, s206_8, s206_11, s206_12, s206_15, s206_16, s206_19, s206_20, s206_21, s206_22, s206_25, s206_26, s206_29, s206_30, s206_33, s206_36, s206_37, s206_40, s206_41, s206_42, s206_43, s206_46, s206_49, mq_k0s, mq_k1s, mq_k2s, mq_k4s, mq_k5s, mq_k5n, mq_k5as, mq_k6s, mj_pu, mj_lo, mj_br, mj_hr, mj_hw, mq_gf, mq_len, mq_al, mq_pf, mq_ok, mj_re, mq_lkm, mq_lkn, mj_ldi, mj_ldl, mj_lda, mj_ii, mj_ll, mj_li, mj_i1, ms_1, ms_2, f1_n, f1_i, f1_r, f1_u, f1_l, f2_n, f2_i, f2_r, f2_u, f2_l, mj_tg, mj_c1, mj_c2, mj_ar, mj_aw, mq_cb, mq_oi, mj_rm, Value.category, -getElem?_pos, List.getElem?_cons_zero, decide_eq_true, decide_eq_false, nl_lt, nl_le, ln_lt, ln_le, nl_eq, ln_eq, nl_add, ln_add, nl_sub, ln_mul, nI_sub, nI_mul, nI_add, nI_lt_iff, nI_le_iff, nI_inj, nI_num, mq_ix, nI_1, nl_mul, nl_div, x0, o0, p1, x1, o1, p2, x2, o2, p3, x3, o3, q3, v3, p4, x4, o4, q4, v4, p5]
theorem h_ers (z : hz M H κs πs row) {a b : Nat} {re : List Int32} (hb : bb M a b 400 re) (ha : a ≠ 26 ∧ a ≠ 27 ∧ b ≠ 26 ∧ b ≠ 27) {id data size : Nat} (hs : id < 100 ∧ data < 100 ∧ size < 100) (ht : H.1.length ≤ 100) : ∃ M', mj_V (d + 3) 207 [.ref 25, .ref a, .int (nI id), .int (nI data), .int (nI size)] M = some (none, M') ∧ hz M' ((H.1 ++ ((re.drop id).take 4 ++ (nI size :: ((re.drop data).take size ++ (re.drop 41).take 4))), (H.2.1, (H.2.2.1, (H.2.2.2.1, H.2.2.2.2)))) : Ho) κs πs row ∧ hf M M' := by
  have x0 := z.ob
  have o0 := z.tp.2.2.2.2.2.1
  have hal : a < M.length := mq_lt hb.2.2.2.2.2.1
  have step : ∀ {M1 M2 : mj_H}, bb M1 a b 400 re → mq_fr [26, 27] M1 M2 → bb M2 a b 400 re := fun h f => h.fr (f.2 _ (by simp [ha])) (f.2 _ (by simp [ha]))
  obtain ⟨M1, p1, b1, f1⟩ := v_pushPart (d := d) (p := id) (n := 4) (by omega) (by omega) (by omega) (by omega) (by omega) z.tp hb
  rw [bt_app_in (by simp; omega)] at b1
  obtain ⟨z1, g1⟩ := z.tape b1 f1 (mj_V_gr p1)
  have hb1 := step hb f1
  have x1 := z1.ob
  have o1 := b1.2.2.2.2.2.1
  obtain ⟨M2, p2, b2, f2⟩ := v_push (d := d + 1) b1 (nI size)
  rw [by_nat _ (by omega), bt_app_in (by simp; omega)] at b2
  obtain ⟨z2, g2⟩ := z1.tape b2 f2 (mj_V_gr p2)
  have hb2 := step hb1 f2
  have x2 := z2.ob
  have o2 := b2.2.2.2.2.2.1
  obtain ⟨M3, p3, b3, f3⟩ := v_pushPart (d := d) (p := data) (n := size) (by omega) (by omega) (by omega) (by omega) (by omega) b2 hb2
  rw [bt_app_in (by simp; omega)] at b3
  obtain ⟨z3, g3⟩ := z2.tape b3 f3 (mj_V_gr p3)
  have hb3 := step hb2 f3
  have x3 := z3.ob
  have o3 := b3.2.2.2.2.2.1
  obtain ⟨M4, p4, b4', f4⟩ := v_pushPart (d := d) (p := 41) (n := 4) (by omega) (by omega) (by omega) (by omega) (by omega) b3 hb3
  rw [bt_app_in (by simp; omega)] at b4'
  have e : H.1 ++ (re.drop id).take 4 ++ [nI size] ++ (re.drop data).take size ++ (re.drop 41).take 4 = H.1 ++ ((re.drop id).take 4 ++ (nI size :: ((re.drop data).take size ++ (re.drop 41).take 4))) := by simp
  rw [e] at b4'
  obtain ⟨z4, g4⟩ := z3.tape b4' f4 (mj_V_gr p4)
  refine ⟨M4, ?_, z4, ((((g1).tr g2).tr g3).tr g4)⟩
  rw [show nI 4 = 4 from rfl] at p1 p4
  rw [show nI 41 = 41 from rfl] at p4
  simp (disch := (first | omega | decide)) [c207, s207_0, s207_1, s207_4, s207_5, s207_6, s207_7, s207_10, s207_11, s207_14, s207_16, s207_19, s207_20, s207_23, s207_24, s207_25, s207_27, s207_30, s207_31, s207_34, s207_35, s207_37, s207_38, s207_41, mq_k0s, mq_k1s, mq_k2s, mq_k4s, mq_k5s, mq_k5n, mq_k5as, mq_k6s, mj_pu, mj_lo, mj_br, mj_hr, mj_hw, mq_gf, mq_len, mq_al, mq_pf, mq_ok, mj_re, mq_lkm, mq_lkn, mj_ldi, mj_ldl, mj_lda, mj_ii, mj_ll, mj_li, mj_i1, ms_1, ms_2, f1_n, f1_i, f1_r, f1_u, f1_l, f2_n, f2_i, f2_r, f2_u, f2_l, mj_tg, mj_c1, mj_c2, mj_ar, mj_aw, mq_cb, mq_oi, mj_rm, Value.category, -getElem?_pos, List.getElem?_cons_zero, decide_eq_true, decide_eq_false, nl_lt, nl_le, ln_lt, ln_le, nl_eq, ln_eq, nl_add, ln_add, nl_sub, ln_mul, nI_sub, nI_mul, nI_add, nI_lt_iff, nI_le_iff, nI_inj, nI_num, mq_ix, nI_1, nl_mul, nl_div, x0, o0, p1, x1, o1, p2, x2, o2, p3, x3, o3, p4]
end HZ
end
