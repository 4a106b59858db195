/- d8.mhands2 -/
section
set_option maxRecDepth 512
/-! The model: hands, the other calls. -/
section
variable {d : Nat} {B : Bs} {x : Fx} {y : Sy} {H : Ho} {j : Nat} {q : Hd}
theorem w3_e (hm : hM x j q) : x.w3 j q.2.2.1 q.2.2.2.1 q.2.2.2.2 = x := by
  unfold Fx.w3
  rw [set_same hm.se, set_same hm.ag, set_same hm.to]
/-- a hand and a public part agree -/
theorem q_agree (z : mz x y H) (hq : H.2.2.2.1[j]? = some q) (hj : j < 4) (hs : q.2.2.1 ≠ 0) {t : Int32} (h2 : bt_at (tm_row H.2.1.1 t) 0 = 2) (hT8 : tk8 H.2.1) (hT9 : tk9 H.2.1) (hT : H.2.1.1.length < 1000) : ∃ x' y', mj_V (d + 4) 337 [.ref 67, .int (nI j), .int t] (mm B x y) = some (some (.int 1), mm B x' y') ∧ mz x' y' (H.ht j (agr_h q H.2.1 (tm_sec H.2.1.1 t), agr_T q H.2.1 (tm_sec H.2.1.1 t))) ∧ x'.kf = x.kf ∧ x'.1.1.1.2.1.1 = x.1.1.1.2.1.1 ∧ x'.1.1.1.1.1.1 = x.1.1.1.1.1.1 := by
  obtain ⟨D, O, hy⟩ := z.y
  have hm := z.h.hs j q hq
  have rh := q_isHand (d := d + 2) (M := mm B x y) (nI j)
  rw [ix_nI (by omega), if_pos hj] at rh
  simp only [on1, Option.isSome_some, if_true] at rh
  have rs := q_isSort (d := d + 2) (B := B) (x := x) hy t (s := 2) (by decide)
  rw [if_pos h2] at rs
  have rp := q_partA (d := d + 2) (B := B) (x := x) hy (t := t) (k := 1) (by rw [hT8.p2 t h2]; omega)
  rw [show nI 1 = (1 : Int32) from rfl, ← (sec_p hT8 hT9 t h2).2] at rp
  obtain ⟨y1, p1, z1, k1⟩ := q_beginAgreed (d := d + 1) (B := B) (x := x) hy q.2.2.1 (tm_sec H.2.1.1 t)
  obtain ⟨y2, p2, z2, k2⟩ := q_term (d := d) (B := B) (x := x) z1 (by simp [S_cb_mmade4_0, S_bx_mcan1_0, S_b8_mkey_1, S_b8_mkey_0, S_b1_mterm_0, S_b1_copy_0, S_b0_mod_7, S_b0_mod_6, S_b0_mod_5, S_b0_mod_3, S_b0_mod_2, S_b0_mod_1, S_b0_mod_0, S_cb_mmade4_1h, S_bx_mcan1_1h, S_b0_mod_4h, tm_agr]) (by simp [S_cb_mmade4_0, S_bx_mcan1_0, S_b8_mkey_1, S_b8_mkey_0, S_b1_mterm_0, S_b1_copy_0, S_b0_mod_7, S_b0_mod_6, S_b0_mod_5, S_b0_mod_3, S_b0_mod_2, S_b0_mod_1, S_b0_mod_0, S_cb_mmade4_1h, S_bx_mcan1_1h, S_b0_mod_4h, tm_agr]) hT
  have e := w3_e hm
  have hz := z.h.w3 hq q.2.2.1 (nI (tm_no H.2.1 (tm_agr q.2.2.1 (tm_sec H.2.1.1 t)))) q.2.2.2.2
  have ex : x.w3 j q.2.2.1 (nI (tm_no H.2.1 (tm_agr q.2.2.1 (tm_sec H.2.1.1 t)))) q.2.2.2.2 = (((((((x.1.1.1.1.1.1, x.1.1.1.1.1.2), (x.1.1.1.1.2.1, x.1.1.1.1.2.2)), ((x.1.1.1.2.1.1, x.1.1.1.2.1.2), (x.1.1.1.2.2.1, x.1.1.1.2.2.2))), (((x.1.1.2.1.1.1, x.1.1.2.1.1.2), (x.1.1.2.1.2.1, x.1.1.2.1.2.2)), ((x.1.1.2.2.1.1, x.1.1.2.2.1.2), (x.1.1.2.2.2.1, x.1.1.2.2.2.2)))), ((((x.1.2.1.1.1.1, x.1.2.1.1.1.2), (x.1.2.1.1.2.1, x.1.2.1.1.2.2)), ((x.1.2.1.2.1.1, x.1.2.1.2.1.2), (x.1.2.1.2.2.1, x.1.2.1.2.2.2))), (((x.1.2.2.1.1.1, x.1.2.2.1.1.2), (x.1.2.2.1.2.1, x.1.2.2.1.2.2)), ((x.1.2.2.2.1.1, x.1.2.2.2.1.2), (x.1.2.2.2.2.1, x.1.2.2.2.2.2))))), (((((x.2.1.1.1.1.1, x.2.1.1.1.1.2), (x.2.1.1.1.2.1, x.2.1.1.1.2.2)), ((x.2.1.1.2.1.1, x.2.1.1.2.1.2), (x.2.1.1.2.2.1, x.2.1.1.2.2.2.set j (nI (tm_no H.2.1 (tm_agr q.2.2.1 (tm_sec H.2.1.1 t))))))), (((x.2.1.2.1.1.1, x.2.1.2.1.1.2), (x.2.1.2.1.2.1, x.2.1.2.1.2.2)), ((x.2.1.2.2.1.1, x.2.1.2.2.1.2), (x.2.1.2.2.2.1, x.2.1.2.2.2.2)))), ((((x.2.2.1.1.1.1, x.2.2.1.1.1.2), (x.2.2.1.1.2.1, x.2.2.1.1.2.2)), ((x.2.2.1.2.1.1, x.2.2.1.2.1.2), (x.2.2.1.2.2.1, x.2.2.1.2.2.2))), (((x.2.2.2.1.1.1, x.2.2.2.1.1.2), (x.2.2.2.1.2.1, x.2.2.2.1.2.2)), ((x.2.2.2.2.1.1, x.2.2.2.2.1.2), (x.2.2.2.2.2.1, x.2.2.2.2.2.2)))))) : Fx) := by
    unfold Fx.w3
    rw [set_same hm.se, set_same hm.to]
  refine ⟨x.w3 j q.2.2.1 (nI (tm_no H.2.1 (tm_agr q.2.2.1 (tm_sec H.2.1.1 t)))) q.2.2.2.2, y2, ?_, (mz_mk_ z.t z.m (z.k.kf rfl) hz (⟨_, _, z2⟩)), rfl, rfl, rfl⟩
  rw [ex]
  have l1 := z.h.l.secretOf
  have l2 := z.h.l.agreed
  have hse := hm.se
  generalize tm_agr q.2.2.1 (tm_sec H.2.1.1 t) = row at *
  generalize tm_sec H.2.1.1 t = sc at *
  simp (disch := (first | omega | decide)) [S_cb_mmade4_0, S_bx_mcan1_0, S_b8_mkey_1, S_b8_mkey_0, S_b1_mterm_0, S_b1_copy_0, S_b0_mod_7, S_b0_mod_6, S_b0_mod_5, S_b0_mod_3, S_b0_mod_2, S_b0_mod_1, S_b0_mod_0, S_cb_mmade4_1h, S_bx_mcan1_1h, S_b0_mod_4h, c337, s337_0, s337_1, s337_4, s337_7, s337_8, s337_11, s337_12, s337_13, s337_16, s337_17, s337_18, s337_19, s337_22, s337_25, s337_26, s337_27, s337_28, s337_29, s337_32, s337_33, s337_34, s337_35, s337_36, s337_37, s337_40, s337_43, s337_44, s337_47, s337_48, s337_49, s337_52, s337_53, s337_54, mq_k0s, mq_k1s, mq_k2s, mq_k4s, mq_k5s, mq_k5n, mq_k5as, mq_k6s, mj_pu, mj_lo, mj_br, mj_hr, mj_hw, mq_gf, mq_len, mq_al, mq_pf, mq_ok, mj_re, mq_lkm, mq_lkn, mj_ldi, mj_ldl, mj_lda, mj_ii, mj_ll, mj_li, mj_i1, ms_1, ms_2, f1_n, f1_i, f1_r, f1_u, f1_l, f2_n, f2_i, f2_r, f2_u, f2_l, mj_tg, mj_c1, mj_c2, mj_ar, mj_aw, mq_cb, mq_oi, mj_rm, Value.category, -getElem?_pos, List.getElem?_cons_zero, decide_eq_true, decide_eq_false, nl_lt, nl_le, ln_lt, ln_le, nl_eq, ln_eq, nl_add, ln_add, nl_sub, ln_mul, nI_sub, nI_mul, nI_add, nI_lt_iff, nI_le_iff, nI_inj, nI_num, mq_ix, nI_1, nl_mul, nl_div, rh, l1, l2, hse, hs, rs, rp, p1, p2, narrow_b1]
theorem o_agree (z : mz x y H) (i t : Int32) (hT8 : tk8 H.2.1) (hT9 : tk9 H.2.1) (hT : H.2.1.1.length < 1000) : oR (d + 4) 337 [.ref 67, .int i, .int t] B x y (ho_agree H i t) := by
  have rh := q_isHand (d := d + 2) (M := mm B x y) i
  unfold ho_agree
  cases hi : ix i 4 with
  | none =>
    rw [hi] at rh
    simp only [on1, Option.isSome_none, Bool.false_eq_true, if_false] at rh
    refine ⟨x, y, ?_, z⟩
    simp (disch := (first | omega | decide)) [S_cb_mmade4_0, S_bx_mcan1_0, S_b8_mkey_1, S_b8_mkey_0, S_b1_mterm_0, S_b1_copy_0, S_b0_mod_7, S_b0_mod_6, S_b0_mod_5, S_b0_mod_3, S_b0_mod_2, S_b0_mod_1, S_b0_mod_0, S_cb_mmade4_1h, S_bx_mcan1_1h, S_b0_mod_4h, c337, s337_0, s337_1, s337_4, s337_7, s337_8, s337_11, s337_12, s337_13, s337_16, s337_17, s337_18, s337_19, s337_22, s337_25, s337_26, s337_27, s337_28, s337_29, s337_32, s337_33, s337_34, s337_35, s337_36, s337_37, s337_40, s337_43, s337_44, s337_47, s337_48, s337_49, s337_52, s337_53, s337_54, mq_k0s, mq_k1s, mq_k2s, mq_k4s, mq_k5s, mq_k5n, mq_k5as, mq_k6s, mj_pu, mj_lo, mj_br, mj_hr, mj_hw, mq_gf, mq_len, mq_al, mq_pf, mq_ok, mj_re, mq_lkm, mq_lkn, mj_ldi, mj_ldl, mj_lda, mj_ii, mj_ll, mj_li, mj_i1, ms_1, ms_2, f1_n, f1_i, f1_r, f1_u, f1_l, f2_n, f2_i, f2_r, f2_u, f2_l, mj_tg, mj_c1, mj_c2, mj_ar, mj_aw, mq_cb, mq_oi, mj_rm, Value.category, -getElem?_pos, List.getElem?_cons_zero, decide_eq_true, decide_eq_false, nl_lt, nl_le, ln_lt, ln_le, nl_eq, ln_eq, nl_add, ln_add, nl_sub, ln_mul, nI_sub, nI_mul, nI_add, nI_lt_iff, nI_le_iff, nI_inj, nI_num, mq_ix, nI_1, nl_mul, nl_div, rh, narrow_b0]
  | some j =>
    rw [hi] at rh
    simp only [on1, Option.isSome_some, if_true] at rh
    obtain ⟨q, hq, rfl, hj, hm⟩ := hand_at z hi
    dsimp only
    rw [hq]
    dsimp only
    obtain ⟨D, O, hy⟩ := z.y
    have rs := q_isSort (d := d + 2) (B := B) (x := x) hy t (s := 2) (by decide)
    have l1 := z.h.l.secretOf
    have hse := hm.se
    by_cases hs : q.2.2.1 = 0
    · rw [if_pos (Or.inl hs)]
      refine ⟨x, y, ?_, z⟩
      simp (disch := (first | omega | decide)) [S_cb_mmade4_0, S_bx_mcan1_0, S_b8_mkey_1, S_b8_mkey_0, S_b1_mterm_0, S_b1_copy_0, S_b0_mod_7, S_b0_mod_6, S_b0_mod_5, S_b0_mod_3, S_b0_mod_2, S_b0_mod_1, S_b0_mod_0, S_cb_mmade4_1h, S_bx_mcan1_1h, S_b0_mod_4h, c337, s337_0, s337_1, s337_4, s337_7, s337_8, s337_11, s337_12, s337_13, s337_16, s337_17, s337_18, s337_19, s337_22, s337_25, s337_26, s337_27, s337_28, s337_29, s337_32, s337_33, s337_34, s337_35, s337_36, s337_37, s337_40, s337_43, s337_44, s337_47, s337_48, s337_49, s337_52, s337_53, s337_54, mq_k0s, mq_k1s, mq_k2s, mq_k4s, mq_k5s, mq_k5n, mq_k5as, mq_k6s, mj_pu, mj_lo, mj_br, mj_hr, mj_hw, mq_gf, mq_len, mq_al, mq_pf, mq_ok, mj_re, mq_lkm, mq_lkn, mj_ldi, mj_ldl, mj_lda, mj_ii, mj_ll, mj_li, mj_i1, ms_1, ms_2, f1_n, f1_i, f1_r, f1_u, f1_l, f2_n, f2_i, f2_r, f2_u, f2_l, mj_tg, mj_c1, mj_c2, mj_ar, mj_aw, mq_cb, mq_oi, mj_rm, Value.category, -getElem?_pos, List.getElem?_cons_zero, decide_eq_true, decide_eq_false, nl_lt, nl_le, ln_lt, ln_le, nl_eq, ln_eq, nl_add, ln_add, nl_sub, ln_mul, nI_sub, nI_mul, nI_add, nI_lt_iff, nI_le_iff, nI_inj, nI_num, mq_ix, nI_1, nl_mul, nl_div, rh, l1, hse, hs, narrow_b0]
    · by_cases h2 : bt_at (tm_row H.2.1.1 t) 0 = 2
      · rw [if_neg (fun w => by rcases w with w | w; exact hs w; exact (sec_p hT8 hT9 t h2).1 w)]
        obtain ⟨x', y', a, b, -⟩ := q_agree (d := d) (B := B) z hq hj hs h2 hT8 hT9 hT
        exact ⟨x', y', a, b⟩
      · have hz : tm_sec H.2.1.1 t = 0 := by unfold tm_sec; rw [if_neg h2]
        rw [if_pos (Or.inr hz)]
        rw [if_neg h2] at rs
        refine ⟨x, y, ?_, z⟩
        simp (disch := (first | omega | decide)) [S_cb_mmade4_0, S_bx_mcan1_0, S_b8_mkey_1, S_b8_mkey_0, S_b1_mterm_0, S_b1_copy_0, S_b0_mod_7, S_b0_mod_6, S_b0_mod_5, S_b0_mod_3, S_b0_mod_2, S_b0_mod_1, S_b0_mod_0, S_cb_mmade4_1h, S_bx_mcan1_1h, S_b0_mod_4h, c337, s337_0, s337_1, s337_4, s337_7, s337_8, s337_11, s337_12, s337_13, s337_16, s337_17, s337_18, s337_19, s337_22, s337_25, s337_26, s337_27, s337_28, s337_29, s337_32, s337_33, s337_34, s337_35, s337_36, s337_37, s337_40, s337_43, s337_44, s337_47, s337_48, s337_49, s337_52, s337_53, s337_54, mq_k0s, mq_k1s, mq_k2s, mq_k4s, mq_k5s, mq_k5n, mq_k5as, mq_k6s, mj_pu, mj_lo, mj_br, mj_hr, mj_hw, mq_gf, mq_len, mq_al, mq_pf, mq_ok, mj_re, mq_lkm, mq_lkn, mj_ldi, mj_ldl, mj_lda, mj_ii, mj_ll, mj_li, mj_i1, ms_1, ms_2, f1_n, f1_i, f1_r, f1_u, f1_l, f2_n, f2_i, f2_r, f2_u, f2_l, mj_tg, mj_c1, mj_c2, mj_ar, mj_aw, mq_cb, mq_oi, mj_rm, Value.category, -getElem?_pos, List.getElem?_cons_zero, decide_eq_true, decide_eq_false, nl_lt, nl_le, ln_lt, ln_le, nl_eq, ln_eq, nl_add, ln_add, nl_sub, ln_mul, nI_sub, nI_mul, nI_add, nI_lt_iff, nI_le_iff, nI_inj, nI_num, mq_ix, nI_1, nl_mul, nl_div, rh, l1, hse, hs, rs, narrow_b0]
theorem o_token (z : mz x y H) (i t : Int32) (hT8 : tk8 H.2.1) : oR (d + 2) 340 [.ref 67, .int i, .int t] B x y (ho_token H i t) := by
  have rh := q_isHand (d := d) (M := mm B x y) i
  unfold ho_token
  cases hi : ix i 4 with
  | none =>
    rw [hi] at rh
    simp only [on1, Option.isSome_none, Bool.false_eq_true, if_false] at rh
    refine ⟨x, y, ?_, z⟩
    simp (disch := (first | omega | decide)) [S_cb_mmade4_0, S_bx_mcan1_0, S_b8_mkey_1, S_b8_mkey_0, S_b1_mterm_0, S_b1_copy_0, S_b0_mod_7, S_b0_mod_6, S_b0_mod_5, S_b0_mod_3, S_b0_mod_2, S_b0_mod_1, S_b0_mod_0, S_cb_mmade4_1h, S_bx_mcan1_1h, S_b0_mod_4h, c340, s340_0, s340_1, s340_4, s340_7, s340_8, s340_11, s340_12, s340_13, s340_16, s340_17, s340_18, s340_20, s340_23, s340_26, s340_27, s340_28, s340_29, s340_32, s340_33, s340_36, s340_37, s340_38, s340_41, s340_42, s340_43, s340_44, s340_47, s340_48, s340_49, s340_50, s340_51, s340_54, s340_55, s340_56, mq_k0s, mq_k1s, mq_k2s, mq_k4s, mq_k5s, mq_k5n, mq_k5as, mq_k6s, mj_pu, mj_lo, mj_br, mj_hr, mj_hw, mq_gf, mq_len, mq_al, mq_pf, mq_ok, mj_re, mq_lkm, mq_lkn, mj_ldi, mj_ldl, mj_lda, mj_ii, mj_ll, mj_li, mj_i1, ms_1, ms_2, f1_n, f1_i, f1_r, f1_u, f1_l, f2_n, f2_i, f2_r, f2_u, f2_l, mj_tg, mj_c1, mj_c2, mj_ar, mj_aw, mq_cb, mq_oi, mj_rm, Value.category, -getElem?_pos, List.getElem?_cons_zero, decide_eq_true, decide_eq_false, nl_lt, nl_le, ln_lt, ln_le, nl_eq, ln_eq, nl_add, ln_add, nl_sub, ln_mul, nI_sub, nI_mul, nI_add, nI_lt_iff, nI_le_iff, nI_inj, nI_num, mq_ix, nI_1, nl_mul, nl_div, rh, narrow_b0]
  | some j =>
    rw [hi] at rh
    simp only [on1, Option.isSome_some, if_true] at rh
    obtain ⟨q, hq, rfl, hj, hm⟩ := hand_at z hi
    dsimp only
    rw [hq]
    dsimp only
    obtain ⟨D, O, hy⟩ := z.y
    have rs := q_isSort (d := d) (B := B) (x := x) hy t (s := 9) (by decide)
    have l2 := z.h.l.agreed
    have l3 := z.h.l.tokenOf
    have hag := hm.ag
    have same : mz x y (H.ht j (q, H.2.1)) := by
      refine (mz_mk_ z.t z.m z.k ?_ (⟨D, O, hy⟩))
      have := z.h.w3 hq q.2.2.1 q.2.2.2.1 q.2.2.2.2
      rw [w3_e hm] at this
      exact this
    unfold tok_h
    by_cases hok : tok_ok q H.2.1 t
    · rw [decide_eq_true hok, if_pos hok]
      obtain ⟨h0, h9, h1⟩ := hok
      rw [if_pos h9] at rs
      have hlen := hT8.s9 t h9
      have rp := q_partA (d := d) (B := B) (x := x) hy (t := t) (k := 1) (by omega)
      have rp2 := q_partA (d := d) (B := B) (x := x) hy (t := t) (k := 2) (by omega)
      rw [show nI 1 = (1 : Int32) from rfl, h1] at rp
      rw [show nI 2 = (2 : Int32) from rfl] at rp2
      have ex : x.w3 j q.2.2.1 q.2.2.2.1 (bt_at (tm_row H.2.1.1 t) 2) = (((((((x.1.1.1.1.1.1, x.1.1.1.1.1.2), (x.1.1.1.1.2.1, x.1.1.1.1.2.2)), ((x.1.1.1.2.1.1, x.1.1.1.2.1.2), (x.1.1.1.2.2.1, x.1.1.1.2.2.2))), (((x.1.1.2.1.1.1, x.1.1.2.1.1.2), (x.1.1.2.1.2.1, x.1.1.2.1.2.2)), ((x.1.1.2.2.1.1, x.1.1.2.2.1.2), (x.1.1.2.2.2.1, x.1.1.2.2.2.2)))), ((((x.1.2.1.1.1.1, x.1.2.1.1.1.2), (x.1.2.1.1.2.1, x.1.2.1.1.2.2)), ((x.1.2.1.2.1.1, x.1.2.1.2.1.2), (x.1.2.1.2.2.1, x.1.2.1.2.2.2))), (((x.1.2.2.1.1.1, x.1.2.2.1.1.2), (x.1.2.2.1.2.1, x.1.2.2.1.2.2)), ((x.1.2.2.2.1.1, x.1.2.2.2.1.2), (x.1.2.2.2.2.1, x.1.2.2.2.2.2))))), (((((x.2.1.1.1.1.1, x.2.1.1.1.1.2), (x.2.1.1.1.2.1, x.2.1.1.1.2.2)), ((x.2.1.1.2.1.1, x.2.1.1.2.1.2), (x.2.1.1.2.2.1, x.2.1.1.2.2.2))), (((x.2.1.2.1.1.1.set j (bt_at (tm_row H.2.1.1 t) 2), x.2.1.2.1.1.2), (x.2.1.2.1.2.1, x.2.1.2.1.2.2)), ((x.2.1.2.2.1.1, x.2.1.2.2.1.2), (x.2.1.2.2.2.1, x.2.1.2.2.2.2)))), ((((x.2.2.1.1.1.1, x.2.2.1.1.1.2), (x.2.2.1.1.2.1, x.2.2.1.1.2.2)), ((x.2.2.1.2.1.1, x.2.2.1.2.1.2), (x.2.2.1.2.2.1, x.2.2.1.2.2.2))), (((x.2.2.2.1.1.1, x.2.2.2.1.1.2), (x.2.2.2.1.2.1, x.2.2.2.1.2.2)), ((x.2.2.2.2.1.1, x.2.2.2.2.1.2), (x.2.2.2.2.2.1, x.2.2.2.2.2.2)))))) : Fx) := by
        unfold Fx.w3
        rw [set_same hm.se, set_same hm.ag]
      refine ⟨x.w3 j q.2.2.1 q.2.2.2.1 (bt_at (tm_row H.2.1.1 t) 2), y, ?_, (mz_mk_ z.t z.m (z.k.kf rfl) (z.h.w3 hq q.2.2.1 q.2.2.2.1 _) (⟨D, O, hy⟩))⟩
      rw [ex]
      generalize bt_at (tm_row H.2.1.1 t) 2 = tv at *
      simp (disch := (first | omega | decide)) [S_cb_mmade4_0, S_bx_mcan1_0, S_b8_mkey_1, S_b8_mkey_0, S_b1_mterm_0, S_b1_copy_0, S_b0_mod_7, S_b0_mod_6, S_b0_mod_5, S_b0_mod_3, S_b0_mod_2, S_b0_mod_1, S_b0_mod_0, S_cb_mmade4_1h, S_bx_mcan1_1h, S_b0_mod_4h, c340, s340_0, s340_1, s340_4, s340_7, s340_8, s340_11, s340_12, s340_13, s340_16, s340_17, s340_18, s340_20, s340_23, s340_26, s340_27, s340_28, s340_29, s340_32, s340_33, s340_36, s340_37, s340_38, s340_41, s340_42, s340_43, s340_44, s340_47, s340_48, s340_49, s340_50, s340_51, s340_54, s340_55, s340_56, mq_k0s, mq_k1s, mq_k2s, mq_k4s, mq_k5s, mq_k5n, mq_k5as, mq_k6s, mj_pu, mj_lo, mj_br, mj_hr, mj_hw, mq_gf, mq_len, mq_al, mq_pf, mq_ok, mj_re, mq_lkm, mq_lkn, mj_ldi, mj_ldl, mj_lda, mj_ii, mj_ll, mj_li, mj_i1, ms_1, ms_2, f1_n, f1_i, f1_r, f1_u, f1_l, f2_n, f2_i, f2_r, f2_u, f2_l, mj_tg, mj_c1, mj_c2, mj_ar, mj_aw, mq_cb, mq_oi, mj_rm, Value.category, -getElem?_pos, List.getElem?_cons_zero, decide_eq_true, decide_eq_false, nl_lt, nl_le, ln_lt, ln_le, nl_eq, ln_eq, nl_add, ln_add, nl_sub, ln_mul, nI_sub, nI_mul, nI_add, nI_lt_iff, nI_le_iff, nI_inj, nI_num, mq_ix, nI_1, nl_mul, nl_div, rh, l2, l3, hag, h0, rs, rp, rp2, narrow_b1, on1]
    · rw [decide_eq_false hok, if_neg hok]
      refine ⟨x, y, ?_, same⟩
      by_cases h0 : q.2.2.2.1 = 0
      · simp (disch := (first | omega | decide)) [S_cb_mmade4_0, S_bx_mcan1_0, S_b8_mkey_1, S_b8_mkey_0, S_b1_mterm_0, S_b1_copy_0, S_b0_mod_7, S_b0_mod_6, S_b0_mod_5, S_b0_mod_3, S_b0_mod_2, S_b0_mod_1, S_b0_mod_0, S_cb_mmade4_1h, S_bx_mcan1_1h, S_b0_mod_4h, c340, s340_0, s340_1, s340_4, s340_7, s340_8, s340_11, s340_12, s340_13, s340_16, s340_17, s340_18, s340_20, s340_23, s340_26, s340_27, s340_28, s340_29, s340_32, s340_33, s340_36, s340_37, s340_38, s340_41, s340_42, s340_43, s340_44, s340_47, s340_48, s340_49, s340_50, s340_51, s340_54, s340_55, s340_56, mq_k0s, mq_k1s, mq_k2s, mq_k4s, mq_k5s, mq_k5n, mq_k5as, mq_k6s, mj_pu, mj_lo, mj_br, mj_hr, mj_hw, mq_gf, mq_len, mq_al, mq_pf, mq_ok, mj_re, mq_lkm, mq_lkn, mj_ldi, mj_ldl, mj_lda, mj_ii, mj_ll, mj_li, mj_i1, ms_1, ms_2, f1_n, f1_i, f1_r, f1_u, f1_l, f2_n, f2_i, f2_r, f2_u, f2_l, mj_tg, mj_c1, mj_c2, mj_ar, mj_aw, mq_cb, mq_oi, mj_rm, Value.category, -getElem?_pos, List.getElem?_cons_zero, decide_eq_true, decide_eq_false, nl_lt, nl_le, ln_lt, ln_le, nl_eq, ln_eq, nl_add, ln_add, nl_sub, ln_mul, nI_sub, nI_mul, nI_add, nI_lt_iff, nI_le_iff, nI_inj, nI_num, mq_ix, nI_1, nl_mul, nl_div, rh, l2, hag, h0, narrow_b0, on1]
      · by_cases h9 : bt_at (tm_row H.2.1.1 t) 0 = 9
        · have h1 : ¬ bt_at (tm_row H.2.1.1 t) 1 = q.2.2.2.1 := fun w => hok ⟨h0, h9, w⟩
          rw [if_pos h9] at rs
          have hlen := hT8.s9 t h9
          have rp := q_partA (d := d) (B := B) (x := x) hy (t := t) (k := 1) (by omega)
          rw [show nI 1 = (1 : Int32) from rfl] at rp
          generalize bt_at (tm_row H.2.1.1 t) 1 = tv at *
          simp (disch := (first | omega | decide)) [S_cb_mmade4_0, S_bx_mcan1_0, S_b8_mkey_1, S_b8_mkey_0, S_b1_mterm_0, S_b1_copy_0, S_b0_mod_7, S_b0_mod_6, S_b0_mod_5, S_b0_mod_3, S_b0_mod_2, S_b0_mod_1, S_b0_mod_0, S_cb_mmade4_1h, S_bx_mcan1_1h, S_b0_mod_4h, c340, s340_0, s340_1, s340_4, s340_7, s340_8, s340_11, s340_12, s340_13, s340_16, s340_17, s340_18, s340_20, s340_23, s340_26, s340_27, s340_28, s340_29, s340_32, s340_33, s340_36, s340_37, s340_38, s340_41, s340_42, s340_43, s340_44, s340_47, s340_48, s340_49, s340_50, s340_51, s340_54, s340_55, s340_56, mq_k0s, mq_k1s, mq_k2s, mq_k4s, mq_k5s, mq_k5n, mq_k5as, mq_k6s, mj_pu, mj_lo, mj_br, mj_hr, mj_hw, mq_gf, mq_len, mq_al, mq_pf, mq_ok, mj_re, mq_lkm, mq_lkn, mj_ldi, mj_ldl, mj_lda, mj_ii, mj_ll, mj_li, mj_i1, ms_1, ms_2, f1_n, f1_i, f1_r, f1_u, f1_l, f2_n, f2_i, f2_r, f2_u, f2_l, mj_tg, mj_c1, mj_c2, mj_ar, mj_aw, mq_cb, mq_oi, mj_rm, Value.category, -getElem?_pos, List.getElem?_cons_zero, decide_eq_true, decide_eq_false, nl_lt, nl_le, ln_lt, ln_le, nl_eq, ln_eq, nl_add, ln_add, nl_sub, ln_mul, nI_sub, nI_mul, nI_add, nI_lt_iff, nI_le_iff, nI_inj, nI_num, mq_ix, nI_1, nl_mul, nl_div, rh, l2, hag, h0, rs, rp, h1, narrow_b0, on1]
        · rw [if_neg h9] at rs
          simp (disch := (first | omega | decide)) [S_cb_mmade4_0, S_bx_mcan1_0, S_b8_mkey_1, S_b8_mkey_0, S_b1_mterm_0, S_b1_copy_0, S_b0_mod_7, S_b0_mod_6, S_b0_mod_5, S_b0_mod_3, S_b0_mod_2, S_b0_mod_1, S_b0_mod_0, S_cb_mmade4_1h, S_bx_mcan1_1h, S_b0_mod_4h, c340, s340_0, s340_1, s340_4, s340_7, s340_8, s340_11, s340_12, s340_13, s340_16, s340_17, s340_18, s340_20, s340_23, s340_26, s340_27, s340_28, s340_29, s340_32, s340_33, s340_36, s340_37, s340_38, s340_41, s340_42, s340_43, s340_44, s340_47, s340_48, s340_49, s340_50, s340_51, s340_54, s340_55, s340_56, mq_k0s, mq_k1s, mq_k2s, mq_k4s, mq_k5s, mq_k5n, mq_k5as, mq_k6s, mj_pu, mj_lo, mj_br, mj_hr, mj_hw, mq_gf, mq_len, mq_al, mq_pf, mq_ok, mj_re, mq_lkm, mq_lkn, mj_ldi, mj_ldl, mj_lda, mj_ii, mj_ll, mj_li, mj_i1, ms_1, ms_2, f1_n, f1_i, f1_r, f1_u, f1_l, f2_n, f2_i, f2_r, f2_u, f2_l, mj_tg, mj_c1, mj_c2, mj_ar, mj_aw, mq_cb, mq_oi, mj_rm, Value.category, -getElem?_pos, List.getElem?_cons_zero, decide_eq_true, decide_eq_false, nl_lt, nl_le, ln_lt, ln_le, nl_eq, ln_eq, nl_add, ln_add, nl_sub, ln_mul, nI_sub, nI_mul, nI_add, nI_lt_iff, nI_le_iff, nI_inj, nI_num, mq_ix, nI_1, nl_mul, nl_div, rh, l2, hag, h0, rs, narrow_b0, on1]
theorem o_open (z : mz x y H) (i t : Int32) (hT8 : tk8 H.2.1) (h4 : ∀ t, bt_at (tm_row H.2.1.1 t) 0 = 4 → (tm_row H.2.1.1 t).length ≤ 402) : oR (d + 2) 339 [.ref 67, .int i, .int t] B x y (ho_open H i t) := by
  have rh := q_isHand (d := d) (M := mm B x y) i
  unfold ho_open
  cases hi : ix i 4 with
  | none =>
    rw [hi] at rh
    simp only [on1, Option.isSome_none, Bool.false_eq_true, if_false] at rh
    refine ⟨x, y, ?_, z⟩
    simp (disch := (first | omega | decide)) [S_cb_mmade4_0, S_bx_mcan1_0, S_b8_mkey_1, S_b8_mkey_0, S_b1_mterm_0, S_b1_copy_0, S_b0_mod_7, S_b0_mod_6, S_b0_mod_5, S_b0_mod_3, S_b0_mod_2, S_b0_mod_1, S_b0_mod_0, S_cb_mmade4_1h, S_bx_mcan1_1h, S_b0_mod_4h, c339, s339_0, s339_1, s339_4, s339_7, s339_8, s339_11, s339_12, s339_13, s339_16, s339_17, s339_18, s339_19, s339_22, s339_25, s339_26, s339_27, s339_28, s339_31, s339_32, s339_35, s339_36, s339_37, s339_40, s339_41, s339_42, s339_43, s339_44, s339_47, s339_48, s339_49, s339_50, s339_51, s339_52, s339_55, s339_56, s339_57, s339_58, s339_59, s339_60, s339_63, s339_64, s339_67, s339_68, s339_71, s339_72, s339_73, s339_74, s339_75, s339_76, s339_79, s339_80, s339_81, s339_84, s339_87, s339_88, s339_91, mq_k0s, mq_k1s, mq_k2s, mq_k4s, mq_k5s, mq_k5n, mq_k5as, mq_k6s, mj_pu, mj_lo, mj_br, mj_hr, mj_hw, mq_gf, mq_len, mq_al, mq_pf, mq_ok, mj_re, mq_lkm, mq_lkn, mj_ldi, mj_ldl, mj_lda, mj_ii, mj_ll, mj_li, mj_i1, ms_1, ms_2, f1_n, f1_i, f1_r, f1_u, f1_l, f2_n, f2_i, f2_r, f2_u, f2_l, mj_tg, mj_c1, mj_c2, mj_ar, mj_aw, mq_cb, mq_oi, mj_rm, Value.category, -getElem?_pos, List.getElem?_cons_zero, decide_eq_true, decide_eq_false, nl_lt, nl_le, ln_lt, ln_le, nl_eq, ln_eq, nl_add, ln_add, nl_sub, ln_mul, nI_sub, nI_mul, nI_add, nI_lt_iff, nI_le_iff, nI_inj, nI_num, mq_ix, nI_1, nl_mul, nl_div, rh, narrow]
  | some j =>
    rw [hi] at rh
    simp only [on1, Option.isSome_some, if_true] at rh
    obtain ⟨q, hq, rfl, hj, hm⟩ := hand_at z hi
    dsimp only
    rw [hq]
    dsimp only
    obtain ⟨D, O, hy⟩ := z.y
    have rs := q_isSort (d := d) (B := B) (x := x) hy t (s := 4) (by decide)
    have l2 := z.h.l.agreed
    have hag := hm.ag
    by_cases h0 : q.2.2.2.1 = 0
    · rw [if_neg (fun w => w.1 h0)]
      refine ⟨x, y, ?_, z⟩
      simp (disch := (first | omega | decide)) [S_cb_mmade4_0, S_bx_mcan1_0, S_b8_mkey_1, S_b8_mkey_0, S_b1_mterm_0, S_b1_copy_0, S_b0_mod_7, S_b0_mod_6, S_b0_mod_5, S_b0_mod_3, S_b0_mod_2, S_b0_mod_1, S_b0_mod_0, S_cb_mmade4_1h, S_bx_mcan1_1h, S_b0_mod_4h, c339, s339_0, s339_1, s339_4, s339_7, s339_8, s339_11, s339_12, s339_13, s339_16, s339_17, s339_18, s339_19, s339_22, s339_25, s339_26, s339_27, s339_28, s339_31, s339_32, s339_35, s339_36, s339_37, s339_40, s339_41, s339_42, s339_43, s339_44, s339_47, s339_48, s339_49, s339_50, s339_51, s339_52, s339_55, s339_56, s339_57, s339_58, s339_59, s339_60, s339_63, s339_64, s339_67, s339_68, s339_71, s339_72, s339_73, s339_74, s339_75, s339_76, s339_79, s339_80, s339_81, s339_84, s339_87, s339_88, s339_91, mq_k0s, mq_k1s, mq_k2s, mq_k4s, mq_k5s, mq_k5n, mq_k5as, mq_k6s, mj_pu, mj_lo, mj_br, mj_hr, mj_hw, mq_gf, mq_len, mq_al, mq_pf, mq_ok, mj_re, mq_lkm, mq_lkn, mj_ldi, mj_ldl, mj_lda, mj_ii, mj_ll, mj_li, mj_i1, ms_1, ms_2, f1_n, f1_i, f1_r, f1_u, f1_l, f2_n, f2_i, f2_r, f2_u, f2_l, mj_tg, mj_c1, mj_c2, mj_ar, mj_aw, mq_cb, mq_oi, mj_rm, Value.category, -getElem?_pos, List.getElem?_cons_zero, decide_eq_true, decide_eq_false, nl_lt, nl_le, ln_lt, ln_le, nl_eq, ln_eq, nl_add, ln_add, nl_sub, ln_mul, nI_sub, nI_mul, nI_add, nI_lt_iff, nI_le_iff, nI_inj, nI_num, mq_ix, nI_1, nl_mul, nl_div, rh, l2, hag, h0, narrow]
    · by_cases h9 : bt_at (tm_row H.2.1.1 t) 0 = 4
      · rw [if_pos h9] at rs
        have hlen := hT8.e4 t h9
        have rp := q_partA (d := d) (B := B) (x := x) hy (t := t) (k := 1) (by omega)
        rw [show nI 1 = (1 : Int32) from rfl] at rp
        by_cases h1 : bt_at (tm_row H.2.1.1 t) 1 = q.2.2.2.1
        · rw [if_pos ⟨h0, h9, h1⟩]
          rw [h1] at rp
          have h402 := h4 t h9
          obtain ⟨k, hk, rfl, hrow⟩ := rowI hy h9 (by decide)
          have few := hy.t.few
          have hsl := hy.t.sl
          have hpl := hy.t.pl
          have heb := hy.eb k
          have s1 := hy.t.st k (by omega)
          have s2 := hy.t.st (k + 1) (by omega)
          have hes := tm_end_s hk
          rw [hes] at s2
          have heb2 := hy.eb (k + 1)
          rw [hes] at heb2
          rw [hrow] at hlen h402 ⊢
          have hslc := hy.slice hk hlen
          have hdl : (H.2.1.1[k].drop 2).length = H.2.1.1[k].length - 2 := List.length_drop ..
          rw [hdl]
          have htl : x.1.1.1.2.1.1.length = 400 := by obtain ⟨g, -, hl⟩ := z.t.1; exact hl
          have htq : tq 400 (cpy x.1.1.1.2.1.1 0 y.1.2.1.1.2 (tm_end H.2.1.1 k + 2) (H.2.1.1[k].length - 2)) (H.2.1.1[k].drop 2) := by
            rw [cpy_spl (by omega), hslc, ← htl]
            exact tq.of rfl (by omega)
          have zt := z.wt htq
          rw [hdl] at zt
          refine ⟨_, y, ?_, zt⟩
          have e1 : nI (tm_end H.2.1.1 k + H.2.1.1[k].length) - nI (tm_end H.2.1.1 k) - 2 = nI (H.2.1.1[k].length - 2) := by
            rw [nI_sub (by omega), nl_sub (by omega)]
            congr 1
            omega
          dsimp only
          generalize H.2.1.1[k].length = rl at *
          simp (disch := (first | omega | decide)) [S_cb_mmade4_0, S_bx_mcan1_0, S_b8_mkey_1, S_b8_mkey_0, S_b1_mterm_0, S_b1_copy_0, S_b0_mod_7, S_b0_mod_6, S_b0_mod_5, S_b0_mod_3, S_b0_mod_2, S_b0_mod_1, S_b0_mod_0, S_cb_mmade4_1h, S_bx_mcan1_1h, S_b0_mod_4h, c339, s339_0, s339_1, s339_4, s339_7, s339_8, s339_11, s339_12, s339_13, s339_16, s339_17, s339_18, s339_19, s339_22, s339_25, s339_26, s339_27, s339_28, s339_31, s339_32, s339_35, s339_36, s339_37, s339_40, s339_41, s339_42, s339_43, s339_44, s339_47, s339_48, s339_49, s339_50, s339_51, s339_52, s339_55, s339_56, s339_57, s339_58, s339_59, s339_60, s339_63, s339_64, s339_67, s339_68, s339_71, s339_72, s339_73, s339_74, s339_75, s339_76, s339_79, s339_80, s339_81, s339_84, s339_87, s339_88, s339_91, mq_k0s, mq_k1s, mq_k2s, mq_k4s, mq_k5s, mq_k5n, mq_k5as, mq_k6s, mj_pu, mj_lo, mj_br, mj_hr, mj_hw, mq_gf, mq_len, mq_al, mq_pf, mq_ok, mj_re, mq_lkm, mq_lkn, mj_ldi, mj_ldl, mj_lda, mj_ii, mj_ll, mj_li, mj_i1, ms_1, ms_2, f1_n, f1_i, f1_r, f1_u, f1_l, f2_n, f2_i, f2_r, f2_u, f2_l, mj_tg, mj_c1, mj_c2, mj_ar, mj_aw, mq_cb, mq_oi, mj_rm, Value.category, -getElem?_pos, List.getElem?_cons_zero, decide_eq_true, decide_eq_false, nl_lt, nl_le, ln_lt, ln_le, nl_eq, ln_eq, nl_add, ln_add, nl_sub, ln_mul, nI_sub, nI_mul, nI_add, nI_lt_iff, nI_le_iff, nI_inj, nI_num, mq_ix, nI_1, nl_mul, nl_div, rh, l2, hag, h0, rs, rp, hsl, s1, s2, e1, hpl, htl, narrow, Fx.wt]
        · rw [if_neg (fun w => h1 w.2.2)]
          refine ⟨x, y, ?_, z⟩
          generalize bt_at (tm_row H.2.1.1 t) 1 = tv at *
          simp (disch := (first | omega | decide)) [S_cb_mmade4_0, S_bx_mcan1_0, S_b8_mkey_1, S_b8_mkey_0, S_b1_mterm_0, S_b1_copy_0, S_b0_mod_7, S_b0_mod_6, S_b0_mod_5, S_b0_mod_3, S_b0_mod_2, S_b0_mod_1, S_b0_mod_0, S_cb_mmade4_1h, S_bx_mcan1_1h, S_b0_mod_4h, c339, s339_0, s339_1, s339_4, s339_7, s339_8, s339_11, s339_12, s339_13, s339_16, s339_17, s339_18, s339_19, s339_22, s339_25, s339_26, s339_27, s339_28, s339_31, s339_32, s339_35, s339_36, s339_37, s339_40, s339_41, s339_42, s339_43, s339_44, s339_47, s339_48, s339_49, s339_50, s339_51, s339_52, s339_55, s339_56, s339_57, s339_58, s339_59, s339_60, s339_63, s339_64, s339_67, s339_68, s339_71, s339_72, s339_73, s339_74, s339_75, s339_76, s339_79, s339_80, s339_81, s339_84, s339_87, s339_88, s339_91, mq_k0s, mq_k1s, mq_k2s, mq_k4s, mq_k5s, mq_k5n, mq_k5as, mq_k6s, mj_pu, mj_lo, mj_br, mj_hr, mj_hw, mq_gf, mq_len, mq_al, mq_pf, mq_ok, mj_re, mq_lkm, mq_lkn, mj_ldi, mj_ldl, mj_lda, mj_ii, mj_ll, mj_li, mj_i1, ms_1, ms_2, f1_n, f1_i, f1_r, f1_u, f1_l, f2_n, f2_i, f2_r, f2_u, f2_l, mj_tg, mj_c1, mj_c2, mj_ar, mj_aw, mq_cb, mq_oi, mj_rm, Value.category, -getElem?_pos, List.getElem?_cons_zero, decide_eq_true, decide_eq_false, nl_lt, nl_le, ln_lt, ln_le, nl_eq, ln_eq, nl_add, ln_add, nl_sub, ln_mul, nI_sub, nI_mul, nI_add, nI_lt_iff, nI_le_iff, nI_inj, nI_num, mq_ix, nI_1, nl_mul, nl_div, rh, l2, hag, h0, rs, rp, h1, narrow]
      · rw [if_neg (fun w => h9 w.2.1)]
        rw [if_neg h9] at rs
        refine ⟨x, y, ?_, z⟩
        simp (disch := (first | omega | decide)) [S_cb_mmade4_0, S_bx_mcan1_0, S_b8_mkey_1, S_b8_mkey_0, S_b1_mterm_0, S_b1_copy_0, S_b0_mod_7, S_b0_mod_6, S_b0_mod_5, S_b0_mod_3, S_b0_mod_2, S_b0_mod_1, S_b0_mod_0, S_cb_mmade4_1h, S_bx_mcan1_1h, S_b0_mod_4h, c339, s339_0, s339_1, s339_4, s339_7, s339_8, s339_11, s339_12, s339_13, s339_16, s339_17, s339_18, s339_19, s339_22, s339_25, s339_26, s339_27, s339_28, s339_31, s339_32, s339_35, s339_36, s339_37, s339_40, s339_41, s339_42, s339_43, s339_44, s339_47, s339_48, s339_49, s339_50, s339_51, s339_52, s339_55, s339_56, s339_57, s339_58, s339_59, s339_60, s339_63, s339_64, s339_67, s339_68, s339_71, s339_72, s339_73, s339_74, s339_75, s339_76, s339_79, s339_80, s339_81, s339_84, s339_87, s339_88, s339_91, mq_k0s, mq_k1s, mq_k2s, mq_k4s, mq_k5s, mq_k5n, mq_k5as, mq_k6s, mj_pu, mj_lo, mj_br, mj_hr, mj_hw, mq_gf, mq_len, mq_al, mq_pf, mq_ok, mj_re, mq_lkm, mq_lkn, mj_ldi, mj_ldl, mj_lda, mj_ii, mj_ll, mj_li, mj_i1, ms_1, ms_2, f1_n, f1_i, f1_r, f1_u, f1_l, f2_n, f2_i, f2_r, f2_u, f2_l, mj_tg, mj_c1, mj_c2, mj_ar, mj_aw, mq_cb, mq_oi, mj_rm, Value.category, -getElem?_pos, List.getElem?_cons_zero, decide_eq_true, decide_eq_false, nl_lt, nl_le, ln_lt, ln_le, nl_eq, ln_eq, nl_add, ln_add, nl_sub, ln_mul, nI_sub, nI_mul, nI_add, nI_lt_iff, nI_le_iff, nI_inj, nI_num, mq_ix, nI_1, nl_mul, nl_div, rh, l2, hag, h0, rs, narrow]
theorem o_pin (z : mz x y H) (i n : Int32) : oR (d + 2) 341 [.ref 67, .int i, .int n] B x y (ho_pin H i n) := by
  have rh := q_isHand (d := d) (M := mm B x y) i
  have hle := z.t.1.le
  have hsz := z.t.2
  unfold ho_pin
  cases hi : ix i 4 with
  | none =>
    rw [hi] at rh
    simp only [on1, Option.isSome_none, Bool.false_eq_true, if_false] at rh
    refine ⟨x, y, ?_, z⟩
    simp (disch := (first | omega | decide)) [S_cb_mmade4_0, S_bx_mcan1_0, S_b8_mkey_1, S_b8_mkey_0, S_b1_mterm_0, S_b1_copy_0, S_b0_mod_7, S_b0_mod_6, S_b0_mod_5, S_b0_mod_3, S_b0_mod_2, S_b0_mod_1, S_b0_mod_0, S_cb_mmade4_1h, S_bx_mcan1_1h, S_b0_mod_4h, c341, s341_0, s341_1, s341_4, s341_7, s341_8, s341_11, s341_12, s341_14, s341_17, s341_18, s341_19, s341_22, s341_25, s341_26, s341_27, s341_28, s341_31, s341_32, s341_33, s341_36, s341_38, s341_39, s341_40, s341_41, s341_44, s341_45, s341_48, s341_49, s341_50, s341_51, s341_52, mq_k0s, mq_k1s, mq_k2s, mq_k4s, mq_k5s, mq_k5n, mq_k5as, mq_k6s, mj_pu, mj_lo, mj_br, mj_hr, mj_hw, mq_gf, mq_len, mq_al, mq_pf, mq_ok, mj_re, mq_lkm, mq_lkn, mj_ldi, mj_ldl, mj_lda, mj_ii, mj_ll, mj_li, mj_i1, ms_1, ms_2, f1_n, f1_i, f1_r, f1_u, f1_l, f2_n, f2_i, f2_r, f2_u, f2_l, mj_tg, mj_c1, mj_c2, mj_ar, mj_aw, mq_cb, mq_oi, mj_rm, Value.category, -getElem?_pos, List.getElem?_cons_zero, decide_eq_true, decide_eq_false, nl_lt, nl_le, ln_lt, ln_le, nl_eq, ln_eq, nl_add, ln_add, nl_sub, ln_mul, nI_sub, nI_mul, nI_add, nI_lt_iff, nI_le_iff, nI_inj, nI_num, mq_ix, nI_1, nl_mul, nl_div, rh, narrow_b0]
  | some j =>
    rw [hi] at rh
    simp only [on1, Option.isSome_some, if_true] at rh
    obtain ⟨q, hq, rfl, hj, hm⟩ := hand_at z hi
    dsimp only
    rw [hq]
    dsimp only
    by_cases c : inR n 0 12 = true
    · obtain ⟨k, rfl, -, hk, hc⟩ := inR_nI (a := 0) (b := 12) c (by decide) (by decide)
      rw [hc]
      by_cases hkt : k ≤ H.1.length
      · rw [if_pos ⟨c, hkt⟩]
        have htl : x.1.1.1.2.1.1.length = 400 := by obtain ⟨g, -, hl⟩ := z.t.1; exact hl
        have hty := z.h.l.typed
        have htL := z.h.l.typedLong
        have e2 : (x.1.1.1.2.1.1.drop 0).take k = H.1.take k := by rw [z.t.1.sub (q := 0) (by omega), List.drop_zero]
        have hl : (H.1.take k).length = k := by rw [List.length_take]; omega
        have hcp : cpy x.2.1.2.1.1.2 (12 * j) x.1.1.1.2.1.1 0 k = spl x.2.1.2.1.1.2 (12 * j) (H.1.take k) := by rw [cpy_spl (by omega), e2]
        have hz := z.h.wpn hq (s := H.1.take k) (by omega)
        rw [hl] at hz
        refine ⟨x.wpn j (spl x.2.1.2.1.1.2 (12 * j) (H.1.take k)) k, y, ?_, (mz_mk_ z.t z.m (z.k.kf rfl) hz z.y)⟩
        simp (disch := (first | omega | decide)) [S_cb_mmade4_0, S_bx_mcan1_0, S_b8_mkey_1, S_b8_mkey_0, S_b1_mterm_0, S_b1_copy_0, S_b0_mod_7, S_b0_mod_6, S_b0_mod_5, S_b0_mod_3, S_b0_mod_2, S_b0_mod_1, S_b0_mod_0, S_cb_mmade4_1h, S_bx_mcan1_1h, S_b0_mod_4h, c341, s341_0, s341_1, s341_4, s341_7, s341_8, s341_11, s341_12, s341_14, s341_17, s341_18, s341_19, s341_22, s341_25, s341_26, s341_27, s341_28, s341_31, s341_32, s341_33, s341_36, s341_38, s341_39, s341_40, s341_41, s341_44, s341_45, s341_48, s341_49, s341_50, s341_51, s341_52, mq_k0s, mq_k1s, mq_k2s, mq_k4s, mq_k5s, mq_k5n, mq_k5as, mq_k6s, mj_pu, mj_lo, mj_br, mj_hr, mj_hw, mq_gf, mq_len, mq_al, mq_pf, mq_ok, mj_re, mq_lkm, mq_lkn, mj_ldi, mj_ldl, mj_lda, mj_ii, mj_ll, mj_li, mj_i1, ms_1, ms_2, f1_n, f1_i, f1_r, f1_u, f1_l, f2_n, f2_i, f2_r, f2_u, f2_l, mj_tg, mj_c1, mj_c2, mj_ar, mj_aw, mq_cb, mq_oi, mj_rm, Value.category, -getElem?_pos, List.getElem?_cons_zero, decide_eq_true, decide_eq_false, nl_lt, nl_le, ln_lt, ln_le, nl_eq, ln_eq, nl_add, ln_add, nl_sub, ln_mul, nI_sub, nI_mul, nI_add, nI_lt_iff, nI_le_iff, nI_inj, nI_num, mq_ix, nI_1, nl_mul, nl_div, rh, hsz, nI_pos (show k < 2 ^ 31 by omega), show ¬ 12 < k by omega, hkt, htl, hty, htL, hcp, narrow_b1, Fx.wpn]
      · rw [if_neg (fun w => hkt w.2)]
        refine ⟨x, y, ?_, z⟩
        simp (disch := (first | omega | decide)) [S_cb_mmade4_0, S_bx_mcan1_0, S_b8_mkey_1, S_b8_mkey_0, S_b1_mterm_0, S_b1_copy_0, S_b0_mod_7, S_b0_mod_6, S_b0_mod_5, S_b0_mod_3, S_b0_mod_2, S_b0_mod_1, S_b0_mod_0, S_cb_mmade4_1h, S_bx_mcan1_1h, S_b0_mod_4h, c341, s341_0, s341_1, s341_4, s341_7, s341_8, s341_11, s341_12, s341_14, s341_17, s341_18, s341_19, s341_22, s341_25, s341_26, s341_27, s341_28, s341_31, s341_32, s341_33, s341_36, s341_38, s341_39, s341_40, s341_41, s341_44, s341_45, s341_48, s341_49, s341_50, s341_51, s341_52, mq_k0s, mq_k1s, mq_k2s, mq_k4s, mq_k5s, mq_k5n, mq_k5as, mq_k6s, mj_pu, mj_lo, mj_br, mj_hr, mj_hw, mq_gf, mq_len, mq_al, mq_pf, mq_ok, mj_re, mq_lkm, mq_lkn, mj_ldi, mj_ldl, mj_lda, mj_ii, mj_ll, mj_li, mj_i1, ms_1, ms_2, f1_n, f1_i, f1_r, f1_u, f1_l, f2_n, f2_i, f2_r, f2_u, f2_l, mj_tg, mj_c1, mj_c2, mj_ar, mj_aw, mq_cb, mq_oi, mj_rm, Value.category, -getElem?_pos, List.getElem?_cons_zero, decide_eq_true, decide_eq_false, nl_lt, nl_le, ln_lt, ln_le, nl_eq, ln_eq, nl_add, ln_add, nl_sub, ln_mul, nI_sub, nI_mul, nI_add, nI_lt_iff, nI_le_iff, nI_inj, nI_num, mq_ix, nI_1, nl_mul, nl_div, rh, hsz, nI_pos (show k < 2 ^ 31 by omega), show ¬ 12 < k by omega, hkt, narrow_b0]
    · rw [if_neg (fun w => c w.1)]
      refine ⟨x, y, ?_, z⟩
      by_cases h0 : n < 0
      · simp (disch := (first | omega | decide)) [S_cb_mmade4_0, S_bx_mcan1_0, S_b8_mkey_1, S_b8_mkey_0, S_b1_mterm_0, S_b1_copy_0, S_b0_mod_7, S_b0_mod_6, S_b0_mod_5, S_b0_mod_3, S_b0_mod_2, S_b0_mod_1, S_b0_mod_0, S_cb_mmade4_1h, S_bx_mcan1_1h, S_b0_mod_4h, c341, s341_0, s341_1, s341_4, s341_7, s341_8, s341_11, s341_12, s341_14, s341_17, s341_18, s341_19, s341_22, s341_25, s341_26, s341_27, s341_28, s341_31, s341_32, s341_33, s341_36, s341_38, s341_39, s341_40, s341_41, s341_44, s341_45, s341_48, s341_49, s341_50, s341_51, s341_52, mq_k0s, mq_k1s, mq_k2s, mq_k4s, mq_k5s, mq_k5n, mq_k5as, mq_k6s, mj_pu, mj_lo, mj_br, mj_hr, mj_hw, mq_gf, mq_len, mq_al, mq_pf, mq_ok, mj_re, mq_lkm, mq_lkn, mj_ldi, mj_ldl, mj_lda, mj_ii, mj_ll, mj_li, mj_i1, ms_1, ms_2, f1_n, f1_i, f1_r, f1_u, f1_l, f2_n, f2_i, f2_r, f2_u, f2_l, mj_tg, mj_c1, mj_c2, mj_ar, mj_aw, mq_cb, mq_oi, mj_rm, Value.category, -getElem?_pos, List.getElem?_cons_zero, decide_eq_true, decide_eq_false, nl_lt, nl_le, ln_lt, ln_le, nl_eq, ln_eq, nl_add, ln_add, nl_sub, ln_mul, nI_sub, nI_mul, nI_add, nI_lt_iff, nI_le_iff, nI_inj, nI_num, mq_ix, nI_1, nl_mul, nl_div, rh, h0, narrow_b0]
      · have h12 : (12 : Int32) < n := by
          apply Decidable.byContradiction
          intro w
          apply c
          unfold inR
          rw [decide_eq_true ((lt_or 0 n).mpr h0), decide_eq_true ((lt_or n 12).mpr w)]
          rfl
        simp (disch := (first | omega | decide)) [S_cb_mmade4_0, S_bx_mcan1_0, S_b8_mkey_1, S_b8_mkey_0, S_b1_mterm_0, S_b1_copy_0, S_b0_mod_7, S_b0_mod_6, S_b0_mod_5, S_b0_mod_3, S_b0_mod_2, S_b0_mod_1, S_b0_mod_0, S_cb_mmade4_1h, S_bx_mcan1_1h, S_b0_mod_4h, c341, s341_0, s341_1, s341_4, s341_7, s341_8, s341_11, s341_12, s341_14, s341_17, s341_18, s341_19, s341_22, s341_25, s341_26, s341_27, s341_28, s341_31, s341_32, s341_33, s341_36, s341_38, s341_39, s341_40, s341_41, s341_44, s341_45, s341_48, s341_49, s341_50, s341_51, s341_52, mq_k0s, mq_k1s, mq_k2s, mq_k4s, mq_k5s, mq_k5n, mq_k5as, mq_k6s, mj_pu, mj_lo, mj_br, mj_hr, mj_hw, mq_gf, mq_len, mq_al, mq_pf, mq_ok, mj_re, mq_lkm, mq_lkn, mj_ldi, mj_ldl, mj_lda, mj_ii, mj_ll, mj_li, mj_i1, ms_1, ms_2, f1_n, f1_i, f1_r, f1_u, f1_l, f2_n, f2_i, f2_r, f2_u, f2_l, mj_tg, mj_c1, mj_c2, mj_ar, mj_aw, mq_cb, mq_oi, mj_rm, Value.category, -getElem?_pos, List.getElem?_cons_zero, decide_eq_true, decide_eq_false, nl_lt, nl_le, ln_lt, ln_le, nl_eq, ln_eq, nl_add, ln_add, nl_sub, ln_mul, nI_sub, nI_mul, nI_add, nI_lt_iff, nI_le_iff, nI_inj, nI_num, mq_ix, nI_1, nl_mul, nl_div, rh, h0, h12, narrow_b0]
theorem o_page (z : mz x y H) (i n : Int32) : oR (d + 2) 342 [.ref 67, .int i, .int n] B x y (ho_page H i n) := by
  have rh := q_isHand (d := d) (M := mm B x y) i
  have hle := z.t.1.le
  have hsz := z.t.2
  unfold ho_page
  cases hi : ix i 4 with
  | none =>
    rw [hi] at rh
    simp only [on1, Option.isSome_none, Bool.false_eq_true, if_false] at rh
    refine ⟨x, y, ?_, z⟩
    simp (disch := (first | omega | decide)) [S_cb_mmade4_0, S_bx_mcan1_0, S_b8_mkey_1, S_b8_mkey_0, S_b1_mterm_0, S_b1_copy_0, S_b0_mod_7, S_b0_mod_6, S_b0_mod_5, S_b0_mod_3, S_b0_mod_2, S_b0_mod_1, S_b0_mod_0, S_cb_mmade4_1h, S_bx_mcan1_1h, S_b0_mod_4h, c342, s342_0, s342_1, s342_4, s342_7, s342_8, s342_11, s342_12, s342_14, s342_17, s342_18, s342_19, s342_22, s342_25, s342_26, s342_27, s342_28, s342_31, s342_32, s342_33, s342_36, s342_38, s342_39, s342_40, s342_41, s342_44, s342_45, s342_48, s342_49, s342_50, s342_51, s342_52, mq_k0s, mq_k1s, mq_k2s, mq_k4s, mq_k5s, mq_k5n, mq_k5as, mq_k6s, mj_pu, mj_lo, mj_br, mj_hr, mj_hw, mq_gf, mq_len, mq_al, mq_pf, mq_ok, mj_re, mq_lkm, mq_lkn, mj_ldi, mj_ldl, mj_lda, mj_ii, mj_ll, mj_li, mj_i1, ms_1, ms_2, f1_n, f1_i, f1_r, f1_u, f1_l, f2_n, f2_i, f2_r, f2_u, f2_l, mj_tg, mj_c1, mj_c2, mj_ar, mj_aw, mq_cb, mq_oi, mj_rm, Value.category, -getElem?_pos, List.getElem?_cons_zero, decide_eq_true, decide_eq_false, nl_lt, nl_le, ln_lt, ln_le, nl_eq, ln_eq, nl_add, ln_add, nl_sub, ln_mul, nI_sub, nI_mul, nI_add, nI_lt_iff, nI_le_iff, nI_inj, nI_num, mq_ix, nI_1, nl_mul, nl_div, rh, narrow_b0]
  | some j =>
    rw [hi] at rh
    simp only [on1, Option.isSome_some, if_true] at rh
    obtain ⟨q, hq, rfl, hj, hm⟩ := hand_at z hi
    dsimp only
    rw [hq]
    dsimp only
    by_cases c : inR n 0 40 = true
    · obtain ⟨k, rfl, -, hk, hc⟩ := inR_nI (a := 0) (b := 40) c (by decide) (by decide)
      rw [hc]
      by_cases hkt : k ≤ H.1.length
      · rw [if_pos ⟨c, hkt⟩]
        have htl : x.1.1.1.2.1.1.length = 400 := by obtain ⟨g, -, hl⟩ := z.t.1; exact hl
        have hty := z.h.l.pages
        have htL := z.h.l.pageLong
        have e2 : (x.1.1.1.2.1.1.drop 0).take k = H.1.take k := by rw [z.t.1.sub (q := 0) (by omega), List.drop_zero]
        have hl : (H.1.take k).length = k := by rw [List.length_take]; omega
        have hcp : cpy x.2.1.2.1.2.2 (40 * j) x.1.1.1.2.1.1 0 k = spl x.2.1.2.1.2.2 (40 * j) (H.1.take k) := by rw [cpy_spl (by omega), e2]
        have hz := z.h.wpg hq (s := H.1.take k) (by omega)
        rw [hl] at hz
        refine ⟨x.wpg j (spl x.2.1.2.1.2.2 (40 * j) (H.1.take k)) k, y, ?_, (mz_mk_ z.t z.m (z.k.kf rfl) hz z.y)⟩
        simp (disch := (first | omega | decide)) [S_cb_mmade4_0, S_bx_mcan1_0, S_b8_mkey_1, S_b8_mkey_0, S_b1_mterm_0, S_b1_copy_0, S_b0_mod_7, S_b0_mod_6, S_b0_mod_5, S_b0_mod_3, S_b0_mod_2, S_b0_mod_1, S_b0_mod_0, S_cb_mmade4_1h, S_bx_mcan1_1h, S_b0_mod_4h, c342, s342_0, s342_1, s342_4, s342_7, s342_8, s342_11, s342_12, s342_14, s342_17, s342_18, s342_19, s342_22, s342_25, s342_26, s342_27, s342_28, s342_31, s342_32, s342_33, s342_36, s342_38, s342_39, s342_40, s342_41, s342_44, s342_45, s342_48, s342_49, s342_50, s342_51, s342_52, mq_k0s, mq_k1s, mq_k2s, mq_k4s, mq_k5s, mq_k5n, mq_k5as, mq_k6s, mj_pu, mj_lo, mj_br, mj_hr, mj_hw, mq_gf, mq_len, mq_al, mq_pf, mq_ok, mj_re, mq_lkm, mq_lkn, mj_ldi, mj_ldl, mj_lda, mj_ii, mj_ll, mj_li, mj_i1, ms_1, ms_2, f1_n, f1_i, f1_r, f1_u, f1_l, f2_n, f2_i, f2_r, f2_u, f2_l, mj_tg, mj_c1, mj_c2, mj_ar, mj_aw, mq_cb, mq_oi, mj_rm, Value.category, -getElem?_pos, List.getElem?_cons_zero, decide_eq_true, decide_eq_false, nl_lt, nl_le, ln_lt, ln_le, nl_eq, ln_eq, nl_add, ln_add, nl_sub, ln_mul, nI_sub, nI_mul, nI_add, nI_lt_iff, nI_le_iff, nI_inj, nI_num, mq_ix, nI_1, nl_mul, nl_div, rh, hsz, nI_pos (show k < 2 ^ 31 by omega), show ¬ 40 < k by omega, hkt, htl, hty, htL, hcp, narrow_b1, Fx.wpg]
      · rw [if_neg (fun w => hkt w.2)]
        refine ⟨x, y, ?_, z⟩
        simp (disch := (first | omega | decide)) [S_cb_mmade4_0, S_bx_mcan1_0, S_b8_mkey_1, S_b8_mkey_0, S_b1_mterm_0, S_b1_copy_0, S_b0_mod_7, S_b0_mod_6, S_b0_mod_5, S_b0_mod_3, S_b0_mod_2, S_b0_mod_1, S_b0_mod_0, S_cb_mmade4_1h, S_bx_mcan1_1h, S_b0_mod_4h, c342, s342_0, s342_1, s342_4, s342_7, s342_8, s342_11, s342_12, s342_14, s342_17, s342_18, s342_19, s342_22, s342_25, s342_26, s342_27, s342_28, s342_31, s342_32, s342_33, s342_36, s342_38, s342_39, s342_40, s342_41, s342_44, s342_45, s342_48, s342_49, s342_50, s342_51, s342_52, mq_k0s, mq_k1s, mq_k2s, mq_k4s, mq_k5s, mq_k5n, mq_k5as, mq_k6s, mj_pu, mj_lo, mj_br, mj_hr, mj_hw, mq_gf, mq_len, mq_al, mq_pf, mq_ok, mj_re, mq_lkm, mq_lkn, mj_ldi, mj_ldl, mj_lda, mj_ii, mj_ll, mj_li, mj_i1, ms_1, ms_2, f1_n, f1_i, f1_r, f1_u, f1_l, f2_n, f2_i, f2_r, f2_u, f2_l, mj_tg, mj_c1, mj_c2, mj_ar, mj_aw, mq_cb, mq_oi, mj_rm, Value.category, -getElem?_pos, List.getElem?_cons_zero, decide_eq_true, decide_eq_false, nl_lt, nl_le, ln_lt, ln_le, nl_eq, ln_eq, nl_add, ln_add, nl_sub, ln_mul, nI_sub, nI_mul, nI_add, nI_lt_iff, nI_le_iff, nI_inj, nI_num, mq_ix, nI_1, nl_mul, nl_div, rh, hsz, nI_pos (show k < 2 ^ 31 by omega), show ¬ 40 < k by omega, hkt, narrow_b0]
    · rw [if_neg (fun w => c w.1)]
      refine ⟨x, y, ?_, z⟩
      by_cases h0 : n < 0
      · simp (disch := (first | omega | decide)) [S_cb_mmade4_0, S_bx_mcan1_0, S_b8_mkey_1, S_b8_mkey_0, S_b1_mterm_0, S_b1_copy_0, S_b0_mod_7, S_b0_mod_6, S_b0_mod_5, S_b0_mod_3, S_b0_mod_2, S_b0_mod_1, S_b0_mod_0, S_cb_mmade4_1h, S_bx_mcan1_1h, S_b0_mod_4h, c342, s342_0, s342_1, s342_4, s342_7, s342_8, s342_11, s342_12, s342_14, s342_17, s342_18, s342_19, s342_22, s342_25, s342_26, s342_27, s342_28, s342_31, s342_32, s342_33, s342_36, s342_38, s342_39, s342_40, s342_41, s342_44, s342_45, s342_48, s342_49, s342_50, s342_51, s342_52, mq_k0s, mq_k1s, mq_k2s, mq_k4s, mq_k5s, mq_k5n, mq_k5as, mq_k6s, mj_pu, mj_lo, mj_br, mj_hr, mj_hw, mq_gf, mq_len, mq_al, mq_pf, mq_ok, mj_re, mq_lkm, mq_lkn, mj_ldi, mj_ldl, mj_lda, mj_ii, mj_ll, mj_li, mj_i1, ms_1, ms_2, f1_n, f1_i, f1_r, f1_u, f1_l, f2_n, f2_i, f2_r, f2_u, f2_l, mj_tg, mj_c1, mj_c2, mj_ar, mj_aw, mq_cb, mq_oi, mj_rm, Value.category, -getElem?_pos, List.getElem?_cons_zero, decide_eq_true, decide_eq_false, nl_lt, nl_le, ln_lt, ln_le, nl_eq, ln_eq, nl_add, ln_add, nl_sub, ln_mul, nI_sub, nI_mul, nI_add, nI_lt_iff, nI_le_iff, nI_inj, nI_num, mq_ix, nI_1, nl_mul, nl_div, rh, h0, narrow_b0]
      · have h12 : (40 : Int32) < n := by
          apply Decidable.byContradiction
          intro w
          apply c
          unfold inR
          rw [decide_eq_true ((lt_or 0 n).mpr h0), decide_eq_true ((lt_or n 40).mpr w)]
          rfl
        simp (disch := (first | omega | decide)) [S_cb_mmade4_0, S_bx_mcan1_0, S_b8_mkey_1, S_b8_mkey_0, S_b1_mterm_0, S_b1_copy_0, S_b0_mod_7, S_b0_mod_6, S_b0_mod_5, S_b0_mod_3, S_b0_mod_2, S_b0_mod_1, S_b0_mod_0, S_cb_mmade4_1h, S_bx_mcan1_1h, S_b0_mod_4h, c342, s342_0, s342_1, s342_4, s342_7, s342_8, s342_11, s342_12, s342_14, s342_17, s342_18, s342_19, s342_22, s342_25, s342_26, s342_27, s342_28, s342_31, s342_32, s342_33, s342_36, s342_38, s342_39, s342_40, s342_41, s342_44, s342_45, s342_48, s342_49, s342_50, s342_51, s342_52, mq_k0s, mq_k1s, mq_k2s, mq_k4s, mq_k5s, mq_k5n, mq_k5as, mq_k6s, mj_pu, mj_lo, mj_br, mj_hr, mj_hw, mq_gf, mq_len, mq_al, mq_pf, mq_ok, mj_re, mq_lkm, mq_lkn, mj_ldi, mj_ldl, mj_lda, mj_ii, mj_ll, mj_li, mj_i1, ms_1, ms_2, f1_n, f1_i, f1_r, f1_u, f1_l, f2_n, f2_i, f2_r, f2_u, f2_l, mj_tg, mj_c1, mj_c2, mj_ar, mj_aw, mq_cb, mq_oi, mj_rm, Value.category, -getElem?_pos, List.getElem?_cons_zero, decide_eq_true, decide_eq_false, nl_lt, nl_le, ln_lt, ln_le, nl_eq, ln_eq, nl_add, ln_add, nl_sub, ln_mul, nI_sub, nI_mul, nI_add, nI_lt_iff, nI_le_iff, nI_inj, nI_num, mq_ix, nI_1, nl_mul, nl_div, rh, h0, h12, narrow_b0]
end
end
