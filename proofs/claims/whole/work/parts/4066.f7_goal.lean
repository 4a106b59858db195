/- f7.goal -/
section
set_option maxRecDepth 512
/-! The law. -/
section
variable {n d : Nat} {M : mj_H} {H : Ho} {ys : List Int32} {ls : mj_L}
theorem sw_0 : mj_Rn d mj_m380 33 ls [.int 0] M = mj_Rn d mj_m380 180 ls [] M := by rw [s380_33]; rfl
theorem sw_1 : mj_Rn d mj_m380 33 ls [.int 1] M = mj_Rn d mj_m380 243 ls [] M := by rw [s380_33]; rfl
theorem sw_2 : mj_Rn d mj_m380 33 ls [.int 2] M = mj_Rn d mj_m380 256 ls [] M := by rw [s380_33]; rfl
theorem sw_3 : mj_Rn d mj_m380 33 ls [.int 3] M = mj_Rn d mj_m380 279 ls [] M := by rw [s380_33]; rfl
theorem sw_4 : mj_Rn d mj_m380 33 ls [.int 4] M = mj_Rn d mj_m380 312 ls [] M := by rw [s380_33]; rfl
theorem sw_5 : mj_Rn d mj_m380 33 ls [.int 5] M = mj_Rn d mj_m380 325 ls [] M := by rw [s380_33]; rfl
theorem sw_6 : mj_Rn d mj_m380 33 ls [.int 6] M = mj_Rn d mj_m380 348 ls [] M := by rw [s380_33]; rfl
theorem sw_7 : mj_Rn d mj_m380 33 ls [.int 7] M = mj_Rn d mj_m380 361 ls [] M := by rw [s380_33]; rfl
theorem sw_8 : mj_Rn d mj_m380 33 ls [.int 8] M = mj_Rn d mj_m380 410 ls [] M := by rw [s380_33]; rfl
theorem sw_9 : mj_Rn d mj_m380 33 ls [.int 9] M = mj_Rn d mj_m380 433 ls [] M := by rw [s380_33]; rfl
theorem sw_10 : mj_Rn d mj_m380 33 ls [.int 10] M = mj_Rn d mj_m380 466 ls [] M := by rw [s380_33]; rfl
theorem sw_11 : mj_Rn d mj_m380 33 ls [.int 11] M = mj_Rn d mj_m380 499 ls [] M := by rw [s380_33]; rfl
theorem sw_12 : mj_Rn d mj_m380 33 ls [.int 12] M = mj_Rn d mj_m380 532 ls [] M := by rw [s380_33]; rfl
theorem sw_13 : mj_Rn d mj_m380 33 ls [.int 13] M = mj_Rn d mj_m380 555 ls [] M := by rw [s380_33]; rfl
theorem sw_14 : mj_Rn d mj_m380 33 ls [.int 14] M = mj_Rn d mj_m380 588 ls [] M := by rw [s380_33]; rfl
theorem sw_15 : mj_Rn d mj_m380 33 ls [.int 15] M = mj_Rn d mj_m380 621 ls [] M := by rw [s380_33]; rfl
theorem sw_16 : mj_Rn d mj_m380 33 ls [.int 16] M = mj_Rn d mj_m380 664 ls [] M := by rw [s380_33]; rfl
theorem sw_17 : mj_Rn d mj_m380 33 ls [.int 17] M = mj_Rn d mj_m380 687 ls [] M := by rw [s380_33]; rfl
theorem sw_18 : mj_Rn d mj_m380 33 ls [.int 18] M = mj_Rn d mj_m380 720 ls [] M := by rw [s380_33]; rfl
theorem sw_19 : mj_Rn d mj_m380 33 ls [.int 19] M = mj_Rn d mj_m380 763 ls [] M := by rw [s380_33]; rfl
theorem sw_20 : mj_Rn d mj_m380 33 ls [.int 20] M = mj_Rn d mj_m380 796 ls [] M := by rw [s380_33]; rfl
theorem sw_21 : mj_Rn d mj_m380 33 ls [.int 21] M = mj_Rn d mj_m380 829 ls [] M := by rw [s380_33]; rfl
theorem sw_22 : mj_Rn d mj_m380 33 ls [.int 22] M = mj_Rn d mj_m380 862 ls [] M := by rw [s380_33]; rfl
theorem sw_23 : mj_Rn d mj_m380 33 ls [.int 23] M = mj_Rn d mj_m380 895 ls [] M := by rw [s380_33]; rfl
theorem sw_24 : mj_Rn d mj_m380 33 ls [.int 24] M = mj_Rn d mj_m380 928 ls [] M := by rw [s380_33]; rfl
theorem sw_25 : mj_Rn d mj_m380 33 ls [.int 25] M = mj_Rn d mj_m380 971 ls [] M := by rw [s380_33]; rfl
theorem sw_26 : mj_Rn d mj_m380 33 ls [.int 26] M = mj_Rn d mj_m380 1004 ls [] M := by rw [s380_33]; rfl
theorem sw_27 : mj_Rn d mj_m380 33 ls [.int 27] M = mj_Rn d mj_m380 1135 ls [] M := by rw [s380_33]; rfl
theorem sw_28 : mj_Rn d mj_m380 33 ls [.int 28] M = mj_Rn d mj_m380 1266 ls [] M := by rw [s380_33]; rfl
theorem sw_29 : mj_Rn d mj_m380 33 ls [.int 29] M = mj_Rn d mj_m380 1299 ls [] M := by rw [s380_33]; rfl
theorem sw_30 : mj_Rn d mj_m380 33 ls [.int 30] M = mj_Rn d mj_m380 1426 ls [] M := by rw [s380_33]; rfl
theorem sw_31 : mj_Rn d mj_m380 33 ls [.int 31] M = mj_Rn d mj_m380 1459 ls [] M := by rw [s380_33]; rfl
theorem sw_32 : mj_Rn d mj_m380 33 ls [.int 32] M = mj_Rn d mj_m380 1482 ls [] M := by rw [s380_33]; rfl
theorem sw_d {k : Nat} (h1 : 33 ≤ k) (h2 : k < 64) : mj_Rn d mj_m380 33 ls [.int (nI k)] M = mj_Rn d mj_m380 1525 ls [] M := by
  have e : (nI k).toInt = k := nI_toInt (by omega)
  rw [s380_33]
  simp only [mj_br]
  rw [if_pos (by rw [e]; right; omega)]
  rfl
theorem lsub (hl : ys.length ≤ 640) (hn : n ≤ 64) : (nI ys.length - 10 < nI (10 * n)) ↔ ys.length < 10 * n + 10 := by
  rw [Int32.lt_iff_toInt_lt, show (10 : Int32) = nI 10 from rfl, sb_toInt (by omega) (by omega), nI_toInt (by omega)]
  omega
theorem l_exit (hM : M[0]? = some (1000, ys.map Value.int)) (hl : ys.length ≤ 640) (hn : n ≤ 64) (h : ys.length < 10 * n + 10) : mj_Rn (d + 14) mj_m380 18 (lL n) [] M = some (some (.int 1), M) := by
  have e := (lsub hl hn).mpr h
  unfold lL
  simp (disch := (first | omega | decide)) [S_cb_mmade4_0, S_bx_mcan1_0, S_b8_mkey_1, S_b8_mkey_0, S_b1_mterm_0, S_b1_copy_0, S_b0_mod_7, S_b0_mod_6, S_b0_mod_5, S_b0_mod_3, S_b0_mod_2, S_b0_mod_1, S_b0_mod_0, S_cb_mmade4_1h, S_bx_mcan1_1h, S_b0_mod_4h, s380_18, s380_19, s380_20, s380_21, s380_23, s380_24, s380_1531, s380_1532, mq_k0s, mq_k1s, mq_k2s, mq_k4s, mq_k5s, mq_k5n, mq_k5as, mq_k6s, mj_pu, mj_lo, mj_br, mj_hr, mj_hw, mq_gf, mq_len, mq_al, mq_pf, mq_ok, mj_re, mq_lkm, mq_lkn, mj_ldi, mj_ldl, mj_lda, mj_ii, mj_ll, mj_li, mj_i1, ms_1, ms_2, f1_n, f1_i, f1_r, f1_u, f1_l, f2_n, f2_i, f2_r, f2_u, f2_l, mj_tg, mj_c1, mj_c2, mj_ar, mj_aw, mq_cb, mq_oi, mj_rm, Value.category, -getElem?_pos, List.getElem?_cons_zero, decide_eq_true, decide_eq_false, nl_lt, nl_le, ln_lt, ln_le, nl_eq, ln_eq, nl_add, ln_add, nl_sub, ln_mul, nI_sub, nI_mul, nI_add, nI_lt_iff, nI_le_iff, nI_inj, nI_num, mq_ix, nI_1, nl_mul, nl_div, hM, e, List.length_map, mj_E, narrow, narrow_b1]
theorem l_head {a0 : Int32} {k : Nat} (hM : M[0]? = some (1000, ys.map Value.int)) (hl : ys.length ≤ 640) (hn : n ≤ 63) (h : 10 * n + 10 ≤ ys.length) (h0 : ys[10 * n]? = some a0) (hk : a0 &&& 63 = nI k) : ∀ r, mj_Rn (d + 14) mj_m380 33 (lL n) [.int (nI k)] M = some r → mj_Rn (d + 14) mj_m380 18 (lL n) [] M = some r := by
  intro r hr
  have e : ¬ nI ys.length - 10 < nI (10 * n) := fun w => by have := (lsub hl (by omega)).mp w; omega
  unfold lL at hr ⊢
  simp (disch := (first | omega | decide)) [S_cb_mmade4_0, S_bx_mcan1_0, S_b8_mkey_1, S_b8_mkey_0, S_b1_mterm_0, S_b1_copy_0, S_b0_mod_7, S_b0_mod_6, S_b0_mod_5, S_b0_mod_3, S_b0_mod_2, S_b0_mod_1, S_b0_mod_0, S_cb_mmade4_1h, S_bx_mcan1_1h, S_b0_mod_4h, s380_18, s380_19, s380_20, s380_21, s380_23, s380_24, s380_27, s380_28, s380_29, s380_30, s380_32, mq_k0s, mq_k1s, mq_k2s, mq_k4s, mq_k5s, mq_k5n, mq_k5as, mq_k6s, mj_pu, mj_lo, mj_br, mj_hr, mj_hw, mq_gf, mq_len, mq_al, mq_pf, mq_ok, mj_re, mq_lkm, mq_lkn, mj_ldi, mj_ldl, mj_lda, mj_ii, mj_ll, mj_li, mj_i1, ms_1, ms_2, f1_n, f1_i, f1_r, f1_u, f1_l, f2_n, f2_i, f2_r, f2_u, f2_l, mj_tg, mj_c1, mj_c2, mj_ar, mj_aw, mq_cb, mq_oi, mj_rm, Value.category, -getElem?_pos, List.getElem?_cons_zero, decide_eq_true, decide_eq_false, nl_lt, nl_le, ln_lt, ln_le, nl_eq, ln_eq, nl_add, ln_add, nl_sub, ln_mul, nI_sub, nI_mul, nI_add, nI_lt_iff, nI_le_iff, nI_inj, nI_num, mq_ix, nI_1, nl_mul, nl_div, hM, e, h0, hk, List.length_map, mj_E]
  exact hr
theorem l_tail (hn : n ≤ 63) : ∀ r, mj_Rn (d + 14) mj_m380 18 (lL (n + 1)) [] M = some r → mj_Rn (d + 14) mj_m380 1525 (lL n) [] M = some r := by
  intro r hr
  unfold lL at hr ⊢
  rw [show 10 * (n + 1) = 10 * n + 10 by omega] at hr
  simp (disch := (first | omega | decide)) [S_cb_mmade4_0, S_bx_mcan1_0, S_b8_mkey_1, S_b8_mkey_0, S_b1_mterm_0, S_b1_copy_0, S_b0_mod_7, S_b0_mod_6, S_b0_mod_5, S_b0_mod_3, S_b0_mod_2, S_b0_mod_1, S_b0_mod_0, S_cb_mmade4_1h, S_bx_mcan1_1h, S_b0_mod_4h, s380_1525, s380_1528, mq_k0s, mq_k1s, mq_k2s, mq_k4s, mq_k5s, mq_k5n, mq_k5as, mq_k6s, mj_pu, mj_lo, mj_br, mj_hr, mj_hw, mq_gf, mq_len, mq_al, mq_pf, mq_ok, mj_re, mq_lkm, mq_lkn, mj_ldi, mj_ldl, mj_lda, mj_ii, mj_ll, mj_li, mj_i1, ms_1, ms_2, f1_n, f1_i, f1_r, f1_u, f1_l, f2_n, f2_i, f2_r, f2_u, f2_l, mj_tg, mj_c1, mj_c2, mj_ar, mj_aw, mq_cb, mq_oi, mj_rm, Value.category, -getElem?_pos, List.getElem?_cons_zero, decide_eq_true, decide_eq_false, nl_lt, nl_le, ln_lt, ln_le, nl_eq, ln_eq, nl_add, ln_add, nl_sub, ln_mul, nI_sub, nI_mul, nI_add, nI_lt_iff, nI_le_iff, nI_inj, nI_num, mq_ix, nI_1, nl_mul, nl_div]
  exact hr
/-- one turn of the law -/
theorem l_turn (L : LI ys n M H) (hl : ys.length ≤ 640) (hn : n ≤ 63) (h : 10 * n + 10 ≤ ys.length) : ∃ M2 H2, LI ys (n + 1) M2 H2 ∧ ∀ r, mj_Rn (d + 14) mj_m380 18 (lL (n + 1)) [] M2 = some r → mj_Rn (d + 14) mj_m380 18 (lL n) [] M = some r := by
  have at_ : ∀ k, k < 10 → ∃ a, ys[10 * n + k]? = some a := fun k hk => ⟨_, List.getElem?_eq_getElem (by omega)⟩
  obtain ⟨a0, h0⟩ := at_ 0 (by omega)
  obtain ⟨a1, h1⟩ := at_ 1 (by omega)
  obtain ⟨a2, h2⟩ := at_ 2 (by omega)
  obtain ⟨a3, h3⟩ := at_ 3 (by omega)
  obtain ⟨a4, h4⟩ := at_ 4 (by omega)
  obtain ⟨a5, h5⟩ := at_ 5 (by omega)
  obtain ⟨a6, h6⟩ := at_ 6 (by omega)
  obtain ⟨a7, h7⟩ := at_ 7 (by omega)
  obtain ⟨a8, h8⟩ := at_ 8 (by omega)
  obtain ⟨a9, h9⟩ := at_ 9 (by omega)
  rw [Nat.add_zero] at h0
  obtain ⟨k, hk, ek⟩ := tb_and (x := a0) (k := 6) (by decide)
  rw [show nI (2 ^ 6 - 1) = (63 : Int32) from rfl] at ek
  have hk : k < 64 := hk
  suffices w : ∃ M2 H2, LI ys (n + 1) M2 H2 ∧ ∀ r, mj_Rn (d + 14) mj_m380 1525 (lL n) [] M2 = some r → mj_Rn (d + 14) mj_m380 33 (lL n) [.int (nI k)] M = some r by
    obtain ⟨M2, H2, L2, f⟩ := w
    exact ⟨M2, H2, L2, fun r hr => l_head L.a hl hn h h0 ek r (f r (l_tail hn r hr))⟩
  clear ek
  by_cases hd : 33 ≤ k
  · exact ⟨M, H, (LI_mk_ L.h L.m L.i.same L.a), fun r hr => by rw [sw_d hd hk]; exact hr⟩
  have hk33 : k < 33 := by omega
  clear hd hk at_ h0
  rcases Nat.lt_or_ge k 16 with w | w
  · skip
    rcases Nat.lt_or_ge k 8 with w | w
    · skip
      rcases Nat.lt_or_ge k 4 with w | w
      · skip
        rcases Nat.lt_or_ge k 2 with w | w
        · skip
          rcases Nat.lt_or_ge k 1 with w | w
          · skip
            obtain rfl : k = 0 := by omega
            obtain ⟨M2, H2, L2, f⟩ := st_c_feed (d := d) L hn hl h1 h2 h3
            exact ⟨M2, H2, L2, fun r hr => by rw [show nI 0 = (0 : Int32) from rfl, sw_0]; exact f r hr⟩
          · skip
            obtain rfl : k = 1 := by omega
            obtain ⟨M2, H2, L2, f⟩ := st_c_wipe (d := d) L hn hl 
            exact ⟨M2, H2, L2, fun r hr => by rw [show nI 1 = (1 : Int32) from rfl, sw_1]; exact f r hr⟩
        · skip
          rcases Nat.lt_or_ge k 3 with w | w
          · skip
            obtain rfl : k = 2 := by omega
            obtain ⟨M2, H2, L2, f⟩ := st_c_at (d := d) L hn hl h1
            exact ⟨M2, H2, L2, fun r hr => by rw [show nI 2 = (2 : Int32) from rfl, sw_2]; exact f r hr⟩
          · skip
            obtain rfl : k = 3 := by omega
            obtain ⟨M2, H2, L2, f⟩ := st_c_poke (d := d) L hn hl h1 h2
            exact ⟨M2, H2, L2, fun r hr => by rw [show nI 3 = (3 : Int32) from rfl, sw_3]; exact f r hr⟩
      · skip
        rcases Nat.lt_or_ge k 6 with w | w
        · skip
          rcases Nat.lt_or_ge k 5 with w | w
          · skip
            obtain rfl : k = 4 := by omega
            obtain ⟨M2, H2, L2, f⟩ := st_c_terms (d := d) L hn hl 
            exact ⟨M2, H2, L2, fun r hr => by rw [show nI 4 = (4 : Int32) from rfl, sw_4]; exact f r hr⟩
          · skip
            obtain rfl : k = 5 := by omega
            obtain ⟨M2, H2, L2, f⟩ := st_c_sort (d := d) L hn hl h1
            exact ⟨M2, H2, L2, fun r hr => by rw [show nI 5 = (5 : Int32) from rfl, sw_5]; exact f r hr⟩
        · skip
          rcases Nat.lt_or_ge k 7 with w | w
          · skip
            obtain rfl : k = 6 := by omega
            obtain ⟨M2, H2, L2, f⟩ := st_c_key (d := d) L hn hl 
            exact ⟨M2, H2, L2, fun r hr => by rw [show nI 6 = (6 : Int32) from rfl, sw_6]; exact f r hr⟩
          · skip
            obtain rfl : k = 7 := by omega
            obtain ⟨M2, H2, L2, f⟩ := st_c_power (d := d) L hn hl h1 h2
            exact ⟨M2, H2, L2, fun r hr => by rw [show nI 7 = (7 : Int32) from rfl, sw_7]; exact f r hr⟩
    · skip
      rcases Nat.lt_or_ge k 12 with w | w
      · skip
        rcases Nat.lt_or_ge k 10 with w | w
        · skip
          rcases Nat.lt_or_ge k 9 with w | w
          · skip
            obtain rfl : k = 8 := by omega
            obtain ⟨M2, H2, L2, f⟩ := st_c_press (d := d) L hn hl h1
            exact ⟨M2, H2, L2, fun r hr => by rw [show nI 8 = (8 : Int32) from rfl, sw_8]; exact f r hr⟩
          · skip
            obtain rfl : k = 9 := by omega
            obtain ⟨M2, H2, L2, f⟩ := st_c_cut (d := d) L hn hl h1 h2
            exact ⟨M2, H2, L2, fun r hr => by rw [show nI 9 = (9 : Int32) from rfl, sw_9]; exact f r hr⟩
        · skip
          rcases Nat.lt_or_ge k 11 with w | w
          · skip
            obtain rfl : k = 10 := by omega
            obtain ⟨M2, H2, L2, f⟩ := st_c_command (d := d) L hn hl h1 h2
            exact ⟨M2, H2, L2, fun r hr => by rw [show nI 10 = (10 : Int32) from rfl, sw_10]; exact f r hr⟩
          · skip
            obtain rfl : k = 11 := by omega
            obtain ⟨M2, H2, L2, f⟩ := st_c_answer (d := d) L hn hl h1 h2
            exact ⟨M2, H2, L2, fun r hr => by rw [show nI 11 = (11 : Int32) from rfl, sw_11]; exact f r hr⟩
      · skip
        rcases Nat.lt_or_ge k 14 with w | w
        · skip
          rcases Nat.lt_or_ge k 13 with w | w
          · skip
            obtain rfl : k = 12 := by omega
            obtain ⟨M2, H2, L2, f⟩ := st_c_take (d := d) L hn hl h1
            exact ⟨M2, H2, L2, fun r hr => by rw [show nI 12 = (12 : Int32) from rfl, sw_12]; exact f r hr⟩
          · skip
            obtain rfl : k = 13 := by omega
            obtain ⟨M2, H2, L2, f⟩ := st_c_flash (d := d) L hn hl h1 h2
            exact ⟨M2, H2, L2, fun r hr => by rw [show nI 13 = (13 : Int32) from rfl, sw_13]; exact f r hr⟩
        · skip
          rcases Nat.lt_or_ge k 15 with w | w
          · skip
            obtain rfl : k = 14 := by omega
            obtain ⟨M2, H2, L2, f⟩ := st_c_told (d := d) L hn hl h1 h2
            exact ⟨M2, H2, L2, fun r hr => by rw [show nI 14 = (14 : Int32) from rfl, sw_14]; exact f r hr⟩
          · skip
            obtain rfl : k = 15 := by omega
            obtain ⟨M2, H2, L2, f⟩ := st_c_credential (d := d) L hn hl h1 h2 h3
            exact ⟨M2, H2, L2, fun r hr => by rw [show nI 15 = (15 : Int32) from rfl, sw_15]; exact f r hr⟩
  · skip
    rcases Nat.lt_or_ge k 24 with w | w
    · skip
      rcases Nat.lt_or_ge k 20 with w | w
      · skip
        rcases Nat.lt_or_ge k 18 with w | w
        · skip
          rcases Nat.lt_or_ge k 17 with w | w
          · skip
            obtain rfl : k = 16 := by omega
            obtain ⟨M2, H2, L2, f⟩ := st_c_own (d := d) L hn hl h1
            exact ⟨M2, H2, L2, fun r hr => by rw [show nI 16 = (16 : Int32) from rfl, sw_16]; exact f r hr⟩
          · skip
            obtain rfl : k = 17 := by omega
            obtain ⟨M2, H2, L2, f⟩ := st_c_agree (d := d) L hn hl h1 h2
            exact ⟨M2, H2, L2, fun r hr => by rw [show nI 17 = (17 : Int32) from rfl, sw_17]; exact f r hr⟩
        · skip
          rcases Nat.lt_or_ge k 19 with w | w
          · skip
            obtain rfl : k = 18 := by omega
            obtain ⟨M2, H2, L2, f⟩ := st_c_seal (d := d) L hn hl h1 h2 h3
            exact ⟨M2, H2, L2, fun r hr => by rw [show nI 18 = (18 : Int32) from rfl, sw_18]; exact f r hr⟩
          · skip
            obtain rfl : k = 19 := by omega
            obtain ⟨M2, H2, L2, f⟩ := st_c_open (d := d) L hn hl h1 h2
            exact ⟨M2, H2, L2, fun r hr => by rw [show nI 19 = (19 : Int32) from rfl, sw_19]; exact f r hr⟩
      · skip
        rcases Nat.lt_or_ge k 22 with w | w
        · skip
          rcases Nat.lt_or_ge k 21 with w | w
          · skip
            obtain rfl : k = 20 := by omega
            obtain ⟨M2, H2, L2, f⟩ := st_c_token (d := d) L hn hl h1 h2
            exact ⟨M2, H2, L2, fun r hr => by rw [show nI 20 = (20 : Int32) from rfl, sw_20]; exact f r hr⟩
          · skip
            obtain rfl : k = 21 := by omega
            obtain ⟨M2, H2, L2, f⟩ := st_c_pin (d := d) L hn hl h1 h2
            exact ⟨M2, H2, L2, fun r hr => by rw [show nI 21 = (21 : Int32) from rfl, sw_21]; exact f r hr⟩
        · skip
          rcases Nat.lt_or_ge k 23 with w | w
          · skip
            obtain rfl : k = 22 := by omega
            obtain ⟨M2, H2, L2, f⟩ := st_c_page (d := d) L hn hl h1 h2
            exact ⟨M2, H2, L2, fun r hr => by rw [show nI 22 = (22 : Int32) from rfl, sw_22]; exact f r hr⟩
          · skip
            obtain rfl : k = 23 := by omega
            obtain ⟨M2, H2, L2, f⟩ := st_c_setPin (d := d) L hn hl h1 h2
            exact ⟨M2, H2, L2, fun r hr => by rw [show nI 23 = (23 : Int32) from rfl, sw_23]; exact f r hr⟩
    · skip
      rcases Nat.lt_or_ge k 28 with w | w
      · skip
        rcases Nat.lt_or_ge k 26 with w | w
        · skip
          rcases Nat.lt_or_ge k 25 with w | w
          · skip
            obtain rfl : k = 24 := by omega
            obtain ⟨M2, H2, L2, f⟩ := st_c_changePin (d := d) L hn hl h1 h2 h3
            exact ⟨M2, H2, L2, fun r hr => by rw [show nI 24 = (24 : Int32) from rfl, sw_24]; exact f r hr⟩
          · skip
            obtain rfl : k = 25 := by omega
            obtain ⟨M2, H2, L2, f⟩ := st_c_unlock (d := d) L hn hl h1 h2
            exact ⟨M2, H2, L2, fun r hr => by rw [show nI 25 = (25 : Int32) from rfl, sw_25]; exact f r hr⟩
        · skip
          rcases Nat.lt_or_ge k 27 with w | w
          · skip
            obtain rfl : k = 26 := by omega
            obtain ⟨M2, H2, L2, f⟩ := st_c_create (d := d) L hn hl h1 h2 h3 h4 h5 h6 h7 h8 h9
            exact ⟨M2, H2, L2, fun r hr => by rw [show nI 26 = (26 : Int32) from rfl, sw_26]; exact f r hr⟩
          · skip
            obtain rfl : k = 27 := by omega
            obtain ⟨M2, H2, L2, f⟩ := st_c_get (d := d) L hn hl h1 h2 h3 h4 h5 h6 h7 h8 h9
            exact ⟨M2, H2, L2, fun r hr => by rw [show nI 27 = (27 : Int32) from rfl, sw_27]; exact f r hr⟩
      · skip
        rcases Nat.lt_or_ge k 30 with w | w
        · skip
          rcases Nat.lt_or_ge k 29 with w | w
          · skip
            obtain rfl : k = 28 := by omega
            obtain ⟨M2, H2, L2, f⟩ := st_c_party (d := d) L hn hl h1 h2
            exact ⟨M2, H2, L2, fun r hr => by rw [show nI 28 = (28 : Int32) from rfl, sw_28]; exact f r hr⟩
          · skip
            obtain rfl : k = 29 := by omega
            obtain ⟨M2, H2, L2, f⟩ := st_c_offer (d := d) L hn hl h1 h2 h3 h4 h5 h6
            exact ⟨M2, H2, L2, fun r hr => by rw [show nI 29 = (29 : Int32) from rfl, sw_29]; exact f r hr⟩
        · skip
          rcases Nat.lt_or_ge k 31 with w | w
          · skip
            obtain rfl : k = 30 := by omega
            obtain ⟨M2, H2, L2, f⟩ := st_c_judge (d := d) L hn hl h1 h2
            exact ⟨M2, H2, L2, fun r hr => by rw [show nI 30 = (30 : Int32) from rfl, sw_30]; exact f r hr⟩
          · skip
            rcases Nat.lt_or_ge k 32 with w | w
            · skip
              obtain rfl : k = 31 := by omega
              obtain ⟨M2, H2, L2, f⟩ := st_c_withdraw (d := d) L hn hl h1
              exact ⟨M2, H2, L2, fun r hr => by rw [show nI 31 = (31 : Int32) from rfl, sw_31]; exact f r hr⟩
            · skip
              obtain rfl : k = 32 := by omega
              obtain ⟨M2, H2, L2, f⟩ := st_c_account (d := d) L hn hl h1 h2 h3
              exact ⟨M2, H2, L2, fun r hr => by rw [show nI 32 = (32 : Int32) from rfl, sw_32]; exact f r hr⟩
theorem zz_le {κs πs : List Nat} {row : List Int32} (z : hz M H κs πs row) : mj_zz M ≤ 2300000 := by
  obtain ⟨p, e, o, t, -⟩ := z.t.al
  obtain ⟨g, g1, g2, -⟩ := t.tbl.po
  obtain ⟨E, e1, e2, -⟩ := t.tbl.en
  unfold mj_zz
  rw [t.ob]
  dsimp only
  rw [g1, e1]
  simp only [Option.getD_some, List.length_map]
  omega
theorem l_loop (hl : ys.length ≤ 640) : ∀ (m n : Nat) (M : mj_H) (H : Ho), n + m = 64 → LI ys n M H → ∃ M', mj_Rn (d + 14) mj_m380 18 (lL n) [] M = some (some (.int 1), M') ∧ M'.length ≤ 10000 ∧ mj_sl M' ≤ 5000000 := by
  intro m
  induction m with
  | zero =>
    intro n M H hm L
    obtain ⟨κs, πs, row, z⟩ := L.h
    have h1 := zz_le z
    have h2 := z.rs
    have h3 := z.rc
    have h4 := z.k3
    have h5 := z.p4
    exact ⟨M, l_exit L.a hl (by omega) (by omega), by omega, by omega⟩
  | succ m ih =>
    intro n M H hm L
    by_cases h : 10 * n + 10 ≤ ys.length
    · obtain ⟨M2, H2, L2, f⟩ := l_turn (d := d) L hl (by omega) h
      obtain ⟨M', p, q1, q2⟩ := ih (n + 1) M2 H2 (by omega) L2
      exact ⟨M', f _ p, q1, q2⟩
    · obtain ⟨κs, πs, row, z⟩ := L.h
      have h1 := zz_le z
      have h2 := z.rs
      have h3 := z.rc
      have h4 := z.k3
      have h5 := z.p4
      exact ⟨M, l_exit L.a hl (by omega) (by omega), by omega, by omega⟩
theorem ty_10 : mj_ty[10]? = some [.object "PasskeyHouse$Bytes", .object "PasskeyHouse$Bytes", .object "PasskeyHouse$Terms", .object "PasskeyHouse$Items", .array (.object "PasskeyHouse$Key"), .array (.object "PasskeyHouse$Hand"), .array (.object "PasskeyHouse$Party"), .int, .int] := rfl
theorem nw10 (st : List Value) (M : mj_H) : mj_hw (.new 7, 3, 10, 0, 4116) st M = some (.ref M.length :: st, M ++ [(10, [Value.null, .null, .null, .null, .null, .null, .null, .int 0, .int 0])]) := rfl
theorem nw11 (st : List Value) (M : mj_H) : mj_hw (.new 10, 3, 11, 0, 24790) st M = some (.ref M.length :: st, M ++ [(11, f11)]) := rfl
theorem l_begin : ∀ r, mj_Rn (d + 14) mj_m380 18 (lL 0) [] (M0 ys) = some r → mj_Rn (d + 14) mj_m380 0 [(0, .ref 0)] [] (mj_X ys) = some r := by
  intro r hr
  have xl : (mj_X ys).length = 25 := rfl
  have c1 := i_house (d := d + 9) (P := mj_X ys) (Nat.le_of_eq xl.symm)
  rw [xl] at c1
  have c2 := q_new (d := d + 12) (P := mj_X ys ++ oblk 25) (P67 ys)
  unfold d10 at c1
  have g25 : (mj_X ys ++ [((10 : Nat), [Value.null, .null, .null, .null, .null, .null, .null, .int 0, .int 0])])[25]? = some (10, [Value.null, .null, .null, .null, .null, .null, .null, .int 0, .int 0]) := rfl
  have l67 : (mj_X ys ++ oblk 25).length = 67 := P67 ys
  have g67 : (mj_X ys ++ oblk 25 ++ [((11 : Nat), f11)])[67]? = some (11, f11) := by rw [List.getElem?_append_right (by omega), l67]; rfl
  unfold lL at hr
  rw [Nat.mul_zero, nI_0] at hr
  unfold M0 B0 at hr
  generalize mm (⟨(mj_X ys ++ oblk 25, []), P67 ys⟩ : Bs) x0 y0 = E at *
  generalize mj_X ys ++ oblk 25 = Q at *
  generalize mj_X ys = P at *
  simp (disch := (first | omega | decide)) [S_cb_mmade4_0, S_bx_mcan1_0, S_b8_mkey_1, S_b8_mkey_0, S_b1_mterm_0, S_b1_copy_0, S_b0_mod_7, S_b0_mod_6, S_b0_mod_5, S_b0_mod_3, S_b0_mod_2, S_b0_mod_1, S_b0_mod_0, S_cb_mmade4_1h, S_bx_mcan1_1h, S_b0_mod_4h, s380_0, s380_3, s380_4, s380_7, s380_8, s380_11, s380_12, s380_15, s380_16, s380_17, mq_k0s, mq_k1s, mq_k2s, mq_k4s, mq_k5s, mq_k5n, mq_k5as, mq_k6s, mj_pu, mj_lo, mj_br, mj_hr, mq_gf, mq_len, mq_al, mq_pf, mq_ok, mj_re, mq_lkm, mq_lkn, mj_ldi, mj_ldl, mj_lda, mj_ii, mj_ll, mj_li, mj_i1, ms_1, ms_2, f1_n, f1_i, f1_r, f1_u, f1_l, f2_n, f2_i, f2_r, f2_u, f2_l, mj_tg, mj_c1, mj_c2, mj_ar, mj_aw, mq_cb, mq_oi, mj_rm, Value.category, -getElem?_pos, List.getElem?_cons_zero, decide_eq_true, decide_eq_false, nl_lt, nl_le, ln_lt, ln_le, nl_eq, ln_eq, nl_add, ln_add, nl_sub, ln_mul, nI_sub, nI_mul, nI_add, nI_lt_iff, nI_le_iff, nI_inj, nI_num, mq_ix, nI_1, nl_mul, nl_div, nw10, nw11, xl, l67, g25, g67, c1, c2, mj_E]
  exact hr
theorem mj_goal : mj_Goal := by
  intro ys hl
  obtain ⟨M', p, h1, h2⟩ := l_loop (d := 0) hl 64 0 (M0 ys) H0 rfl (LI0 hl)
  have q := l_begin _ p
  obtain ⟨fuel, hf⟩ := mj_Rn_iff.mp q
  exact ⟨fuel, 14, M', by decide, hf, by unfold mj_E; omega, by omega⟩
end
end
