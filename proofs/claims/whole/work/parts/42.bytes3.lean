/-! Class: Bytes: numbers out of it, checks, compares. -/
/-- the cells from p on, 0 where there are none -/
def bt_sl (zs : List Int32) : Nat → Nat → List Int32
  | _, 0 => []
  | p, m + 1 => zs.getD p 0 :: bt_sl zs (p + 1) m
theorem bt_sl_in {xs g : List Int32} : ∀ (m p : Nat), p + m ≤ xs.length → bt_sl (xs ++ g) p m = (xs.drop p).take m := by
  intro m
  induction m with
  | zero => intro p _; simp [bt_sl]
  | succ m ih =>
    intro p h
    have hp : p < xs.length := by omega
    rw [bt_sl, ih (p + 1) (by omega), List.drop_eq_getElem_cons hp, List.take_succ_cons]
    simp [List.getD, List.getElem?_append_left hp, hp]
def bt_ls (w : Int64) (v : Int32) : Int64 := (w <<< ((8 : Int32).toInt64 &&& 63)) ||| v.toInt64
/-- a number out of bytes, the highest first -/
def bt_lo (l : List Int32) : Int64 := l.foldl bt_ls 0
theorem l_low {d a b : Nat} {zs : List Int32} {n1 : Int32} {M : mj_H} {p n : Nat} (h1 : M[a]? = some (1, [.ref b, .int n1])) (h2 : M[b]? = some (1000, zs.map Value.int)) (hz : zs.length < 2 ^ 31) (hn : p + n < 2 ^ 31) : ∀ (m j : Nat) (w : Int64), j + m = n →
    mj_Rn d mj_m49 5 [(5, .int (nI (p + j))), (3, .long w), (0, .ref a), (1, .int (nI p)), (2, .int (nI n))] [] M = some (some (.long ((bt_sl zs (p + j) m).foldl bt_ls w)), M) := by
  intro m
  induction m with
  | zero =>
    intro j w hj
    have q : nI p + nI n ≤ nI (p + j) := by rw [nI_add]; exact nI_le (by omega) (by omega)
    simp [s49_0, s49_1, s49_2, s49_3, s49_5, s49_7, s49_8, s49_9, s49_10, s49_13, s49_14, s49_16, s49_17, s49_19, s49_22, s49_24, s49_25, s49_28, s49_29, s49_32, s49_33, s49_36, s49_37, s49_40, s49_42, s49_43, s49_44, s49_45, s49_46, s49_49, s49_52, s49_53, mq_k0s, mq_k1s, mq_k2s, mq_k4s, mq_k5s, mq_k5n, mq_k5as, mq_k6s, mj_pu, mj_lo, mj_br, mj_hr, mj_hw, mq_gf, mq_len, mq_al, mq_pf, mq_ok, mj_re, mj_lk, mj_ldi, mj_ldl, mj_lda, mj_ii, mj_ll, mj_li, mj_i1, mj_s1, mj_s2, mj_tg, mj_c1, mj_c2, mj_ar, mj_aw, mq_cb, mq_oi, mj_rm, Value.category, q, bt_sl]
  | succ m ih =>
    intro j w hj
    have q : ¬ nI p + nI n ≤ nI (p + j) := by rw [nI_add]; exact nI_ge (by omega) (by omega)
    have q0 : ¬ nI (p + j) < 0 := nI_pos (by omega)
    have r := ih (j + 1) (bt_ls w (zs.getD (p + j) 0)) (by omega)
    rw [s49_5, bt_sl, List.foldl_cons]
    by_cases hk : p + j < zs.length
    · have q1 : nI (p + j) < Int32.ofNat (zs.map Value.int).length := by rw [List.length_map]; exact nI_lt hk hz
      have q2 := mq_ix (show p + j < (zs.map Value.int).length by rw [List.length_map]; exact hk) (by rw [List.length_map]; exact hz)
      have q3 : (zs.map Value.int)[p + j]? = some (.int (zs.getD (p + j) 0)) := by simp [List.getD, hk]
      generalize zs.getD (p + j) 0 = u at *
      generalize zs.map Value.int = vs at *
      simp [s49_0, s49_1, s49_2, s49_3, s49_7, s49_8, s49_9, s49_10, s49_13, s49_14, s49_16, s49_17, s49_19, s49_22, s49_24, s49_25, s49_28, s49_29, s49_32, s49_33, s49_36, s49_37, s49_40, s49_42, s49_43, s49_44, s49_45, s49_46, s49_49, mq_k0s, mq_k1s, mq_k2s, mq_k4s, mq_k5s, mq_k5n, mq_k5as, mq_k6s, mj_pu, mj_lo, mj_br, mj_hr, mj_hw, mq_gf, mq_len, mq_al, mq_pf, mq_ok, mj_re, mj_lk, mj_ldi, mj_ldl, mj_lda, mj_ii, mj_ll, mj_li, mj_i1, mj_s1, mj_s2, mj_tg, mj_c1, mj_c2, mj_ar, mj_aw, mq_cb, mq_oi, mj_rm, Value.category, q, q0, q1, q2, q3, h1, h2, nI_1]
      exact r
    · have q1 : ¬ nI (p + j) < Int32.ofNat (zs.map Value.int).length := by rw [List.length_map]; exact nI_nlt (by omega) (by omega)
      have q3 : zs.getD (p + j) 0 = 0 := by simp [List.getD, hk]
      rw [q3] at r ⊢
      generalize zs.map Value.int = vs at *
      rw [show bt_ls w 0 = w <<< ((8 : Int32).toInt64 &&& 63) ||| (0 : Int32).toInt64 from rfl] at r ⊢
      simp only [s49_0, s49_1, s49_2, s49_3, s49_7, s49_8, s49_9, s49_10, s49_13, s49_14, s49_16, s49_17, s49_19, s49_22, s49_24, s49_25, s49_28, s49_29, s49_32, s49_33, s49_36, s49_37, s49_40, s49_42, s49_43, s49_44, s49_45, s49_46, s49_49, mq_k0s, mq_k1s, mq_k2s, mq_k4s, mq_k5s, mq_k5n, mq_k5as, mq_k6s, mj_pu, mj_lo, mj_br, mj_hr, mj_hw, mq_gf, mq_len, mq_al, mq_pf, mq_ok, mj_re, mj_lk, mj_ldi, mj_ldl, mj_lda, mj_ii, mj_ll, mj_li, mj_i1, mj_s1, mj_s2, mj_tg, mj_c1, mj_c2, mj_ar, mj_aw, mq_cb, mq_oi, mj_rm, Value.category, q, q0, q1, h1, h2]
      simp [s49_0, s49_1, s49_2, s49_3, s49_7, s49_8, s49_9, s49_10, s49_13, s49_14, s49_16, s49_17, s49_19, s49_22, s49_24, s49_25, s49_28, s49_29, s49_32, s49_33, s49_36, s49_37, s49_40, s49_42, s49_43, s49_44, s49_45, s49_46, s49_49, mq_k0s, mq_k1s, mq_k2s, mq_k4s, mq_k5s, mq_k5n, mq_k5as, mq_k6s, mj_pu, mj_lo, mj_br, mj_hr, mj_hw, mq_gf, mq_len, mq_al, mq_pf, mq_ok, mj_re, mj_lk, mj_ldi, mj_ldl, mj_lda, mj_ii, mj_ll, mj_li, mj_i1, mj_s1, mj_s2, mj_tg, mj_c1, mj_c2, mj_ar, mj_aw, mq_cb, mq_oi, mj_rm, Value.category, q, q0, q1, h1, h2, nI_1]
      simp at r
      exact r
theorem v_low {d a b cap : Nat} {xs : List Int32} {M : mj_H} (h : bb M a b cap xs) {p n : Nat} (hn : p + n < 2 ^ 31) : ∃ w, mj_V (d + 1) 49 [.ref a, .int (nI p), .int (nI n)] M = some (some (.long w), M) ∧ (p + n ≤ xs.length → w = bt_lo ((xs.drop p).take n)) := by
  obtain ⟨ha, hb, hab, hcap, h8, h1, g, h2, hg⟩ := h
  have r := l_low (d := d) h1 h2 (by rw [hg]; exact hcap) hn n 0 0 (by omega)
  refine ⟨(bt_sl (xs ++ g) (p + 0) n).foldl bt_ls 0, ?_, fun hp => by rw [Nat.add_zero, bt_sl_in n p hp]; rfl⟩
  simp [c49, s49_0, s49_1, s49_2, s49_3, mq_k0s, mq_k1s, mq_k2s, mq_k4s, mq_k5s, mq_k5n, mq_k5as, mq_k6s, mj_pu, mj_lo, mj_br, mj_hr, mj_hw, mq_gf, mq_len, mq_al, mq_pf, mq_ok, mj_re, mj_lk, mj_ldi, mj_ldl, mj_lda, mj_ii, mj_ll, mj_li, mj_i1, mj_s1, mj_s2, mj_tg, mj_c1, mj_c2, mj_ar, mj_aw, mq_cb, mq_oi, mj_rm, Value.category]
  exact r
def bt_cs (c v : Int32) : Int32 := (31 * c + v + 7) &&& 65535
/-- THE CHECK of bytes -/
def bt_ck (l : List Int32) : Int32 := if l.foldl bt_cs 0 = 65535 then 0 else l.foldl bt_cs 0
theorem l_check {d a b : Nat} {zs : List Int32} {n1 : Int32} {M : mj_H} {p n : Nat} (h1 : M[a]? = some (1, [.ref b, .int n1])) (h2 : M[b]? = some (1000, zs.map Value.int)) (hz : zs.length < 2 ^ 31) (hn : p + n < 2 ^ 31) : ∀ (m j : Nat) (c : Int32), j + m = n →
    mj_Rn d mj_m42 5 [(4, .int (nI (p + j))), (3, .int c), (0, .ref a), (1, .int (nI p)), (2, .int (nI n))] [] M = some (some (.int (if (bt_sl zs (p + j) m).foldl bt_cs c = 65535 then 0 else (bt_sl zs (p + j) m).foldl bt_cs c)), M) := by
  intro m
  induction m with
  | zero =>
    intro j c hj
    have q : nI p + nI n ≤ nI (p + j) := by rw [nI_add]; exact nI_le (by omega) (by omega)
    by_cases hc : c = 65535
    · simp [s42_0, s42_1, s42_2, s42_3, s42_5, s42_7, s42_8, s42_9, s42_10, s42_13, s42_15, s42_18, s42_20, s42_21, s42_24, s42_25, s42_28, s42_29, s42_32, s42_33, s42_36, s42_38, s42_39, s42_41, s42_43, s42_44, s42_45, s42_47, s42_48, s42_50, s42_51, s42_53, s42_54, s42_55, s42_58, s42_61, s42_62, s42_64, s42_67, s42_68, s42_71, s42_72, mq_k0s, mq_k1s, mq_k2s, mq_k4s, mq_k5s, mq_k5n, mq_k5as, mq_k6s, mj_pu, mj_lo, mj_br, mj_hr, mj_hw, mq_gf, mq_len, mq_al, mq_pf, mq_ok, mj_re, mj_lk, mj_ldi, mj_ldl, mj_lda, mj_ii, mj_ll, mj_li, mj_i1, mj_s1, mj_s2, mj_tg, mj_c1, mj_c2, mj_ar, mj_aw, mq_cb, mq_oi, mj_rm, Value.category, q, bt_sl, hc, narrow]
    · simp [s42_0, s42_1, s42_2, s42_3, s42_5, s42_7, s42_8, s42_9, s42_10, s42_13, s42_15, s42_18, s42_20, s42_21, s42_24, s42_25, s42_28, s42_29, s42_32, s42_33, s42_36, s42_38, s42_39, s42_41, s42_43, s42_44, s42_45, s42_47, s42_48, s42_50, s42_51, s42_53, s42_54, s42_55, s42_58, s42_61, s42_62, s42_64, s42_67, s42_68, s42_71, s42_72, mq_k0s, mq_k1s, mq_k2s, mq_k4s, mq_k5s, mq_k5n, mq_k5as, mq_k6s, mj_pu, mj_lo, mj_br, mj_hr, mj_hw, mq_gf, mq_len, mq_al, mq_pf, mq_ok, mj_re, mj_lk, mj_ldi, mj_ldl, mj_lda, mj_ii, mj_ll, mj_li, mj_i1, mj_s1, mj_s2, mj_tg, mj_c1, mj_c2, mj_ar, mj_aw, mq_cb, mq_oi, mj_rm, Value.category, q, bt_sl, hc, narrow]
  | succ m ih =>
    intro j c hj
    have q : ¬ nI p + nI n ≤ nI (p + j) := by rw [nI_add]; exact nI_ge (by omega) (by omega)
    have q0 : ¬ nI (p + j) < 0 := nI_pos (by omega)
    have r := ih (j + 1) (bt_cs c (zs.getD (p + j) 0)) (by omega)
    rw [s42_5, bt_sl, List.foldl_cons]
    by_cases hk : p + j < zs.length
    · have q1 : nI (p + j) < Int32.ofNat (zs.map Value.int).length := by rw [List.length_map]; exact nI_lt hk hz
      have q2 := mq_ix (show p + j < (zs.map Value.int).length by rw [List.length_map]; exact hk) (by rw [List.length_map]; exact hz)
      have q3 : (zs.map Value.int)[p + j]? = some (.int (zs.getD (p + j) 0)) := by simp [List.getD, hk]
      generalize zs.getD (p + j) 0 = u at *
      generalize zs.map Value.int = vs at *
      simp [s42_0, s42_1, s42_2, s42_3, s42_7, s42_8, s42_9, s42_10, s42_13, s42_15, s42_18, s42_20, s42_21, s42_24, s42_25, s42_28, s42_29, s42_32, s42_33, s42_36, s42_38, s42_39, s42_41, s42_43, s42_44, s42_45, s42_47, s42_48, s42_50, s42_51, s42_53, s42_54, s42_55, s42_58, mq_k0s, mq_k1s, mq_k2s, mq_k4s, mq_k5s, mq_k5n, mq_k5as, mq_k6s, mj_pu, mj_lo, mj_br, mj_hr, mj_hw, mq_gf, mq_len, mq_al, mq_pf, mq_ok, mj_re, mj_lk, mj_ldi, mj_ldl, mj_lda, mj_ii, mj_ll, mj_li, mj_i1, mj_s1, mj_s2, mj_tg, mj_c1, mj_c2, mj_ar, mj_aw, mq_cb, mq_oi, mj_rm, Value.category, q, q0, q1, q2, q3, h1, h2, nI_1]
      refine mq_wk ?_ r
      simp [mq_sub, mj_lk, bt_cs]
    · have q1 : ¬ nI (p + j) < Int32.ofNat (zs.map Value.int).length := by rw [List.length_map]; exact nI_nlt (by omega) (by omega)
      have q3 : zs.getD (p + j) 0 = 0 := by simp [List.getD, hk]
      rw [q3] at r ⊢
      generalize zs.map Value.int = vs at *
      simp [s42_0, s42_1, s42_2, s42_3, s42_7, s42_8, s42_9, s42_10, s42_13, s42_15, s42_18, s42_20, s42_21, s42_24, s42_25, s42_28, s42_29, s42_32, s42_33, s42_36, s42_38, s42_39, s42_41, s42_43, s42_44, s42_45, s42_47, s42_48, s42_50, s42_51, s42_53, s42_54, s42_55, s42_58, mq_k0s, mq_k1s, mq_k2s, mq_k4s, mq_k5s, mq_k5n, mq_k5as, mq_k6s, mj_pu, mj_lo, mj_br, mj_hr, mj_hw, mq_gf, mq_len, mq_al, mq_pf, mq_ok, mj_re, mj_lk, mj_ldi, mj_ldl, mj_lda, mj_ii, mj_ll, mj_li, mj_i1, mj_s1, mj_s2, mj_tg, mj_c1, mj_c2, mj_ar, mj_aw, mq_cb, mq_oi, mj_rm, Value.category, q, q0, q1, h1, h2, nI_1]
      refine mq_wk ?_ r
      simp [mq_sub, mj_lk, bt_cs]
theorem v_check {d a b cap : Nat} {xs : List Int32} {M : mj_H} (h : bb M a b cap xs) {p n : Nat} (hn : p + n < 2 ^ 31) : ∃ w, mj_V (d + 1) 42 [.ref a, .int (nI p), .int (nI n)] M = some (some (.int w), M) ∧ (p + n ≤ xs.length → w = bt_ck ((xs.drop p).take n)) := by
  obtain ⟨ha, hb, hab, hcap, h8, h1, g, h2, hg⟩ := h
  have r := l_check (d := d) h1 h2 (by rw [hg]; exact hcap) hn n 0 0 (by omega)
  refine ⟨if (bt_sl (xs ++ g) (p + 0) n).foldl bt_cs 0 = 65535 then 0 else (bt_sl (xs ++ g) (p + 0) n).foldl bt_cs 0, ?_, fun hp => by rw [Nat.add_zero, bt_sl_in n p hp]; rfl⟩
  simp [c42, s42_0, s42_1, s42_2, s42_3, mq_k0s, mq_k1s, mq_k2s, mq_k4s, mq_k5s, mq_k5n, mq_k5as, mq_k6s, mj_pu, mj_lo, mj_br, mj_hr, mj_hw, mq_gf, mq_len, mq_al, mq_pf, mq_ok, mj_re, mj_lk, mj_ldi, mj_ldl, mj_lda, mj_ii, mj_ll, mj_li, mj_i1, mj_s1, mj_s2, mj_tg, mj_c1, mj_c2, mj_ar, mj_aw, mq_cb, mq_oi, mj_rm, Value.category]
  exact r
theorem v_four {d a b cap : Nat} {xs : List Int32} {M : mj_H} (h : bb M a b cap xs) {p : Nat} (hn : p + 4 < 2 ^ 31) : ∃ w, mj_V (d + 2) 53 [.ref a, .int (nI p)] M = some (some (.int w), M) ∧ (p + 4 ≤ xs.length → w = (bt_lo ((xs.drop p).take 4)).toInt32) := by
  obtain ⟨w, h1, h2⟩ := v_low (d := d) h hn
  have ha := h.2.2.2.2.2.1
  rw [show nI 4 = 4 from by decide] at h1
  refine ⟨w.toInt32, ?_, fun hp => by rw [h2 hp]⟩
  simp [c53, s53_0, s53_1, s53_2, s53_3, s53_6, s53_7, mq_k0s, mq_k1s, mq_k2s, mq_k4s, mq_k5s, mq_k5n, mq_k5as, mq_k6s, mj_pu, mj_lo, mj_br, mj_hr, mj_hw, mq_gf, mq_len, mq_al, mq_pf, mq_ok, mj_re, mj_lk, mj_ldi, mj_ldl, mj_lda, mj_ii, mj_ll, mj_li, mj_i1, mj_s1, mj_s2, mj_tg, mj_c1, mj_c2, mj_ar, mj_aw, mq_cb, mq_oi, mj_rm, Value.category, ha, h1, narrow]
/-- whether n items from p on are the other's from q on -/
def bt_mt (xs ys : List Int32) : Nat → Nat → Nat → Bool
  | _, _, 0 => true
  | p, q, m + 1 => !decide (xs.getD p (-1) = -1) && (decide (xs.getD p (-1) = ys.getD q (-1)) && bt_mt xs ys (p + 1) (q + 1) m)
theorem l_matches {d a b cap c e cap2 : Nat} {xs ys : List Int32} {M : mj_H} (hx : bb M a b cap xs) (hy : bb M c e cap2 ys) {p q n : Nat} (hp : p + n < 2 ^ 31) (hq : q + n < 2 ^ 31) : ∀ (m j : Nat), j + m = n →
    mj_Rn (d + 1) mj_m193 3 [(5, .int (nI j)), (0, .ref a), (1, .int (nI p)), (2, .ref c), (3, .int (nI q)), (4, .int (nI n))] [] M = some (some (.int (if bt_mt xs ys (p + j) (q + j) m then 1 else 0)), M) := by
  intro m
  have ha1 := hx.2.2.2.2.2.1
  have hc1 := hy.2.2.2.2.2.1
  induction m with
  | zero =>
    intro j hj
    have z : nI n ≤ nI j := nI_le (by omega) (by omega)
    simp [s193_0, s193_1, s193_3, s193_5, s193_7, s193_10, s193_11, s193_12, s193_14, s193_15, s193_18, s193_20, s193_22, s193_23, s193_26, s193_28, s193_29, s193_30, s193_32, s193_33, s193_36, s193_39, s193_40, s193_41, s193_44, s193_47, s193_48, mq_k0s, mq_k1s, mq_k2s, mq_k4s, mq_k5s, mq_k5n, mq_k5as, mq_k6s, mj_pu, mj_lo, mj_br, mj_hr, mj_hw, mq_gf, mq_len, mq_al, mq_pf, mq_ok, mj_re, mj_lk, mj_ldi, mj_ldl, mj_lda, mj_ii, mj_ll, mj_li, mj_i1, mj_s1, mj_s2, mj_tg, mj_c1, mj_c2, mj_ar, mj_aw, mq_cb, mq_oi, mj_rm, Value.category, z, bt_mt, narrow_b1]
  | succ m ih =>
    intro j hj
    have z : ¬ nI n ≤ nI j := nI_ge (by omega) (by omega)
    have r := ih (j + 1) (by omega)
    have v1 := v_item (d := d) hx (nI p + nI j)
    have v2 := v_item (d := d) hy (nI q + nI j)
    rw [nI_add, bt_at_nI (by omega)] at v1 v2
    rw [s193_3, bt_mt]
    generalize xs.getD (p + j) (-1) = u at *
    generalize ys.getD (q + j) (-1) = t at *
    by_cases h1 : u = -1
    · simp [s193_0, s193_1, s193_5, s193_7, s193_10, s193_11, s193_12, s193_14, s193_15, s193_18, s193_20, s193_22, s193_23, s193_26, s193_28, s193_29, s193_30, s193_32, s193_33, s193_36, s193_39, s193_40, s193_41, s193_44, s193_47, s193_48, mq_k0s, mq_k1s, mq_k2s, mq_k4s, mq_k5s, mq_k5n, mq_k5as, mq_k6s, mj_pu, mj_lo, mj_br, mj_hr, mj_hw, mq_gf, mq_len, mq_al, mq_pf, mq_ok, mj_re, mj_lk, mj_ldi, mj_ldl, mj_lda, mj_ii, mj_ll, mj_li, mj_i1, mj_s1, mj_s2, mj_tg, mj_c1, mj_c2, mj_ar, mj_aw, mq_cb, mq_oi, mj_rm, Value.category, z, ha1, hc1, nI_add, v1, h1, narrow_b0]
    · by_cases h2 : u = t
      · subst h2
        simp [s193_0, s193_1, s193_5, s193_7, s193_10, s193_11, s193_12, s193_14, s193_15, s193_18, s193_20, s193_22, s193_23, s193_26, s193_28, s193_29, s193_30, s193_32, s193_33, s193_36, s193_39, s193_40, s193_41, s193_44, s193_47, s193_48, mq_k0s, mq_k1s, mq_k2s, mq_k4s, mq_k5s, mq_k5n, mq_k5as, mq_k6s, mj_pu, mj_lo, mj_br, mj_hr, mj_hw, mq_gf, mq_len, mq_al, mq_pf, mq_ok, mj_re, mj_lk, mj_ldi, mj_ldl, mj_lda, mj_ii, mj_ll, mj_li, mj_i1, mj_s1, mj_s2, mj_tg, mj_c1, mj_c2, mj_ar, mj_aw, mq_cb, mq_oi, mj_rm, Value.category, z, ha1, hc1, nI_add, v1, v2, h1, nI_1]
        refine mq_wk ?_ r
        simp [mq_sub, mj_lk]
      · simp [s193_0, s193_1, s193_5, s193_7, s193_10, s193_11, s193_12, s193_14, s193_15, s193_18, s193_20, s193_22, s193_23, s193_26, s193_28, s193_29, s193_30, s193_32, s193_33, s193_36, s193_39, s193_40, s193_41, s193_44, s193_47, s193_48, mq_k0s, mq_k1s, mq_k2s, mq_k4s, mq_k5s, mq_k5n, mq_k5as, mq_k6s, mj_pu, mj_lo, mj_br, mj_hr, mj_hw, mq_gf, mq_len, mq_al, mq_pf, mq_ok, mj_re, mj_lk, mj_ldi, mj_ldl, mj_lda, mj_ii, mj_ll, mj_li, mj_i1, mj_s1, mj_s2, mj_tg, mj_c1, mj_c2, mj_ar, mj_aw, mq_cb, mq_oi, mj_rm, Value.category, z, ha1, hc1, nI_add, v1, v2, h1, h2, narrow_b0]
theorem v_matches {d a b cap c e cap2 : Nat} {xs ys : List Int32} {M : mj_H} (hx : bb M a b cap xs) (hy : bb M c e cap2 ys) {p q n : Nat} (hp : p + n < 2 ^ 31) (hq : q + n < 2 ^ 31) :
    mj_V (d + 2) 193 [.ref a, .int (nI p), .ref c, .int (nI q), .int (nI n)] M = some (some (.int (if bt_mt xs ys p q n then 1 else 0)), M) := by
  have r := l_matches (d := d) hx hy hp hq n 0 (by omega)
  rw [nI_0] at r
  simp [c193, s193_0, s193_1, mq_k0s, mq_k1s, mq_k2s, mq_k4s, mq_k5s, mq_k5n, mq_k5as, mq_k6s, mj_pu, mj_lo, mj_br, mj_hr, mj_hw, mq_gf, mq_len, mq_al, mq_pf, mq_ok, mj_re, mj_lk, mj_ldi, mj_ldl, mj_lda, mj_ii, mj_ll, mj_li, mj_i1, mj_s1, mj_s2, mj_tg, mj_c1, mj_c2, mj_ar, mj_aw, mq_cb, mq_oi, mj_rm, Value.category]
  exact r
