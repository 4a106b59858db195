/- 9 PasskeyHouse$Bytes.size()I -/
theorem s9_0 {d : Nat} {ls : mj_L} {st : List Value} {M : mj_H} : mj_Rn d mj_m9 0 ls st M = mq_k0 d mj_m9 1 ls M (mj_lda (mj_lk ls 0) st) := mj_R0 (r := (.aload_n 0, 1, 0, 0, 0)) rfl rfl
theorem s9_1 {d : Nat} {ls : mj_L} {st : List Value} {M : mj_H} : mj_Rn d mj_m9 1 ls st M = mq_k0 d mj_m9 4 ls M (mq_gf 1 1 st M) := (mj_R3 (r := (.getfield 21, 3, 1, 1, 8268)) rfl rfl).trans (congrArg (mq_k0 d mj_m9 4 ls M) mq_gf_eq)
theorem s9_4 {d : Nat} {ls : mj_L} {st : List Value} {M : mj_H} : mj_Rn d mj_m9 4 ls st M = mq_k6 M (mj_re (some .int) (.ireturn) st) := mj_R6 (r := (.ireturn, 1, 0, 0, 0)) rfl rfl
/- 12 PasskeyHouse$Bytes.clear()V -/
theorem s12_0 {d : Nat} {ls : mj_L} {st : List Value} {M : mj_H} : mj_Rn d mj_m12 0 ls st M = mq_k0 d mj_m12 1 ls M (mj_lda (mj_lk ls 0) st) := mj_R0 (r := (.aload_n 0, 1, 0, 0, 0)) rfl rfl
theorem s12_1 {d : Nat} {ls : mj_L} {st : List Value} {M : mj_H} : mj_Rn d mj_m12 1 ls st M = mj_Rn d mj_m12 2 ls (.int 0 :: st) M := mj_R0 (r := (.iconst 0, 1, 0, 0, 0)) rfl rfl
theorem s12_2 {d : Nat} {ls : mj_L} {st : List Value} {M : mj_H} : mj_Rn d mj_m12 2 ls st M = mq_k4 d mj_m12 5 ls (mq_pf 1 1 0 st M) := (mj_R4 (r := (.putfield 21, 3, 1, 1, 8268)) rfl rfl).trans (congrArg (mq_k4 d mj_m12 5 ls) (mq_pf_eq rfl rfl))
theorem s12_5 {d : Nat} {ls : mj_L} {st : List Value} {M : mj_H} : mj_Rn d mj_m12 5 ls st M = mq_k6 M (mj_re none (.return_) st) := mj_R6 (r := (.return_, 1, 0, 0, 0)) rfl rfl
/- 14 PasskeyHouse$Bytes.item(I)I -/
theorem s14_0 {d : Nat} {ls : mj_L} {st : List Value} {M : mj_H} : mj_Rn d mj_m14 0 ls st M = mq_k0 d mj_m14 1 ls M (mj_ldi (mj_lk ls 1) st) := mj_R0 (r := (.iload_n 1, 1, 0, 0, 0)) rfl rfl
theorem s14_1 {d : Nat} {ls : mj_L} {st : List Value} {M : mj_H} : mj_Rn d mj_m14 1 ls st M = mq_k2 d mj_m14 ls M (mj_br (.ifCond .lt 20) 1 st) := mj_R2 (r := (.ifCond .lt 20, 3, 0, 0, 0)) rfl rfl
theorem s14_4 {d : Nat} {ls : mj_L} {st : List Value} {M : mj_H} : mj_Rn d mj_m14 4 ls st M = mq_k0 d mj_m14 5 ls M (mj_ldi (mj_lk ls 1) st) := mj_R0 (r := (.iload_n 1, 1, 0, 0, 0)) rfl rfl
theorem s14_5 {d : Nat} {ls : mj_L} {st : List Value} {M : mj_H} : mj_Rn d mj_m14 5 ls st M = mq_k0 d mj_m14 6 ls M (mj_lda (mj_lk ls 0) st) := mj_R0 (r := (.aload_n 0, 1, 0, 0, 0)) rfl rfl
theorem s14_6 {d : Nat} {ls : mj_L} {st : List Value} {M : mj_H} : mj_Rn d mj_m14 6 ls st M = mq_k0 d mj_m14 9 ls M (mq_gf 1 1 st M) := (mj_R3 (r := (.getfield 21, 3, 1, 1, 8268)) rfl rfl).trans (congrArg (mq_k0 d mj_m14 9 ls M) mq_gf_eq)
theorem s14_9 {d : Nat} {ls : mj_L} {st : List Value} {M : mj_H} : mj_Rn d mj_m14 9 ls st M = mq_k2 d mj_m14 ls M (mj_br (.if_icmp .ge 12) 9 st) := mj_R2 (r := (.if_icmp .ge 12, 3, 0, 0, 0)) rfl rfl
theorem s14_12 {d : Nat} {ls : mj_L} {st : List Value} {M : mj_H} : mj_Rn d mj_m14 12 ls st M = mq_k0 d mj_m14 13 ls M (mj_ldi (mj_lk ls 1) st) := mj_R0 (r := (.iload_n 1, 1, 0, 0, 0)) rfl rfl
theorem s14_13 {d : Nat} {ls : mj_L} {st : List Value} {M : mj_H} : mj_Rn d mj_m14 13 ls st M = mq_k0 d mj_m14 14 ls M (mj_lda (mj_lk ls 0) st) := mj_R0 (r := (.aload_n 0, 1, 0, 0, 0)) rfl rfl
theorem s14_14 {d : Nat} {ls : mj_L} {st : List Value} {M : mj_H} : mj_Rn d mj_m14 14 ls st M = mq_k0 d mj_m14 17 ls M (mq_gf 1 0 st M) := (mj_R3 (r := (.getfield 15, 3, 1, 0, 8266)) rfl rfl).trans (congrArg (mq_k0 d mj_m14 17 ls M) mq_gf_eq)
theorem s14_17 {d : Nat} {ls : mj_L} {st : List Value} {M : mj_H} : mj_Rn d mj_m14 17 ls st M = mq_k0 d mj_m14 18 ls M (mq_len st M) := (mj_R3 (r := (.arraylength, 1, 0, 0, 0)) rfl rfl).trans (congrArg (mq_k0 d mj_m14 18 ls M) mq_len_eq)
theorem s14_18 {d : Nat} {ls : mj_L} {st : List Value} {M : mj_H} : mj_Rn d mj_m14 18 ls st M = mq_k2 d mj_m14 ls M (mj_br (.if_icmp .lt 7) 18 st) := mj_R2 (r := (.if_icmp .lt 7, 3, 0, 0, 0)) rfl rfl
theorem s14_21 {d : Nat} {ls : mj_L} {st : List Value} {M : mj_H} : mj_Rn d mj_m14 21 ls st M = mj_Rn d mj_m14 22 ls (.int (-1) :: st) M := mj_R0 (r := (.iconst (-1), 1, 0, 0, 0)) rfl rfl
theorem s14_22 {d : Nat} {ls : mj_L} {st : List Value} {M : mj_H} : mj_Rn d mj_m14 22 ls st M = mj_Rn d mj_m14 31 ls st M := mj_R2 (r := (.goto 9, 3, 0, 0, 0)) rfl rfl
theorem s14_25 {d : Nat} {ls : mj_L} {st : List Value} {M : mj_H} : mj_Rn d mj_m14 25 ls st M = mq_k0 d mj_m14 26 ls M (mj_lda (mj_lk ls 0) st) := mj_R0 (r := (.aload_n 0, 1, 0, 0, 0)) rfl rfl
theorem s14_26 {d : Nat} {ls : mj_L} {st : List Value} {M : mj_H} : mj_Rn d mj_m14 26 ls st M = mq_k0 d mj_m14 29 ls M (mq_gf 1 0 st M) := (mj_R3 (r := (.getfield 15, 3, 1, 0, 8266)) rfl rfl).trans (congrArg (mq_k0 d mj_m14 29 ls M) mq_gf_eq)
theorem s14_29 {d : Nat} {ls : mj_L} {st : List Value} {M : mj_H} : mj_Rn d mj_m14 29 ls st M = mq_k0 d mj_m14 30 ls M (mj_ldi (mj_lk ls 1) st) := mj_R0 (r := (.iload_n 1, 1, 0, 0, 0)) rfl rfl
theorem s14_30 {d : Nat} {ls : mj_L} {st : List Value} {M : mj_H} : mj_Rn d mj_m14 30 ls st M = mq_k0 d mj_m14 31 ls M (mq_al [1000] st M) := (mj_R3 (r := (.iaload, 1, 0, 0, 0)) rfl rfl).trans (congrArg (mq_k0 d mj_m14 31 ls M) mq_ali_eq)
theorem s14_31 {d : Nat} {ls : mj_L} {st : List Value} {M : mj_H} : mj_Rn d mj_m14 31 ls st M = mq_k6 M (mj_re (some .int) (.ireturn) st) := mj_R6 (r := (.ireturn, 1, 0, 0, 0)) rfl rfl
/- 45 PasskeyHouse$Bytes.push(I)V -/
theorem s45_0 {d : Nat} {ls : mj_L} {st : List Value} {M : mj_H} : mj_Rn d mj_m45 0 ls st M = mq_k0 d mj_m45 1 ls M (mj_lda (mj_lk ls 0) st) := mj_R0 (r := (.aload_n 0, 1, 0, 0, 0)) rfl rfl
theorem s45_1 {d : Nat} {ls : mj_L} {st : List Value} {M : mj_H} : mj_Rn d mj_m45 1 ls st M = mq_k0 d mj_m45 4 ls M (mq_gf 1 1 st M) := (mj_R3 (r := (.getfield 21, 3, 1, 1, 8268)) rfl rfl).trans (congrArg (mq_k0 d mj_m45 4 ls M) mq_gf_eq)
theorem s45_4 {d : Nat} {ls : mj_L} {st : List Value} {M : mj_H} : mj_Rn d mj_m45 4 ls st M = mq_k2 d mj_m45 ls M (mj_br (.ifCond .lt 39) 4 st) := mj_R2 (r := (.ifCond .lt 39, 3, 0, 0, 0)) rfl rfl
theorem s45_7 {d : Nat} {ls : mj_L} {st : List Value} {M : mj_H} : mj_Rn d mj_m45 7 ls st M = mq_k0 d mj_m45 8 ls M (mj_lda (mj_lk ls 0) st) := mj_R0 (r := (.aload_n 0, 1, 0, 0, 0)) rfl rfl
theorem s45_8 {d : Nat} {ls : mj_L} {st : List Value} {M : mj_H} : mj_Rn d mj_m45 8 ls st M = mq_k0 d mj_m45 11 ls M (mq_gf 1 1 st M) := (mj_R3 (r := (.getfield 21, 3, 1, 1, 8268)) rfl rfl).trans (congrArg (mq_k0 d mj_m45 11 ls M) mq_gf_eq)
theorem s45_11 {d : Nat} {ls : mj_L} {st : List Value} {M : mj_H} : mj_Rn d mj_m45 11 ls st M = mq_k0 d mj_m45 12 ls M (mj_lda (mj_lk ls 0) st) := mj_R0 (r := (.aload_n 0, 1, 0, 0, 0)) rfl rfl
theorem s45_12 {d : Nat} {ls : mj_L} {st : List Value} {M : mj_H} : mj_Rn d mj_m45 12 ls st M = mq_k0 d mj_m45 15 ls M (mq_gf 1 0 st M) := (mj_R3 (r := (.getfield 15, 3, 1, 0, 8266)) rfl rfl).trans (congrArg (mq_k0 d mj_m45 15 ls M) mq_gf_eq)
theorem s45_15 {d : Nat} {ls : mj_L} {st : List Value} {M : mj_H} : mj_Rn d mj_m45 15 ls st M = mq_k0 d mj_m45 16 ls M (mq_len st M) := (mj_R3 (r := (.arraylength, 1, 0, 0, 0)) rfl rfl).trans (congrArg (mq_k0 d mj_m45 16 ls M) mq_len_eq)
theorem s45_16 {d : Nat} {ls : mj_L} {st : List Value} {M : mj_H} : mj_Rn d mj_m45 16 ls st M = mq_k2 d mj_m45 ls M (mj_br (.if_icmp .ge 27) 16 st) := mj_R2 (r := (.if_icmp .ge 27, 3, 0, 0, 0)) rfl rfl
theorem s45_19 {d : Nat} {ls : mj_L} {st : List Value} {M : mj_H} : mj_Rn d mj_m45 19 ls st M = mq_k0 d mj_m45 20 ls M (mj_lda (mj_lk ls 0) st) := mj_R0 (r := (.aload_n 0, 1, 0, 0, 0)) rfl rfl
theorem s45_20 {d : Nat} {ls : mj_L} {st : List Value} {M : mj_H} : mj_Rn d mj_m45 20 ls st M = mq_k0 d mj_m45 23 ls M (mq_gf 1 0 st M) := (mj_R3 (r := (.getfield 15, 3, 1, 0, 8266)) rfl rfl).trans (congrArg (mq_k0 d mj_m45 23 ls M) mq_gf_eq)
theorem s45_23 {d : Nat} {ls : mj_L} {st : List Value} {M : mj_H} : mj_Rn d mj_m45 23 ls st M = mq_k0 d mj_m45 24 ls M (mj_lda (mj_lk ls 0) st) := mj_R0 (r := (.aload_n 0, 1, 0, 0, 0)) rfl rfl
theorem s45_24 {d : Nat} {ls : mj_L} {st : List Value} {M : mj_H} : mj_Rn d mj_m45 24 ls st M = mq_k0 d mj_m45 27 ls M (mq_gf 1 1 st M) := (mj_R3 (r := (.getfield 21, 3, 1, 1, 8268)) rfl rfl).trans (congrArg (mq_k0 d mj_m45 27 ls M) mq_gf_eq)
theorem s45_27 {d : Nat} {ls : mj_L} {st : List Value} {M : mj_H} : mj_Rn d mj_m45 27 ls st M = mq_k0 d mj_m45 28 ls M (mj_ldi (mj_lk ls 1) st) := mj_R0 (r := (.iload_n 1, 1, 0, 0, 0)) rfl rfl
theorem s45_28 {d : Nat} {ls : mj_L} {st : List Value} {M : mj_H} : mj_Rn d mj_m45 28 ls st M = mj_Rn d mj_m45 31 ls (.int 255 :: st) M := mj_R0 (r := (.sipush 255, 3, 0, 0, 0)) rfl rfl
theorem s45_31 {d : Nat} {ls : mj_L} {st : List Value} {M : mj_H} : mj_Rn d mj_m45 31 ls st M = mq_k0 d mj_m45 32 ls M (mj_pu .iand ls st) := mj_R0 (r := (.iand, 1, 0, 0, 0)) rfl rfl
theorem s45_32 {d : Nat} {ls : mj_L} {st : List Value} {M : mj_H} : mj_Rn d mj_m45 32 ls st M = mq_k4 d mj_m45 33 ls (mj_hw (.iastore, 1, 0, 0, 0) st M) := mj_R4 (r := (.iastore, 1, 0, 0, 0)) rfl rfl
theorem s45_33 {d : Nat} {ls : mj_L} {st : List Value} {M : mj_H} : mj_Rn d mj_m45 33 ls st M = mq_k0 d mj_m45 34 ls M (mj_lda (mj_lk ls 0) st) := mj_R0 (r := (.aload_n 0, 1, 0, 0, 0)) rfl rfl
theorem s45_34 {d : Nat} {ls : mj_L} {st : List Value} {M : mj_H} : mj_Rn d mj_m45 34 ls st M = mq_k0 d mj_m45 35 ls M (mj_pu .dup ls st) := mj_R0 (r := (.dup, 1, 0, 0, 0)) rfl rfl
theorem s45_35 {d : Nat} {ls : mj_L} {st : List Value} {M : mj_H} : mj_Rn d mj_m45 35 ls st M = mq_k0 d mj_m45 38 ls M (mq_gf 1 1 st M) := (mj_R3 (r := (.getfield 21, 3, 1, 1, 8268)) rfl rfl).trans (congrArg (mq_k0 d mj_m45 38 ls M) mq_gf_eq)
theorem s45_38 {d : Nat} {ls : mj_L} {st : List Value} {M : mj_H} : mj_Rn d mj_m45 38 ls st M = mj_Rn d mj_m45 39 ls (.int 1 :: st) M := mj_R0 (r := (.iconst 1, 1, 0, 0, 0)) rfl rfl
theorem s45_39 {d : Nat} {ls : mj_L} {st : List Value} {M : mj_H} : mj_Rn d mj_m45 39 ls st M = mq_k0 d mj_m45 40 ls M (mj_pu .iadd ls st) := mj_R0 (r := (.iadd, 1, 0, 0, 0)) rfl rfl
theorem s45_40 {d : Nat} {ls : mj_L} {st : List Value} {M : mj_H} : mj_Rn d mj_m45 40 ls st M = mq_k4 d mj_m45 43 ls (mq_pf 1 1 0 st M) := (mj_R4 (r := (.putfield 21, 3, 1, 1, 8268)) rfl rfl).trans (congrArg (mq_k4 d mj_m45 43 ls) (mq_pf_eq rfl rfl))
theorem s45_43 {d : Nat} {ls : mj_L} {st : List Value} {M : mj_H} : mj_Rn d mj_m45 43 ls st M = mq_k6 M (mj_re none (.return_) st) := mj_R6 (r := (.return_, 1, 0, 0, 0)) rfl rfl
theorem c9 {d : Nat} {a0 : Nat} {M : mj_H} : mj_V (d + 1) 9 [.ref a0] M = mj_Rn d mj_m9 0 [(0, .ref a0)] [] M := mj_V_go rfl (Nat.le_of_ble_eq_true rfl)
theorem c12 {d : Nat} {a0 : Nat} {M : mj_H} : mj_V (d + 1) 12 [.ref a0] M = mj_Rn d mj_m12 0 [(0, .ref a0)] [] M := mj_V_go rfl (Nat.le_of_ble_eq_true rfl)
theorem c14 {d : Nat} {a0 : Nat} {x1 : Int32} {M : mj_H} : mj_V (d + 1) 14 [.ref a0, .int x1] M = mj_Rn d mj_m14 0 [(0, .ref a0), (1, .int x1)] [] M := mj_V_go rfl (Nat.le_of_ble_eq_true rfl)
theorem c45 {d : Nat} {a0 : Nat} {x1 : Int32} {M : mj_H} : mj_V (d + 1) 45 [.ref a0, .int x1] M = mj_Rn d mj_m45 0 [(0, .ref a0), (1, .int x1)] [] M := mj_V_go rfl (Nat.le_of_ble_eq_true rfl)
theorem t_size {d a b : Nat} {n : Int32} {M : mj_H} (h : M[a]? = some (1, [.ref b, .int n])) : mj_V (d + 1) 9 [.ref a] M = some (some (.int n), M) := by
  simp [c9, s9_0, s9_1, s9_4, mq_k0s, mq_k1s, mq_k2s, mq_k4s, mq_k5s, mq_k5n, mq_k5as, mq_k6s, mj_pu, mj_lo, mj_br, mj_hr, mj_hw, mq_gf, mq_len, mq_al, mq_pf, mq_ok, mj_re, mj_lk, mj_ldi, mj_ldl, mj_lda, mj_ii, mj_ll, mj_li, mj_i1, mj_s1, mj_s2, mj_tg, mj_c1, mj_c2, mj_ar, mj_aw, mq_cb, mq_oi, mj_rm, Value.category, h, narrow]
theorem t_clear {d a b : Nat} {n : Int32} {M : mj_H} (ha : mj_E ≤ a) (h : M[a]? = some (1, [.ref b, .int n])) : mj_V (d + 1) 12 [.ref a] M = some (none, M.set a (1, [.ref b, .int 0])) := by
  simp [c12, s12_0, s12_1, s12_2, s12_5, mq_k0s, mq_k1s, mq_k2s, mq_k4s, mq_k5s, mq_k5n, mq_k5as, mq_k6s, mj_pu, mj_lo, mj_br, mj_hr, mj_hw, mq_gf, mq_len, mq_al, mq_pf, mq_ok, mj_re, mj_lk, mj_ldi, mj_ldl, mj_lda, mj_ii, mj_ll, mj_li, mj_i1, mj_s1, mj_s2, mj_tg, mj_c1, mj_c2, mj_ar, mj_aw, mq_cb, mq_oi, mj_rm, Value.category, h, Nat.not_lt.mpr ha]
theorem mq_ix {k n : Nat} (hk : k < n) (hn : n < 2 ^ 31) : mj_ix (nI k) n = some k := by
  unfold mj_ix
  rw [if_neg (nI_in hk hn), nI_clamp (by omega)]
theorem t_item {d a b k : Nat} {xs : List Int32} {n : Nat} {M : mj_H} (h : M[a]? = some (1, [.ref b, .int (nI n)])) (hb : M[b]? = some (1000, xs.map .int)) (hn : n ≤ xs.length) (hl : xs.length < 2 ^ 31) (hk : k < n) : mj_V (d + 1) 14 [.ref a, .int (nI k)] M = some (some (.int (xs.getD k 0)), M) := by
  have h1 : ¬ nI k < 0 := nI_pos (by omega)
  have h2 : ¬ nI n ≤ nI k := nI_ge hk (by omega)
  have h3 : nI k < Int32.ofNat xs.length := nI_lt (by omega) hl
  simp [c14, s14_0, s14_1, s14_4, s14_5, s14_6, s14_9, s14_12, s14_13, s14_14, s14_17, s14_18, s14_21, s14_22, s14_25, s14_26, s14_29, s14_30, s14_31, mq_k0s, mq_k1s, mq_k2s, mq_k4s, mq_k5s, mq_k5n, mq_k5as, mq_k6s, mj_pu, mj_lo, mj_br, mj_hr, mj_hw, mq_gf, mq_len, mq_al, mq_pf, mq_ok, mj_re, mj_lk, mj_ldi, mj_ldl, mj_lda, mj_ii, mj_ll, mj_li, mj_i1, mj_s1, mj_s2, mj_tg, mj_c1, mj_c2, mj_ar, mj_aw, mq_cb, mq_oi, mj_rm, Value.category, h, hb, h1, h2, h3, mq_ix (show k < xs.length by omega) hl, narrow]
theorem t_push {d a b : Nat} {xs : List Int32} {n : Nat} {v : Int32} {M : mj_H} (ha : mj_E ≤ a) (hb' : mj_E ≤ b) (hab : a ≠ b) (h : M[a]? = some (1, [.ref b, .int (nI n)])) (hb : M[b]? = some (1000, xs.map .int)) (hn : n < xs.length) (hl : xs.length < 2 ^ 31) : mj_V (d + 1) 45 [.ref a, .int v] M = some (none, (M.set b (1000, (xs.set n (v &&& 255)).map .int)).set a (1, [.ref b, .int (nI (n + 1))])) := by
  have h1 : ¬ nI n < 0 := nI_pos (by omega)
  have h3 : ¬ Int32.ofNat xs.length ≤ nI n := nI_ge hn hl
  simp [c45, s45_0, s45_1, s45_4, s45_7, s45_8, s45_11, s45_12, s45_15, s45_16, s45_19, s45_20, s45_23, s45_24, s45_27, s45_28, s45_31, s45_32, s45_33, s45_34, s45_35, s45_38, s45_39, s45_40, s45_43, mq_k0s, mq_k1s, mq_k2s, mq_k4s, mq_k5s, mq_k5n, mq_k5as, mq_k6s, mj_pu, mj_lo, mj_br, mj_hr, mj_hw, mq_gf, mq_len, mq_al, mq_pf, mq_ok, mj_re, mj_lk, mj_ldi, mj_ldl, mj_lda, mj_ii, mj_ll, mj_li, mj_i1, mj_s1, mj_s2, mj_tg, mj_c1, mj_c2, mj_ar, mj_aw, mq_cb, mq_oi, mj_rm, Value.category, h, hb, h1, h3, mq_ix hn hl, Nat.not_lt.mpr ha, Nat.not_lt.mpr hb', hab, Ne.symm hab, List.getElem?_set, nI_1]
