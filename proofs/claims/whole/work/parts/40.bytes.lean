/-! Class: Bytes. -/
/- 9 PasskeyHouse$Bytes.size()I -/
theorem s9_0 {d : Nat} {ls : mj_L} {st : List Value} {M : mj_H} : mj_Rn d mj_m9 0 ls st M = mq_k0 d mj_m9 1 ls M (mj_lda (mj_lk ls 0) st) := mj_R0 (r := (.aload_n 0, 1, 0, 0, 0)) rfl rfl
theorem s9_1 {d : Nat} {ls : mj_L} {st : List Value} {M : mj_H} : mj_Rn d mj_m9 1 ls st M = mq_k0 d mj_m9 4 ls M (mq_gf 1 1 st M) := (mj_R3 (r := (.getfield 21, 3, 1, 1, 8268)) rfl rfl).trans (congrArg (mq_k0 d mj_m9 4 ls M) mq_gf_eq)
theorem s9_4 {d : Nat} {ls : mj_L} {st : List Value} {M : mj_H} : mj_Rn d mj_m9 4 ls st M = mq_k6 M (mj_re (some .int) (.ireturn) st) := mj_R6 (r := (.ireturn, 1, 0, 0, 0)) rfl rfl
/- 12 PasskeyHouse$Bytes.clear()V -/
theorem s12_0 {d : Nat} {ls : mj_L} {st : List Value} {M : mj_H} : mj_Rn d mj_m12 0 ls st M = mq_k0 d mj_m12 1 ls M (mj_lda (mj_lk ls 0) st) := mj_R0 (r := (.aload_n 0, 1, 0, 0, 0)) rfl rfl
theorem s12_1 {d : Nat} {ls : mj_L} {st : List Value} {M : mj_H} : mj_Rn d mj_m12 1 ls st M = mj_Rn d mj_m12 2 ls (.int 0 :: st) M := mj_R0 (r := (.iconst 0, 1, 0, 0, 0)) rfl rfl
theorem s12_2 {d : Nat} {ls : mj_L} {st : List Value} {M : mj_H} : mj_Rn d mj_m12 2 ls st M = mq_k4 d mj_m12 5 ls (mq_pf 1 1 0 st M) := (mj_R4 (r := (.putfield 21, 3, 1, 1, 8268)) rfl rfl).trans (congrArg (mq_k4 d mj_m12 5 ls) (mq_pf_eq rfl rfl))
theorem s12_5 {d : Nat} {ls : mj_L} {st : List Value} {M : mj_H} : mj_Rn d mj_m12 5 ls st M = mq_k6 M (mj_re none (.return_) st) := mj_R6 (r := (.return_, 1, 0, 0, 0)) rfl rfl
/- 14 PasskeyHouse$Bytes.item(I)I -/
theorem s14_0 {d : Nat} {ls : mj_L} {st : List Value} {M : mj_H} : mj_Rn d mj_m14 0 ls st M = mq_k0 d mj_m14 1 ls M (mj_ldi (mj_lk ls 1) st) := mj_R0 (r := (.iload_n 1, 1, 0, 0, 0)) rfl rfl
theorem s14_1 {d : Nat} {ls : mj_L} {st : List Value} {M : mj_H} : mj_Rn d mj_m14 1 ls st M = mq_k2 d mj_m14 ls M (mj_br (.ifCond .lt 20) 1 st) := mj_R2 (r := (.ifCond .lt 20, 3, 0, 0, 0)) rfl rfl
theorem s14_4 {d : Nat} {ls : mj_L} {st : List Value} {M : mj_H} : mj_Rn d mj_m14 4 ls st M = mq_k0 d mj_m14 5 ls M (mj_ldi (mj_lk ls 1) st) := mj_R0 (r := (.iload_n 1, 1, 0, 0, 0)) rfl rfl
theorem s14_5 {d : Nat} {ls : mj_L} {st : List Value} {M : mj_H} : mj_Rn d mj_m14 5 ls st M = mq_k0 d mj_m14 6 ls M (mj_lda (mj_lk ls 0) st) := mj_R0 (r := (.aload_n 0, 1, 0, 0, 0)) rfl rfl
theorem s14_6 {d : Nat} {ls : mj_L} {st : List Value} {M : mj_H} : mj_Rn d mj_m14 6 ls st M = mq_k0 d mj_m14 9 ls M (mq_gf 1 1 st M) := (mj_R3 (r := (.getfield 21, 3, 1, 1, 8268)) rfl rfl).trans (congrArg (mq_k0 d mj_m14 9 ls M) mq_gf_eq)
theorem s14_9 {d : Nat} {ls : mj_L} {st : List Value} {M : mj_H} : mj_Rn d mj_m14 9 ls st M = mq_k2 d mj_m14 ls M (mj_br (.if_icmp .ge 12) 9 st) := mj_R2 (r := (.if_icmp .ge 12, 3, 0, 0, 0)) rfl rfl
theorem s14_12 {d : Nat} {ls : mj_L} {st : List Value} {M : mj_H} : mj_Rn d mj_m14 12 ls st M = mq_k0 d mj_m14 13 ls M (mj_ldi (mj_lk ls 1) st) := mj_R0 (r := (.iload_n 1, 1, 0, 0, 0)) rfl rfl
theorem s14_13 {d : Nat} {ls : mj_L} {st : List Value} {M : mj_H} : mj_Rn d mj_m14 13 ls st M = mq_k0 d mj_m14 14 ls M (mj_lda (mj_lk ls 0) st) := mj_R0 (r := (.aload_n 0, 1, 0, 0, 0)) rfl rfl
theorem s14_14 {d : Nat} {ls : mj_L} {st : List Value} {M : mj_H} : mj_Rn d mj_m14 14 ls st M = mq_k0 d mj_m14 17 ls M (mq_gf 1 0 st M) := (mj_R3 (r := (.getfield 15, 3, 1, 0, 8266)) rfl rfl).trans (congrArg (mq_k0 d mj_m14 17 ls M) mq_gf_eq)
theorem s14_17 {d : Nat} {ls : mj_L} {st : List Value} {M : mj_H} : mj_Rn d mj_m14 17 ls st M = mq_k0 d mj_m14 18 ls M (mq_len st M) := (mj_R3 (r := (.arraylength, 1, 0, 0, 0)) rfl rfl).trans (congrArg (mq_k0 d mj_m14 18 ls M) mq_len_eq)
theorem s14_18 {d : Nat} {ls : mj_L} {st : List Value} {M : mj_H} : mj_Rn d mj_m14 18 ls st M = mq_k2 d mj_m14 ls M (mj_br (.if_icmp .lt 7) 18 st) := mj_R2 (r := (.if_icmp .lt 7, 3, 0, 0, 0)) rfl rfl
theorem s14_21 {d : Nat} {ls : mj_L} {st : List Value} {M : mj_H} : mj_Rn d mj_m14 21 ls st M = mj_Rn d mj_m14 22 ls (.int (-1) :: st) M := mj_R0 (r := (.iconst (-1), 1, 0, 0, 0)) rfl rfl
theorem s14_22 {d : Nat} {ls : mj_L} {st : List Value} {M : mj_H} : mj_Rn d mj_m14 22 ls st M = mj_Rn d mj_m14 31 ls st M := mj_R2 (r := (.goto 9, 3, 0, 0, 0)) rfl rfl
theorem s14_25 {d : Nat} {ls : mj_L} {st : List Value} {M : mj_H} : mj_Rn d mj_m14 25 ls st M = mq_k0 d mj_m14 26 ls M (mj_lda (mj_lk ls 0) st) := mj_R0 (r := (.aload_n 0, 1, 0, 0, 0)) rfl rfl
theorem s14_26 {d : Nat} {ls : mj_L} {st : List Value} {M : mj_H} : mj_Rn d mj_m14 26 ls st M = mq_k0 d mj_m14 29 ls M (mq_gf 1 0 st M) := (mj_R3 (r := (.getfield 15, 3, 1, 0, 8266)) rfl rfl).trans (congrArg (mq_k0 d mj_m14 29 ls M) mq_gf_eq)
theorem s14_29 {d : Nat} {ls : mj_L} {st : List Value} {M : mj_H} : mj_Rn d mj_m14 29 ls st M = mq_k0 d mj_m14 30 ls M (mj_ldi (mj_lk ls 1) st) := mj_R0 (r := (.iload_n 1, 1, 0, 0, 0)) rfl rfl
theorem s14_30 {d : Nat} {ls : mj_L} {st : List Value} {M : mj_H} : mj_Rn d mj_m14 30 ls st M = mq_k0 d mj_m14 31 ls M (mq_al [1000] st M) := (mj_R3 (r := (.iaload, 1, 0, 0, 0)) rfl rfl).trans (congrArg (mq_k0 d mj_m14 31 ls M) mq_ali_eq)
theorem s14_31 {d : Nat} {ls : mj_L} {st : List Value} {M : mj_H} : mj_Rn d mj_m14 31 ls st M = mq_k6 M (mj_re (some .int) (.ireturn) st) := mj_R6 (r := (.ireturn, 1, 0, 0, 0)) rfl rfl
/- 16 PasskeyHouse$Bytes.put(II)V -/
theorem s16_0 {d : Nat} {ls : mj_L} {st : List Value} {M : mj_H} : mj_Rn d mj_m16 0 ls st M = mq_k0 d mj_m16 1 ls M (mj_ldi (mj_lk ls 1) st) := mj_R0 (r := (.iload_n 1, 1, 0, 0, 0)) rfl rfl
theorem s16_1 {d : Nat} {ls : mj_L} {st : List Value} {M : mj_H} : mj_Rn d mj_m16 1 ls st M = mq_k2 d mj_m16 ls M (mj_br (.ifCond .lt 31) 1 st) := mj_R2 (r := (.ifCond .lt 31, 3, 0, 0, 0)) rfl rfl
theorem s16_4 {d : Nat} {ls : mj_L} {st : List Value} {M : mj_H} : mj_Rn d mj_m16 4 ls st M = mq_k0 d mj_m16 5 ls M (mj_ldi (mj_lk ls 1) st) := mj_R0 (r := (.iload_n 1, 1, 0, 0, 0)) rfl rfl
theorem s16_5 {d : Nat} {ls : mj_L} {st : List Value} {M : mj_H} : mj_Rn d mj_m16 5 ls st M = mq_k0 d mj_m16 6 ls M (mj_lda (mj_lk ls 0) st) := mj_R0 (r := (.aload_n 0, 1, 0, 0, 0)) rfl rfl
theorem s16_6 {d : Nat} {ls : mj_L} {st : List Value} {M : mj_H} : mj_Rn d mj_m16 6 ls st M = mq_k0 d mj_m16 9 ls M (mq_gf 1 1 st M) := (mj_R3 (r := (.getfield 21, 3, 1, 1, 8268)) rfl rfl).trans (congrArg (mq_k0 d mj_m16 9 ls M) mq_gf_eq)
theorem s16_9 {d : Nat} {ls : mj_L} {st : List Value} {M : mj_H} : mj_Rn d mj_m16 9 ls st M = mq_k2 d mj_m16 ls M (mj_br (.if_icmp .ge 23) 9 st) := mj_R2 (r := (.if_icmp .ge 23, 3, 0, 0, 0)) rfl rfl
theorem s16_12 {d : Nat} {ls : mj_L} {st : List Value} {M : mj_H} : mj_Rn d mj_m16 12 ls st M = mq_k0 d mj_m16 13 ls M (mj_ldi (mj_lk ls 1) st) := mj_R0 (r := (.iload_n 1, 1, 0, 0, 0)) rfl rfl
theorem s16_13 {d : Nat} {ls : mj_L} {st : List Value} {M : mj_H} : mj_Rn d mj_m16 13 ls st M = mq_k0 d mj_m16 14 ls M (mj_lda (mj_lk ls 0) st) := mj_R0 (r := (.aload_n 0, 1, 0, 0, 0)) rfl rfl
theorem s16_14 {d : Nat} {ls : mj_L} {st : List Value} {M : mj_H} : mj_Rn d mj_m16 14 ls st M = mq_k0 d mj_m16 17 ls M (mq_gf 1 0 st M) := (mj_R3 (r := (.getfield 15, 3, 1, 0, 8266)) rfl rfl).trans (congrArg (mq_k0 d mj_m16 17 ls M) mq_gf_eq)
theorem s16_17 {d : Nat} {ls : mj_L} {st : List Value} {M : mj_H} : mj_Rn d mj_m16 17 ls st M = mq_k0 d mj_m16 18 ls M (mq_len st M) := (mj_R3 (r := (.arraylength, 1, 0, 0, 0)) rfl rfl).trans (congrArg (mq_k0 d mj_m16 18 ls M) mq_len_eq)
theorem s16_18 {d : Nat} {ls : mj_L} {st : List Value} {M : mj_H} : mj_Rn d mj_m16 18 ls st M = mq_k2 d mj_m16 ls M (mj_br (.if_icmp .ge 14) 18 st) := mj_R2 (r := (.if_icmp .ge 14, 3, 0, 0, 0)) rfl rfl
theorem s16_21 {d : Nat} {ls : mj_L} {st : List Value} {M : mj_H} : mj_Rn d mj_m16 21 ls st M = mq_k0 d mj_m16 22 ls M (mj_lda (mj_lk ls 0) st) := mj_R0 (r := (.aload_n 0, 1, 0, 0, 0)) rfl rfl
theorem s16_22 {d : Nat} {ls : mj_L} {st : List Value} {M : mj_H} : mj_Rn d mj_m16 22 ls st M = mq_k0 d mj_m16 25 ls M (mq_gf 1 0 st M) := (mj_R3 (r := (.getfield 15, 3, 1, 0, 8266)) rfl rfl).trans (congrArg (mq_k0 d mj_m16 25 ls M) mq_gf_eq)
theorem s16_25 {d : Nat} {ls : mj_L} {st : List Value} {M : mj_H} : mj_Rn d mj_m16 25 ls st M = mq_k0 d mj_m16 26 ls M (mj_ldi (mj_lk ls 1) st) := mj_R0 (r := (.iload_n 1, 1, 0, 0, 0)) rfl rfl
theorem s16_26 {d : Nat} {ls : mj_L} {st : List Value} {M : mj_H} : mj_Rn d mj_m16 26 ls st M = mq_k0 d mj_m16 27 ls M (mj_ldi (mj_lk ls 2) st) := mj_R0 (r := (.iload_n 2, 1, 0, 0, 0)) rfl rfl
theorem s16_27 {d : Nat} {ls : mj_L} {st : List Value} {M : mj_H} : mj_Rn d mj_m16 27 ls st M = mj_Rn d mj_m16 30 ls (.int 255 :: st) M := mj_R0 (r := (.sipush 255, 3, 0, 0, 0)) rfl rfl
theorem s16_30 {d : Nat} {ls : mj_L} {st : List Value} {M : mj_H} : mj_Rn d mj_m16 30 ls st M = mq_k0 d mj_m16 31 ls M (mj_pu .iand ls st) := mj_R0 (r := (.iand, 1, 0, 0, 0)) rfl rfl
theorem s16_31 {d : Nat} {ls : mj_L} {st : List Value} {M : mj_H} : mj_Rn d mj_m16 31 ls st M = mq_k4 d mj_m16 32 ls (mj_hw (.iastore, 1, 0, 0, 0) st M) := mj_R4 (r := (.iastore, 1, 0, 0, 0)) rfl rfl
theorem s16_32 {d : Nat} {ls : mj_L} {st : List Value} {M : mj_H} : mj_Rn d mj_m16 32 ls st M = mq_k6 M (mj_re none (.return_) st) := mj_R6 (r := (.return_, 1, 0, 0, 0)) rfl rfl
/- 45 PasskeyHouse$Bytes.push(I)V -/
theorem s45_0 {d : Nat} {ls : mj_L} {st : List Value} {M : mj_H} : mj_Rn d mj_m45 0 ls st M = mq_k0 d mj_m45 1 ls M (mj_lda (mj_lk ls 0) st) := mj_R0 (r := (.aload_n 0, 1, 0, 0, 0)) rfl rfl
theorem s45_1 {d : Nat} {ls : mj_L} {st : List Value} {M : mj_H} : mj_Rn d mj_m45 1 ls st M = mq_k0 d mj_m45 4 ls M (mq_gf 1 1 st M) := (mj_R3 (r := (.getfield 21, 3, 1, 1, 8268)) rfl rfl).trans (congrArg (mq_k0 d mj_m45 4 ls M) mq_gf_eq)
theorem s45_4 {d : Nat} {ls : mj_L} {st : List Value} {M : mj_H} : mj_Rn d mj_m45 4 ls st M = mq_k2 d mj_m45 ls M (mj_br (.ifCond .lt 39) 4 st) := mj_R2 (r := (.ifCond .lt 39, 3, 0, 0, 0)) rfl rfl
theorem s45_7 {d : Nat} {ls : mj_L} {st : List Value} {M : mj_H} : mj_Rn d mj_m45 7 ls st M = mq_k0 d mj_m45 8 ls M (mj_lda (mj_lk ls 0) st) := mj_R0 (r := (.aload_n 0, 1, 0, 0, 0)) rfl rfl
theorem s45_8 {d : Nat} {ls : mj_L} {st : List Value} {M : mj_H} : mj_Rn d mj_m45 8 ls st M = mq_k0 d mj_m45 11 ls M (mq_gf 1 1 st M) := (mj_R3 (r := (.getfield 21, 3, 1, 1, 8268)) rfl rfl).trans (congrArg (mq_k0 d mj_m45 11 ls M) mq_gf_eq)
theorem s45_11 {d : Nat} {ls : mj_L} {st : List Value} {M : mj_H} : mj_Rn d mj_m45 11 ls st M = mq_k0 d mj_m45 12 ls M (mj_lda (mj_lk ls 0) st) := mj_R0 (r := (.aload_n 0, 1, 0, 0, 0)) rfl rfl
theorem s45_12 {d : Nat} {ls : mj_L} {st : List Value} {M : mj_H} : mj_Rn d mj_m45 12 ls st M = mq_k0 d mj_m45 15 ls M (mq_gf 1 0 st M) := (mj_R3 (r := (.getfield 15, 3, 1, 0, 8266)) rfl rfl).trans (congrArg (mq_k0 d mj_m45 15 ls M) mq_gf_eq)
theorem s45_15 {d : Nat} {ls : mj_L} {st : List Value} {M : mj_H} : mj_Rn d mj_m45 15 ls st M = mq_k0 d mj_m45 16 ls M (mq_len st M) := (mj_R3 (r := (.arraylength, 1, 0, 0, 0)) rfl rfl).trans (congrArg (mq_k0 d mj_m45 16 ls M) mq_len_eq)
theorem s45_16 {d : Nat} {ls : mj_L} {st : List Value} {M : mj_H} : mj_Rn d mj_m45 16 ls st M = mq_k2 d mj_m45 ls M (mj_br (.if_icmp .ge 27) 16 st) := mj_R2 (r := (.if_icmp .ge 27, 3, 0, 0, 0)) rfl rfl
theorem s45_19 {d : Nat} {ls : mj_L} {st : List Value} {M : mj_H} : mj_Rn d mj_m45 19 ls st M = mq_k0 d mj_m45 20 ls M (mj_lda (mj_lk ls 0) st) := mj_R0 (r := (.aload_n 0, 1, 0, 0, 0)) rfl rfl
theorem s45_20 {d : Nat} {ls : mj_L} {st : List Value} {M : mj_H} : mj_Rn d mj_m45 20 ls st M = mq_k0 d mj_m45 23 ls M (mq_gf 1 0 st M) := (mj_R3 (r := (.getfield 15, 3, 1, 0, 8266)) rfl rfl).trans (congrArg (mq_k0 d mj_m45 23 ls M) mq_gf_eq)
theorem s45_23 {d : Nat} {ls : mj_L} {st : List Value} {M : mj_H} : mj_Rn d mj_m45 23 ls st M = mq_k0 d mj_m45 24 ls M (mj_lda (mj_lk ls 0) st) := mj_R0 (r := (.aload_n 0, 1, 0, 0, 0)) rfl rfl
theorem s45_24 {d : Nat} {ls : mj_L} {st : List Value} {M : mj_H} : mj_Rn d mj_m45 24 ls st M = mq_k0 d mj_m45 27 ls M (mq_gf 1 1 st M) := (mj_R3 (r := (.getfield 21, 3, 1, 1, 8268)) rfl rfl).trans (congrArg (mq_k0 d mj_m45 27 ls M) mq_gf_eq)
theorem s45_27 {d : Nat} {ls : mj_L} {st : List Value} {M : mj_H} : mj_Rn d mj_m45 27 ls st M = mq_k0 d mj_m45 28 ls M (mj_ldi (mj_lk ls 1) st) := mj_R0 (r := (.iload_n 1, 1, 0, 0, 0)) rfl rfl
theorem s45_28 {d : Nat} {ls : mj_L} {st : List Value} {M : mj_H} : mj_Rn d mj_m45 28 ls st M = mj_Rn d mj_m45 31 ls (.int 255 :: st) M := mj_R0 (r := (.sipush 255, 3, 0, 0, 0)) rfl rfl
theorem s45_31 {d : Nat} {ls : mj_L} {st : List Value} {M : mj_H} : mj_Rn d mj_m45 31 ls st M = mq_k0 d mj_m45 32 ls M (mj_pu .iand ls st) := mj_R0 (r := (.iand, 1, 0, 0, 0)) rfl rfl
theorem s45_32 {d : Nat} {ls : mj_L} {st : List Value} {M : mj_H} : mj_Rn d mj_m45 32 ls st M = mq_k4 d mj_m45 33 ls (mj_hw (.iastore, 1, 0, 0, 0) st M) := mj_R4 (r := (.iastore, 1, 0, 0, 0)) rfl rfl
theorem s45_33 {d : Nat} {ls : mj_L} {st : List Value} {M : mj_H} : mj_Rn d mj_m45 33 ls st M = mq_k0 d mj_m45 34 ls M (mj_lda (mj_lk ls 0) st) := mj_R0 (r := (.aload_n 0, 1, 0, 0, 0)) rfl rfl
theorem s45_34 {d : Nat} {ls : mj_L} {st : List Value} {M : mj_H} : mj_Rn d mj_m45 34 ls st M = mq_k0 d mj_m45 35 ls M (mj_pu .dup ls st) := mj_R0 (r := (.dup, 1, 0, 0, 0)) rfl rfl
theorem s45_35 {d : Nat} {ls : mj_L} {st : List Value} {M : mj_H} : mj_Rn d mj_m45 35 ls st M = mq_k0 d mj_m45 38 ls M (mq_gf 1 1 st M) := (mj_R3 (r := (.getfield 21, 3, 1, 1, 8268)) rfl rfl).trans (congrArg (mq_k0 d mj_m45 38 ls M) mq_gf_eq)
theorem s45_38 {d : Nat} {ls : mj_L} {st : List Value} {M : mj_H} : mj_Rn d mj_m45 38 ls st M = mj_Rn d mj_m45 39 ls (.int 1 :: st) M := mj_R0 (r := (.iconst 1, 1, 0, 0, 0)) rfl rfl
theorem s45_39 {d : Nat} {ls : mj_L} {st : List Value} {M : mj_H} : mj_Rn d mj_m45 39 ls st M = mq_k0 d mj_m45 40 ls M (mj_pu .iadd ls st) := mj_R0 (r := (.iadd, 1, 0, 0, 0)) rfl rfl
theorem s45_40 {d : Nat} {ls : mj_L} {st : List Value} {M : mj_H} : mj_Rn d mj_m45 40 ls st M = mq_k4 d mj_m45 43 ls (mq_pf 1 1 0 st M) := (mj_R4 (r := (.putfield 21, 3, 1, 1, 8268)) rfl rfl).trans (congrArg (mq_k4 d mj_m45 43 ls) (mq_pf_eq rfl rfl))
theorem s45_43 {d : Nat} {ls : mj_L} {st : List Value} {M : mj_H} : mj_Rn d mj_m45 43 ls st M = mq_k6 M (mj_re none (.return_) st) := mj_R6 (r := (.return_, 1, 0, 0, 0)) rfl rfl
theorem c9 {d : Nat} {a0 : Nat} {M : mj_H} : mj_V (d + 1) 9 [.ref a0] M = mj_Rn d mj_m9 0 [(0, .ref a0)] [] M := mj_V_go rfl (Nat.le_of_ble_eq_true rfl)
theorem c12 {d : Nat} {a0 : Nat} {M : mj_H} : mj_V (d + 1) 12 [.ref a0] M = mj_Rn d mj_m12 0 [(0, .ref a0)] [] M := mj_V_go rfl (Nat.le_of_ble_eq_true rfl)
theorem c14 {d : Nat} {a0 : Nat} {x1 : Int32} {M : mj_H} : mj_V (d + 1) 14 [.ref a0, .int x1] M = mj_Rn d mj_m14 0 [(0, .ref a0), (1, .int x1)] [] M := mj_V_go rfl (Nat.le_of_ble_eq_true rfl)
theorem c16 {d : Nat} {a0 : Nat} {x1 : Int32} {x2 : Int32} {M : mj_H} : mj_V (d + 1) 16 [.ref a0, .int x1, .int x2] M = mj_Rn d mj_m16 0 [(0, .ref a0), (1, .int x1), (2, .int x2)] [] M := mj_V_go rfl (Nat.le_of_ble_eq_true rfl)
theorem c45 {d : Nat} {a0 : Nat} {x1 : Int32} {M : mj_H} : mj_V (d + 1) 45 [.ref a0, .int x1] M = mj_Rn d mj_m45 0 [(0, .ref a0), (1, .int x1)] [] M := mj_V_go rfl (Nat.le_of_ble_eq_true rfl)
theorem bt_255 (v : Int32) : (v &&& 255) &&& 255 = v &&& 255 := by
  apply Int32.toBitVec_inj.mp
  simp [BitVec.and_assoc]
/-- a row of bytes: the object at a, its cells at b, room for cap, holding xs -/
def bb (M : mj_H) (a b cap : Nat) (xs : List Int32) : Prop := mj_E ≤ a ∧ mj_E ≤ b ∧ a ≠ b ∧ cap < 2 ^ 31 ∧ (∀ v ∈ xs, v &&& 255 = v) ∧ M[a]? = some (1, [.ref b, .int (nI xs.length)]) ∧ ∃ g : List Int32, M[b]? = some (1000, (xs ++ g).map Value.int) ∧ (xs ++ g).length = cap
def bt_app (cap : Nat) (xs ys : List Int32) : List Int32 := (xs ++ ys).take cap
/-- the item at a place; -1 when there is none -/
def bt_at (xs : List Int32) (i : Int32) : Int32 := if i < 0 then -1 else xs.getD i.toNatClampNeg (-1)
theorem bt_at_nI {xs : List Int32} {k : Nat} (h : k < 2 ^ 31) : bt_at xs (nI k) = xs.getD k (-1) := by
  unfold bt_at
  rw [if_neg (nI_pos h), nI_clamp h]
theorem bb.len {M : mj_H} {a b cap : Nat} {xs : List Int32} (h : bb M a b cap xs) : xs.length ≤ cap := by
  obtain ⟨-, -, -, -, -, -, g, -, hg⟩ := h
  rw [← hg]; simp
theorem bb.fr {M M' : mj_H} {a b cap : Nat} {xs : List Int32} (h : bb M a b cap xs) (h1 : M'[a]? = M[a]?) (h2 : M'[b]? = M[b]?) : bb M' a b cap xs := by
  obtain ⟨e1, e2, e3, e4, e5, e6, g, e7, e8⟩ := h
  exact ⟨e1, e2, e3, e4, e5, h1.trans e6, g, h2.trans e7, e8⟩
theorem v_size {d a b cap : Nat} {xs : List Int32} {M : mj_H} (h : bb M a b cap xs) : mj_V (d + 1) 9 [.ref a] M = some (some (.int (nI xs.length)), M) := by
  obtain ⟨-, -, -, -, -, h1, -⟩ := h
  simp [c9, s9_0, s9_1, s9_4, mq_k0s, mq_k1s, mq_k2s, mq_k4s, mq_k5s, mq_k5n, mq_k5as, mq_k6s, mj_pu, mj_lo, mj_br, mj_hr, mj_hw, mq_gf, mq_len, mq_al, mq_pf, mq_ok, mj_re, mj_lk, mj_ldi, mj_ldl, mj_lda, mj_ii, mj_ll, mj_li, mj_i1, mj_s1, mj_s2, mj_tg, mj_c1, mj_c2, mj_ar, mj_aw, mq_cb, mq_oi, mj_rm, Value.category, h1, narrow]
theorem v_clear {d a b cap : Nat} {xs : List Int32} {M : mj_H} (h : bb M a b cap xs) : ∃ M', mj_V (d + 1) 12 [.ref a] M = some (none, M') ∧ bb M' a b cap [] ∧ mq_fr [a] M M' := by
  obtain ⟨ha, hb, hab, hcap, h8, h1, g, h2, hg⟩ := h
  refine ⟨M.set a (1, [.ref b, .int (nI 0)]), ?_, ⟨ha, hb, hab, hcap, by simp, by simp [List.getElem?_set, mq_lt h1], xs ++ g, by simp [List.getElem?_set, hab, h2], hg⟩, mq_fr.rf.set (by simp)⟩
  simp [c12, s12_0, s12_1, s12_2, s12_5, mq_k0s, mq_k1s, mq_k2s, mq_k4s, mq_k5s, mq_k5n, mq_k5as, mq_k6s, mj_pu, mj_lo, mj_br, mj_hr, mj_hw, mq_gf, mq_len, mq_al, mq_pf, mq_ok, mj_re, mj_lk, mj_ldi, mj_ldl, mj_lda, mj_ii, mj_ll, mj_li, mj_i1, mj_s1, mj_s2, mj_tg, mj_c1, mj_c2, mj_ar, mj_aw, mq_cb, mq_oi, mj_rm, Value.category, h1, Nat.not_lt.mpr ha, nI_0]
theorem v_item {d a b cap : Nat} {xs : List Int32} {M : mj_H} (h : bb M a b cap xs) (i : Int32) : mj_V (d + 1) 14 [.ref a, .int i] M = some (some (.int (bt_at xs i)), M) := by
  obtain ⟨ha, hb, hab, hcap, h8, h1, g, h2, hg⟩ := h
  have hxl : xs.length ≤ cap := by rw [← hg]; simp
  unfold bt_at
  by_cases h0 : i < 0
  · simp [c14, s14_0, s14_1, s14_4, s14_5, s14_6, s14_9, s14_12, s14_13, s14_14, s14_17, s14_18, s14_21, s14_22, s14_25, s14_26, s14_29, s14_30, s14_31, mq_k0s, mq_k1s, mq_k2s, mq_k4s, mq_k5s, mq_k5n, mq_k5as, mq_k6s, mj_pu, mj_lo, mj_br, mj_hr, mj_hw, mq_gf, mq_len, mq_al, mq_pf, mq_ok, mj_re, mj_lk, mj_ldi, mj_ldl, mj_lda, mj_ii, mj_ll, mj_li, mj_i1, mj_s1, mj_s2, mj_tg, mj_c1, mj_c2, mj_ar, mj_aw, mq_cb, mq_oi, mj_rm, Value.category, h1, h2, h0, narrow]
  · obtain ⟨k, hk, rfl⟩ := nI_of h0
    rw [if_neg h0, nI_clamp hk]
    by_cases hkx : k < xs.length
    · have q1 : ¬ nI xs.length ≤ nI k := nI_ge hkx (by omega)
      have q2 : nI k < Int32.ofNat ((xs ++ g).map Value.int).length := by rw [List.length_map, hg]; exact nI_lt (by omega) hcap
      have q3 := mq_ix (show k < ((xs ++ g).map Value.int).length by rw [List.length_map, hg]; omega) (by rw [List.length_map, hg]; exact hcap)
      have q4 : ((xs ++ g).map Value.int)[k]? = some (.int xs[k]) := by
        rw [List.getElem?_map, List.getElem?_append_left hkx, List.getElem?_eq_getElem hkx]; rfl
      generalize hz : (xs ++ g).map Value.int = zs at *
      simp [c14, s14_0, s14_1, s14_4, s14_5, s14_6, s14_9, s14_12, s14_13, s14_14, s14_17, s14_18, s14_21, s14_22, s14_25, s14_26, s14_29, s14_30, s14_31, mq_k0s, mq_k1s, mq_k2s, mq_k4s, mq_k5s, mq_k5n, mq_k5as, mq_k6s, mj_pu, mj_lo, mj_br, mj_hr, mj_hw, mq_gf, mq_len, mq_al, mq_pf, mq_ok, mj_re, mj_lk, mj_ldi, mj_ldl, mj_lda, mj_ii, mj_ll, mj_li, mj_i1, mj_s1, mj_s2, mj_tg, mj_c1, mj_c2, mj_ar, mj_aw, mq_cb, mq_oi, mj_rm, Value.category, h1, h2, h0, q1, q2, q3, q4, narrow, List.getD, hkx]
    · have q1 : nI xs.length ≤ nI k := nI_le (by omega) hk
      simp [c14, s14_0, s14_1, s14_4, s14_5, s14_6, s14_9, s14_12, s14_13, s14_14, s14_17, s14_18, s14_21, s14_22, s14_25, s14_26, s14_29, s14_30, s14_31, mq_k0s, mq_k1s, mq_k2s, mq_k4s, mq_k5s, mq_k5n, mq_k5as, mq_k6s, mj_pu, mj_lo, mj_br, mj_hr, mj_hw, mq_gf, mq_len, mq_al, mq_pf, mq_ok, mj_re, mj_lk, mj_ldi, mj_ldl, mj_lda, mj_ii, mj_ll, mj_li, mj_i1, mj_s1, mj_s2, mj_tg, mj_c1, mj_c2, mj_ar, mj_aw, mq_cb, mq_oi, mj_rm, Value.category, h1, h2, h0, q1, narrow, List.getD, hkx]
theorem v_put {d a b cap : Nat} {xs : List Int32} {M : mj_H} (h : bb M a b cap xs) {k : Nat} (hk : k < xs.length) (v : Int32) : ∃ M', mj_V (d + 1) 16 [.ref a, .int (nI k), .int v] M = some (none, M') ∧ bb M' a b cap (xs.set k (v &&& 255)) ∧ mq_fr [b] M M' := by
  obtain ⟨ha, hb, hab, hcap, h8, h1, g, h2, hg⟩ := h
  have hxl : xs.length ≤ cap := by rw [← hg]; simp
  have q0 : ¬ nI k < 0 := nI_pos (by omega)
  have q1 : ¬ nI xs.length ≤ nI k := nI_ge hk (by omega)
  have q2 : ¬ Int32.ofNat ((xs ++ g).map Value.int).length ≤ nI k := by rw [List.length_map, hg]; exact nI_ge (by omega) hcap
  have q3 := mq_ix (show k < ((xs ++ g).map Value.int).length by rw [List.length_map, hg]; omega) (by rw [List.length_map, hg]; exact hcap)
  have q4 : ((xs ++ g).map Value.int).set k (.int (v &&& 255)) = ((xs.set k (v &&& 255)) ++ g).map Value.int := by
    rw [← List.map_set, List.set_append_left _ _ hk]
  refine ⟨M.set b (1000, ((xs.set k (v &&& 255)) ++ g).map Value.int), ?_, ⟨ha, hb, hab, hcap, ?_, ?_, g, ?_, ?_⟩, mq_fr.rf.set (by simp)⟩
  · generalize hz : (xs ++ g).map Value.int = zs at *
    simp [c16, s16_0, s16_1, s16_4, s16_5, s16_6, s16_9, s16_12, s16_13, s16_14, s16_17, s16_18, s16_21, s16_22, s16_25, s16_26, s16_27, s16_30, s16_31, s16_32, mq_k0s, mq_k1s, mq_k2s, mq_k4s, mq_k5s, mq_k5n, mq_k5as, mq_k6s, mj_pu, mj_lo, mj_br, mj_hr, mj_hw, mq_gf, mq_len, mq_al, mq_pf, mq_ok, mj_re, mj_lk, mj_ldi, mj_ldl, mj_lda, mj_ii, mj_ll, mj_li, mj_i1, mj_s1, mj_s2, mj_tg, mj_c1, mj_c2, mj_ar, mj_aw, mq_cb, mq_oi, mj_rm, Value.category, h1, h2, q0, q1, q2, q3, q4, Nat.not_lt.mpr ha, Nat.not_lt.mpr hb]
  · intro w hw
    rcases List.mem_or_eq_of_mem_set hw with h | rfl
    · exact h8 w h
    · exact bt_255 v
  · rw [List.getElem?_set_ne (Ne.symm hab), List.length_set]; exact h1
  · rw [List.getElem?_set_self (mq_lt h2)]
  · simpa using hg
theorem v_push {d a b cap : Nat} {xs : List Int32} {M : mj_H} (h : bb M a b cap xs) (v : Int32) : ∃ M', mj_V (d + 1) 45 [.ref a, .int v] M = some (none, M') ∧ bb M' a b cap (bt_app cap xs [v &&& 255]) ∧ mq_fr [a, b] M M' := by
  have hxl := h.len
  obtain ⟨ha, hb, hab, hcap, h8, h1, g, h2, hg⟩ := id h
  have q0 : ¬ nI xs.length < 0 := nI_pos (by omega)
  by_cases hlt : xs.length < cap
  · have q2 : ¬ Int32.ofNat ((xs ++ g).map Value.int).length ≤ nI xs.length := by rw [List.length_map, hg]; exact nI_ge hlt hcap
    have q3 := mq_ix (show xs.length < ((xs ++ g).map Value.int).length by rw [List.length_map, hg]; omega) (by rw [List.length_map, hg]; exact hcap)
    obtain ⟨c, g', rfl⟩ : ∃ c g', g = c :: g' := by
      cases g with
      | nil => simp at hg; omega
      | cons c g' => exact ⟨c, g', rfl⟩
    have q4 : ((xs ++ c :: g').map Value.int).set xs.length (.int (v &&& 255)) = ((xs ++ [v &&& 255]) ++ g').map Value.int := by
      rw [← List.map_set]; simp
    have ea : bt_app cap xs [v &&& 255] = xs ++ [v &&& 255] := by
      unfold bt_app
      exact List.take_of_length_le (by simp; omega)
    rw [ea]
    refine ⟨(M.set b (1000, ((xs ++ [v &&& 255]) ++ g').map Value.int)).set a (1, [.ref b, .int (nI (xs ++ [v &&& 255]).length)]), ?_, ⟨ha, hb, hab, hcap, ?_, ?_, g', ?_, ?_⟩, (mq_fr.rf.set (by simp)).set (by simp)⟩
    · generalize hz : (xs ++ c :: g').map Value.int = zs at *
      simp [c45, s45_0, s45_1, s45_4, s45_7, s45_8, s45_11, s45_12, s45_15, s45_16, s45_19, s45_20, s45_23, s45_24, s45_27, s45_28, s45_31, s45_32, s45_33, s45_34, s45_35, s45_38, s45_39, s45_40, s45_43, mq_k0s, mq_k1s, mq_k2s, mq_k4s, mq_k5s, mq_k5n, mq_k5as, mq_k6s, mj_pu, mj_lo, mj_br, mj_hr, mj_hw, mq_gf, mq_len, mq_al, mq_pf, mq_ok, mj_re, mj_lk, mj_ldi, mj_ldl, mj_lda, mj_ii, mj_ll, mj_li, mj_i1, mj_s1, mj_s2, mj_tg, mj_c1, mj_c2, mj_ar, mj_aw, mq_cb, mq_oi, mj_rm, Value.category, h1, h2, q0, q2, q3, q4, Nat.not_lt.mpr ha, Nat.not_lt.mpr hb, hab, Ne.symm hab, List.getElem?_set, nI_1]
    · intro w hw
      rcases List.mem_append.mp hw with h | h
      · exact h8 w h
      · rw [List.mem_singleton.mp h]; exact bt_255 v
    · rw [List.getElem?_set_self (by rw [List.length_set]; exact mq_lt h1)]
    · rw [List.getElem?_set_ne hab, List.getElem?_set_self (mq_lt h2)]
    · simpa using hg
  · have q2 : Int32.ofNat ((xs ++ g).map Value.int).length ≤ nI xs.length := by rw [List.length_map, hg]; exact nI_le (by omega) (by omega)
    have ea : bt_app cap xs [v &&& 255] = xs := by
      unfold bt_app
      rw [List.take_append_of_le_length (by omega)]
      exact List.take_of_length_le (by omega)
    rw [ea]
    refine ⟨M, ?_, h, mq_fr.rf⟩
    generalize hz : (xs ++ g).map Value.int = zs at *
    simp [c45, s45_0, s45_1, s45_4, s45_7, s45_8, s45_11, s45_12, s45_15, s45_16, s45_19, s45_20, s45_23, s45_24, s45_27, s45_28, s45_31, s45_32, s45_33, s45_34, s45_35, s45_38, s45_39, s45_40, s45_43, mq_k0s, mq_k1s, mq_k2s, mq_k4s, mq_k5s, mq_k5n, mq_k5as, mq_k6s, mj_pu, mj_lo, mj_br, mj_hr, mj_hw, mq_gf, mq_len, mq_al, mq_pf, mq_ok, mj_re, mj_lk, mj_ldi, mj_ldl, mj_lda, mj_ii, mj_ll, mj_li, mj_i1, mj_s1, mj_s2, mj_tg, mj_c1, mj_c2, mj_ar, mj_aw, mq_cb, mq_oi, mj_rm, Value.category, h1, h2, q0, q2]
