/- 40.bytes -/
section
set_option maxRecDepth 512
/-! Class: Bytes. -/
/- 9 PasskeyHouse$Bytes.size()I -/
theorem s9_0 {d : Nat} {ls : mj_L} {st : List Value} {M : mj_H} : mj_Rn d mj_m9 0 ls st M = mq_k0 d mj_m9 1 ls M (mj_lda (mj_lk ls 0) st) := mj_R0 (r := (.aload_n 0, 1, 0, 0, 0)) rfl rfl
theorem s9_1 {d : Nat} {ls : mj_L} {st : List Value} {M : mj_H} : mj_Rn d mj_m9 1 ls st M = mq_k0 d mj_m9 4 ls M (mq_gf 1 1 st M) := (mj_R3 (r := (.getfield 21, 3, 1, 1, 8268)) rfl rfl).trans (congrArg (mq_k0 d mj_m9 4 ls M) mq_gf_eq)
theorem s9_4 {d : Nat} {ls : mj_L} {st : List Value} {M : mj_H} : mj_Rn d mj_m9 4 ls st M = mq_k6 M (mj_re (some .int) (.ireturn) st) := mj_R6 (r := (.ireturn, 1, 0, 0, 0)) rfl rfl
/- 12 PasskeyHouse$Bytes.clear()V -/
theorem s12_0 {d : Nat} {ls : mj_L} {st : List Value} {M : mj_H} : mj_Rn d mj_m12 0 ls st M = mq_k0 d mj_m12 1 ls M (mj_lda (mj_lk ls 0) st) := mj_R0 (r := (.aload_n 0, 1, 0, 0, 0)) rfl rfl
theorem s12_1 {d : Nat} {ls : mj_L} {st : List Value} {M : mj_H} : mj_Rn d mj_m12 1 ls st M = mj_Rn d mj_m12 2 ls (.int 0 :: st) M := mj_R0 (r := (.iconst 0, 1, 0, 0, 0)) rfl rfl
theorem s12_2 {d : Nat} {ls : mj_L} {st : List Value} {M : mj_H} : mj_Rn d mj_m12 2 ls st M = mq_k4 d mj_m12 5 ls (mq_pf 1 1 0 st M) := (mj_R4 (r := (.putfield 21, 3, 1, 1, 8268)) rfl rfl).trans (congrArg (mq_k4 d mj_m12 5 ls) (mq_pf_eq rfl rfl))
theorem s12_5 {d : Nat} {ls : mj_L} {st : List Value} {M : mj_H} : mj_Rn d mj_m12 5 ls st M = mq_k6 M (mj_re none (.return_) st) := mj_R6 (r := (.return_, 1, 0, 0, 0)) rfl rfl
/- 14 PasskeyHouse$Bytes.item(I)I -/
theorem s14_0 {d : Nat} {ls : mj_L} {st : List Value} {M : mj_H} : mj_Rn d mj_m14 0 ls st M = mq_k0 d mj_m14 1 ls M (mj_ldi (mj_lk ls 1) st) := mj_R0 (r := (.iload_n 1, 1, 0, 0, 0)) rfl rfl
theorem s14_1 {d : Nat} {ls : mj_L} {st : List Value} {M : mj_H} : mj_Rn d mj_m14 1 ls st M = mq_k2 d mj_m14 ls M (mj_br (.ifCond .lt 20) 1 st) := mj_R2 (r := (.ifCond .lt 20, 3, 0, 0, 0)) rfl rfl
theorem s14_4 {d : Nat} {ls : mj_L} {st : List Value} {M : mj_H} : mj_Rn d mj_m14 4 ls st M = mq_k0 d mj_m14 5 ls M (mj_ldi (mj_lk ls 1) st) := mj_R0 (r := (.iload_n 1, 1, 0, 0, 0)) rfl rfl
theorem s14_5 {d : Nat} {ls : mj_L} {st : List Value} {M : mj_H} : mj_Rn d mj_m14 5 ls st M = mq_k0 d mj_m14 6 ls M (mj_lda (mj_lk ls 0) st) := mj_R0 (r := (.aload_n 0, 1, 0, 0, 0)) rfl rfl
theorem s14_6 {d : Nat} {ls : mj_L} {st : List Value} {M : mj_H} : mj_Rn d mj_m14 6 ls st M = mq_k0 d mj_m14 9 ls M (mq_gf 1 1 st M) := (mj_R3 (r := (.getfield 21, 3, 1, 1, 8268)) rfl rfl).trans (congrArg (mq_k0 d mj_m14 9 ls M) mq_gf_eq)
theorem s14_9 {d : Nat} {ls : mj_L} {st : List Value} {M : mj_H} : mj_Rn d mj_m14 9 ls st M = mq_k2 d mj_m14 ls M (mj_br (.if_icmp .ge 12) 9 st) := mj_R2 (r := (.if_icmp .ge 12, 3, 0, 0, 0)) rfl rfl
theorem s14_12 {d : Nat} {ls : mj_L} {st : List Value} {M : mj_H} : mj_Rn d mj_m14 12 ls st M = mq_k0 d mj_m14 13 ls M (mj_ldi (mj_lk ls 1) st) := mj_R0 (r := (.iload_n 1, 1, 0, 0, 0)) rfl rfl
theorem s14_13 {d : Nat} {ls : mj_L} {st : List Value} {M : mj_H} : mj_Rn d mj_m14 13 ls st M = mq_k0 d mj_m14 14 ls M (mj_lda (mj_lk ls 0) st) := mj_R0 (r := (.aload_n 0, 1, 0, 0, 0)) rfl rfl
theorem s14_14 {d : Nat} {ls : mj_L} {st : List Value} {M : mj_H} : mj_Rn d mj_m14 14 ls st M = mq_k0 d mj_m14 17 ls M (mq_gf 1 0 st M) := (mj_R3 (r := (.getfield 15, 3, 1, 0, 8266)) rfl rfl).trans (congrArg (mq_k0 d mj_m14 17 ls M) mq_gf_eq)
theorem s14_17 {d : Nat} {ls : mj_L} {st : List Value} {M : mj_H} : mj_Rn d mj_m14 17 ls st M = mq_k0 d mj_m14 18 ls M (mq_len st M) := (mj_R3 (r := (.arraylength, 1, 0, 0, 0)) rfl rfl).trans (congrArg (mq_k0 d mj_m14 18 ls M) mq_len_eq)
theorem s14_18 {d : Nat} {ls : mj_L} {st : List Value} {M : mj_H} : mj_Rn d mj_m14 18 ls st M = mq_k2 d mj_m14 ls M (mj_br (.if_icmp .lt 7) 18 st) := mj_R2 (r := (.if_icmp .lt 7, 3, 0, 0, 0)) rfl rfl
theorem s14_21 {d : Nat} {ls : mj_L} {st : List Value} {M : mj_H} : mj_Rn d mj_m14 21 ls st M = mj_Rn d mj_m14 22 ls (.int (-1) :: st) M := mj_R0 (r := (.iconst (-1), 1, 0, 0, 0)) rfl rfl
theorem s14_22 {d : Nat} {ls : mj_L} {st : List Value} {M : mj_H} : mj_Rn d mj_m14 22 ls st M = mj_Rn d mj_m14 31 ls st M := mj_R2 (r := (.goto 9, 3, 0, 0, 0)) rfl rfl
theorem s14_25 {d : Nat} {ls : mj_L} {st : List Value} {M : mj_H} : mj_Rn d mj_m14 25 ls st M = mq_k0 d mj_m14 26 ls M (mj_lda (mj_lk ls 0) st) := mj_R0 (r := (.aload_n 0, 1, 0, 0, 0)) rfl rfl
theorem s14_26 {d : Nat} {ls : mj_L} {st : List Value} {M : mj_H} : mj_Rn d mj_m14 26 ls st M = mq_k0 d mj_m14 29 ls M (mq_gf 1 0 st M) := (mj_R3 (r := (.getfield 15, 3, 1, 0, 8266)) rfl rfl).trans (congrArg (mq_k0 d mj_m14 29 ls M) mq_gf_eq)
theorem s14_29 {d : Nat} {ls : mj_L} {st : List Value} {M : mj_H} : mj_Rn d mj_m14 29 ls st M = mq_k0 d mj_m14 30 ls M (mj_ldi (mj_lk ls 1) st) := mj_R0 (r := (.iload_n 1, 1, 0, 0, 0)) rfl rfl
theorem s14_30 {d : Nat} {ls : mj_L} {st : List Value} {M : mj_H} : mj_Rn d mj_m14 30 ls st M = mq_k0 d mj_m14 31 ls M (mq_al [1000] st M) := (mj_R3 (r := (.iaload, 1, 0, 0, 0)) rfl rfl).trans (congrArg (mq_k0 d mj_m14 31 ls M) mq_ali_eq)
theorem s14_31 {d : Nat} {ls : mj_L} {st : List Value} {M : mj_H} : mj_Rn d mj_m14 31 ls st M = mq_k6 M (mj_re (some .int) (.ireturn) st) := mj_R6 (r := (.ireturn, 1, 0, 0, 0)) rfl rfl
/- 16 PasskeyHouse$Bytes.put(II)V -/
theorem s16_0 {d : Nat} {ls : mj_L} {st : List Value} {M : mj_H} : mj_Rn d mj_m16 0 ls st M = mq_k0 d mj_m16 1 ls M (mj_ldi (mj_lk ls 1) st) := mj_R0 (r := (.iload_n 1, 1, 0, 0, 0)) rfl rfl
theorem s16_1 {d : Nat} {ls : mj_L} {st : List Value} {M : mj_H} : mj_Rn d mj_m16 1 ls st M = mq_k2 d mj_m16 ls M (mj_br (.ifCond .lt 31) 1 st) := mj_R2 (r := (.ifCond .lt 31, 3, 0, 0, 0)) rfl rfl
theorem s16_4 {d : Nat} {ls : mj_L} {st : List Value} {M : mj_H} : mj_Rn d mj_m16 4 ls st M = mq_k0 d mj_m16 5 ls M (mj_ldi (mj_lk ls 1) st) := mj_R0 (r := (.iload_n 1, 1, 0, 0, 0)) rfl rfl
theorem s16_5 {d : Nat} {ls : mj_L} {st : List Value} {M : mj_H} : mj_Rn d mj_m16 5 ls st M = mq_k0 d mj_m16 6 ls M (mj_lda (mj_lk ls 0) st) := mj_R0 (r := (.aload_n 0, 1, 0, 0, 0)) rfl rfl
theorem s16_6 {d : Nat} {ls : mj_L} {st : List Value} {M : mj_H} : mj_Rn d mj_m16 6 ls st M = mq_k0 d mj_m16 9 ls M (mq_gf 1 1 st M) := (mj_R3 (r := (.getfield 21, 3, 1, 1, 8268)) rfl rfl).trans (congrArg (mq_k0 d mj_m16 9 ls M) mq_gf_eq)
theorem s16_9 {d : Nat} {ls : mj_L} {st : List Value} {M : mj_H} : mj_Rn d mj_m16 9 ls st M = mq_k2 d mj_m16 ls M (mj_br (.if_icmp .ge 23) 9 st) := mj_R2 (r := (.if_icmp .ge 23, 3, 0, 0, 0)) rfl rfl
theorem s16_12 {d : Nat} {ls : mj_L} {st : List Value} {M : mj_H} : mj_Rn d mj_m16 12 ls st M = mq_k0 d mj_m16 13 ls M (mj_ldi (mj_lk ls 1) st) := mj_R0 (r := (.iload_n 1, 1, 0, 0, 0)) rfl rfl
theorem s16_13 {d : Nat} {ls : mj_L} {st : List Value} {M : mj_H} : mj_Rn d mj_m16 13 ls st M = mq_k0 d mj_m16 14 ls M (mj_lda (mj_lk ls 0) st) := mj_R0 (r := (.aload_n 0, 1, 0, 0, 0)) rfl rfl
theorem s16_14 {d : Nat} {ls : mj_L} {st : List Value} {M : mj_H} : mj_Rn d mj_m16 14 ls st M = mq_k0 d mj_m16 17 ls M (mq_gf 1 0 st M) := (mj_R3 (r := (.getfield 15, 3, 1, 0, 8266)) rfl rfl).trans (congrArg (mq_k0 d mj_m16 17 ls M) mq_gf_eq)
theorem s16_17 {d : Nat} {ls : mj_L} {st : List Value} {M : mj_H} : mj_Rn d mj_m16 17 ls st M = mq_k0 d mj_m16 18 ls M (mq_len st M) := (mj_R3 (r := (.arraylength, 1, 0, 0, 0)) rfl rfl).trans (congrArg (mq_k0 d mj_m16 18 ls M) mq_len_eq)
theorem s16_18 {d : Nat} {ls : mj_L} {st : List Value} {M : mj_H} : mj_Rn d mj_m16 18 ls st M = mq_k2 d mj_m16 ls M (mj_br (.if_icmp .ge 14) 18 st) := mj_R2 (r := (.if_icmp .ge 14, 3, 0, 0, 0)) rfl rfl
theorem s16_21 {d : Nat} {ls : mj_L} {st : List Value} {M : mj_H} : mj_Rn d mj_m16 21 ls st M = mq_k0 d mj_m16 22 ls M (mj_lda (mj_lk ls 0) st) := mj_R0 (r := (.aload_n 0, 1, 0, 0, 0)) rfl rfl
theorem s16_22 {d : Nat} {ls : mj_L} {st : List Value} {M : mj_H} : mj_Rn d mj_m16 22 ls st M = mq_k0 d mj_m16 25 ls M (mq_gf 1 0 st M) := (mj_R3 (r := (.getfield 15, 3, 1, 0, 8266)) rfl rfl).trans (congrArg (mq_k0 d mj_m16 25 ls M) mq_gf_eq)
theorem s16_25 {d : Nat} {ls : mj_L} {st : List Value} {M : mj_H} : mj_Rn d mj_m16 25 ls st M = mq_k0 d mj_m16 26 ls M (mj_ldi (mj_lk ls 1) st) := mj_R0 (r := (.iload_n 1, 1, 0, 0, 0)) rfl rfl
theorem s16_26 {d : Nat} {ls : mj_L} {st : List Value} {M : mj_H} : mj_Rn d mj_m16 26 ls st M = mq_k0 d mj_m16 27 ls M (mj_ldi (mj_lk ls 2) st) := mj_R0 (r := (.iload_n 2, 1, 0, 0, 0)) rfl rfl
theorem s16_27 {d : Nat} {ls : mj_L} {st : List Value} {M : mj_H} : mj_Rn d mj_m16 27 ls st M = mj_Rn d mj_m16 30 ls (.int 255 :: st) M := mj_R0 (r := (.sipush 255, 3, 0, 0, 0)) rfl rfl
theorem s16_30 {d : Nat} {ls : mj_L} {st : List Value} {M : mj_H} : mj_Rn d mj_m16 30 ls st M = mq_k0 d mj_m16 31 ls M (mj_pu .iand ls st) := mj_R0 (r := (.iand, 1, 0, 0, 0)) rfl rfl
theorem s16_31 {d : Nat} {ls : mj_L} {st : List Value} {M : mj_H} : mj_Rn d mj_m16 31 ls st M = mq_k4 d mj_m16 32 ls (mj_hw (.iastore, 1, 0, 0, 0) st M) := mj_R4 (r := (.iastore, 1, 0, 0, 0)) rfl rfl
theorem s16_32 {d : Nat} {ls : mj_L} {st : List Value} {M : mj_H} : mj_Rn d mj_m16 32 ls st M = mq_k6 M (mj_re none (.return_) st) := mj_R6 (r := (.return_, 1, 0, 0, 0)) rfl rfl
/- 45 PasskeyHouse$Bytes.push(I)V -/
theorem s45_0 {d : Nat} {ls : mj_L} {st : List Value} {M : mj_H} : mj_Rn d mj_m45 0 ls st M = mq_k0 d mj_m45 1 ls M (mj_lda (mj_lk ls 0) st) := mj_R0 (r := (.aload_n 0, 1, 0, 0, 0)) rfl rfl
theorem s45_1 {d : Nat} {ls : mj_L} {st : List Value} {M : mj_H} : mj_Rn d mj_m45 1 ls st M = mq_k0 d mj_m45 4 ls M (mq_gf 1 1 st M) := (mj_R3 (r := (.getfield 21, 3, 1, 1, 8268)) rfl rfl).trans (congrArg (mq_k0 d mj_m45 4 ls M) mq_gf_eq)
theorem s45_4 {d : Nat} {ls : mj_L} {st : List Value} {M : mj_H} : mj_Rn d mj_m45 4 ls st M = mq_k2 d mj_m45 ls M (mj_br (.ifCond .lt 39) 4 st) := mj_R2 (r := (.ifCond .lt 39, 3, 0, 0, 0)) rfl rfl
theorem s45_7 {d : Nat} {ls : mj_L} {st : List Value} {M : mj_H} : mj_Rn d mj_m45 7 ls st M = mq_k0 d mj_m45 8 ls M (mj_lda (mj_lk ls 0) st) := mj_R0 (r := (.aload_n 0, 1, 0, 0, 0)) rfl rfl
theorem s45_8 {d : Nat} {ls : mj_L} {st : List Value} {M : mj_H} : mj_Rn d mj_m45 8 ls st M = mq_k0 d mj_m45 11 ls M (mq_gf 1 1 st M) := (mj_R3 (r := (.getfield 21, 3, 1, 1, 8268)) rfl rfl).trans (congrArg (mq_k0 d mj_m45 11 ls M) mq_gf_eq)
theorem s45_11 {d : Nat} {ls : mj_L} {st : List Value} {M : mj_H} : mj_Rn d mj_m45 11 ls st M = mq_k0 d mj_m45 12 ls M (mj_lda (mj_lk ls 0) st) := mj_R0 (r := (.aload_n 0, 1, 0, 0, 0)) rfl rfl
theorem s45_12 {d : Nat} {ls : mj_L} {st : List Value} {M : mj_H} : mj_Rn d mj_m45 12 ls st M = mq_k0 d mj_m45 15 ls M (mq_gf 1 0 st M) := (mj_R3 (r := (.getfield 15, 3, 1, 0, 8266)) rfl rfl).trans (congrArg (mq_k0 d mj_m45 15 ls M) mq_gf_eq)
theorem s45_15 {d : Nat} {ls : mj_L} {st : List Value} {M : mj_H} : mj_Rn d mj_m45 15 ls st M = mq_k0 d mj_m45 16 ls M (mq_len st M) := (mj_R3 (r := (.arraylength, 1, 0, 0, 0)) rfl rfl).trans (congrArg (mq_k0 d mj_m45 16 ls M) mq_len_eq)
theorem s45_16 {d : Nat} {ls : mj_L} {st : List Value} {M : mj_H} : mj_Rn d mj_m45 16 ls st M = mq_k2 d mj_m45 ls M (mj_br (.if_icmp .ge 27) 16 st) := mj_R2 (r := (.if_icmp .ge 27, 3, 0, 0, 0)) rfl rfl
theorem s45_19 {d : Nat} {ls : mj_L} {st : List Value} {M : mj_H} : mj_Rn d mj_m45 19 ls st M = mq_k0 d mj_m45 20 ls M (mj_lda (mj_lk ls 0) st) := mj_R0 (r := (.aload_n 0, 1, 0, 0, 0)) rfl rfl
theorem s45_20 {d : Nat} {ls : mj_L} {st : List Value} {M : mj_H} : mj_Rn d mj_m45 20 ls st M = mq_k0 d mj_m45 23 ls M (mq_gf 1 0 st M) := (mj_R3 (r := (.getfield 15, 3, 1, 0, 8266)) rfl rfl).trans (congrArg (mq_k0 d mj_m45 23 ls M) mq_gf_eq)
theorem s45_23 {d : Nat} {ls : mj_L} {st : List Value} {M : mj_H} : mj_Rn d mj_m45 23 ls st M = mq_k0 d mj_m45 24 ls M (mj_lda (mj_lk ls 0) st) := mj_R0 (r := (.aload_n 0, 1, 0, 0, 0)) rfl rfl
theorem s45_24 {d : Nat} {ls : mj_L} {st : List Value} {M : mj_H} : mj_Rn d mj_m45 24 ls st M = mq_k0 d mj_m45 27 ls M (mq_gf 1 1 st M) := (mj_R3 (r := (.getfield 21, 3, 1, 1, 8268)) rfl rfl).trans (congrArg (mq_k0 d mj_m45 27 ls M) mq_gf_eq)
theorem s45_27 {d : Nat} {ls : mj_L} {st : List Value} {M : mj_H} : mj_Rn d mj_m45 27 ls st M = mq_k0 d mj_m45 28 ls M (mj_ldi (mj_lk ls 1) st) := mj_R0 (r := (.iload_n 1, 1, 0, 0, 0)) rfl rfl
theorem s45_28 {d : Nat} {ls : mj_L} {st : List Value} {M : mj_H} : mj_Rn d mj_m45 28 ls st M = mj_Rn d mj_m45 31 ls (.int 255 :: st) M := mj_R0 (r := (.sipush 255, 3, 0, 0, 0)) rfl rfl
theorem s45_31 {d : Nat} {ls : mj_L} {st : List Value} {M : mj_H} : mj_Rn d mj_m45 31 ls st M = mq_k0 d mj_m45 32 ls M (mj_pu .iand ls st) := mj_R0 (r := (.iand, 1, 0, 0, 0)) rfl rfl
theorem s45_32 {d : Nat} {ls : mj_L} {st : List Value} {M : mj_H} : mj_Rn d mj_m45 32 ls st M = mq_k4 d mj_m45 33 ls (mj_hw (.iastore, 1, 0, 0, 0) st M) := mj_R4 (r := (.iastore, 1, 0, 0, 0)) rfl rfl
theorem s45_33 {d : Nat} {ls : mj_L} {st : List Value} {M : mj_H} : mj_Rn d mj_m45 33 ls st M = mq_k0 d mj_m45 34 ls M (mj_lda (mj_lk ls 0) st) := mj_R0 (r := (.aload_n 0, 1, 0, 0, 0)) rfl rfl
theorem s45_34 {d : Nat} {ls : mj_L} {st : List Value} {M : mj_H} : mj_Rn d mj_m45 34 ls st M = mq_k0 d mj_m45 35 ls M (mj_pu .dup ls st) := mj_R0 (r := (.dup, 1, 0, 0, 0)) rfl rfl
theorem s45_35 {d : Nat} {ls : mj_L} {st : List Value} {M : mj_H} : mj_Rn d mj_m45 35 ls st M = mq_k0 d mj_m45 38 ls M (mq_gf 1 1 st M) := (mj_R3 (r := (.getfield 21, 3, 1, 1, 8268)) rfl rfl).trans (congrArg (mq_k0 d mj_m45 38 ls M) mq_gf_eq)
theorem s45_38 {d : Nat} {ls : mj_L} {st : List Value} {M : mj_H} : mj_Rn d mj_m45 38 ls st M = mj_Rn d mj_m45 39 ls (.int 1 :: st) M := mj_R0 (r := (.iconst 1, 1, 0, 0, 0)) rfl rfl
theorem s45_39 {d : Nat} {ls : mj_L} {st : List Value} {M : mj_H} : mj_Rn d mj_m45 39 ls st M = mq_k0 d mj_m45 40 ls M (mj_pu .iadd ls st) := mj_R0 (r := (.iadd, 1, 0, 0, 0)) rfl rfl
theorem s45_40 {d : Nat} {ls : mj_L} {st : List Value} {M : mj_H} : mj_Rn d mj_m45 40 ls st M = mq_k4 d mj_m45 43 ls (mq_pf 1 1 0 st M) := (mj_R4 (r := (.putfield 21, 3, 1, 1, 8268)) rfl rfl).trans (congrArg (mq_k4 d mj_m45 43 ls) (mq_pf_eq rfl rfl))
theorem s45_43 {d : Nat} {ls : mj_L} {st : List Value} {M : mj_H} : mj_Rn d mj_m45 43 ls st M = mq_k6 M (mj_re none (.return_) st) := mj_R6 (r := (.return_, 1, 0, 0, 0)) rfl rfl
theorem c9 {d : Nat} {a0 : Nat} {M : mj_H} : mj_V (d + 1) 9 [.ref a0] M = mj_Rn d mj_m9 0 [(0, .ref a0)] [] M := mj_V_go rfl (Nat.le_of_ble_eq_true rfl)
theorem c12 {d : Nat} {a0 : Nat} {M : mj_H} : mj_V (d + 1) 12 [.ref a0] M = mj_Rn d mj_m12 0 [(0, .ref a0)] [] M := mj_V_go rfl (Nat.le_of_ble_eq_true rfl)
theorem c14 {d : Nat} {a0 : Nat} {x1 : Int32} {M : mj_H} : mj_V (d + 1) 14 [.ref a0, .int x1] M = mj_Rn d mj_m14 0 [(0, .ref a0), (1, .int x1)] [] M := mj_V_go rfl (Nat.le_of_ble_eq_true rfl)
theorem c16 {d : Nat} {a0 : Nat} {x1 : Int32} {x2 : Int32} {M : mj_H} : mj_V (d + 1) 16 [.ref a0, .int x1, .int x2] M = mj_Rn d mj_m16 0 [(0, .ref a0), (1, .int x1), (2, .int x2)] [] M := mj_V_go rfl (Nat.le_of_ble_eq_true rfl)
theorem c45 {d : Nat} {a0 : Nat} {x1 : Int32} {M : mj_H} : mj_V (d + 1) 45 [.ref a0, .int x1] M = mj_Rn d mj_m45 0 [(0, .ref a0), (1, .int x1)] [] M := mj_V_go rfl (Nat.le_of_ble_eq_true rfl)
theorem bt_255 (v : Int32) : (v &&& 255) &&& 255 = v &&& 255 := by
  apply Int32.toBitVec_inj.mp
  simp [BitVec.and_assoc]
/-- a row of bytes: the object at a, its cells at b, room for cap, holding xs -/
def bb (M : mj_H) (a b cap : Nat) (xs : List Int32) : Prop := mj_E ≤ a ∧ mj_E ≤ b ∧ a ≠ b ∧ cap < 2 ^ 31 ∧ (∀ v ∈ xs, v &&& 255 = v) ∧ M[a]? = some (1, [.ref b, .int (nI xs.length)]) ∧ ∃ g : List Int32, M[b]? = some (1000, (xs ++ g).map Value.int) ∧ (xs ++ g).length = cap
def bt_app (cap : Nat) (xs ys : List Int32) : List Int32 := (xs ++ ys).take cap
/-- the item at a place; -1 when there is none -/
def bt_at (xs : List Int32) (i : Int32) : Int32 := if i < 0 then -1 else xs.getD i.toNatClampNeg (-1)
theorem bt_at_nI {xs : List Int32} {k : Nat} (h : k < 2 ^ 31) : bt_at xs (nI k) = xs.getD k (-1) := by
  unfold bt_at
  rw [if_neg (nI_pos h), nI_clamp h]
theorem bb.len {M : mj_H} {a b cap : Nat} {xs : List Int32} (h : bb M a b cap xs) : xs.length ≤ cap := by
  obtain ⟨-, -, -, -, -, -, g, -, hg⟩ := h
  rw [← hg]; simp
theorem bb.fr {M M' : mj_H} {a b cap : Nat} {xs : List Int32} (h : bb M a b cap xs) (h1 : M'[a]? = M[a]?) (h2 : M'[b]? = M[b]?) : bb M' a b cap xs := by
  obtain ⟨e1, e2, e3, e4, e5, e6, g, e7, e8⟩ := h
  exact ⟨e1, e2, e3, e4, e5, h1.trans e6, g, h2.trans e7, e8⟩
theorem v_size {d a b cap : Nat} {xs : List Int32} {M : mj_H} (h : bb M a b cap xs) : mj_V (d + 1) 9 [.ref a] M = some (some (.int (nI xs.length)), M) := by
  obtain ⟨-, -, -, -, -, h1, -⟩ := h
  simp [c9, s9_0, s9_1, s9_4, mq_k0s, mq_k1s, mq_k2s, mq_k4s, mq_k5s, mq_k5n, mq_k5as, mq_k6s, mj_pu, mj_lo, mj_br, mj_hr, mj_hw, mq_gf, mq_len, mq_al, mq_pf, mq_ok, mj_re, mj_lk, mj_ldi, mj_ldl, mj_lda, mj_ii, mj_ll, mj_li, mj_i1, mj_s1, mj_s2, mj_tg, mj_c1, mj_c2, mj_ar, mj_aw, mq_cb, mq_oi, mj_rm, Value.category, h1, narrow]
theorem v_clear {d a b cap : Nat} {xs : List Int32} {M : mj_H} (h : bb M a b cap xs) : ∃ M', mj_V (d + 1) 12 [.ref a] M = some (none, M') ∧ bb M' a b cap [] ∧ mq_fr [a] M M' := by
  obtain ⟨ha, hb, hab, hcap, h8, h1, g, h2, hg⟩ := h
  refine ⟨M.set a (1, [.ref b, .int (nI 0)]), ?_, ⟨ha, hb, hab, hcap, by simp, by simp [List.getElem?_set, mq_lt h1], xs ++ g, by simp [List.getElem?_set, hab, h2], hg⟩, mq_fr.rf.set (by simp)⟩
  simp [c12, s12_0, s12_1, s12_2, s12_5, mq_k0s, mq_k1s, mq_k2s, mq_k4s, mq_k5s, mq_k5n, mq_k5as, mq_k6s, mj_pu, mj_lo, mj_br, mj_hr, mj_hw, mq_gf, mq_len, mq_al, mq_pf, mq_ok, mj_re, mj_lk, mj_ldi, mj_ldl, mj_lda, mj_ii, mj_ll, mj_li, mj_i1, mj_s1, mj_s2, mj_tg, mj_c1, mj_c2, mj_ar, mj_aw, mq_cb, mq_oi, mj_rm, Value.category, h1, Nat.not_lt.mpr ha, nI_0]
theorem v_item {d a b cap : Nat} {xs : List Int32} {M : mj_H} (h : bb M a b cap xs) (i : Int32) : mj_V (d + 1) 14 [.ref a, .int i] M = some (some (.int (bt_at xs i)), M) := by
  obtain ⟨ha, hb, hab, hcap, h8, h1, g, h2, hg⟩ := h
  have hxl : xs.length ≤ cap := by rw [← hg]; simp
  unfold bt_at
  by_cases h0 : i < 0
  · simp [c14, s14_0, s14_1, s14_4, s14_5, s14_6, s14_9, s14_12, s14_13, s14_14, s14_17, s14_18, s14_21, s14_22, s14_25, s14_26, s14_29, s14_30, s14_31, mq_k0s, mq_k1s, mq_k2s, mq_k4s, mq_k5s, mq_k5n, mq_k5as, mq_k6s, mj_pu, mj_lo, mj_br, mj_hr, mj_hw, mq_gf, mq_len, mq_al, mq_pf, mq_ok, mj_re, mj_lk, mj_ldi, mj_ldl, mj_lda, mj_ii, mj_ll, mj_li, mj_i1, mj_s1, mj_s2, mj_tg, mj_c1, mj_c2, mj_ar, mj_aw, mq_cb, mq_oi, mj_rm, Value.category, h1, h2, h0, narrow]
  · obtain ⟨k, hk, rfl⟩ := nI_of h0
    rw [if_neg h0, nI_clamp hk]
    by_cases hkx : k < xs.length
    · have q1 : ¬ nI xs.length ≤ nI k := nI_ge hkx (by omega)
      have q2 : nI k < Int32.ofNat ((xs ++ g).map Value.int).length := by rw [List.length_map, hg]; exact nI_lt (by omega) hcap
      have q3 := mq_ix (show k < ((xs ++ g).map Value.int).length by rw [List.length_map, hg]; omega) (by rw [List.length_map, hg]; exact hcap)
      have q4 : ((xs ++ g).map Value.int)[k]? = some (.int xs[k]) := by
        rw [List.getElem?_map, List.getElem?_append_left hkx, List.getElem?_eq_getElem hkx]; rfl
      generalize hz : (xs ++ g).map Value.int = zs at *
      simp [c14, s14_0, s14_1, s14_4, s14_5, s14_6, s14_9, s14_12, s14_13, s14_14, s14_17, s14_18, s14_21, s14_22, s14_25, s14_26, s14_29, s14_30, s14_31, mq_k0s, mq_k1s, mq_k2s, mq_k4s, mq_k5s, mq_k5n, mq_k5as, mq_k6s, mj_pu, mj_lo, mj_br, mj_hr, mj_hw, mq_gf, mq_len, mq_al, mq_pf, mq_ok, mj_re, mj_lk, mj_ldi, mj_ldl, mj_lda, mj_ii, mj_ll, mj_li, mj_i1, mj_s1, mj_s2, mj_tg, mj_c1, mj_c2, mj_ar, mj_aw, mq_cb, mq_oi, mj_rm, Value.category, h1, h2, h0, q1, q2, q3, q4, narrow, List.getD, hkx]
    · have q1 : nI xs.length ≤ nI k := nI_le (by omega) hk
      simp [c14, s14_0, s14_1, s14_4, s14_5, s14_6, s14_9, s14_12, s14_13, s14_14, s14_17, s14_18, s14_21, s14_22, s14_25, s14_26, s14_29, s14_30, s14_31, mq_k0s, mq_k1s, mq_k2s, mq_k4s, mq_k5s, mq_k5n, mq_k5as, mq_k6s, mj_pu, mj_lo, mj_br, mj_hr, mj_hw, mq_gf, mq_len, mq_al, mq_pf, mq_ok, mj_re, mj_lk, mj_ldi, mj_ldl, mj_lda, mj_ii, mj_ll, mj_li, mj_i1, mj_s1, mj_s2, mj_tg, mj_c1, mj_c2, mj_ar, mj_aw, mq_cb, mq_oi, mj_rm, Value.category, h1, h2, h0, q1, narrow, List.getD, hkx]
theorem v_put {d a b cap : Nat} {xs : List Int32} {M : mj_H} (h : bb M a b cap xs) {k : Nat} (hk : k < xs.length) (v : Int32) : ∃ M', mj_V (d + 1) 16 [.ref a, .int (nI k), .int v] M = some (none, M') ∧ bb M' a b cap (xs.set k (v &&& 255)) ∧ mq_fr [b] M M' := by
  obtain ⟨ha, hb, hab, hcap, h8, h1, g, h2, hg⟩ := h
  have hxl : xs.length ≤ cap := by rw [← hg]; simp
  have q0 : ¬ nI k < 0 := nI_pos (by omega)
  have q1 : ¬ nI xs.length ≤ nI k := nI_ge hk (by omega)
  have q2 : ¬ Int32.ofNat ((xs ++ g).map Value.int).length ≤ nI k := by rw [List.length_map, hg]; exact nI_ge (by omega) hcap
  have q3 := mq_ix (show k < ((xs ++ g).map Value.int).length by rw [List.length_map, hg]; omega) (by rw [List.length_map, hg]; exact hcap)
  have q4 : ((xs ++ g).map Value.int).set k (.int (v &&& 255)) = ((xs.set k (v &&& 255)) ++ g).map Value.int := by
    rw [← List.map_set, List.set_append_left _ _ hk]
  refine ⟨M.set b (1000, ((xs.set k (v &&& 255)) ++ g).map Value.int), ?_, ⟨ha, hb, hab, hcap, ?_, ?_, g, ?_, ?_⟩, mq_fr.rf.set (by simp)⟩
  · generalize hz : (xs ++ g).map Value.int = zs at *
    simp [c16, s16_0, s16_1, s16_4, s16_5, s16_6, s16_9, s16_12, s16_13, s16_14, s16_17, s16_18, s16_21, s16_22, s16_25, s16_26, s16_27, s16_30, s16_31, s16_32, mq_k0s, mq_k1s, mq_k2s, mq_k4s, mq_k5s, mq_k5n, mq_k5as, mq_k6s, mj_pu, mj_lo, mj_br, mj_hr, mj_hw, mq_gf, mq_len, mq_al, mq_pf, mq_ok, mj_re, mj_lk, mj_ldi, mj_ldl, mj_lda, mj_ii, mj_ll, mj_li, mj_i1, mj_s1, mj_s2, mj_tg, mj_c1, mj_c2, mj_ar, mj_aw, mq_cb, mq_oi, mj_rm, Value.category, h1, h2, q0, q1, q2, q3, q4, Nat.not_lt.mpr ha, Nat.not_lt.mpr hb]
  · intro w hw
    rcases List.mem_or_eq_of_mem_set hw with h | rfl
    · exact h8 w h
    · exact bt_255 v
  · rw [List.getElem?_set_ne (Ne.symm hab), List.length_set]; exact h1
  · rw [List.getElem?_set_self (mq_lt h2)]
  · simpa using hg
theorem v_push {d a b cap : Nat} {xs : List Int32} {M : mj_H} (h : bb M a b cap xs) (v : Int32) : ∃ M', mj_V (d + 1) 45 [.ref a, .int v] M = some (none, M') ∧ bb M' a b cap (bt_app cap xs [v &&& 255]) ∧ mq_fr [a, b] M M' := by
  have hxl := h.len
  obtain ⟨ha, hb, hab, hcap, h8, h1, g, h2, hg⟩ := id h
  have q0 : ¬ nI xs.length < 0 := nI_pos (by omega)
  by_cases hlt : xs.length < cap
  · have q2 : ¬ Int32.ofNat ((xs ++ g).map Value.int).length ≤ nI xs.length := by rw [List.length_map, hg]; exact nI_ge hlt hcap
    have q3 := mq_ix (show xs.length < ((xs ++ g).map Value.int).length by rw [List.length_map, hg]; omega) (by rw [List.length_map, hg]; exact hcap)
    obtain ⟨c, g', rfl⟩ : ∃ c g', g = c :: g' := by
      cases g with
      | nil => simp at hg; omega
      | cons c g' => exact ⟨c, g', rfl⟩
    have q4 : ((xs ++ c :: g').map Value.int).set xs.length (.int (v &&& 255)) = ((xs ++ [v &&& 255]) ++ g').map Value.int := by
      rw [← List.map_set]; simp
    have ea : bt_app cap xs [v &&& 255] = xs ++ [v &&& 255] := by
      unfold bt_app
      exact List.take_of_length_le (by simp; omega)
    rw [ea]
    refine ⟨(M.set b (1000, ((xs ++ [v &&& 255]) ++ g').map Value.int)).set a (1, [.ref b, .int (nI (xs ++ [v &&& 255]).length)]), ?_, ⟨ha, hb, hab, hcap, ?_, ?_, g', ?_, ?_⟩, (mq_fr.rf.set (by simp)).set (by simp)⟩
    · generalize hz : (xs ++ c :: g').map Value.int = zs at *
      simp [c45, s45_0, s45_1, s45_4, s45_7, s45_8, s45_11, s45_12, s45_15, s45_16, s45_19, s45_20, s45_23, s45_24, s45_27, s45_28, s45_31, s45_32, s45_33, s45_34, s45_35, s45_38, s45_39, s45_40, s45_43, mq_k0s, mq_k1s, mq_k2s, mq_k4s, mq_k5s, mq_k5n, mq_k5as, mq_k6s, mj_pu, mj_lo, mj_br, mj_hr, mj_hw, mq_gf, mq_len, mq_al, mq_pf, mq_ok, mj_re, mj_lk, mj_ldi, mj_ldl, mj_lda, mj_ii, mj_ll, mj_li, mj_i1, mj_s1, mj_s2, mj_tg, mj_c1, mj_c2, mj_ar, mj_aw, mq_cb, mq_oi, mj_rm, Value.category, h1, h2, q0, q2, q3, q4, Nat.not_lt.mpr ha, Nat.not_lt.mpr hb, hab, Ne.symm hab, List.getElem?_set, nI_1]
    · intro w hw
      rcases List.mem_append.mp hw with h | h
      · exact h8 w h
      · rw [List.mem_singleton.mp h]; exact bt_255 v
    · rw [List.getElem?_set_self (by rw [List.length_set]; exact mq_lt h1)]
    · rw [List.getElem?_set_ne hab, List.getElem?_set_self (mq_lt h2)]
    · simpa using hg
  · have q2 : Int32.ofNat ((xs ++ g).map Value.int).length ≤ nI xs.length := by rw [List.length_map, hg]; exact nI_le (by omega) (by omega)
    have ea : bt_app cap xs [v &&& 255] = xs := by
      unfold bt_app
      rw [List.take_append_of_le_length (by omega)]
      exact List.take_of_length_le (by omega)
    rw [ea]
    refine ⟨M, ?_, h, mq_fr.rf⟩
    generalize hz : (xs ++ g).map Value.int = zs at *
    simp [c45, s45_0, s45_1, s45_4, s45_7, s45_8, s45_11, s45_12, s45_15, s45_16, s45_19, s45_20, s45_23, s45_24, s45_27, s45_28, s45_31, s45_32, s45_33, s45_34, s45_35, s45_38, s45_39, s45_40, s45_43, mq_k0s, mq_k1s, mq_k2s, mq_k4s, mq_k5s, mq_k5n, mq_k5as, mq_k6s, mj_pu, mj_lo, mj_br, mj_hr, mj_hw, mq_gf, mq_len, mq_al, mq_pf, mq_ok, mj_re, mj_lk, mj_ldi, mj_ldl, mj_lda, mj_ii, mj_ll, mj_li, mj_i1, mj_s1, mj_s2, mj_tg, mj_c1, mj_c2, mj_ar, mj_aw, mq_cb, mq_oi, mj_rm, Value.category, h1, h2, q0, q2]
end
/- 41.bytes2 -/
section
set_option maxRecDepth 512
/-! Class: Bytes, its loops. -/
/- 10 PasskeyHouse$Bytes.pushLow(JI)V -/
theorem s10_0 {d : Nat} {ls : mj_L} {st : List Value} {M : mj_H} : mj_Rn d mj_m10 0 ls st M = mq_k0 d mj_m10 1 ls M (mj_ldi (mj_lk ls 3) st) := mj_R0 (r := (.iload_n 3, 1, 0, 0, 0)) rfl rfl
theorem s10_1 {d : Nat} {ls : mj_L} {st : List Value} {M : mj_H} : mj_Rn d mj_m10 1 ls st M = mj_Rn d mj_m10 2 ls (.int 1 :: st) M := mj_R0 (r := (.iconst 1, 1, 0, 0, 0)) rfl rfl
theorem s10_2 {d : Nat} {ls : mj_L} {st : List Value} {M : mj_H} : mj_Rn d mj_m10 2 ls st M = mq_k0 d mj_m10 3 ls M (mj_pu .isub ls st) := mj_R0 (r := (.isub, 1, 0, 0, 0)) rfl rfl
theorem s10_3 {d : Nat} {ls : mj_L} {st : List Value} {M : mj_H} : mj_Rn d mj_m10 3 ls st M = mq_k1 d mj_m10 5 M (mj_lo 5 (.istore 4) ls st) := mj_R1 (r := (.istore 4, 2, 0, 0, 0)) rfl rfl
theorem s10_5 {d : Nat} {ls : mj_L} {st : List Value} {M : mj_H} : mj_Rn d mj_m10 5 ls st M = mq_k0 d mj_m10 7 ls M (mj_ldi (mj_lk ls 4) st) := mj_R0 (r := (.iload 4, 2, 0, 0, 0)) rfl rfl
theorem s10_7 {d : Nat} {ls : mj_L} {st : List Value} {M : mj_H} : mj_Rn d mj_m10 7 ls st M = mq_k2 d mj_m10 ls M (mj_br (.ifCond .lt 59) 7 st) := mj_R2 (r := (.ifCond .lt 59, 3, 0, 0, 0)) rfl rfl
theorem s10_10 {d : Nat} {ls : mj_L} {st : List Value} {M : mj_H} : mj_Rn d mj_m10 10 ls st M = mq_k0 d mj_m10 11 ls M (mj_lda (mj_lk ls 0) st) := mj_R0 (r := (.aload_n 0, 1, 0, 0, 0)) rfl rfl
theorem s10_11 {d : Nat} {ls : mj_L} {st : List Value} {M : mj_H} : mj_Rn d mj_m10 11 ls st M = mq_k0 d mj_m10 14 ls M (mq_gf 1 1 st M) := (mj_R3 (r := (.getfield 21, 3, 1, 1, 8268)) rfl rfl).trans (congrArg (mq_k0 d mj_m10 14 ls M) mq_gf_eq)
theorem s10_14 {d : Nat} {ls : mj_L} {st : List Value} {M : mj_H} : mj_Rn d mj_m10 14 ls st M = mq_k2 d mj_m10 ls M (mj_br (.ifCond .lt 46) 14 st) := mj_R2 (r := (.ifCond .lt 46, 3, 0, 0, 0)) rfl rfl
theorem s10_17 {d : Nat} {ls : mj_L} {st : List Value} {M : mj_H} : mj_Rn d mj_m10 17 ls st M = mq_k0 d mj_m10 18 ls M (mj_lda (mj_lk ls 0) st) := mj_R0 (r := (.aload_n 0, 1, 0, 0, 0)) rfl rfl
theorem s10_18 {d : Nat} {ls : mj_L} {st : List Value} {M : mj_H} : mj_Rn d mj_m10 18 ls st M = mq_k0 d mj_m10 21 ls M (mq_gf 1 1 st M) := (mj_R3 (r := (.getfield 21, 3, 1, 1, 8268)) rfl rfl).trans (congrArg (mq_k0 d mj_m10 21 ls M) mq_gf_eq)
theorem s10_21 {d : Nat} {ls : mj_L} {st : List Value} {M : mj_H} : mj_Rn d mj_m10 21 ls st M = mq_k0 d mj_m10 22 ls M (mj_lda (mj_lk ls 0) st) := mj_R0 (r := (.aload_n 0, 1, 0, 0, 0)) rfl rfl
theorem s10_22 {d : Nat} {ls : mj_L} {st : List Value} {M : mj_H} : mj_Rn d mj_m10 22 ls st M = mq_k0 d mj_m10 25 ls M (mq_gf 1 0 st M) := (mj_R3 (r := (.getfield 15, 3, 1, 0, 8266)) rfl rfl).trans (congrArg (mq_k0 d mj_m10 25 ls M) mq_gf_eq)
theorem s10_25 {d : Nat} {ls : mj_L} {st : List Value} {M : mj_H} : mj_Rn d mj_m10 25 ls st M = mq_k0 d mj_m10 26 ls M (mq_len st M) := (mj_R3 (r := (.arraylength, 1, 0, 0, 0)) rfl rfl).trans (congrArg (mq_k0 d mj_m10 26 ls M) mq_len_eq)
theorem s10_26 {d : Nat} {ls : mj_L} {st : List Value} {M : mj_H} : mj_Rn d mj_m10 26 ls st M = mq_k2 d mj_m10 ls M (mj_br (.if_icmp .ge 34) 26 st) := mj_R2 (r := (.if_icmp .ge 34, 3, 0, 0, 0)) rfl rfl
theorem s10_29 {d : Nat} {ls : mj_L} {st : List Value} {M : mj_H} : mj_Rn d mj_m10 29 ls st M = mq_k0 d mj_m10 30 ls M (mj_lda (mj_lk ls 0) st) := mj_R0 (r := (.aload_n 0, 1, 0, 0, 0)) rfl rfl
theorem s10_30 {d : Nat} {ls : mj_L} {st : List Value} {M : mj_H} : mj_Rn d mj_m10 30 ls st M = mq_k0 d mj_m10 33 ls M (mq_gf 1 0 st M) := (mj_R3 (r := (.getfield 15, 3, 1, 0, 8266)) rfl rfl).trans (congrArg (mq_k0 d mj_m10 33 ls M) mq_gf_eq)
theorem s10_33 {d : Nat} {ls : mj_L} {st : List Value} {M : mj_H} : mj_Rn d mj_m10 33 ls st M = mq_k0 d mj_m10 34 ls M (mj_lda (mj_lk ls 0) st) := mj_R0 (r := (.aload_n 0, 1, 0, 0, 0)) rfl rfl
theorem s10_34 {d : Nat} {ls : mj_L} {st : List Value} {M : mj_H} : mj_Rn d mj_m10 34 ls st M = mq_k0 d mj_m10 37 ls M (mq_gf 1 1 st M) := (mj_R3 (r := (.getfield 21, 3, 1, 1, 8268)) rfl rfl).trans (congrArg (mq_k0 d mj_m10 37 ls M) mq_gf_eq)
theorem s10_37 {d : Nat} {ls : mj_L} {st : List Value} {M : mj_H} : mj_Rn d mj_m10 37 ls st M = mq_k0 d mj_m10 38 ls M (mj_ldl (mj_lk ls 1) st) := mj_R0 (r := (.lload_n 1, 1, 0, 0, 0)) rfl rfl
theorem s10_38 {d : Nat} {ls : mj_L} {st : List Value} {M : mj_H} : mj_Rn d mj_m10 38 ls st M = mj_Rn d mj_m10 40 ls (.int 8 :: st) M := mj_R0 (r := (.bipush 8, 2, 0, 0, 0)) rfl rfl
theorem s10_40 {d : Nat} {ls : mj_L} {st : List Value} {M : mj_H} : mj_Rn d mj_m10 40 ls st M = mq_k0 d mj_m10 42 ls M (mj_ldi (mj_lk ls 4) st) := mj_R0 (r := (.iload 4, 2, 0, 0, 0)) rfl rfl
theorem s10_42 {d : Nat} {ls : mj_L} {st : List Value} {M : mj_H} : mj_Rn d mj_m10 42 ls st M = mq_k0 d mj_m10 43 ls M (mj_pu .imul ls st) := mj_R0 (r := (.imul, 1, 0, 0, 0)) rfl rfl
theorem s10_43 {d : Nat} {ls : mj_L} {st : List Value} {M : mj_H} : mj_Rn d mj_m10 43 ls st M = mq_k0 d mj_m10 44 ls M (mj_pu .lushr ls st) := mj_R0 (r := (.lushr, 1, 0, 0, 0)) rfl rfl
theorem s10_44 {d : Nat} {ls : mj_L} {st : List Value} {M : mj_H} : mj_Rn d mj_m10 44 ls st M = mq_k0 d mj_m10 45 ls M (mj_pu .l2i ls st) := mj_R0 (r := (.l2i, 1, 0, 0, 0)) rfl rfl
theorem s10_45 {d : Nat} {ls : mj_L} {st : List Value} {M : mj_H} : mj_Rn d mj_m10 45 ls st M = mj_Rn d mj_m10 48 ls (.int 255 :: st) M := mj_R0 (r := (.sipush 255, 3, 0, 0, 0)) rfl rfl
theorem s10_48 {d : Nat} {ls : mj_L} {st : List Value} {M : mj_H} : mj_Rn d mj_m10 48 ls st M = mq_k0 d mj_m10 49 ls M (mj_pu .iand ls st) := mj_R0 (r := (.iand, 1, 0, 0, 0)) rfl rfl
theorem s10_49 {d : Nat} {ls : mj_L} {st : List Value} {M : mj_H} : mj_Rn d mj_m10 49 ls st M = mq_k4 d mj_m10 50 ls (mj_hw (.iastore, 1, 0, 0, 0) st M) := mj_R4 (r := (.iastore, 1, 0, 0, 0)) rfl rfl
theorem s10_50 {d : Nat} {ls : mj_L} {st : List Value} {M : mj_H} : mj_Rn d mj_m10 50 ls st M = mq_k0 d mj_m10 51 ls M (mj_lda (mj_lk ls 0) st) := mj_R0 (r := (.aload_n 0, 1, 0, 0, 0)) rfl rfl
theorem s10_51 {d : Nat} {ls : mj_L} {st : List Value} {M : mj_H} : mj_Rn d mj_m10 51 ls st M = mq_k0 d mj_m10 52 ls M (mj_pu .dup ls st) := mj_R0 (r := (.dup, 1, 0, 0, 0)) rfl rfl
theorem s10_52 {d : Nat} {ls : mj_L} {st : List Value} {M : mj_H} : mj_Rn d mj_m10 52 ls st M = mq_k0 d mj_m10 55 ls M (mq_gf 1 1 st M) := (mj_R3 (r := (.getfield 21, 3, 1, 1, 8268)) rfl rfl).trans (congrArg (mq_k0 d mj_m10 55 ls M) mq_gf_eq)
theorem s10_55 {d : Nat} {ls : mj_L} {st : List Value} {M : mj_H} : mj_Rn d mj_m10 55 ls st M = mj_Rn d mj_m10 56 ls (.int 1 :: st) M := mj_R0 (r := (.iconst 1, 1, 0, 0, 0)) rfl rfl
theorem s10_56 {d : Nat} {ls : mj_L} {st : List Value} {M : mj_H} : mj_Rn d mj_m10 56 ls st M = mq_k0 d mj_m10 57 ls M (mj_pu .iadd ls st) := mj_R0 (r := (.iadd, 1, 0, 0, 0)) rfl rfl
theorem s10_57 {d : Nat} {ls : mj_L} {st : List Value} {M : mj_H} : mj_Rn d mj_m10 57 ls st M = mq_k4 d mj_m10 60 ls (mq_pf 1 1 0 st M) := (mj_R4 (r := (.putfield 21, 3, 1, 1, 8268)) rfl rfl).trans (congrArg (mq_k4 d mj_m10 60 ls) (mq_pf_eq rfl rfl))
theorem s10_60 {d : Nat} {ls : mj_L} {st : List Value} {M : mj_H} : mj_Rn d mj_m10 60 ls st M = mq_k1 d mj_m10 63 M (mj_lo 5 (.iinc 4 (-1)) ls st) := mj_R1 (r := (.iinc 4 (-1), 3, 0, 0, 0)) rfl rfl
theorem s10_63 {d : Nat} {ls : mj_L} {st : List Value} {M : mj_H} : mj_Rn d mj_m10 63 ls st M = mj_Rn d mj_m10 5 ls st M := mj_R2 (r := (.goto (-58), 3, 0, 0, 0)) rfl rfl
theorem s10_66 {d : Nat} {ls : mj_L} {st : List Value} {M : mj_H} : mj_Rn d mj_m10 66 ls st M = mq_k6 M (mj_re none (.return_) st) := mj_R6 (r := (.return_, 1, 0, 0, 0)) rfl rfl
/- 77 PasskeyHouse$Bytes.pushPart(LPasskeyHouse$Bytes;II)V -/
theorem s77_0 {d : Nat} {ls : mj_L} {st : List Value} {M : mj_H} : mj_Rn d mj_m77 0 ls st M = mj_Rn d mj_m77 1 ls (.int 0 :: st) M := mj_R0 (r := (.iconst 0, 1, 0, 0, 0)) rfl rfl
theorem s77_1 {d : Nat} {ls : mj_L} {st : List Value} {M : mj_H} : mj_Rn d mj_m77 1 ls st M = mq_k1 d mj_m77 3 M (mj_lo 6 (.istore 4) ls st) := mj_R1 (r := (.istore 4, 2, 0, 0, 0)) rfl rfl
theorem s77_3 {d : Nat} {ls : mj_L} {st : List Value} {M : mj_H} : mj_Rn d mj_m77 3 ls st M = mq_k0 d mj_m77 5 ls M (mj_ldi (mj_lk ls 4) st) := mj_R0 (r := (.iload 4, 2, 0, 0, 0)) rfl rfl
theorem s77_5 {d : Nat} {ls : mj_L} {st : List Value} {M : mj_H} : mj_Rn d mj_m77 5 ls st M = mq_k0 d mj_m77 6 ls M (mj_ldi (mj_lk ls 3) st) := mj_R0 (r := (.iload_n 3, 1, 0, 0, 0)) rfl rfl
theorem s77_6 {d : Nat} {ls : mj_L} {st : List Value} {M : mj_H} : mj_Rn d mj_m77 6 ls st M = mq_k2 d mj_m77 ls M (mj_br (.if_icmp .ge 31) 6 st) := mj_R2 (r := (.if_icmp .ge 31, 3, 0, 0, 0)) rfl rfl
theorem s77_9 {d : Nat} {ls : mj_L} {st : List Value} {M : mj_H} : mj_Rn d mj_m77 9 ls st M = mq_k0 d mj_m77 10 ls M (mj_lda (mj_lk ls 1) st) := mj_R0 (r := (.aload_n 1, 1, 0, 0, 0)) rfl rfl
theorem s77_10 {d : Nat} {ls : mj_L} {st : List Value} {M : mj_H} : mj_Rn d mj_m77 10 ls st M = mq_k0 d mj_m77 11 ls M (mj_ldi (mj_lk ls 2) st) := mj_R0 (r := (.iload_n 2, 1, 0, 0, 0)) rfl rfl
theorem s77_11 {d : Nat} {ls : mj_L} {st : List Value} {M : mj_H} : mj_Rn d mj_m77 11 ls st M = mq_k0 d mj_m77 13 ls M (mj_ldi (mj_lk ls 4) st) := mj_R0 (r := (.iload 4, 2, 0, 0, 0)) rfl rfl
theorem s77_13 {d : Nat} {ls : mj_L} {st : List Value} {M : mj_H} : mj_Rn d mj_m77 13 ls st M = mq_k0 d mj_m77 14 ls M (mj_pu .iadd ls st) := mj_R0 (r := (.iadd, 1, 0, 0, 0)) rfl rfl
theorem s77_14 {d : Nat} {ls : mj_L} {st : List Value} {M : mj_H} : mj_Rn (d + 1) mj_m77 14 ls st M = mq_k5a (d + 1) mj_m77 17 ls M 14 (mq_cb 0 1 1 st M) := mj_R5e (r := (.invokevirtual 31, 3, 0, 14, 12433)) (z := mj_m14) rfl rfl (by decide) (by decide) rfl
theorem s77_17 {d : Nat} {ls : mj_L} {st : List Value} {M : mj_H} : mj_Rn d mj_m77 17 ls st M = mq_k1 d mj_m77 19 M (mj_lo 6 (.istore 5) ls st) := mj_R1 (r := (.istore 5, 2, 0, 0, 0)) rfl rfl
theorem s77_19 {d : Nat} {ls : mj_L} {st : List Value} {M : mj_H} : mj_Rn d mj_m77 19 ls st M = mq_k0 d mj_m77 21 ls M (mj_ldi (mj_lk ls 5) st) := mj_R0 (r := (.iload 5, 2, 0, 0, 0)) rfl rfl
theorem s77_21 {d : Nat} {ls : mj_L} {st : List Value} {M : mj_H} : mj_Rn d mj_m77 21 ls st M = mj_Rn d mj_m77 22 ls (.int (-1) :: st) M := mj_R0 (r := (.iconst (-1), 1, 0, 0, 0)) rfl rfl
theorem s77_22 {d : Nat} {ls : mj_L} {st : List Value} {M : mj_H} : mj_Rn d mj_m77 22 ls st M = mq_k2 d mj_m77 ls M (mj_br (.if_icmp .eq 9) 22 st) := mj_R2 (r := (.if_icmp .eq 9, 3, 0, 0, 0)) rfl rfl
theorem s77_25 {d : Nat} {ls : mj_L} {st : List Value} {M : mj_H} : mj_Rn d mj_m77 25 ls st M = mq_k0 d mj_m77 26 ls M (mj_lda (mj_lk ls 0) st) := mj_R0 (r := (.aload_n 0, 1, 0, 0, 0)) rfl rfl
theorem s77_26 {d : Nat} {ls : mj_L} {st : List Value} {M : mj_H} : mj_Rn d mj_m77 26 ls st M = mq_k0 d mj_m77 28 ls M (mj_ldi (mj_lk ls 5) st) := mj_R0 (r := (.iload 5, 2, 0, 0, 0)) rfl rfl
theorem s77_28 {d : Nat} {ls : mj_L} {st : List Value} {M : mj_H} : mj_Rn (d + 1) mj_m77 28 ls st M = mq_k5a (d + 1) mj_m77 31 ls M 45 (mq_cb 0 1 1 st M) := mj_R5e (r := (.invokevirtual 35, 3, 0, 45, 12434)) (z := mj_m45) rfl rfl (by decide) (by decide) rfl
theorem s77_31 {d : Nat} {ls : mj_L} {st : List Value} {M : mj_H} : mj_Rn d mj_m77 31 ls st M = mq_k1 d mj_m77 34 M (mj_lo 6 (.iinc 4 1) ls st) := mj_R1 (r := (.iinc 4 1, 3, 0, 0, 0)) rfl rfl
theorem s77_34 {d : Nat} {ls : mj_L} {st : List Value} {M : mj_H} : mj_Rn d mj_m77 34 ls st M = mj_Rn d mj_m77 3 ls st M := mj_R2 (r := (.goto (-31), 3, 0, 0, 0)) rfl rfl
theorem s77_37 {d : Nat} {ls : mj_L} {st : List Value} {M : mj_H} : mj_Rn d mj_m77 37 ls st M = mq_k6 M (mj_re none (.return_) st) := mj_R6 (r := (.return_, 1, 0, 0, 0)) rfl rfl
/- 49 PasskeyHouse$Bytes.low(II)J -/
theorem s49_0 {d : Nat} {ls : mj_L} {st : List Value} {M : mj_H} : mj_Rn d mj_m49 0 ls st M = mj_Rn d mj_m49 1 ls (.long 0 :: st) M := mj_R0 (r := (.lconst 0, 1, 0, 0, 0)) rfl rfl
theorem s49_1 {d : Nat} {ls : mj_L} {st : List Value} {M : mj_H} : mj_Rn d mj_m49 1 ls st M = mq_k1 d mj_m49 2 M (mj_lo 6 (.lstore 3) ls st) := (mj_R1 (r := (.lstore_n 3, 1, 0, 0, 0)) rfl rfl).trans (congrArg (mq_k1 d mj_m49 2 M) (mq_stl (k := 3)))
theorem s49_2 {d : Nat} {ls : mj_L} {st : List Value} {M : mj_H} : mj_Rn d mj_m49 2 ls st M = mq_k0 d mj_m49 3 ls M (mj_ldi (mj_lk ls 1) st) := mj_R0 (r := (.iload_n 1, 1, 0, 0, 0)) rfl rfl
theorem s49_3 {d : Nat} {ls : mj_L} {st : List Value} {M : mj_H} : mj_Rn d mj_m49 3 ls st M = mq_k1 d mj_m49 5 M (mj_lo 6 (.istore 5) ls st) := mj_R1 (r := (.istore 5, 2, 0, 0, 0)) rfl rfl
theorem s49_5 {d : Nat} {ls : mj_L} {st : List Value} {M : mj_H} : mj_Rn d mj_m49 5 ls st M = mq_k0 d mj_m49 7 ls M (mj_ldi (mj_lk ls 5) st) := mj_R0 (r := (.iload 5, 2, 0, 0, 0)) rfl rfl
theorem s49_7 {d : Nat} {ls : mj_L} {st : List Value} {M : mj_H} : mj_Rn d mj_m49 7 ls st M = mq_k0 d mj_m49 8 ls M (mj_ldi (mj_lk ls 1) st) := mj_R0 (r := (.iload_n 1, 1, 0, 0, 0)) rfl rfl
theorem s49_8 {d : Nat} {ls : mj_L} {st : List Value} {M : mj_H} : mj_Rn d mj_m49 8 ls st M = mq_k0 d mj_m49 9 ls M (mj_ldi (mj_lk ls 2) st) := mj_R0 (r := (.iload_n 2, 1, 0, 0, 0)) rfl rfl
theorem s49_9 {d : Nat} {ls : mj_L} {st : List Value} {M : mj_H} : mj_Rn d mj_m49 9 ls st M = mq_k0 d mj_m49 10 ls M (mj_pu .iadd ls st) := mj_R0 (r := (.iadd, 1, 0, 0, 0)) rfl rfl
theorem s49_10 {d : Nat} {ls : mj_L} {st : List Value} {M : mj_H} : mj_Rn d mj_m49 10 ls st M = mq_k2 d mj_m49 ls M (mj_br (.if_icmp .ge 42) 10 st) := mj_R2 (r := (.if_icmp .ge 42, 3, 0, 0, 0)) rfl rfl
theorem s49_13 {d : Nat} {ls : mj_L} {st : List Value} {M : mj_H} : mj_Rn d mj_m49 13 ls st M = mq_k0 d mj_m49 14 ls M (mj_ldl (mj_lk ls 3) st) := mj_R0 (r := (.lload_n 3, 1, 0, 0, 0)) rfl rfl
theorem s49_14 {d : Nat} {ls : mj_L} {st : List Value} {M : mj_H} : mj_Rn d mj_m49 14 ls st M = mj_Rn d mj_m49 16 ls (.int 8 :: st) M := mj_R0 (r := (.bipush 8, 2, 0, 0, 0)) rfl rfl
theorem s49_16 {d : Nat} {ls : mj_L} {st : List Value} {M : mj_H} : mj_Rn d mj_m49 16 ls st M = mq_k0 d mj_m49 17 ls M (mj_pu .lshl ls st) := mj_R0 (r := (.lshl, 1, 0, 0, 0)) rfl rfl
theorem s49_17 {d : Nat} {ls : mj_L} {st : List Value} {M : mj_H} : mj_Rn d mj_m49 17 ls st M = mq_k0 d mj_m49 19 ls M (mj_ldi (mj_lk ls 5) st) := mj_R0 (r := (.iload 5, 2, 0, 0, 0)) rfl rfl
theorem s49_19 {d : Nat} {ls : mj_L} {st : List Value} {M : mj_H} : mj_Rn d mj_m49 19 ls st M = mq_k2 d mj_m49 ls M (mj_br (.ifCond .lt 13) 19 st) := mj_R2 (r := (.ifCond .lt 13, 3, 0, 0, 0)) rfl rfl
theorem s49_22 {d : Nat} {ls : mj_L} {st : List Value} {M : mj_H} : mj_Rn d mj_m49 22 ls st M = mq_k0 d mj_m49 24 ls M (mj_ldi (mj_lk ls 5) st) := mj_R0 (r := (.iload 5, 2, 0, 0, 0)) rfl rfl
theorem s49_24 {d : Nat} {ls : mj_L} {st : List Value} {M : mj_H} : mj_Rn d mj_m49 24 ls st M = mq_k0 d mj_m49 25 ls M (mj_lda (mj_lk ls 0) st) := mj_R0 (r := (.aload_n 0, 1, 0, 0, 0)) rfl rfl
theorem s49_25 {d : Nat} {ls : mj_L} {st : List Value} {M : mj_H} : mj_Rn d mj_m49 25 ls st M = mq_k0 d mj_m49 28 ls M (mq_gf 1 0 st M) := (mj_R3 (r := (.getfield 15, 3, 1, 0, 8266)) rfl rfl).trans (congrArg (mq_k0 d mj_m49 28 ls M) mq_gf_eq)
theorem s49_28 {d : Nat} {ls : mj_L} {st : List Value} {M : mj_H} : mj_Rn d mj_m49 28 ls st M = mq_k0 d mj_m49 29 ls M (mq_len st M) := (mj_R3 (r := (.arraylength, 1, 0, 0, 0)) rfl rfl).trans (congrArg (mq_k0 d mj_m49 29 ls M) mq_len_eq)
theorem s49_29 {d : Nat} {ls : mj_L} {st : List Value} {M : mj_H} : mj_Rn d mj_m49 29 ls st M = mq_k2 d mj_m49 ls M (mj_br (.if_icmp .lt 7) 29 st) := mj_R2 (r := (.if_icmp .lt 7, 3, 0, 0, 0)) rfl rfl
theorem s49_32 {d : Nat} {ls : mj_L} {st : List Value} {M : mj_H} : mj_Rn d mj_m49 32 ls st M = mj_Rn d mj_m49 33 ls (.int 0 :: st) M := mj_R0 (r := (.iconst 0, 1, 0, 0, 0)) rfl rfl
theorem s49_33 {d : Nat} {ls : mj_L} {st : List Value} {M : mj_H} : mj_Rn d mj_m49 33 ls st M = mj_Rn d mj_m49 43 ls st M := mj_R2 (r := (.goto 10, 3, 0, 0, 0)) rfl rfl
theorem s49_36 {d : Nat} {ls : mj_L} {st : List Value} {M : mj_H} : mj_Rn d mj_m49 36 ls st M = mq_k0 d mj_m49 37 ls M (mj_lda (mj_lk ls 0) st) := mj_R0 (r := (.aload_n 0, 1, 0, 0, 0)) rfl rfl
theorem s49_37 {d : Nat} {ls : mj_L} {st : List Value} {M : mj_H} : mj_Rn d mj_m49 37 ls st M = mq_k0 d mj_m49 40 ls M (mq_gf 1 0 st M) := (mj_R3 (r := (.getfield 15, 3, 1, 0, 8266)) rfl rfl).trans (congrArg (mq_k0 d mj_m49 40 ls M) mq_gf_eq)
theorem s49_40 {d : Nat} {ls : mj_L} {st : List Value} {M : mj_H} : mj_Rn d mj_m49 40 ls st M = mq_k0 d mj_m49 42 ls M (mj_ldi (mj_lk ls 5) st) := mj_R0 (r := (.iload 5, 2, 0, 0, 0)) rfl rfl
theorem s49_42 {d : Nat} {ls : mj_L} {st : List Value} {M : mj_H} : mj_Rn d mj_m49 42 ls st M = mq_k0 d mj_m49 43 ls M (mq_al [1000] st M) := (mj_R3 (r := (.iaload, 1, 0, 0, 0)) rfl rfl).trans (congrArg (mq_k0 d mj_m49 43 ls M) mq_ali_eq)
theorem s49_43 {d : Nat} {ls : mj_L} {st : List Value} {M : mj_H} : mj_Rn d mj_m49 43 ls st M = mq_k0 d mj_m49 44 ls M (mj_pu .i2l ls st) := mj_R0 (r := (.i2l, 1, 0, 0, 0)) rfl rfl
theorem s49_44 {d : Nat} {ls : mj_L} {st : List Value} {M : mj_H} : mj_Rn d mj_m49 44 ls st M = mq_k0 d mj_m49 45 ls M (mj_pu .lor ls st) := mj_R0 (r := (.lor, 1, 0, 0, 0)) rfl rfl
theorem s49_45 {d : Nat} {ls : mj_L} {st : List Value} {M : mj_H} : mj_Rn d mj_m49 45 ls st M = mq_k1 d mj_m49 46 M (mj_lo 6 (.lstore 3) ls st) := (mj_R1 (r := (.lstore_n 3, 1, 0, 0, 0)) rfl rfl).trans (congrArg (mq_k1 d mj_m49 46 M) (mq_stl (k := 3)))
theorem s49_46 {d : Nat} {ls : mj_L} {st : List Value} {M : mj_H} : mj_Rn d mj_m49 46 ls st M = mq_k1 d mj_m49 49 M (mj_lo 6 (.iinc 5 1) ls st) := mj_R1 (r := (.iinc 5 1, 3, 0, 0, 0)) rfl rfl
theorem s49_49 {d : Nat} {ls : mj_L} {st : List Value} {M : mj_H} : mj_Rn d mj_m49 49 ls st M = mj_Rn d mj_m49 5 ls st M := mj_R2 (r := (.goto (-44), 3, 0, 0, 0)) rfl rfl
theorem s49_52 {d : Nat} {ls : mj_L} {st : List Value} {M : mj_H} : mj_Rn d mj_m49 52 ls st M = mq_k0 d mj_m49 53 ls M (mj_ldl (mj_lk ls 3) st) := mj_R0 (r := (.lload_n 3, 1, 0, 0, 0)) rfl rfl
theorem s49_53 {d : Nat} {ls : mj_L} {st : List Value} {M : mj_H} : mj_Rn d mj_m49 53 ls st M = mq_k6 M (mj_re (some .long) (.lreturn) st) := mj_R6 (r := (.lreturn, 1, 0, 0, 0)) rfl rfl
/- 42 PasskeyHouse$Bytes.check(II)I -/
theorem s42_0 {d : Nat} {ls : mj_L} {st : List Value} {M : mj_H} : mj_Rn d mj_m42 0 ls st M = mj_Rn d mj_m42 1 ls (.int 0 :: st) M := mj_R0 (r := (.iconst 0, 1, 0, 0, 0)) rfl rfl
theorem s42_1 {d : Nat} {ls : mj_L} {st : List Value} {M : mj_H} : mj_Rn d mj_m42 1 ls st M = mq_k1 d mj_m42 2 M (mj_lo 6 (.istore 3) ls st) := (mj_R1 (r := (.istore_n 3, 1, 0, 0, 0)) rfl rfl).trans (congrArg (mq_k1 d mj_m42 2 M) (mq_sti (k := 3)))
theorem s42_2 {d : Nat} {ls : mj_L} {st : List Value} {M : mj_H} : mj_Rn d mj_m42 2 ls st M = mq_k0 d mj_m42 3 ls M (mj_ldi (mj_lk ls 1) st) := mj_R0 (r := (.iload_n 1, 1, 0, 0, 0)) rfl rfl
theorem s42_3 {d : Nat} {ls : mj_L} {st : List Value} {M : mj_H} : mj_Rn d mj_m42 3 ls st M = mq_k1 d mj_m42 5 M (mj_lo 6 (.istore 4) ls st) := mj_R1 (r := (.istore 4, 2, 0, 0, 0)) rfl rfl
theorem s42_5 {d : Nat} {ls : mj_L} {st : List Value} {M : mj_H} : mj_Rn d mj_m42 5 ls st M = mq_k0 d mj_m42 7 ls M (mj_ldi (mj_lk ls 4) st) := mj_R0 (r := (.iload 4, 2, 0, 0, 0)) rfl rfl
theorem s42_7 {d : Nat} {ls : mj_L} {st : List Value} {M : mj_H} : mj_Rn d mj_m42 7 ls st M = mq_k0 d mj_m42 8 ls M (mj_ldi (mj_lk ls 1) st) := mj_R0 (r := (.iload_n 1, 1, 0, 0, 0)) rfl rfl
theorem s42_8 {d : Nat} {ls : mj_L} {st : List Value} {M : mj_H} : mj_Rn d mj_m42 8 ls st M = mq_k0 d mj_m42 9 ls M (mj_ldi (mj_lk ls 2) st) := mj_R0 (r := (.iload_n 2, 1, 0, 0, 0)) rfl rfl
theorem s42_9 {d : Nat} {ls : mj_L} {st : List Value} {M : mj_H} : mj_Rn d mj_m42 9 ls st M = mq_k0 d mj_m42 10 ls M (mj_pu .iadd ls st) := mj_R0 (r := (.iadd, 1, 0, 0, 0)) rfl rfl
theorem s42_10 {d : Nat} {ls : mj_L} {st : List Value} {M : mj_H} : mj_Rn d mj_m42 10 ls st M = mq_k2 d mj_m42 ls M (mj_br (.if_icmp .ge 51) 10 st) := mj_R2 (r := (.if_icmp .ge 51, 3, 0, 0, 0)) rfl rfl
theorem s42_13 {d : Nat} {ls : mj_L} {st : List Value} {M : mj_H} : mj_Rn d mj_m42 13 ls st M = mq_k0 d mj_m42 15 ls M (mj_ldi (mj_lk ls 4) st) := mj_R0 (r := (.iload 4, 2, 0, 0, 0)) rfl rfl
theorem s42_15 {d : Nat} {ls : mj_L} {st : List Value} {M : mj_H} : mj_Rn d mj_m42 15 ls st M = mq_k2 d mj_m42 ls M (mj_br (.ifCond .lt 13) 15 st) := mj_R2 (r := (.ifCond .lt 13, 3, 0, 0, 0)) rfl rfl
theorem s42_18 {d : Nat} {ls : mj_L} {st : List Value} {M : mj_H} : mj_Rn d mj_m42 18 ls st M = mq_k0 d mj_m42 20 ls M (mj_ldi (mj_lk ls 4) st) := mj_R0 (r := (.iload 4, 2, 0, 0, 0)) rfl rfl
theorem s42_20 {d : Nat} {ls : mj_L} {st : List Value} {M : mj_H} : mj_Rn d mj_m42 20 ls st M = mq_k0 d mj_m42 21 ls M (mj_lda (mj_lk ls 0) st) := mj_R0 (r := (.aload_n 0, 1, 0, 0, 0)) rfl rfl
theorem s42_21 {d : Nat} {ls : mj_L} {st : List Value} {M : mj_H} : mj_Rn d mj_m42 21 ls st M = mq_k0 d mj_m42 24 ls M (mq_gf 1 0 st M) := (mj_R3 (r := (.getfield 15, 3, 1, 0, 8266)) rfl rfl).trans (congrArg (mq_k0 d mj_m42 24 ls M) mq_gf_eq)
theorem s42_24 {d : Nat} {ls : mj_L} {st : List Value} {M : mj_H} : mj_Rn d mj_m42 24 ls st M = mq_k0 d mj_m42 25 ls M (mq_len st M) := (mj_R3 (r := (.arraylength, 1, 0, 0, 0)) rfl rfl).trans (congrArg (mq_k0 d mj_m42 25 ls M) mq_len_eq)
theorem s42_25 {d : Nat} {ls : mj_L} {st : List Value} {M : mj_H} : mj_Rn d mj_m42 25 ls st M = mq_k2 d mj_m42 ls M (mj_br (.if_icmp .lt 7) 25 st) := mj_R2 (r := (.if_icmp .lt 7, 3, 0, 0, 0)) rfl rfl
theorem s42_28 {d : Nat} {ls : mj_L} {st : List Value} {M : mj_H} : mj_Rn d mj_m42 28 ls st M = mj_Rn d mj_m42 29 ls (.int 0 :: st) M := mj_R0 (r := (.iconst 0, 1, 0, 0, 0)) rfl rfl
theorem s42_29 {d : Nat} {ls : mj_L} {st : List Value} {M : mj_H} : mj_Rn d mj_m42 29 ls st M = mj_Rn d mj_m42 39 ls st M := mj_R2 (r := (.goto 10, 3, 0, 0, 0)) rfl rfl
theorem s42_32 {d : Nat} {ls : mj_L} {st : List Value} {M : mj_H} : mj_Rn d mj_m42 32 ls st M = mq_k0 d mj_m42 33 ls M (mj_lda (mj_lk ls 0) st) := mj_R0 (r := (.aload_n 0, 1, 0, 0, 0)) rfl rfl
theorem s42_33 {d : Nat} {ls : mj_L} {st : List Value} {M : mj_H} : mj_Rn d mj_m42 33 ls st M = mq_k0 d mj_m42 36 ls M (mq_gf 1 0 st M) := (mj_R3 (r := (.getfield 15, 3, 1, 0, 8266)) rfl rfl).trans (congrArg (mq_k0 d mj_m42 36 ls M) mq_gf_eq)
theorem s42_36 {d : Nat} {ls : mj_L} {st : List Value} {M : mj_H} : mj_Rn d mj_m42 36 ls st M = mq_k0 d mj_m42 38 ls M (mj_ldi (mj_lk ls 4) st) := mj_R0 (r := (.iload 4, 2, 0, 0, 0)) rfl rfl
theorem s42_38 {d : Nat} {ls : mj_L} {st : List Value} {M : mj_H} : mj_Rn d mj_m42 38 ls st M = mq_k0 d mj_m42 39 ls M (mq_al [1000] st M) := (mj_R3 (r := (.iaload, 1, 0, 0, 0)) rfl rfl).trans (congrArg (mq_k0 d mj_m42 39 ls M) mq_ali_eq)
theorem s42_39 {d : Nat} {ls : mj_L} {st : List Value} {M : mj_H} : mj_Rn d mj_m42 39 ls st M = mq_k1 d mj_m42 41 M (mj_lo 6 (.istore 5) ls st) := mj_R1 (r := (.istore 5, 2, 0, 0, 0)) rfl rfl
theorem s42_41 {d : Nat} {ls : mj_L} {st : List Value} {M : mj_H} : mj_Rn d mj_m42 41 ls st M = mj_Rn d mj_m42 43 ls (.int 31 :: st) M := mj_R0 (r := (.bipush 31, 2, 0, 0, 0)) rfl rfl
theorem s42_43 {d : Nat} {ls : mj_L} {st : List Value} {M : mj_H} : mj_Rn d mj_m42 43 ls st M = mq_k0 d mj_m42 44 ls M (mj_ldi (mj_lk ls 3) st) := mj_R0 (r := (.iload_n 3, 1, 0, 0, 0)) rfl rfl
theorem s42_44 {d : Nat} {ls : mj_L} {st : List Value} {M : mj_H} : mj_Rn d mj_m42 44 ls st M = mq_k0 d mj_m42 45 ls M (mj_pu .imul ls st) := mj_R0 (r := (.imul, 1, 0, 0, 0)) rfl rfl
theorem s42_45 {d : Nat} {ls : mj_L} {st : List Value} {M : mj_H} : mj_Rn d mj_m42 45 ls st M = mq_k0 d mj_m42 47 ls M (mj_ldi (mj_lk ls 5) st) := mj_R0 (r := (.iload 5, 2, 0, 0, 0)) rfl rfl
theorem s42_47 {d : Nat} {ls : mj_L} {st : List Value} {M : mj_H} : mj_Rn d mj_m42 47 ls st M = mq_k0 d mj_m42 48 ls M (mj_pu .iadd ls st) := mj_R0 (r := (.iadd, 1, 0, 0, 0)) rfl rfl
theorem s42_48 {d : Nat} {ls : mj_L} {st : List Value} {M : mj_H} : mj_Rn d mj_m42 48 ls st M = mj_Rn d mj_m42 50 ls (.int 7 :: st) M := mj_R0 (r := (.bipush 7, 2, 0, 0, 0)) rfl rfl
theorem s42_50 {d : Nat} {ls : mj_L} {st : List Value} {M : mj_H} : mj_Rn d mj_m42 50 ls st M = mq_k0 d mj_m42 51 ls M (mj_pu .iadd ls st) := mj_R0 (r := (.iadd, 1, 0, 0, 0)) rfl rfl
theorem s42_51 {d : Nat} {ls : mj_L} {st : List Value} {M : mj_H} : mj_Rn d mj_m42 51 ls st M = mj_Rn d mj_m42 53 ls (.int 65535 :: st) M := mj_R3 (r := (.ldc 43, 2, 0, 1, 8427)) rfl rfl
theorem s42_53 {d : Nat} {ls : mj_L} {st : List Value} {M : mj_H} : mj_Rn d mj_m42 53 ls st M = mq_k0 d mj_m42 54 ls M (mj_pu .iand ls st) := mj_R0 (r := (.iand, 1, 0, 0, 0)) rfl rfl
theorem s42_54 {d : Nat} {ls : mj_L} {st : List Value} {M : mj_H} : mj_Rn d mj_m42 54 ls st M = mq_k1 d mj_m42 55 M (mj_lo 6 (.istore 3) ls st) := (mj_R1 (r := (.istore_n 3, 1, 0, 0, 0)) rfl rfl).trans (congrArg (mq_k1 d mj_m42 55 M) (mq_sti (k := 3)))
theorem s42_55 {d : Nat} {ls : mj_L} {st : List Value} {M : mj_H} : mj_Rn d mj_m42 55 ls st M = mq_k1 d mj_m42 58 M (mj_lo 6 (.iinc 4 1) ls st) := mj_R1 (r := (.iinc 4 1, 3, 0, 0, 0)) rfl rfl
theorem s42_58 {d : Nat} {ls : mj_L} {st : List Value} {M : mj_H} : mj_Rn d mj_m42 58 ls st M = mj_Rn d mj_m42 5 ls st M := mj_R2 (r := (.goto (-53), 3, 0, 0, 0)) rfl rfl
theorem s42_61 {d : Nat} {ls : mj_L} {st : List Value} {M : mj_H} : mj_Rn d mj_m42 61 ls st M = mq_k0 d mj_m42 62 ls M (mj_ldi (mj_lk ls 3) st) := mj_R0 (r := (.iload_n 3, 1, 0, 0, 0)) rfl rfl
theorem s42_62 {d : Nat} {ls : mj_L} {st : List Value} {M : mj_H} : mj_Rn d mj_m42 62 ls st M = mj_Rn d mj_m42 64 ls (.int 65535 :: st) M := mj_R3 (r := (.ldc 43, 2, 0, 1, 8427)) rfl rfl
theorem s42_64 {d : Nat} {ls : mj_L} {st : List Value} {M : mj_H} : mj_Rn d mj_m42 64 ls st M = mq_k2 d mj_m42 ls M (mj_br (.if_icmp .ne 7) 64 st) := mj_R2 (r := (.if_icmp .ne 7, 3, 0, 0, 0)) rfl rfl
theorem s42_67 {d : Nat} {ls : mj_L} {st : List Value} {M : mj_H} : mj_Rn d mj_m42 67 ls st M = mj_Rn d mj_m42 68 ls (.int 0 :: st) M := mj_R0 (r := (.iconst 0, 1, 0, 0, 0)) rfl rfl
theorem s42_68 {d : Nat} {ls : mj_L} {st : List Value} {M : mj_H} : mj_Rn d mj_m42 68 ls st M = mj_Rn d mj_m42 72 ls st M := mj_R2 (r := (.goto 4, 3, 0, 0, 0)) rfl rfl
theorem s42_71 {d : Nat} {ls : mj_L} {st : List Value} {M : mj_H} : mj_Rn d mj_m42 71 ls st M = mq_k0 d mj_m42 72 ls M (mj_ldi (mj_lk ls 3) st) := mj_R0 (r := (.iload_n 3, 1, 0, 0, 0)) rfl rfl
theorem s42_72 {d : Nat} {ls : mj_L} {st : List Value} {M : mj_H} : mj_Rn d mj_m42 72 ls st M = mq_k6 M (mj_re (some .int) (.ireturn) st) := mj_R6 (r := (.ireturn, 1, 0, 0, 0)) rfl rfl
/- 193 PasskeyHouse$Bytes.matches(ILPasskeyHouse$Bytes;II)Z -/
theorem s193_0 {d : Nat} {ls : mj_L} {st : List Value} {M : mj_H} : mj_Rn d mj_m193 0 ls st M = mj_Rn d mj_m193 1 ls (.int 0 :: st) M := mj_R0 (r := (.iconst 0, 1, 0, 0, 0)) rfl rfl
theorem s193_1 {d : Nat} {ls : mj_L} {st : List Value} {M : mj_H} : mj_Rn d mj_m193 1 ls st M = mq_k1 d mj_m193 3 M (mj_lo 7 (.istore 5) ls st) := mj_R1 (r := (.istore 5, 2, 0, 0, 0)) rfl rfl
theorem s193_3 {d : Nat} {ls : mj_L} {st : List Value} {M : mj_H} : mj_Rn d mj_m193 3 ls st M = mq_k0 d mj_m193 5 ls M (mj_ldi (mj_lk ls 5) st) := mj_R0 (r := (.iload 5, 2, 0, 0, 0)) rfl rfl
theorem s193_5 {d : Nat} {ls : mj_L} {st : List Value} {M : mj_H} : mj_Rn d mj_m193 5 ls st M = mq_k0 d mj_m193 7 ls M (mj_ldi (mj_lk ls 4) st) := mj_R0 (r := (.iload 4, 2, 0, 0, 0)) rfl rfl
theorem s193_7 {d : Nat} {ls : mj_L} {st : List Value} {M : mj_H} : mj_Rn d mj_m193 7 ls st M = mq_k2 d mj_m193 ls M (mj_br (.if_icmp .ge 40) 7 st) := mj_R2 (r := (.if_icmp .ge 40, 3, 0, 0, 0)) rfl rfl
theorem s193_10 {d : Nat} {ls : mj_L} {st : List Value} {M : mj_H} : mj_Rn d mj_m193 10 ls st M = mq_k0 d mj_m193 11 ls M (mj_lda (mj_lk ls 0) st) := mj_R0 (r := (.aload_n 0, 1, 0, 0, 0)) rfl rfl
theorem s193_11 {d : Nat} {ls : mj_L} {st : List Value} {M : mj_H} : mj_Rn d mj_m193 11 ls st M = mq_k0 d mj_m193 12 ls M (mj_ldi (mj_lk ls 1) st) := mj_R0 (r := (.iload_n 1, 1, 0, 0, 0)) rfl rfl
theorem s193_12 {d : Nat} {ls : mj_L} {st : List Value} {M : mj_H} : mj_Rn d mj_m193 12 ls st M = mq_k0 d mj_m193 14 ls M (mj_ldi (mj_lk ls 5) st) := mj_R0 (r := (.iload 5, 2, 0, 0, 0)) rfl rfl
theorem s193_14 {d : Nat} {ls : mj_L} {st : List Value} {M : mj_H} : mj_Rn d mj_m193 14 ls st M = mq_k0 d mj_m193 15 ls M (mj_pu .iadd ls st) := mj_R0 (r := (.iadd, 1, 0, 0, 0)) rfl rfl
theorem s193_15 {d : Nat} {ls : mj_L} {st : List Value} {M : mj_H} : mj_Rn (d + 1) mj_m193 15 ls st M = mq_k5a (d + 1) mj_m193 18 ls M 14 (mq_cb 0 1 1 st M) := mj_R5e (r := (.invokevirtual 31, 3, 0, 14, 12433)) (z := mj_m14) rfl rfl (by decide) (by decide) rfl
theorem s193_18 {d : Nat} {ls : mj_L} {st : List Value} {M : mj_H} : mj_Rn d mj_m193 18 ls st M = mq_k1 d mj_m193 20 M (mj_lo 7 (.istore 6) ls st) := mj_R1 (r := (.istore 6, 2, 0, 0, 0)) rfl rfl
theorem s193_20 {d : Nat} {ls : mj_L} {st : List Value} {M : mj_H} : mj_Rn d mj_m193 20 ls st M = mq_k0 d mj_m193 22 ls M (mj_ldi (mj_lk ls 6) st) := mj_R0 (r := (.iload 6, 2, 0, 0, 0)) rfl rfl
theorem s193_22 {d : Nat} {ls : mj_L} {st : List Value} {M : mj_H} : mj_Rn d mj_m193 22 ls st M = mj_Rn d mj_m193 23 ls (.int (-1) :: st) M := mj_R0 (r := (.iconst (-1), 1, 0, 0, 0)) rfl rfl
theorem s193_23 {d : Nat} {ls : mj_L} {st : List Value} {M : mj_H} : mj_Rn d mj_m193 23 ls st M = mq_k2 d mj_m193 ls M (mj_br (.if_icmp .eq 16) 23 st) := mj_R2 (r := (.if_icmp .eq 16, 3, 0, 0, 0)) rfl rfl
theorem s193_26 {d : Nat} {ls : mj_L} {st : List Value} {M : mj_H} : mj_Rn d mj_m193 26 ls st M = mq_k0 d mj_m193 28 ls M (mj_ldi (mj_lk ls 6) st) := mj_R0 (r := (.iload 6, 2, 0, 0, 0)) rfl rfl
theorem s193_28 {d : Nat} {ls : mj_L} {st : List Value} {M : mj_H} : mj_Rn d mj_m193 28 ls st M = mq_k0 d mj_m193 29 ls M (mj_lda (mj_lk ls 2) st) := mj_R0 (r := (.aload_n 2, 1, 0, 0, 0)) rfl rfl
theorem s193_29 {d : Nat} {ls : mj_L} {st : List Value} {M : mj_H} : mj_Rn d mj_m193 29 ls st M = mq_k0 d mj_m193 30 ls M (mj_ldi (mj_lk ls 3) st) := mj_R0 (r := (.iload_n 3, 1, 0, 0, 0)) rfl rfl
theorem s193_30 {d : Nat} {ls : mj_L} {st : List Value} {M : mj_H} : mj_Rn d mj_m193 30 ls st M = mq_k0 d mj_m193 32 ls M (mj_ldi (mj_lk ls 5) st) := mj_R0 (r := (.iload 5, 2, 0, 0, 0)) rfl rfl
theorem s193_32 {d : Nat} {ls : mj_L} {st : List Value} {M : mj_H} : mj_Rn d mj_m193 32 ls st M = mq_k0 d mj_m193 33 ls M (mj_pu .iadd ls st) := mj_R0 (r := (.iadd, 1, 0, 0, 0)) rfl rfl
theorem s193_33 {d : Nat} {ls : mj_L} {st : List Value} {M : mj_H} : mj_Rn (d + 1) mj_m193 33 ls st M = mq_k5a (d + 1) mj_m193 36 ls M 14 (mq_cb 0 1 1 st M) := mj_R5e (r := (.invokevirtual 31, 3, 0, 14, 12433)) (z := mj_m14) rfl rfl (by decide) (by decide) rfl
theorem s193_36 {d : Nat} {ls : mj_L} {st : List Value} {M : mj_H} : mj_Rn d mj_m193 36 ls st M = mq_k2 d mj_m193 ls M (mj_br (.if_icmp .eq 5) 36 st) := mj_R2 (r := (.if_icmp .eq 5, 3, 0, 0, 0)) rfl rfl
theorem s193_39 {d : Nat} {ls : mj_L} {st : List Value} {M : mj_H} : mj_Rn d mj_m193 39 ls st M = mj_Rn d mj_m193 40 ls (.int 0 :: st) M := mj_R0 (r := (.iconst 0, 1, 0, 0, 0)) rfl rfl
theorem s193_40 {d : Nat} {ls : mj_L} {st : List Value} {M : mj_H} : mj_Rn d mj_m193 40 ls st M = mq_k6 M (mj_re (some .boolean) (.ireturn) st) := mj_R6 (r := (.ireturn, 1, 0, 0, 0)) rfl rfl
theorem s193_41 {d : Nat} {ls : mj_L} {st : List Value} {M : mj_H} : mj_Rn d mj_m193 41 ls st M = mq_k1 d mj_m193 44 M (mj_lo 7 (.iinc 5 1) ls st) := mj_R1 (r := (.iinc 5 1, 3, 0, 0, 0)) rfl rfl
theorem s193_44 {d : Nat} {ls : mj_L} {st : List Value} {M : mj_H} : mj_Rn d mj_m193 44 ls st M = mj_Rn d mj_m193 3 ls st M := mj_R2 (r := (.goto (-41), 3, 0, 0, 0)) rfl rfl
theorem s193_47 {d : Nat} {ls : mj_L} {st : List Value} {M : mj_H} : mj_Rn d mj_m193 47 ls st M = mj_Rn d mj_m193 48 ls (.int 1 :: st) M := mj_R0 (r := (.iconst 1, 1, 0, 0, 0)) rfl rfl
theorem s193_48 {d : Nat} {ls : mj_L} {st : List Value} {M : mj_H} : mj_Rn d mj_m193 48 ls st M = mq_k6 M (mj_re (some .boolean) (.ireturn) st) := mj_R6 (r := (.ireturn, 1, 0, 0, 0)) rfl rfl
/- 53 PasskeyHouse$Bytes.four(I)I -/
theorem s53_0 {d : Nat} {ls : mj_L} {st : List Value} {M : mj_H} : mj_Rn d mj_m53 0 ls st M = mq_k0 d mj_m53 1 ls M (mj_lda (mj_lk ls 0) st) := mj_R0 (r := (.aload_n 0, 1, 0, 0, 0)) rfl rfl
theorem s53_1 {d : Nat} {ls : mj_L} {st : List Value} {M : mj_H} : mj_Rn d mj_m53 1 ls st M = mq_k0 d mj_m53 2 ls M (mj_ldi (mj_lk ls 1) st) := mj_R0 (r := (.iload_n 1, 1, 0, 0, 0)) rfl rfl
theorem s53_2 {d : Nat} {ls : mj_L} {st : List Value} {M : mj_H} : mj_Rn d mj_m53 2 ls st M = mj_Rn d mj_m53 3 ls (.int 4 :: st) M := mj_R0 (r := (.iconst 4, 1, 0, 0, 0)) rfl rfl
theorem s53_3 {d : Nat} {ls : mj_L} {st : List Value} {M : mj_H} : mj_Rn (d + 1) mj_m53 3 ls st M = mq_k5a (d + 1) mj_m53 6 ls M 49 (mq_cb 0 2 1 st M) := mj_R5e (r := (.invokevirtual 39, 3, 0, 49, 12336)) (z := mj_m49) rfl rfl (by decide) (by decide) rfl
theorem s53_6 {d : Nat} {ls : mj_L} {st : List Value} {M : mj_H} : mj_Rn d mj_m53 6 ls st M = mq_k0 d mj_m53 7 ls M (mj_pu .l2i ls st) := mj_R0 (r := (.l2i, 1, 0, 0, 0)) rfl rfl
theorem s53_7 {d : Nat} {ls : mj_L} {st : List Value} {M : mj_H} : mj_Rn d mj_m53 7 ls st M = mq_k6 M (mj_re (some .int) (.ireturn) st) := mj_R6 (r := (.ireturn, 1, 0, 0, 0)) rfl rfl
theorem c10 {d : Nat} {a0 : Nat} {x1 : Int64} {x2 : Int32} {M : mj_H} : mj_V (d + 1) 10 [.ref a0, .long x1, .int x2] M = mj_Rn d mj_m10 0 [(0, .ref a0), (1, .long x1), (3, .int x2)] [] M := mj_V_go rfl (Nat.le_of_ble_eq_true rfl)
theorem c77 {d : Nat} {a0 : Nat} {a1 : Nat} {x2 : Int32} {x3 : Int32} {M : mj_H} : mj_V (d + 1) 77 [.ref a0, .ref a1, .int x2, .int x3] M = mj_Rn d mj_m77 0 [(0, .ref a0), (1, .ref a1), (2, .int x2), (3, .int x3)] [] M := mj_V_go rfl (Nat.le_of_ble_eq_true rfl)
theorem c49 {d : Nat} {a0 : Nat} {x1 : Int32} {x2 : Int32} {M : mj_H} : mj_V (d + 1) 49 [.ref a0, .int x1, .int x2] M = mj_Rn d mj_m49 0 [(0, .ref a0), (1, .int x1), (2, .int x2)] [] M := mj_V_go rfl (Nat.le_of_ble_eq_true rfl)
theorem c42 {d : Nat} {a0 : Nat} {x1 : Int32} {x2 : Int32} {M : mj_H} : mj_V (d + 1) 42 [.ref a0, .int x1, .int x2] M = mj_Rn d mj_m42 0 [(0, .ref a0), (1, .int x1), (2, .int x2)] [] M := mj_V_go rfl (Nat.le_of_ble_eq_true rfl)
theorem c193 {d : Nat} {a0 : Nat} {x1 : Int32} {a2 : Nat} {x3 : Int32} {x4 : Int32} {M : mj_H} : mj_V (d + 1) 193 [.ref a0, .int x1, .ref a2, .int x3, .int x4] M = mj_Rn d mj_m193 0 [(0, .ref a0), (1, .int x1), (2, .ref a2), (3, .int x3), (4, .int x4)] [] M := mj_V_go rfl (Nat.le_of_ble_eq_true rfl)
theorem c53 {d : Nat} {a0 : Nat} {x1 : Int32} {M : mj_H} : mj_V (d + 1) 53 [.ref a0, .int x1] M = mj_Rn d mj_m53 0 [(0, .ref a0), (1, .int x1)] [] M := mj_V_go rfl (Nat.le_of_ble_eq_true rfl)
theorem bt_app_app (cap : Nat) (xs ys zs : List Int32) : bt_app cap (bt_app cap xs ys) zs = bt_app cap xs (ys ++ zs) := by
  unfold bt_app
  rw [← List.append_assoc]
  generalize xs ++ ys = l
  rw [List.take_append, List.take_append, List.take_take, Nat.min_self, List.length_take]
  congr 2
  omega
theorem bt_app_nil {cap : Nat} {xs : List Int32} (h : xs.length ≤ cap) : bt_app cap xs [] = xs := by
  unfold bt_app
  rw [List.append_nil]
  exact List.take_of_length_le h
theorem bt_app_full {cap : Nat} {xs : List Int32} (h : xs.length = cap) (ys : List Int32) : bt_app cap xs ys = xs := by
  unfold bt_app
  rw [List.take_append_of_le_length (by omega)]
  exact List.take_of_length_le (by omega)
/-- one byte goes behind the row, on the heap -/
theorem bb_one {M : mj_H} {a b cap : Nat} {xs : List Int32} (h : bb M a b cap xs) (hlt : xs.length < cap) (v : Int32) : ∃ zs, M[b]? = some (1000, zs) ∧ ¬ Int32.ofNat zs.length ≤ nI xs.length ∧ mj_ix (nI xs.length) zs.length = some xs.length ∧
    bb ((M.set b (1000, zs.set xs.length (.int (v &&& 255)))).set a (1, [.ref b, .int (nI (xs.length + 1))])) a b cap (xs ++ [v &&& 255]) ∧ mq_fr [a, b] M ((M.set b (1000, zs.set xs.length (.int (v &&& 255)))).set a (1, [.ref b, .int (nI (xs.length + 1))])) := by
  obtain ⟨ha, hb, hab, hcap, h8, h1, g, h2, hg⟩ := id h
  obtain ⟨c, g', rfl⟩ : ∃ c g', g = c :: g' := by
    cases g with
    | nil => simp at hg; omega
    | cons c g' => exact ⟨c, g', rfl⟩
  have q4 : ((xs ++ c :: g').map Value.int).set xs.length (.int (v &&& 255)) = ((xs ++ [v &&& 255]) ++ g').map Value.int := by
    rw [← List.map_set]; simp
  refine ⟨(xs ++ c :: g').map Value.int, h2, by rw [List.length_map, hg]; exact nI_ge hlt hcap, mq_ix (by rw [List.length_map, hg]; omega) (by rw [List.length_map, hg]; exact hcap), ?_, (mq_fr.rf.set (by simp)).set (by simp)⟩
  rw [q4]
  refine ⟨ha, hb, hab, hcap, ?_, ?_, g', ?_, ?_⟩
  · intro w hw
    rcases List.mem_append.mp hw with h | h
    · exact h8 w h
    · rw [List.mem_singleton.mp h]; exact bt_255 v
  · rw [List.getElem?_set_self (by rw [List.length_set]; exact mq_lt h1)]; simp
  · rw [List.getElem?_set_ne hab, List.getElem?_set_self (mq_lt h2)]
  · simpa using hg
/-- byte j of a long, from below -/
def bt_by (w : Int64) (j : Nat) : Int32 := (w.toUInt64 >>> (((8 : Int32) * nI j).toInt64.toUInt64 &&& Int64.toUInt64 63)).toInt64.toInt32 &&& 255
/-- the m lowest bytes of a long, the highest of them first -/
def bt_low (w : Int64) : Nat → List Int32
  | 0 => []
  | m + 1 => bt_by w m :: bt_low w m
theorem l_pushLow {d a b cap : Nat} {w : Int64} {n : Int32} : ∀ (m : Nat) (xs : List Int32) (M : mj_H), m < 2 ^ 31 → bb M a b cap xs → ∃ M', mj_Rn d mj_m10 5 [(4, .int (nI m + -1)), (0, .ref a), (1, .long w), (3, .int n)] [] M = some (none, M') ∧ bb M' a b cap (bt_app cap xs (bt_low w m)) ∧ mq_fr [a, b] M M' := by
  intro m
  induction m with
  | zero =>
    intro xs M _ h
    refine ⟨M, ?_, by rw [bt_low, bt_app_nil h.len]; exact h, mq_fr.rf⟩
    have e : nI 0 + -1 < 0 := by decide
    simp [s10_0, s10_1, s10_2, s10_3, s10_5, s10_7, s10_10, s10_11, s10_14, s10_17, s10_18, s10_21, s10_22, s10_25, s10_26, s10_29, s10_30, s10_33, s10_34, s10_37, s10_38, s10_40, s10_42, s10_43, s10_44, s10_45, s10_48, s10_49, s10_50, s10_51, s10_52, s10_55, s10_56, s10_57, s10_60, s10_63, s10_66, mq_k0s, mq_k1s, mq_k2s, mq_k4s, mq_k5s, mq_k5n, mq_k5as, mq_k6s, mj_pu, mj_lo, mj_br, mj_hr, mj_hw, mq_gf, mq_len, mq_al, mq_pf, mq_ok, mj_re, mj_lk, mj_ldi, mj_ldl, mj_lda, mj_ii, mj_ll, mj_li, mj_i1, mj_s1, mj_s2, mj_tg, mj_c1, mj_c2, mj_ar, mj_aw, mq_cb, mq_oi, mj_rm, Value.category, e]
  | succ m ih =>
    intro xs M hm h
    have hxl := h.len
    obtain ⟨ha, hb, hab, hcap, h8, h1, g, h2, hg⟩ := id h
    have e0 : ¬ nI m < 0 := nI_pos (by omega)
    have q0 : ¬ nI xs.length < 0 := nI_pos (by omega)
    rw [pk_m1]
    by_cases hlt : xs.length < cap
    · obtain ⟨zs, z1, z2, z3, z4, z5⟩ := bb_one h hlt ((w.toUInt64 >>> (((8 : Int32) * nI m).toInt64.toUInt64 &&& Int64.toUInt64 63)).toInt64.toInt32)
      obtain ⟨M', r1, r2, r3⟩ := ih _ _ (by omega) z4
      refine ⟨M', ?_, ?_, z5.tr r3⟩
      · rw [s10_5]
        simp [s10_0, s10_1, s10_2, s10_3, s10_7, s10_10, s10_11, s10_14, s10_17, s10_18, s10_21, s10_22, s10_25, s10_26, s10_29, s10_30, s10_33, s10_34, s10_37, s10_38, s10_40, s10_42, s10_43, s10_44, s10_45, s10_48, s10_49, s10_50, s10_51, s10_52, s10_55, s10_56, s10_57, s10_60, s10_63, s10_66, mq_k0s, mq_k1s, mq_k2s, mq_k4s, mq_k5s, mq_k5n, mq_k5as, mq_k6s, mj_pu, mj_lo, mj_br, mj_hr, mj_hw, mq_gf, mq_len, mq_al, mq_pf, mq_ok, mj_re, mj_lk, mj_ldi, mj_ldl, mj_lda, mj_ii, mj_ll, mj_li, mj_i1, mj_s1, mj_s2, mj_tg, mj_c1, mj_c2, mj_ar, mj_aw, mq_cb, mq_oi, mj_rm, Value.category, h1, z1, e0, q0, z2, z3, Nat.not_lt.mpr ha, Nat.not_lt.mpr hb, hab, Ne.symm hab, List.getElem?_set, nI_1, litm1]
        exact r1
      · have : bt_app cap (xs ++ [bt_by w m]) (bt_low w m) = bt_app cap xs (bt_low w (m + 1)) := by
          unfold bt_app; simp [bt_low]
        rw [← this]; exact r2
    · obtain ⟨M', r1, r2, r3⟩ := ih _ _ (by omega) h
      have q2 : Int32.ofNat ((xs ++ g).map Value.int).length ≤ nI xs.length := by rw [List.length_map, hg]; exact nI_le (by omega) (by omega)
      refine ⟨M', ?_, ?_, r3⟩
      · rw [s10_5]
        generalize hz : (xs ++ g).map Value.int = zs at *
        simp [s10_0, s10_1, s10_2, s10_3, s10_7, s10_10, s10_11, s10_14, s10_17, s10_18, s10_21, s10_22, s10_25, s10_26, s10_29, s10_30, s10_33, s10_34, s10_37, s10_38, s10_40, s10_42, s10_43, s10_44, s10_45, s10_48, s10_49, s10_50, s10_51, s10_52, s10_55, s10_56, s10_57, s10_60, s10_63, s10_66, mq_k0s, mq_k1s, mq_k2s, mq_k4s, mq_k5s, mq_k5n, mq_k5as, mq_k6s, mj_pu, mj_lo, mj_br, mj_hr, mj_hw, mq_gf, mq_len, mq_al, mq_pf, mq_ok, mj_re, mj_lk, mj_ldi, mj_ldl, mj_lda, mj_ii, mj_ll, mj_li, mj_i1, mj_s1, mj_s2, mj_tg, mj_c1, mj_c2, mj_ar, mj_aw, mq_cb, mq_oi, mj_rm, Value.category, h1, h2, e0, q0, q2, litm1]
        exact r1
      · rw [bt_app_full (by omega)] at r2 ⊢; exact r2
theorem v_pushLow {d a b cap : Nat} {w : Int64} {xs : List Int32} {M : mj_H} {m : Nat} (hm : m < 2 ^ 31) (h : bb M a b cap xs) : ∃ M', mj_V (d + 1) 10 [.ref a, .long w, .int (nI m)] M = some (none, M') ∧ bb M' a b cap (bt_app cap xs (bt_low w m)) ∧ mq_fr [a, b] M M' := by
  obtain ⟨M', r1, r2, r3⟩ := l_pushLow (d := d) (n := nI m) (w := w) m xs M hm h
  refine ⟨M', ?_, r2, r3⟩
  have e : nI m - 1 = nI m + -1 := by rw [Int32.sub_eq_add_neg]
  simp [c10, s10_0, s10_1, s10_2, s10_3, mq_k0s, mq_k1s, mq_k2s, mq_k4s, mq_k5s, mq_k5n, mq_k5as, mq_k6s, mj_pu, mj_lo, mj_br, mj_hr, mj_hw, mq_gf, mq_len, mq_al, mq_pf, mq_ok, mj_re, mj_lk, mj_ldi, mj_ldl, mj_lda, mj_ii, mj_ll, mj_li, mj_i1, mj_s1, mj_s2, mj_tg, mj_c1, mj_c2, mj_ar, mj_aw, mq_cb, mq_oi, mj_rm, Value.category, e]
  exact r1
/-- a part of another row goes behind this one -/
theorem bt_neg {v : Int32} (h : v &&& 255 = v) : ¬ v = -1 := by
  intro e
  rw [e] at h
  exact absurd h (by decide)
theorem l_pushPart {d a b cap c e cap2 p : Nat} {ys : List Int32} (hac : a ≠ c) (hae : a ≠ e) (hbc : b ≠ c) (hbe : b ≠ e) {n : Nat} (hn : p + n < 2 ^ 31) : ∀ (m j : Nat) (xs : List Int32) (M : mj_H), j + m = n → bb M a b cap xs → bb M c e cap2 ys → ∃ M', mj_Rn (d + 1) mj_m77 3 [(4, .int (nI j)), (0, .ref a), (1, .ref c), (2, .int (nI p)), (3, .int (nI n))] [] M = some (none, M') ∧ bb M' a b cap (bt_app cap xs ((ys.drop (p + j)).take m)) ∧ mq_fr [a, b] M M' := by
  intro m
  induction m with
  | zero =>
    intro j xs M hj h hy
    refine ⟨M, ?_, by rw [List.take_zero, bt_app_nil h.len]; exact h, mq_fr.rf⟩
    have q : nI n ≤ nI j := nI_le (by omega) (by omega)
    simp [s77_0, s77_1, s77_3, s77_5, s77_6, s77_9, s77_10, s77_11, s77_13, s77_14, s77_17, s77_19, s77_21, s77_22, s77_25, s77_26, s77_28, s77_31, s77_34, s77_37, mq_k0s, mq_k1s, mq_k2s, mq_k4s, mq_k5s, mq_k5n, mq_k5as, mq_k6s, mj_pu, mj_lo, mj_br, mj_hr, mj_hw, mq_gf, mq_len, mq_al, mq_pf, mq_ok, mj_re, mj_lk, mj_ldi, mj_ldl, mj_lda, mj_ii, mj_ll, mj_li, mj_i1, mj_s1, mj_s2, mj_tg, mj_c1, mj_c2, mj_ar, mj_aw, mq_cb, mq_oi, mj_rm, Value.category, q]
  | succ m ih =>
    intro j xs M hj h hy
    have q : ¬ nI n ≤ nI j := nI_ge (by omega) (by omega)
    have hc1 : M[c]? = some (1, [.ref e, .int (nI ys.length)]) := hy.2.2.2.2.2.1
    have ha1 : M[a]? = some (1, [.ref b, .int (nI xs.length)]) := h.2.2.2.2.2.1
    have hv := v_item (d := d) hy (nI p + nI j)
    rw [nI_add, bt_at_nI (by omega)] at hv
    by_cases hk : p + j < ys.length
    · have hg : ys.getD (p + j) (-1) = ys[p + j] := by simp [List.getD, hk]
      have h8 : ys[p + j] &&& 255 = ys[p + j] := hy.2.2.2.2.1 _ (List.getElem_mem hk)
      rw [hg] at hv
      obtain ⟨M1, p1, p2, p3⟩ := v_push (d := d) h ys[p + j]
      rw [h8] at p2
      have hy1 : bb M1 c e cap2 ys := hy.fr (p3.2 c (by simp [Ne.symm hac, Ne.symm hbc])) (p3.2 e (by simp [Ne.symm hae, Ne.symm hbe]))
      obtain ⟨M', r1, r2, r3⟩ := ih (j + 1) _ M1 (by omega) p2 hy1
      refine ⟨M', ?_, ?_, p3.tr r3⟩
      · rw [s77_3]
        simp [s77_0, s77_1, s77_5, s77_6, s77_9, s77_10, s77_11, s77_13, s77_14, s77_17, s77_19, s77_21, s77_22, s77_25, s77_26, s77_28, s77_31, s77_34, s77_37, mq_k0s, mq_k1s, mq_k2s, mq_k4s, mq_k5s, mq_k5n, mq_k5as, mq_k6s, mj_pu, mj_lo, mj_br, mj_hr, mj_hw, mq_gf, mq_len, mq_al, mq_pf, mq_ok, mj_re, mj_lk, mj_ldi, mj_ldl, mj_lda, mj_ii, mj_ll, mj_li, mj_i1, mj_s1, mj_s2, mj_tg, mj_c1, mj_c2, mj_ar, mj_aw, mq_cb, mq_oi, mj_rm, Value.category, q, hc1, ha1, nI_add, hv, bt_neg h8, p1, nI_1]
        refine mq_wk ?_ r1
        simp [mq_sub, mj_lk]
      · rw [bt_app_app] at r2
        have : [ys[p + j]] ++ (ys.drop (p + (j + 1))).take m = (ys.drop (p + j)).take (m + 1) := by
          rw [List.drop_eq_getElem_cons hk]; rfl
        rw [← this]; exact r2
    · have hg : ys.getD (p + j) (-1) = -1 := by simp [List.getD, hk]
      rw [hg] at hv
      obtain ⟨M', r1, r2, r3⟩ := ih (j + 1) _ M (by omega) h hy
      refine ⟨M', ?_, ?_, r3⟩
      · rw [s77_3]
        simp [s77_0, s77_1, s77_5, s77_6, s77_9, s77_10, s77_11, s77_13, s77_14, s77_17, s77_19, s77_21, s77_22, s77_25, s77_26, s77_28, s77_31, s77_34, s77_37, mq_k0s, mq_k1s, mq_k2s, mq_k4s, mq_k5s, mq_k5n, mq_k5as, mq_k6s, mj_pu, mj_lo, mj_br, mj_hr, mj_hw, mq_gf, mq_len, mq_al, mq_pf, mq_ok, mj_re, mj_lk, mj_ldi, mj_ldl, mj_lda, mj_ii, mj_ll, mj_li, mj_i1, mj_s1, mj_s2, mj_tg, mj_c1, mj_c2, mj_ar, mj_aw, mq_cb, mq_oi, mj_rm, Value.category, q, hc1, nI_add, hv, nI_1]
        refine mq_wk ?_ r1
        simp [mq_sub, mj_lk]
      · have e1 : ys.drop (p + j) = [] := List.drop_eq_nil_of_le (by omega)
        have e2 : ys.drop (p + (j + 1)) = [] := List.drop_eq_nil_of_le (by omega)
        rw [e2] at r2
        rw [e1]
        simpa using r2
theorem v_pushPart {d a b cap c e cap2 p n : Nat} {xs ys : List Int32} {M : mj_H} (hac : a ≠ c) (hae : a ≠ e) (hbc : b ≠ c) (hbe : b ≠ e) (hn : p + n < 2 ^ 31) (h : bb M a b cap xs) (hy : bb M c e cap2 ys) : ∃ M', mj_V (d + 2) 77 [.ref a, .ref c, .int (nI p), .int (nI n)] M = some (none, M') ∧ bb M' a b cap (bt_app cap xs ((ys.drop p).take n)) ∧ mq_fr [a, b] M M' := by
  obtain ⟨M', r1, r2, r3⟩ := l_pushPart (d := d) hac hae hbc hbe hn n 0 xs M (by omega) h hy
  refine ⟨M', ?_, r2, r3⟩
  rw [nI_0] at r1
  simp [c77, s77_0, s77_1, mq_k0s, mq_k1s, mq_k2s, mq_k4s, mq_k5s, mq_k5n, mq_k5as, mq_k6s, mj_pu, mj_lo, mj_br, mj_hr, mj_hw, mq_gf, mq_len, mq_al, mq_pf, mq_ok, mj_re, mj_lk, mj_ldi, mj_ldl, mj_lda, mj_ii, mj_ll, mj_li, mj_i1, mj_s1, mj_s2, mj_tg, mj_c1, mj_c2, mj_ar, mj_aw, mq_cb, mq_oi, mj_rm, Value.category]
  exact r1
end
/- 42.bytes3 -/
section
set_option maxRecDepth 512
/-! Class: Bytes: numbers out of it, checks, compares. -/
/-- the cells from p on, 0 where there are none -/
def bt_sl (zs : List Int32) : Nat → Nat → List Int32
  | _, 0 => []
  | p, m + 1 => zs.getD p 0 :: bt_sl zs (p + 1) m
theorem bt_sl_in {xs g : List Int32} : ∀ (m p : Nat), p + m ≤ xs.length → bt_sl (xs ++ g) p m = (xs.drop p).take m := by
  intro m
  induction m with
  | zero => intro p _; simp [bt_sl]
  | succ m ih =>
    intro p h
    have hp : p < xs.length := by omega
    rw [bt_sl, ih (p + 1) (by omega), List.drop_eq_getElem_cons hp, List.take_succ_cons]
    simp [List.getD, List.getElem?_append_left hp, hp]
def bt_ls (w : Int64) (v : Int32) : Int64 := (w <<< ((8 : Int32).toInt64 &&& 63)) ||| v.toInt64
/-- a number out of bytes, the highest first -/
def bt_lo (l : List Int32) : Int64 := l.foldl bt_ls 0
theorem l_low {d a b : Nat} {zs : List Int32} {n1 : Int32} {M : mj_H} {p n : Nat} (h1 : M[a]? = some (1, [.ref b, .int n1])) (h2 : M[b]? = some (1000, zs.map Value.int)) (hz : zs.length < 2 ^ 31) (hn : p + n < 2 ^ 31) : ∀ (m j : Nat) (w : Int64), j + m = n →
    mj_Rn d mj_m49 5 [(5, .int (nI (p + j))), (3, .long w), (0, .ref a), (1, .int (nI p)), (2, .int (nI n))] [] M = some (some (.long ((bt_sl zs (p + j) m).foldl bt_ls w)), M) := by
  intro m
  induction m with
  | zero =>
    intro j w hj
    have q : nI p + nI n ≤ nI (p + j) := by rw [nI_add]; exact nI_le (by omega) (by omega)
    simp [s49_0, s49_1, s49_2, s49_3, s49_5, s49_7, s49_8, s49_9, s49_10, s49_13, s49_14, s49_16, s49_17, s49_19, s49_22, s49_24, s49_25, s49_28, s49_29, s49_32, s49_33, s49_36, s49_37, s49_40, s49_42, s49_43, s49_44, s49_45, s49_46, s49_49, s49_52, s49_53, mq_k0s, mq_k1s, mq_k2s, mq_k4s, mq_k5s, mq_k5n, mq_k5as, mq_k6s, mj_pu, mj_lo, mj_br, mj_hr, mj_hw, mq_gf, mq_len, mq_al, mq_pf, mq_ok, mj_re, mj_lk, mj_ldi, mj_ldl, mj_lda, mj_ii, mj_ll, mj_li, mj_i1, mj_s1, mj_s2, mj_tg, mj_c1, mj_c2, mj_ar, mj_aw, mq_cb, mq_oi, mj_rm, Value.category, q, bt_sl]
  | succ m ih =>
    intro j w hj
    have q : ¬ nI p + nI n ≤ nI (p + j) := by rw [nI_add]; exact nI_ge (by omega) (by omega)
    have q0 : ¬ nI (p + j) < 0 := nI_pos (by omega)
    have r := ih (j + 1) (bt_ls w (zs.getD (p + j) 0)) (by omega)
    rw [s49_5, bt_sl, List.foldl_cons]
    by_cases hk : p + j < zs.length
    · have q1 : nI (p + j) < Int32.ofNat (zs.map Value.int).length := by rw [List.length_map]; exact nI_lt hk hz
      have q2 := mq_ix (show p + j < (zs.map Value.int).length by rw [List.length_map]; exact hk) (by rw [List.length_map]; exact hz)
      have q3 : (zs.map Value.int)[p + j]? = some (.int (zs.getD (p + j) 0)) := by simp [List.getD, hk]
      generalize zs.getD (p + j) 0 = u at *
      generalize zs.map Value.int = vs at *
      simp [s49_0, s49_1, s49_2, s49_3, s49_7, s49_8, s49_9, s49_10, s49_13, s49_14, s49_16, s49_17, s49_19, s49_22, s49_24, s49_25, s49_28, s49_29, s49_32, s49_33, s49_36, s49_37, s49_40, s49_42, s49_43, s49_44, s49_45, s49_46, s49_49, mq_k0s, mq_k1s, mq_k2s, mq_k4s, mq_k5s, mq_k5n, mq_k5as, mq_k6s, mj_pu, mj_lo, mj_br, mj_hr, mj_hw, mq_gf, mq_len, mq_al, mq_pf, mq_ok, mj_re, mj_lk, mj_ldi, mj_ldl, mj_lda, mj_ii, mj_ll, mj_li, mj_i1, mj_s1, mj_s2, mj_tg, mj_c1, mj_c2, mj_ar, mj_aw, mq_cb, mq_oi, mj_rm, Value.category, q, q0, q1, q2, q3, h1, h2, nI_1]
      exact r
    · have q1 : ¬ nI (p + j) < Int32.ofNat (zs.map Value.int).length := by rw [List.length_map]; exact nI_nlt (by omega) (by omega)
      have q3 : zs.getD (p + j) 0 = 0 := by simp [List.getD, hk]
      rw [q3] at r ⊢
      generalize zs.map Value.int = vs at *
      rw [show bt_ls w 0 = w <<< ((8 : Int32).toInt64 &&& 63) ||| (0 : Int32).toInt64 from rfl] at r ⊢
      simp only [s49_0, s49_1, s49_2, s49_3, s49_7, s49_8, s49_9, s49_10, s49_13, s49_14, s49_16, s49_17, s49_19, s49_22, s49_24, s49_25, s49_28, s49_29, s49_32, s49_33, s49_36, s49_37, s49_40, s49_42, s49_43, s49_44, s49_45, s49_46, s49_49, mq_k0s, mq_k1s, mq_k2s, mq_k4s, mq_k5s, mq_k5n, mq_k5as, mq_k6s, mj_pu, mj_lo, mj_br, mj_hr, mj_hw, mq_gf, mq_len, mq_al, mq_pf, mq_ok, mj_re, mj_lk, mj_ldi, mj_ldl, mj_lda, mj_ii, mj_ll, mj_li, mj_i1, mj_s1, mj_s2, mj_tg, mj_c1, mj_c2, mj_ar, mj_aw, mq_cb, mq_oi, mj_rm, Value.category, q, q0, q1, h1, h2]
      simp [s49_0, s49_1, s49_2, s49_3, s49_7, s49_8, s49_9, s49_10, s49_13, s49_14, s49_16, s49_17, s49_19, s49_22, s49_24, s49_25, s49_28, s49_29, s49_32, s49_33, s49_36, s49_37, s49_40, s49_42, s49_43, s49_44, s49_45, s49_46, s49_49, mq_k0s, mq_k1s, mq_k2s, mq_k4s, mq_k5s, mq_k5n, mq_k5as, mq_k6s, mj_pu, mj_lo, mj_br, mj_hr, mj_hw, mq_gf, mq_len, mq_al, mq_pf, mq_ok, mj_re, mj_lk, mj_ldi, mj_ldl, mj_lda, mj_ii, mj_ll, mj_li, mj_i1, mj_s1, mj_s2, mj_tg, mj_c1, mj_c2, mj_ar, mj_aw, mq_cb, mq_oi, mj_rm, Value.category, q, q0, q1, h1, h2, nI_1]
      simp at r
      exact r
theorem v_low {d a b cap : Nat} {xs : List Int32} {M : mj_H} (h : bb M a b cap xs) {p n : Nat} (hn : p + n < 2 ^ 31) : ∃ w, mj_V (d + 1) 49 [.ref a, .int (nI p), .int (nI n)] M = some (some (.long w), M) ∧ (p + n ≤ xs.length → w = bt_lo ((xs.drop p).take n)) := by
  obtain ⟨ha, hb, hab, hcap, h8, h1, g, h2, hg⟩ := h
  have r := l_low (d := d) h1 h2 (by rw [hg]; exact hcap) hn n 0 0 (by omega)
  refine ⟨(bt_sl (xs ++ g) (p + 0) n).foldl bt_ls 0, ?_, fun hp => by rw [Nat.add_zero, bt_sl_in n p hp]; rfl⟩
  simp [c49, s49_0, s49_1, s49_2, s49_3, mq_k0s, mq_k1s, mq_k2s, mq_k4s, mq_k5s, mq_k5n, mq_k5as, mq_k6s, mj_pu, mj_lo, mj_br, mj_hr, mj_hw, mq_gf, mq_len, mq_al, mq_pf, mq_ok, mj_re, mj_lk, mj_ldi, mj_ldl, mj_lda, mj_ii, mj_ll, mj_li, mj_i1, mj_s1, mj_s2, mj_tg, mj_c1, mj_c2, mj_ar, mj_aw, mq_cb, mq_oi, mj_rm, Value.category]
  exact r
def bt_cs (c v : Int32) : Int32 := (31 * c + v + 7) &&& 65535
/-- THE CHECK of bytes -/
def bt_ck (l : List Int32) : Int32 := if l.foldl bt_cs 0 = 65535 then 0 else l.foldl bt_cs 0
theorem l_check {d a b : Nat} {zs : List Int32} {n1 : Int32} {M : mj_H} {p n : Nat} (h1 : M[a]? = some (1, [.ref b, .int n1])) (h2 : M[b]? = some (1000, zs.map Value.int)) (hz : zs.length < 2 ^ 31) (hn : p + n < 2 ^ 31) : ∀ (m j : Nat) (c : Int32), j + m = n →
    mj_Rn d mj_m42 5 [(4, .int (nI (p + j))), (3, .int c), (0, .ref a), (1, .int (nI p)), (2, .int (nI n))] [] M = some (some (.int (if (bt_sl zs (p + j) m).foldl bt_cs c = 65535 then 0 else (bt_sl zs (p + j) m).foldl bt_cs c)), M) := by
  intro m
  induction m with
  | zero =>
    intro j c hj
    have q : nI p + nI n ≤ nI (p + j) := by rw [nI_add]; exact nI_le (by omega) (by omega)
    by_cases hc : c = 65535
    · simp [s42_0, s42_1, s42_2, s42_3, s42_5, s42_7, s42_8, s42_9, s42_10, s42_13, s42_15, s42_18, s42_20, s42_21, s42_24, s42_25, s42_28, s42_29, s42_32, s42_33, s42_36, s42_38, s42_39, s42_41, s42_43, s42_44, s42_45, s42_47, s42_48, s42_50, s42_51, s42_53, s42_54, s42_55, s42_58, s42_61, s42_62, s42_64, s42_67, s42_68, s42_71, s42_72, mq_k0s, mq_k1s, mq_k2s, mq_k4s, mq_k5s, mq_k5n, mq_k5as, mq_k6s, mj_pu, mj_lo, mj_br, mj_hr, mj_hw, mq_gf, mq_len, mq_al, mq_pf, mq_ok, mj_re, mj_lk, mj_ldi, mj_ldl, mj_lda, mj_ii, mj_ll, mj_li, mj_i1, mj_s1, mj_s2, mj_tg, mj_c1, mj_c2, mj_ar, mj_aw, mq_cb, mq_oi, mj_rm, Value.category, q, bt_sl, hc, narrow]
    · simp [s42_0, s42_1, s42_2, s42_3, s42_5, s42_7, s42_8, s42_9, s42_10, s42_13, s42_15, s42_18, s42_20, s42_21, s42_24, s42_25, s42_28, s42_29, s42_32, s42_33, s42_36, s42_38, s42_39, s42_41, s42_43, s42_44, s42_45, s42_47, s42_48, s42_50, s42_51, s42_53, s42_54, s42_55, s42_58, s42_61, s42_62, s42_64, s42_67, s42_68, s42_71, s42_72, mq_k0s, mq_k1s, mq_k2s, mq_k4s, mq_k5s, mq_k5n, mq_k5as, mq_k6s, mj_pu, mj_lo, mj_br, mj_hr, mj_hw, mq_gf, mq_len, mq_al, mq_pf, mq_ok, mj_re, mj_lk, mj_ldi, mj_ldl, mj_lda, mj_ii, mj_ll, mj_li, mj_i1, mj_s1, mj_s2, mj_tg, mj_c1, mj_c2, mj_ar, mj_aw, mq_cb, mq_oi, mj_rm, Value.category, q, bt_sl, hc, narrow]
  | succ m ih =>
    intro j c hj
    have q : ¬ nI p + nI n ≤ nI (p + j) := by rw [nI_add]; exact nI_ge (by omega) (by omega)
    have q0 : ¬ nI (p + j) < 0 := nI_pos (by omega)
    have r := ih (j + 1) (bt_cs c (zs.getD (p + j) 0)) (by omega)
    rw [s42_5, bt_sl, List.foldl_cons]
    by_cases hk : p + j < zs.length
    · have q1 : nI (p + j) < Int32.ofNat (zs.map Value.int).length := by rw [List.length_map]; exact nI_lt hk hz
      have q2 := mq_ix (show p + j < (zs.map Value.int).length by rw [List.length_map]; exact hk) (by rw [List.length_map]; exact hz)
      have q3 : (zs.map Value.int)[p + j]? = some (.int (zs.getD (p + j) 0)) := by simp [List.getD, hk]
      generalize zs.getD (p + j) 0 = u at *
      generalize zs.map Value.int = vs at *
      simp [s42_0, s42_1, s42_2, s42_3, s42_7, s42_8, s42_9, s42_10, s42_13, s42_15, s42_18, s42_20, s42_21, s42_24, s42_25, s42_28, s42_29, s42_32, s42_33, s42_36, s42_38, s42_39, s42_41, s42_43, s42_44, s42_45, s42_47, s42_48, s42_50, s42_51, s42_53, s42_54, s42_55, s42_58, mq_k0s, mq_k1s, mq_k2s, mq_k4s, mq_k5s, mq_k5n, mq_k5as, mq_k6s, mj_pu, mj_lo, mj_br, mj_hr, mj_hw, mq_gf, mq_len, mq_al, mq_pf, mq_ok, mj_re, mj_lk, mj_ldi, mj_ldl, mj_lda, mj_ii, mj_ll, mj_li, mj_i1, mj_s1, mj_s2, mj_tg, mj_c1, mj_c2, mj_ar, mj_aw, mq_cb, mq_oi, mj_rm, Value.category, q, q0, q1, q2, q3, h1, h2, nI_1]
      refine mq_wk ?_ r
      simp [mq_sub, mj_lk, bt_cs, Nat.add_assoc]
    · have q1 : ¬ nI (p + j) < Int32.ofNat (zs.map Value.int).length := by rw [List.length_map]; exact nI_nlt (by omega) (by omega)
      have q3 : zs.getD (p + j) 0 = 0 := by simp [List.getD, hk]
      rw [q3] at r ⊢
      generalize zs.map Value.int = vs at *
      simp [s42_0, s42_1, s42_2, s42_3, s42_7, s42_8, s42_9, s42_10, s42_13, s42_15, s42_18, s42_20, s42_21, s42_24, s42_25, s42_28, s42_29, s42_32, s42_33, s42_36, s42_38, s42_39, s42_41, s42_43, s42_44, s42_45, s42_47, s42_48, s42_50, s42_51, s42_53, s42_54, s42_55, s42_58, mq_k0s, mq_k1s, mq_k2s, mq_k4s, mq_k5s, mq_k5n, mq_k5as, mq_k6s, mj_pu, mj_lo, mj_br, mj_hr, mj_hw, mq_gf, mq_len, mq_al, mq_pf, mq_ok, mj_re, mj_lk, mj_ldi, mj_ldl, mj_lda, mj_ii, mj_ll, mj_li, mj_i1, mj_s1, mj_s2, mj_tg, mj_c1, mj_c2, mj_ar, mj_aw, mq_cb, mq_oi, mj_rm, Value.category, q, q0, q1, h1, h2, nI_1]
      refine mq_wk ?_ r
      simp [mq_sub, mj_lk, bt_cs, Nat.add_assoc]
theorem v_check {d a b cap : Nat} {xs : List Int32} {M : mj_H} (h : bb M a b cap xs) {p n : Nat} (hn : p + n < 2 ^ 31) : ∃ w, mj_V (d + 1) 42 [.ref a, .int (nI p), .int (nI n)] M = some (some (.int w), M) ∧ (p + n ≤ xs.length → w = bt_ck ((xs.drop p).take n)) := by
  obtain ⟨ha, hb, hab, hcap, h8, h1, g, h2, hg⟩ := h
  have r := l_check (d := d) h1 h2 (by rw [hg]; exact hcap) hn n 0 0 (by omega)
  refine ⟨if (bt_sl (xs ++ g) (p + 0) n).foldl bt_cs 0 = 65535 then 0 else (bt_sl (xs ++ g) (p + 0) n).foldl bt_cs 0, ?_, fun hp => by rw [Nat.add_zero, bt_sl_in n p hp]; rfl⟩
  simp [c42, s42_0, s42_1, s42_2, s42_3, mq_k0s, mq_k1s, mq_k2s, mq_k4s, mq_k5s, mq_k5n, mq_k5as, mq_k6s, mj_pu, mj_lo, mj_br, mj_hr, mj_hw, mq_gf, mq_len, mq_al, mq_pf, mq_ok, mj_re, mj_lk, mj_ldi, mj_ldl, mj_lda, mj_ii, mj_ll, mj_li, mj_i1, mj_s1, mj_s2, mj_tg, mj_c1, mj_c2, mj_ar, mj_aw, mq_cb, mq_oi, mj_rm, Value.category]
  exact r
theorem v_four {d a b cap : Nat} {xs : List Int32} {M : mj_H} (h : bb M a b cap xs) {p : Nat} (hn : p + 4 < 2 ^ 31) : ∃ w, mj_V (d + 2) 53 [.ref a, .int (nI p)] M = some (some (.int w), M) ∧ (p + 4 ≤ xs.length → w = (bt_lo ((xs.drop p).take 4)).toInt32) := by
  obtain ⟨w, h1, h2⟩ := v_low (d := d) h hn
  have ha := h.2.2.2.2.2.1
  rw [show nI 4 = 4 from by decide] at h1
  refine ⟨w.toInt32, ?_, fun hp => by rw [h2 hp]⟩
  simp [c53, s53_0, s53_1, s53_2, s53_3, s53_6, s53_7, mq_k0s, mq_k1s, mq_k2s, mq_k4s, mq_k5s, mq_k5n, mq_k5as, mq_k6s, mj_pu, mj_lo, mj_br, mj_hr, mj_hw, mq_gf, mq_len, mq_al, mq_pf, mq_ok, mj_re, mj_lk, mj_ldi, mj_ldl, mj_lda, mj_ii, mj_ll, mj_li, mj_i1, mj_s1, mj_s2, mj_tg, mj_c1, mj_c2, mj_ar, mj_aw, mq_cb, mq_oi, mj_rm, Value.category, ha, h1, narrow]
/-- whether n items from p on are the other's from q on -/
def bt_mt (xs ys : List Int32) : Nat → Nat → Nat → Bool
  | _, _, 0 => true
  | p, q, m + 1 => !decide (xs.getD p (-1) = -1) && (decide (xs.getD p (-1) = ys.getD q (-1)) && bt_mt xs ys (p + 1) (q + 1) m)
theorem l_matches {d a b cap c e cap2 : Nat} {xs ys : List Int32} {M : mj_H} (hx : bb M a b cap xs) (hy : bb M c e cap2 ys) {p q n : Nat} (hp : p + n < 2 ^ 31) (hq : q + n < 2 ^ 31) : ∀ (m j : Nat), j + m = n →
    mj_Rn (d + 1) mj_m193 3 [(5, .int (nI j)), (0, .ref a), (1, .int (nI p)), (2, .ref c), (3, .int (nI q)), (4, .int (nI n))] [] M = some (some (.int (if bt_mt xs ys (p + j) (q + j) m then 1 else 0)), M) := by
  intro m
  have ha1 := hx.2.2.2.2.2.1
  have hc1 := hy.2.2.2.2.2.1
  induction m with
  | zero =>
    intro j hj
    have z : nI n ≤ nI j := nI_le (by omega) (by omega)
    simp [s193_0, s193_1, s193_3, s193_5, s193_7, s193_10, s193_11, s193_12, s193_14, s193_15, s193_18, s193_20, s193_22, s193_23, s193_26, s193_28, s193_29, s193_30, s193_32, s193_33, s193_36, s193_39, s193_40, s193_41, s193_44, s193_47, s193_48, mq_k0s, mq_k1s, mq_k2s, mq_k4s, mq_k5s, mq_k5n, mq_k5as, mq_k6s, mj_pu, mj_lo, mj_br, mj_hr, mj_hw, mq_gf, mq_len, mq_al, mq_pf, mq_ok, mj_re, mj_lk, mj_ldi, mj_ldl, mj_lda, mj_ii, mj_ll, mj_li, mj_i1, mj_s1, mj_s2, mj_tg, mj_c1, mj_c2, mj_ar, mj_aw, mq_cb, mq_oi, mj_rm, Value.category, z, bt_mt, narrow_b1]
  | succ m ih =>
    intro j hj
    have z : ¬ nI n ≤ nI j := nI_ge (by omega) (by omega)
    have r := ih (j + 1) (by omega)
    have v1 := v_item (d := d) hx (nI p + nI j)
    have v2 := v_item (d := d) hy (nI q + nI j)
    rw [nI_add, bt_at_nI (by omega)] at v1 v2
    rw [s193_3, bt_mt]
    generalize xs.getD (p + j) (-1) = u at *
    generalize ys.getD (q + j) (-1) = t at *
    by_cases h1 : u = -1
    · simp [s193_0, s193_1, s193_5, s193_7, s193_10, s193_11, s193_12, s193_14, s193_15, s193_18, s193_20, s193_22, s193_23, s193_26, s193_28, s193_29, s193_30, s193_32, s193_33, s193_36, s193_39, s193_40, s193_41, s193_44, s193_47, s193_48, mq_k0s, mq_k1s, mq_k2s, mq_k4s, mq_k5s, mq_k5n, mq_k5as, mq_k6s, mj_pu, mj_lo, mj_br, mj_hr, mj_hw, mq_gf, mq_len, mq_al, mq_pf, mq_ok, mj_re, mj_lk, mj_ldi, mj_ldl, mj_lda, mj_ii, mj_ll, mj_li, mj_i1, mj_s1, mj_s2, mj_tg, mj_c1, mj_c2, mj_ar, mj_aw, mq_cb, mq_oi, mj_rm, Value.category, z, ha1, hc1, nI_add, v1, h1, narrow_b0]
    · by_cases h2 : u = t
      · subst h2
        simp [s193_0, s193_1, s193_5, s193_7, s193_10, s193_11, s193_12, s193_14, s193_15, s193_18, s193_20, s193_22, s193_23, s193_26, s193_28, s193_29, s193_30, s193_32, s193_33, s193_36, s193_39, s193_40, s193_41, s193_44, s193_47, s193_48, mq_k0s, mq_k1s, mq_k2s, mq_k4s, mq_k5s, mq_k5n, mq_k5as, mq_k6s, mj_pu, mj_lo, mj_br, mj_hr, mj_hw, mq_gf, mq_len, mq_al, mq_pf, mq_ok, mj_re, mj_lk, mj_ldi, mj_ldl, mj_lda, mj_ii, mj_ll, mj_li, mj_i1, mj_s1, mj_s2, mj_tg, mj_c1, mj_c2, mj_ar, mj_aw, mq_cb, mq_oi, mj_rm, Value.category, z, ha1, hc1, nI_add, v1, v2, h1, nI_1]
        refine mq_wk ?_ r
        simp [mq_sub, mj_lk]
      · simp [s193_0, s193_1, s193_5, s193_7, s193_10, s193_11, s193_12, s193_14, s193_15, s193_18, s193_20, s193_22, s193_23, s193_26, s193_28, s193_29, s193_30, s193_32, s193_33, s193_36, s193_39, s193_40, s193_41, s193_44, s193_47, s193_48, mq_k0s, mq_k1s, mq_k2s, mq_k4s, mq_k5s, mq_k5n, mq_k5as, mq_k6s, mj_pu, mj_lo, mj_br, mj_hr, mj_hw, mq_gf, mq_len, mq_al, mq_pf, mq_ok, mj_re, mj_lk, mj_ldi, mj_ldl, mj_lda, mj_ii, mj_ll, mj_li, mj_i1, mj_s1, mj_s2, mj_tg, mj_c1, mj_c2, mj_ar, mj_aw, mq_cb, mq_oi, mj_rm, Value.category, z, ha1, hc1, nI_add, v1, v2, h1, h2, narrow_b0]
theorem v_matches {d a b cap c e cap2 : Nat} {xs ys : List Int32} {M : mj_H} (hx : bb M a b cap xs) (hy : bb M c e cap2 ys) {p q n : Nat} (hp : p + n < 2 ^ 31) (hq : q + n < 2 ^ 31) :
    mj_V (d + 2) 193 [.ref a, .int (nI p), .ref c, .int (nI q), .int (nI n)] M = some (some (.int (if bt_mt xs ys p q n then 1 else 0)), M) := by
  have r := l_matches (d := d) hx hy hp hq n 0 (by omega)
  rw [nI_0] at r
  simp [c193, s193_0, s193_1, mq_k0s, mq_k1s, mq_k2s, mq_k4s, mq_k5s, mq_k5n, mq_k5as, mq_k6s, mj_pu, mj_lo, mj_br, mj_hr, mj_hw, mq_gf, mq_len, mq_al, mq_pf, mq_ok, mj_re, mj_lk, mj_ldi, mj_ldl, mj_lda, mj_ii, mj_ll, mj_li, mj_i1, mj_s1, mj_s2, mj_tg, mj_c1, mj_c2, mj_ar, mj_aw, mq_cb, mq_oi, mj_rm, Value.category]
  exact r
end
/- 43.frame -/
section
set_option maxRecDepth 512
/-! Cells keep their shapes; frames with room. -/
theorem nI_lt_iff {a b : Nat} (ha : a < 2 ^ 31) (hb : b < 2 ^ 31) : nI a < nI b ↔ a < b := ⟨fun h => Nat.lt_of_not_le (fun z => nI_nlt z ha h), fun h => nI_lt h hb⟩
theorem nI_le_iff {a b : Nat} (ha : a < 2 ^ 31) (hb : b < 2 ^ 31) : nI a ≤ nI b ↔ a ≤ b := ⟨fun h => Nat.le_of_not_lt (fun z => nI_ge z ha h), fun h => nI_le h hb⟩
theorem nI_inj {a b : Nat} (ha : a < 2 ^ 31) (hb : b < 2 ^ 31) : nI a = nI b ↔ a = b := ⟨fun h => by have := congrArg Int32.toNatClampNeg h; rwa [nI_clamp ha, nI_clamp hb] at this, fun h => by rw [h]⟩
theorem nI_neg {a : Nat} (ha : a < 2 ^ 31) : (nI a < 0) ↔ False := iff_false_intro (nI_pos ha)
theorem nI_m1 {a : Nat} (ha : a < 2 ^ 31) : (nI a = -1) ↔ False := iff_false_intro (fun h => nI_pos ha (by rw [h]; decide))
theorem nI_num (n : Nat) : Int32.ofNat n = nI n := rfl
def mj_shp (c : mj_C) : Nat × Nat := (c.1, c.2.length)
def mj_gr (M M' : mj_H) : Prop := ∃ X, M'.map mj_shp = M.map mj_shp ++ X
theorem mj_gr.rf {M : mj_H} : mj_gr M M := ⟨[], by simp⟩
theorem mj_gr.tr {M M' M'' : mj_H} (h : mj_gr M M') (h' : mj_gr M' M'') : mj_gr M M'' := by
  obtain ⟨X, hX⟩ := h
  obtain ⟨Y, hY⟩ := h'
  exact ⟨X ++ Y, by rw [hY, hX, List.append_assoc]⟩
theorem mj_gr.app {M : mj_H} (X : mj_H) : mj_gr M (M ++ X) := ⟨X.map mj_shp, by simp⟩
theorem mj_gr.set {M : mj_H} {a : Nat} {q q' : mj_C} (h : M[a]? = some q) (h1 : q'.1 = q.1) (h2 : q'.2.length = q.2.length) : mj_gr M (M.set a q') := by
  refine ⟨[], ?_⟩
  rw [List.append_nil]
  apply List.ext_getElem?
  intro i
  rw [List.getElem?_map, List.getElem?_map, List.getElem?_set]
  by_cases hi : a = i
  · subst hi
    obtain ⟨hl, hq⟩ := List.getElem?_eq_some_iff.mp h
    simp [hl, h, mj_shp, h1, h2, hq]
  · simp [hi]
theorem mj_aw_gr {tag : Nat} {M M' : mj_H} {a : Nat} {i : Int32} {v : Value} (h : mj_aw tag M a i v = some M') : mj_gr M M' := by
  unfold mj_aw at h
  split at h
  · cases h
  · split at h
    · next q hq =>
      split at h
      · obtain ⟨k, -, rfl⟩ := Option.map_eq_some_iff.mp h
        exact mj_gr.set hq rfl (by simp)
      · cases h
    · cases h
theorem mj_hw_gr {r : mj_R} {st : List Value} {M : mj_H} {q : List Value × mj_H} (h : mj_hw r st M = some q) : mj_gr M q.2 := by
  unfold mj_hw at h
  split at h
  · split at h
    · cases h
    · split at h
      · next q0 hq0 =>
        split at h
        · split at h
          · cases h; exact mj_gr.set hq0 rfl (by simp)
          · cases h
        · cases h
      · cases h
  · obtain ⟨k, hk, rfl⟩ := Option.map_eq_some_iff.mp h
    exact mj_aw_gr hk
  · obtain ⟨k, hk, rfl⟩ := Option.map_eq_some_iff.mp h
    exact mj_aw_gr hk
  · obtain ⟨k, hk, rfl⟩ := Option.map_eq_some_iff.mp h
    exact mj_aw_gr hk
  · split at h
    · split at h
      · split at h
        · obtain ⟨k, hk, rfl⟩ := Option.map_eq_some_iff.mp h
          exact mj_aw_gr hk
        · cases h
      · cases h
    · cases h
  · split at h
    · cases h; exact mj_gr.app _
    · cases h
  · split at h
    · cases h
    · split at h
      · cases h; exact mj_gr.app _
      · cases h
  · split at h
    · cases h
    · split at h
      · cases h; exact mj_gr.app _
      · cases h
  · cases h
theorem mj_cp_gr {st : List Value} {M : mj_H} {q : List Value × mj_H} (h : mj_cp st M = some q) : mj_gr M q.2 := by
  unfold mj_cp at h
  split at h
  · split at h
    · cases h
    · split at h
      · next f g hf hg =>
        split at h
        · next hc =>
          cases h
          refine mj_gr.set hg hc.2.1.symm ?_
          have := hc.2.2.2.2.2.1
          have := hc.2.2.2.2.2.2.1
          simp only [List.length_append, List.length_take, List.length_drop]
          omega
        · cases h
      · cases h
  · cases h
theorem mj_go_gr {d : Nat} {call : mj_F} {y : mj_Me} (hcall : ∀ (j : Nat) (vs : List Value) (M : mj_H) (v : Option Value) (M' : mj_H), call j vs M = some (v, M') → mj_gr M M') :
    ∀ (n pc : Nat) (ls : mj_L) (st : List Value) (M : mj_H) (v : Option Value) (M' : mj_H), mj_go d call y n pc ls st M = some (v, M') → mj_gr M M' := by
  intro n
  induction n with
  | zero => intro pc ls st M v M' h; simp [mj_go] at h
  | succ n ih =>
    intro pc ls st M v M' h
    unfold mj_go at h
    split at h
    · split at h
      · split at h
        · exact ih _ _ _ _ _ _ h
        · cases h
      · split at h
        · exact ih _ _ _ _ _ _ h
        · cases h
      · split at h
        · exact ih _ _ _ _ _ _ h
        · cases h
      · split at h
        · exact ih _ _ _ _ _ _ h
        · cases h
      · split at h
        · next q hq => exact (mj_hw_gr hq).tr (ih _ _ _ _ _ _ h)
        · cases h
      · split at h
        · cases h
        · split at h
          · split at h
            · split at h
              · exact ih _ _ _ _ _ _ h
              · cases h
            · cases h
          · split at h
            · split at h
              · next q hq =>
                split at h
                · exact (mj_cp_gr hq).tr (ih _ _ _ _ _ _ h)
                · cases h
              · cases h
            · split at h
              · split at h
                · split at h
                  · next t ht => exact (hcall _ _ _ _ _ ht).tr (ih _ _ _ _ _ _ h)
                  · cases h
                · cases h
              · cases h
      · split at h
        · cases h; exact mj_gr.rf
        · cases h
      · cases h
    · cases h
theorem mj_ex_gr {fuel : Nat} : ∀ (d j : Nat) (vs : List Value) (M : mj_H) (v : Option Value) (M' : mj_H), mj_ex fuel d j vs M = some (v, M') → mj_gr M M' := by
  intro d
  induction d with
  | zero => intro j vs M v M' h; simp [mj_ex] at h
  | succ d ih =>
    intro j vs M v M' h
    unfold mj_ex at h
    split at h
    · obtain ⟨i, n, -, -, -, -, h5⟩ := mj_ci_eq h
      cases h5
      exact mj_gr.rf
    · split at h
      · split at h
        · exact mj_go_gr ih _ _ _ _ _ _ _ h
        · cases h
      · cases h
theorem mj_V_gr {d j : Nat} {vs : List Value} {M M' : mj_H} {v : Option Value} (h : mj_V d j vs M = some (v, M')) : mj_gr M M' := by
  obtain ⟨n, hn⟩ := mj_V_iff.mp h
  exact mj_ex_gr d j vs M v M' hn
theorem mj_gr.len {M M' : mj_H} (h : mj_gr M M') : M.length ≤ M'.length := by
  obtain ⟨X, hX⟩ := h
  have := congrArg List.length hX
  simp only [List.length_map, List.length_append] at this
  omega
theorem mj_gr.at {M M' : mj_H} (h : mj_gr M M') {c : Nat} {q : mj_C} (hq : M[c]? = some q) : ∃ q', M'[c]? = some q' ∧ q'.1 = q.1 ∧ q'.2.length = q.2.length := by
  obtain ⟨X, hX⟩ := h
  have hl := mq_lt hq
  have e : (M'.map mj_shp)[c]? = some (mj_shp q) := by rw [hX, List.getElem?_append_left (by rw [List.length_map]; exact hl), List.getElem?_map, hq]; rfl
  rw [List.getElem?_map] at e
  obtain ⟨q', h1, h2⟩ := Option.map_eq_some_iff.mp e
  exact ⟨q', h1, (Prod.mk.inj h2).1, (Prod.mk.inj h2).2⟩
theorem mj_sl_map (M : mj_H) : mj_sl M = ((M.map mj_shp).map Prod.snd).sum := by
  unfold mj_sl
  rw [List.map_map]; rfl
/-- the slots that were added -/
theorem mj_gr.sl {M M' : mj_H} (h : mj_gr M M') : mj_sl M' = mj_sl M + mj_sl (M'.drop M.length) := by
  obtain ⟨X, hX⟩ := h
  have e : (M'.drop M.length).map mj_shp = X := by
    rw [List.map_drop, hX, List.drop_append_of_le_length (by simp)]
    simp
  rw [mj_sl_map, mj_sl_map, mj_sl_map, e, hX]
  simp
/-- what the rows of terms have taken: lengths of pool and ends, as far as a term object is at 30 -/
def mj_zz (M : mj_H) : Nat := match (M[30]? : Option mj_C) with
  | some (_, Value.ref p :: Value.ref e :: _) => 2 * ((M[p]?).getD (0, [])).2.length + 4 * ((M[e]?).getD (0, [])).2.length
  | _ => 0
/-- a frame: cells outside S stand; what is taken of the room is what terms took -/
def fx (S : Nat → Prop) (M M' : mj_H) : Prop := (mj_gr M M') ∧ (∀ c, c < M.length → ¬ S c → M'[c]? = M[c]?) ∧ (mj_sl M' + mj_zz M ≤ mj_sl M + mj_zz M') ∧ (512 * M'.length + mj_zz M ≤ 512 * M.length + mj_zz M')
theorem fx.gr {S : Nat → Prop} {M M' : mj_H} (hh_ : fx S M M') : mj_gr M M' := hh_.1
theorem fx.same {S : Nat → Prop} {M M' : mj_H} (hh_ : fx S M M') : ∀ c, c < M.length → ¬ S c → M'[c]? = M[c]? := hh_.2.1
theorem fx.room {S : Nat → Prop} {M M' : mj_H} (hh_ : fx S M M') : mj_sl M' + mj_zz M ≤ mj_sl M + mj_zz M' := hh_.2.2.1
theorem fx.cells {S : Nat → Prop} {M M' : mj_H} (hh_ : fx S M M') : 512 * M'.length + mj_zz M ≤ 512 * M.length + mj_zz M' := hh_.2.2.2
theorem fx_mk_ {S : Nat → Prop} {M M' : mj_H} (f_0_ : mj_gr M M') (f_1_ : ∀ c, c < M.length → ¬ S c → M'[c]? = M[c]?) (f_2_ : mj_sl M' + mj_zz M ≤ mj_sl M + mj_zz M') (f_3_ : 512 * M'.length + mj_zz M ≤ 512 * M.length + mj_zz M') : fx S M M' := And.intro f_0_ (And.intro f_1_ (And.intro f_2_ f_3_))
theorem fx.rf {S : Nat → Prop} {M : mj_H} : fx S M M := (fx_mk_ mj_gr.rf (fun _ _ _ => rfl) (Nat.le_refl _) (Nat.le_refl _))
theorem fx.tr {S S' S'' : Nat → Prop} {M M' M'' : mj_H} (h : fx S M M') (h' : fx S' M' M'') (h1 : ∀ c, c < M.length → S c → S'' c) (h2 : ∀ c, c < M.length → S' c → S'' c) : fx S'' M M'' := by
  refine (fx_mk_ (h.gr.tr h'.gr) (fun c hc hs => ?_) ?_ ?_)
  · rw [h'.same c (Nat.lt_of_lt_of_le hc h.gr.len) (fun z => hs (h2 c hc z)), h.same c hc (fun z => hs (h1 c hc z))]
  · have := h.room; have := h'.room; omega
  · have := h.cells; have := h'.cells; omega
theorem fx.mono {S S' : Nat → Prop} {M M' : mj_H} (h : fx S M M') (h1 : ∀ c, c < M.length → S c → S' c) : fx S' M M' := (fx_mk_ h.gr (fun c hc hs => h.same c hc (fun z => hs (h1 c hc z))) h.room h.cells)
theorem fx.trs {S : Nat → Prop} {M M' M'' : mj_H} (h : fx S M M') (h' : fx S M' M'') : fx S M M'' := h.tr h' (fun _ _ z => z) (fun _ _ z => z)
/-- same cell 30, same shapes: same measure -/
theorem mj_zz_eq {M M' : mj_H} (h : mj_gr M M') (h30 : M'[30]? = M[30]?) (hp : ∀ t p e r, M[30]? = some (t, .ref p :: .ref e :: r) → p < M.length ∧ e < M.length) : mj_zz M' = mj_zz M := by
  unfold mj_zz
  rw [h30]
  split
  · next t p e r hq =>
    obtain ⟨h1, h2⟩ := hp t p e r hq
    obtain ⟨q1, e1, -, e3⟩ := h.at (List.getElem?_eq_getElem h1)
    obtain ⟨q2, f1, -, f3⟩ := h.at (List.getElem?_eq_getElem h2)
    rw [e1, f1, List.getElem?_eq_getElem h1, List.getElem?_eq_getElem h2]
    simp [e3, f3]
  · rfl
def mj_p30 (M : mj_H) : Prop := ∃ t p e r, M[30]? = some (t, .ref p :: .ref e :: r) ∧ p < M.length ∧ e < M.length
theorem mj_p30.pe {M : mj_H} (h : mj_p30 M) : ∀ t p e r, M[30]? = some (t, .ref p :: .ref e :: r) → p < M.length ∧ e < M.length := by
  obtain ⟨t, p, e, r, h1, h2, h3⟩ := h
  intro t' p' e' r' h'
  rw [h1] at h'
  have := Option.some.inj h'
  simp at this
  obtain ⟨-, rfl, rfl, -⟩ := this
  exact ⟨h2, h3⟩
/-- no cell is new, and 30 stands -/
theorem fx.of {S : List Nat} {M M' : mj_H} (hg : mj_gr M M') (h : mq_fr S M M') (h30 : 30 ∉ S) (hp : mj_p30 M) : fx (· ∈ S) M M' := by
  have hz := mj_zz_eq hg (h.2 30 h30) hp.pe
  have hs := hg.sl
  rw [List.drop_eq_nil_of_le (by rw [h.1]; exact Nat.le_refl _)] at hs
  refine (fx_mk_ hg (fun c _ hc => h.2 c hc) ?_ ?_)
  · rw [hs, hz]; simp [mj_sl]
  · rw [hz, h.1]; exact Nat.le_refl _
end
/- 44.num -/
section
set_option maxRecDepth 512
/-! Numbers that simp compares. -/
theorem nl_lt {a n : Nat} (ha : a < 2 ^ 31) (hn : Nat.ble n 2147483647 = true) : (nI a < (no_index (OfNat.ofNat n) : Int32)) ↔ a < OfNat.ofNat n := nI_lt_iff ha (Nat.lt_succ_of_le (Nat.le_of_ble_eq_true hn))
theorem nl_le {a n : Nat} (ha : a < 2 ^ 31) (hn : Nat.ble n 2147483647 = true) : (nI a ≤ (no_index (OfNat.ofNat n) : Int32)) ↔ a ≤ OfNat.ofNat n := nI_le_iff ha (Nat.lt_succ_of_le (Nat.le_of_ble_eq_true hn))
theorem ln_lt {a n : Nat} (ha : a < 2 ^ 31) (hn : Nat.ble n 2147483647 = true) : ((no_index (OfNat.ofNat n) : Int32) < nI a) ↔ OfNat.ofNat n < a := nI_lt_iff (Nat.lt_succ_of_le (Nat.le_of_ble_eq_true hn)) ha
theorem ln_le {a n : Nat} (ha : a < 2 ^ 31) (hn : Nat.ble n 2147483647 = true) : ((no_index (OfNat.ofNat n) : Int32) ≤ nI a) ↔ OfNat.ofNat n ≤ a := nI_le_iff (Nat.lt_succ_of_le (Nat.le_of_ble_eq_true hn)) ha
theorem nl_eq {a n : Nat} (ha : a < 2 ^ 31) (hn : Nat.ble n 2147483647 = true) : (nI a = (no_index (OfNat.ofNat n) : Int32)) ↔ a = OfNat.ofNat n := nI_inj ha (Nat.lt_succ_of_le (Nat.le_of_ble_eq_true hn))
theorem ln_eq {a n : Nat} (ha : a < 2 ^ 31) (hn : Nat.ble n 2147483647 = true) : ((no_index (OfNat.ofNat n) : Int32) = nI a) ↔ OfNat.ofNat n = a := nI_inj (Nat.lt_succ_of_le (Nat.le_of_ble_eq_true hn)) ha
theorem nl_add {a n : Nat} : nI a + (no_index (OfNat.ofNat n) : Int32) = nI (a + OfNat.ofNat n) := nI_add a n
theorem ln_add {a n : Nat} : (no_index (OfNat.ofNat n) : Int32) + nI a = nI (OfNat.ofNat n + a) := nI_add n a
theorem nI_sub {a b : Nat} (h : b ≤ a) : nI a - nI b = nI (a - b) := by
  have e : nI a = nI (a - b) + nI b := by rw [nI_add]; congr 1; omega
  rw [e, Int32.add_sub_cancel]
theorem nl_sub {a n : Nat} (h : OfNat.ofNat n ≤ a) : nI a - (no_index (OfNat.ofNat n) : Int32) = nI (a - OfNat.ofNat n) := nI_sub h
theorem nI_mul (a b : Nat) : nI a * nI b = nI (a * b) := by
  simp [nI, Int32.ofNat_mul]
theorem ln_mul {a n : Nat} : (no_index (OfNat.ofNat n) : Int32) * nI a = nI (OfNat.ofNat n * a) := nI_mul n a
/-! Locals, without conditions. -/
def mq_f1 (i : Nat) (ls : mj_L) : mj_L := ls.filter (fun q => !(q.1 == i) && !(q.1 + 1 == i && q.2.category == 2))
def mq_f2 (i : Nat) (ls : mj_L) : mj_L := ls.filter (fun q => !(q.1 == i) && (!(q.1 == i + 1) && !(q.1 + 1 == i && q.2.category == 2)))
theorem ms_1 {ls : mj_L} {i : Nat} {v : Value} : mj_s1 ls i v = (i, v) :: mq_f1 i ls := rfl
theorem ms_2 {ls : mj_L} {i : Nat} {v : Value} : mj_s2 ls i v = (i, v) :: mq_f2 i ls := rfl
theorem f1_n {i : Nat} : mq_f1 i [] = [] := rfl
theorem f2_n {i : Nat} : mq_f2 i [] = [] := rfl
section MQF
variable {i k a : Nat} {x : Int32} {w : Int64} {l : mj_L}
theorem f1_i : mq_f1 i ((k, .int x) :: l) = bif k == i then mq_f1 i l else (k, .int x) :: mq_f1 i l := by cases h : k == i <;> simp [mq_f1, h, Value.category]
theorem f1_r : mq_f1 i ((k, .ref a) :: l) = bif k == i then mq_f1 i l else (k, .ref a) :: mq_f1 i l := by cases h : k == i <;> simp [mq_f1, h, Value.category]
theorem f1_u : mq_f1 i ((k, .null) :: l) = bif k == i then mq_f1 i l else (k, .null) :: mq_f1 i l := by cases h : k == i <;> simp [mq_f1, h, Value.category]
theorem f1_l : mq_f1 i ((k, .long w) :: l) = bif (k == i || k + 1 == i) then mq_f1 i l else (k, .long w) :: mq_f1 i l := by cases h : k == i <;> cases h2 : k + 1 == i <;> simp [mq_f1, h, h2, Value.category]
theorem f2_i : mq_f2 i ((k, .int x) :: l) = bif (k == i || k == i + 1) then mq_f2 i l else (k, .int x) :: mq_f2 i l := by cases h : k == i <;> cases h2 : k == i + 1 <;> simp [mq_f2, h, h2, Value.category]
theorem f2_r : mq_f2 i ((k, .ref a) :: l) = bif (k == i || k == i + 1) then mq_f2 i l else (k, .ref a) :: mq_f2 i l := by cases h : k == i <;> cases h2 : k == i + 1 <;> simp [mq_f2, h, h2, Value.category]
theorem f2_u : mq_f2 i ((k, .null) :: l) = bif (k == i || k == i + 1) then mq_f2 i l else (k, .null) :: mq_f2 i l := by cases h : k == i <;> cases h2 : k == i + 1 <;> simp [mq_f2, h, h2, Value.category]
theorem f2_l : mq_f2 i ((k, .long w) :: l) = bif (k == i || (k == i + 1 || k + 1 == i)) then mq_f2 i l else (k, .long w) :: mq_f2 i l := by cases h : k == i <;> cases h2 : k == i + 1 <;> cases h3 : k + 1 == i <;> simp [mq_f2, h, h2, h3, Value.category]
end MQF
/-- the items of a list of ints, as values -/
theorem mq_lkm {l : mj_L} {i k : Nat} {v : Value} : mj_lk ((k, v) :: l) i = bif k == i then some v else mj_lk l i := by
  rw [mj_lk]
  by_cases h : k = i
  · simp [h]
  · have : (k == i) = false := by simp [h]
    rw [if_neg h, this]; rfl
theorem mq_lkn {i : Nat} : mj_lk [] i = none := rfl
end
/- 45.bytes4 -/
section
set_option maxRecDepth 512
/-! Class: Bytes: heads, texts, terms, filling; strings. -/
/- 92 java/lang/String.length()I -/
theorem s92_0 {d : Nat} {ls : mj_L} {st : List Value} {M : mj_H} : mj_Rn d mj_m92 0 ls st M = mq_k0 d mj_m92 1 ls M (mj_lda (mj_lk ls 0) st) := mj_R0 (r := (.aload_n 0, 1, 0, 0, 0)) rfl rfl
theorem s92_1 {d : Nat} {ls : mj_L} {st : List Value} {M : mj_H} : mj_Rn d mj_m92 1 ls st M = mq_k0 d mj_m92 4 ls M (mq_gf 900 0 st M) := (mj_R3 (r := (.getfield 9, 3, 900, 0, 82180)) rfl rfl).trans (congrArg (mq_k0 d mj_m92 4 ls M) mq_gf_eq)
theorem s92_4 {d : Nat} {ls : mj_L} {st : List Value} {M : mj_H} : mj_Rn d mj_m92 4 ls st M = mq_k0 d mj_m92 5 ls M (mq_len st M) := (mj_R3 (r := (.arraylength, 1, 0, 0, 0)) rfl rfl).trans (congrArg (mq_k0 d mj_m92 5 ls M) mq_len_eq)
theorem s92_5 {d : Nat} {ls : mj_L} {st : List Value} {M : mj_H} : mj_Rn d mj_m92 5 ls st M = mq_k0 d mj_m92 6 ls M (mj_lda (mj_lk ls 0) st) := mj_R0 (r := (.aload_n 0, 1, 0, 0, 0)) rfl rfl
theorem s92_6 {d : Nat} {ls : mj_L} {st : List Value} {M : mj_H} : mj_Rn (d + 1) mj_m92 6 ls st M = mq_k5a (d + 1) mj_m92 9 ls M 93 (mq_cb 0 0 900 st M) := mj_R5e (r := (.invokevirtual 335, 3, 0, 93, 12510)) (z := mj_m93) rfl rfl (by decide) (by decide) rfl
theorem s92_9 {d : Nat} {ls : mj_L} {st : List Value} {M : mj_H} : mj_Rn d mj_m92 9 ls st M = mq_k0 d mj_m92 10 ls M (mj_pu .ishr ls st) := mj_R0 (r := (.ishr, 1, 0, 0, 0)) rfl rfl
theorem s92_10 {d : Nat} {ls : mj_L} {st : List Value} {M : mj_H} : mj_Rn d mj_m92 10 ls st M = mq_k6 M (mj_re (some .int) (.ireturn) st) := mj_R6 (r := (.ireturn, 1, 0, 0, 0)) rfl rfl
/- 93 java/lang/String.coder()B -/
theorem s93_0 {d : Nat} {ls : mj_L} {st : List Value} {M : mj_H} : mj_Rn d mj_m93 0 ls st M = mj_Rn d mj_m93 3 ls (.int 1 :: st) M := mj_R3 (r := (.getstatic 38, 3, 2, 0, 12514)) rfl rfl
theorem s93_3 {d : Nat} {ls : mj_L} {st : List Value} {M : mj_H} : mj_Rn d mj_m93 3 ls st M = mq_k2 d mj_m93 ls M (mj_br (.ifCond .eq 10) 3 st) := mj_R2 (r := (.ifCond .eq 10, 3, 0, 0, 0)) rfl rfl
theorem s93_6 {d : Nat} {ls : mj_L} {st : List Value} {M : mj_H} : mj_Rn d mj_m93 6 ls st M = mq_k0 d mj_m93 7 ls M (mj_lda (mj_lk ls 0) st) := mj_R0 (r := (.aload_n 0, 1, 0, 0, 0)) rfl rfl
theorem s93_7 {d : Nat} {ls : mj_L} {st : List Value} {M : mj_H} : mj_Rn d mj_m93 7 ls st M = mq_k0 d mj_m93 10 ls M (mq_gf 900 1 st M) := (mj_R3 (r := (.getfield 15, 3, 900, 1, 82182)) rfl rfl).trans (congrArg (mq_k0 d mj_m93 10 ls M) mq_gf_eq)
theorem s93_10 {d : Nat} {ls : mj_L} {st : List Value} {M : mj_H} : mj_Rn d mj_m93 10 ls st M = mj_Rn d mj_m93 14 ls st M := mj_R2 (r := (.goto 4, 3, 0, 0, 0)) rfl rfl
theorem s93_13 {d : Nat} {ls : mj_L} {st : List Value} {M : mj_H} : mj_Rn d mj_m93 13 ls st M = mj_Rn d mj_m93 14 ls (.int 1 :: st) M := mj_R0 (r := (.iconst 1, 1, 0, 0, 0)) rfl rfl
theorem s93_14 {d : Nat} {ls : mj_L} {st : List Value} {M : mj_H} : mj_Rn d mj_m93 14 ls st M = mq_k6 M (mj_re (some .byte) (.ireturn) st) := mj_R6 (r := (.ireturn, 1, 0, 0, 0)) rfl rfl
/- 95 java/lang/String.charAt(I)C -/
theorem s95_0 {d : Nat} {ls : mj_L} {st : List Value} {M : mj_H} : mj_Rn d mj_m95 0 ls st M = mq_k0 d mj_m95 1 ls M (mj_lda (mj_lk ls 0) st) := mj_R0 (r := (.aload_n 0, 1, 0, 0, 0)) rfl rfl
theorem s95_1 {d : Nat} {ls : mj_L} {st : List Value} {M : mj_H} : mj_Rn (d + 1) mj_m95 1 ls st M = mq_k5a (d + 1) mj_m95 4 ls M 96 (mq_cb 0 0 900 st M) := mj_R5e (r := (.invokevirtual 492, 3, 0, 96, 12524)) (z := mj_m96) rfl rfl (by decide) (by decide) rfl
theorem s95_4 {d : Nat} {ls : mj_L} {st : List Value} {M : mj_H} : mj_Rn d mj_m95 4 ls st M = mq_k2 d mj_m95 ls M (mj_br (.ifCond .eq 12) 4 st) := mj_R2 (r := (.ifCond .eq 12, 3, 0, 0, 0)) rfl rfl
theorem s95_7 {d : Nat} {ls : mj_L} {st : List Value} {M : mj_H} : mj_Rn d mj_m95 7 ls st M = mq_k0 d mj_m95 8 ls M (mj_lda (mj_lk ls 0) st) := mj_R0 (r := (.aload_n 0, 1, 0, 0, 0)) rfl rfl
theorem s95_8 {d : Nat} {ls : mj_L} {st : List Value} {M : mj_H} : mj_Rn d mj_m95 8 ls st M = mq_k0 d mj_m95 11 ls M (mq_gf 900 0 st M) := (mj_R3 (r := (.getfield 9, 3, 900, 0, 82180)) rfl rfl).trans (congrArg (mq_k0 d mj_m95 11 ls M) mq_gf_eq)
theorem s95_11 {d : Nat} {ls : mj_L} {st : List Value} {M : mj_H} : mj_Rn d mj_m95 11 ls st M = mq_k0 d mj_m95 12 ls M (mj_ldi (mj_lk ls 1) st) := mj_R0 (r := (.iload_n 1, 1, 0, 0, 0)) rfl rfl
theorem s95_12 {d : Nat} {ls : mj_L} {st : List Value} {M : mj_H} : mj_Rn (d + 1) mj_m95 12 ls st M = mq_k5a (d + 1) mj_m95 15 ls M 97 (mq_cb 2 2 999 st M) := mj_R5e (r := (.invokestatic 495, 3, 2, 97, 16384)) (z := mj_m97) rfl rfl (by decide) (by decide) rfl
theorem s95_15 {d : Nat} {ls : mj_L} {st : List Value} {M : mj_H} : mj_Rn d mj_m95 15 ls st M = mq_k6 M (mj_re (some .char) (.ireturn) st) := mj_R6 (r := (.ireturn, 1, 0, 0, 0)) rfl rfl
theorem s95_16 {d : Nat} {ls : mj_L} {st : List Value} {M : mj_H} : mj_Rn d mj_m95 16 ls st M = mq_k0 d mj_m95 17 ls M (mj_lda (mj_lk ls 0) st) := mj_R0 (r := (.aload_n 0, 1, 0, 0, 0)) rfl rfl
theorem s95_17 {d : Nat} {ls : mj_L} {st : List Value} {M : mj_H} : mj_Rn d mj_m95 17 ls st M = mq_k0 d mj_m95 20 ls M (mq_gf 900 0 st M) := (mj_R3 (r := (.getfield 9, 3, 900, 0, 82180)) rfl rfl).trans (congrArg (mq_k0 d mj_m95 20 ls M) mq_gf_eq)
theorem s95_20 {d : Nat} {ls : mj_L} {st : List Value} {M : mj_H} : mj_Rn d mj_m95 20 ls st M = mq_k0 d mj_m95 21 ls M (mj_ldi (mj_lk ls 1) st) := mj_R0 (r := (.iload_n 1, 1, 0, 0, 0)) rfl rfl
theorem s95_21 {d : Nat} {ls : mj_L} {st : List Value} {M : mj_H} : mj_Rn (d + 1) mj_m95 21 ls st M = mq_k5a (d + 1) mj_m95 24 ls M 100 (mq_cb 2 2 999 st M) := mj_R5e (r := (.invokestatic 498, 3, 2, 100, 16395)) (z := mj_m100) rfl rfl (by decide) (by decide) rfl
theorem s95_24 {d : Nat} {ls : mj_L} {st : List Value} {M : mj_H} : mj_Rn d mj_m95 24 ls st M = mq_k6 M (mj_re (some .char) (.ireturn) st) := mj_R6 (r := (.ireturn, 1, 0, 0, 0)) rfl rfl
/- 96 java/lang/String.isLatin1()Z -/
theorem s96_0 {d : Nat} {ls : mj_L} {st : List Value} {M : mj_H} : mj_Rn d mj_m96 0 ls st M = mj_Rn d mj_m96 3 ls (.int 1 :: st) M := mj_R3 (r := (.getstatic 38, 3, 2, 0, 12514)) rfl rfl
theorem s96_3 {d : Nat} {ls : mj_L} {st : List Value} {M : mj_H} : mj_Rn d mj_m96 3 ls st M = mq_k2 d mj_m96 ls M (mj_br (.ifCond .eq 14) 3 st) := mj_R2 (r := (.ifCond .eq 14, 3, 0, 0, 0)) rfl rfl
theorem s96_6 {d : Nat} {ls : mj_L} {st : List Value} {M : mj_H} : mj_Rn d mj_m96 6 ls st M = mq_k0 d mj_m96 7 ls M (mj_lda (mj_lk ls 0) st) := mj_R0 (r := (.aload_n 0, 1, 0, 0, 0)) rfl rfl
theorem s96_7 {d : Nat} {ls : mj_L} {st : List Value} {M : mj_H} : mj_Rn d mj_m96 7 ls st M = mq_k0 d mj_m96 10 ls M (mq_gf 900 1 st M) := (mj_R3 (r := (.getfield 15, 3, 900, 1, 82182)) rfl rfl).trans (congrArg (mq_k0 d mj_m96 10 ls M) mq_gf_eq)
theorem s96_10 {d : Nat} {ls : mj_L} {st : List Value} {M : mj_H} : mj_Rn d mj_m96 10 ls st M = mq_k2 d mj_m96 ls M (mj_br (.ifCond .ne 7) 10 st) := mj_R2 (r := (.ifCond .ne 7, 3, 0, 0, 0)) rfl rfl
theorem s96_13 {d : Nat} {ls : mj_L} {st : List Value} {M : mj_H} : mj_Rn d mj_m96 13 ls st M = mj_Rn d mj_m96 14 ls (.int 1 :: st) M := mj_R0 (r := (.iconst 1, 1, 0, 0, 0)) rfl rfl
theorem s96_14 {d : Nat} {ls : mj_L} {st : List Value} {M : mj_H} : mj_Rn d mj_m96 14 ls st M = mj_Rn d mj_m96 18 ls st M := mj_R2 (r := (.goto 4, 3, 0, 0, 0)) rfl rfl
theorem s96_17 {d : Nat} {ls : mj_L} {st : List Value} {M : mj_H} : mj_Rn d mj_m96 17 ls st M = mj_Rn d mj_m96 18 ls (.int 0 :: st) M := mj_R0 (r := (.iconst 0, 1, 0, 0, 0)) rfl rfl
theorem s96_18 {d : Nat} {ls : mj_L} {st : List Value} {M : mj_H} : mj_Rn d mj_m96 18 ls st M = mq_k6 M (mj_re (some .boolean) (.ireturn) st) := mj_R6 (r := (.ireturn, 1, 0, 0, 0)) rfl rfl
/- 97 java/lang/StringLatin1.charAt([BI)C -/
theorem s97_0 {d : Nat} {ls : mj_L} {st : List Value} {M : mj_H} : mj_Rn d mj_m97 0 ls st M = mq_k0 d mj_m97 1 ls M (mj_ldi (mj_lk ls 1) st) := mj_R0 (r := (.iload_n 1, 1, 0, 0, 0)) rfl rfl
theorem s97_1 {d : Nat} {ls : mj_L} {st : List Value} {M : mj_H} : mj_Rn d mj_m97 1 ls st M = mq_k0 d mj_m97 2 ls M (mj_lda (mj_lk ls 0) st) := mj_R0 (r := (.aload_n 0, 1, 0, 0, 0)) rfl rfl
theorem s97_2 {d : Nat} {ls : mj_L} {st : List Value} {M : mj_H} : mj_Rn d mj_m97 2 ls st M = mq_k0 d mj_m97 3 ls M (mq_len st M) := (mj_R3 (r := (.arraylength, 1, 0, 0, 0)) rfl rfl).trans (congrArg (mq_k0 d mj_m97 3 ls M) mq_len_eq)
theorem s97_3 {d : Nat} {ls : mj_L} {st : List Value} {M : mj_H} : mj_Rn (d + 1) mj_m97 3 ls st M = mq_k5a (d + 1) mj_m97 6 ls M 98 (mq_cb 2 2 900 st M) := mj_R5e (r := (.invokestatic 9, 3, 2, 98, 16387)) (z := mj_m98) rfl rfl (by decide) (by decide) rfl
theorem s97_6 {d : Nat} {ls : mj_L} {st : List Value} {M : mj_H} : mj_Rn d mj_m97 6 ls st M = mq_k0 d mj_m97 7 ls M (mj_lda (mj_lk ls 0) st) := mj_R0 (r := (.aload_n 0, 1, 0, 0, 0)) rfl rfl
theorem s97_7 {d : Nat} {ls : mj_L} {st : List Value} {M : mj_H} : mj_Rn d mj_m97 7 ls st M = mq_k0 d mj_m97 8 ls M (mj_ldi (mj_lk ls 1) st) := mj_R0 (r := (.iload_n 1, 1, 0, 0, 0)) rfl rfl
theorem s97_8 {d : Nat} {ls : mj_L} {st : List Value} {M : mj_H} : mj_Rn d mj_m97 8 ls st M = mq_k0 d mj_m97 9 ls M (mq_al [1001, 1002] st M) := (mj_R3 (r := (.baload, 1, 0, 0, 0)) rfl rfl).trans (congrArg (mq_k0 d mj_m97 9 ls M) mq_alb_eq)
theorem s97_9 {d : Nat} {ls : mj_L} {st : List Value} {M : mj_H} : mj_Rn d mj_m97 9 ls st M = mj_Rn d mj_m97 12 ls (.int 255 :: st) M := mj_R0 (r := (.sipush 255, 3, 0, 0, 0)) rfl rfl
theorem s97_12 {d : Nat} {ls : mj_L} {st : List Value} {M : mj_H} : mj_Rn d mj_m97 12 ls st M = mq_k0 d mj_m97 13 ls M (mj_pu .iand ls st) := mj_R0 (r := (.iand, 1, 0, 0, 0)) rfl rfl
theorem s97_13 {d : Nat} {ls : mj_L} {st : List Value} {M : mj_H} : mj_Rn d mj_m97 13 ls st M = mq_k0 d mj_m97 14 ls M (mj_pu .i2c ls st) := mj_R0 (r := (.i2c, 1, 0, 0, 0)) rfl rfl
theorem s97_14 {d : Nat} {ls : mj_L} {st : List Value} {M : mj_H} : mj_Rn d mj_m97 14 ls st M = mq_k6 M (mj_re (some .char) (.ireturn) st) := mj_R6 (r := (.ireturn, 1, 0, 0, 0)) rfl rfl
/- 131 PasskeyHouse$Bytes.head(II)V -/
theorem s131_0 {d : Nat} {ls : mj_L} {st : List Value} {M : mj_H} : mj_Rn d mj_m131 0 ls st M = mq_k0 d mj_m131 1 ls M (mj_ldi (mj_lk ls 1) st) := mj_R0 (r := (.iload_n 1, 1, 0, 0, 0)) rfl rfl
theorem s131_1 {d : Nat} {ls : mj_L} {st : List Value} {M : mj_H} : mj_Rn d mj_m131 1 ls st M = mj_Rn d mj_m131 2 ls (.int 5 :: st) M := mj_R0 (r := (.iconst 5, 1, 0, 0, 0)) rfl rfl
theorem s131_2 {d : Nat} {ls : mj_L} {st : List Value} {M : mj_H} : mj_Rn d mj_m131 2 ls st M = mq_k0 d mj_m131 3 ls M (mj_pu .ishl ls st) := mj_R0 (r := (.ishl, 1, 0, 0, 0)) rfl rfl
theorem s131_3 {d : Nat} {ls : mj_L} {st : List Value} {M : mj_H} : mj_Rn d mj_m131 3 ls st M = mq_k1 d mj_m131 4 M (mj_lo 4 (.istore 3) ls st) := (mj_R1 (r := (.istore_n 3, 1, 0, 0, 0)) rfl rfl).trans (congrArg (mq_k1 d mj_m131 4 M) (mq_sti (k := 3)))
theorem s131_4 {d : Nat} {ls : mj_L} {st : List Value} {M : mj_H} : mj_Rn d mj_m131 4 ls st M = mq_k0 d mj_m131 5 ls M (mj_ldi (mj_lk ls 2) st) := mj_R0 (r := (.iload_n 2, 1, 0, 0, 0)) rfl rfl
theorem s131_5 {d : Nat} {ls : mj_L} {st : List Value} {M : mj_H} : mj_Rn d mj_m131 5 ls st M = mj_Rn d mj_m131 7 ls (.int 24 :: st) M := mj_R0 (r := (.bipush 24, 2, 0, 0, 0)) rfl rfl
theorem s131_7 {d : Nat} {ls : mj_L} {st : List Value} {M : mj_H} : mj_Rn d mj_m131 7 ls st M = mq_k2 d mj_m131 ls M (mj_br (.if_icmp .ge 13) 7 st) := mj_R2 (r := (.if_icmp .ge 13, 3, 0, 0, 0)) rfl rfl
theorem s131_10 {d : Nat} {ls : mj_L} {st : List Value} {M : mj_H} : mj_Rn d mj_m131 10 ls st M = mq_k0 d mj_m131 11 ls M (mj_lda (mj_lk ls 0) st) := mj_R0 (r := (.aload_n 0, 1, 0, 0, 0)) rfl rfl
theorem s131_11 {d : Nat} {ls : mj_L} {st : List Value} {M : mj_H} : mj_Rn d mj_m131 11 ls st M = mq_k0 d mj_m131 12 ls M (mj_ldi (mj_lk ls 3) st) := mj_R0 (r := (.iload_n 3, 1, 0, 0, 0)) rfl rfl
theorem s131_12 {d : Nat} {ls : mj_L} {st : List Value} {M : mj_H} : mj_Rn d mj_m131 12 ls st M = mq_k0 d mj_m131 13 ls M (mj_ldi (mj_lk ls 2) st) := mj_R0 (r := (.iload_n 2, 1, 0, 0, 0)) rfl rfl
theorem s131_13 {d : Nat} {ls : mj_L} {st : List Value} {M : mj_H} : mj_Rn d mj_m131 13 ls st M = mq_k0 d mj_m131 14 ls M (mj_pu .ior ls st) := mj_R0 (r := (.ior, 1, 0, 0, 0)) rfl rfl
theorem s131_14 {d : Nat} {ls : mj_L} {st : List Value} {M : mj_H} : mj_Rn (d + 1) mj_m131 14 ls st M = mq_k5a (d + 1) mj_m131 17 ls M 45 (mq_cb 0 1 1 st M) := mj_R5e (r := (.invokevirtual 35, 3, 0, 45, 12434)) (z := mj_m45) rfl rfl (by decide) (by decide) rfl
theorem s131_17 {d : Nat} {ls : mj_L} {st : List Value} {M : mj_H} : mj_Rn d mj_m131 17 ls st M = mj_Rn d mj_m131 58 ls st M := mj_R2 (r := (.goto 41, 3, 0, 0, 0)) rfl rfl
theorem s131_20 {d : Nat} {ls : mj_L} {st : List Value} {M : mj_H} : mj_Rn d mj_m131 20 ls st M = mq_k0 d mj_m131 21 ls M (mj_ldi (mj_lk ls 2) st) := mj_R0 (r := (.iload_n 2, 1, 0, 0, 0)) rfl rfl
theorem s131_21 {d : Nat} {ls : mj_L} {st : List Value} {M : mj_H} : mj_Rn d mj_m131 21 ls st M = mj_Rn d mj_m131 24 ls (.int 256 :: st) M := mj_R0 (r := (.sipush 256, 3, 0, 0, 0)) rfl rfl
theorem s131_24 {d : Nat} {ls : mj_L} {st : List Value} {M : mj_H} : mj_Rn d mj_m131 24 ls st M = mq_k2 d mj_m131 ls M (mj_br (.if_icmp .ge 19) 24 st) := mj_R2 (r := (.if_icmp .ge 19, 3, 0, 0, 0)) rfl rfl
theorem s131_27 {d : Nat} {ls : mj_L} {st : List Value} {M : mj_H} : mj_Rn d mj_m131 27 ls st M = mq_k0 d mj_m131 28 ls M (mj_lda (mj_lk ls 0) st) := mj_R0 (r := (.aload_n 0, 1, 0, 0, 0)) rfl rfl
theorem s131_28 {d : Nat} {ls : mj_L} {st : List Value} {M : mj_H} : mj_Rn d mj_m131 28 ls st M = mq_k0 d mj_m131 29 ls M (mj_ldi (mj_lk ls 3) st) := mj_R0 (r := (.iload_n 3, 1, 0, 0, 0)) rfl rfl
theorem s131_29 {d : Nat} {ls : mj_L} {st : List Value} {M : mj_H} : mj_Rn d mj_m131 29 ls st M = mj_Rn d mj_m131 31 ls (.int 24 :: st) M := mj_R0 (r := (.bipush 24, 2, 0, 0, 0)) rfl rfl
theorem s131_31 {d : Nat} {ls : mj_L} {st : List Value} {M : mj_H} : mj_Rn d mj_m131 31 ls st M = mq_k0 d mj_m131 32 ls M (mj_pu .ior ls st) := mj_R0 (r := (.ior, 1, 0, 0, 0)) rfl rfl
theorem s131_32 {d : Nat} {ls : mj_L} {st : List Value} {M : mj_H} : mj_Rn (d + 1) mj_m131 32 ls st M = mq_k5a (d + 1) mj_m131 35 ls M 45 (mq_cb 0 1 1 st M) := mj_R5e (r := (.invokevirtual 35, 3, 0, 45, 12434)) (z := mj_m45) rfl rfl (by decide) (by decide) rfl
theorem s131_35 {d : Nat} {ls : mj_L} {st : List Value} {M : mj_H} : mj_Rn d mj_m131 35 ls st M = mq_k0 d mj_m131 36 ls M (mj_lda (mj_lk ls 0) st) := mj_R0 (r := (.aload_n 0, 1, 0, 0, 0)) rfl rfl
theorem s131_36 {d : Nat} {ls : mj_L} {st : List Value} {M : mj_H} : mj_Rn d mj_m131 36 ls st M = mq_k0 d mj_m131 37 ls M (mj_ldi (mj_lk ls 2) st) := mj_R0 (r := (.iload_n 2, 1, 0, 0, 0)) rfl rfl
theorem s131_37 {d : Nat} {ls : mj_L} {st : List Value} {M : mj_H} : mj_Rn (d + 1) mj_m131 37 ls st M = mq_k5a (d + 1) mj_m131 40 ls M 45 (mq_cb 0 1 1 st M) := mj_R5e (r := (.invokevirtual 35, 3, 0, 45, 12434)) (z := mj_m45) rfl rfl (by decide) (by decide) rfl
theorem s131_40 {d : Nat} {ls : mj_L} {st : List Value} {M : mj_H} : mj_Rn d mj_m131 40 ls st M = mj_Rn d mj_m131 58 ls st M := mj_R2 (r := (.goto 18, 3, 0, 0, 0)) rfl rfl
theorem s131_43 {d : Nat} {ls : mj_L} {st : List Value} {M : mj_H} : mj_Rn d mj_m131 43 ls st M = mq_k0 d mj_m131 44 ls M (mj_lda (mj_lk ls 0) st) := mj_R0 (r := (.aload_n 0, 1, 0, 0, 0)) rfl rfl
theorem s131_44 {d : Nat} {ls : mj_L} {st : List Value} {M : mj_H} : mj_Rn d mj_m131 44 ls st M = mq_k0 d mj_m131 45 ls M (mj_ldi (mj_lk ls 3) st) := mj_R0 (r := (.iload_n 3, 1, 0, 0, 0)) rfl rfl
theorem s131_45 {d : Nat} {ls : mj_L} {st : List Value} {M : mj_H} : mj_Rn d mj_m131 45 ls st M = mj_Rn d mj_m131 47 ls (.int 25 :: st) M := mj_R0 (r := (.bipush 25, 2, 0, 0, 0)) rfl rfl
theorem s131_47 {d : Nat} {ls : mj_L} {st : List Value} {M : mj_H} : mj_Rn d mj_m131 47 ls st M = mq_k0 d mj_m131 48 ls M (mj_pu .ior ls st) := mj_R0 (r := (.ior, 1, 0, 0, 0)) rfl rfl
theorem s131_48 {d : Nat} {ls : mj_L} {st : List Value} {M : mj_H} : mj_Rn (d + 1) mj_m131 48 ls st M = mq_k5a (d + 1) mj_m131 51 ls M 45 (mq_cb 0 1 1 st M) := mj_R5e (r := (.invokevirtual 35, 3, 0, 45, 12434)) (z := mj_m45) rfl rfl (by decide) (by decide) rfl
theorem s131_51 {d : Nat} {ls : mj_L} {st : List Value} {M : mj_H} : mj_Rn d mj_m131 51 ls st M = mq_k0 d mj_m131 52 ls M (mj_lda (mj_lk ls 0) st) := mj_R0 (r := (.aload_n 0, 1, 0, 0, 0)) rfl rfl
theorem s131_52 {d : Nat} {ls : mj_L} {st : List Value} {M : mj_H} : mj_Rn d mj_m131 52 ls st M = mq_k0 d mj_m131 53 ls M (mj_ldi (mj_lk ls 2) st) := mj_R0 (r := (.iload_n 2, 1, 0, 0, 0)) rfl rfl
theorem s131_53 {d : Nat} {ls : mj_L} {st : List Value} {M : mj_H} : mj_Rn d mj_m131 53 ls st M = mq_k0 d mj_m131 54 ls M (mj_pu .i2l ls st) := mj_R0 (r := (.i2l, 1, 0, 0, 0)) rfl rfl
theorem s131_54 {d : Nat} {ls : mj_L} {st : List Value} {M : mj_H} : mj_Rn d mj_m131 54 ls st M = mj_Rn d mj_m131 55 ls (.int 2 :: st) M := mj_R0 (r := (.iconst 2, 1, 0, 0, 0)) rfl rfl
theorem s131_55 {d : Nat} {ls : mj_L} {st : List Value} {M : mj_H} : mj_Rn (d + 1) mj_m131 55 ls st M = mq_k5a (d + 1) mj_m131 58 ls M 10 (mq_cb 0 2 1 st M) := mj_R5e (r := (.invokevirtual 44, 3, 0, 10, 16544)) (z := mj_m10) rfl rfl (by decide) (by decide) rfl
theorem s131_58 {d : Nat} {ls : mj_L} {st : List Value} {M : mj_H} : mj_Rn d mj_m131 58 ls st M = mq_k6 M (mj_re none (.return_) st) := mj_R6 (r := (.return_, 1, 0, 0, 0)) rfl rfl
/- 132 PasskeyHouse$Bytes.text(Ljava/lang/String;)V -/
theorem s132_0 {d : Nat} {ls : mj_L} {st : List Value} {M : mj_H} : mj_Rn d mj_m132 0 ls st M = mq_k0 d mj_m132 1 ls M (mj_lda (mj_lk ls 0) st) := mj_R0 (r := (.aload_n 0, 1, 0, 0, 0)) rfl rfl
theorem s132_1 {d : Nat} {ls : mj_L} {st : List Value} {M : mj_H} : mj_Rn d mj_m132 1 ls st M = mj_Rn d mj_m132 2 ls (.int 3 :: st) M := mj_R0 (r := (.iconst 3, 1, 0, 0, 0)) rfl rfl
theorem s132_2 {d : Nat} {ls : mj_L} {st : List Value} {M : mj_H} : mj_Rn d mj_m132 2 ls st M = mq_k0 d mj_m132 3 ls M (mj_lda (mj_lk ls 1) st) := mj_R0 (r := (.aload_n 1, 1, 0, 0, 0)) rfl rfl
theorem s132_3 {d : Nat} {ls : mj_L} {st : List Value} {M : mj_H} : mj_Rn (d + 1) mj_m132 3 ls st M = mq_k5a (d + 1) mj_m132 6 ls M 92 (mq_cb 0 0 900 st M) := mj_R5e (r := (.invokevirtual 48, 3, 0, 92, 16550)) (z := mj_m92) rfl rfl (by decide) (by decide) rfl
theorem s132_6 {d : Nat} {ls : mj_L} {st : List Value} {M : mj_H} : mj_Rn (d + 1) mj_m132 6 ls st M = mq_k5a (d + 1) mj_m132 9 ls M 131 (mq_cb 0 2 1 st M) := mj_R5e (r := (.invokevirtual 54, 3, 0, 131, 16551)) (z := mj_m131) rfl rfl (by decide) (by decide) rfl
theorem s132_9 {d : Nat} {ls : mj_L} {st : List Value} {M : mj_H} : mj_Rn d mj_m132 9 ls st M = mj_Rn d mj_m132 10 ls (.int 0 :: st) M := mj_R0 (r := (.iconst 0, 1, 0, 0, 0)) rfl rfl
theorem s132_10 {d : Nat} {ls : mj_L} {st : List Value} {M : mj_H} : mj_Rn d mj_m132 10 ls st M = mq_k1 d mj_m132 11 M (mj_lo 3 (.istore 2) ls st) := (mj_R1 (r := (.istore_n 2, 1, 0, 0, 0)) rfl rfl).trans (congrArg (mq_k1 d mj_m132 11 M) (mq_sti (k := 2)))
theorem s132_11 {d : Nat} {ls : mj_L} {st : List Value} {M : mj_H} : mj_Rn d mj_m132 11 ls st M = mq_k0 d mj_m132 12 ls M (mj_ldi (mj_lk ls 2) st) := mj_R0 (r := (.iload_n 2, 1, 0, 0, 0)) rfl rfl
theorem s132_12 {d : Nat} {ls : mj_L} {st : List Value} {M : mj_H} : mj_Rn d mj_m132 12 ls st M = mq_k0 d mj_m132 13 ls M (mj_lda (mj_lk ls 1) st) := mj_R0 (r := (.aload_n 1, 1, 0, 0, 0)) rfl rfl
theorem s132_13 {d : Nat} {ls : mj_L} {st : List Value} {M : mj_H} : mj_Rn (d + 1) mj_m132 13 ls st M = mq_k5a (d + 1) mj_m132 16 ls M 92 (mq_cb 0 0 900 st M) := mj_R5e (r := (.invokevirtual 48, 3, 0, 92, 16550)) (z := mj_m92) rfl rfl (by decide) (by decide) rfl
theorem s132_16 {d : Nat} {ls : mj_L} {st : List Value} {M : mj_H} : mj_Rn d mj_m132 16 ls st M = mq_k2 d mj_m132 ls M (mj_br (.if_icmp .ge 18) 16 st) := mj_R2 (r := (.if_icmp .ge 18, 3, 0, 0, 0)) rfl rfl
theorem s132_19 {d : Nat} {ls : mj_L} {st : List Value} {M : mj_H} : mj_Rn d mj_m132 19 ls st M = mq_k0 d mj_m132 20 ls M (mj_lda (mj_lk ls 0) st) := mj_R0 (r := (.aload_n 0, 1, 0, 0, 0)) rfl rfl
theorem s132_20 {d : Nat} {ls : mj_L} {st : List Value} {M : mj_H} : mj_Rn d mj_m132 20 ls st M = mq_k0 d mj_m132 21 ls M (mj_lda (mj_lk ls 1) st) := mj_R0 (r := (.aload_n 1, 1, 0, 0, 0)) rfl rfl
theorem s132_21 {d : Nat} {ls : mj_L} {st : List Value} {M : mj_H} : mj_Rn d mj_m132 21 ls st M = mq_k0 d mj_m132 22 ls M (mj_ldi (mj_lk ls 2) st) := mj_R0 (r := (.iload_n 2, 1, 0, 0, 0)) rfl rfl
theorem s132_22 {d : Nat} {ls : mj_L} {st : List Value} {M : mj_H} : mj_Rn (d + 1) mj_m132 22 ls st M = mq_k5a (d + 1) mj_m132 25 ls M 95 (mq_cb 0 1 900 st M) := mj_R5e (r := (.invokevirtual 58, 3, 0, 95, 16552)) (z := mj_m95) rfl rfl (by decide) (by decide) rfl
theorem s132_25 {d : Nat} {ls : mj_L} {st : List Value} {M : mj_H} : mj_Rn (d + 1) mj_m132 25 ls st M = mq_k5a (d + 1) mj_m132 28 ls M 45 (mq_cb 0 1 1 st M) := mj_R5e (r := (.invokevirtual 35, 3, 0, 45, 12434)) (z := mj_m45) rfl rfl (by decide) (by decide) rfl
theorem s132_28 {d : Nat} {ls : mj_L} {st : List Value} {M : mj_H} : mj_Rn d mj_m132 28 ls st M = mq_k1 d mj_m132 31 M (mj_lo 3 (.iinc 2 1) ls st) := mj_R1 (r := (.iinc 2 1, 3, 0, 0, 0)) rfl rfl
theorem s132_31 {d : Nat} {ls : mj_L} {st : List Value} {M : mj_H} : mj_Rn d mj_m132 31 ls st M = mj_Rn d mj_m132 11 ls st M := mj_R2 (r := (.goto (-20), 3, 0, 0, 0)) rfl rfl
theorem s132_34 {d : Nat} {ls : mj_L} {st : List Value} {M : mj_H} : mj_Rn d mj_m132 34 ls st M = mq_k6 M (mj_re none (.return_) st) := mj_R6 (r := (.return_, 1, 0, 0, 0)) rfl rfl
/- 134 PasskeyHouse$Bytes.term(I)V -/
theorem s134_0 {d : Nat} {ls : mj_L} {st : List Value} {M : mj_H} : mj_Rn d mj_m134 0 ls st M = mq_k0 d mj_m134 1 ls M (mj_lda (mj_lk ls 0) st) := mj_R0 (r := (.aload_n 0, 1, 0, 0, 0)) rfl rfl
theorem s134_1 {d : Nat} {ls : mj_L} {st : List Value} {M : mj_H} : mj_Rn d mj_m134 1 ls st M = mj_Rn d mj_m134 2 ls (.int 2 :: st) M := mj_R0 (r := (.iconst 2, 1, 0, 0, 0)) rfl rfl
theorem s134_2 {d : Nat} {ls : mj_L} {st : List Value} {M : mj_H} : mj_Rn d mj_m134 2 ls st M = mj_Rn d mj_m134 3 ls (.int 4 :: st) M := mj_R0 (r := (.iconst 4, 1, 0, 0, 0)) rfl rfl
theorem s134_3 {d : Nat} {ls : mj_L} {st : List Value} {M : mj_H} : mj_Rn (d + 1) mj_m134 3 ls st M = mq_k5a (d + 1) mj_m134 6 ls M 131 (mq_cb 0 2 1 st M) := mj_R5e (r := (.invokevirtual 54, 3, 0, 131, 16551)) (z := mj_m131) rfl rfl (by decide) (by decide) rfl
theorem s134_6 {d : Nat} {ls : mj_L} {st : List Value} {M : mj_H} : mj_Rn d mj_m134 6 ls st M = mq_k0 d mj_m134 7 ls M (mj_lda (mj_lk ls 0) st) := mj_R0 (r := (.aload_n 0, 1, 0, 0, 0)) rfl rfl
theorem s134_7 {d : Nat} {ls : mj_L} {st : List Value} {M : mj_H} : mj_Rn d mj_m134 7 ls st M = mq_k0 d mj_m134 8 ls M (mj_ldi (mj_lk ls 1) st) := mj_R0 (r := (.iload_n 1, 1, 0, 0, 0)) rfl rfl
theorem s134_8 {d : Nat} {ls : mj_L} {st : List Value} {M : mj_H} : mj_Rn d mj_m134 8 ls st M = mq_k0 d mj_m134 9 ls M (mj_pu .i2l ls st) := mj_R0 (r := (.i2l, 1, 0, 0, 0)) rfl rfl
theorem s134_9 {d : Nat} {ls : mj_L} {st : List Value} {M : mj_H} : mj_Rn d mj_m134 9 ls st M = mj_Rn d mj_m134 10 ls (.int 4 :: st) M := mj_R0 (r := (.iconst 4, 1, 0, 0, 0)) rfl rfl
theorem s134_10 {d : Nat} {ls : mj_L} {st : List Value} {M : mj_H} : mj_Rn (d + 1) mj_m134 10 ls st M = mq_k5a (d + 1) mj_m134 13 ls M 10 (mq_cb 0 2 1 st M) := mj_R5e (r := (.invokevirtual 44, 3, 0, 10, 16544)) (z := mj_m10) rfl rfl (by decide) (by decide) rfl
theorem s134_13 {d : Nat} {ls : mj_L} {st : List Value} {M : mj_H} : mj_Rn d mj_m134 13 ls st M = mq_k6 M (mj_re none (.return_) st) := mj_R6 (r := (.return_, 1, 0, 0, 0)) rfl rfl
/- 39 PasskeyHouse$Bytes.refill(I)V -/
theorem s39_0 {d : Nat} {ls : mj_L} {st : List Value} {M : mj_H} : mj_Rn d mj_m39 0 ls st M = mq_k0 d mj_m39 1 ls M (mj_lda (mj_lk ls 0) st) := mj_R0 (r := (.aload_n 0, 1, 0, 0, 0)) rfl rfl
theorem s39_1 {d : Nat} {ls : mj_L} {st : List Value} {M : mj_H} : mj_Rn d mj_m39 1 ls st M = mq_k0 d mj_m39 4 ls M (mq_gf 1 0 st M) := (mj_R3 (r := (.getfield 15, 3, 1, 0, 8266)) rfl rfl).trans (congrArg (mq_k0 d mj_m39 4 ls M) mq_gf_eq)
theorem s39_4 {d : Nat} {ls : mj_L} {st : List Value} {M : mj_H} : mj_Rn d mj_m39 4 ls st M = mq_k0 d mj_m39 5 ls M (mj_ldi (mj_lk ls 1) st) := mj_R0 (r := (.iload_n 1, 1, 0, 0, 0)) rfl rfl
theorem s39_5 {d : Nat} {ls : mj_L} {st : List Value} {M : mj_H} : mj_Rn (d + 1) mj_m39 5 ls st M = mq_k5a (d + 1) mj_m39 8 ls M 40 (mq_cb 2 2 999 st M) := mj_R5e (r := (.invokestatic 25, 3, 2, 40, 8414)) (z := mj_m40) rfl rfl (by decide) (by decide) rfl
theorem s39_8 {d : Nat} {ls : mj_L} {st : List Value} {M : mj_H} : mj_Rn d mj_m39 8 ls st M = mq_k0 d mj_m39 9 ls M (mj_lda (mj_lk ls 0) st) := mj_R0 (r := (.aload_n 0, 1, 0, 0, 0)) rfl rfl
theorem s39_9 {d : Nat} {ls : mj_L} {st : List Value} {M : mj_H} : mj_Rn d mj_m39 9 ls st M = mq_k0 d mj_m39 10 ls M (mj_lda (mj_lk ls 0) st) := mj_R0 (r := (.aload_n 0, 1, 0, 0, 0)) rfl rfl
theorem s39_10 {d : Nat} {ls : mj_L} {st : List Value} {M : mj_H} : mj_Rn d mj_m39 10 ls st M = mq_k0 d mj_m39 13 ls M (mq_gf 1 0 st M) := (mj_R3 (r := (.getfield 15, 3, 1, 0, 8266)) rfl rfl).trans (congrArg (mq_k0 d mj_m39 13 ls M) mq_gf_eq)
theorem s39_13 {d : Nat} {ls : mj_L} {st : List Value} {M : mj_H} : mj_Rn d mj_m39 13 ls st M = mq_k0 d mj_m39 14 ls M (mq_len st M) := (mj_R3 (r := (.arraylength, 1, 0, 0, 0)) rfl rfl).trans (congrArg (mq_k0 d mj_m39 14 ls M) mq_len_eq)
theorem s39_14 {d : Nat} {ls : mj_L} {st : List Value} {M : mj_H} : mj_Rn d mj_m39 14 ls st M = mq_k4 d mj_m39 17 ls (mq_pf 1 1 0 st M) := (mj_R4 (r := (.putfield 21, 3, 1, 1, 8268)) rfl rfl).trans (congrArg (mq_k4 d mj_m39 17 ls) (mq_pf_eq rfl rfl))
theorem s39_17 {d : Nat} {ls : mj_L} {st : List Value} {M : mj_H} : mj_Rn d mj_m39 17 ls st M = mq_k6 M (mj_re none (.return_) st) := mj_R6 (r := (.return_, 1, 0, 0, 0)) rfl rfl
/- 40 java/util/Arrays.fill([II)V -/
theorem s40_0 {d : Nat} {ls : mj_L} {st : List Value} {M : mj_H} : mj_Rn d mj_m40 0 ls st M = mj_Rn d mj_m40 1 ls (.int 0 :: st) M := mj_R0 (r := (.iconst 0, 1, 0, 0, 0)) rfl rfl
theorem s40_1 {d : Nat} {ls : mj_L} {st : List Value} {M : mj_H} : mj_Rn d mj_m40 1 ls st M = mq_k1 d mj_m40 2 M (mj_lo 4 (.istore 2) ls st) := (mj_R1 (r := (.istore_n 2, 1, 0, 0, 0)) rfl rfl).trans (congrArg (mq_k1 d mj_m40 2 M) (mq_sti (k := 2)))
theorem s40_2 {d : Nat} {ls : mj_L} {st : List Value} {M : mj_H} : mj_Rn d mj_m40 2 ls st M = mq_k0 d mj_m40 3 ls M (mj_lda (mj_lk ls 0) st) := mj_R0 (r := (.aload_n 0, 1, 0, 0, 0)) rfl rfl
theorem s40_3 {d : Nat} {ls : mj_L} {st : List Value} {M : mj_H} : mj_Rn d mj_m40 3 ls st M = mq_k0 d mj_m40 4 ls M (mq_len st M) := (mj_R3 (r := (.arraylength, 1, 0, 0, 0)) rfl rfl).trans (congrArg (mq_k0 d mj_m40 4 ls M) mq_len_eq)
theorem s40_4 {d : Nat} {ls : mj_L} {st : List Value} {M : mj_H} : mj_Rn d mj_m40 4 ls st M = mq_k1 d mj_m40 5 M (mj_lo 4 (.istore 3) ls st) := (mj_R1 (r := (.istore_n 3, 1, 0, 0, 0)) rfl rfl).trans (congrArg (mq_k1 d mj_m40 5 M) (mq_sti (k := 3)))
theorem s40_5 {d : Nat} {ls : mj_L} {st : List Value} {M : mj_H} : mj_Rn d mj_m40 5 ls st M = mq_k0 d mj_m40 6 ls M (mj_ldi (mj_lk ls 2) st) := mj_R0 (r := (.iload_n 2, 1, 0, 0, 0)) rfl rfl
theorem s40_6 {d : Nat} {ls : mj_L} {st : List Value} {M : mj_H} : mj_Rn d mj_m40 6 ls st M = mq_k0 d mj_m40 7 ls M (mj_ldi (mj_lk ls 3) st) := mj_R0 (r := (.iload_n 3, 1, 0, 0, 0)) rfl rfl
theorem s40_7 {d : Nat} {ls : mj_L} {st : List Value} {M : mj_H} : mj_Rn d mj_m40 7 ls st M = mq_k2 d mj_m40 ls M (mj_br (.if_icmp .ge 13) 7 st) := mj_R2 (r := (.if_icmp .ge 13, 3, 0, 0, 0)) rfl rfl
theorem s40_10 {d : Nat} {ls : mj_L} {st : List Value} {M : mj_H} : mj_Rn d mj_m40 10 ls st M = mq_k0 d mj_m40 11 ls M (mj_lda (mj_lk ls 0) st) := mj_R0 (r := (.aload_n 0, 1, 0, 0, 0)) rfl rfl
theorem s40_11 {d : Nat} {ls : mj_L} {st : List Value} {M : mj_H} : mj_Rn d mj_m40 11 ls st M = mq_k0 d mj_m40 12 ls M (mj_ldi (mj_lk ls 2) st) := mj_R0 (r := (.iload_n 2, 1, 0, 0, 0)) rfl rfl
theorem s40_12 {d : Nat} {ls : mj_L} {st : List Value} {M : mj_H} : mj_Rn d mj_m40 12 ls st M = mq_k0 d mj_m40 13 ls M (mj_ldi (mj_lk ls 1) st) := mj_R0 (r := (.iload_n 1, 1, 0, 0, 0)) rfl rfl
theorem s40_13 {d : Nat} {ls : mj_L} {st : List Value} {M : mj_H} : mj_Rn d mj_m40 13 ls st M = mq_k4 d mj_m40 14 ls (mj_hw (.iastore, 1, 0, 0, 0) st M) := mj_R4 (r := (.iastore, 1, 0, 0, 0)) rfl rfl
theorem s40_14 {d : Nat} {ls : mj_L} {st : List Value} {M : mj_H} : mj_Rn d mj_m40 14 ls st M = mq_k1 d mj_m40 17 M (mj_lo 4 (.iinc 2 1) ls st) := mj_R1 (r := (.iinc 2 1, 3, 0, 0, 0)) rfl rfl
theorem s40_17 {d : Nat} {ls : mj_L} {st : List Value} {M : mj_H} : mj_Rn d mj_m40 17 ls st M = mj_Rn d mj_m40 5 ls st M := mj_R2 (r := (.goto (-12), 3, 0, 0, 0)) rfl rfl
theorem s40_20 {d : Nat} {ls : mj_L} {st : List Value} {M : mj_H} : mj_Rn d mj_m40 20 ls st M = mq_k6 M (mj_re none (.return_) st) := mj_R6 (r := (.return_, 1, 0, 0, 0)) rfl rfl
theorem c92 {d : Nat} {a0 : Nat} {M : mj_H} : mj_V (d + 1) 92 [.ref a0] M = mj_Rn d mj_m92 0 [(0, .ref a0)] [] M := mj_V_go rfl (Nat.le_of_ble_eq_true rfl)
theorem c93 {d : Nat} {a0 : Nat} {M : mj_H} : mj_V (d + 1) 93 [.ref a0] M = mj_Rn d mj_m93 0 [(0, .ref a0)] [] M := mj_V_go rfl (Nat.le_of_ble_eq_true rfl)
theorem c95 {d : Nat} {a0 : Nat} {x1 : Int32} {M : mj_H} : mj_V (d + 1) 95 [.ref a0, .int x1] M = mj_Rn d mj_m95 0 [(0, .ref a0), (1, .int x1)] [] M := mj_V_go rfl (Nat.le_of_ble_eq_true rfl)
theorem c96 {d : Nat} {a0 : Nat} {M : mj_H} : mj_V (d + 1) 96 [.ref a0] M = mj_Rn d mj_m96 0 [(0, .ref a0)] [] M := mj_V_go rfl (Nat.le_of_ble_eq_true rfl)
theorem c97 {d : Nat} {a0 : Nat} {x1 : Int32} {M : mj_H} : mj_V (d + 1) 97 [.ref a0, .int x1] M = mj_Rn d mj_m97 0 [(0, .ref a0), (1, .int x1)] [] M := mj_V_go rfl (Nat.le_of_ble_eq_true rfl)
theorem c131 {d : Nat} {a0 : Nat} {x1 : Int32} {x2 : Int32} {M : mj_H} : mj_V (d + 1) 131 [.ref a0, .int x1, .int x2] M = mj_Rn d mj_m131 0 [(0, .ref a0), (1, .int x1), (2, .int x2)] [] M := mj_V_go rfl (Nat.le_of_ble_eq_true rfl)
theorem c132 {d : Nat} {a0 : Nat} {a1 : Nat} {M : mj_H} : mj_V (d + 1) 132 [.ref a0, .ref a1] M = mj_Rn d mj_m132 0 [(0, .ref a0), (1, .ref a1)] [] M := mj_V_go rfl (Nat.le_of_ble_eq_true rfl)
theorem c134 {d : Nat} {a0 : Nat} {x1 : Int32} {M : mj_H} : mj_V (d + 1) 134 [.ref a0, .int x1] M = mj_Rn d mj_m134 0 [(0, .ref a0), (1, .int x1)] [] M := mj_V_go rfl (Nat.le_of_ble_eq_true rfl)
theorem c39 {d : Nat} {a0 : Nat} {x1 : Int32} {M : mj_H} : mj_V (d + 1) 39 [.ref a0, .int x1] M = mj_Rn d mj_m39 0 [(0, .ref a0), (1, .int x1)] [] M := mj_V_go rfl (Nat.le_of_ble_eq_true rfl)
theorem c40 {d : Nat} {a0 : Nat} {x1 : Int32} {M : mj_H} : mj_V (d + 1) 40 [.ref a0, .int x1] M = mj_Rn d mj_m40 0 [(0, .ref a0), (1, .int x1)] [] M := mj_V_go rfl (Nat.le_of_ble_eq_true rfl)
theorem by_and {x : Int32} : ∃ n : Nat, n < 256 ∧ x &&& 255 = nI n := by
  refine ⟨x.toBitVec.toNat % 256, Nat.mod_lt _ (by decide), ?_⟩
  apply Int32.toBitVec_inj.mp
  apply BitVec.eq_of_toNat_eq
  simp [nI]
  rw [Nat.mod_eq_of_lt (a := x.toBitVec.toNat % 256) (by omega)]
  exact Nat.and_two_pow_sub_one_eq_mod (n := 8) ..
theorem by_nI {v : Int32} (h : v &&& 255 = v) : ∃ n : Nat, n < 256 ∧ v = nI n := by
  obtain ⟨n, h1, h2⟩ := by_and (x := v)
  exact ⟨n, h1, by rw [← h2, h]⟩
theorem by_char : ∀ n : Nat, n < 256 → ((nI n).toUInt32 % 65536).toInt32 = nI n ∧ narrow .char (.int (nI n)) = .int (nI n) := by decide +kernel
/-- a string's cell and its bytes -/
def sg (M : mj_H) (a : Nat) (bs : List Int32) : Prop := (M[a]? = some (900, [.ref (a + 1), .int 0])) ∧ (M[a + 1]? = some (1001, bs.map Value.int)) ∧ (bs.length < 100) ∧ (∀ v ∈ bs, v &&& 255 = v)
theorem sg.ob {M : mj_H} {a : Nat} {bs : List Int32} (hh_ : sg M a bs) : M[a]? = some (900, [.ref (a + 1), .int 0]) := hh_.1
theorem sg.vs {M : mj_H} {a : Nat} {bs : List Int32} (hh_ : sg M a bs) : M[a + 1]? = some (1001, bs.map Value.int) := hh_.2.1
theorem sg.sh {M : mj_H} {a : Nat} {bs : List Int32} (hh_ : sg M a bs) : bs.length < 100 := hh_.2.2.1
theorem sg.by8 {M : mj_H} {a : Nat} {bs : List Int32} (hh_ : sg M a bs) : ∀ v ∈ bs, v &&& 255 = v := hh_.2.2.2
theorem sg_mk_ {M : mj_H} {a : Nat} {bs : List Int32} (f_0_ : M[a]? = some (900, [.ref (a + 1), .int 0])) (f_1_ : M[a + 1]? = some (1001, bs.map Value.int)) (f_2_ : bs.length < 100) (f_3_ : ∀ v ∈ bs, v &&& 255 = v) : sg M a bs := And.intro f_0_ (And.intro f_1_ (And.intro f_2_ f_3_))
theorem sg.fr {M M' : mj_H} {a : Nat} {bs : List Int32} (h : sg M a bs) (h1 : M'[a]? = M[a]?) (h2 : M'[a + 1]? = M[a + 1]?) : sg M' a bs := (sg_mk_ (h1.trans h.ob) (h2.trans h.vs) h.sh h.by8)
theorem v_coder {d a : Nat} {bs : List Int32} {M : mj_H} (h : sg M a bs) : mj_V (d + 1) 93 [.ref a] M = some (some (.int 0), M) := by
  simp [c93, s93_0, s93_3, s93_6, s93_7, s93_10, s93_13, s93_14, mq_k0s, mq_k1s, mq_k2s, mq_k4s, mq_k5s, mq_k5n, mq_k5as, mq_k6s, mj_pu, mj_lo, mj_br, mj_hr, mj_hw, mq_gf, mq_len, mq_al, mq_pf, mq_ok, mj_re, mj_lk, mj_ldi, mj_ldl, mj_lda, mj_ii, mj_ll, mj_li, mj_i1, mj_s1, mj_s2, mj_tg, mj_c1, mj_c2, mj_ar, mj_aw, mq_cb, mq_oi, mj_rm, Value.category, h.ob, narrow]
theorem v_length {d a : Nat} {bs : List Int32} {M : mj_H} (h : sg M a bs) : mj_V (d + 2) 92 [.ref a] M = some (some (.int (nI bs.length)), M) := by
  have hc := v_coder (d := d) h
  have e : (bs.map Value.int).length = bs.length := List.length_map ..
  have e2 : nI bs.length >>> (0 : Int32) = nI bs.length := by
    apply Int32.toBitVec_inj.mp; simp
  have hs := h.sh
  have hv := h.vs
  generalize bs.map Value.int = zs at *
  simp [c92, s92_0, s92_1, s92_4, s92_5, s92_6, s92_9, s92_10, mq_k0s, mq_k1s, mq_k2s, mq_k4s, mq_k5s, mq_k5n, mq_k5as, mq_k6s, mj_pu, mj_lo, mj_br, mj_hr, mj_hw, mq_gf, mq_len, mq_al, mq_pf, mq_ok, mj_re, mj_lk, mj_ldi, mj_ldl, mj_lda, mj_ii, mj_ll, mj_li, mj_i1, mj_s1, mj_s2, mj_tg, mj_c1, mj_c2, mj_ar, mj_aw, mq_cb, mq_oi, mj_rm, Value.category, h.ob, hv, hc, e, nI_num, e2, narrow]
theorem v_isLatin1 {d a : Nat} {bs : List Int32} {M : mj_H} (h : sg M a bs) : mj_V (d + 1) 96 [.ref a] M = some (some (.int 1), M) := by
  simp [c96, s96_0, s96_3, s96_6, s96_7, s96_10, s96_13, s96_14, s96_17, s96_18, mq_k0s, mq_k1s, mq_k2s, mq_k4s, mq_k5s, mq_k5n, mq_k5as, mq_k6s, mj_pu, mj_lo, mj_br, mj_hr, mj_hw, mq_gf, mq_len, mq_al, mq_pf, mq_ok, mj_re, mj_lk, mj_ldi, mj_ldl, mj_lda, mj_ii, mj_ll, mj_li, mj_i1, mj_s1, mj_s2, mj_tg, mj_c1, mj_c2, mj_ar, mj_aw, mq_cb, mq_oi, mj_rm, Value.category, h.ob, narrow_b1]
theorem v_charAt {d a i : Nat} {bs : List Int32} {M : mj_H} (h : sg M a bs) (hi : i < bs.length) : mj_V (d + 4) 95 [.ref a, .int (nI i)] M = some (some (.int bs[i]), M) := by
  have hl := v_isLatin1 (d := d + 2) h
  have hs := h.sh
  have hv := h.vs
  have e : (bs.map Value.int).length = bs.length := List.length_map ..
  have b1 : (bs.map Value.int)[i]? = some (.int bs[i]) := by rw [List.getElem?_map, List.getElem?_eq_getElem hi]; rfl
  have hb := h.by8 _ (List.getElem_mem hi)
  obtain ⟨n, hn, hu⟩ := by_nI hb
  have hc := by_char n hn
  rw [hu] at hb b1 ⊢
  generalize bs.map Value.int = zs at *
  have h98 : mj_V (d + 2) 98 [.int (nI i), .int (nI bs.length)] M = some (none, M) := mj_V_98 (nI_pos (by omega)) (nI_lt hi (by omega))
  have h97 : mj_V (d + 3) 97 [.ref (a + 1), .int (nI i)] M = some (some (.int (nI n)), M) := by
    simp (disch := (first | omega | decide)) [c97, s97_0, s97_1, s97_2, s97_3, s97_6, s97_7, s97_8, s97_9, s97_12, s97_13, s97_14, mq_k0s, mq_k1s, mq_k2s, mq_k4s, mq_k5s, mq_k5n, mq_k5as, mq_k6s, mj_pu, mj_lo, mj_br, mj_hr, mj_hw, mq_gf, mq_len, mq_al, mq_pf, mq_ok, mj_re, mq_lkm, mq_lkn, mj_ldi, mj_ldl, mj_lda, mj_ii, mj_ll, mj_li, mj_i1, ms_1, ms_2, f1_n, f1_i, f1_r, f1_u, f1_l, f2_n, f2_i, f2_r, f2_u, f2_l, mj_tg, mj_c1, mj_c2, mj_ar, mj_aw, mq_cb, mq_oi, mj_rm, Value.category, -getElem?_pos, List.getElem?_cons_zero, decide_eq_true, decide_eq_false, nl_lt, nl_le, ln_lt, ln_le, nl_eq, ln_eq, nl_add, ln_add, nl_sub, ln_mul, nI_sub, nI_mul, nI_add, nI_lt_iff, nI_le_iff, nI_inj, nI_num, mq_ix, nI_1, hv, e, h98, b1, hb, hc.1, hc.2]
  simp (disch := (first | omega | decide)) [c95, s95_0, s95_1, s95_4, s95_7, s95_8, s95_11, s95_12, s95_15, s95_16, s95_17, s95_20, s95_21, s95_24, mq_k0s, mq_k1s, mq_k2s, mq_k4s, mq_k5s, mq_k5n, mq_k5as, mq_k6s, mj_pu, mj_lo, mj_br, mj_hr, mj_hw, mq_gf, mq_len, mq_al, mq_pf, mq_ok, mj_re, mq_lkm, mq_lkn, mj_ldi, mj_ldl, mj_lda, mj_ii, mj_ll, mj_li, mj_i1, ms_1, ms_2, f1_n, f1_i, f1_r, f1_u, f1_l, f2_n, f2_i, f2_r, f2_u, f2_l, mj_tg, mj_c1, mj_c2, mj_ar, mj_aw, mq_cb, mq_oi, mj_rm, Value.category, -getElem?_pos, List.getElem?_cons_zero, decide_eq_true, decide_eq_false, nl_lt, nl_le, ln_lt, ln_le, nl_eq, ln_eq, nl_add, ln_add, nl_sub, ln_mul, nI_sub, nI_mul, nI_add, nI_lt_iff, nI_le_iff, nI_inj, nI_num, mq_ix, nI_1, h.ob, hl, h97, hc.2]
/-- a head's bytes -/
def bt_hd (s n : Int32) : List Int32 := if n < 24 then [((s <<< (5 : Int32)) ||| n) &&& 255] else if n < 256 then [((s <<< (5 : Int32)) ||| 24) &&& 255, n &&& 255] else (((s <<< (5 : Int32)) ||| 25) &&& 255) :: bt_low n.toInt64 2
theorem and531 : (5 : Int32) &&& 31 = 5 := by decide
theorem v_head {d a b cap : Nat} {xs : List Int32} {M : mj_H} (h : bb M a b cap xs) (s n : Int32) : ∃ M', mj_V (d + 2) 131 [.ref a, .int s, .int n] M = some (none, M') ∧ bb M' a b cap (bt_app cap xs (bt_hd s n)) ∧ mq_fr [a, b] M M' := by
  have hle : ∀ x : Int32, (x ≤ n) ↔ ¬ n < x := by intro x; rw [Int32.lt_iff_toInt_lt, Int32.le_iff_toInt_le]; omega
  have a1 := h.2.2.2.2.2.1
  unfold bt_hd
  by_cases h1 : n < 24
  · rw [if_pos h1]
    obtain ⟨M1, p1, r1, f1⟩ := v_push (d := d) h ((s <<< (5 : Int32)) ||| n)
    refine ⟨M1, ?_, r1, f1⟩
    simp [c131, s131_0, s131_1, s131_2, s131_3, s131_4, s131_5, s131_7, s131_10, s131_11, s131_12, s131_13, s131_14, s131_17, s131_20, s131_21, s131_24, s131_27, s131_28, s131_29, s131_31, s131_32, s131_35, s131_36, s131_37, s131_40, s131_43, s131_44, s131_45, s131_47, s131_48, s131_51, s131_52, s131_53, s131_54, s131_55, s131_58, mq_k0s, mq_k1s, mq_k2s, mq_k4s, mq_k5s, mq_k5n, mq_k5as, mq_k6s, mj_pu, mj_lo, mj_br, mj_hr, mj_hw, mq_gf, mq_len, mq_al, mq_pf, mq_ok, mj_re, mj_lk, mj_ldi, mj_ldl, mj_lda, mj_ii, mj_ll, mj_li, mj_i1, mj_s1, mj_s2, mj_tg, mj_c1, mj_c2, mj_ar, mj_aw, mq_cb, mq_oi, mj_rm, Value.category, and531, hle, h1, a1, p1]
  · rw [if_neg h1]
    by_cases h2 : n < 256
    · rw [if_pos h2]
      obtain ⟨M1, p1, r1, f1⟩ := v_push (d := d) h ((s <<< (5 : Int32)) ||| 24)
      obtain ⟨M2, p2, r2, f2⟩ := v_push (d := d) r1 n
      have a2 := r1.2.2.2.2.2.1
      refine ⟨M2, ?_, by rw [bt_app_app] at r2; exact r2, f1.tr f2⟩
      simp [c131, s131_0, s131_1, s131_2, s131_3, s131_4, s131_5, s131_7, s131_10, s131_11, s131_12, s131_13, s131_14, s131_17, s131_20, s131_21, s131_24, s131_27, s131_28, s131_29, s131_31, s131_32, s131_35, s131_36, s131_37, s131_40, s131_43, s131_44, s131_45, s131_47, s131_48, s131_51, s131_52, s131_53, s131_54, s131_55, s131_58, mq_k0s, mq_k1s, mq_k2s, mq_k4s, mq_k5s, mq_k5n, mq_k5as, mq_k6s, mj_pu, mj_lo, mj_br, mj_hr, mj_hw, mq_gf, mq_len, mq_al, mq_pf, mq_ok, mj_re, mj_lk, mj_ldi, mj_ldl, mj_lda, mj_ii, mj_ll, mj_li, mj_i1, mj_s1, mj_s2, mj_tg, mj_c1, mj_c2, mj_ar, mj_aw, mq_cb, mq_oi, mj_rm, Value.category, and531, hle, h1, h2, a1, a2, p1, p2]
    · rw [if_neg h2]
      obtain ⟨M1, p1, r1, f1⟩ := v_push (d := d) h ((s <<< (5 : Int32)) ||| 25)
      obtain ⟨M2, p2, r2, f2⟩ := v_pushLow (d := d) (w := n.toInt64) (m := 2) (by decide) r1
      have a2 := r1.2.2.2.2.2.1
      refine ⟨M2, ?_, by rw [bt_app_app] at r2; exact r2, f1.tr f2⟩
      rw [show nI 2 = 2 from rfl] at p2
      simp [c131, s131_0, s131_1, s131_2, s131_3, s131_4, s131_5, s131_7, s131_10, s131_11, s131_12, s131_13, s131_14, s131_17, s131_20, s131_21, s131_24, s131_27, s131_28, s131_29, s131_31, s131_32, s131_35, s131_36, s131_37, s131_40, s131_43, s131_44, s131_45, s131_47, s131_48, s131_51, s131_52, s131_53, s131_54, s131_55, s131_58, mq_k0s, mq_k1s, mq_k2s, mq_k4s, mq_k5s, mq_k5n, mq_k5as, mq_k6s, mj_pu, mj_lo, mj_br, mj_hr, mj_hw, mq_gf, mq_len, mq_al, mq_pf, mq_ok, mj_re, mj_lk, mj_ldi, mj_ldl, mj_lda, mj_ii, mj_ll, mj_li, mj_i1, mj_s1, mj_s2, mj_tg, mj_c1, mj_c2, mj_ar, mj_aw, mq_cb, mq_oi, mj_rm, Value.category, and531, hle, h1, h2, a1, a2, p1, p2]
theorem v_term {d a b cap : Nat} {xs : List Int32} {M : mj_H} (h : bb M a b cap xs) (t : Int32) : ∃ M', mj_V (d + 3) 134 [.ref a, .int t] M = some (none, M') ∧ bb M' a b cap (bt_app cap xs (68 :: bt_low t.toInt64 4)) ∧ mq_fr [a, b] M M' := by
  obtain ⟨M1, p1, r1, f1⟩ := v_head (d := d) h 2 4
  obtain ⟨M2, p2, r2, f2⟩ := v_pushLow (d := d + 1) (w := t.toInt64) (m := 4) (by decide) r1
  have a1 := h.2.2.2.2.2.1
  have a2 := r1.2.2.2.2.2.1
  refine ⟨M2, ?_, by rw [bt_app_app] at r2; exact r2, f1.tr f2⟩
  rw [show nI 4 = 4 from rfl] at p2
  simp [c134, s134_0, s134_1, s134_2, s134_3, s134_6, s134_7, s134_8, s134_9, s134_10, s134_13, mq_k0s, mq_k1s, mq_k2s, mq_k4s, mq_k5s, mq_k5n, mq_k5as, mq_k6s, mj_pu, mj_lo, mj_br, mj_hr, mj_hw, mq_gf, mq_len, mq_al, mq_pf, mq_ok, mj_re, mj_lk, mj_ldi, mj_ldl, mj_lda, mj_ii, mj_ll, mj_li, mj_i1, mj_s1, mj_s2, mj_tg, mj_c1, mj_c2, mj_ar, mj_aw, mq_cb, mq_oi, mj_rm, Value.category, a1, a2, p1, p2]
theorem l_text {d a b cap s : Nat} {bs : List Int32} (hs : s ≠ a ∧ s ≠ b ∧ s + 1 ≠ a ∧ s + 1 ≠ b) : ∀ (m j : Nat) (xs : List Int32) (M : mj_H), j + m = bs.length → bb M a b cap xs → sg M s bs → ∃ M', mj_Rn (d + 4) mj_m132 11 [(2, .int (nI j)), (0, .ref a), (1, .ref s)] [] M = some (none, M') ∧ bb M' a b cap (bt_app cap xs (bs.drop j)) ∧ mq_fr [a, b] M M' := by
  intro m
  induction m with
  | zero =>
    intro j xs M hj h hg
    have hsh := hg.sh
    have hl := v_length (d := d + 2) hg
    refine ⟨M, ?_, by rw [List.drop_eq_nil_of_le (by omega), bt_app_nil h.len]; exact h, mq_fr.rf⟩
    simp (disch := (first | omega | decide)) [s132_0, s132_1, s132_2, s132_3, s132_6, s132_9, s132_10, s132_11, s132_12, s132_13, s132_16, s132_19, s132_20, s132_21, s132_22, s132_25, s132_28, s132_31, s132_34, mq_k0s, mq_k1s, mq_k2s, mq_k4s, mq_k5s, mq_k5n, mq_k5as, mq_k6s, mj_pu, mj_lo, mj_br, mj_hr, mj_hw, mq_gf, mq_len, mq_al, mq_pf, mq_ok, mj_re, mq_lkm, mq_lkn, mj_ldi, mj_ldl, mj_lda, mj_ii, mj_ll, mj_li, mj_i1, ms_1, ms_2, f1_n, f1_i, f1_r, f1_u, f1_l, f2_n, f2_i, f2_r, f2_u, f2_l, mj_tg, mj_c1, mj_c2, mj_ar, mj_aw, mq_cb, mq_oi, mj_rm, Value.category, -getElem?_pos, List.getElem?_cons_zero, decide_eq_true, decide_eq_false, nl_lt, nl_le, ln_lt, ln_le, nl_eq, ln_eq, nl_add, ln_add, nl_sub, ln_mul, nI_sub, nI_mul, nI_add, nI_lt_iff, nI_le_iff, nI_inj, nI_num, mq_ix, nI_1, hg.ob, hl]
  | succ m ih =>
    intro j xs M hj h hg
    have hsh := hg.sh
    have hjl : j < bs.length := by omega
    have hl := v_length (d := d + 2) hg
    have hc := v_charAt (d := d) hg hjl
    have h8 := hg.by8 _ (List.getElem_mem hjl)
    obtain ⟨M1, p1, r1, f1⟩ := v_push (d := d + 3) h bs[j]
    rw [h8] at r1
    have hg1 : sg M1 s bs := hg.fr (f1.2 _ (by simp [hs])) (f1.2 _ (by simp [hs]))
    obtain ⟨M2, p2, r2, f2⟩ := ih (j + 1) _ M1 (by omega) r1 hg1
    have a1 := h.2.2.2.2.2.1
    refine ⟨M2, ?_, by rw [bt_app_app] at r2; rw [List.drop_eq_getElem_cons hjl]; exact r2, f1.tr f2⟩
    generalize bs[j] = u at *
    rw [s132_11]
    simp (disch := (first | omega | decide)) [s132_0, s132_1, s132_2, s132_3, s132_6, s132_9, s132_10, s132_12, s132_13, s132_16, s132_19, s132_20, s132_21, s132_22, s132_25, s132_28, s132_31, s132_34, mq_k0s, mq_k1s, mq_k2s, mq_k4s, mq_k5s, mq_k5n, mq_k5as, mq_k6s, mj_pu, mj_lo, mj_br, mj_hr, mj_hw, mq_gf, mq_len, mq_al, mq_pf, mq_ok, mj_re, mq_lkm, mq_lkn, mj_ldi, mj_ldl, mj_lda, mj_ii, mj_ll, mj_li, mj_i1, ms_1, ms_2, f1_n, f1_i, f1_r, f1_u, f1_l, f2_n, f2_i, f2_r, f2_u, f2_l, mj_tg, mj_c1, mj_c2, mj_ar, mj_aw, mq_cb, mq_oi, mj_rm, Value.category, -getElem?_pos, List.getElem?_cons_zero, decide_eq_true, decide_eq_false, nl_lt, nl_le, ln_lt, ln_le, nl_eq, ln_eq, nl_add, ln_add, nl_sub, ln_mul, nI_sub, nI_mul, nI_add, nI_lt_iff, nI_le_iff, nI_inj, nI_num, mq_ix, nI_1, hg.ob, hl, hc, a1, p1]
    exact p2
theorem v_text {d a b cap s : Nat} {bs xs : List Int32} {M : mj_H} (h : bb M a b cap xs) (hg : sg M s bs) (hs : s ≠ a ∧ s ≠ b ∧ s + 1 ≠ a ∧ s + 1 ≠ b) : ∃ M', mj_V (d + 5) 132 [.ref a, .ref s] M = some (none, M') ∧ bb M' a b cap (bt_app cap xs (bt_hd 3 (nI bs.length) ++ bs)) ∧ mq_fr [a, b] M M' := by
  have hl := v_length (d := d + 2) hg
  have a1 := h.2.2.2.2.2.1
  obtain ⟨M1, p1, r1, f1⟩ := v_head (d := d + 2) h 3 (nI bs.length)
  have hg1 : sg M1 s bs := hg.fr (f1.2 _ (by simp [hs])) (f1.2 _ (by simp [hs]))
  obtain ⟨M2, p2, r2, f2⟩ := l_text (d := d) hs bs.length 0 _ M1 (by omega) r1 hg1
  refine ⟨M2, ?_, by rw [bt_app_app] at r2; simpa using r2, f1.tr f2⟩
  rw [nI_0] at p2
  simp (disch := (first | omega | decide)) [c132, s132_0, s132_1, s132_2, s132_3, s132_6, s132_9, s132_10, s132_12, s132_13, s132_16, s132_19, s132_20, s132_21, s132_22, s132_25, s132_28, s132_31, s132_34, mq_k0s, mq_k1s, mq_k2s, mq_k4s, mq_k5s, mq_k5n, mq_k5as, mq_k6s, mj_pu, mj_lo, mj_br, mj_hr, mj_hw, mq_gf, mq_len, mq_al, mq_pf, mq_ok, mj_re, mq_lkm, mq_lkn, mj_ldi, mj_ldl, mj_lda, mj_ii, mj_ll, mj_li, mj_i1, ms_1, ms_2, f1_n, f1_i, f1_r, f1_u, f1_l, f2_n, f2_i, f2_r, f2_u, f2_l, mj_tg, mj_c1, mj_c2, mj_ar, mj_aw, mq_cb, mq_oi, mj_rm, Value.category, -getElem?_pos, List.getElem?_cons_zero, decide_eq_true, decide_eq_false, nl_lt, nl_le, ln_lt, ln_le, nl_eq, ln_eq, nl_add, ln_add, nl_sub, ln_mul, nI_sub, nI_mul, nI_add, nI_lt_iff, nI_le_iff, nI_inj, nI_num, mq_ix, nI_1, hg.ob, hl, a1, p1]
  exact p2
theorem l_fill {d b : Nat} {v : Int32} {n : Nat} (hb : mj_E ≤ b) (hn : n < 2 ^ 31) : ∀ (m j : Nat) (xs : List Int32) (M : mj_H), j + m = n → xs.length = n → M[b]? = some (1000, xs.map Value.int) → ∃ M', mj_Rn d mj_m40 5 [(2, .int (nI j)), (3, .int (nI n)), (0, .ref b), (1, .int v)] [] M = some (none, M') ∧ M'[b]? = some (1000, (xs.take j ++ List.replicate m v).map Value.int) ∧ mq_fr [b] M M' := by
  intro m
  induction m with
  | zero =>
    intro j xs M hj hx h
    refine ⟨M, ?_, by rw [List.take_of_length_le (by omega)]; simpa using h, mq_fr.rf⟩
    simp (disch := (first | omega | decide)) [s40_0, s40_1, s40_2, s40_3, s40_4, s40_5, s40_6, s40_7, s40_10, s40_11, s40_12, s40_13, s40_14, s40_17, s40_20, mq_k0s, mq_k1s, mq_k2s, mq_k4s, mq_k5s, mq_k5n, mq_k5as, mq_k6s, mj_pu, mj_lo, mj_br, mj_hr, mj_hw, mq_gf, mq_len, mq_al, mq_pf, mq_ok, mj_re, mq_lkm, mq_lkn, mj_ldi, mj_ldl, mj_lda, mj_ii, mj_ll, mj_li, mj_i1, ms_1, ms_2, f1_n, f1_i, f1_r, f1_u, f1_l, f2_n, f2_i, f2_r, f2_u, f2_l, mj_tg, mj_c1, mj_c2, mj_ar, mj_aw, mq_cb, mq_oi, mj_rm, Value.category, -getElem?_pos, List.getElem?_cons_zero, decide_eq_true, decide_eq_false, nl_lt, nl_le, ln_lt, ln_le, nl_eq, ln_eq, nl_add, ln_add, nl_sub, ln_mul, nI_sub, nI_mul, nI_add, nI_lt_iff, nI_le_iff, nI_inj, nI_num, mq_ix, nI_1]
  | succ m ih =>
    intro j xs M hj hx h
    have e1 : (xs.map Value.int).length = n := by rw [List.length_map, hx]
    have e2 : (xs.map Value.int).set j (.int v) = (xs.set j v).map Value.int := by rw [List.map_set]
    obtain ⟨M', p1, r1, f1⟩ := ih (j + 1) (xs.set j v) (M.set b (1000, (xs.set j v).map Value.int)) (by omega) (by simpa using hx) (List.getElem?_set_self (mq_lt h))
    refine ⟨M', ?_, ?_, (mq_fr.rf.set (by simp)).tr f1⟩
    · rw [← e2] at p1
      generalize xs.map Value.int = zs at *
      rw [s40_5]
      simp (disch := (first | omega | decide)) [s40_0, s40_1, s40_2, s40_3, s40_4, s40_6, s40_7, s40_10, s40_11, s40_12, s40_13, s40_14, s40_17, s40_20, mq_k0s, mq_k1s, mq_k2s, mq_k4s, mq_k5s, mq_k5n, mq_k5as, mq_k6s, mj_pu, mj_lo, mj_br, mj_hr, mj_hw, mq_gf, mq_len, mq_al, mq_pf, mq_ok, mj_re, mq_lkm, mq_lkn, mj_ldi, mj_ldl, mj_lda, mj_ii, mj_ll, mj_li, mj_i1, ms_1, ms_2, f1_n, f1_i, f1_r, f1_u, f1_l, f2_n, f2_i, f2_r, f2_u, f2_l, mj_tg, mj_c1, mj_c2, mj_ar, mj_aw, mq_cb, mq_oi, mj_rm, Value.category, -getElem?_pos, List.getElem?_cons_zero, decide_eq_true, decide_eq_false, nl_lt, nl_le, ln_lt, ln_le, nl_eq, ln_eq, nl_add, ln_add, nl_sub, ln_mul, nI_sub, nI_mul, nI_add, nI_lt_iff, nI_le_iff, nI_inj, nI_num, mq_ix, nI_1, h, e1, Nat.not_lt.mpr hb]
      refine mq_wk ?_ p1
      simp [mq_sub, mj_lk]
    · rw [r1]
      have hjx : j < xs.length := by omega
      have : (xs.set j v).take (j + 1) ++ List.replicate m v = xs.take j ++ List.replicate (m + 1) v := by
        rw [List.take_succ_eq_append_getElem (by simpa using hjx), List.append_assoc]
        simp [List.replicate_succ, List.take_set_of_le]
      rw [this]
theorem v_refill {d a b cap : Nat} {xs : List Int32} {M : mj_H} (h : bb M a b cap xs) (v : Int32) (hv : v &&& 255 = v) : ∃ M', mj_V (d + 2) 39 [.ref a, .int v] M = some (none, M') ∧ bb M' a b cap (List.replicate cap v) ∧ mq_fr [a, b] M M' := by
  obtain ⟨ha, hb, hab, hcap, h8, h1, g, h2, hg⟩ := id h
  obtain ⟨M1, p1, r1, f1⟩ := l_fill (d := d) (v := v) hb hcap cap 0 (xs ++ g) M (by omega) hg h2
  have e1 : ((xs ++ g).map Value.int).length = cap := by rw [List.length_map, hg]
  have q0 : mj_V (d + 1) 40 [.ref b, .int v] M = some (none, M1) := by
    rw [nI_0] at p1
    generalize (xs ++ g).map Value.int = zs at *
    simp (disch := (first | omega | decide)) [c40, s40_0, s40_1, s40_2, s40_3, s40_4, s40_6, s40_7, s40_10, s40_11, s40_12, s40_13, s40_14, s40_17, s40_20, mq_k0s, mq_k1s, mq_k2s, mq_k4s, mq_k5s, mq_k5n, mq_k5as, mq_k6s, mj_pu, mj_lo, mj_br, mj_hr, mj_hw, mq_gf, mq_len, mq_al, mq_pf, mq_ok, mj_re, mq_lkm, mq_lkn, mj_ldi, mj_ldl, mj_lda, mj_ii, mj_ll, mj_li, mj_i1, ms_1, ms_2, f1_n, f1_i, f1_r, f1_u, f1_l, f2_n, f2_i, f2_r, f2_u, f2_l, mj_tg, mj_c1, mj_c2, mj_ar, mj_aw, mq_cb, mq_oi, mj_rm, Value.category, -getElem?_pos, List.getElem?_cons_zero, decide_eq_true, decide_eq_false, nl_lt, nl_le, ln_lt, ln_le, nl_eq, ln_eq, nl_add, ln_add, nl_sub, ln_mul, nI_sub, nI_mul, nI_add, nI_lt_iff, nI_le_iff, nI_inj, nI_num, mq_ix, nI_1, h2, e1]
    refine mq_wk ?_ p1
    simp [mq_sub, mj_lk]
  have a1 : M1[a]? = some (1, [.ref b, .int (nI xs.length)]) := by rw [f1.2 a (by simp [hab])]; exact h1
  simp only [List.take_zero, List.nil_append] at r1
  have e2 : ((List.replicate cap v).map Value.int).length = cap := by simp
  refine ⟨M1.set a (1, [.ref b, .int (nI cap)]), ?_, ⟨ha, hb, hab, hcap, ?_, ?_, [], ?_, by simp⟩, (f1.mono (by simp)).set (by simp)⟩
  · generalize (List.replicate cap v).map Value.int = zs at *
    simp (disch := (first | omega | decide)) [c39, s39_0, s39_1, s39_4, s39_5, s39_8, s39_9, s39_10, s39_13, s39_14, s39_17, mq_k0s, mq_k1s, mq_k2s, mq_k4s, mq_k5s, mq_k5n, mq_k5as, mq_k6s, mj_pu, mj_lo, mj_br, mj_hr, mj_hw, mq_gf, mq_len, mq_al, mq_pf, mq_ok, mj_re, mq_lkm, mq_lkn, mj_ldi, mj_ldl, mj_lda, mj_ii, mj_ll, mj_li, mj_i1, ms_1, ms_2, f1_n, f1_i, f1_r, f1_u, f1_l, f2_n, f2_i, f2_r, f2_u, f2_l, mj_tg, mj_c1, mj_c2, mj_ar, mj_aw, mq_cb, mq_oi, mj_rm, Value.category, -getElem?_pos, List.getElem?_cons_zero, decide_eq_true, decide_eq_false, nl_lt, nl_le, ln_lt, ln_le, nl_eq, ln_eq, nl_add, ln_add, nl_sub, ln_mul, nI_sub, nI_mul, nI_add, nI_lt_iff, nI_le_iff, nI_inj, nI_num, mq_ix, nI_1, h1, q0, a1, r1, e2, Nat.not_lt.mpr ha]
  · intro w hw; rw [List.eq_of_mem_replicate hw]; exact hv
  · rw [List.getElem?_set_self (mq_lt a1)]; simp
  · rw [List.getElem?_set_ne hab]; simpa using r1
end
/- 60.cbor -/
section
set_option maxRecDepth 512
/-! CBOR, by places in a message. -/
def bn (l : List Int32) : Nat := l.foldl (fun a v => 256 * a + v.toNatClampNeg) 0
def cbB (ms : List Int32) (p : Nat) : Nat := (ms.getD p 0).toNatClampNeg
def cbN (x : Nat) : Nat := if x < 24 then 0 else if x = 24 then 1 else if x = 25 then 2 else 4
/-- the sort, the number, and the place behind the head of what begins at p -/
def cbS (ms : List Int32) (p : Nat) : Nat := cbB ms p / 32
def cbX (ms : List Int32) (p : Nat) : Nat := cbB ms p % 32
def cbV (ms : List Int32) (p : Nat) : Nat := if cbX ms p < 24 then cbX ms p else bn ((ms.drop (p + 1)).take (cbN (cbX ms p)))
def cbC (ms : List Int32) (p : Nat) : Nat := p + 1 + cbN (cbX ms p)
abbrev cbOk (ms : List Int32) (p : Nat) : Prop := p < ms.length ∧ cbS ms p ≠ 6 ∧ cbX ms p ≤ 26 ∧ cbC ms p ≤ ms.length ∧ (cbX ms p < 24 ∨ (cbX ms p = 24 ∧ 24 ≤ cbV ms p) ∨ (cbX ms p = 25 ∧ 256 ≤ cbV ms p) ∨ (cbX ms p = 26 ∧ 65536 ≤ cbV ms p)) ∧ cbV ms p < 2 ^ 31 ∧ (cbS ms p = 7 → cbV ms p = 20 ∨ cbV ms p = 21) ∧ (cbS ms p = 2 ∨ cbS ms p = 3 → cbC ms p + cbV ms p ≤ ms.length)
/-- m bytes at a are less than those at b -/
def cbLx (ms : List Int32) : Nat → Nat → Nat → Bool
  | _, _, 0 => false
  | a, b, m + 1 => if cbB ms a = cbB ms b then cbLx ms (a + 1) (b + 1) m else decide (cbB ms a < cbB ms b)
/-- a key that lies in a .. ea may come before one in b .. eb -/
def cbLt (ms : List Int32) (a ea b eb : Nat) : Bool := if cbS ms a ≠ cbS ms b then decide (cbS ms a < cbS ms b) else if ea - a ≠ eb - b then decide (ea - a < eb - b) else cbLx ms a b (eb - b)
def cbKy (ms : List Int32) (k : Option (Nat × Nat)) (p q : Nat) : Bool := (decide (cbS ms p = 0) || decide (cbS ms p = 1) || decide (cbS ms p = 3)) && (match k with
  | none => true
  | some (a, ea) => cbLt ms a ea p q)
/-- n items, or n pairs, from p on; where they end -/
def cbQ (I : Nat → Option Nat) (ms : List Int32) (isMap : Bool) : Nat → Option (Nat × Nat) → Nat → Option Nat
  | 0, _, p => some p
  | n + 1, k, p => if isMap then (match I p with
      | none => none
      | some q => if cbKy ms k p q then (match I q with
        | none => none
        | some q2 => cbQ I ms isMap n (some (p, q)) q2) else none)
    else (match I p with
      | none => none
      | some q => cbQ I ms isMap n none q)
/-- where a canonical item that begins at p ends; r more arrays and maps may lie in one another -/
def cbI (ms : List Int32) : Nat → Nat → Option Nat
  | 0, p => if ¬ cbOk ms p then none else if cbS ms p = 2 ∨ cbS ms p = 3 then some (cbC ms p + cbV ms p) else if cbS ms p = 4 ∨ cbS ms p = 5 then none else some (cbC ms p)
  | r + 1, p => if ¬ cbOk ms p then none else if cbS ms p = 2 ∨ cbS ms p = 3 then some (cbC ms p + cbV ms p) else if cbS ms p = 4 ∨ cbS ms p = 5 then cbQ (cbI ms r) ms (decide (cbS ms p = 5)) (cbV ms p) none (cbC ms p) else some (cbC ms p)
theorem cbQ_lt {I : Nat → Option Nat} {ms : List Int32} {isMap : Bool} (hI : ∀ p q, I p = some q → p < q ∧ q ≤ ms.length) : ∀ (n : Nat) (k : Option (Nat × Nat)) (p q : Nat), cbQ I ms isMap n k p = some q → p ≤ ms.length → p + n ≤ q ∧ q ≤ ms.length := by
  intro n
  induction n with
  | zero => intro k p q h hp; cases h; exact ⟨Nat.le_refl _, hp⟩
  | succ n ih =>
    intro k p q h hp
    unfold cbQ at h
    split at h
    · split at h
      · cases h
      · next q1 h1 =>
        split at h
        · split at h
          · cases h
          · next q2 h2 =>
            have a1 := hI _ _ h1
            have a2 := hI _ _ h2
            have a3 := ih _ _ _ h a2.2
            omega
        · cases h
    · split at h
      · cases h
      · next q1 h1 =>
        have a1 := hI _ _ h1
        have a3 := ih _ _ _ h a1.2
        omega
theorem cbOk.c {ms : List Int32} {p : Nat} (h : cbOk ms p) : p < cbC ms p ∧ cbC ms p ≤ ms.length := ⟨by unfold cbC; omega, h.2.2.2.1⟩
theorem cbI_lt {ms : List Int32} : ∀ (r p q : Nat), cbI ms r p = some q → p < q ∧ q ≤ ms.length := by
  intro r
  induction r with
  | zero =>
    intro p q h
    unfold cbI at h
    split at h
    · cases h
    · next hk =>
      have hk := Decidable.of_not_not hk
      have := hk.c
      split at h
      · next h2 => cases h; have := hk.2.2.2.2.2.2.2 h2; omega
      · split at h
        · cases h
        · cases h; omega
  | succ r ih =>
    intro p q h
    unfold cbI at h
    split at h
    · cases h
    · next hk =>
      have hk := Decidable.of_not_not hk
      have := hk.c
      split at h
      · next h2 => cases h; have := hk.2.2.2.2.2.2.2 h2; omega
      · split at h
        · have := cbQ_lt ih _ _ _ _ h this.2
          omega
        · cases h; omega
theorem cbI_ok {ms : List Int32} {r p q : Nat} (h : cbI ms r p = some q) : cbOk ms p := by
  cases r <;> (unfold cbI at h; split at h; cases h; next hk => exact Decidable.of_not_not hk)
/-- an item of a table: place, sort, number, end, next item -/
abbrev Ent : Type := Nat × Nat × Nat × Nat × Nat
/-- n items one behind the other, from place p and number i on to q and j -/
def Ch (N : Nat → Nat → Nat → Nat → Prop) : Nat → Nat → Nat → Nat → Nat → Prop
  | 0, p, i, q, j => q = p ∧ j = i
  | n + 1, p, i, q, j => ∃ q1 j1, N p i q1 j1 ∧ Ch N n q1 j1 q j
/-- the item at place p has number i in the table; it ends at q, the next has number j -/
def Nd (tb : Nat → Ent) (ms : List Int32) : Nat → Nat → Nat → Nat → Nat → Prop
  | 0, p, i, q, j => cbOk ms p ∧ tb i = ((p, (cbS ms p, (cbV ms p, (q, j)))) : Ent) ∧ (if cbS ms p = 2 ∨ cbS ms p = 3 then q = cbC ms p + cbV ms p ∧ j = i + 1 else if cbS ms p = 4 ∨ cbS ms p = 5 then False else q = cbC ms p ∧ j = i + 1)
  | r + 1, p, i, q, j => cbOk ms p ∧ tb i = ((p, (cbS ms p, (cbV ms p, (q, j)))) : Ent) ∧ (if cbS ms p = 2 ∨ cbS ms p = 3 then q = cbC ms p + cbV ms p ∧ j = i + 1 else if cbS ms p = 4 ∨ cbS ms p = 5 then Ch (Nd tb ms r) (if cbS ms p = 5 then 2 * cbV ms p else cbV ms p) (cbC ms p) (i + 1) q j else q = cbC ms p ∧ j = i + 1)
theorem Ch_lt {N : Nat → Nat → Nat → Nat → Prop} (hN : ∀ p i q j, N p i q j → i < j ∧ p < q) : ∀ (n p i q j : Nat), Ch N n p i q j → i + n ≤ j ∧ p + n ≤ q := by
  intro n
  induction n with
  | zero => intro p i q j h; obtain ⟨rfl, rfl⟩ := h; exact ⟨Nat.le_refl _, Nat.le_refl _⟩
  | succ n ih =>
    intro p i q j h
    obtain ⟨q1, j1, h1, h2⟩ := h
    have a1 := hN _ _ _ _ h1
    have a2 := ih _ _ _ _ h2
    omega
theorem Nd_lt {tb : Nat → Ent} {ms : List Int32} : ∀ (r p i q j : Nat), Nd tb ms r p i q j → i < j ∧ p < q := by
  intro r
  induction r with
  | zero =>
    intro p i q j h
    obtain ⟨h1, -, h2⟩ := h
    have := h1.c
    split at h2
    · omega
    · split at h2
      · exact h2.elim
      · omega
  | succ r ih =>
    intro p i q j h
    obtain ⟨h1, -, h2⟩ := h
    have := h1.c
    split at h2
    · omega
    · split at h2
      · have := Ch_lt ih _ _ _ _ _ h2
        omega
      · omega
theorem Ch_congr {N N' : Nat → Nat → Nat → Nat → Prop} (hN : ∀ p i q j, N p i q j → i < j ∧ p < q) : ∀ (n p i q j : Nat), (∀ p i' q j', i ≤ i' → j' ≤ j → N p i' q j' → N' p i' q j') → Ch N n p i q j → Ch N' n p i q j := by
  intro n
  induction n with
  | zero => intro p i q j _ h; exact h
  | succ n ih =>
    intro p i q j hc h
    obtain ⟨q1, j1, h1, h2⟩ := h
    have a1 := hN _ _ _ _ h1
    have a2 := Ch_lt hN _ _ _ _ _ h2
    exact ⟨q1, j1, hc _ _ _ _ (Nat.le_refl _) (by omega) h1, ih _ _ _ _ (fun p i' q j' x1 x2 x3 => hc p i' q j' (by omega) x2 x3) h2⟩
theorem Nd_congr {tb tb' : Nat → Ent} {ms : List Int32} : ∀ (r p i q j : Nat), (∀ k, i ≤ k → k < j → tb' k = tb k) → Nd tb ms r p i q j → Nd tb' ms r p i q j := by
  intro r
  induction r with
  | zero =>
    intro p i q j hc h
    have hl := Nd_lt _ _ _ _ _ h
    obtain ⟨h1, h2, h3⟩ := h
    exact ⟨h1, by rw [hc i (Nat.le_refl _) hl.1]; exact h2, h3⟩
  | succ r ih =>
    intro p i q j hc h
    have hl := Nd_lt _ _ _ _ _ h
    obtain ⟨h1, h2, h3⟩ := h
    refine ⟨h1, by rw [hc i (Nat.le_refl _) hl.1]; exact h2, ?_⟩
    split
    · next hs => rw [if_pos hs] at h3; exact h3
    · next hs =>
      rw [if_neg hs] at h3
      split
      · next hs2 =>
        rw [if_pos hs2] at h3
        exact Ch_congr (Nd_lt r) _ _ _ _ _ (fun p i' q j' x1 x2 x3 => ih _ _ _ _ (fun k y1 y2 => hc k (by omega) (by omega)) x3) h3
      · next hs2 => rw [if_neg hs2] at h3; exact h3
theorem Ch_snoc {N : Nat → Nat → Nat → Nat → Prop} : ∀ (n p i q j q2 j2 : Nat), Ch N n p i q j → N q j q2 j2 → Ch N (n + 1) p i q2 j2 := by
  intro n
  induction n with
  | zero => intro p i q j q2 j2 h h2; obtain ⟨rfl, rfl⟩ := h; exact ⟨q2, j2, h2, rfl, rfl⟩
  | succ n ih =>
    intro p i q j q2 j2 h h2
    obtain ⟨q1, j1, a1, a2⟩ := h
    exact ⟨q1, j1, a1, ih _ _ _ _ _ _ a2 h2⟩
/-- numbers out of bytes -/
theorem bn_app (l : List Int32) (v : Int32) : bn (l ++ [v]) = 256 * bn l + v.toNatClampNeg := by unfold bn; rw [List.foldl_append]; rfl
theorem bn_acc (l : List Int32) : ∀ a : Nat, l.foldl (fun a v => 256 * a + v.toNatClampNeg) a = 256 ^ l.length * a + bn l := by
  induction l with
  | nil => intro a; simp [bn]
  | cons v l ih =>
    intro a
    unfold bn
    rw [List.foldl_cons, List.foldl_cons, ih, ih, List.length_cons, Nat.pow_succ]
    rw [Nat.mul_add, Nat.mul_add, ← Nat.mul_assoc, Nat.mul_zero]
    omega
theorem by_lt {v : Int32} (h : v &&& 255 = v) : v.toNatClampNeg < 256 := by
  obtain ⟨n, h1, rfl⟩ := by_nI h
  rw [nI_clamp (by omega)]; exact h1
theorem by_eq {v : Int32} (h : v &&& 255 = v) : v = nI v.toNatClampNeg := by
  obtain ⟨n, h1, rfl⟩ := by_nI h
  rw [nI_clamp (by omega)]
theorem bn_cons (v : Int32) (l : List Int32) : bn (v :: l) = 256 ^ l.length * v.toNatClampNeg + bn l := by
  show List.foldl _ _ _ = _
  rw [List.foldl_cons, bn_acc]; simp
theorem bn_lt (l : List Int32) (h : ∀ v ∈ l, v &&& 255 = v) : bn l < 256 ^ l.length := by
  induction l with
  | nil => decide
  | cons v l ih =>
    have h1 := by_lt (h v (by simp))
    have h2 := ih (fun w hw => h w (by simp [hw]))
    rw [bn_cons, List.length_cons, Nat.pow_succ]
    have : 256 ^ l.length * v.toNatClampNeg + 256 ^ l.length ≤ 256 ^ l.length * 256 := by
      rw [← Nat.mul_succ]; exact Nat.mul_le_mul_left _ h1
    omega
theorem b64 : ∀ b : Nat, b < 256 → (nI b).toInt64 = Int64.ofNat b := by decide +kernel
theorem bt_ls_nat {a b : Nat} (ha : a < 2 ^ 48) (hb : b < 256) : bt_ls (Int64.ofNat a) (nI b) = Int64.ofNat (256 * a + b) := by
  unfold bt_ls
  rw [b64 b hb, show (8 : Int32).toInt64 &&& 63 = (8 : Int64) from by decide]
  apply Int64.toBitVec_inj.mp
  apply BitVec.eq_of_toNat_eq
  simp [Int64.toBitVec_shiftLeft]
  have h1 : ((8#64 : BitVec 64).smod 64#64) = 8#64 := by decide
  try rw [h1]
  rw [Nat.mod_eq_of_lt (show 256 * a + b < 18446744073709551616 by omega), Nat.mod_eq_of_lt (show b < 18446744073709551616 by omega), Nat.shiftLeft_eq, Nat.mod_eq_of_lt (show a < 18446744073709551616 by omega), Nat.mod_eq_of_lt (show a * 2 ^ 8 < 18446744073709551616 by omega)]
  have := Nat.shiftLeft_add_eq_or_of_lt (i := 8) (b := b) (by omega) a
  rw [Nat.shiftLeft_eq] at this
  omega
theorem bt_lo_acc (l : List Int32) (h : ∀ v ∈ l, v &&& 255 = v) : ∀ a : Nat, 256 ^ l.length * (a + 1) ≤ 2 ^ 56 → l.foldl bt_ls (Int64.ofNat a) = Int64.ofNat (l.foldl (fun a v => 256 * a + v.toNatClampNeg) a) := by
  induction l with
  | nil => intro a _; rfl
  | cons v l ih =>
    intro a ha
    have h1 := by_lt (h v (by simp))
    rw [List.length_cons, Nat.pow_succ, Nat.mul_assoc] at ha
    have hp : 0 < 256 ^ l.length := Nat.pow_pos (by decide)
    have ha' : 256 * (a + 1) ≤ 2 ^ 56 := Nat.le_trans (Nat.le_mul_of_pos_left _ hp) ha
    rw [List.foldl_cons, List.foldl_cons]
    have e := by_eq (h v (by simp))
    rw [show bt_ls (Int64.ofNat a) v = Int64.ofNat (256 * a + v.toNatClampNeg) from by conv => lhs; rw [e]; rw [bt_ls_nat (by omega) h1]]
    refine ih (fun w hw => h w (by simp [hw])) _ (Nat.le_trans (Nat.mul_le_mul_left _ (by omega)) ha)
theorem bt_lo_nat (l : List Int32) (h : ∀ v ∈ l, v &&& 255 = v) (hl : l.length ≤ 7) : bt_lo l = Int64.ofNat (bn l) := by
  refine bt_lo_acc l h 0 ?_
  have : 256 ^ l.length ≤ 256 ^ 7 := Nat.pow_le_pow_right (by decide) hl
  omega
theorem ms_by {ms : List Int32} (h : ∀ v ∈ ms, v &&& 255 = v) (p : Nat) : cbB ms p < 256 := by
  unfold cbB
  by_cases hp : p < ms.length
  · simp only [List.getD, List.getElem?_eq_getElem hp, Option.getD_some]
    exact by_lt (h _ (List.getElem_mem hp))
  · simp [List.getD, hp]
theorem ms_at {ms : List Int32} (h : ∀ v ∈ ms, v &&& 255 = v) {p : Nat} (hp : p < ms.length) : ms.getD p (-1) = nI (cbB ms p) := by
  unfold cbB
  simp only [List.getD, List.getElem?_eq_getElem hp, Option.getD_some]
  exact by_eq (h _ (List.getElem_mem hp))
theorem cb_sh : ∀ b : Nat, b < 256 → nI b >>> (5 : Int32) = nI (b / 32) ∧ nI b &&& 31 = nI (b % 32) := by decide +kernel
theorem i64_lt {a b : Nat} (ha : a < 2 ^ 63) (hb : b < 2 ^ 63) : Int64.ofNat a < Int64.ofNat b ↔ a < b := by
  rw [Int64.lt_iff_toInt_lt, Int64.toInt_ofNat_of_lt (by omega), Int64.toInt_ofNat_of_lt (by omega)]
  omega
theorem i64_le {a b : Nat} (ha : a < 2 ^ 63) (hb : b < 2 ^ 63) : Int64.ofNat a ≤ Int64.ofNat b ↔ a ≤ b := by
  rw [Int64.le_iff_toInt_le, Int64.toInt_ofNat_of_lt (by omega), Int64.toInt_ofNat_of_lt (by omega)]
  omega
theorem i64_eq {a b : Nat} (ha : a < 2 ^ 63) (hb : b < 2 ^ 63) : Int64.ofNat a = Int64.ofNat b ↔ a = b := by
  constructor
  · intro h
    have := congrArg Int64.toInt h
    rw [Int64.toInt_ofNat_of_lt (by omega), Int64.toInt_ofNat_of_lt (by omega)] at this
    omega
  · rintro rfl; rfl
theorem i64_l {a : Nat} (ha : a < 2 ^ 31) : (nI a).toInt64 = Int64.ofNat a := by
  apply Int64.toInt_inj.mp
  rw [Int32.toInt_toInt64, Int64.toInt_ofNat_of_lt (by omega), nI_toInt ha]
theorem i64_i (a : Nat) : (Int64.ofNat a).toInt32 = nI a := by
  apply Int32.toBitVec_inj.mp
  apply BitVec.eq_of_toNat_eq
  simp [nI]
/-- a long out of a number, that simp leaves alone -/
def nL (n : Nat) : Int64 := Int64.ofNat n
theorem nL_lt {a b : Nat} (ha : a < 2 ^ 63) (hb : b < 2 ^ 63) : nL a < nL b ↔ a < b := i64_lt ha hb
theorem nL_le {a b : Nat} (ha : a < 2 ^ 63) (hb : b < 2 ^ 63) : nL a ≤ nL b ↔ a ≤ b := i64_le ha hb
theorem nL_eq {a b : Nat} (ha : a < 2 ^ 63) (hb : b < 2 ^ 63) : nL a = nL b ↔ a = b := i64_eq ha hb
theorem nL_l {a : Nat} (ha : a < 2 ^ 31) : (nI a).toInt64 = nL a := i64_l ha
theorem nL_i (a : Nat) : (nL a).toInt32 = nI a := i64_i a
theorem nLl_lt {a n : Nat} (ha : a < 2 ^ 63) (hn : Nat.ble n 9223372036854775807 = true) : (nL a < (no_index (OfNat.ofNat n) : Int64)) ↔ a < OfNat.ofNat n := i64_lt ha (Nat.lt_succ_of_le (Nat.le_of_ble_eq_true hn))
theorem nLl_le {a n : Nat} (ha : a < 2 ^ 63) (hn : Nat.ble n 9223372036854775807 = true) : (nL a ≤ (no_index (OfNat.ofNat n) : Int64)) ↔ a ≤ OfNat.ofNat n := i64_le ha (Nat.lt_succ_of_le (Nat.le_of_ble_eq_true hn))
theorem nLl_eq {a n : Nat} (ha : a < 2 ^ 63) (hn : Nat.ble n 9223372036854775807 = true) : (nL a = (no_index (OfNat.ofNat n) : Int64)) ↔ a = OfNat.ofNat n := i64_eq ha (Nat.lt_succ_of_le (Nat.le_of_ble_eq_true hn))
theorem lnL_lt {a n : Nat} (ha : a < 2 ^ 63) (hn : Nat.ble n 9223372036854775807 = true) : ((no_index (OfNat.ofNat n) : Int64) < nL a) ↔ OfNat.ofNat n < a := i64_lt (Nat.lt_succ_of_le (Nat.le_of_ble_eq_true hn)) ha
theorem lnL_le {a n : Nat} (ha : a < 2 ^ 63) (hn : Nat.ble n 9223372036854775807 = true) : ((no_index (OfNat.ofNat n) : Int64) ≤ nL a) ↔ OfNat.ofNat n ≤ a := i64_le (Nat.lt_succ_of_le (Nat.le_of_ble_eq_true hn)) ha
end
