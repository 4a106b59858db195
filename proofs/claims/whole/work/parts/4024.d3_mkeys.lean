/- d3.mkeys -/
section
set_option maxRecDepth 512
/-! The model: calls on keys, the small ones. -/
/- 272 PasskeyHouseModel.press(I)I -/
theorem s272_0 {d : Nat} {ls : mj_L} {st : List Value} {M : mj_H} : mj_Rn d mj_m272 0 ls st M = mq_k0 d mj_m272 1 ls M (mj_lda (mj_lk ls 0) st) := mj_R0 (r := (.aload_n 0, 1, 0, 0, 0)) rfl rfl
theorem s272_1 {d : Nat} {ls : mj_L} {st : List Value} {M : mj_H} : mj_Rn d mj_m272 1 ls st M = mq_k0 d mj_m272 2 ls M (mj_ldi (mj_lk ls 1) st) := mj_R0 (r := (.iload_n 1, 1, 0, 0, 0)) rfl rfl
theorem s272_2 {d : Nat} {ls : mj_L} {st : List Value} {M : mj_H} : mj_Rn (d + 1) mj_m272 2 ls st M = mq_k5a (d + 1) mj_m272 5 ls M 271 (mq_cb 0 1 11 st M) := mj_R5e (r := (.invokevirtual 578, 3, 0, 271, 32935)) (z := mj_m271) rfl rfl (by decide) (by decide) rfl
theorem s272_5 {d : Nat} {ls : mj_L} {st : List Value} {M : mj_H} : mj_Rn d mj_m272 5 ls st M = mq_k2 d mj_m272 ls M (mj_br (.ifCond .eq 14) 5 st) := mj_R2 (r := (.ifCond .eq 14, 3, 0, 0, 0)) rfl rfl
theorem s272_8 {d : Nat} {ls : mj_L} {st : List Value} {M : mj_H} : mj_Rn d mj_m272 8 ls st M = mq_k0 d mj_m272 9 ls M (mj_lda (mj_lk ls 0) st) := mj_R0 (r := (.aload_n 0, 1, 0, 0, 0)) rfl rfl
theorem s272_9 {d : Nat} {ls : mj_L} {st : List Value} {M : mj_H} : mj_Rn d mj_m272 9 ls st M = mq_k0 d mj_m272 12 ls M (mq_gf 11 17 st M) := (mj_R3 (r := (.getfield 43, 3, 11, 17, 49630)) rfl rfl).trans (congrArg (mq_k0 d mj_m272 12 ls M) mq_gf_eq)
theorem s272_12 {d : Nat} {ls : mj_L} {st : List Value} {M : mj_H} : mj_Rn d mj_m272 12 ls st M = mq_k0 d mj_m272 13 ls M (mj_ldi (mj_lk ls 1) st) := mj_R0 (r := (.iload_n 1, 1, 0, 0, 0)) rfl rfl
theorem s272_13 {d : Nat} {ls : mj_L} {st : List Value} {M : mj_H} : mj_Rn d mj_m272 13 ls st M = mq_k0 d mj_m272 14 ls M (mq_al [1000] st M) := (mj_R3 (r := (.iaload, 1, 0, 0, 0)) rfl rfl).trans (congrArg (mq_k0 d mj_m272 14 ls M) mq_ali_eq)
theorem s272_14 {d : Nat} {ls : mj_L} {st : List Value} {M : mj_H} : mj_Rn d mj_m272 14 ls st M = mj_Rn d mj_m272 16 ls (.int 9 :: st) M := mj_R0 (r := (.bipush 9, 2, 0, 0, 0)) rfl rfl
theorem s272_16 {d : Nat} {ls : mj_L} {st : List Value} {M : mj_H} : mj_Rn d mj_m272 16 ls st M = mq_k2 d mj_m272 ls M (mj_br (.if_icmp .ne 5) 16 st) := mj_R2 (r := (.if_icmp .ne 5, 3, 0, 0, 0)) rfl rfl
theorem s272_19 {d : Nat} {ls : mj_L} {st : List Value} {M : mj_H} : mj_Rn d mj_m272 19 ls st M = mj_Rn d mj_m272 20 ls (.int (-1) :: st) M := mj_R0 (r := (.iconst (-1), 1, 0, 0, 0)) rfl rfl
theorem s272_20 {d : Nat} {ls : mj_L} {st : List Value} {M : mj_H} : mj_Rn d mj_m272 20 ls st M = mq_k6 M (mj_re (some .int) (.ireturn) st) := mj_R6 (r := (.ireturn, 1, 0, 0, 0)) rfl rfl
theorem s272_21 {d : Nat} {ls : mj_L} {st : List Value} {M : mj_H} : mj_Rn d mj_m272 21 ls st M = mq_k0 d mj_m272 22 ls M (mj_lda (mj_lk ls 0) st) := mj_R0 (r := (.aload_n 0, 1, 0, 0, 0)) rfl rfl
theorem s272_22 {d : Nat} {ls : mj_L} {st : List Value} {M : mj_H} : mj_Rn d mj_m272 22 ls st M = mq_k0 d mj_m272 25 ls M (mq_gf 11 17 st M) := (mj_R3 (r := (.getfield 43, 3, 11, 17, 49630)) rfl rfl).trans (congrArg (mq_k0 d mj_m272 25 ls M) mq_gf_eq)
theorem s272_25 {d : Nat} {ls : mj_L} {st : List Value} {M : mj_H} : mj_Rn d mj_m272 25 ls st M = mq_k0 d mj_m272 26 ls M (mj_ldi (mj_lk ls 1) st) := mj_R0 (r := (.iload_n 1, 1, 0, 0, 0)) rfl rfl
theorem s272_26 {d : Nat} {ls : mj_L} {st : List Value} {M : mj_H} : mj_Rn d mj_m272 26 ls st M = mq_k0 d mj_m272 27 ls M (mj_pu .dup2 ls st) := mj_R0 (r := (.dup2, 1, 0, 0, 0)) rfl rfl
theorem s272_27 {d : Nat} {ls : mj_L} {st : List Value} {M : mj_H} : mj_Rn d mj_m272 27 ls st M = mq_k0 d mj_m272 28 ls M (mq_al [1000] st M) := (mj_R3 (r := (.iaload, 1, 0, 0, 0)) rfl rfl).trans (congrArg (mq_k0 d mj_m272 28 ls M) mq_ali_eq)
theorem s272_28 {d : Nat} {ls : mj_L} {st : List Value} {M : mj_H} : mj_Rn d mj_m272 28 ls st M = mj_Rn d mj_m272 29 ls (.int 1 :: st) M := mj_R0 (r := (.iconst 1, 1, 0, 0, 0)) rfl rfl
theorem s272_29 {d : Nat} {ls : mj_L} {st : List Value} {M : mj_H} : mj_Rn d mj_m272 29 ls st M = mq_k0 d mj_m272 30 ls M (mj_pu .iadd ls st) := mj_R0 (r := (.iadd, 1, 0, 0, 0)) rfl rfl
theorem s272_30 {d : Nat} {ls : mj_L} {st : List Value} {M : mj_H} : mj_Rn d mj_m272 30 ls st M = mq_k4 d mj_m272 31 ls (mj_hw (.iastore, 1, 0, 0, 0) st M) := mj_R4 (r := (.iastore, 1, 0, 0, 0)) rfl rfl
theorem s272_31 {d : Nat} {ls : mj_L} {st : List Value} {M : mj_H} : mj_Rn d mj_m272 31 ls st M = mq_k0 d mj_m272 32 ls M (mj_lda (mj_lk ls 0) st) := mj_R0 (r := (.aload_n 0, 1, 0, 0, 0)) rfl rfl
theorem s272_32 {d : Nat} {ls : mj_L} {st : List Value} {M : mj_H} : mj_Rn d mj_m272 32 ls st M = mq_k0 d mj_m272 35 ls M (mq_gf 11 17 st M) := (mj_R3 (r := (.getfield 43, 3, 11, 17, 49630)) rfl rfl).trans (congrArg (mq_k0 d mj_m272 35 ls M) mq_gf_eq)
theorem s272_35 {d : Nat} {ls : mj_L} {st : List Value} {M : mj_H} : mj_Rn d mj_m272 35 ls st M = mq_k0 d mj_m272 36 ls M (mj_ldi (mj_lk ls 1) st) := mj_R0 (r := (.iload_n 1, 1, 0, 0, 0)) rfl rfl
theorem s272_36 {d : Nat} {ls : mj_L} {st : List Value} {M : mj_H} : mj_Rn d mj_m272 36 ls st M = mq_k0 d mj_m272 37 ls M (mq_al [1000] st M) := (mj_R3 (r := (.iaload, 1, 0, 0, 0)) rfl rfl).trans (congrArg (mq_k0 d mj_m272 37 ls M) mq_ali_eq)
theorem s272_37 {d : Nat} {ls : mj_L} {st : List Value} {M : mj_H} : mj_Rn d mj_m272 37 ls st M = mq_k6 M (mj_re (some .int) (.ireturn) st) := mj_R6 (r := (.ireturn, 1, 0, 0, 0)) rfl rfl
/- 273 PasskeyHouseModel.cut(II)Z -/
theorem s273_0 {d : Nat} {ls : mj_L} {st : List Value} {M : mj_H} : mj_Rn d mj_m273 0 ls st M = mq_k0 d mj_m273 1 ls M (mj_lda (mj_lk ls 0) st) := mj_R0 (r := (.aload_n 0, 1, 0, 0, 0)) rfl rfl
theorem s273_1 {d : Nat} {ls : mj_L} {st : List Value} {M : mj_H} : mj_Rn d mj_m273 1 ls st M = mq_k0 d mj_m273 2 ls M (mj_ldi (mj_lk ls 1) st) := mj_R0 (r := (.iload_n 1, 1, 0, 0, 0)) rfl rfl
theorem s273_2 {d : Nat} {ls : mj_L} {st : List Value} {M : mj_H} : mj_Rn (d + 1) mj_m273 2 ls st M = mq_k5a (d + 1) mj_m273 5 ls M 271 (mq_cb 0 1 11 st M) := mj_R5e (r := (.invokevirtual 578, 3, 0, 271, 32935)) (z := mj_m271) rfl rfl (by decide) (by decide) rfl
theorem s273_5 {d : Nat} {ls : mj_L} {st : List Value} {M : mj_H} : mj_Rn d mj_m273 5 ls st M = mq_k2 d mj_m273 ls M (mj_br (.ifCond .eq 15) 5 st) := mj_R2 (r := (.ifCond .eq 15, 3, 0, 0, 0)) rfl rfl
theorem s273_8 {d : Nat} {ls : mj_L} {st : List Value} {M : mj_H} : mj_Rn d mj_m273 8 ls st M = mq_k0 d mj_m273 9 ls M (mj_ldi (mj_lk ls 2) st) := mj_R0 (r := (.iload_n 2, 1, 0, 0, 0)) rfl rfl
theorem s273_9 {d : Nat} {ls : mj_L} {st : List Value} {M : mj_H} : mj_Rn d mj_m273 9 ls st M = mj_Rn d mj_m273 10 ls (.int (-1) :: st) M := mj_R0 (r := (.iconst (-1), 1, 0, 0, 0)) rfl rfl
theorem s273_10 {d : Nat} {ls : mj_L} {st : List Value} {M : mj_H} : mj_Rn d mj_m273 10 ls st M = mq_k2 d mj_m273 ls M (mj_br (.if_icmp .lt 10) 10 st) := mj_R2 (r := (.if_icmp .lt 10, 3, 0, 0, 0)) rfl rfl
theorem s273_13 {d : Nat} {ls : mj_L} {st : List Value} {M : mj_H} : mj_Rn d mj_m273 13 ls st M = mq_k0 d mj_m273 14 ls M (mj_ldi (mj_lk ls 2) st) := mj_R0 (r := (.iload_n 2, 1, 0, 0, 0)) rfl rfl
theorem s273_14 {d : Nat} {ls : mj_L} {st : List Value} {M : mj_H} : mj_Rn d mj_m273 14 ls st M = mj_Rn d mj_m273 17 ls (.int 2000 :: st) M := mj_R0 (r := (.sipush 2000, 3, 0, 0, 0)) rfl rfl
theorem s273_17 {d : Nat} {ls : mj_L} {st : List Value} {M : mj_H} : mj_Rn d mj_m273 17 ls st M = mq_k2 d mj_m273 ls M (mj_br (.if_icmp .le 5) 17 st) := mj_R2 (r := (.if_icmp .le 5, 3, 0, 0, 0)) rfl rfl
theorem s273_20 {d : Nat} {ls : mj_L} {st : List Value} {M : mj_H} : mj_Rn d mj_m273 20 ls st M = mj_Rn d mj_m273 21 ls (.int 0 :: st) M := mj_R0 (r := (.iconst 0, 1, 0, 0, 0)) rfl rfl
theorem s273_21 {d : Nat} {ls : mj_L} {st : List Value} {M : mj_H} : mj_Rn d mj_m273 21 ls st M = mq_k6 M (mj_re (some .boolean) (.ireturn) st) := mj_R6 (r := (.ireturn, 1, 0, 0, 0)) rfl rfl
theorem s273_22 {d : Nat} {ls : mj_L} {st : List Value} {M : mj_H} : mj_Rn d mj_m273 22 ls st M = mq_k0 d mj_m273 23 ls M (mj_lda (mj_lk ls 0) st) := mj_R0 (r := (.aload_n 0, 1, 0, 0, 0)) rfl rfl
theorem s273_23 {d : Nat} {ls : mj_L} {st : List Value} {M : mj_H} : mj_Rn d mj_m273 23 ls st M = mq_k0 d mj_m273 26 ls M (mq_gf 11 16 st M) := (mj_R3 (r := (.getfield 40, 3, 11, 16, 49628)) rfl rfl).trans (congrArg (mq_k0 d mj_m273 26 ls M) mq_gf_eq)
theorem s273_26 {d : Nat} {ls : mj_L} {st : List Value} {M : mj_H} : mj_Rn d mj_m273 26 ls st M = mq_k0 d mj_m273 27 ls M (mj_ldi (mj_lk ls 1) st) := mj_R0 (r := (.iload_n 1, 1, 0, 0, 0)) rfl rfl
theorem s273_27 {d : Nat} {ls : mj_L} {st : List Value} {M : mj_H} : mj_Rn d mj_m273 27 ls st M = mq_k0 d mj_m273 28 ls M (mj_ldi (mj_lk ls 2) st) := mj_R0 (r := (.iload_n 2, 1, 0, 0, 0)) rfl rfl
theorem s273_28 {d : Nat} {ls : mj_L} {st : List Value} {M : mj_H} : mj_Rn d mj_m273 28 ls st M = mq_k4 d mj_m273 29 ls (mj_hw (.iastore, 1, 0, 0, 0) st M) := mj_R4 (r := (.iastore, 1, 0, 0, 0)) rfl rfl
theorem s273_29 {d : Nat} {ls : mj_L} {st : List Value} {M : mj_H} : mj_Rn d mj_m273 29 ls st M = mj_Rn d mj_m273 30 ls (.int 1 :: st) M := mj_R0 (r := (.iconst 1, 1, 0, 0, 0)) rfl rfl
theorem s273_30 {d : Nat} {ls : mj_L} {st : List Value} {M : mj_H} : mj_Rn d mj_m273 30 ls st M = mq_k6 M (mj_re (some .boolean) (.ireturn) st) := mj_R6 (r := (.ireturn, 1, 0, 0, 0)) rfl rfl
/- 330 PasskeyHouseModel.answer(II)I -/
theorem s330_0 {d : Nat} {ls : mj_L} {st : List Value} {M : mj_H} : mj_Rn d mj_m330 0 ls st M = mq_k0 d mj_m330 1 ls M (mj_lda (mj_lk ls 0) st) := mj_R0 (r := (.aload_n 0, 1, 0, 0, 0)) rfl rfl
theorem s330_1 {d : Nat} {ls : mj_L} {st : List Value} {M : mj_H} : mj_Rn d mj_m330 1 ls st M = mq_k0 d mj_m330 2 ls M (mj_ldi (mj_lk ls 1) st) := mj_R0 (r := (.iload_n 1, 1, 0, 0, 0)) rfl rfl
theorem s330_2 {d : Nat} {ls : mj_L} {st : List Value} {M : mj_H} : mj_Rn (d + 1) mj_m330 2 ls st M = mq_k5a (d + 1) mj_m330 5 ls M 271 (mq_cb 0 1 11 st M) := mj_R5e (r := (.invokevirtual 578, 3, 0, 271, 32935)) (z := mj_m271) rfl rfl (by decide) (by decide) rfl
theorem s330_5 {d : Nat} {ls : mj_L} {st : List Value} {M : mj_H} : mj_Rn d mj_m330 5 ls st M = mq_k2 d mj_m330 ls M (mj_br (.ifCond .eq 32) 5 st) := mj_R2 (r := (.ifCond .eq 32, 3, 0, 0, 0)) rfl rfl
theorem s330_8 {d : Nat} {ls : mj_L} {st : List Value} {M : mj_H} : mj_Rn d mj_m330 8 ls st M = mq_k0 d mj_m330 9 ls M (mj_ldi (mj_lk ls 2) st) := mj_R0 (r := (.iload_n 2, 1, 0, 0, 0)) rfl rfl
theorem s330_9 {d : Nat} {ls : mj_L} {st : List Value} {M : mj_H} : mj_Rn d mj_m330 9 ls st M = mq_k2 d mj_m330 ls M (mj_br (.ifCond .lt 28) 9 st) := mj_R2 (r := (.ifCond .lt 28, 3, 0, 0, 0)) rfl rfl
theorem s330_12 {d : Nat} {ls : mj_L} {st : List Value} {M : mj_H} : mj_Rn d mj_m330 12 ls st M = mq_k0 d mj_m330 13 ls M (mj_ldi (mj_lk ls 2) st) := mj_R0 (r := (.iload_n 2, 1, 0, 0, 0)) rfl rfl
theorem s330_13 {d : Nat} {ls : mj_L} {st : List Value} {M : mj_H} : mj_Rn d mj_m330 13 ls st M = mq_k0 d mj_m330 14 ls M (mj_lda (mj_lk ls 0) st) := mj_R0 (r := (.aload_n 0, 1, 0, 0, 0)) rfl rfl
theorem s330_14 {d : Nat} {ls : mj_L} {st : List Value} {M : mj_H} : mj_Rn d mj_m330 14 ls st M = mq_k0 d mj_m330 17 ls M (mq_gf 11 54 st M) := (mj_R3 (r := (.getfield 149, 3, 11, 54, 57416)) rfl rfl).trans (congrArg (mq_k0 d mj_m330 17 ls M) mq_gf_eq)
theorem s330_17 {d : Nat} {ls : mj_L} {st : List Value} {M : mj_H} : mj_Rn d mj_m330 17 ls st M = mq_k0 d mj_m330 18 ls M (mj_ldi (mj_lk ls 1) st) := mj_R0 (r := (.iload_n 1, 1, 0, 0, 0)) rfl rfl
theorem s330_18 {d : Nat} {ls : mj_L} {st : List Value} {M : mj_H} : mj_Rn d mj_m330 18 ls st M = mq_k0 d mj_m330 19 ls M (mq_al [1000] st M) := (mj_R3 (r := (.iaload, 1, 0, 0, 0)) rfl rfl).trans (congrArg (mq_k0 d mj_m330 19 ls M) mq_ali_eq)
theorem s330_19 {d : Nat} {ls : mj_L} {st : List Value} {M : mj_H} : mj_Rn d mj_m330 19 ls st M = mq_k2 d mj_m330 ls M (mj_br (.if_icmp .ge 18) 19 st) := mj_R2 (r := (.if_icmp .ge 18, 3, 0, 0, 0)) rfl rfl
theorem s330_22 {d : Nat} {ls : mj_L} {st : List Value} {M : mj_H} : mj_Rn d mj_m330 22 ls st M = mq_k0 d mj_m330 23 ls M (mj_lda (mj_lk ls 0) st) := mj_R0 (r := (.aload_n 0, 1, 0, 0, 0)) rfl rfl
theorem s330_23 {d : Nat} {ls : mj_L} {st : List Value} {M : mj_H} : mj_Rn d mj_m330 23 ls st M = mq_k0 d mj_m330 26 ls M (mq_gf 11 53 st M) := (mj_R3 (r := (.getfield 146, 3, 11, 53, 57414)) rfl rfl).trans (congrArg (mq_k0 d mj_m330 26 ls M) mq_gf_eq)
theorem s330_26 {d : Nat} {ls : mj_L} {st : List Value} {M : mj_H} : mj_Rn d mj_m330 26 ls st M = mj_Rn d mj_m330 29 ls (.int 400 :: st) M := mj_R0 (r := (.sipush 400, 3, 0, 0, 0)) rfl rfl
theorem s330_29 {d : Nat} {ls : mj_L} {st : List Value} {M : mj_H} : mj_Rn d mj_m330 29 ls st M = mq_k0 d mj_m330 30 ls M (mj_ldi (mj_lk ls 1) st) := mj_R0 (r := (.iload_n 1, 1, 0, 0, 0)) rfl rfl
theorem s330_30 {d : Nat} {ls : mj_L} {st : List Value} {M : mj_H} : mj_Rn d mj_m330 30 ls st M = mq_k0 d mj_m330 31 ls M (mj_pu .imul ls st) := mj_R0 (r := (.imul, 1, 0, 0, 0)) rfl rfl
theorem s330_31 {d : Nat} {ls : mj_L} {st : List Value} {M : mj_H} : mj_Rn d mj_m330 31 ls st M = mq_k0 d mj_m330 32 ls M (mj_ldi (mj_lk ls 2) st) := mj_R0 (r := (.iload_n 2, 1, 0, 0, 0)) rfl rfl
theorem s330_32 {d : Nat} {ls : mj_L} {st : List Value} {M : mj_H} : mj_Rn d mj_m330 32 ls st M = mq_k0 d mj_m330 33 ls M (mj_pu .iadd ls st) := mj_R0 (r := (.iadd, 1, 0, 0, 0)) rfl rfl
theorem s330_33 {d : Nat} {ls : mj_L} {st : List Value} {M : mj_H} : mj_Rn d mj_m330 33 ls st M = mq_k0 d mj_m330 34 ls M (mq_al [1000] st M) := (mj_R3 (r := (.iaload, 1, 0, 0, 0)) rfl rfl).trans (congrArg (mq_k0 d mj_m330 34 ls M) mq_ali_eq)
theorem s330_34 {d : Nat} {ls : mj_L} {st : List Value} {M : mj_H} : mj_Rn d mj_m330 34 ls st M = mj_Rn d mj_m330 38 ls st M := mj_R2 (r := (.goto 4, 3, 0, 0, 0)) rfl rfl
theorem s330_37 {d : Nat} {ls : mj_L} {st : List Value} {M : mj_H} : mj_Rn d mj_m330 37 ls st M = mj_Rn d mj_m330 38 ls (.int (-1) :: st) M := mj_R0 (r := (.iconst (-1), 1, 0, 0, 0)) rfl rfl
theorem s330_38 {d : Nat} {ls : mj_L} {st : List Value} {M : mj_H} : mj_Rn d mj_m330 38 ls st M = mq_k6 M (mj_re (some .int) (.ireturn) st) := mj_R6 (r := (.ireturn, 1, 0, 0, 0)) rfl rfl
/- 331 PasskeyHouseModel.take(I)I -/
theorem s331_0 {d : Nat} {ls : mj_L} {st : List Value} {M : mj_H} : mj_Rn d mj_m331 0 ls st M = mq_k0 d mj_m331 1 ls M (mj_lda (mj_lk ls 0) st) := mj_R0 (r := (.aload_n 0, 1, 0, 0, 0)) rfl rfl
theorem s331_1 {d : Nat} {ls : mj_L} {st : List Value} {M : mj_H} : mj_Rn d mj_m331 1 ls st M = mq_k0 d mj_m331 2 ls M (mj_ldi (mj_lk ls 1) st) := mj_R0 (r := (.iload_n 1, 1, 0, 0, 0)) rfl rfl
theorem s331_2 {d : Nat} {ls : mj_L} {st : List Value} {M : mj_H} : mj_Rn (d + 1) mj_m331 2 ls st M = mq_k5a (d + 1) mj_m331 5 ls M 271 (mq_cb 0 1 11 st M) := mj_R5e (r := (.invokevirtual 578, 3, 0, 271, 32935)) (z := mj_m271) rfl rfl (by decide) (by decide) rfl
theorem s331_5 {d : Nat} {ls : mj_L} {st : List Value} {M : mj_H} : mj_Rn d mj_m331 5 ls st M = mq_k2 d mj_m331 ls M (mj_br (.ifCond .eq 13) 5 st) := mj_R2 (r := (.ifCond .eq 13, 3, 0, 0, 0)) rfl rfl
theorem s331_8 {d : Nat} {ls : mj_L} {st : List Value} {M : mj_H} : mj_Rn d mj_m331 8 ls st M = mq_k0 d mj_m331 9 ls M (mj_lda (mj_lk ls 0) st) := mj_R0 (r := (.aload_n 0, 1, 0, 0, 0)) rfl rfl
theorem s331_9 {d : Nat} {ls : mj_L} {st : List Value} {M : mj_H} : mj_Rn d mj_m331 9 ls st M = mq_k0 d mj_m331 12 ls M (mq_gf 11 54 st M) := (mj_R3 (r := (.getfield 149, 3, 11, 54, 57416)) rfl rfl).trans (congrArg (mq_k0 d mj_m331 12 ls M) mq_gf_eq)
theorem s331_12 {d : Nat} {ls : mj_L} {st : List Value} {M : mj_H} : mj_Rn d mj_m331 12 ls st M = mq_k0 d mj_m331 13 ls M (mj_ldi (mj_lk ls 1) st) := mj_R0 (r := (.iload_n 1, 1, 0, 0, 0)) rfl rfl
theorem s331_13 {d : Nat} {ls : mj_L} {st : List Value} {M : mj_H} : mj_Rn d mj_m331 13 ls st M = mq_k0 d mj_m331 14 ls M (mq_al [1000] st M) := (mj_R3 (r := (.iaload, 1, 0, 0, 0)) rfl rfl).trans (congrArg (mq_k0 d mj_m331 14 ls M) mq_ali_eq)
theorem s331_14 {d : Nat} {ls : mj_L} {st : List Value} {M : mj_H} : mj_Rn d mj_m331 14 ls st M = mj_Rn d mj_m331 15 ls (.int (-1) :: st) M := mj_R0 (r := (.iconst (-1), 1, 0, 0, 0)) rfl rfl
theorem s331_15 {d : Nat} {ls : mj_L} {st : List Value} {M : mj_H} : mj_Rn d mj_m331 15 ls st M = mq_k2 d mj_m331 ls M (mj_br (.if_icmp .ne 5) 15 st) := mj_R2 (r := (.if_icmp .ne 5, 3, 0, 0, 0)) rfl rfl
theorem s331_18 {d : Nat} {ls : mj_L} {st : List Value} {M : mj_H} : mj_Rn d mj_m331 18 ls st M = mj_Rn d mj_m331 19 ls (.int (-1) :: st) M := mj_R0 (r := (.iconst (-1), 1, 0, 0, 0)) rfl rfl
theorem s331_19 {d : Nat} {ls : mj_L} {st : List Value} {M : mj_H} : mj_Rn d mj_m331 19 ls st M = mq_k6 M (mj_re (some .int) (.ireturn) st) := mj_R6 (r := (.ireturn, 1, 0, 0, 0)) rfl rfl
theorem s331_20 {d : Nat} {ls : mj_L} {st : List Value} {M : mj_H} : mj_Rn d mj_m331 20 ls st M = mq_k0 d mj_m331 21 ls M (mj_lda (mj_lk ls 0) st) := mj_R0 (r := (.aload_n 0, 1, 0, 0, 0)) rfl rfl
theorem s331_21 {d : Nat} {ls : mj_L} {st : List Value} {M : mj_H} : mj_Rn d mj_m331 21 ls st M = mq_k0 d mj_m331 22 ls M (mj_lda (mj_lk ls 0) st) := mj_R0 (r := (.aload_n 0, 1, 0, 0, 0)) rfl rfl
theorem s331_22 {d : Nat} {ls : mj_L} {st : List Value} {M : mj_H} : mj_Rn d mj_m331 22 ls st M = mq_k0 d mj_m331 25 ls M (mq_gf 11 54 st M) := (mj_R3 (r := (.getfield 149, 3, 11, 54, 57416)) rfl rfl).trans (congrArg (mq_k0 d mj_m331 25 ls M) mq_gf_eq)
theorem s331_25 {d : Nat} {ls : mj_L} {st : List Value} {M : mj_H} : mj_Rn d mj_m331 25 ls st M = mq_k0 d mj_m331 26 ls M (mj_ldi (mj_lk ls 1) st) := mj_R0 (r := (.iload_n 1, 1, 0, 0, 0)) rfl rfl
theorem s331_26 {d : Nat} {ls : mj_L} {st : List Value} {M : mj_H} : mj_Rn d mj_m331 26 ls st M = mq_k0 d mj_m331 27 ls M (mq_al [1000] st M) := (mj_R3 (r := (.iaload, 1, 0, 0, 0)) rfl rfl).trans (congrArg (mq_k0 d mj_m331 27 ls M) mq_ali_eq)
theorem s331_27 {d : Nat} {ls : mj_L} {st : List Value} {M : mj_H} : mj_Rn d mj_m331 27 ls st M = mq_k4 d mj_m331 30 ls (mq_pf 11 11 0 st M) := (mj_R4 (r := (.putfield 303, 3, 11, 11, 49618)) rfl rfl).trans (congrArg (mq_k4 d mj_m331 30 ls) (mq_pf_eq rfl rfl))
theorem s331_30 {d : Nat} {ls : mj_L} {st : List Value} {M : mj_H} : mj_Rn d mj_m331 30 ls st M = mq_k0 d mj_m331 31 ls M (mj_lda (mj_lk ls 0) st) := mj_R0 (r := (.aload_n 0, 1, 0, 0, 0)) rfl rfl
theorem s331_31 {d : Nat} {ls : mj_L} {st : List Value} {M : mj_H} : mj_Rn d mj_m331 31 ls st M = mq_k0 d mj_m331 34 ls M (mq_gf 11 53 st M) := (mj_R3 (r := (.getfield 146, 3, 11, 53, 57414)) rfl rfl).trans (congrArg (mq_k0 d mj_m331 34 ls M) mq_gf_eq)
theorem s331_34 {d : Nat} {ls : mj_L} {st : List Value} {M : mj_H} : mj_Rn d mj_m331 34 ls st M = mj_Rn d mj_m331 37 ls (.int 400 :: st) M := mj_R0 (r := (.sipush 400, 3, 0, 0, 0)) rfl rfl
theorem s331_37 {d : Nat} {ls : mj_L} {st : List Value} {M : mj_H} : mj_Rn d mj_m331 37 ls st M = mq_k0 d mj_m331 38 ls M (mj_ldi (mj_lk ls 1) st) := mj_R0 (r := (.iload_n 1, 1, 0, 0, 0)) rfl rfl
theorem s331_38 {d : Nat} {ls : mj_L} {st : List Value} {M : mj_H} : mj_Rn d mj_m331 38 ls st M = mq_k0 d mj_m331 39 ls M (mj_pu .imul ls st) := mj_R0 (r := (.imul, 1, 0, 0, 0)) rfl rfl
theorem s331_39 {d : Nat} {ls : mj_L} {st : List Value} {M : mj_H} : mj_Rn d mj_m331 39 ls st M = mq_k0 d mj_m331 40 ls M (mj_lda (mj_lk ls 0) st) := mj_R0 (r := (.aload_n 0, 1, 0, 0, 0)) rfl rfl
theorem s331_40 {d : Nat} {ls : mj_L} {st : List Value} {M : mj_H} : mj_Rn d mj_m331 40 ls st M = mq_k0 d mj_m331 43 ls M (mq_gf 11 10 st M) := (mj_R3 (r := (.getfield 27, 3, 11, 10, 49616)) rfl rfl).trans (congrArg (mq_k0 d mj_m331 43 ls M) mq_gf_eq)
theorem s331_43 {d : Nat} {ls : mj_L} {st : List Value} {M : mj_H} : mj_Rn d mj_m331 43 ls st M = mj_Rn d mj_m331 44 ls (.int 0 :: st) M := mj_R0 (r := (.iconst 0, 1, 0, 0, 0)) rfl rfl
theorem s331_44 {d : Nat} {ls : mj_L} {st : List Value} {M : mj_H} : mj_Rn d mj_m331 44 ls st M = mq_k0 d mj_m331 45 ls M (mj_lda (mj_lk ls 0) st) := mj_R0 (r := (.aload_n 0, 1, 0, 0, 0)) rfl rfl
theorem s331_45 {d : Nat} {ls : mj_L} {st : List Value} {M : mj_H} : mj_Rn d mj_m331 45 ls st M = mq_k0 d mj_m331 48 ls M (mq_gf 11 11 st M) := (mj_R3 (r := (.getfield 303, 3, 11, 11, 49618)) rfl rfl).trans (congrArg (mq_k0 d mj_m331 48 ls M) mq_gf_eq)
theorem s331_48 {d : Nat} {ls : mj_L} {st : List Value} {M : mj_H} : mj_Rn (d + 1) mj_m331 48 ls st M = mq_k4 (d + 1) mj_m331 51 ls (mq_cpr st M) := mj_R5ce (r := (.invokestatic 248, 3, 7, 0, 32847)) rfl rfl rfl
theorem s331_51 {d : Nat} {ls : mj_L} {st : List Value} {M : mj_H} : mj_Rn d mj_m331 51 ls st M = mq_k0 d mj_m331 52 ls M (mj_lda (mj_lk ls 0) st) := mj_R0 (r := (.aload_n 0, 1, 0, 0, 0)) rfl rfl
theorem s331_52 {d : Nat} {ls : mj_L} {st : List Value} {M : mj_H} : mj_Rn d mj_m331 52 ls st M = mq_k0 d mj_m331 55 ls M (mq_gf 11 11 st M) := (mj_R3 (r := (.getfield 303, 3, 11, 11, 49618)) rfl rfl).trans (congrArg (mq_k0 d mj_m331 55 ls M) mq_gf_eq)
theorem s331_55 {d : Nat} {ls : mj_L} {st : List Value} {M : mj_H} : mj_Rn d mj_m331 55 ls st M = mq_k6 M (mj_re (some .int) (.ireturn) st) := mj_R6 (r := (.ireturn, 1, 0, 0, 0)) rfl rfl
/- 332 PasskeyHouseModel.flash(II)I -/
theorem s332_0 {d : Nat} {ls : mj_L} {st : List Value} {M : mj_H} : mj_Rn d mj_m332 0 ls st M = mq_k0 d mj_m332 1 ls M (mj_lda (mj_lk ls 0) st) := mj_R0 (r := (.aload_n 0, 1, 0, 0, 0)) rfl rfl
theorem s332_1 {d : Nat} {ls : mj_L} {st : List Value} {M : mj_H} : mj_Rn d mj_m332 1 ls st M = mq_k0 d mj_m332 2 ls M (mj_ldi (mj_lk ls 1) st) := mj_R0 (r := (.iload_n 1, 1, 0, 0, 0)) rfl rfl
theorem s332_2 {d : Nat} {ls : mj_L} {st : List Value} {M : mj_H} : mj_Rn (d + 1) mj_m332 2 ls st M = mq_k5a (d + 1) mj_m332 5 ls M 271 (mq_cb 0 1 11 st M) := mj_R5e (r := (.invokevirtual 578, 3, 0, 271, 32935)) (z := mj_m271) rfl rfl (by decide) (by decide) rfl
theorem s332_5 {d : Nat} {ls : mj_L} {st : List Value} {M : mj_H} : mj_Rn d mj_m332 5 ls st M = mq_k2 d mj_m332 ls M (mj_br (.ifCond .eq 29) 5 st) := mj_R2 (r := (.ifCond .eq 29, 3, 0, 0, 0)) rfl rfl
theorem s332_8 {d : Nat} {ls : mj_L} {st : List Value} {M : mj_H} : mj_Rn d mj_m332 8 ls st M = mq_k0 d mj_m332 9 ls M (mj_ldi (mj_lk ls 2) st) := mj_R0 (r := (.iload_n 2, 1, 0, 0, 0)) rfl rfl
theorem s332_9 {d : Nat} {ls : mj_L} {st : List Value} {M : mj_H} : mj_Rn d mj_m332 9 ls st M = mq_k2 d mj_m332 ls M (mj_br (.ifCond .lt 25) 9 st) := mj_R2 (r := (.ifCond .lt 25, 3, 0, 0, 0)) rfl rfl
theorem s332_12 {d : Nat} {ls : mj_L} {st : List Value} {M : mj_H} : mj_Rn d mj_m332 12 ls st M = mq_k0 d mj_m332 13 ls M (mj_ldi (mj_lk ls 2) st) := mj_R0 (r := (.iload_n 2, 1, 0, 0, 0)) rfl rfl
theorem s332_13 {d : Nat} {ls : mj_L} {st : List Value} {M : mj_H} : mj_Rn d mj_m332 13 ls st M = mj_Rn d mj_m332 16 ls (.int 512 :: st) M := mj_R0 (r := (.sipush 512, 3, 0, 0, 0)) rfl rfl
theorem s332_16 {d : Nat} {ls : mj_L} {st : List Value} {M : mj_H} : mj_Rn d mj_m332 16 ls st M = mq_k2 d mj_m332 ls M (mj_br (.if_icmp .ge 18) 16 st) := mj_R2 (r := (.if_icmp .ge 18, 3, 0, 0, 0)) rfl rfl
theorem s332_19 {d : Nat} {ls : mj_L} {st : List Value} {M : mj_H} : mj_Rn d mj_m332 19 ls st M = mq_k0 d mj_m332 20 ls M (mj_lda (mj_lk ls 0) st) := mj_R0 (r := (.aload_n 0, 1, 0, 0, 0)) rfl rfl
theorem s332_20 {d : Nat} {ls : mj_L} {st : List Value} {M : mj_H} : mj_Rn d mj_m332 20 ls st M = mq_k0 d mj_m332 23 ls M (mq_gf 11 13 st M) := (mj_R3 (r := (.getfield 30, 3, 11, 13, 49622)) rfl rfl).trans (congrArg (mq_k0 d mj_m332 23 ls M) mq_gf_eq)
theorem s332_23 {d : Nat} {ls : mj_L} {st : List Value} {M : mj_H} : mj_Rn d mj_m332 23 ls st M = mj_Rn d mj_m332 26 ls (.int 512 :: st) M := mj_R0 (r := (.sipush 512, 3, 0, 0, 0)) rfl rfl
theorem s332_26 {d : Nat} {ls : mj_L} {st : List Value} {M : mj_H} : mj_Rn d mj_m332 26 ls st M = mq_k0 d mj_m332 27 ls M (mj_ldi (mj_lk ls 1) st) := mj_R0 (r := (.iload_n 1, 1, 0, 0, 0)) rfl rfl
theorem s332_27 {d : Nat} {ls : mj_L} {st : List Value} {M : mj_H} : mj_Rn d mj_m332 27 ls st M = mq_k0 d mj_m332 28 ls M (mj_pu .imul ls st) := mj_R0 (r := (.imul, 1, 0, 0, 0)) rfl rfl
theorem s332_28 {d : Nat} {ls : mj_L} {st : List Value} {M : mj_H} : mj_Rn d mj_m332 28 ls st M = mq_k0 d mj_m332 29 ls M (mj_ldi (mj_lk ls 2) st) := mj_R0 (r := (.iload_n 2, 1, 0, 0, 0)) rfl rfl
theorem s332_29 {d : Nat} {ls : mj_L} {st : List Value} {M : mj_H} : mj_Rn d mj_m332 29 ls st M = mq_k0 d mj_m332 30 ls M (mj_pu .iadd ls st) := mj_R0 (r := (.iadd, 1, 0, 0, 0)) rfl rfl
theorem s332_30 {d : Nat} {ls : mj_L} {st : List Value} {M : mj_H} : mj_Rn d mj_m332 30 ls st M = mq_k0 d mj_m332 31 ls M (mq_al [1000] st M) := (mj_R3 (r := (.iaload, 1, 0, 0, 0)) rfl rfl).trans (congrArg (mq_k0 d mj_m332 31 ls M) mq_ali_eq)
theorem s332_31 {d : Nat} {ls : mj_L} {st : List Value} {M : mj_H} : mj_Rn d mj_m332 31 ls st M = mj_Rn d mj_m332 35 ls st M := mj_R2 (r := (.goto 4, 3, 0, 0, 0)) rfl rfl
theorem s332_34 {d : Nat} {ls : mj_L} {st : List Value} {M : mj_H} : mj_Rn d mj_m332 34 ls st M = mj_Rn d mj_m332 35 ls (.int (-1) :: st) M := mj_R0 (r := (.iconst (-1), 1, 0, 0, 0)) rfl rfl
theorem s332_35 {d : Nat} {ls : mj_L} {st : List Value} {M : mj_H} : mj_Rn d mj_m332 35 ls st M = mq_k6 M (mj_re (some .int) (.ireturn) st) := mj_R6 (r := (.ireturn, 1, 0, 0, 0)) rfl rfl
/- 334 PasskeyHouseModel.credential(III)I -/
theorem s334_0 {d : Nat} {ls : mj_L} {st : List Value} {M : mj_H} : mj_Rn d mj_m334 0 ls st M = mq_k0 d mj_m334 1 ls M (mj_lda (mj_lk ls 0) st) := mj_R0 (r := (.aload_n 0, 1, 0, 0, 0)) rfl rfl
theorem s334_1 {d : Nat} {ls : mj_L} {st : List Value} {M : mj_H} : mj_Rn d mj_m334 1 ls st M = mq_k0 d mj_m334 2 ls M (mj_ldi (mj_lk ls 1) st) := mj_R0 (r := (.iload_n 1, 1, 0, 0, 0)) rfl rfl
theorem s334_2 {d : Nat} {ls : mj_L} {st : List Value} {M : mj_H} : mj_Rn (d + 1) mj_m334 2 ls st M = mq_k5a (d + 1) mj_m334 5 ls M 271 (mq_cb 0 1 11 st M) := mj_R5e (r := (.invokevirtual 578, 3, 0, 271, 32935)) (z := mj_m271) rfl rfl (by decide) (by decide) rfl
theorem s334_5 {d : Nat} {ls : mj_L} {st : List Value} {M : mj_H} : mj_Rn d mj_m334 5 ls st M = mq_k2 d mj_m334 ls M (mj_br (.ifCond .eq 30) 5 st) := mj_R2 (r := (.ifCond .eq 30, 3, 0, 0, 0)) rfl rfl
theorem s334_8 {d : Nat} {ls : mj_L} {st : List Value} {M : mj_H} : mj_Rn d mj_m334 8 ls st M = mq_k0 d mj_m334 9 ls M (mj_lda (mj_lk ls 0) st) := mj_R0 (r := (.aload_n 0, 1, 0, 0, 0)) rfl rfl
theorem s334_9 {d : Nat} {ls : mj_L} {st : List Value} {M : mj_H} : mj_Rn d mj_m334 9 ls st M = mq_k0 d mj_m334 12 ls M (mq_gf 11 14 st M) := (mj_R3 (r := (.getfield 33, 3, 11, 14, 49624)) rfl rfl).trans (congrArg (mq_k0 d mj_m334 12 ls M) mq_gf_eq)
theorem s334_12 {d : Nat} {ls : mj_L} {st : List Value} {M : mj_H} : mj_Rn d mj_m334 12 ls st M = mq_k0 d mj_m334 13 ls M (mj_ldi (mj_lk ls 1) st) := mj_R0 (r := (.iload_n 1, 1, 0, 0, 0)) rfl rfl
theorem s334_13 {d : Nat} {ls : mj_L} {st : List Value} {M : mj_H} : mj_Rn d mj_m334 13 ls st M = mq_k0 d mj_m334 14 ls M (mq_al [1001, 1002] st M) := (mj_R3 (r := (.baload, 1, 0, 0, 0)) rfl rfl).trans (congrArg (mq_k0 d mj_m334 14 ls M) mq_alb_eq)
theorem s334_14 {d : Nat} {ls : mj_L} {st : List Value} {M : mj_H} : mj_Rn d mj_m334 14 ls st M = mq_k2 d mj_m334 ls M (mj_br (.ifCond .eq 21) 14 st) := mj_R2 (r := (.ifCond .eq 21, 3, 0, 0, 0)) rfl rfl
theorem s334_17 {d : Nat} {ls : mj_L} {st : List Value} {M : mj_H} : mj_Rn d mj_m334 17 ls st M = mq_k0 d mj_m334 18 ls M (mj_ldi (mj_lk ls 2) st) := mj_R0 (r := (.iload_n 2, 1, 0, 0, 0)) rfl rfl
theorem s334_18 {d : Nat} {ls : mj_L} {st : List Value} {M : mj_H} : mj_Rn d mj_m334 18 ls st M = mq_k2 d mj_m334 ls M (mj_br (.ifCond .lt 17) 18 st) := mj_R2 (r := (.ifCond .lt 17, 3, 0, 0, 0)) rfl rfl
theorem s334_21 {d : Nat} {ls : mj_L} {st : List Value} {M : mj_H} : mj_Rn d mj_m334 21 ls st M = mq_k0 d mj_m334 22 ls M (mj_ldi (mj_lk ls 2) st) := mj_R0 (r := (.iload_n 2, 1, 0, 0, 0)) rfl rfl
theorem s334_22 {d : Nat} {ls : mj_L} {st : List Value} {M : mj_H} : mj_Rn d mj_m334 22 ls st M = mq_k0 d mj_m334 23 ls M (mj_lda (mj_lk ls 0) st) := mj_R0 (r := (.aload_n 0, 1, 0, 0, 0)) rfl rfl
theorem s334_23 {d : Nat} {ls : mj_L} {st : List Value} {M : mj_H} : mj_Rn d mj_m334 23 ls st M = mq_k0 d mj_m334 26 ls M (mq_gf 11 27 st M) := (mj_R3 (r := (.getfield 73, 3, 11, 27, 57362)) rfl rfl).trans (congrArg (mq_k0 d mj_m334 26 ls M) mq_gf_eq)
theorem s334_26 {d : Nat} {ls : mj_L} {st : List Value} {M : mj_H} : mj_Rn d mj_m334 26 ls st M = mq_k0 d mj_m334 27 ls M (mj_ldi (mj_lk ls 1) st) := mj_R0 (r := (.iload_n 1, 1, 0, 0, 0)) rfl rfl
theorem s334_27 {d : Nat} {ls : mj_L} {st : List Value} {M : mj_H} : mj_Rn d mj_m334 27 ls st M = mq_k0 d mj_m334 28 ls M (mq_al [1000] st M) := (mj_R3 (r := (.iaload, 1, 0, 0, 0)) rfl rfl).trans (congrArg (mq_k0 d mj_m334 28 ls M) mq_ali_eq)
theorem s334_28 {d : Nat} {ls : mj_L} {st : List Value} {M : mj_H} : mj_Rn d mj_m334 28 ls st M = mq_k2 d mj_m334 ls M (mj_br (.if_icmp .ge 7) 28 st) := mj_R2 (r := (.if_icmp .ge 7, 3, 0, 0, 0)) rfl rfl
theorem s334_31 {d : Nat} {ls : mj_L} {st : List Value} {M : mj_H} : mj_Rn d mj_m334 31 ls st M = mq_k0 d mj_m334 32 ls M (mj_ldi (mj_lk ls 3) st) := mj_R0 (r := (.iload_n 3, 1, 0, 0, 0)) rfl rfl
theorem s334_32 {d : Nat} {ls : mj_L} {st : List Value} {M : mj_H} : mj_Rn d mj_m334 32 ls st M = mq_k2 d mj_m334 ls M (mj_br (.ifCond .ge 5) 32 st) := mj_R2 (r := (.ifCond .ge 5, 3, 0, 0, 0)) rfl rfl
theorem s334_35 {d : Nat} {ls : mj_L} {st : List Value} {M : mj_H} : mj_Rn d mj_m334 35 ls st M = mj_Rn d mj_m334 36 ls (.int (-1) :: st) M := mj_R0 (r := (.iconst (-1), 1, 0, 0, 0)) rfl rfl
theorem s334_36 {d : Nat} {ls : mj_L} {st : List Value} {M : mj_H} : mj_Rn d mj_m334 36 ls st M = mq_k6 M (mj_re (some .int) (.ireturn) st) := mj_R6 (r := (.ireturn, 1, 0, 0, 0)) rfl rfl
theorem s334_37 {d : Nat} {ls : mj_L} {st : List Value} {M : mj_H} : mj_Rn d mj_m334 37 ls st M = mj_Rn d mj_m334 39 ls (.int 12 :: st) M := mj_R0 (r := (.bipush 12, 2, 0, 0, 0)) rfl rfl
theorem s334_39 {d : Nat} {ls : mj_L} {st : List Value} {M : mj_H} : mj_Rn d mj_m334 39 ls st M = mq_k0 d mj_m334 40 ls M (mj_ldi (mj_lk ls 1) st) := mj_R0 (r := (.iload_n 1, 1, 0, 0, 0)) rfl rfl
theorem s334_40 {d : Nat} {ls : mj_L} {st : List Value} {M : mj_H} : mj_Rn d mj_m334 40 ls st M = mq_k0 d mj_m334 41 ls M (mj_pu .imul ls st) := mj_R0 (r := (.imul, 1, 0, 0, 0)) rfl rfl
theorem s334_41 {d : Nat} {ls : mj_L} {st : List Value} {M : mj_H} : mj_Rn d mj_m334 41 ls st M = mq_k0 d mj_m334 42 ls M (mj_ldi (mj_lk ls 2) st) := mj_R0 (r := (.iload_n 2, 1, 0, 0, 0)) rfl rfl
theorem s334_42 {d : Nat} {ls : mj_L} {st : List Value} {M : mj_H} : mj_Rn d mj_m334 42 ls st M = mq_k0 d mj_m334 43 ls M (mj_pu .iadd ls st) := mj_R0 (r := (.iadd, 1, 0, 0, 0)) rfl rfl
theorem s334_43 {d : Nat} {ls : mj_L} {st : List Value} {M : mj_H} : mj_Rn d mj_m334 43 ls st M = mq_k1 d mj_m334 45 M (mj_lo 5 (.istore 4) ls st) := mj_R1 (r := (.istore 4, 2, 0, 0, 0)) rfl rfl
theorem s334_45 {d : Nat} {ls : mj_L} {st : List Value} {M : mj_H} : mj_Rn d mj_m334 45 ls st M = mq_k0 d mj_m334 46 ls M (mj_ldi (mj_lk ls 3) st) := mj_R0 (r := (.iload_n 3, 1, 0, 0, 0)) rfl rfl
theorem s334_46 {d : Nat} {ls : mj_L} {st : List Value} {M : mj_H} : mj_Rn d mj_m334 46 ls st M = mj_Rn d mj_m334 47 ls (.int 3 :: st) M := mj_R0 (r := (.iconst 3, 1, 0, 0, 0)) rfl rfl
theorem s334_47 {d : Nat} {ls : mj_L} {st : List Value} {M : mj_H} : mj_Rn d mj_m334 47 ls st M = mq_k2 d mj_m334 ls M (mj_br (.if_icmp .le 35) 47 st) := mj_R2 (r := (.if_icmp .le 35, 3, 0, 0, 0)) rfl rfl
theorem s334_50 {d : Nat} {ls : mj_L} {st : List Value} {M : mj_H} : mj_Rn d mj_m334 50 ls st M = mq_k0 d mj_m334 51 ls M (mj_ldi (mj_lk ls 3) st) := mj_R0 (r := (.iload_n 3, 1, 0, 0, 0)) rfl rfl
theorem s334_51 {d : Nat} {ls : mj_L} {st : List Value} {M : mj_H} : mj_Rn d mj_m334 51 ls st M = mj_Rn d mj_m334 52 ls (.int 4 :: st) M := mj_R0 (r := (.iconst 4, 1, 0, 0, 0)) rfl rfl
theorem s334_52 {d : Nat} {ls : mj_L} {st : List Value} {M : mj_H} : mj_Rn d mj_m334 52 ls st M = mq_k0 d mj_m334 53 ls M (mj_pu .isub ls st) := mj_R0 (r := (.isub, 1, 0, 0, 0)) rfl rfl
theorem s334_53 {d : Nat} {ls : mj_L} {st : List Value} {M : mj_H} : mj_Rn d mj_m334 53 ls st M = mq_k0 d mj_m334 54 ls M (mj_lda (mj_lk ls 0) st) := mj_R0 (r := (.aload_n 0, 1, 0, 0, 0)) rfl rfl
theorem s334_54 {d : Nat} {ls : mj_L} {st : List Value} {M : mj_H} : mj_Rn d mj_m334 54 ls st M = mq_k0 d mj_m334 57 ls M (mq_gf 11 32 st M) := (mj_R3 (r := (.getfield 88, 3, 11, 32, 57372)) rfl rfl).trans (congrArg (mq_k0 d mj_m334 57 ls M) mq_gf_eq)
theorem s334_57 {d : Nat} {ls : mj_L} {st : List Value} {M : mj_H} : mj_Rn d mj_m334 57 ls st M = mq_k0 d mj_m334 59 ls M (mj_ldi (mj_lk ls 4) st) := mj_R0 (r := (.iload 4, 2, 0, 0, 0)) rfl rfl
theorem s334_59 {d : Nat} {ls : mj_L} {st : List Value} {M : mj_H} : mj_Rn d mj_m334 59 ls st M = mq_k0 d mj_m334 60 ls M (mq_al [1000] st M) := (mj_R3 (r := (.iaload, 1, 0, 0, 0)) rfl rfl).trans (congrArg (mq_k0 d mj_m334 60 ls M) mq_ali_eq)
theorem s334_60 {d : Nat} {ls : mj_L} {st : List Value} {M : mj_H} : mj_Rn d mj_m334 60 ls st M = mq_k2 d mj_m334 ls M (mj_br (.if_icmp .ge 20) 60 st) := mj_R2 (r := (.if_icmp .ge 20, 3, 0, 0, 0)) rfl rfl
theorem s334_63 {d : Nat} {ls : mj_L} {st : List Value} {M : mj_H} : mj_Rn d mj_m334 63 ls st M = mq_k0 d mj_m334 64 ls M (mj_lda (mj_lk ls 0) st) := mj_R0 (r := (.aload_n 0, 1, 0, 0, 0)) rfl rfl
theorem s334_64 {d : Nat} {ls : mj_L} {st : List Value} {M : mj_H} : mj_Rn d mj_m334 64 ls st M = mq_k0 d mj_m334 67 ls M (mq_gf 11 33 st M) := (mj_R3 (r := (.getfield 91, 3, 11, 33, 57374)) rfl rfl).trans (congrArg (mq_k0 d mj_m334 67 ls M) mq_gf_eq)
theorem s334_67 {d : Nat} {ls : mj_L} {st : List Value} {M : mj_H} : mj_Rn d mj_m334 67 ls st M = mj_Rn d mj_m334 69 ls (.int 8 :: st) M := mj_R0 (r := (.bipush 8, 2, 0, 0, 0)) rfl rfl
theorem s334_69 {d : Nat} {ls : mj_L} {st : List Value} {M : mj_H} : mj_Rn d mj_m334 69 ls st M = mq_k0 d mj_m334 71 ls M (mj_ldi (mj_lk ls 4) st) := mj_R0 (r := (.iload 4, 2, 0, 0, 0)) rfl rfl
theorem s334_71 {d : Nat} {ls : mj_L} {st : List Value} {M : mj_H} : mj_Rn d mj_m334 71 ls st M = mq_k0 d mj_m334 72 ls M (mj_pu .imul ls st) := mj_R0 (r := (.imul, 1, 0, 0, 0)) rfl rfl
theorem s334_72 {d : Nat} {ls : mj_L} {st : List Value} {M : mj_H} : mj_Rn d mj_m334 72 ls st M = mq_k0 d mj_m334 73 ls M (mj_ldi (mj_lk ls 3) st) := mj_R0 (r := (.iload_n 3, 1, 0, 0, 0)) rfl rfl
theorem s334_73 {d : Nat} {ls : mj_L} {st : List Value} {M : mj_H} : mj_Rn d mj_m334 73 ls st M = mq_k0 d mj_m334 74 ls M (mj_pu .iadd ls st) := mj_R0 (r := (.iadd, 1, 0, 0, 0)) rfl rfl
theorem s334_74 {d : Nat} {ls : mj_L} {st : List Value} {M : mj_H} : mj_Rn d mj_m334 74 ls st M = mj_Rn d mj_m334 75 ls (.int 4 :: st) M := mj_R0 (r := (.iconst 4, 1, 0, 0, 0)) rfl rfl
theorem s334_75 {d : Nat} {ls : mj_L} {st : List Value} {M : mj_H} : mj_Rn d mj_m334 75 ls st M = mq_k0 d mj_m334 76 ls M (mj_pu .isub ls st) := mj_R0 (r := (.isub, 1, 0, 0, 0)) rfl rfl
theorem s334_76 {d : Nat} {ls : mj_L} {st : List Value} {M : mj_H} : mj_Rn d mj_m334 76 ls st M = mq_k0 d mj_m334 77 ls M (mq_al [1000] st M) := (mj_R3 (r := (.iaload, 1, 0, 0, 0)) rfl rfl).trans (congrArg (mq_k0 d mj_m334 77 ls M) mq_ali_eq)
theorem s334_77 {d : Nat} {ls : mj_L} {st : List Value} {M : mj_H} : mj_Rn d mj_m334 77 ls st M = mj_Rn d mj_m334 81 ls st M := mj_R2 (r := (.goto 4, 3, 0, 0, 0)) rfl rfl
theorem s334_80 {d : Nat} {ls : mj_L} {st : List Value} {M : mj_H} : mj_Rn d mj_m334 80 ls st M = mj_Rn d mj_m334 81 ls (.int (-1) :: st) M := mj_R0 (r := (.iconst (-1), 1, 0, 0, 0)) rfl rfl
theorem s334_81 {d : Nat} {ls : mj_L} {st : List Value} {M : mj_H} : mj_Rn d mj_m334 81 ls st M = mq_k6 M (mj_re (some .int) (.ireturn) st) := mj_R6 (r := (.ireturn, 1, 0, 0, 0)) rfl rfl
theorem s334_82 {d : Nat} {ls : mj_L} {st : List Value} {M : mj_H} : mj_Rn d mj_m334 82 ls st M = mq_k0 d mj_m334 83 ls M (mj_ldi (mj_lk ls 3) st) := mj_R0 (r := (.iload_n 3, 1, 0, 0, 0)) rfl rfl
theorem s334_83 {d : Nat} {ls : mj_L} {st : List Value} {M : mj_H} : mj_Rn d mj_m334 83 ls st M = mq_k2 d mj_m334 ls M (mj_br (.ifCond .ne 13) 83 st) := mj_R2 (r := (.ifCond .ne 13, 3, 0, 0, 0)) rfl rfl
theorem s334_86 {d : Nat} {ls : mj_L} {st : List Value} {M : mj_H} : mj_Rn d mj_m334 86 ls st M = mq_k0 d mj_m334 87 ls M (mj_lda (mj_lk ls 0) st) := mj_R0 (r := (.aload_n 0, 1, 0, 0, 0)) rfl rfl
theorem s334_87 {d : Nat} {ls : mj_L} {st : List Value} {M : mj_H} : mj_Rn d mj_m334 87 ls st M = mq_k0 d mj_m334 90 ls M (mq_gf 11 28 st M) := (mj_R3 (r := (.getfield 76, 3, 11, 28, 57364)) rfl rfl).trans (congrArg (mq_k0 d mj_m334 90 ls M) mq_gf_eq)
theorem s334_90 {d : Nat} {ls : mj_L} {st : List Value} {M : mj_H} : mj_Rn d mj_m334 90 ls st M = mq_k0 d mj_m334 92 ls M (mj_ldi (mj_lk ls 4) st) := mj_R0 (r := (.iload 4, 2, 0, 0, 0)) rfl rfl
theorem s334_92 {d : Nat} {ls : mj_L} {st : List Value} {M : mj_H} : mj_Rn d mj_m334 92 ls st M = mq_k0 d mj_m334 93 ls M (mq_al [1000] st M) := (mj_R3 (r := (.iaload, 1, 0, 0, 0)) rfl rfl).trans (congrArg (mq_k0 d mj_m334 93 ls M) mq_ali_eq)
theorem s334_93 {d : Nat} {ls : mj_L} {st : List Value} {M : mj_H} : mj_Rn d mj_m334 93 ls st M = mj_Rn d mj_m334 133 ls st M := mj_R2 (r := (.goto 40, 3, 0, 0, 0)) rfl rfl
theorem s334_96 {d : Nat} {ls : mj_L} {st : List Value} {M : mj_H} : mj_Rn d mj_m334 96 ls st M = mq_k0 d mj_m334 97 ls M (mj_ldi (mj_lk ls 3) st) := mj_R0 (r := (.iload_n 3, 1, 0, 0, 0)) rfl rfl
theorem s334_97 {d : Nat} {ls : mj_L} {st : List Value} {M : mj_H} : mj_Rn d mj_m334 97 ls st M = mj_Rn d mj_m334 98 ls (.int 1 :: st) M := mj_R0 (r := (.iconst 1, 1, 0, 0, 0)) rfl rfl
theorem s334_98 {d : Nat} {ls : mj_L} {st : List Value} {M : mj_H} : mj_Rn d mj_m334 98 ls st M = mq_k2 d mj_m334 ls M (mj_br (.if_icmp .ne 13) 98 st) := mj_R2 (r := (.if_icmp .ne 13, 3, 0, 0, 0)) rfl rfl
theorem s334_101 {d : Nat} {ls : mj_L} {st : List Value} {M : mj_H} : mj_Rn d mj_m334 101 ls st M = mq_k0 d mj_m334 102 ls M (mj_lda (mj_lk ls 0) st) := mj_R0 (r := (.aload_n 0, 1, 0, 0, 0)) rfl rfl
theorem s334_102 {d : Nat} {ls : mj_L} {st : List Value} {M : mj_H} : mj_Rn d mj_m334 102 ls st M = mq_k0 d mj_m334 105 ls M (mq_gf 11 29 st M) := (mj_R3 (r := (.getfield 79, 3, 11, 29, 57366)) rfl rfl).trans (congrArg (mq_k0 d mj_m334 105 ls M) mq_gf_eq)
theorem s334_105 {d : Nat} {ls : mj_L} {st : List Value} {M : mj_H} : mj_Rn d mj_m334 105 ls st M = mq_k0 d mj_m334 107 ls M (mj_ldi (mj_lk ls 4) st) := mj_R0 (r := (.iload 4, 2, 0, 0, 0)) rfl rfl
theorem s334_107 {d : Nat} {ls : mj_L} {st : List Value} {M : mj_H} : mj_Rn d mj_m334 107 ls st M = mq_k0 d mj_m334 108 ls M (mq_al [1000] st M) := (mj_R3 (r := (.iaload, 1, 0, 0, 0)) rfl rfl).trans (congrArg (mq_k0 d mj_m334 108 ls M) mq_ali_eq)
theorem s334_108 {d : Nat} {ls : mj_L} {st : List Value} {M : mj_H} : mj_Rn d mj_m334 108 ls st M = mj_Rn d mj_m334 133 ls st M := mj_R2 (r := (.goto 25, 3, 0, 0, 0)) rfl rfl
theorem s334_111 {d : Nat} {ls : mj_L} {st : List Value} {M : mj_H} : mj_Rn d mj_m334 111 ls st M = mq_k0 d mj_m334 112 ls M (mj_ldi (mj_lk ls 3) st) := mj_R0 (r := (.iload_n 3, 1, 0, 0, 0)) rfl rfl
theorem s334_112 {d : Nat} {ls : mj_L} {st : List Value} {M : mj_H} : mj_Rn d mj_m334 112 ls st M = mj_Rn d mj_m334 113 ls (.int 2 :: st) M := mj_R0 (r := (.iconst 2, 1, 0, 0, 0)) rfl rfl
theorem s334_113 {d : Nat} {ls : mj_L} {st : List Value} {M : mj_H} : mj_Rn d mj_m334 113 ls st M = mq_k2 d mj_m334 ls M (mj_br (.if_icmp .ne 13) 113 st) := mj_R2 (r := (.if_icmp .ne 13, 3, 0, 0, 0)) rfl rfl
theorem s334_116 {d : Nat} {ls : mj_L} {st : List Value} {M : mj_H} : mj_Rn d mj_m334 116 ls st M = mq_k0 d mj_m334 117 ls M (mj_lda (mj_lk ls 0) st) := mj_R0 (r := (.aload_n 0, 1, 0, 0, 0)) rfl rfl
theorem s334_117 {d : Nat} {ls : mj_L} {st : List Value} {M : mj_H} : mj_Rn d mj_m334 117 ls st M = mq_k0 d mj_m334 120 ls M (mq_gf 11 31 st M) := (mj_R3 (r := (.getfield 85, 3, 11, 31, 57370)) rfl rfl).trans (congrArg (mq_k0 d mj_m334 120 ls M) mq_gf_eq)
theorem s334_120 {d : Nat} {ls : mj_L} {st : List Value} {M : mj_H} : mj_Rn d mj_m334 120 ls st M = mq_k0 d mj_m334 122 ls M (mj_ldi (mj_lk ls 4) st) := mj_R0 (r := (.iload 4, 2, 0, 0, 0)) rfl rfl
theorem s334_122 {d : Nat} {ls : mj_L} {st : List Value} {M : mj_H} : mj_Rn d mj_m334 122 ls st M = mq_k0 d mj_m334 123 ls M (mq_al [1000] st M) := (mj_R3 (r := (.iaload, 1, 0, 0, 0)) rfl rfl).trans (congrArg (mq_k0 d mj_m334 123 ls M) mq_ali_eq)
theorem s334_123 {d : Nat} {ls : mj_L} {st : List Value} {M : mj_H} : mj_Rn d mj_m334 123 ls st M = mj_Rn d mj_m334 133 ls st M := mj_R2 (r := (.goto 10, 3, 0, 0, 0)) rfl rfl
theorem s334_126 {d : Nat} {ls : mj_L} {st : List Value} {M : mj_H} : mj_Rn d mj_m334 126 ls st M = mq_k0 d mj_m334 127 ls M (mj_lda (mj_lk ls 0) st) := mj_R0 (r := (.aload_n 0, 1, 0, 0, 0)) rfl rfl
theorem s334_127 {d : Nat} {ls : mj_L} {st : List Value} {M : mj_H} : mj_Rn d mj_m334 127 ls st M = mq_k0 d mj_m334 130 ls M (mq_gf 11 32 st M) := (mj_R3 (r := (.getfield 88, 3, 11, 32, 57372)) rfl rfl).trans (congrArg (mq_k0 d mj_m334 130 ls M) mq_gf_eq)
theorem s334_130 {d : Nat} {ls : mj_L} {st : List Value} {M : mj_H} : mj_Rn d mj_m334 130 ls st M = mq_k0 d mj_m334 132 ls M (mj_ldi (mj_lk ls 4) st) := mj_R0 (r := (.iload 4, 2, 0, 0, 0)) rfl rfl
theorem s334_132 {d : Nat} {ls : mj_L} {st : List Value} {M : mj_H} : mj_Rn d mj_m334 132 ls st M = mq_k0 d mj_m334 133 ls M (mq_al [1000] st M) := (mj_R3 (r := (.iaload, 1, 0, 0, 0)) rfl rfl).trans (congrArg (mq_k0 d mj_m334 133 ls M) mq_ali_eq)
theorem s334_133 {d : Nat} {ls : mj_L} {st : List Value} {M : mj_H} : mj_Rn d mj_m334 133 ls st M = mq_k6 M (mj_re (some .int) (.ireturn) st) := mj_R6 (r := (.ireturn, 1, 0, 0, 0)) rfl rfl
theorem c272 {d : Nat} {a0 : Nat} {x1 : Int32} {M : mj_H} : mj_V (d + 1) 272 [.ref a0, .int x1] M = mj_Rn d mj_m272 0 [(0, .ref a0), (1, .int x1)] [] M := mj_V_go rfl (Nat.le_of_ble_eq_true rfl)
theorem c273 {d : Nat} {a0 : Nat} {x1 : Int32} {x2 : Int32} {M : mj_H} : mj_V (d + 1) 273 [.ref a0, .int x1, .int x2] M = mj_Rn d mj_m273 0 [(0, .ref a0), (1, .int x1), (2, .int x2)] [] M := mj_V_go rfl (Nat.le_of_ble_eq_true rfl)
theorem c330 {d : Nat} {a0 : Nat} {x1 : Int32} {x2 : Int32} {M : mj_H} : mj_V (d + 1) 330 [.ref a0, .int x1, .int x2] M = mj_Rn d mj_m330 0 [(0, .ref a0), (1, .int x1), (2, .int x2)] [] M := mj_V_go rfl (Nat.le_of_ble_eq_true rfl)
theorem c331 {d : Nat} {a0 : Nat} {x1 : Int32} {M : mj_H} : mj_V (d + 1) 331 [.ref a0, .int x1] M = mj_Rn d mj_m331 0 [(0, .ref a0), (1, .int x1)] [] M := mj_V_go rfl (Nat.le_of_ble_eq_true rfl)
theorem c332 {d : Nat} {a0 : Nat} {x1 : Int32} {x2 : Int32} {M : mj_H} : mj_V (d + 1) 332 [.ref a0, .int x1, .int x2] M = mj_Rn d mj_m332 0 [(0, .ref a0), (1, .int x1), (2, .int x2)] [] M := mj_V_go rfl (Nat.le_of_ble_eq_true rfl)
theorem c334 {d : Nat} {a0 : Nat} {x1 : Int32} {x2 : Int32} {x3 : Int32} {M : mj_H} : mj_V (d + 1) 334 [.ref a0, .int x1, .int x2, .int x3] M = mj_Rn d mj_m334 0 [(0, .ref a0), (1, .int x1), (2, .int x2), (3, .int x3)] [] M := mj_V_go rfl (Nat.le_of_ble_eq_true rfl)
/-- a call of the model answers and leaves what the pure house does -/
def oR (d J : Nat) (args : List Value) (B : Bs) (x : Fx) (y : Sy) (r : Int32 × Ho) : Prop := ∃ x' y', mj_V d J args (mm B x y) = some (some (.int r.1), mm B x' y') ∧ mz x' y' r.2
theorem lt_or (a b : Int32) : (a ≤ b) ↔ ¬ b < a := by rw [Int32.lt_iff_toInt_lt, Int32.le_iff_toInt_le]; omega
section
variable {d : Nat} {B : Bs} {x : Fx} {y : Sy} {H : Ho}
theorem key_at {i : Int32} {j : Nat} (hi : ix i H.2.2.1.length = some j) : ∃ k, H.2.2.1[j]? = some k ∧ i = nI j := by
  obtain ⟨rfl, hj, -⟩ := ix_some hi
  exact ⟨_, List.getElem?_eq_getElem hj, rfl⟩
theorem o_press (z : mz x y H) (i : Int32) (h9 : ∀ k ∈ H.2.2.1, k.1.2.1.1 ≤ 9) : oR (d + 2) 272 [.ref 67, .int i] B x y (ho_press H i) := by
  have rk := q_isKey (d := d) (B := B) (y := y) z.k.n z.k.n3 i
  unfold ho_press
  cases hi : ix i H.2.2.1.length with
  | none =>
    rw [hi] at rk
    refine ⟨x, y, ?_, z⟩
    simp (disch := (first | omega | decide)) [S_cb_mmade4_0, S_bx_mcan1_0, S_b8_mkey_1, S_b8_mkey_0, S_b1_mterm_0, S_b1_copy_0, S_b0_mod_7, S_b0_mod_6, S_b0_mod_5, S_b0_mod_3, S_b0_mod_2, S_b0_mod_1, S_b0_mod_0, S_cb_mmade4_1h, S_bx_mcan1_1h, S_b0_mod_4h, c272, s272_0, s272_1, s272_2, s272_5, s272_8, s272_9, s272_12, s272_13, s272_14, s272_16, s272_19, s272_20, s272_21, s272_22, s272_25, s272_26, s272_27, s272_28, s272_29, s272_30, s272_31, s272_32, s272_35, s272_36, s272_37, mq_k0s, mq_k1s, mq_k2s, mq_k4s, mq_k5s, mq_k5n, mq_k5as, mq_k6s, mj_pu, mj_lo, mj_br, mj_hr, mj_hw, mq_gf, mq_len, mq_al, mq_pf, mq_ok, mj_re, mq_lkm, mq_lkn, mj_ldi, mj_ldl, mj_lda, mj_ii, mj_ll, mj_li, mj_i1, ms_1, ms_2, f1_n, f1_i, f1_r, f1_u, f1_l, f2_n, f2_i, f2_r, f2_u, f2_l, mj_tg, mj_c1, mj_c2, mj_ar, mj_aw, mq_cb, mq_oi, mj_rm, Value.category, -getElem?_pos, List.getElem?_cons_zero, decide_eq_true, decide_eq_false, nl_lt, nl_le, ln_lt, ln_le, nl_eq, ln_eq, nl_add, ln_add, nl_sub, ln_mul, nI_sub, nI_mul, nI_add, nI_lt_iff, nI_le_iff, nI_inj, nI_num, mq_ix, nI_1, nl_mul, nl_div, rk, on1, narrow]
  | some j =>
    rw [hi] at rk
    obtain ⟨k, hk, rfl⟩ := key_at hi
    obtain ⟨hj, m, e, R, hf⟩ := z.key hk
    have hx := z.k.k
    have hw := h9 k (List.mem_of_getElem? hk)
    have hp := R.r.pr
    dsimp only
    rw [hk]
    dsimp only
    unfold ky_addp
    rw [e] at rk
    by_cases c : 9 ≤ k.1.2.1.1
    · rw [if_pos c]
      rw [show k.1.2.1.1 = 9 by omega] at hp
      refine ⟨x, y, ?_, by
        show mz x y (H.kt j (k, H.2.1))
        have := z.kt (q := (k, H.2.1)) hk R hf z.y
        rw [← e] at this
        exact this⟩
      conv => lhs; rw [e]
      conv => rhs; rw [e]
      simp (disch := (first | omega | decide)) [S_cb_mmade4_0, S_bx_mcan1_0, S_b8_mkey_1, S_b8_mkey_0, S_b1_mterm_0, S_b1_copy_0, S_b0_mod_7, S_b0_mod_6, S_b0_mod_5, S_b0_mod_3, S_b0_mod_2, S_b0_mod_1, S_b0_mod_0, S_cb_mmade4_1h, S_bx_mcan1_1h, S_b0_mod_4h, c272, s272_0, s272_1, s272_2, s272_5, s272_8, s272_9, s272_12, s272_13, s272_14, s272_16, s272_19, s272_20, s272_21, s272_22, s272_25, s272_26, s272_27, s272_28, s272_29, s272_30, s272_31, s272_32, s272_35, s272_36, s272_37, mq_k0s, mq_k1s, mq_k2s, mq_k4s, mq_k5s, mq_k5n, mq_k5as, mq_k6s, mj_pu, mj_lo, mj_br, mj_hr, mj_hw, mq_gf, mq_len, mq_al, mq_pf, mq_ok, mj_re, mq_lkm, mq_lkn, mj_ldi, mj_ldl, mj_lda, mj_ii, mj_ll, mj_li, mj_i1, ms_1, ms_2, f1_n, f1_i, f1_r, f1_u, f1_l, f2_n, f2_i, f2_r, f2_u, f2_l, mj_tg, mj_c1, mj_c2, mj_ar, mj_aw, mq_cb, mq_oi, mj_rm, Value.category, -getElem?_pos, List.getElem?_cons_zero, decide_eq_true, decide_eq_false, nl_lt, nl_le, ln_lt, ln_le, nl_eq, ln_eq, nl_add, ln_add, nl_sub, ln_mul, nI_sub, nI_mul, nI_add, nI_lt_iff, nI_le_iff, nI_inj, nI_num, mq_ix, nI_1, nl_mul, nl_div, wkc_on hx hj, wkl_on hx, wkc_acts hx hj, wkl_acts hx, wkc_limit hx hj, wkl_limit hx, wkc_generation hx hj, wkl_generation hx, wkc_area hx hj, wkl_area hx, wkc_fend hx hj, wkl_fend hx, wkc_master hx hj, wkl_master hx, wkc_pinOf hx hj, wkl_pinOf hx, wkc_tries hx hj, wkl_tries hx, wkc_own hx hj, wkl_own hx, wkc_creds hx hj, wkl_creds hx, wkc_presses hx hj, wkl_presses hx, wkc_taken hx hj, wkl_taken hx, wkc_answered hx hj, wkl_answered hx, wkc_agreeing hx hj, wkl_agreeing hx, wkc_token hx hj, wkl_token hx, wkc_wrong hx hj, wkl_wrong hx, wkc_heard hx hj, wkl_heard hx, wkc_listed hx hj, wkl_listed hx, wkc_listAt hx hj, wkl_listAt hx, wkc_listHash hx hj, wkl_listHash hx, wkc_listFlags hx hj, wkl_listFlags hx, wkc_answerSize hx hj, wkl_answerSize hx, wkc_flash hx hj, wkl_flash hx hj, rk, on1, hp, narrow]
    · rw [if_neg c]
      have R' : kMr (((((k.1.1.1.1, k.1.1.1.2), (k.1.1.2.1, k.1.1.2.2)), ((k.1.2.1.1 + 1, k.1.2.1.2), (k.1.2.2.1, k.1.2.2.2))), (((k.2.1.1.1, k.2.1.1.2), (k.2.1.2.1, k.2.1.2.2)), ((k.2.2.1.1, k.2.2.1.2), k.2.2.2))) : Ky) ((((((nI (k.1.2.1.1 + 1), m.1.1.1.1.2), m.1.1.1.2), (m.1.1.2.1, m.1.1.2.2)), (((m.1.2.1.1.1, m.1.2.1.1.2), m.1.2.1.2), (m.1.2.2.1, m.1.2.2.2))), ((((m.2.1.1.1.1, m.2.1.1.1.2), m.2.1.1.2), (m.2.1.2.1, m.2.1.2.2)), (((m.2.2.1.1.1, m.2.2.1.1.2), m.2.2.1.2), (m.2.2.2.1, m.2.2.2.2)))) : Mk) := (kMr_mk_ ((wm_mk_ R.w.credId R.w.credHash R.w.credSecret R.w.credCount R.w.credLong R.w.credUser R.w.list R.w.answers)) ((kr_mk_ rfl R.r.ta R.r.an R.r.ag R.r.tk R.r.wr R.r.he)) R.c R.l R.a)
      refine ⟨_, y, ?_, z.kt (q := ((((((k.1.1.1.1, k.1.1.1.2), (k.1.1.2.1, k.1.1.2.2)), ((k.1.2.1.1 + 1, k.1.2.1.2), (k.1.2.2.1, k.1.2.2.2))), (((k.2.1.1.1, k.2.1.1.2), (k.2.1.2.1, k.2.1.2.2)), ((k.2.2.1.1, k.2.2.1.2), k.2.2.2))) : Ky), H.2.1)) hk R' hf z.y⟩
      conv => lhs; rw [e]
      simp (disch := (first | omega | decide)) [S_cb_mmade4_0, S_bx_mcan1_0, S_b8_mkey_1, S_b8_mkey_0, S_b1_mterm_0, S_b1_copy_0, S_b0_mod_7, S_b0_mod_6, S_b0_mod_5, S_b0_mod_3, S_b0_mod_2, S_b0_mod_1, S_b0_mod_0, S_cb_mmade4_1h, S_bx_mcan1_1h, S_b0_mod_4h, c272, s272_0, s272_1, s272_2, s272_5, s272_8, s272_9, s272_12, s272_13, s272_14, s272_16, s272_19, s272_20, s272_21, s272_22, s272_25, s272_26, s272_27, s272_28, s272_29, s272_30, s272_31, s272_32, s272_35, s272_36, s272_37, mq_k0s, mq_k1s, mq_k2s, mq_k4s, mq_k5s, mq_k5n, mq_k5as, mq_k6s, mj_pu, mj_lo, mj_br, mj_hr, mj_hw, mq_gf, mq_len, mq_al, mq_pf, mq_ok, mj_re, mq_lkm, mq_lkn, mj_ldi, mj_ldl, mj_lda, mj_ii, mj_ll, mj_li, mj_i1, ms_1, ms_2, f1_n, f1_i, f1_r, f1_u, f1_l, f2_n, f2_i, f2_r, f2_u, f2_l, mj_tg, mj_c1, mj_c2, mj_ar, mj_aw, mq_cb, mq_oi, mj_rm, Value.category, -getElem?_pos, List.getElem?_cons_zero, decide_eq_true, decide_eq_false, nl_lt, nl_le, ln_lt, ln_le, nl_eq, ln_eq, nl_add, ln_add, nl_sub, ln_mul, nI_sub, nI_mul, nI_add, nI_lt_iff, nI_le_iff, nI_inj, nI_num, mq_ix, nI_1, nl_mul, nl_div, wkc_on hx hj, wkl_on hx, wkc_acts hx hj, wkl_acts hx, wkc_limit hx hj, wkl_limit hx, wkc_generation hx hj, wkl_generation hx, wkc_area hx hj, wkl_area hx, wkc_fend hx hj, wkl_fend hx, wkc_master hx hj, wkl_master hx, wkc_pinOf hx hj, wkl_pinOf hx, wkc_tries hx hj, wkl_tries hx, wkc_own hx hj, wkl_own hx, wkc_creds hx hj, wkl_creds hx, wkc_presses hx hj, wkl_presses hx, wkc_taken hx hj, wkl_taken hx, wkc_answered hx hj, wkl_answered hx, wkc_agreeing hx hj, wkl_agreeing hx, wkc_token hx hj, wkl_token hx, wkc_wrong hx hj, wkl_wrong hx, wkc_heard hx hj, wkl_heard hx, wkc_listed hx hj, wkl_listed hx, wkc_listAt hx hj, wkl_listAt hx, wkc_listHash hx hj, wkl_listHash hx, wkc_listFlags hx hj, wkl_listFlags hx, wkc_answerSize hx hj, wkl_answerSize hx, wkc_flash hx hj, wkl_flash hx hj, rk, on1, hp, narrow, show ¬ k.1.2.1.1 = 9 by omega]
theorem o_cut (z : mz x y H) (i a : Int32) : oR (d + 2) 273 [.ref 67, .int i, .int a] B x y (ho_cut H i a) := by
  have rk := q_isKey (d := d) (B := B) (y := y) z.k.n z.k.n3 i
  unfold ho_cut
  cases hi : ix i H.2.2.1.length with
  | none =>
    rw [hi] at rk
    refine ⟨x, y, ?_, z⟩
    simp (disch := (first | omega | decide)) [S_cb_mmade4_0, S_bx_mcan1_0, S_b8_mkey_1, S_b8_mkey_0, S_b1_mterm_0, S_b1_copy_0, S_b0_mod_7, S_b0_mod_6, S_b0_mod_5, S_b0_mod_3, S_b0_mod_2, S_b0_mod_1, S_b0_mod_0, S_cb_mmade4_1h, S_bx_mcan1_1h, S_b0_mod_4h, c273, s273_0, s273_1, s273_2, s273_5, s273_8, s273_9, s273_10, s273_13, s273_14, s273_17, s273_20, s273_21, s273_22, s273_23, s273_26, s273_27, s273_28, s273_29, s273_30, mq_k0s, mq_k1s, mq_k2s, mq_k4s, mq_k5s, mq_k5n, mq_k5as, mq_k6s, mj_pu, mj_lo, mj_br, mj_hr, mj_hw, mq_gf, mq_len, mq_al, mq_pf, mq_ok, mj_re, mq_lkm, mq_lkn, mj_ldi, mj_ldl, mj_lda, mj_ii, mj_ll, mj_li, mj_i1, ms_1, ms_2, f1_n, f1_i, f1_r, f1_u, f1_l, f2_n, f2_i, f2_r, f2_u, f2_l, mj_tg, mj_c1, mj_c2, mj_ar, mj_aw, mq_cb, mq_oi, mj_rm, Value.category, -getElem?_pos, List.getElem?_cons_zero, decide_eq_true, decide_eq_false, nl_lt, nl_le, ln_lt, ln_le, nl_eq, ln_eq, nl_add, ln_add, nl_sub, ln_mul, nI_sub, nI_mul, nI_add, nI_lt_iff, nI_le_iff, nI_inj, nI_num, mq_ix, nI_1, nl_mul, nl_div, rk, on1, narrow_b0]
  | some j =>
    rw [hi] at rk
    obtain ⟨k, hk, rfl⟩ := key_at hi
    obtain ⟨hj, m, e, R, hf⟩ := z.key hk
    have hx := z.k.k
    dsimp only
    rw [hk]
    dsimp only
    rw [e] at rk
    by_cases c : inR a (-1) 2000 = true
    · rw [if_pos c]
      unfold inR at c
      simp only [Bool.and_eq_true, decide_eq_true_eq] at c
      have c1 : ¬ a < -1 := (lt_or _ _).mp c.1
      have R' : kMr (((((((k.1.1.1.1.1, (k.1.1.1.1.2.1, (k.1.1.1.1.2.2.1, (a, (k.1.1.1.1.2.2.2.2.1, (k.1.1.1.1.2.2.2.2.2.1, (k.1.1.1.1.2.2.2.2.2.2.1, k.1.1.1.1.2.2.2.2.2.2.2))))))) : Fl), k.1.1.1.2), (k.1.1.2.1, k.1.1.2.2)), ((k.1.2.1.1, k.1.2.1.2), (k.1.2.2.1, k.1.2.2.2))), (((k.2.1.1.1, k.2.1.1.2), (k.2.1.2.1, k.2.1.2.2)), ((k.2.2.1.1, k.2.2.1.2), k.2.2.2))) : Ky) m := (kMr_mk_ R.w ((kr_mk_ R.r.pr R.r.ta R.r.an R.r.ag R.r.tk R.r.wr R.r.he)) R.c R.l R.a)
      refine ⟨_, y, ?_, z.kt (q := ((((((((k.1.1.1.1.1, (k.1.1.1.1.2.1, (k.1.1.1.1.2.2.1, (a, (k.1.1.1.1.2.2.2.2.1, (k.1.1.1.1.2.2.2.2.2.1, (k.1.1.1.1.2.2.2.2.2.2.1, k.1.1.1.1.2.2.2.2.2.2.2))))))) : Fl), k.1.1.1.2), (k.1.1.2.1, k.1.1.2.2)), ((k.1.2.1.1, k.1.2.1.2), (k.1.2.2.1, k.1.2.2.2))), (((k.2.1.1.1, k.2.1.1.2), (k.2.1.2.1, k.2.1.2.2)), ((k.2.2.1.1, k.2.2.1.2), k.2.2.2))) : Ky), H.2.1)) hk R' hf z.y⟩
      conv => lhs; rw [e]
      simp (disch := (first | omega | decide)) [S_cb_mmade4_0, S_bx_mcan1_0, S_b8_mkey_1, S_b8_mkey_0, S_b1_mterm_0, S_b1_copy_0, S_b0_mod_7, S_b0_mod_6, S_b0_mod_5, S_b0_mod_3, S_b0_mod_2, S_b0_mod_1, S_b0_mod_0, S_cb_mmade4_1h, S_bx_mcan1_1h, S_b0_mod_4h, c273, s273_0, s273_1, s273_2, s273_5, s273_8, s273_9, s273_10, s273_13, s273_14, s273_17, s273_20, s273_21, s273_22, s273_23, s273_26, s273_27, s273_28, s273_29, s273_30, mq_k0s, mq_k1s, mq_k2s, mq_k4s, mq_k5s, mq_k5n, mq_k5as, mq_k6s, mj_pu, mj_lo, mj_br, mj_hr, mj_hw, mq_gf, mq_len, mq_al, mq_pf, mq_ok, mj_re, mq_lkm, mq_lkn, mj_ldi, mj_ldl, mj_lda, mj_ii, mj_ll, mj_li, mj_i1, ms_1, ms_2, f1_n, f1_i, f1_r, f1_u, f1_l, f2_n, f2_i, f2_r, f2_u, f2_l, mj_tg, mj_c1, mj_c2, mj_ar, mj_aw, mq_cb, mq_oi, mj_rm, Value.category, -getElem?_pos, List.getElem?_cons_zero, decide_eq_true, decide_eq_false, nl_lt, nl_le, ln_lt, ln_le, nl_eq, ln_eq, nl_add, ln_add, nl_sub, ln_mul, nI_sub, nI_mul, nI_add, nI_lt_iff, nI_le_iff, nI_inj, nI_num, mq_ix, nI_1, nl_mul, nl_div, wkc_on hx hj, wkl_on hx, wkc_acts hx hj, wkl_acts hx, wkc_limit hx hj, wkl_limit hx, wkc_generation hx hj, wkl_generation hx, wkc_area hx hj, wkl_area hx, wkc_fend hx hj, wkl_fend hx, wkc_master hx hj, wkl_master hx, wkc_pinOf hx hj, wkl_pinOf hx, wkc_tries hx hj, wkl_tries hx, wkc_own hx hj, wkl_own hx, wkc_creds hx hj, wkl_creds hx, wkc_presses hx hj, wkl_presses hx, wkc_taken hx hj, wkl_taken hx, wkc_answered hx hj, wkl_answered hx, wkc_agreeing hx hj, wkl_agreeing hx, wkc_token hx hj, wkl_token hx, wkc_wrong hx hj, wkl_wrong hx, wkc_heard hx hj, wkl_heard hx, wkc_listed hx hj, wkl_listed hx, wkc_listAt hx hj, wkl_listAt hx, wkc_listHash hx hj, wkl_listHash hx, wkc_listFlags hx hj, wkl_listFlags hx, wkc_answerSize hx hj, wkl_answerSize hx, wkc_flash hx hj, wkl_flash hx hj, rk, on1, c1, c.2, narrow_b1]
    · rw [if_neg c]
      refine ⟨x, y, ?_, z⟩
      have c' : ¬ (-1 ≤ a) ∨ ¬ (a ≤ 2000) := by
        unfold inR at c
        simp only [Bool.and_eq_true, decide_eq_true_eq] at c
        by_cases q : -1 ≤ a
        · exact Or.inr (fun w => c ⟨q, w⟩)
        · exact Or.inl q
      conv => lhs; rw [e]
      conv => rhs; rw [e]
      by_cases q : a < -1
      · simp (disch := (first | omega | decide)) [S_cb_mmade4_0, S_bx_mcan1_0, S_b8_mkey_1, S_b8_mkey_0, S_b1_mterm_0, S_b1_copy_0, S_b0_mod_7, S_b0_mod_6, S_b0_mod_5, S_b0_mod_3, S_b0_mod_2, S_b0_mod_1, S_b0_mod_0, S_cb_mmade4_1h, S_bx_mcan1_1h, S_b0_mod_4h, c273, s273_0, s273_1, s273_2, s273_5, s273_8, s273_9, s273_10, s273_13, s273_14, s273_17, s273_20, s273_21, s273_22, s273_23, s273_26, s273_27, s273_28, s273_29, s273_30, mq_k0s, mq_k1s, mq_k2s, mq_k4s, mq_k5s, mq_k5n, mq_k5as, mq_k6s, mj_pu, mj_lo, mj_br, mj_hr, mj_hw, mq_gf, mq_len, mq_al, mq_pf, mq_ok, mj_re, mq_lkm, mq_lkn, mj_ldi, mj_ldl, mj_lda, mj_ii, mj_ll, mj_li, mj_i1, ms_1, ms_2, f1_n, f1_i, f1_r, f1_u, f1_l, f2_n, f2_i, f2_r, f2_u, f2_l, mj_tg, mj_c1, mj_c2, mj_ar, mj_aw, mq_cb, mq_oi, mj_rm, Value.category, -getElem?_pos, List.getElem?_cons_zero, decide_eq_true, decide_eq_false, nl_lt, nl_le, ln_lt, ln_le, nl_eq, ln_eq, nl_add, ln_add, nl_sub, ln_mul, nI_sub, nI_mul, nI_add, nI_lt_iff, nI_le_iff, nI_inj, nI_num, mq_ix, nI_1, nl_mul, nl_div, rk, on1, q, narrow_b0]
      · have q2 : ¬ a ≤ 2000 := by
          rcases c' with w | w
          · exact absurd ((lt_or _ _).mpr q) w
          · exact w
        simp (disch := (first | omega | decide)) [S_cb_mmade4_0, S_bx_mcan1_0, S_b8_mkey_1, S_b8_mkey_0, S_b1_mterm_0, S_b1_copy_0, S_b0_mod_7, S_b0_mod_6, S_b0_mod_5, S_b0_mod_3, S_b0_mod_2, S_b0_mod_1, S_b0_mod_0, S_cb_mmade4_1h, S_bx_mcan1_1h, S_b0_mod_4h, c273, s273_0, s273_1, s273_2, s273_5, s273_8, s273_9, s273_10, s273_13, s273_14, s273_17, s273_20, s273_21, s273_22, s273_23, s273_26, s273_27, s273_28, s273_29, s273_30, mq_k0s, mq_k1s, mq_k2s, mq_k4s, mq_k5s, mq_k5n, mq_k5as, mq_k6s, mj_pu, mj_lo, mj_br, mj_hr, mj_hw, mq_gf, mq_len, mq_al, mq_pf, mq_ok, mj_re, mq_lkm, mq_lkn, mj_ldi, mj_ldl, mj_lda, mj_ii, mj_ll, mj_li, mj_i1, ms_1, ms_2, f1_n, f1_i, f1_r, f1_u, f1_l, f2_n, f2_i, f2_r, f2_u, f2_l, mj_tg, mj_c1, mj_c2, mj_ar, mj_aw, mq_cb, mq_oi, mj_rm, Value.category, -getElem?_pos, List.getElem?_cons_zero, decide_eq_true, decide_eq_false, nl_lt, nl_le, ln_lt, ln_le, nl_eq, ln_eq, nl_add, ln_add, nl_sub, ln_mul, nI_sub, nI_mul, nI_add, nI_lt_iff, nI_le_iff, nI_inj, nI_num, mq_ix, nI_1, nl_mul, nl_div, rk, on1, q, q2, narrow_b0]
theorem o_answer (z : mz x y H) (i p : Int32) : oR (d + 2) 330 [.ref 67, .int i, .int p] B x y (ho_answer H i p) := by
  have rk := q_isKey (d := d) (B := B) (y := y) z.k.n z.k.n3 i
  unfold ho_answer
  cases hi : ix i H.2.2.1.length with
  | none =>
    rw [hi] at rk
    refine ⟨x, y, ?_, z⟩
    simp (disch := (first | omega | decide)) [S_cb_mmade4_0, S_bx_mcan1_0, S_b8_mkey_1, S_b8_mkey_0, S_b1_mterm_0, S_b1_copy_0, S_b0_mod_7, S_b0_mod_6, S_b0_mod_5, S_b0_mod_3, S_b0_mod_2, S_b0_mod_1, S_b0_mod_0, S_cb_mmade4_1h, S_bx_mcan1_1h, S_b0_mod_4h, c330, s330_0, s330_1, s330_2, s330_5, s330_8, s330_9, s330_12, s330_13, s330_14, s330_17, s330_18, s330_19, s330_22, s330_23, s330_26, s330_29, s330_30, s330_31, s330_32, s330_33, s330_34, s330_37, s330_38, mq_k0s, mq_k1s, mq_k2s, mq_k4s, mq_k5s, mq_k5n, mq_k5as, mq_k6s, mj_pu, mj_lo, mj_br, mj_hr, mj_hw, mq_gf, mq_len, mq_al, mq_pf, mq_ok, mj_re, mq_lkm, mq_lkn, mj_ldi, mj_ldl, mj_lda, mj_ii, mj_ll, mj_li, mj_i1, ms_1, ms_2, f1_n, f1_i, f1_r, f1_u, f1_l, f2_n, f2_i, f2_r, f2_u, f2_l, mj_tg, mj_c1, mj_c2, mj_ar, mj_aw, mq_cb, mq_oi, mj_rm, Value.category, -getElem?_pos, List.getElem?_cons_zero, decide_eq_true, decide_eq_false, nl_lt, nl_le, ln_lt, ln_le, nl_eq, ln_eq, nl_add, ln_add, nl_sub, ln_mul, nI_sub, nI_mul, nI_add, nI_lt_iff, nI_le_iff, nI_inj, nI_num, mq_ix, nI_1, nl_mul, nl_div, rk, on1, narrow]
  | some j =>
    rw [hi] at rk
    obtain ⟨k, hk, rfl⟩ := key_at hi
    obtain ⟨hj, m, e, R, hf⟩ := z.key hk
    have hx := z.k.k
    have hm := R.w
    dsimp only
    rw [hk]
    dsimp only
    rw [e] at rk
    refine ⟨x, y, ?_, z⟩
    conv => lhs; rw [e]
    conv => rhs; rw [e]
    rcases R.a with ⟨h1, h2⟩ | ⟨h1, h2, h3, h4⟩
    · rw [h1]
      have hb : bt_at ([] : List Int32) p = -1 := by unfold bt_at; split <;> simp [S_cb_mmade4_0, S_bx_mcan1_0, S_b8_mkey_1, S_b8_mkey_0, S_b1_mterm_0, S_b1_copy_0, S_b0_mod_7, S_b0_mod_6, S_b0_mod_5, S_b0_mod_3, S_b0_mod_2, S_b0_mod_1, S_b0_mod_0, S_cb_mmade4_1h, S_bx_mcan1_1h, S_b0_mod_4h]
      rw [hb]
      by_cases q : p < 0
      · simp (disch := (first | omega | decide)) [S_cb_mmade4_0, S_bx_mcan1_0, S_b8_mkey_1, S_b8_mkey_0, S_b1_mterm_0, S_b1_copy_0, S_b0_mod_7, S_b0_mod_6, S_b0_mod_5, S_b0_mod_3, S_b0_mod_2, S_b0_mod_1, S_b0_mod_0, S_cb_mmade4_1h, S_bx_mcan1_1h, S_b0_mod_4h, c330, s330_0, s330_1, s330_2, s330_5, s330_8, s330_9, s330_12, s330_13, s330_14, s330_17, s330_18, s330_19, s330_22, s330_23, s330_26, s330_29, s330_30, s330_31, s330_32, s330_33, s330_34, s330_37, s330_38, mq_k0s, mq_k1s, mq_k2s, mq_k4s, mq_k5s, mq_k5n, mq_k5as, mq_k6s, mj_pu, mj_lo, mj_br, mj_hr, mj_hw, mq_gf, mq_len, mq_al, mq_pf, mq_ok, mj_re, mq_lkm, mq_lkn, mj_ldi, mj_ldl, mj_lda, mj_ii, mj_ll, mj_li, mj_i1, ms_1, ms_2, f1_n, f1_i, f1_r, f1_u, f1_l, f2_n, f2_i, f2_r, f2_u, f2_l, mj_tg, mj_c1, mj_c2, mj_ar, mj_aw, mq_cb, mq_oi, mj_rm, Value.category, -getElem?_pos, List.getElem?_cons_zero, decide_eq_true, decide_eq_false, nl_lt, nl_le, ln_lt, ln_le, nl_eq, ln_eq, nl_add, ln_add, nl_sub, ln_mul, nI_sub, nI_mul, nI_add, nI_lt_iff, nI_le_iff, nI_inj, nI_num, mq_ix, nI_1, nl_mul, nl_div, rk, on1, q, narrow]
      · obtain ⟨n, hn, rfl⟩ := nI_of q
        have q2 : (-1 : Int32) ≤ nI n := by
          rw [lt_or]
          intro w
          exact q (by
            have : nI n < -1 := w
            rw [Int32.lt_iff_toInt_lt] at this ⊢
            have e1 : (-1 : Int32).toInt = -1 := rfl
            have e0 : (0 : Int32).toInt = 0 := rfl
            rw [e1] at this
            rw [e0]
            omega)
        simp (disch := (first | omega | decide)) [S_cb_mmade4_0, S_bx_mcan1_0, S_b8_mkey_1, S_b8_mkey_0, S_b1_mterm_0, S_b1_copy_0, S_b0_mod_7, S_b0_mod_6, S_b0_mod_5, S_b0_mod_3, S_b0_mod_2, S_b0_mod_1, S_b0_mod_0, S_cb_mmade4_1h, S_bx_mcan1_1h, S_b0_mod_4h, c330, s330_0, s330_1, s330_2, s330_5, s330_8, s330_9, s330_12, s330_13, s330_14, s330_17, s330_18, s330_19, s330_22, s330_23, s330_26, s330_29, s330_30, s330_31, s330_32, s330_33, s330_34, s330_37, s330_38, mq_k0s, mq_k1s, mq_k2s, mq_k4s, mq_k5s, mq_k5n, mq_k5as, mq_k6s, mj_pu, mj_lo, mj_br, mj_hr, mj_hw, mq_gf, mq_len, mq_al, mq_pf, mq_ok, mj_re, mq_lkm, mq_lkn, mj_ldi, mj_ldl, mj_lda, mj_ii, mj_ll, mj_li, mj_i1, ms_1, ms_2, f1_n, f1_i, f1_r, f1_u, f1_l, f2_n, f2_i, f2_r, f2_u, f2_l, mj_tg, mj_c1, mj_c2, mj_ar, mj_aw, mq_cb, mq_oi, mj_rm, Value.category, -getElem?_pos, List.getElem?_cons_zero, decide_eq_true, decide_eq_false, nl_lt, nl_le, ln_lt, ln_le, nl_eq, ln_eq, nl_add, ln_add, nl_sub, ln_mul, nI_sub, nI_mul, nI_add, nI_lt_iff, nI_le_iff, nI_inj, nI_num, mq_ix, nI_1, nl_mul, nl_div, wkc_on hx hj, wkl_on hx, wkc_acts hx hj, wkl_acts hx, wkc_limit hx hj, wkl_limit hx, wkc_generation hx hj, wkl_generation hx, wkc_area hx hj, wkl_area hx, wkc_fend hx hj, wkl_fend hx, wkc_master hx hj, wkl_master hx, wkc_pinOf hx hj, wkl_pinOf hx, wkc_tries hx hj, wkl_tries hx, wkc_own hx hj, wkl_own hx, wkc_creds hx hj, wkl_creds hx, wkc_presses hx hj, wkl_presses hx, wkc_taken hx hj, wkl_taken hx, wkc_answered hx hj, wkl_answered hx, wkc_agreeing hx hj, wkl_agreeing hx, wkc_token hx hj, wkl_token hx, wkc_wrong hx hj, wkl_wrong hx, wkc_heard hx hj, wkl_heard hx, wkc_listed hx hj, wkl_listed hx, wkc_listAt hx hj, wkl_listAt hx, wkc_listHash hx hj, wkl_listHash hx, wkc_listFlags hx hj, wkl_listFlags hx, wkc_answerSize hx hj, wkl_answerSize hx, wkc_flash hx hj, wkl_flash hx hj, rk, on1, q, h2, q2, narrow]
    · rw [bt_at_ix]
      cases hq : ix p k.1.1.1.2.length with
      | none =>
        rcases ix_none hq with q | ⟨n, rfl, hn, hnk⟩
        · simp (disch := (first | omega | decide)) [S_cb_mmade4_0, S_bx_mcan1_0, S_b8_mkey_1, S_b8_mkey_0, S_b1_mterm_0, S_b1_copy_0, S_b0_mod_7, S_b0_mod_6, S_b0_mod_5, S_b0_mod_3, S_b0_mod_2, S_b0_mod_1, S_b0_mod_0, S_cb_mmade4_1h, S_bx_mcan1_1h, S_b0_mod_4h, c330, s330_0, s330_1, s330_2, s330_5, s330_8, s330_9, s330_12, s330_13, s330_14, s330_17, s330_18, s330_19, s330_22, s330_23, s330_26, s330_29, s330_30, s330_31, s330_32, s330_33, s330_34, s330_37, s330_38, mq_k0s, mq_k1s, mq_k2s, mq_k4s, mq_k5s, mq_k5n, mq_k5as, mq_k6s, mj_pu, mj_lo, mj_br, mj_hr, mj_hw, mq_gf, mq_len, mq_al, mq_pf, mq_ok, mj_re, mq_lkm, mq_lkn, mj_ldi, mj_ldl, mj_lda, mj_ii, mj_ll, mj_li, mj_i1, ms_1, ms_2, f1_n, f1_i, f1_r, f1_u, f1_l, f2_n, f2_i, f2_r, f2_u, f2_l, mj_tg, mj_c1, mj_c2, mj_ar, mj_aw, mq_cb, mq_oi, mj_rm, Value.category, -getElem?_pos, List.getElem?_cons_zero, decide_eq_true, decide_eq_false, nl_lt, nl_le, ln_lt, ln_le, nl_eq, ln_eq, nl_add, ln_add, nl_sub, ln_mul, nI_sub, nI_mul, nI_add, nI_lt_iff, nI_le_iff, nI_inj, nI_num, mq_ix, nI_1, nl_mul, nl_div, rk, on1, q, narrow]
        · simp (disch := (first | omega | decide)) [S_cb_mmade4_0, S_bx_mcan1_0, S_b8_mkey_1, S_b8_mkey_0, S_b1_mterm_0, S_b1_copy_0, S_b0_mod_7, S_b0_mod_6, S_b0_mod_5, S_b0_mod_3, S_b0_mod_2, S_b0_mod_1, S_b0_mod_0, S_cb_mmade4_1h, S_bx_mcan1_1h, S_b0_mod_4h, c330, s330_0, s330_1, s330_2, s330_5, s330_8, s330_9, s330_12, s330_13, s330_14, s330_17, s330_18, s330_19, s330_22, s330_23, s330_26, s330_29, s330_30, s330_31, s330_32, s330_33, s330_34, s330_37, s330_38, mq_k0s, mq_k1s, mq_k2s, mq_k4s, mq_k5s, mq_k5n, mq_k5as, mq_k6s, mj_pu, mj_lo, mj_br, mj_hr, mj_hw, mq_gf, mq_len, mq_al, mq_pf, mq_ok, mj_re, mq_lkm, mq_lkn, mj_ldi, mj_ldl, mj_lda, mj_ii, mj_ll, mj_li, mj_i1, ms_1, ms_2, f1_n, f1_i, f1_r, f1_u, f1_l, f2_n, f2_i, f2_r, f2_u, f2_l, mj_tg, mj_c1, mj_c2, mj_ar, mj_aw, mq_cb, mq_oi, mj_rm, Value.category, -getElem?_pos, List.getElem?_cons_zero, decide_eq_true, decide_eq_false, nl_lt, nl_le, ln_lt, ln_le, nl_eq, ln_eq, nl_add, ln_add, nl_sub, ln_mul, nI_sub, nI_mul, nI_add, nI_lt_iff, nI_le_iff, nI_inj, nI_num, mq_ix, nI_1, nl_mul, nl_div, wkc_on hx hj, wkl_on hx, wkc_acts hx hj, wkl_acts hx, wkc_limit hx hj, wkl_limit hx, wkc_generation hx hj, wkl_generation hx, wkc_area hx hj, wkl_area hx, wkc_fend hx hj, wkl_fend hx, wkc_master hx hj, wkl_master hx, wkc_pinOf hx hj, wkl_pinOf hx, wkc_tries hx hj, wkl_tries hx, wkc_own hx hj, wkl_own hx, wkc_creds hx hj, wkl_creds hx, wkc_presses hx hj, wkl_presses hx, wkc_taken hx hj, wkl_taken hx, wkc_answered hx hj, wkl_answered hx, wkc_agreeing hx hj, wkl_agreeing hx, wkc_token hx hj, wkl_token hx, wkc_wrong hx hj, wkl_wrong hx, wkc_heard hx hj, wkl_heard hx, wkc_listed hx hj, wkl_listed hx, wkc_listAt hx hj, wkl_listAt hx, wkc_listHash hx hj, wkl_listHash hx, wkc_listFlags hx hj, wkl_listFlags hx, wkc_answerSize hx hj, wkl_answerSize hx, wkc_flash hx hj, wkl_flash hx hj, rk, on1, nI_pos hn, h3, hnk, narrow]
      | some n =>
        obtain ⟨rfl, hn, hn31⟩ := ix_some hq
        have ha : m.2.2.2.2[n]? = some k.1.1.1.2[n] := by
          have e1 : (m.2.2.2.2.take k.1.1.1.2.length)[n]? = m.2.2.2.2[n]? := by rw [List.getElem?_take, if_pos hn]
          rw [← e1, h4, List.getElem?_eq_getElem hn]
        have hgd : k.1.1.1.2.getD n (-1) = k.1.1.1.2[n] := by rw [List.getD, List.getElem?_eq_getElem hn, Option.getD_some]
        dsimp only
        rw [hgd]
        generalize k.1.1.1.2[n] = rv at *
        simp (disch := (first | omega | decide)) [S_cb_mmade4_0, S_bx_mcan1_0, S_b8_mkey_1, S_b8_mkey_0, S_b1_mterm_0, S_b1_copy_0, S_b0_mod_7, S_b0_mod_6, S_b0_mod_5, S_b0_mod_3, S_b0_mod_2, S_b0_mod_1, S_b0_mod_0, S_cb_mmade4_1h, S_bx_mcan1_1h, S_b0_mod_4h, c330, s330_0, s330_1, s330_2, s330_5, s330_8, s330_9, s330_12, s330_13, s330_14, s330_17, s330_18, s330_19, s330_22, s330_23, s330_26, s330_29, s330_30, s330_31, s330_32, s330_33, s330_34, s330_37, s330_38, mq_k0s, mq_k1s, mq_k2s, mq_k4s, mq_k5s, mq_k5n, mq_k5as, mq_k6s, mj_pu, mj_lo, mj_br, mj_hr, mj_hw, mq_gf, mq_len, mq_al, mq_pf, mq_ok, mj_re, mq_lkm, mq_lkn, mj_ldi, mj_ldl, mj_lda, mj_ii, mj_ll, mj_li, mj_i1, ms_1, ms_2, f1_n, f1_i, f1_r, f1_u, f1_l, f2_n, f2_i, f2_r, f2_u, f2_l, mj_tg, mj_c1, mj_c2, mj_ar, mj_aw, mq_cb, mq_oi, mj_rm, Value.category, -getElem?_pos, List.getElem?_cons_zero, decide_eq_true, decide_eq_false, nl_lt, nl_le, ln_lt, ln_le, nl_eq, ln_eq, nl_add, ln_add, nl_sub, ln_mul, nI_sub, nI_mul, nI_add, nI_lt_iff, nI_le_iff, nI_inj, nI_num, mq_ix, nI_1, nl_mul, nl_div, wkc_on hx hj, wkl_on hx, wkc_acts hx hj, wkl_acts hx, wkc_limit hx hj, wkl_limit hx, wkc_generation hx hj, wkl_generation hx, wkc_area hx hj, wkl_area hx, wkc_fend hx hj, wkl_fend hx, wkc_master hx hj, wkl_master hx, wkc_pinOf hx hj, wkl_pinOf hx, wkc_tries hx hj, wkl_tries hx, wkc_own hx hj, wkl_own hx, wkc_creds hx hj, wkl_creds hx, wkc_presses hx hj, wkl_presses hx, wkc_taken hx hj, wkl_taken hx, wkc_answered hx hj, wkl_answered hx, wkc_agreeing hx hj, wkl_agreeing hx, wkc_token hx hj, wkl_token hx, wkc_wrong hx hj, wkl_wrong hx, wkc_heard hx hj, wkl_heard hx, wkc_listed hx hj, wkl_listed hx, wkc_listAt hx hj, wkl_listAt hx, wkc_listHash hx hj, wkl_listHash hx, wkc_listFlags hx hj, wkl_listFlags hx, wkc_answerSize hx hj, wkl_answerSize hx, wkc_flash hx hj, wkl_flash hx hj, wkf_credId hx hj hm, wkf_credHash hx hj hm, wkf_credSecret hx hj hm, wkf_credCount hx hj hm, wkf_credLong hx hj hm, wkf_credUser hx hj hm, wkf_list hx hj hm, wkf_answers hx hj hm, wkf_flash hx hj, wkc_credId hx hj hm, wkl_credId hx hj hm, wkc_credHash hx hj hm, wkl_credHash hx hj hm, wkc_credSecret hx hj hm, wkl_credSecret hx hj hm, wkc_credCount hx hj hm, wkl_credCount hx hj hm, wkc_credLong hx hj hm, wkl_credLong hx hj hm, wkc_credUser hx hj hm, wkl_credUser hx hj hm, wkc_list hx hj hm, wkl_list hx hj hm, wkc_answers hx hj hm, wkl_answers hx hj hm, rk, on1, nI_pos hn31, h3, ha, show ¬ k.1.1.1.2.length ≤ n by omega, narrow]
theorem o_flash (z : mz x y H) (i p : Int32) : oR (d + 2) 332 [.ref 67, .int i, .int p] B x y (ho_flash H i p) := by
  have rk := q_isKey (d := d) (B := B) (y := y) z.k.n z.k.n3 i
  unfold ho_flash
  cases hi : ix i H.2.2.1.length with
  | none =>
    rw [hi] at rk
    refine ⟨x, y, ?_, z⟩
    simp (disch := (first | omega | decide)) [S_cb_mmade4_0, S_bx_mcan1_0, S_b8_mkey_1, S_b8_mkey_0, S_b1_mterm_0, S_b1_copy_0, S_b0_mod_7, S_b0_mod_6, S_b0_mod_5, S_b0_mod_3, S_b0_mod_2, S_b0_mod_1, S_b0_mod_0, S_cb_mmade4_1h, S_bx_mcan1_1h, S_b0_mod_4h, c332, s332_0, s332_1, s332_2, s332_5, s332_8, s332_9, s332_12, s332_13, s332_16, s332_19, s332_20, s332_23, s332_26, s332_27, s332_28, s332_29, s332_30, s332_31, s332_34, s332_35, mq_k0s, mq_k1s, mq_k2s, mq_k4s, mq_k5s, mq_k5n, mq_k5as, mq_k6s, mj_pu, mj_lo, mj_br, mj_hr, mj_hw, mq_gf, mq_len, mq_al, mq_pf, mq_ok, mj_re, mq_lkm, mq_lkn, mj_ldi, mj_ldl, mj_lda, mj_ii, mj_ll, mj_li, mj_i1, ms_1, ms_2, f1_n, f1_i, f1_r, f1_u, f1_l, f2_n, f2_i, f2_r, f2_u, f2_l, mj_tg, mj_c1, mj_c2, mj_ar, mj_aw, mq_cb, mq_oi, mj_rm, Value.category, -getElem?_pos, List.getElem?_cons_zero, decide_eq_true, decide_eq_false, nl_lt, nl_le, ln_lt, ln_le, nl_eq, ln_eq, nl_add, ln_add, nl_sub, ln_mul, nI_sub, nI_mul, nI_add, nI_lt_iff, nI_le_iff, nI_inj, nI_num, mq_ix, nI_1, nl_mul, nl_div, rk, on1, narrow]
  | some j =>
    rw [hi] at rk
    obtain ⟨k, hk, rfl⟩ := key_at hi
    obtain ⟨hj, m, e, R, hf⟩ := z.key hk
    have hx := z.k.k
    have hm := R.w
    dsimp only
    rw [hk]
    dsimp only
    rw [e] at rk
    refine ⟨x, y, ?_, z⟩
    conv => lhs; rw [e]
    conv => rhs; rw [e]
    rw [bt_at_ix, hf]
    cases hq : ix p 512 with
    | none =>
      rcases ix_none hq with q | ⟨n, rfl, hn, hnk⟩
      · simp (disch := (first | omega | decide)) [S_cb_mmade4_0, S_bx_mcan1_0, S_b8_mkey_1, S_b8_mkey_0, S_b1_mterm_0, S_b1_copy_0, S_b0_mod_7, S_b0_mod_6, S_b0_mod_5, S_b0_mod_3, S_b0_mod_2, S_b0_mod_1, S_b0_mod_0, S_cb_mmade4_1h, S_bx_mcan1_1h, S_b0_mod_4h, c332, s332_0, s332_1, s332_2, s332_5, s332_8, s332_9, s332_12, s332_13, s332_16, s332_19, s332_20, s332_23, s332_26, s332_27, s332_28, s332_29, s332_30, s332_31, s332_34, s332_35, mq_k0s, mq_k1s, mq_k2s, mq_k4s, mq_k5s, mq_k5n, mq_k5as, mq_k6s, mj_pu, mj_lo, mj_br, mj_hr, mj_hw, mq_gf, mq_len, mq_al, mq_pf, mq_ok, mj_re, mq_lkm, mq_lkn, mj_ldi, mj_ldl, mj_lda, mj_ii, mj_ll, mj_li, mj_i1, ms_1, ms_2, f1_n, f1_i, f1_r, f1_u, f1_l, f2_n, f2_i, f2_r, f2_u, f2_l, mj_tg, mj_c1, mj_c2, mj_ar, mj_aw, mq_cb, mq_oi, mj_rm, Value.category, -getElem?_pos, List.getElem?_cons_zero, decide_eq_true, decide_eq_false, nl_lt, nl_le, ln_lt, ln_le, nl_eq, ln_eq, nl_add, ln_add, nl_sub, ln_mul, nI_sub, nI_mul, nI_add, nI_lt_iff, nI_le_iff, nI_inj, nI_num, mq_ix, nI_1, nl_mul, nl_div, rk, on1, q, narrow]
      · simp (disch := (first | omega | decide)) [S_cb_mmade4_0, S_bx_mcan1_0, S_b8_mkey_1, S_b8_mkey_0, S_b1_mterm_0, S_b1_copy_0, S_b0_mod_7, S_b0_mod_6, S_b0_mod_5, S_b0_mod_3, S_b0_mod_2, S_b0_mod_1, S_b0_mod_0, S_cb_mmade4_1h, S_bx_mcan1_1h, S_b0_mod_4h, c332, s332_0, s332_1, s332_2, s332_5, s332_8, s332_9, s332_12, s332_13, s332_16, s332_19, s332_20, s332_23, s332_26, s332_27, s332_28, s332_29, s332_30, s332_31, s332_34, s332_35, mq_k0s, mq_k1s, mq_k2s, mq_k4s, mq_k5s, mq_k5n, mq_k5as, mq_k6s, mj_pu, mj_lo, mj_br, mj_hr, mj_hw, mq_gf, mq_len, mq_al, mq_pf, mq_ok, mj_re, mq_lkm, mq_lkn, mj_ldi, mj_ldl, mj_lda, mj_ii, mj_ll, mj_li, mj_i1, ms_1, ms_2, f1_n, f1_i, f1_r, f1_u, f1_l, f2_n, f2_i, f2_r, f2_u, f2_l, mj_tg, mj_c1, mj_c2, mj_ar, mj_aw, mq_cb, mq_oi, mj_rm, Value.category, -getElem?_pos, List.getElem?_cons_zero, decide_eq_true, decide_eq_false, nl_lt, nl_le, ln_lt, ln_le, nl_eq, ln_eq, nl_add, ln_add, nl_sub, ln_mul, nI_sub, nI_mul, nI_add, nI_lt_iff, nI_le_iff, nI_inj, nI_num, mq_ix, nI_1, nl_mul, nl_div, rk, on1, nI_pos hn, hnk, narrow]
    | some n =>
      obtain ⟨rfl, hn, hn31⟩ := ix_some hq
      have ha : k.1.1.1.1.1[n]? = some k.1.1.1.1.1[n] := List.getElem?_eq_getElem (by omega)
      have hgd : k.1.1.1.1.1.getD n (-1) = k.1.1.1.1.1[n] := by rw [List.getD, ha, Option.getD_some]
      dsimp only
      rw [hgd]
      generalize k.1.1.1.1.1[n] = rv at *
      simp (disch := (first | omega | decide)) [S_cb_mmade4_0, S_bx_mcan1_0, S_b8_mkey_1, S_b8_mkey_0, S_b1_mterm_0, S_b1_copy_0, S_b0_mod_7, S_b0_mod_6, S_b0_mod_5, S_b0_mod_3, S_b0_mod_2, S_b0_mod_1, S_b0_mod_0, S_cb_mmade4_1h, S_bx_mcan1_1h, S_b0_mod_4h, c332, s332_0, s332_1, s332_2, s332_5, s332_8, s332_9, s332_12, s332_13, s332_16, s332_19, s332_20, s332_23, s332_26, s332_27, s332_28, s332_29, s332_30, s332_31, s332_34, s332_35, mq_k0s, mq_k1s, mq_k2s, mq_k4s, mq_k5s, mq_k5n, mq_k5as, mq_k6s, mj_pu, mj_lo, mj_br, mj_hr, mj_hw, mq_gf, mq_len, mq_al, mq_pf, mq_ok, mj_re, mq_lkm, mq_lkn, mj_ldi, mj_ldl, mj_lda, mj_ii, mj_ll, mj_li, mj_i1, ms_1, ms_2, f1_n, f1_i, f1_r, f1_u, f1_l, f2_n, f2_i, f2_r, f2_u, f2_l, mj_tg, mj_c1, mj_c2, mj_ar, mj_aw, mq_cb, mq_oi, mj_rm, Value.category, -getElem?_pos, List.getElem?_cons_zero, decide_eq_true, decide_eq_false, nl_lt, nl_le, ln_lt, ln_le, nl_eq, ln_eq, nl_add, ln_add, nl_sub, ln_mul, nI_sub, nI_mul, nI_add, nI_lt_iff, nI_le_iff, nI_inj, nI_num, mq_ix, nI_1, nl_mul, nl_div, wkc_on hx hj, wkl_on hx, wkc_acts hx hj, wkl_acts hx, wkc_limit hx hj, wkl_limit hx, wkc_generation hx hj, wkl_generation hx, wkc_area hx hj, wkl_area hx, wkc_fend hx hj, wkl_fend hx, wkc_master hx hj, wkl_master hx, wkc_pinOf hx hj, wkl_pinOf hx, wkc_tries hx hj, wkl_tries hx, wkc_own hx hj, wkl_own hx, wkc_creds hx hj, wkl_creds hx, wkc_presses hx hj, wkl_presses hx, wkc_taken hx hj, wkl_taken hx, wkc_answered hx hj, wkl_answered hx, wkc_agreeing hx hj, wkl_agreeing hx, wkc_token hx hj, wkl_token hx, wkc_wrong hx hj, wkl_wrong hx, wkc_heard hx hj, wkl_heard hx, wkc_listed hx hj, wkl_listed hx, wkc_listAt hx hj, wkl_listAt hx, wkc_listHash hx hj, wkl_listHash hx, wkc_listFlags hx hj, wkl_listFlags hx, wkc_answerSize hx hj, wkl_answerSize hx, wkc_flash hx hj, wkl_flash hx hj, wkf_credId hx hj hm, wkf_credHash hx hj hm, wkf_credSecret hx hj hm, wkf_credCount hx hj hm, wkf_credLong hx hj hm, wkf_credUser hx hj hm, wkf_list hx hj hm, wkf_answers hx hj hm, wkf_flash hx hj, wkc_credId hx hj hm, wkl_credId hx hj hm, wkc_credHash hx hj hm, wkl_credHash hx hj hm, wkc_credSecret hx hj hm, wkl_credSecret hx hj hm, wkc_credCount hx hj hm, wkl_credCount hx hj hm, wkc_credLong hx hj hm, wkl_credLong hx hj hm, wkc_credUser hx hj hm, wkl_credUser hx hj hm, wkc_list hx hj hm, wkl_list hx hj hm, wkc_answers hx hj hm, wkl_answers hx hj hm, rk, on1, nI_pos hn31, ha, show ¬ 512 ≤ n by omega, narrow]
theorem o_take (z : mz x y H) (i : Int32) : oR (d + 2) 331 [.ref 67, .int i] B x y (ho_take H i) := by
  have rk := q_isKey (d := d) (B := B) (y := y) z.k.n z.k.n3 i
  unfold ho_take
  cases hi : ix i H.2.2.1.length with
  | none =>
    rw [hi] at rk
    refine ⟨x, y, ?_, z⟩
    simp (disch := (first | omega | decide)) [S_cb_mmade4_0, S_bx_mcan1_0, S_b8_mkey_1, S_b8_mkey_0, S_b1_mterm_0, S_b1_copy_0, S_b0_mod_7, S_b0_mod_6, S_b0_mod_5, S_b0_mod_3, S_b0_mod_2, S_b0_mod_1, S_b0_mod_0, S_cb_mmade4_1h, S_bx_mcan1_1h, S_b0_mod_4h, c331, s331_0, s331_1, s331_2, s331_5, s331_8, s331_9, s331_12, s331_13, s331_14, s331_15, s331_18, s331_19, s331_20, s331_21, s331_22, s331_25, s331_26, s331_27, s331_30, s331_31, s331_34, s331_37, s331_38, s331_39, s331_40, s331_43, s331_44, s331_45, s331_48, s331_51, s331_52, s331_55, mq_k0s, mq_k1s, mq_k2s, mq_k4s, mq_k5s, mq_k5n, mq_k5as, mq_k6s, mj_pu, mj_lo, mj_br, mj_hr, mj_hw, mq_gf, mq_len, mq_al, mq_pf, mq_ok, mj_re, mq_lkm, mq_lkn, mj_ldi, mj_ldl, mj_lda, mj_ii, mj_ll, mj_li, mj_i1, ms_1, ms_2, f1_n, f1_i, f1_r, f1_u, f1_l, f2_n, f2_i, f2_r, f2_u, f2_l, mj_tg, mj_c1, mj_c2, mj_ar, mj_aw, mq_cb, mq_oi, mj_rm, Value.category, -getElem?_pos, List.getElem?_cons_zero, decide_eq_true, decide_eq_false, nl_lt, nl_le, ln_lt, ln_le, nl_eq, ln_eq, nl_add, ln_add, nl_sub, ln_mul, nI_sub, nI_mul, nI_add, nI_lt_iff, nI_le_iff, nI_inj, nI_num, mq_ix, nI_1, nl_mul, nl_div, rk, on1, narrow]
  | some j =>
    rw [hi] at rk
    obtain ⟨k, hk, rfl⟩ := key_at hi
    obtain ⟨hj, m, e, R, hf⟩ := z.key hk
    have hx := z.k.k
    have hm := R.w
    dsimp only
    rw [hk]
    dsimp only
    rw [e] at rk
    rcases R.a with ⟨h1, h2⟩ | ⟨h1, h2, h3, h4⟩
    · rw [if_pos h1]
      refine ⟨x, y, ?_, z⟩
      conv => lhs; rw [e]
      conv => rhs; rw [e]
      simp (disch := (first | omega | decide)) [S_cb_mmade4_0, S_bx_mcan1_0, S_b8_mkey_1, S_b8_mkey_0, S_b1_mterm_0, S_b1_copy_0, S_b0_mod_7, S_b0_mod_6, S_b0_mod_5, S_b0_mod_3, S_b0_mod_2, S_b0_mod_1, S_b0_mod_0, S_cb_mmade4_1h, S_bx_mcan1_1h, S_b0_mod_4h, c331, s331_0, s331_1, s331_2, s331_5, s331_8, s331_9, s331_12, s331_13, s331_14, s331_15, s331_18, s331_19, s331_20, s331_21, s331_22, s331_25, s331_26, s331_27, s331_30, s331_31, s331_34, s331_37, s331_38, s331_39, s331_40, s331_43, s331_44, s331_45, s331_48, s331_51, s331_52, s331_55, mq_k0s, mq_k1s, mq_k2s, mq_k4s, mq_k5s, mq_k5n, mq_k5as, mq_k6s, mj_pu, mj_lo, mj_br, mj_hr, mj_hw, mq_gf, mq_len, mq_al, mq_pf, mq_ok, mj_re, mq_lkm, mq_lkn, mj_ldi, mj_ldl, mj_lda, mj_ii, mj_ll, mj_li, mj_i1, ms_1, ms_2, f1_n, f1_i, f1_r, f1_u, f1_l, f2_n, f2_i, f2_r, f2_u, f2_l, mj_tg, mj_c1, mj_c2, mj_ar, mj_aw, mq_cb, mq_oi, mj_rm, Value.category, -getElem?_pos, List.getElem?_cons_zero, decide_eq_true, decide_eq_false, nl_lt, nl_le, ln_lt, ln_le, nl_eq, ln_eq, nl_add, ln_add, nl_sub, ln_mul, nI_sub, nI_mul, nI_add, nI_lt_iff, nI_le_iff, nI_inj, nI_num, mq_ix, nI_1, nl_mul, nl_div, wkc_on hx hj, wkl_on hx, wkc_acts hx hj, wkl_acts hx, wkc_limit hx hj, wkl_limit hx, wkc_generation hx hj, wkl_generation hx, wkc_area hx hj, wkl_area hx, wkc_fend hx hj, wkl_fend hx, wkc_master hx hj, wkl_master hx, wkc_pinOf hx hj, wkl_pinOf hx, wkc_tries hx hj, wkl_tries hx, wkc_own hx hj, wkl_own hx, wkc_creds hx hj, wkl_creds hx, wkc_presses hx hj, wkl_presses hx, wkc_taken hx hj, wkl_taken hx, wkc_answered hx hj, wkl_answered hx, wkc_agreeing hx hj, wkl_agreeing hx, wkc_token hx hj, wkl_token hx, wkc_wrong hx hj, wkl_wrong hx, wkc_heard hx hj, wkl_heard hx, wkc_listed hx hj, wkl_listed hx, wkc_listAt hx hj, wkl_listAt hx, wkc_listHash hx hj, wkl_listHash hx, wkc_listFlags hx hj, wkl_listFlags hx, wkc_answerSize hx hj, wkl_answerSize hx, wkc_flash hx hj, wkl_flash hx hj, rk, on1, h2, narrow]
    · rw [if_neg h1]
      have htl : x.1.1.1.2.1.1.length = 400 := by obtain ⟨g, -, hl⟩ := z.t.1; exact hl
      have hal := hx.answers
      have hnm : ¬ nI k.1.1.1.2.length = -1 := fun w => (nI_m1 (a := k.1.1.1.2.length) (by omega)).mp w
      refine ⟨x.wt (cpy x.1.1.1.2.1.1 0 x.2.1.1.2.1.1 (400 * j) k.1.1.1.2.length) k.1.1.1.2.length, y, ?_, ?_⟩
      · have hs : x.2.1.1.2.1.2[j]? = some (nI k.1.1.1.2.length) := by
          rw [e, ← h3]
          exact wkc_answerSize hx hj
        have hsl := hx.answerSize
        rw [← e] at rk
        simp (disch := (first | omega | decide)) [S_cb_mmade4_0, S_bx_mcan1_0, S_b8_mkey_1, S_b8_mkey_0, S_b1_mterm_0, S_b1_copy_0, S_b0_mod_7, S_b0_mod_6, S_b0_mod_5, S_b0_mod_3, S_b0_mod_2, S_b0_mod_1, S_b0_mod_0, S_cb_mmade4_1h, S_bx_mcan1_1h, S_b0_mod_4h, c331, s331_0, s331_1, s331_2, s331_5, s331_8, s331_9, s331_12, s331_13, s331_14, s331_15, s331_18, s331_19, s331_20, s331_21, s331_22, s331_25, s331_26, s331_27, s331_30, s331_31, s331_34, s331_37, s331_38, s331_39, s331_40, s331_43, s331_44, s331_45, s331_48, s331_51, s331_52, s331_55, mq_k0s, mq_k1s, mq_k2s, mq_k4s, mq_k5s, mq_k5n, mq_k5as, mq_k6s, mj_pu, mj_lo, mj_br, mj_hr, mj_hw, mq_gf, mq_len, mq_al, mq_pf, mq_ok, mj_re, mq_lkm, mq_lkn, mj_ldi, mj_ldl, mj_lda, mj_ii, mj_ll, mj_li, mj_i1, ms_1, ms_2, f1_n, f1_i, f1_r, f1_u, f1_l, f2_n, f2_i, f2_r, f2_u, f2_l, mj_tg, mj_c1, mj_c2, mj_ar, mj_aw, mq_cb, mq_oi, mj_rm, Value.category, -getElem?_pos, List.getElem?_cons_zero, decide_eq_true, decide_eq_false, nl_lt, nl_le, ln_lt, ln_le, nl_eq, ln_eq, nl_add, ln_add, nl_sub, ln_mul, nI_sub, nI_mul, nI_add, nI_lt_iff, nI_le_iff, nI_inj, nI_num, mq_ix, nI_1, nl_mul, nl_div, rk, on1, hs, hsl, hnm, hal, htl, narrow, Fx.wt]
      · have hrep : (x.2.1.1.2.1.1.drop (400 * j)).take k.1.1.1.2.length = k.1.1.1.2 := by
          apply sub_eq _ rfl
          intro q hq
          rw [e]
          have := wkc_answers hx hj hm (s := k.1.1.1.1) (i := q) (by omega)
          rw [this]
          have e1 : (m.2.2.2.2.take k.1.1.1.2.length)[q]? = m.2.2.2.2[q]? := by rw [List.getElem?_take, if_pos hq]
          rw [← e1, h4]
        have htq : tq 400 (cpy x.1.1.1.2.1.1 0 x.2.1.1.2.1.1 (400 * j) k.1.1.1.2.length) k.1.1.1.2 := by
          rw [cpy_spl (by omega), hrep, ← htl]
          exact tq.of rfl (by omega)
        exact z.wt htq
end
end
