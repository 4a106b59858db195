/- db.magree -/
section
set_option maxRecDepth 512
/-! The model: a hand and a key agree. -/
/- 344 PasskeyHouseModel.agreeing(II)I -/
theorem s344_0 {d : Nat} {ls : mj_L} {st : List Value} {M : mj_H} : mj_Rn d mj_m344 0 ls st M = mq_k0 d mj_m344 1 ls M (mj_lda (mj_lk ls 0) st) := mj_R0 (r := (.aload_n 0, 1, 0, 0, 0)) rfl rfl
theorem s344_1 {d : Nat} {ls : mj_L} {st : List Value} {M : mj_H} : mj_Rn d mj_m344 1 ls st M = mq_k0 d mj_m344 2 ls M (mj_ldi (mj_lk ls 1) st) := mj_R0 (r := (.iload_n 1, 1, 0, 0, 0)) rfl rfl
theorem s344_2 {d : Nat} {ls : mj_L} {st : List Value} {M : mj_H} : mj_Rn (d + 1) mj_m344 2 ls st M = mq_k5a (d + 1) mj_m344 5 ls M 335 (mq_cb 0 1 11 st M) := mj_R5e (r := (.invokevirtual 590, 3, 0, 335, 37091)) (z := mj_m335) rfl rfl (by decide) (by decide) rfl
theorem s344_5 {d : Nat} {ls : mj_L} {st : List Value} {M : mj_H} : mj_Rn d mj_m344 5 ls st M = mq_k0 d mj_m344 6 ls M (mj_pu .pop ls st) := mj_R0 (r := (.pop, 1, 0, 0, 0)) rfl rfl
theorem s344_6 {d : Nat} {ls : mj_L} {st : List Value} {M : mj_H} : mj_Rn d mj_m344 6 ls st M = mq_k0 d mj_m344 7 ls M (mj_lda (mj_lk ls 0) st) := mj_R0 (r := (.aload_n 0, 1, 0, 0, 0)) rfl rfl
theorem s344_7 {d : Nat} {ls : mj_L} {st : List Value} {M : mj_H} : mj_Rn d mj_m344 7 ls st M = mj_Rn d mj_m344 9 ls (.int 6 :: st) M := mj_R0 (r := (.bipush 6, 2, 0, 0, 0)) rfl rfl
theorem s344_9 {d : Nat} {ls : mj_L} {st : List Value} {M : mj_H} : mj_Rn d mj_m344 9 ls st M = mj_Rn d mj_m344 10 ls (.int 2 :: st) M := mj_R0 (r := (.iconst 2, 1, 0, 0, 0)) rfl rfl
theorem s344_10 {d : Nat} {ls : mj_L} {st : List Value} {M : mj_H} : mj_Rn (d + 1) mj_m344 10 ls st M = mq_k5a (d + 1) mj_m344 13 ls M 345 (mq_cb 0 2 11 st M) := mj_R5e (r := (.invokevirtual 592, 3, 0, 345, 37092)) (z := mj_m345) rfl rfl (by decide) (by decide) rfl
theorem s344_13 {d : Nat} {ls : mj_L} {st : List Value} {M : mj_H} : mj_Rn d mj_m344 13 ls st M = mq_k0 d mj_m344 14 ls M (mj_lda (mj_lk ls 0) st) := mj_R0 (r := (.aload_n 0, 1, 0, 0, 0)) rfl rfl
theorem s344_14 {d : Nat} {ls : mj_L} {st : List Value} {M : mj_H} : mj_Rn d mj_m344 14 ls st M = mj_Rn d mj_m344 15 ls (.int 1 :: st) M := mj_R0 (r := (.iconst 1, 1, 0, 0, 0)) rfl rfl
theorem s344_15 {d : Nat} {ls : mj_L} {st : List Value} {M : mj_H} : mj_Rn (d + 1) mj_m344 15 ls st M = mq_k5a (d + 1) mj_m344 18 ls M 279 (mq_cb 0 1 11 st M) := mj_R5e (r := (.invokevirtual 440, 3, 0, 279, 32967)) (z := mj_m279) rfl rfl (by decide) (by decide) rfl
theorem s344_18 {d : Nat} {ls : mj_L} {st : List Value} {M : mj_H} : mj_Rn d mj_m344 18 ls st M = mq_k0 d mj_m344 19 ls M (mj_lda (mj_lk ls 0) st) := mj_R0 (r := (.aload_n 0, 1, 0, 0, 0)) rfl rfl
theorem s344_19 {d : Nat} {ls : mj_L} {st : List Value} {M : mj_H} : mj_Rn d mj_m344 19 ls st M = mj_Rn d mj_m344 20 ls (.int 1 :: st) M := mj_R0 (r := (.iconst 1, 1, 0, 0, 0)) rfl rfl
theorem s344_20 {d : Nat} {ls : mj_L} {st : List Value} {M : mj_H} : mj_Rn (d + 1) mj_m344 20 ls st M = mq_k5a (d + 1) mj_m344 23 ls M 279 (mq_cb 0 1 11 st M) := mj_R5e (r := (.invokevirtual 440, 3, 0, 279, 32967)) (z := mj_m279) rfl rfl (by decide) (by decide) rfl
theorem s344_23 {d : Nat} {ls : mj_L} {st : List Value} {M : mj_H} : mj_Rn d mj_m344 23 ls st M = mq_k0 d mj_m344 24 ls M (mj_lda (mj_lk ls 0) st) := mj_R0 (r := (.aload_n 0, 1, 0, 0, 0)) rfl rfl
theorem s344_24 {d : Nat} {ls : mj_L} {st : List Value} {M : mj_H} : mj_Rn d mj_m344 24 ls st M = mj_Rn d mj_m344 25 ls (.int 2 :: st) M := mj_R0 (r := (.iconst 2, 1, 0, 0, 0)) rfl rfl
theorem s344_25 {d : Nat} {ls : mj_L} {st : List Value} {M : mj_H} : mj_Rn (d + 1) mj_m344 25 ls st M = mq_k5a (d + 1) mj_m344 28 ls M 279 (mq_cb 0 1 11 st M) := mj_R5e (r := (.invokevirtual 440, 3, 0, 279, 32967)) (z := mj_m279) rfl rfl (by decide) (by decide) rfl
theorem s344_28 {d : Nat} {ls : mj_L} {st : List Value} {M : mj_H} : mj_Rn d mj_m344 28 ls st M = mq_k0 d mj_m344 29 ls M (mj_lda (mj_lk ls 0) st) := mj_R0 (r := (.aload_n 0, 1, 0, 0, 0)) rfl rfl
theorem s344_29 {d : Nat} {ls : mj_L} {st : List Value} {M : mj_H} : mj_Rn d mj_m344 29 ls st M = mj_Rn d mj_m344 30 ls (.int 2 :: st) M := mj_R0 (r := (.iconst 2, 1, 0, 0, 0)) rfl rfl
theorem s344_30 {d : Nat} {ls : mj_L} {st : List Value} {M : mj_H} : mj_Rn (d + 1) mj_m344 30 ls st M = mq_k5a (d + 1) mj_m344 33 ls M 279 (mq_cb 0 1 11 st M) := mj_R5e (r := (.invokevirtual 440, 3, 0, 279, 32967)) (z := mj_m279) rfl rfl (by decide) (by decide) rfl
theorem s344_33 {d : Nat} {ls : mj_L} {st : List Value} {M : mj_H} : mj_Rn d mj_m344 33 ls st M = mq_k0 d mj_m344 34 ls M (mj_lda (mj_lk ls 0) st) := mj_R0 (r := (.aload_n 0, 1, 0, 0, 0)) rfl rfl
theorem s344_34 {d : Nat} {ls : mj_L} {st : List Value} {M : mj_H} : mj_Rn d mj_m344 34 ls st M = mq_k0 d mj_m344 35 ls M (mj_ldi (mj_lk ls 2) st) := mj_R0 (r := (.iload_n 2, 1, 0, 0, 0)) rfl rfl
theorem s344_35 {d : Nat} {ls : mj_L} {st : List Value} {M : mj_H} : mj_Rn (d + 1) mj_m344 35 ls st M = mq_k5a (d + 1) mj_m344 38 ls M 346 (mq_cb 0 1 11 st M) := mj_R5e (r := (.invokevirtual 595, 3, 0, 346, 37096)) (z := mj_m346) rfl rfl (by decide) (by decide) rfl
theorem s344_38 {d : Nat} {ls : mj_L} {st : List Value} {M : mj_H} : mj_Rn d mj_m344 38 ls st M = mq_k1 d mj_m344 39 M (mj_lo 4 (.istore 3) ls st) := (mj_R1 (r := (.istore_n 3, 1, 0, 0, 0)) rfl rfl).trans (congrArg (mq_k1 d mj_m344 39 M) (mq_sti (k := 3)))
theorem s344_39 {d : Nat} {ls : mj_L} {st : List Value} {M : mj_H} : mj_Rn d mj_m344 39 ls st M = mq_k0 d mj_m344 40 ls M (mj_ldi (mj_lk ls 3) st) := mj_R0 (r := (.iload_n 3, 1, 0, 0, 0)) rfl rfl
theorem s344_40 {d : Nat} {ls : mj_L} {st : List Value} {M : mj_H} : mj_Rn d mj_m344 40 ls st M = mq_k2 d mj_m344 ls M (mj_br (.ifCond .ne 15) 40 st) := mj_R2 (r := (.ifCond .ne 15, 3, 0, 0, 0)) rfl rfl
theorem s344_43 {d : Nat} {ls : mj_L} {st : List Value} {M : mj_H} : mj_Rn d mj_m344 43 ls st M = mq_k0 d mj_m344 44 ls M (mj_lda (mj_lk ls 0) st) := mj_R0 (r := (.aload_n 0, 1, 0, 0, 0)) rfl rfl
theorem s344_44 {d : Nat} {ls : mj_L} {st : List Value} {M : mj_H} : mj_Rn d mj_m344 44 ls st M = mq_k0 d mj_m344 45 ls M (mj_ldi (mj_lk ls 1) st) := mj_R0 (r := (.iload_n 1, 1, 0, 0, 0)) rfl rfl
theorem s344_45 {d : Nat} {ls : mj_L} {st : List Value} {M : mj_H} : mj_Rn d mj_m344 45 ls st M = mq_k0 d mj_m344 46 ls M (mj_lda (mj_lk ls 0) st) := mj_R0 (r := (.aload_n 0, 1, 0, 0, 0)) rfl rfl
theorem s344_46 {d : Nat} {ls : mj_L} {st : List Value} {M : mj_H} : mj_Rn d mj_m344 46 ls st M = mq_k0 d mj_m344 47 ls M (mj_ldi (mj_lk ls 2) st) := mj_R0 (r := (.iload_n 2, 1, 0, 0, 0)) rfl rfl
theorem s344_47 {d : Nat} {ls : mj_L} {st : List Value} {M : mj_H} : mj_Rn d mj_m344 47 ls st M = mj_Rn d mj_m344 48 ls (.int 4 :: st) M := mj_R0 (r := (.iconst 4, 1, 0, 0, 0)) rfl rfl
theorem s344_48 {d : Nat} {ls : mj_L} {st : List Value} {M : mj_H} : mj_Rn (d + 1) mj_m344 48 ls st M = mq_k5a (d + 1) mj_m344 51 ls M 347 (mq_cb 0 2 11 st M) := mj_R5e (r := (.invokevirtual 598, 3, 0, 347, 37100)) (z := mj_m347) rfl rfl (by decide) (by decide) rfl
theorem s344_51 {d : Nat} {ls : mj_L} {st : List Value} {M : mj_H} : mj_Rn (d + 1) mj_m344 51 ls st M = mq_k5a (d + 1) mj_m344 54 ls M 337 (mq_cb 0 2 11 st M) := mj_R5e (r := (.invokevirtual 601, 3, 0, 337, 40960)) (z := mj_m337) rfl rfl (by decide) (by decide) rfl
theorem s344_54 {d : Nat} {ls : mj_L} {st : List Value} {M : mj_H} : mj_Rn d mj_m344 54 ls st M = mq_k0 d mj_m344 55 ls M (mj_pu .pop ls st) := mj_R0 (r := (.pop, 1, 0, 0, 0)) rfl rfl
theorem s344_55 {d : Nat} {ls : mj_L} {st : List Value} {M : mj_H} : mj_Rn d mj_m344 55 ls st M = mq_k0 d mj_m344 56 ls M (mj_ldi (mj_lk ls 3) st) := mj_R0 (r := (.iload_n 3, 1, 0, 0, 0)) rfl rfl
theorem s344_56 {d : Nat} {ls : mj_L} {st : List Value} {M : mj_H} : mj_Rn d mj_m344 56 ls st M = mq_k6 M (mj_re (some .int) (.ireturn) st) := mj_R6 (r := (.ireturn, 1, 0, 0, 0)) rfl rfl
/- 343 PasskeyHouseModel.setPin(II)I -/
theorem s343_0 {d : Nat} {ls : mj_L} {st : List Value} {M : mj_H} : mj_Rn d mj_m343 0 ls st M = mq_k0 d mj_m343 1 ls M (mj_ldi (mj_lk ls 1) st) := mj_R0 (r := (.iload_n 1, 1, 0, 0, 0)) rfl rfl
theorem s343_1 {d : Nat} {ls : mj_L} {st : List Value} {M : mj_H} : mj_Rn (d + 1) mj_m343 1 ls st M = mq_k5a (d + 1) mj_m343 4 ls M 336 (mq_cb 2 1 11 st M) := mj_R5e (r := (.invokestatic 587, 3, 2, 336, 37056)) (z := mj_m336) rfl rfl (by decide) (by decide) rfl
theorem s343_4 {d : Nat} {ls : mj_L} {st : List Value} {M : mj_H} : mj_Rn d mj_m343 4 ls st M = mq_k2 d mj_m343 ls M (mj_br (.ifCond .eq 11) 4 st) := mj_R2 (r := (.ifCond .eq 11, 3, 0, 0, 0)) rfl rfl
theorem s343_7 {d : Nat} {ls : mj_L} {st : List Value} {M : mj_H} : mj_Rn d mj_m343 7 ls st M = mq_k0 d mj_m343 8 ls M (mj_lda (mj_lk ls 0) st) := mj_R0 (r := (.aload_n 0, 1, 0, 0, 0)) rfl rfl
theorem s343_8 {d : Nat} {ls : mj_L} {st : List Value} {M : mj_H} : mj_Rn d mj_m343 8 ls st M = mq_k0 d mj_m343 9 ls M (mj_ldi (mj_lk ls 2) st) := mj_R0 (r := (.iload_n 2, 1, 0, 0, 0)) rfl rfl
theorem s343_9 {d : Nat} {ls : mj_L} {st : List Value} {M : mj_H} : mj_Rn (d + 1) mj_m343 9 ls st M = mq_k5a (d + 1) mj_m343 12 ls M 271 (mq_cb 0 1 11 st M) := mj_R5e (r := (.invokevirtual 578, 3, 0, 271, 32935)) (z := mj_m271) rfl rfl (by decide) (by decide) rfl
theorem s343_12 {d : Nat} {ls : mj_L} {st : List Value} {M : mj_H} : mj_Rn d mj_m343 12 ls st M = mq_k2 d mj_m343 ls M (mj_br (.ifCond .ne 5) 12 st) := mj_R2 (r := (.ifCond .ne 5, 3, 0, 0, 0)) rfl rfl
theorem s343_15 {d : Nat} {ls : mj_L} {st : List Value} {M : mj_H} : mj_Rn d mj_m343 15 ls st M = mj_Rn d mj_m343 16 ls (.int (-1) :: st) M := mj_R0 (r := (.iconst (-1), 1, 0, 0, 0)) rfl rfl
theorem s343_16 {d : Nat} {ls : mj_L} {st : List Value} {M : mj_H} : mj_Rn d mj_m343 16 ls st M = mq_k6 M (mj_re (some .int) (.ireturn) st) := mj_R6 (r := (.ireturn, 1, 0, 0, 0)) rfl rfl
theorem s343_17 {d : Nat} {ls : mj_L} {st : List Value} {M : mj_H} : mj_Rn d mj_m343 17 ls st M = mq_k0 d mj_m343 18 ls M (mj_lda (mj_lk ls 0) st) := mj_R0 (r := (.aload_n 0, 1, 0, 0, 0)) rfl rfl
theorem s343_18 {d : Nat} {ls : mj_L} {st : List Value} {M : mj_H} : mj_Rn d mj_m343 18 ls st M = mq_k0 d mj_m343 19 ls M (mj_ldi (mj_lk ls 1) st) := mj_R0 (r := (.iload_n 1, 1, 0, 0, 0)) rfl rfl
theorem s343_19 {d : Nat} {ls : mj_L} {st : List Value} {M : mj_H} : mj_Rn d mj_m343 19 ls st M = mq_k0 d mj_m343 20 ls M (mj_ldi (mj_lk ls 2) st) := mj_R0 (r := (.iload_n 2, 1, 0, 0, 0)) rfl rfl
theorem s343_20 {d : Nat} {ls : mj_L} {st : List Value} {M : mj_H} : mj_Rn (d + 1) mj_m343 20 ls st M = mq_k5a (d + 1) mj_m343 23 ls M 344 (mq_cb 0 2 11 st M) := mj_R5e (r := (.invokevirtual 604, 3, 0, 344, 37087)) (z := mj_m344) rfl rfl (by decide) (by decide) rfl
theorem s343_23 {d : Nat} {ls : mj_L} {st : List Value} {M : mj_H} : mj_Rn d mj_m343 23 ls st M = mq_k1 d mj_m343 24 M (mj_lo 6 (.istore 3) ls st) := (mj_R1 (r := (.istore_n 3, 1, 0, 0, 0)) rfl rfl).trans (congrArg (mq_k1 d mj_m343 24 M) (mq_sti (k := 3)))
theorem s343_24 {d : Nat} {ls : mj_L} {st : List Value} {M : mj_H} : mj_Rn d mj_m343 24 ls st M = mq_k0 d mj_m343 25 ls M (mj_ldi (mj_lk ls 3) st) := mj_R0 (r := (.iload_n 3, 1, 0, 0, 0)) rfl rfl
theorem s343_25 {d : Nat} {ls : mj_L} {st : List Value} {M : mj_H} : mj_Rn d mj_m343 25 ls st M = mq_k2 d mj_m343 ls M (mj_br (.ifCond .eq 5) 25 st) := mj_R2 (r := (.ifCond .eq 5, 3, 0, 0, 0)) rfl rfl
theorem s343_28 {d : Nat} {ls : mj_L} {st : List Value} {M : mj_H} : mj_Rn d mj_m343 28 ls st M = mq_k0 d mj_m343 29 ls M (mj_ldi (mj_lk ls 3) st) := mj_R0 (r := (.iload_n 3, 1, 0, 0, 0)) rfl rfl
theorem s343_29 {d : Nat} {ls : mj_L} {st : List Value} {M : mj_H} : mj_Rn d mj_m343 29 ls st M = mq_k6 M (mj_re (some .int) (.ireturn) st) := mj_R6 (r := (.ireturn, 1, 0, 0, 0)) rfl rfl
theorem s343_30 {d : Nat} {ls : mj_L} {st : List Value} {M : mj_H} : mj_Rn d mj_m343 30 ls st M = mq_k0 d mj_m343 31 ls M (mj_lda (mj_lk ls 0) st) := mj_R0 (r := (.aload_n 0, 1, 0, 0, 0)) rfl rfl
theorem s343_31 {d : Nat} {ls : mj_L} {st : List Value} {M : mj_H} : mj_Rn d mj_m343 31 ls st M = mq_k0 d mj_m343 32 ls M (mj_ldi (mj_lk ls 1) st) := mj_R0 (r := (.iload_n 1, 1, 0, 0, 0)) rfl rfl
theorem s343_32 {d : Nat} {ls : mj_L} {st : List Value} {M : mj_H} : mj_Rn d mj_m343 32 ls st M = mq_k0 d mj_m343 33 ls M (mj_lda (mj_lk ls 0) st) := mj_R0 (r := (.aload_n 0, 1, 0, 0, 0)) rfl rfl
theorem s343_33 {d : Nat} {ls : mj_L} {st : List Value} {M : mj_H} : mj_Rn d mj_m343 33 ls st M = mq_k0 d mj_m343 36 ls M (mq_gf 11 64 st M) := (mj_R3 (r := (.getfield 176, 3, 11, 64, 57436)) rfl rfl).trans (congrArg (mq_k0 d mj_m343 36 ls M) mq_gf_eq)
theorem s343_36 {d : Nat} {ls : mj_L} {st : List Value} {M : mj_H} : mj_Rn d mj_m343 36 ls st M = mj_Rn d mj_m343 38 ls (.int 12 :: st) M := mj_R0 (r := (.bipush 12, 2, 0, 0, 0)) rfl rfl
theorem s343_38 {d : Nat} {ls : mj_L} {st : List Value} {M : mj_H} : mj_Rn d mj_m343 38 ls st M = mq_k0 d mj_m343 39 ls M (mj_ldi (mj_lk ls 1) st) := mj_R0 (r := (.iload_n 1, 1, 0, 0, 0)) rfl rfl
theorem s343_39 {d : Nat} {ls : mj_L} {st : List Value} {M : mj_H} : mj_Rn d mj_m343 39 ls st M = mq_k0 d mj_m343 40 ls M (mj_pu .imul ls st) := mj_R0 (r := (.imul, 1, 0, 0, 0)) rfl rfl
theorem s343_40 {d : Nat} {ls : mj_L} {st : List Value} {M : mj_H} : mj_Rn d mj_m343 40 ls st M = mq_k0 d mj_m343 41 ls M (mj_lda (mj_lk ls 0) st) := mj_R0 (r := (.aload_n 0, 1, 0, 0, 0)) rfl rfl
theorem s343_41 {d : Nat} {ls : mj_L} {st : List Value} {M : mj_H} : mj_Rn d mj_m343 41 ls st M = mq_k0 d mj_m343 44 ls M (mq_gf 11 65 st M) := (mj_R3 (r := (.getfield 179, 3, 11, 65, 57438)) rfl rfl).trans (congrArg (mq_k0 d mj_m343 44 ls M) mq_gf_eq)
theorem s343_44 {d : Nat} {ls : mj_L} {st : List Value} {M : mj_H} : mj_Rn d mj_m343 44 ls st M = mq_k0 d mj_m343 45 ls M (mj_ldi (mj_lk ls 1) st) := mj_R0 (r := (.iload_n 1, 1, 0, 0, 0)) rfl rfl
theorem s343_45 {d : Nat} {ls : mj_L} {st : List Value} {M : mj_H} : mj_Rn d mj_m343 45 ls st M = mq_k0 d mj_m343 46 ls M (mq_al [1000] st M) := (mj_R3 (r := (.iaload, 1, 0, 0, 0)) rfl rfl).trans (congrArg (mq_k0 d mj_m343 46 ls M) mq_ali_eq)
theorem s343_46 {d : Nat} {ls : mj_L} {st : List Value} {M : mj_H} : mj_Rn (d + 1) mj_m343 46 ls st M = mq_k5a (d + 1) mj_m343 49 ls M 348 (mq_cb 0 4 11 st M) := mj_R5e (r := (.invokevirtual 606, 3, 0, 348, 40961)) (z := mj_m348) rfl rfl (by decide) (by decide) rfl
theorem s343_49 {d : Nat} {ls : mj_L} {st : List Value} {M : mj_H} : mj_Rn d mj_m343 49 ls st M = mq_k1 d mj_m343 51 M (mj_lo 6 (.istore 4) ls st) := mj_R1 (r := (.istore 4, 2, 0, 0, 0)) rfl rfl
theorem s343_51 {d : Nat} {ls : mj_L} {st : List Value} {M : mj_H} : mj_Rn d mj_m343 51 ls st M = mq_k0 d mj_m343 52 ls M (mj_lda (mj_lk ls 0) st) := mj_R0 (r := (.aload_n 0, 1, 0, 0, 0)) rfl rfl
theorem s343_52 {d : Nat} {ls : mj_L} {st : List Value} {M : mj_H} : mj_Rn d mj_m343 52 ls st M = mq_k0 d mj_m343 53 ls M (mj_ldi (mj_lk ls 1) st) := mj_R0 (r := (.iload_n 1, 1, 0, 0, 0)) rfl rfl
theorem s343_53 {d : Nat} {ls : mj_L} {st : List Value} {M : mj_H} : mj_Rn d mj_m343 53 ls st M = mq_k0 d mj_m343 55 ls M (mj_ldi (mj_lk ls 4) st) := mj_R0 (r := (.iload 4, 2, 0, 0, 0)) rfl rfl
theorem s343_55 {d : Nat} {ls : mj_L} {st : List Value} {M : mj_H} : mj_Rn d mj_m343 55 ls st M = mj_Rn d mj_m343 56 ls (.int 0 :: st) M := mj_R0 (r := (.iconst 0, 1, 0, 0, 0)) rfl rfl
theorem s343_56 {d : Nat} {ls : mj_L} {st : List Value} {M : mj_H} : mj_Rn (d + 1) mj_m343 56 ls st M = mq_k5a (d + 1) mj_m343 59 ls M 349 (mq_cb 0 3 11 st M) := mj_R5e (r := (.invokevirtual 610, 3, 0, 349, 40965)) (z := mj_m349) rfl rfl (by decide) (by decide) rfl
theorem s343_59 {d : Nat} {ls : mj_L} {st : List Value} {M : mj_H} : mj_Rn d mj_m343 59 ls st M = mq_k1 d mj_m343 61 M (mj_lo 6 (.istore 5) ls st) := mj_R1 (r := (.istore 5, 2, 0, 0, 0)) rfl rfl
theorem s343_61 {d : Nat} {ls : mj_L} {st : List Value} {M : mj_H} : mj_Rn d mj_m343 61 ls st M = mq_k0 d mj_m343 62 ls M (mj_lda (mj_lk ls 0) st) := mj_R0 (r := (.aload_n 0, 1, 0, 0, 0)) rfl rfl
theorem s343_62 {d : Nat} {ls : mj_L} {st : List Value} {M : mj_H} : mj_Rn d mj_m343 62 ls st M = mq_k0 d mj_m343 63 ls M (mj_ldi (mj_lk ls 1) st) := mj_R0 (r := (.iload_n 1, 1, 0, 0, 0)) rfl rfl
theorem s343_63 {d : Nat} {ls : mj_L} {st : List Value} {M : mj_H} : mj_Rn d mj_m343 63 ls st M = mj_Rn d mj_m343 64 ls (.int 5 :: st) M := mj_R0 (r := (.iconst 5, 1, 0, 0, 0)) rfl rfl
theorem s343_64 {d : Nat} {ls : mj_L} {st : List Value} {M : mj_H} : mj_Rn d mj_m343 64 ls st M = mj_Rn d mj_m343 65 ls (.int 3 :: st) M := mj_R0 (r := (.iconst 3, 1, 0, 0, 0)) rfl rfl
theorem s343_65 {d : Nat} {ls : mj_L} {st : List Value} {M : mj_H} : mj_Rn (d + 1) mj_m343 65 ls st M = mq_k5a (d + 1) mj_m343 68 ls M 350 (mq_cb 0 3 11 st M) := mj_R5e (r := (.invokevirtual 613, 3, 0, 350, 40969)) (z := mj_m350) rfl rfl (by decide) (by decide) rfl
theorem s343_68 {d : Nat} {ls : mj_L} {st : List Value} {M : mj_H} : mj_Rn d mj_m343 68 ls st M = mq_k0 d mj_m343 69 ls M (mj_lda (mj_lk ls 0) st) := mj_R0 (r := (.aload_n 0, 1, 0, 0, 0)) rfl rfl
theorem s343_69 {d : Nat} {ls : mj_L} {st : List Value} {M : mj_H} : mj_Rn d mj_m343 69 ls st M = mj_Rn d mj_m343 70 ls (.int 4 :: st) M := mj_R0 (r := (.iconst 4, 1, 0, 0, 0)) rfl rfl
theorem s343_70 {d : Nat} {ls : mj_L} {st : List Value} {M : mj_H} : mj_Rn d mj_m343 70 ls st M = mq_k0 d mj_m343 72 ls M (mj_ldi (mj_lk ls 5) st) := mj_R0 (r := (.iload 5, 2, 0, 0, 0)) rfl rfl
theorem s343_72 {d : Nat} {ls : mj_L} {st : List Value} {M : mj_H} : mj_Rn (d + 1) mj_m343 72 ls st M = mq_k5a (d + 1) mj_m343 75 ls M 351 (mq_cb 0 2 11 st M) := mj_R5e (r := (.invokevirtual 617, 3, 0, 351, 40973)) (z := mj_m351) rfl rfl (by decide) (by decide) rfl
theorem s343_75 {d : Nat} {ls : mj_L} {st : List Value} {M : mj_H} : mj_Rn d mj_m343 75 ls st M = mq_k0 d mj_m343 76 ls M (mj_lda (mj_lk ls 0) st) := mj_R0 (r := (.aload_n 0, 1, 0, 0, 0)) rfl rfl
theorem s343_76 {d : Nat} {ls : mj_L} {st : List Value} {M : mj_H} : mj_Rn d mj_m343 76 ls st M = mj_Rn d mj_m343 77 ls (.int 5 :: st) M := mj_R0 (r := (.iconst 5, 1, 0, 0, 0)) rfl rfl
theorem s343_77 {d : Nat} {ls : mj_L} {st : List Value} {M : mj_H} : mj_Rn d mj_m343 77 ls st M = mq_k0 d mj_m343 79 ls M (mj_ldi (mj_lk ls 4) st) := mj_R0 (r := (.iload 4, 2, 0, 0, 0)) rfl rfl
theorem s343_79 {d : Nat} {ls : mj_L} {st : List Value} {M : mj_H} : mj_Rn (d + 1) mj_m343 79 ls st M = mq_k5a (d + 1) mj_m343 82 ls M 351 (mq_cb 0 2 11 st M) := mj_R5e (r := (.invokevirtual 617, 3, 0, 351, 40973)) (z := mj_m351) rfl rfl (by decide) (by decide) rfl
theorem s343_82 {d : Nat} {ls : mj_L} {st : List Value} {M : mj_H} : mj_Rn d mj_m343 82 ls st M = mq_k0 d mj_m343 83 ls M (mj_lda (mj_lk ls 0) st) := mj_R0 (r := (.aload_n 0, 1, 0, 0, 0)) rfl rfl
theorem s343_83 {d : Nat} {ls : mj_L} {st : List Value} {M : mj_H} : mj_Rn d mj_m343 83 ls st M = mq_k0 d mj_m343 84 ls M (mj_ldi (mj_lk ls 2) st) := mj_R0 (r := (.iload_n 2, 1, 0, 0, 0)) rfl rfl
theorem s343_84 {d : Nat} {ls : mj_L} {st : List Value} {M : mj_H} : mj_Rn (d + 1) mj_m343 84 ls st M = mq_k5a (d + 1) mj_m343 87 ls M 346 (mq_cb 0 1 11 st M) := mj_R5e (r := (.invokevirtual 595, 3, 0, 346, 37096)) (z := mj_m346) rfl rfl (by decide) (by decide) rfl
theorem s343_87 {d : Nat} {ls : mj_L} {st : List Value} {M : mj_H} : mj_Rn d mj_m343 87 ls st M = mq_k6 M (mj_re (some .int) (.ireturn) st) := mj_R6 (r := (.ireturn, 1, 0, 0, 0)) rfl rfl
theorem c344 {d : Nat} {a0 : Nat} {x1 : Int32} {x2 : Int32} {M : mj_H} : mj_V (d + 1) 344 [.ref a0, .int x1, .int x2] M = mj_Rn d mj_m344 0 [(0, .ref a0), (1, .int x1), (2, .int x2)] [] M := mj_V_go rfl (Nat.le_of_ble_eq_true rfl)
theorem c343 {d : Nat} {a0 : Nat} {x1 : Int32} {x2 : Int32} {M : mj_H} : mj_V (d + 1) 343 [.ref a0, .int x1, .int x2] M = mj_Rn d mj_m343 0 [(0, .ref a0), (1, .int x1), (2, .int x2)] [] M := mj_V_go rfl (Nat.le_of_ble_eq_true rfl)
theorem mbr_by {a v : Int32} (ha : a &&& 255 = a) : ∀ w ∈ mbr a v, w &&& 255 = w := by
  intro w hw
  unfold mbr at hw
  simp only [List.mem_cons] at hw
  rcases hw with rfl | rfl | hw
  · exact ha
  · decide
  · exact b4_by _ _ hw
theorem app_by {a b : List Int32} (h1 : ∀ w ∈ a, w &&& 255 = w) (h2 : ∀ w ∈ b, w &&& 255 = w) : ∀ w ∈ a ++ b, w &&& 255 = w := by
  intro w hw
  rcases List.mem_append.mp hw with h | h
  · exact h1 w h
  · exact h2 w h
theorem pnMsg_by {map st own : Int32} {rest : List Int32} (h1 : map &&& 255 = map) (h2 : st &&& 255 = st) (h3 : ∀ w ∈ rest, w &&& 255 = w) : ∀ w ∈ pnMsg map st own rest, w &&& 255 = w := by
  unfold pnMsg
  refine app_by ?_ (app_by ?_ h3)
  · intro w hw
    simp only [List.mem_cons, List.not_mem_nil, or_false] at hw
    rcases hw with rfl | rfl | rfl | rfl | rfl | rfl | rfl
    · decide
    · exact h1
    · decide
    · decide
    · decide
    · exact h2
    · decide
  · intro w hw
    simp only [List.mem_cons] at hw
    rcases hw with rfl | hw
    · decide
    · exact b4_by _ _ hw
/-- what agreeing asks for -/
def agI (k : Ky) (T : Tm) (g : Nat) : Prop := ((k.1.1.1.1.2.1 = true → kI k (g + 3)) ∧ k.2.1.2.2 ≤ 8) ∧ (tk8 (own_T T)) ∧ (tk9 (own_T T)) ∧ (T.1.length < 1000) ∧ ((own_T T).1.length + 4 < 1000) ∧ ((ky_recv agMsg k (own_T T)).2.1.1.1.1.1.1.length = 512) ∧ (tk8 (ky_recv agMsg k (own_T T)).2.2) ∧ (tk9 (ky_recv agMsg k (own_T T)).2.2) ∧ ((ky_recv agMsg k (own_T T)).2.2.1.length < 1000) ∧ (nI (T.2.2 + 1) ≠ 0) ∧ ((ky_recv agMsg k (own_T T)).1 = 0 → bt_at (tm_row (ky_recv agMsg k (own_T T)).2.2.1 (w4a (ky_recv agMsg k (own_T T)).2.1.1.1.1.2 4)) 0 = 2 ∧ 8 ≤ (ky_recv agMsg k (own_T T)).2.1.1.1.1.2.length ∧ ∀ v ∈ (ky_recv agMsg k (own_T T)).2.1.1.1.1.2, v &&& 255 = v)
theorem agI.i {k : Ky} {T : Tm} {g : Nat} (hh_ : agI k T g) : (k.1.1.1.1.2.1 = true → kI k (g + 3)) ∧ k.2.1.2.2 ≤ 8 := hh_.1
theorem agI.t8 {k : Ky} {T : Tm} {g : Nat} (hh_ : agI k T g) : tk8 (own_T T) := hh_.2.1
theorem agI.t9 {k : Ky} {T : Tm} {g : Nat} (hh_ : agI k T g) : tk9 (own_T T) := hh_.2.2.1
theorem agI.t0 {k : Ky} {T : Tm} {g : Nat} (hh_ : agI k T g) : T.1.length < 1000 := hh_.2.2.2.1
theorem agI.tn {k : Ky} {T : Tm} {g : Nat} (hh_ : agI k T g) : (own_T T).1.length + 4 < 1000 := hh_.2.2.2.2.1
theorem agI.fl {k : Ky} {T : Tm} {g : Nat} (hh_ : agI k T g) : (ky_recv agMsg k (own_T T)).2.1.1.1.1.1.1.length = 512 := hh_.2.2.2.2.2.1
theorem agI.r8 {k : Ky} {T : Tm} {g : Nat} (hh_ : agI k T g) : tk8 (ky_recv agMsg k (own_T T)).2.2 := hh_.2.2.2.2.2.2.1
theorem agI.r9 {k : Ky} {T : Tm} {g : Nat} (hh_ : agI k T g) : tk9 (ky_recv agMsg k (own_T T)).2.2 := hh_.2.2.2.2.2.2.2.1
theorem agI.rn {k : Ky} {T : Tm} {g : Nat} (hh_ : agI k T g) : (ky_recv agMsg k (own_T T)).2.2.1.length < 1000 := hh_.2.2.2.2.2.2.2.2.1
theorem agI.se {k : Ky} {T : Tm} {g : Nat} (hh_ : agI k T g) : nI (T.2.2 + 1) ≠ 0 := hh_.2.2.2.2.2.2.2.2.2.1
theorem agI.pu {k : Ky} {T : Tm} {g : Nat} (hh_ : agI k T g) : (ky_recv agMsg k (own_T T)).1 = 0 → bt_at (tm_row (ky_recv agMsg k (own_T T)).2.2.1 (w4a (ky_recv agMsg k (own_T T)).2.1.1.1.1.2 4)) 0 = 2 ∧ 8 ≤ (ky_recv agMsg k (own_T T)).2.1.1.1.1.2.length ∧ ∀ v ∈ (ky_recv agMsg k (own_T T)).2.1.1.1.1.2, v &&& 255 = v := hh_.2.2.2.2.2.2.2.2.2.2
theorem agI_mk_ {k : Ky} {T : Tm} {g : Nat} (f_0_ : (k.1.1.1.1.2.1 = true → kI k (g + 3)) ∧ k.2.1.2.2 ≤ 8) (f_1_ : tk8 (own_T T)) (f_2_ : tk9 (own_T T)) (f_3_ : T.1.length < 1000) (f_4_ : (own_T T).1.length + 4 < 1000) (f_5_ : (ky_recv agMsg k (own_T T)).2.1.1.1.1.1.1.length = 512) (f_6_ : tk8 (ky_recv agMsg k (own_T T)).2.2) (f_7_ : tk9 (ky_recv agMsg k (own_T T)).2.2) (f_8_ : (ky_recv agMsg k (own_T T)).2.2.1.length < 1000) (f_9_ : nI (T.2.2 + 1) ≠ 0) (f_10_ : (ky_recv agMsg k (own_T T)).1 = 0 → bt_at (tm_row (ky_recv agMsg k (own_T T)).2.2.1 (w4a (ky_recv agMsg k (own_T T)).2.1.1.1.1.2 4)) 0 = 2 ∧ 8 ≤ (ky_recv agMsg k (own_T T)).2.1.1.1.1.2.length ∧ ∀ v ∈ (ky_recv agMsg k (own_T T)).2.1.1.1.1.2, v &&& 255 = v) : agI k T g := And.intro f_0_ (And.intro f_1_ (And.intro f_2_ (And.intro f_3_ (And.intro f_4_ (And.intro f_5_ (And.intro f_6_ (And.intro f_7_ (And.intro f_8_ (And.intro f_9_ f_10_)))))))))
def agH (H : Ho) (a b : Nat) (h : Hd) (k : Ky) : Ho := if (ag_k h k H.2.1).1 = 0 then H.hk a (ag_h h k H.2.1) b ((ag_k h k H.2.1).2.1, ag_T h k H.2.1) else H.hk a (own_h h H.2.1) b (ag_k h k H.2.1).2
section
variable {d g : Nat} {B : Bs} {x : Fx} {y : Sy} {H : Ho} {a b : Nat} {h : Hd} {k : Ky}
theorem set_get {α : Type} {l : List α} {i : Nat} {u v : α} (hi : l[i]? = some u) : (l.set i v)[i]? = some v := by
  have hj : i < l.length := by
    rcases Nat.lt_or_ge i l.length with w | w
    · exact w
    · rw [List.getElem?_eq_none w] at hi; cases hi
  exact List.getElem?_set_self hj
theorem q_agreeing (z : mz x y H) (hh : H.2.2.2.1[a]? = some h) (ha : a < 4) (hk : H.2.2.1[b]? = some k) (I : agI k H.2.1 g) :
    ∃ x' y', mj_V (d + 12) 344 [.ref 67, .int (nI a), .int (nI b)] (mm B x y) = some (some (.int (ag_k h k H.2.1).1), mm B x' y') ∧ mz x' y' (agH H a b h k) ∧ x'.1.1.1.2.1.1 = x.1.1.1.2.1.1 ∧ x'.1.1.1.1.1.1 = x.1.1.1.1.1.1 := by
  obtain ⟨y1, p1, z1⟩ := q_own (d := d + 6) (B := B) z hh ha I.t0
  obtain ⟨D, O, hy1⟩ := z1.y
  obtain ⟨y2, p2, u2⟩ := q_ask (d := d + 9) (B := B) (x := x.w3 a (nI (H.2.1.2.2 + 1)) 0 0) hy1 6 2 (by omega)
  obtain ⟨y3, p3, u3, -⟩ := q_tell (d := d + 10) (B := B) (x := x.w3 a (nI (H.2.1.2.2 + 1)) 0 0) u2 (by simp [S_cb_mmade4_0, S_bx_mcan1_0, S_b8_mkey_1, S_b8_mkey_0, S_b1_mterm_0, S_b1_copy_0, S_b0_mod_7, S_b0_mod_6, S_b0_mod_5, S_b0_mod_3, S_b0_mod_2, S_b0_mod_1, S_b0_mod_0, S_cb_mmade4_1h, S_bx_mcan1_1h, S_b0_mod_4h]) 1
  obtain ⟨y4, p4, u4, -⟩ := q_tell (d := d + 10) (B := B) (x := x.w3 a (nI (H.2.1.2.2 + 1)) 0 0) u3 (by simp [S_cb_mmade4_0, S_bx_mcan1_0, S_b8_mkey_1, S_b8_mkey_0, S_b1_mterm_0, S_b1_copy_0, S_b0_mod_7, S_b0_mod_6, S_b0_mod_5, S_b0_mod_3, S_b0_mod_2, S_b0_mod_1, S_b0_mod_0, S_cb_mmade4_1h, S_bx_mcan1_1h, S_b0_mod_4h]) 1
  obtain ⟨y5, p5, u5, -⟩ := q_tell (d := d + 10) (B := B) (x := x.w3 a (nI (H.2.1.2.2 + 1)) 0 0) u4 (by simp [S_cb_mmade4_0, S_bx_mcan1_0, S_b8_mkey_1, S_b8_mkey_0, S_b1_mterm_0, S_b1_copy_0, S_b0_mod_7, S_b0_mod_6, S_b0_mod_5, S_b0_mod_3, S_b0_mod_2, S_b0_mod_1, S_b0_mod_0, S_cb_mmade4_1h, S_bx_mcan1_1h, S_b0_mod_4h]) 2
  obtain ⟨y6, p6, u6, -⟩ := q_tell (d := d + 10) (B := B) (x := x.w3 a (nI (H.2.1.2.2 + 1)) 0 0) u5 (by simp [S_cb_mmade4_0, S_bx_mcan1_0, S_b8_mkey_1, S_b8_mkey_0, S_b1_mterm_0, S_b1_copy_0, S_b0_mod_7, S_b0_mod_6, S_b0_mod_5, S_b0_mod_3, S_b0_mod_2, S_b0_mod_1, S_b0_mod_0, S_cb_mmade4_1h, S_bx_mcan1_1h, S_b0_mod_4h]) 2
  have u6 : yz y6 (own_T H.2.1) D agMsg := u6
  have z6 : mz (x.w3 a (nI (H.2.1.2.2 + 1)) 0 0) y6 (H.ht a (own_h h H.2.1, own_T H.2.1)) := (mz_mk_ z1.t z1.m z1.k z1.h (⟨_, _, u6⟩))
  obtain ⟨x7, y7, p7, z7, hf7, ht7, hs7, -⟩ := q_sent (d := d) (B := B) (g := g) (H := H.ht a (own_h h H.2.1, own_T H.2.1)) z6 (k := k) hk u6 (by decide) (by decide) I.i I.t8 I.t9 I.tn I.fl
  have p7 : mj_V (d + 11) 346 [.ref 67, .int (nI b)] (mm B (x.w3 a (nI (H.2.1.2.2 + 1)) 0 0) y6) = some (some (.int (ag_k h k H.2.1).1), mm B x7 y7) := p7
  have z7 : mz x7 y7 (H.hk a (own_h h H.2.1) b (ag_k h k H.2.1).2) := z7
  have to38 : ∀ r, mj_Rn (d + 11) mj_m344 38 [(0, .ref 67), (1, .int (nI a)), (2, .int (nI b))] [.int (ag_k h k H.2.1).1] (mm B x7 y7) = some r → mj_V (d + 12) 344 [.ref 67, .int (nI a), .int (nI b)] (mm B x y) = some r := by
    intro r hr
    rw [show nI 2 = (2 : Int32) from rfl] at p2
    generalize x.w3 a (nI (H.2.1.2.2 + 1)) 0 0 = X at *
    generalize (ag_k h k H.2.1).1 = st at *
    generalize own_n H.2.1 = on_ at *
    simp (disch := (first | omega | decide)) [S_cb_mmade4_0, S_bx_mcan1_0, S_b8_mkey_1, S_b8_mkey_0, S_b1_mterm_0, S_b1_copy_0, S_b0_mod_7, S_b0_mod_6, S_b0_mod_5, S_b0_mod_3, S_b0_mod_2, S_b0_mod_1, S_b0_mod_0, S_cb_mmade4_1h, S_bx_mcan1_1h, S_b0_mod_4h, c344, s344_0, s344_1, s344_2, s344_5, s344_6, s344_7, s344_9, s344_10, s344_13, s344_14, s344_15, s344_18, s344_19, s344_20, s344_23, s344_24, s344_25, s344_28, s344_29, s344_30, s344_33, s344_34, s344_35, s344_39, s344_40, s344_43, s344_44, s344_45, s344_46, s344_47, s344_48, s344_51, s344_54, s344_55, s344_56, mq_k0s, mq_k1s, mq_k2s, mq_k4s, mq_k5s, mq_k5n, mq_k5as, mq_k6s, mj_pu, mj_lo, mj_br, mj_hr, mj_hw, mq_gf, mq_len, mq_al, mq_pf, mq_ok, mj_re, mq_lkm, mq_lkn, mj_ldi, mj_ldl, mj_lda, mj_ii, mj_ll, mj_li, mj_i1, ms_1, ms_2, f1_n, f1_i, f1_r, f1_u, f1_l, f2_n, f2_i, f2_r, f2_u, f2_l, mj_tg, mj_c1, mj_c2, mj_ar, mj_aw, mq_cb, mq_oi, mj_rm, Value.category, -getElem?_pos, List.getElem?_cons_zero, decide_eq_true, decide_eq_false, nl_lt, nl_le, ln_lt, ln_le, nl_eq, ln_eq, nl_add, ln_add, nl_sub, ln_mul, nI_sub, nI_mul, nI_add, nI_lt_iff, nI_le_iff, nI_inj, nI_num, mq_ix, nI_1, nl_mul, nl_div, p1, p2, p3, p4, p5, p6, p7]
    refine mq_wk ?_ hr
    simp [S_cb_mmade4_0, S_bx_mcan1_0, S_b8_mkey_1, S_b8_mkey_0, S_b1_mterm_0, S_b1_copy_0, S_b0_mod_7, S_b0_mod_6, S_b0_mod_5, S_b0_mod_3, S_b0_mod_2, S_b0_mod_1, S_b0_mod_0, S_cb_mmade4_1h, S_bx_mcan1_1h, S_b0_mod_4h, mq_sub, mj_lk]
  unfold agH
  by_cases h0 : (ag_k h k H.2.1).1 = 0
  · rw [if_pos h0]
    obtain ⟨pu1, pu2, pu3⟩ := I.pu h0
    have hk7 : (H.hk a (own_h h H.2.1) b (ag_k h k H.2.1).2).2.2.1[b]? = some (ag_k h k H.2.1).2.1 := set_get hk
    have hh7 : (H.hk a (own_h h H.2.1) b (ag_k h k H.2.1).2).2.2.2.1[a]? = some (own_h h H.2.1) := set_get hh
    have r1 := q_answerInt (d := d + 9) (B := B) z7 hk7 (p := 4) (by show 4 + 4 ≤ (ky_recv agMsg k (own_T H.2.1)).2.1.1.1.1.2.length; omega) pu3
    obtain ⟨x8, y8, p8, z8, -, ht8, hs8⟩ := q_agree (d := d + 7) (B := B) z7 hh7 ha I.se (t := w4a (ag_k h k H.2.1).2.1.1.1.1.2 4) pu1 I.r8 I.r9 I.rn
    have z8 : mz x8 y8 (H.hk a (ag_h h k H.2.1) b ((ag_k h k H.2.1).2.1, ag_T h k H.2.1)) := by
      have e : (H.hk a (own_h h H.2.1) b (ag_k h k H.2.1).2).ht a (agr_h (own_h h H.2.1) (ag_k h k H.2.1).2.2 (tm_sec (ag_k h k H.2.1).2.2.1 (w4a (ag_k h k H.2.1).2.1.1.1.1.2 4)), agr_T (own_h h H.2.1) (ag_k h k H.2.1).2.2 (tm_sec (ag_k h k H.2.1).2.2.1 (w4a (ag_k h k H.2.1).2.1.1.1.1.2 4))) = H.hk a (ag_h h k H.2.1) b ((ag_k h k H.2.1).2.1, ag_T h k H.2.1) := by
        unfold Ho.hk Ho.ht ag_h ag_T
        simp only [List.set_set]
      rw [← e]
      exact z8
    refine ⟨x8, y8, to38 _ ?_, z8, ht8.trans ht7, hs8.trans hs7⟩
    rw [h0]
    rw [show nI 4 = (4 : Int32) from rfl] at r1
    generalize w4a (ag_k h k H.2.1).2.1.1.1.1.2 4 = av at *
    simp (disch := (first | omega | decide)) [S_cb_mmade4_0, S_bx_mcan1_0, S_b8_mkey_1, S_b8_mkey_0, S_b1_mterm_0, S_b1_copy_0, S_b0_mod_7, S_b0_mod_6, S_b0_mod_5, S_b0_mod_3, S_b0_mod_2, S_b0_mod_1, S_b0_mod_0, S_cb_mmade4_1h, S_bx_mcan1_1h, S_b0_mod_4h, s344_0, s344_1, s344_2, s344_5, s344_6, s344_7, s344_9, s344_10, s344_13, s344_14, s344_15, s344_18, s344_19, s344_20, s344_23, s344_24, s344_25, s344_28, s344_29, s344_30, s344_33, s344_34, s344_35, s344_38, s344_39, s344_40, s344_43, s344_44, s344_45, s344_46, s344_47, s344_48, s344_51, s344_54, s344_55, s344_56, mq_k0s, mq_k1s, mq_k2s, mq_k4s, mq_k5s, mq_k5n, mq_k5as, mq_k6s, mj_pu, mj_lo, mj_br, mj_hr, mj_hw, mq_gf, mq_len, mq_al, mq_pf, mq_ok, mj_re, mq_lkm, mq_lkn, mj_ldi, mj_ldl, mj_lda, mj_ii, mj_ll, mj_li, mj_i1, ms_1, ms_2, f1_n, f1_i, f1_r, f1_u, f1_l, f2_n, f2_i, f2_r, f2_u, f2_l, mj_tg, mj_c1, mj_c2, mj_ar, mj_aw, mq_cb, mq_oi, mj_rm, Value.category, -getElem?_pos, List.getElem?_cons_zero, decide_eq_true, decide_eq_false, nl_lt, nl_le, ln_lt, ln_le, nl_eq, ln_eq, nl_add, ln_add, nl_sub, ln_mul, nI_sub, nI_mul, nI_add, nI_lt_iff, nI_le_iff, nI_inj, nI_num, mq_ix, nI_1, nl_mul, nl_div, r1, p8, narrow]
  · rw [if_neg h0]
    refine ⟨x7, y7, to38 _ ?_, z7, ht7, hs7⟩
    generalize (ag_k h k H.2.1).1 = st at *
    simp (disch := (first | omega | decide)) [S_cb_mmade4_0, S_bx_mcan1_0, S_b8_mkey_1, S_b8_mkey_0, S_b1_mterm_0, S_b1_copy_0, S_b0_mod_7, S_b0_mod_6, S_b0_mod_5, S_b0_mod_3, S_b0_mod_2, S_b0_mod_1, S_b0_mod_0, S_cb_mmade4_1h, S_bx_mcan1_1h, S_b0_mod_4h, s344_0, s344_1, s344_2, s344_5, s344_6, s344_7, s344_9, s344_10, s344_13, s344_14, s344_15, s344_18, s344_19, s344_20, s344_23, s344_24, s344_25, s344_28, s344_29, s344_30, s344_33, s344_34, s344_35, s344_38, s344_39, s344_40, s344_43, s344_44, s344_45, s344_46, s344_47, s344_48, s344_51, s344_54, s344_55, s344_56, mq_k0s, mq_k1s, mq_k2s, mq_k4s, mq_k5s, mq_k5n, mq_k5as, mq_k6s, mj_pu, mj_lo, mj_br, mj_hr, mj_hw, mq_gf, mq_len, mq_al, mq_pf, mq_ok, mj_re, mq_lkm, mq_lkn, mj_ldi, mj_ldl, mj_lda, mj_ii, mj_ll, mj_li, mj_i1, ms_1, ms_2, f1_n, f1_i, f1_r, f1_u, f1_l, f2_n, f2_i, f2_r, f2_u, f2_l, mj_tg, mj_c1, mj_c2, mj_ar, mj_aw, mq_cb, mq_oi, mj_rm, Value.category, -getElem?_pos, List.getElem?_cons_zero, decide_eq_true, decide_eq_false, nl_lt, nl_le, ln_lt, ln_le, nl_eq, ln_eq, nl_add, ln_add, nl_sub, ln_mul, nI_sub, nI_mul, nI_add, nI_lt_iff, nI_le_iff, nI_inj, nI_num, mq_ix, nI_1, nl_mul, nl_div, h0, narrow]
/-- the second message of setting a PIN -/
def spI (h : Hd) (k : Ky) (T : Tm) (own : Int32) (g : Nat) : Prop := ((k.1.1.1.1.2.1 = true → kI k (g + 3)) ∧ k.2.1.2.2 ≤ 8) ∧ (T.1.length + 10 < 1000) ∧ (nI (tm_no (tm_mk (tm_mk T (enc_row h h.1)) (mac_row h (b4 (nI (tm_no T (enc_row h h.1)))))) [2, h.2.2.1]) = own ∧ tm_mk (tm_mk (tm_mk T (enc_row h h.1)) (mac_row h (b4 (nI (tm_no T (enc_row h h.1)))))) [2, h.2.2.1] = tm_mk (tm_mk T (enc_row h h.1)) (mac_row h (b4 (nI (tm_no T (enc_row h h.1)))))) ∧ (tk8 (tm_mk (tm_mk T (enc_row h h.1)) (mac_row h (b4 (nI (tm_no T (enc_row h h.1))))))) ∧ (tk9 (tm_mk (tm_mk T (enc_row h h.1)) (mac_row h (b4 (nI (tm_no T (enc_row h h.1))))))) ∧ ((sp_2 h k T own).2.1.1.1.1.1.1.length = 512)
theorem spI.i {h : Hd} {k : Ky} {T : Tm} {own : Int32} {g : Nat} (hh_ : spI h k T own g) : (k.1.1.1.1.2.1 = true → kI k (g + 3)) ∧ k.2.1.2.2 ≤ 8 := hh_.1
theorem spI.tn {h : Hd} {k : Ky} {T : Tm} {own : Int32} {g : Nat} (hh_ : spI h k T own g) : T.1.length + 10 < 1000 := hh_.2.1
theorem spI.ow {h : Hd} {k : Ky} {T : Tm} {own : Int32} {g : Nat} (hh_ : spI h k T own g) : nI (tm_no (tm_mk (tm_mk T (enc_row h h.1)) (mac_row h (b4 (nI (tm_no T (enc_row h h.1)))))) [2, h.2.2.1]) = own ∧ tm_mk (tm_mk (tm_mk T (enc_row h h.1)) (mac_row h (b4 (nI (tm_no T (enc_row h h.1)))))) [2, h.2.2.1] = tm_mk (tm_mk T (enc_row h h.1)) (mac_row h (b4 (nI (tm_no T (enc_row h h.1))))) := hh_.2.2.1
theorem spI.t8 {h : Hd} {k : Ky} {T : Tm} {own : Int32} {g : Nat} (hh_ : spI h k T own g) : tk8 (tm_mk (tm_mk T (enc_row h h.1)) (mac_row h (b4 (nI (tm_no T (enc_row h h.1)))))) := hh_.2.2.2.1
theorem spI.t9 {h : Hd} {k : Ky} {T : Tm} {own : Int32} {g : Nat} (hh_ : spI h k T own g) : tk9 (tm_mk (tm_mk T (enc_row h h.1)) (mac_row h (b4 (nI (tm_no T (enc_row h h.1)))))) := hh_.2.2.2.2.1
theorem spI.fl {h : Hd} {k : Ky} {T : Tm} {own : Int32} {g : Nat} (hh_ : spI h k T own g) : (sp_2 h k T own).2.1.1.1.1.1.1.length = 512 := hh_.2.2.2.2.2
theorem spI_mk_ {h : Hd} {k : Ky} {T : Tm} {own : Int32} {g : Nat} (f_0_ : (k.1.1.1.1.2.1 = true → kI k (g + 3)) ∧ k.2.1.2.2 ≤ 8) (f_1_ : T.1.length + 10 < 1000) (f_2_ : nI (tm_no (tm_mk (tm_mk T (enc_row h h.1)) (mac_row h (b4 (nI (tm_no T (enc_row h h.1)))))) [2, h.2.2.1]) = own ∧ tm_mk (tm_mk (tm_mk T (enc_row h h.1)) (mac_row h (b4 (nI (tm_no T (enc_row h h.1)))))) [2, h.2.2.1] = tm_mk (tm_mk T (enc_row h h.1)) (mac_row h (b4 (nI (tm_no T (enc_row h h.1)))))) (f_3_ : tk8 (tm_mk (tm_mk T (enc_row h h.1)) (mac_row h (b4 (nI (tm_no T (enc_row h h.1))))))) (f_4_ : tk9 (tm_mk (tm_mk T (enc_row h h.1)) (mac_row h (b4 (nI (tm_no T (enc_row h h.1))))))) (f_5_ : (sp_2 h k T own).2.1.1.1.1.1.1.length = 512) : spI h k T own g := And.intro f_0_ (And.intro f_1_ (And.intro f_2_ (And.intro f_3_ (And.intro f_4_ f_5_))))
theorem o_setPin (z : mz x y H) (i l : Int32) (I : ∀ k ∈ H.2.2.1, agI k H.2.1 g) (J : ∀ h ∈ H.2.2.2.1, ∀ k ∈ H.2.2.1, (ag_k h k H.2.1).1 = 0 → spI (ag_h h k H.2.1) (ag_k h k H.2.1).2.1 (ag_T h k H.2.1) (own_n H.2.1) g) : oR (d + 13) 343 [.ref 67, .int i, .int l] B x y (ho_setPin H i l) := by
  have rh := q_isHand (d := d + 11) (M := mm B x y) i
  have rk := q_isKey (d := d + 11) (B := B) (y := y) z.k.n z.k.n3 l
  unfold ho_setPin
  cases hi : ix i 4 with
  | none =>
    rw [hi] at rh
    simp only [on1, Option.isSome_none, Bool.false_eq_true, if_false] at rh
    dsimp only
    refine ⟨x, y, ?_, z⟩
    simp (disch := (first | omega | decide)) [S_cb_mmade4_0, S_bx_mcan1_0, S_b8_mkey_1, S_b8_mkey_0, S_b1_mterm_0, S_b1_copy_0, S_b0_mod_7, S_b0_mod_6, S_b0_mod_5, S_b0_mod_3, S_b0_mod_2, S_b0_mod_1, S_b0_mod_0, S_cb_mmade4_1h, S_bx_mcan1_1h, S_b0_mod_4h, c343, s343_0, s343_1, s343_4, s343_7, s343_8, s343_9, s343_12, s343_15, s343_16, s343_17, s343_18, s343_19, s343_20, s343_23, s343_24, s343_25, s343_28, s343_29, s343_30, s343_31, s343_32, s343_33, s343_36, s343_38, s343_39, s343_40, s343_41, s343_44, s343_45, s343_46, s343_49, s343_51, s343_52, s343_53, s343_55, s343_56, s343_59, s343_61, s343_62, s343_63, s343_64, s343_65, s343_68, s343_69, s343_70, s343_72, s343_75, s343_76, s343_77, s343_79, s343_82, s343_83, s343_84, s343_87, mq_k0s, mq_k1s, mq_k2s, mq_k4s, mq_k5s, mq_k5n, mq_k5as, mq_k6s, mj_pu, mj_lo, mj_br, mj_hr, mj_hw, mq_gf, mq_len, mq_al, mq_pf, mq_ok, mj_re, mq_lkm, mq_lkn, mj_ldi, mj_ldl, mj_lda, mj_ii, mj_ll, mj_li, mj_i1, ms_1, ms_2, f1_n, f1_i, f1_r, f1_u, f1_l, f2_n, f2_i, f2_r, f2_u, f2_l, mj_tg, mj_c1, mj_c2, mj_ar, mj_aw, mq_cb, mq_oi, mj_rm, Value.category, -getElem?_pos, List.getElem?_cons_zero, decide_eq_true, decide_eq_false, nl_lt, nl_le, ln_lt, ln_le, nl_eq, ln_eq, nl_add, ln_add, nl_sub, ln_mul, nI_sub, nI_mul, nI_add, nI_lt_iff, nI_le_iff, nI_inj, nI_num, mq_ix, nI_1, nl_mul, nl_div, rh, narrow]
  | some a =>
    rw [hi] at rh
    simp only [on1, Option.isSome_some, if_true] at rh
    cases hl : ix l H.2.2.1.length with
    | none =>
      rw [hl] at rk
      simp only [on1, Option.isSome_none, Bool.false_eq_true, if_false] at rk
      dsimp only
      refine ⟨x, y, ?_, z⟩
      simp (disch := (first | omega | decide)) [S_cb_mmade4_0, S_bx_mcan1_0, S_b8_mkey_1, S_b8_mkey_0, S_b1_mterm_0, S_b1_copy_0, S_b0_mod_7, S_b0_mod_6, S_b0_mod_5, S_b0_mod_3, S_b0_mod_2, S_b0_mod_1, S_b0_mod_0, S_cb_mmade4_1h, S_bx_mcan1_1h, S_b0_mod_4h, c343, s343_0, s343_1, s343_4, s343_7, s343_8, s343_9, s343_12, s343_15, s343_16, s343_17, s343_18, s343_19, s343_20, s343_23, s343_24, s343_25, s343_28, s343_29, s343_30, s343_31, s343_32, s343_33, s343_36, s343_38, s343_39, s343_40, s343_41, s343_44, s343_45, s343_46, s343_49, s343_51, s343_52, s343_53, s343_55, s343_56, s343_59, s343_61, s343_62, s343_63, s343_64, s343_65, s343_68, s343_69, s343_70, s343_72, s343_75, s343_76, s343_77, s343_79, s343_82, s343_83, s343_84, s343_87, mq_k0s, mq_k1s, mq_k2s, mq_k4s, mq_k5s, mq_k5n, mq_k5as, mq_k6s, mj_pu, mj_lo, mj_br, mj_hr, mj_hw, mq_gf, mq_len, mq_al, mq_pf, mq_ok, mj_re, mq_lkm, mq_lkn, mj_ldi, mj_ldl, mj_lda, mj_ii, mj_ll, mj_li, mj_i1, ms_1, ms_2, f1_n, f1_i, f1_r, f1_u, f1_l, f2_n, f2_i, f2_r, f2_u, f2_l, mj_tg, mj_c1, mj_c2, mj_ar, mj_aw, mq_cb, mq_oi, mj_rm, Value.category, -getElem?_pos, List.getElem?_cons_zero, decide_eq_true, decide_eq_false, nl_lt, nl_le, ln_lt, ln_le, nl_eq, ln_eq, nl_add, ln_add, nl_sub, ln_mul, nI_sub, nI_mul, nI_add, nI_lt_iff, nI_le_iff, nI_inj, nI_num, mq_ix, nI_1, nl_mul, nl_div, rh, rk, narrow]
    | some b =>
      rw [hl] at rk
      simp only [on1, Option.isSome_some, if_true] at rk
      obtain ⟨h, hh, rfl, ha, hm⟩ := hand_at z hi
      obtain ⟨k, hk, rfl⟩ := key_at hl
      dsimp only
      rw [hh, hk]
      dsimp only
      have hmk := List.mem_of_getElem? hk
      have hmh := List.mem_of_getElem? hh
      obtain ⟨x1, y1, p1, z1, -⟩ := q_agreeing (d := d) (B := B) z hh ha hk (I k hmk)
      unfold agH at z1
      by_cases h0 : (ag_k h k H.2.1).1 = 0
      · rw [if_pos h0] at z1
        rw [if_neg (fun w => w h0)]
        have Q := J h hmh k hmk h0
        rw [h0] at p1
        have hh1 : (H.hk a (ag_h h k H.2.1) b ((ag_k h k H.2.1).2.1, ag_T h k H.2.1)).2.2.2.1[a]? = some (ag_h h k H.2.1) := set_get hh
        have hk1 : (H.hk a (ag_h h k H.2.1) b ((ag_k h k H.2.1).2.1, ag_T h k H.2.1)).2.2.1[b]? = some (ag_k h k H.2.1).2.1 := set_get hk
        have hm1 := z1.h.hs a _ hh1
        obtain ⟨D, O, hyT⟩ : ∃ D O, yz y1 (ag_T h k H.2.1) D O := z1.y
        generalize hh2 : ag_h h k H.2.1 = h2 at *
        generalize hk2 : (ag_k h k H.2.1).2.1 = k2 at *
        generalize hT2 : ag_T h k H.2.1 = T2 at *
        have tn := Q.tn
        have l1 := z1.h.l.typed
        have l2 := z1.h.l.agreed
        have l3 := z1.h.l.typedLong
        have l4 := z1.h.l.secretOf
        have h12 := hm1.t12
        have hsl : (x1.2.1.2.1.1.2.drop (12 * a)).take h2.1.length = h2.1 := sub_eq hm1.ty rfl
        obtain ⟨y2, p2, D2, z2⟩ := q_enc (d := d + 8) (B := B) (x := x1) hyT l2 hm1.ag ha (a := 122) (q := 12 * a) (n := h2.1.length) (l := x1.2.1.2.1.1.2) (fun y' => by simp [S_cb_mmade4_0, S_bx_mcan1_0, S_b8_mkey_1, S_b8_mkey_0, S_b1_mterm_0, S_b1_copy_0, S_b0_mod_7, S_b0_mod_6, S_b0_mod_5, S_b0_mod_3, S_b0_mod_2, S_b0_mod_1, S_b0_mod_0, S_cb_mmade4_1h, S_bx_mcan1_1h, S_b0_mod_4h]) (by omega) (by omega) (by omega) (by omega)
        rw [hsl, show 4 :: h2.2.2.2.1 :: h2.1 = enc_row h2 h2.1 from rfl] at p2 z2
        have r2 := tm_mk_len T2 (enc_row h2 h2.1)
        obtain ⟨y3, p3, D3, z3⟩ := q_macOf (d := d + 8) (B := B) (x := x1) z2 l2 hm1.ag ha (nI (tm_no T2 (enc_row h2 h2.1))) 0 (by omega)
        rw [if_pos rfl, List.append_nil, show 5 :: h2.2.2.2.1 :: b4 (nI (tm_no T2 (enc_row h2 h2.1))) = mac_row h2 (b4 (nI (tm_no T2 (enc_row h2 h2.1)))) from rfl] at p3 z3
        have r3 := tm_mk_len (tm_mk T2 (enc_row h2 h2.1)) (mac_row h2 (b4 (nI (tm_no T2 (enc_row h2 h2.1)))))
        obtain ⟨y4, p4, D4, z4⟩ := q_askPin (d := d + 7) (B := B) (x := x1) z3 l4 hm1.se ha 5 (by omega) 3 (by omega)
        rw [Q.ow.1, Q.ow.2] at z4
        obtain ⟨y5, p5, z5⟩ := q_tellMember (d := d + 9) (B := B) (x := x1) z4 (by simp [S_cb_mmade4_0, S_bx_mcan1_0, S_b8_mkey_1, S_b8_mkey_0, S_b1_mterm_0, S_b1_copy_0, S_b0_mod_7, S_b0_mod_6, S_b0_mod_5, S_b0_mod_3, S_b0_mod_2, S_b0_mod_1, S_b0_mod_0, S_cb_mmade4_1h, S_bx_mcan1_1h, S_b0_mod_4h, b4_len]) 4 (nI (tm_no (tm_mk T2 (enc_row h2 h2.1)) (mac_row h2 (b4 (nI (tm_no T2 (enc_row h2 h2.1)))))))
        obtain ⟨y6, p6, z6⟩ := q_tellMember (d := d + 9) (B := B) (x := x1) z5 (by simp [S_cb_mmade4_0, S_bx_mcan1_0, S_b8_mkey_1, S_b8_mkey_0, S_b1_mterm_0, S_b1_copy_0, S_b0_mod_7, S_b0_mod_6, S_b0_mod_5, S_b0_mod_3, S_b0_mod_2, S_b0_mod_1, S_b0_mod_0, S_cb_mmade4_1h, S_bx_mcan1_1h, S_b0_mod_4h, b4_len, mbr]) 5 (nI (tm_no T2 (enc_row h2 h2.1)))
        have q8 := Q.t8
        have q9 := Q.t9
        generalize hT4 : tm_mk (tm_mk T2 (enc_row h2 h2.1)) (mac_row h2 (b4 (nI (tm_no T2 (enc_row h2 h2.1))))) = T4 at *
        generalize hmac : nI (tm_no (tm_mk T2 (enc_row h2 h2.1)) (mac_row h2 (b4 (nI (tm_no T2 (enc_row h2 h2.1)))))) = mac at *
        generalize henc : nI (tm_no T2 (enc_row h2 h2.1)) = enc at *
        have emsg : [6, nI (160 + 5), 1, 1, 2, 3, 3] ++ 68 :: b4 (own_n H.2.1) ++ mbr 4 mac ++ mbr 5 enc = pnMsg 165 3 (own_n H.2.1) (mbr 4 mac ++ mbr 5 enc) := by
          unfold pnMsg
          simp only [List.append_assoc, List.cons_append, List.nil_append]
          rfl
        rw [emsg] at z6
        have e2 : sp_2 h2 k2 T2 (own_n H.2.1) = ky_recv (pnMsg 165 3 (own_n H.2.1) (mbr 4 mac ++ mbr 5 enc)) k2 T4 := by
          unfold sp_2
          rw [henc, hT4, hmac]
        have zz : mz x1 y6 (H.hk a h2 b (k2, T4)) := (mz_mk_ z1.t z1.m z1.k z1.h (⟨_, _, z6⟩))
        obtain ⟨x7, y7, p7, z7, -⟩ := q_sent (d := d + 1) (B := B) (g := g) (H := H.hk a h2 b (k2, T4)) zz (k := k2) hk1 z6 (pnMsg_by (by decide) (by decide) (app_by (mbr_by (by decide)) (mbr_by (by decide)))) (by simp [S_cb_mmade4_0, S_bx_mcan1_0, S_b8_mkey_1, S_b8_mkey_0, S_b1_mterm_0, S_b1_copy_0, S_b0_mod_7, S_b0_mod_6, S_b0_mod_5, S_b0_mod_3, S_b0_mod_2, S_b0_mod_1, S_b0_mod_0, S_cb_mmade4_1h, S_bx_mcan1_1h, S_b0_mod_4h, pnMsg, mbr, b4_len]) Q.i q8 q9 (by show T4.1.length + 4 < 1000; omega) (by have := Q.fl; rw [e2] at this; exact this)
        have p7 : mj_V (d + 12) 346 [.ref 67, .int (nI b)] (mm B x1 y6) = some (some (.int (ky_recv (pnMsg 165 3 (own_n H.2.1) (mbr 4 mac ++ mbr 5 enc)) k2 T4).1), mm B x7 y7) := p7
        rw [← e2] at p7
        refine ⟨x7, y7, ?_, ?_⟩
        · rw [show nI 5 = (5 : Int32) from rfl] at p4
          have htl := hm1.tl
          generalize (sp_2 h2 k2 T2 (own_n H.2.1)).1 = st at *
          simp (disch := (first | omega | decide)) [S_cb_mmade4_0, S_bx_mcan1_0, S_b8_mkey_1, S_b8_mkey_0, S_b1_mterm_0, S_b1_copy_0, S_b0_mod_7, S_b0_mod_6, S_b0_mod_5, S_b0_mod_3, S_b0_mod_2, S_b0_mod_1, S_b0_mod_0, S_cb_mmade4_1h, S_bx_mcan1_1h, S_b0_mod_4h, c343, s343_0, s343_1, s343_4, s343_7, s343_8, s343_9, s343_12, s343_15, s343_16, s343_17, s343_18, s343_19, s343_20, s343_23, s343_24, s343_25, s343_28, s343_29, s343_30, s343_31, s343_32, s343_33, s343_36, s343_38, s343_39, s343_40, s343_41, s343_44, s343_45, s343_46, s343_49, s343_51, s343_52, s343_53, s343_55, s343_56, s343_59, s343_61, s343_62, s343_63, s343_64, s343_65, s343_68, s343_69, s343_70, s343_72, s343_75, s343_76, s343_77, s343_79, s343_82, s343_83, s343_84, s343_87, mq_k0s, mq_k1s, mq_k2s, mq_k4s, mq_k5s, mq_k5n, mq_k5as, mq_k6s, mj_pu, mj_lo, mj_br, mj_hr, mj_hw, mq_gf, mq_len, mq_al, mq_pf, mq_ok, mj_re, mq_lkm, mq_lkn, mj_ldi, mj_ldl, mj_lda, mj_ii, mj_ll, mj_li, mj_i1, ms_1, ms_2, f1_n, f1_i, f1_r, f1_u, f1_l, f2_n, f2_i, f2_r, f2_u, f2_l, mj_tg, mj_c1, mj_c2, mj_ar, mj_aw, mq_cb, mq_oi, mj_rm, Value.category, -getElem?_pos, List.getElem?_cons_zero, decide_eq_true, decide_eq_false, nl_lt, nl_le, ln_lt, ln_le, nl_eq, ln_eq, nl_add, ln_add, nl_sub, ln_mul, nI_sub, nI_mul, nI_add, nI_lt_iff, nI_le_iff, nI_inj, nI_num, mq_ix, nI_1, nl_mul, nl_div, rh, rk, p1, l3, htl, p2, p3, p4, p5, p6, p7, narrow]
        · have e : (H.hk a h2 b (k2, T4)).kt b (sp_2 h2 k2 T2 (own_n H.2.1)).2 = H.hk a h2 b (sp_2 h2 k2 T2 (own_n H.2.1)).2 := by
            unfold Ho.hk Ho.kt
            simp only [List.set_set]
          rw [← e, e2]
          exact z7
      · rw [if_neg h0] at z1
        rw [if_pos h0]
        refine ⟨x1, y1, ?_, z1⟩
        generalize (ag_k h k H.2.1).1 = st at *
        simp (disch := (first | omega | decide)) [S_cb_mmade4_0, S_bx_mcan1_0, S_b8_mkey_1, S_b8_mkey_0, S_b1_mterm_0, S_b1_copy_0, S_b0_mod_7, S_b0_mod_6, S_b0_mod_5, S_b0_mod_3, S_b0_mod_2, S_b0_mod_1, S_b0_mod_0, S_cb_mmade4_1h, S_bx_mcan1_1h, S_b0_mod_4h, c343, s343_0, s343_1, s343_4, s343_7, s343_8, s343_9, s343_12, s343_15, s343_16, s343_17, s343_18, s343_19, s343_20, s343_23, s343_24, s343_25, s343_28, s343_29, s343_30, s343_31, s343_32, s343_33, s343_36, s343_38, s343_39, s343_40, s343_41, s343_44, s343_45, s343_46, s343_49, s343_51, s343_52, s343_53, s343_55, s343_56, s343_59, s343_61, s343_62, s343_63, s343_64, s343_65, s343_68, s343_69, s343_70, s343_72, s343_75, s343_76, s343_77, s343_79, s343_82, s343_83, s343_84, s343_87, mq_k0s, mq_k1s, mq_k2s, mq_k4s, mq_k5s, mq_k5n, mq_k5as, mq_k6s, mj_pu, mj_lo, mj_br, mj_hr, mj_hw, mq_gf, mq_len, mq_al, mq_pf, mq_ok, mj_re, mq_lkm, mq_lkn, mj_ldi, mj_ldl, mj_lda, mj_ii, mj_ll, mj_li, mj_i1, ms_1, ms_2, f1_n, f1_i, f1_r, f1_u, f1_l, f2_n, f2_i, f2_r, f2_u, f2_l, mj_tg, mj_c1, mj_c2, mj_ar, mj_aw, mq_cb, mq_oi, mj_rm, Value.category, -getElem?_pos, List.getElem?_cons_zero, decide_eq_true, decide_eq_false, nl_lt, nl_le, ln_lt, ln_le, nl_eq, ln_eq, nl_add, ln_add, nl_sub, ln_mul, nI_sub, nI_mul, nI_add, nI_lt_iff, nI_le_iff, nI_inj, nI_num, mq_ix, nI_1, nl_mul, nl_div, rh, rk, p1, h0, narrow]
end
end
