/- d7.mhands -/
section
set_option maxRecDepth 512
/-! The model: hands. -/
/- 335 PasskeyHouseModel.own(I)I -/
theorem s335_0 {d : Nat} {ls : mj_L} {st : List Value} {M : mj_H} : mj_Rn d mj_m335 0 ls st M = mq_k0 d mj_m335 1 ls M (mj_ldi (mj_lk ls 1) st) := mj_R0 (r := (.iload_n 1, 1, 0, 0, 0)) rfl rfl
theorem s335_1 {d : Nat} {ls : mj_L} {st : List Value} {M : mj_H} : mj_Rn (d + 1) mj_m335 1 ls st M = mq_k5a (d + 1) mj_m335 4 ls M 336 (mq_cb 2 1 11 st M) := mj_R5e (r := (.invokestatic 587, 3, 2, 336, 37056)) (z := mj_m336) rfl rfl (by decide) (by decide) rfl
theorem s335_4 {d : Nat} {ls : mj_L} {st : List Value} {M : mj_H} : mj_Rn d mj_m335 4 ls st M = mq_k2 d mj_m335 ls M (mj_br (.ifCond .ne 5) 4 st) := mj_R2 (r := (.ifCond .ne 5, 3, 0, 0, 0)) rfl rfl
theorem s335_7 {d : Nat} {ls : mj_L} {st : List Value} {M : mj_H} : mj_Rn d mj_m335 7 ls st M = mj_Rn d mj_m335 8 ls (.int (-1) :: st) M := mj_R0 (r := (.iconst (-1), 1, 0, 0, 0)) rfl rfl
theorem s335_8 {d : Nat} {ls : mj_L} {st : List Value} {M : mj_H} : mj_Rn d mj_m335 8 ls st M = mq_k6 M (mj_re (some .int) (.ireturn) st) := mj_R6 (r := (.ireturn, 1, 0, 0, 0)) rfl rfl
theorem s335_9 {d : Nat} {ls : mj_L} {st : List Value} {M : mj_H} : mj_Rn d mj_m335 9 ls st M = mq_k0 d mj_m335 10 ls M (mj_lda (mj_lk ls 0) st) := mj_R0 (r := (.aload_n 0, 1, 0, 0, 0)) rfl rfl
theorem s335_10 {d : Nat} {ls : mj_L} {st : List Value} {M : mj_H} : mj_Rn d mj_m335 10 ls st M = mq_k0 d mj_m335 13 ls M (mq_gf 11 61 st M) := (mj_R3 (r := (.getfield 167, 3, 11, 61, 57430)) rfl rfl).trans (congrArg (mq_k0 d mj_m335 13 ls M) mq_gf_eq)
theorem s335_13 {d : Nat} {ls : mj_L} {st : List Value} {M : mj_H} : mj_Rn d mj_m335 13 ls st M = mq_k0 d mj_m335 14 ls M (mj_ldi (mj_lk ls 1) st) := mj_R0 (r := (.iload_n 1, 1, 0, 0, 0)) rfl rfl
theorem s335_14 {d : Nat} {ls : mj_L} {st : List Value} {M : mj_H} : mj_Rn d mj_m335 14 ls st M = mq_k0 d mj_m335 15 ls M (mj_lda (mj_lk ls 0) st) := mj_R0 (r := (.aload_n 0, 1, 0, 0, 0)) rfl rfl
theorem s335_15 {d : Nat} {ls : mj_L} {st : List Value} {M : mj_H} : mj_Rn (d + 1) mj_m335 15 ls st M = mq_k5a (d + 1) mj_m335 18 ls M 269 (mq_cb 0 0 11 st M) := mj_R5e (r := (.invokevirtual 386, 3, 0, 269, 32927)) (z := mj_m269) rfl rfl (by decide) (by decide) rfl
theorem s335_18 {d : Nat} {ls : mj_L} {st : List Value} {M : mj_H} : mj_Rn d mj_m335 18 ls st M = mq_k4 d mj_m335 19 ls (mj_hw (.iastore, 1, 0, 0, 0) st M) := mj_R4 (r := (.iastore, 1, 0, 0, 0)) rfl rfl
theorem s335_19 {d : Nat} {ls : mj_L} {st : List Value} {M : mj_H} : mj_Rn d mj_m335 19 ls st M = mq_k0 d mj_m335 20 ls M (mj_lda (mj_lk ls 0) st) := mj_R0 (r := (.aload_n 0, 1, 0, 0, 0)) rfl rfl
theorem s335_20 {d : Nat} {ls : mj_L} {st : List Value} {M : mj_H} : mj_Rn d mj_m335 20 ls st M = mq_k0 d mj_m335 23 ls M (mq_gf 11 62 st M) := (mj_R3 (r := (.getfield 170, 3, 11, 62, 57432)) rfl rfl).trans (congrArg (mq_k0 d mj_m335 23 ls M) mq_gf_eq)
theorem s335_23 {d : Nat} {ls : mj_L} {st : List Value} {M : mj_H} : mj_Rn d mj_m335 23 ls st M = mq_k0 d mj_m335 24 ls M (mj_ldi (mj_lk ls 1) st) := mj_R0 (r := (.iload_n 1, 1, 0, 0, 0)) rfl rfl
theorem s335_24 {d : Nat} {ls : mj_L} {st : List Value} {M : mj_H} : mj_Rn d mj_m335 24 ls st M = mj_Rn d mj_m335 25 ls (.int 0 :: st) M := mj_R0 (r := (.iconst 0, 1, 0, 0, 0)) rfl rfl
theorem s335_25 {d : Nat} {ls : mj_L} {st : List Value} {M : mj_H} : mj_Rn d mj_m335 25 ls st M = mq_k4 d mj_m335 26 ls (mj_hw (.iastore, 1, 0, 0, 0) st M) := mj_R4 (r := (.iastore, 1, 0, 0, 0)) rfl rfl
theorem s335_26 {d : Nat} {ls : mj_L} {st : List Value} {M : mj_H} : mj_Rn d mj_m335 26 ls st M = mq_k0 d mj_m335 27 ls M (mj_lda (mj_lk ls 0) st) := mj_R0 (r := (.aload_n 0, 1, 0, 0, 0)) rfl rfl
theorem s335_27 {d : Nat} {ls : mj_L} {st : List Value} {M : mj_H} : mj_Rn d mj_m335 27 ls st M = mq_k0 d mj_m335 30 ls M (mq_gf 11 63 st M) := (mj_R3 (r := (.getfield 173, 3, 11, 63, 57434)) rfl rfl).trans (congrArg (mq_k0 d mj_m335 30 ls M) mq_gf_eq)
theorem s335_30 {d : Nat} {ls : mj_L} {st : List Value} {M : mj_H} : mj_Rn d mj_m335 30 ls st M = mq_k0 d mj_m335 31 ls M (mj_ldi (mj_lk ls 1) st) := mj_R0 (r := (.iload_n 1, 1, 0, 0, 0)) rfl rfl
theorem s335_31 {d : Nat} {ls : mj_L} {st : List Value} {M : mj_H} : mj_Rn d mj_m335 31 ls st M = mj_Rn d mj_m335 32 ls (.int 0 :: st) M := mj_R0 (r := (.iconst 0, 1, 0, 0, 0)) rfl rfl
theorem s335_32 {d : Nat} {ls : mj_L} {st : List Value} {M : mj_H} : mj_Rn d mj_m335 32 ls st M = mq_k4 d mj_m335 33 ls (mj_hw (.iastore, 1, 0, 0, 0) st M) := mj_R4 (r := (.iastore, 1, 0, 0, 0)) rfl rfl
theorem s335_33 {d : Nat} {ls : mj_L} {st : List Value} {M : mj_H} : mj_Rn d mj_m335 33 ls st M = mq_k0 d mj_m335 34 ls M (mj_lda (mj_lk ls 0) st) := mj_R0 (r := (.aload_n 0, 1, 0, 0, 0)) rfl rfl
theorem s335_34 {d : Nat} {ls : mj_L} {st : List Value} {M : mj_H} : mj_Rn d mj_m335 34 ls st M = mq_k0 d mj_m335 35 ls M (mj_lda (mj_lk ls 0) st) := mj_R0 (r := (.aload_n 0, 1, 0, 0, 0)) rfl rfl
theorem s335_35 {d : Nat} {ls : mj_L} {st : List Value} {M : mj_H} : mj_Rn d mj_m335 35 ls st M = mq_k0 d mj_m335 38 ls M (mq_gf 11 61 st M) := (mj_R3 (r := (.getfield 167, 3, 11, 61, 57430)) rfl rfl).trans (congrArg (mq_k0 d mj_m335 38 ls M) mq_gf_eq)
theorem s335_38 {d : Nat} {ls : mj_L} {st : List Value} {M : mj_H} : mj_Rn d mj_m335 38 ls st M = mq_k0 d mj_m335 39 ls M (mj_ldi (mj_lk ls 1) st) := mj_R0 (r := (.iload_n 1, 1, 0, 0, 0)) rfl rfl
theorem s335_39 {d : Nat} {ls : mj_L} {st : List Value} {M : mj_H} : mj_Rn d mj_m335 39 ls st M = mq_k0 d mj_m335 40 ls M (mq_al [1000] st M) := (mj_R3 (r := (.iaload, 1, 0, 0, 0)) rfl rfl).trans (congrArg (mq_k0 d mj_m335 40 ls M) mq_ali_eq)
theorem s335_40 {d : Nat} {ls : mj_L} {st : List Value} {M : mj_H} : mj_Rn (d + 1) mj_m335 40 ls st M = mq_k5a (d + 1) mj_m335 43 ls M 321 (mq_cb 0 1 11 st M) := mj_R5e (r := (.invokevirtual 512, 3, 0, 321, 36995)) (z := mj_m321) rfl rfl (by decide) (by decide) rfl
theorem s335_43 {d : Nat} {ls : mj_L} {st : List Value} {M : mj_H} : mj_Rn d mj_m335 43 ls st M = mq_k6 M (mj_re (some .int) (.ireturn) st) := mj_R6 (r := (.ireturn, 1, 0, 0, 0)) rfl rfl
/- 336 PasskeyHouseModel.isHand(I)Z -/
theorem s336_0 {d : Nat} {ls : mj_L} {st : List Value} {M : mj_H} : mj_Rn d mj_m336 0 ls st M = mq_k0 d mj_m336 1 ls M (mj_ldi (mj_lk ls 0) st) := mj_R0 (r := (.iload_n 0, 1, 0, 0, 0)) rfl rfl
theorem s336_1 {d : Nat} {ls : mj_L} {st : List Value} {M : mj_H} : mj_Rn d mj_m336 1 ls st M = mq_k2 d mj_m336 ls M (mj_br (.ifCond .lt 12) 1 st) := mj_R2 (r := (.ifCond .lt 12, 3, 0, 0, 0)) rfl rfl
theorem s336_4 {d : Nat} {ls : mj_L} {st : List Value} {M : mj_H} : mj_Rn d mj_m336 4 ls st M = mq_k0 d mj_m336 5 ls M (mj_ldi (mj_lk ls 0) st) := mj_R0 (r := (.iload_n 0, 1, 0, 0, 0)) rfl rfl
theorem s336_5 {d : Nat} {ls : mj_L} {st : List Value} {M : mj_H} : mj_Rn d mj_m336 5 ls st M = mj_Rn d mj_m336 6 ls (.int 4 :: st) M := mj_R0 (r := (.iconst 4, 1, 0, 0, 0)) rfl rfl
theorem s336_6 {d : Nat} {ls : mj_L} {st : List Value} {M : mj_H} : mj_Rn d mj_m336 6 ls st M = mq_k2 d mj_m336 ls M (mj_br (.if_icmp .ge 7) 6 st) := mj_R2 (r := (.if_icmp .ge 7, 3, 0, 0, 0)) rfl rfl
theorem s336_9 {d : Nat} {ls : mj_L} {st : List Value} {M : mj_H} : mj_Rn d mj_m336 9 ls st M = mj_Rn d mj_m336 10 ls (.int 1 :: st) M := mj_R0 (r := (.iconst 1, 1, 0, 0, 0)) rfl rfl
theorem s336_10 {d : Nat} {ls : mj_L} {st : List Value} {M : mj_H} : mj_Rn d mj_m336 10 ls st M = mj_Rn d mj_m336 14 ls st M := mj_R2 (r := (.goto 4, 3, 0, 0, 0)) rfl rfl
theorem s336_13 {d : Nat} {ls : mj_L} {st : List Value} {M : mj_H} : mj_Rn d mj_m336 13 ls st M = mj_Rn d mj_m336 14 ls (.int 0 :: st) M := mj_R0 (r := (.iconst 0, 1, 0, 0, 0)) rfl rfl
theorem s336_14 {d : Nat} {ls : mj_L} {st : List Value} {M : mj_H} : mj_Rn d mj_m336 14 ls st M = mq_k6 M (mj_re (some .boolean) (.ireturn) st) := mj_R6 (r := (.ireturn, 1, 0, 0, 0)) rfl rfl
/- 337 PasskeyHouseModel.agree(II)Z -/
theorem s337_0 {d : Nat} {ls : mj_L} {st : List Value} {M : mj_H} : mj_Rn d mj_m337 0 ls st M = mq_k0 d mj_m337 1 ls M (mj_ldi (mj_lk ls 1) st) := mj_R0 (r := (.iload_n 1, 1, 0, 0, 0)) rfl rfl
theorem s337_1 {d : Nat} {ls : mj_L} {st : List Value} {M : mj_H} : mj_Rn (d + 1) mj_m337 1 ls st M = mq_k5a (d + 1) mj_m337 4 ls M 336 (mq_cb 2 1 11 st M) := mj_R5e (r := (.invokestatic 587, 3, 2, 336, 37056)) (z := mj_m336) rfl rfl (by decide) (by decide) rfl
theorem s337_4 {d : Nat} {ls : mj_L} {st : List Value} {M : mj_H} : mj_Rn d mj_m337 4 ls st M = mq_k2 d mj_m337 ls M (mj_br (.ifCond .eq 21) 4 st) := mj_R2 (r := (.ifCond .eq 21, 3, 0, 0, 0)) rfl rfl
theorem s337_7 {d : Nat} {ls : mj_L} {st : List Value} {M : mj_H} : mj_Rn d mj_m337 7 ls st M = mq_k0 d mj_m337 8 ls M (mj_lda (mj_lk ls 0) st) := mj_R0 (r := (.aload_n 0, 1, 0, 0, 0)) rfl rfl
theorem s337_8 {d : Nat} {ls : mj_L} {st : List Value} {M : mj_H} : mj_Rn d mj_m337 8 ls st M = mq_k0 d mj_m337 11 ls M (mq_gf 11 61 st M) := (mj_R3 (r := (.getfield 167, 3, 11, 61, 57430)) rfl rfl).trans (congrArg (mq_k0 d mj_m337 11 ls M) mq_gf_eq)
theorem s337_11 {d : Nat} {ls : mj_L} {st : List Value} {M : mj_H} : mj_Rn d mj_m337 11 ls st M = mq_k0 d mj_m337 12 ls M (mj_ldi (mj_lk ls 1) st) := mj_R0 (r := (.iload_n 1, 1, 0, 0, 0)) rfl rfl
theorem s337_12 {d : Nat} {ls : mj_L} {st : List Value} {M : mj_H} : mj_Rn d mj_m337 12 ls st M = mq_k0 d mj_m337 13 ls M (mq_al [1000] st M) := (mj_R3 (r := (.iaload, 1, 0, 0, 0)) rfl rfl).trans (congrArg (mq_k0 d mj_m337 13 ls M) mq_ali_eq)
theorem s337_13 {d : Nat} {ls : mj_L} {st : List Value} {M : mj_H} : mj_Rn d mj_m337 13 ls st M = mq_k2 d mj_m337 ls M (mj_br (.ifCond .eq 12) 13 st) := mj_R2 (r := (.ifCond .eq 12, 3, 0, 0, 0)) rfl rfl
theorem s337_16 {d : Nat} {ls : mj_L} {st : List Value} {M : mj_H} : mj_Rn d mj_m337 16 ls st M = mq_k0 d mj_m337 17 ls M (mj_lda (mj_lk ls 0) st) := mj_R0 (r := (.aload_n 0, 1, 0, 0, 0)) rfl rfl
theorem s337_17 {d : Nat} {ls : mj_L} {st : List Value} {M : mj_H} : mj_Rn d mj_m337 17 ls st M = mq_k0 d mj_m337 18 ls M (mj_ldi (mj_lk ls 2) st) := mj_R0 (r := (.iload_n 2, 1, 0, 0, 0)) rfl rfl
theorem s337_18 {d : Nat} {ls : mj_L} {st : List Value} {M : mj_H} : mj_Rn d mj_m337 18 ls st M = mj_Rn d mj_m337 19 ls (.int 2 :: st) M := mj_R0 (r := (.iconst 2, 1, 0, 0, 0)) rfl rfl
theorem s337_19 {d : Nat} {ls : mj_L} {st : List Value} {M : mj_H} : mj_Rn (d + 1) mj_m337 19 ls st M = mq_k5a (d + 1) mj_m337 22 ls M 316 (mq_cb 0 2 11 st M) := mj_R5e (r := (.invokevirtual 451, 3, 0, 316, 36975)) (z := mj_m316) rfl rfl (by decide) (by decide) rfl
theorem s337_22 {d : Nat} {ls : mj_L} {st : List Value} {M : mj_H} : mj_Rn d mj_m337 22 ls st M = mq_k2 d mj_m337 ls M (mj_br (.ifCond .ne 5) 22 st) := mj_R2 (r := (.ifCond .ne 5, 3, 0, 0, 0)) rfl rfl
theorem s337_25 {d : Nat} {ls : mj_L} {st : List Value} {M : mj_H} : mj_Rn d mj_m337 25 ls st M = mj_Rn d mj_m337 26 ls (.int 0 :: st) M := mj_R0 (r := (.iconst 0, 1, 0, 0, 0)) rfl rfl
theorem s337_26 {d : Nat} {ls : mj_L} {st : List Value} {M : mj_H} : mj_Rn d mj_m337 26 ls st M = mq_k6 M (mj_re (some .boolean) (.ireturn) st) := mj_R6 (r := (.ireturn, 1, 0, 0, 0)) rfl rfl
theorem s337_27 {d : Nat} {ls : mj_L} {st : List Value} {M : mj_H} : mj_Rn d mj_m337 27 ls st M = mq_k0 d mj_m337 28 ls M (mj_lda (mj_lk ls 0) st) := mj_R0 (r := (.aload_n 0, 1, 0, 0, 0)) rfl rfl
theorem s337_28 {d : Nat} {ls : mj_L} {st : List Value} {M : mj_H} : mj_Rn d mj_m337 28 ls st M = mq_k0 d mj_m337 29 ls M (mj_lda (mj_lk ls 0) st) := mj_R0 (r := (.aload_n 0, 1, 0, 0, 0)) rfl rfl
theorem s337_29 {d : Nat} {ls : mj_L} {st : List Value} {M : mj_H} : mj_Rn d mj_m337 29 ls st M = mq_k0 d mj_m337 32 ls M (mq_gf 11 61 st M) := (mj_R3 (r := (.getfield 167, 3, 11, 61, 57430)) rfl rfl).trans (congrArg (mq_k0 d mj_m337 32 ls M) mq_gf_eq)
theorem s337_32 {d : Nat} {ls : mj_L} {st : List Value} {M : mj_H} : mj_Rn d mj_m337 32 ls st M = mq_k0 d mj_m337 33 ls M (mj_ldi (mj_lk ls 1) st) := mj_R0 (r := (.iload_n 1, 1, 0, 0, 0)) rfl rfl
theorem s337_33 {d : Nat} {ls : mj_L} {st : List Value} {M : mj_H} : mj_Rn d mj_m337 33 ls st M = mq_k0 d mj_m337 34 ls M (mq_al [1000] st M) := (mj_R3 (r := (.iaload, 1, 0, 0, 0)) rfl rfl).trans (congrArg (mq_k0 d mj_m337 34 ls M) mq_ali_eq)
theorem s337_34 {d : Nat} {ls : mj_L} {st : List Value} {M : mj_H} : mj_Rn d mj_m337 34 ls st M = mq_k0 d mj_m337 35 ls M (mj_lda (mj_lk ls 0) st) := mj_R0 (r := (.aload_n 0, 1, 0, 0, 0)) rfl rfl
theorem s337_35 {d : Nat} {ls : mj_L} {st : List Value} {M : mj_H} : mj_Rn d mj_m337 35 ls st M = mq_k0 d mj_m337 36 ls M (mj_ldi (mj_lk ls 2) st) := mj_R0 (r := (.iload_n 2, 1, 0, 0, 0)) rfl rfl
theorem s337_36 {d : Nat} {ls : mj_L} {st : List Value} {M : mj_H} : mj_Rn d mj_m337 36 ls st M = mj_Rn d mj_m337 37 ls (.int 1 :: st) M := mj_R0 (r := (.iconst 1, 1, 0, 0, 0)) rfl rfl
theorem s337_37 {d : Nat} {ls : mj_L} {st : List Value} {M : mj_H} : mj_Rn (d + 1) mj_m337 37 ls st M = mq_k5a (d + 1) mj_m337 40 ls M 234 (mq_cb 0 2 11 st M) := mj_R5e (r := (.invokevirtual 300, 3, 0, 234, 32791)) (z := mj_m234) rfl rfl (by decide) (by decide) rfl
theorem s337_40 {d : Nat} {ls : mj_L} {st : List Value} {M : mj_H} : mj_Rn (d + 1) mj_m337 40 ls st M = mq_k5a (d + 1) mj_m337 43 ls M 326 (mq_cb 0 2 11 st M) := mj_R5e (r := (.invokevirtual 535, 3, 0, 326, 37015)) (z := mj_m326) rfl rfl (by decide) (by decide) rfl
theorem s337_43 {d : Nat} {ls : mj_L} {st : List Value} {M : mj_H} : mj_Rn d mj_m337 43 ls st M = mq_k0 d mj_m337 44 ls M (mj_lda (mj_lk ls 0) st) := mj_R0 (r := (.aload_n 0, 1, 0, 0, 0)) rfl rfl
theorem s337_44 {d : Nat} {ls : mj_L} {st : List Value} {M : mj_H} : mj_Rn d mj_m337 44 ls st M = mq_k0 d mj_m337 47 ls M (mq_gf 11 62 st M) := (mj_R3 (r := (.getfield 170, 3, 11, 62, 57432)) rfl rfl).trans (congrArg (mq_k0 d mj_m337 47 ls M) mq_gf_eq)
theorem s337_47 {d : Nat} {ls : mj_L} {st : List Value} {M : mj_H} : mj_Rn d mj_m337 47 ls st M = mq_k0 d mj_m337 48 ls M (mj_ldi (mj_lk ls 1) st) := mj_R0 (r := (.iload_n 1, 1, 0, 0, 0)) rfl rfl
theorem s337_48 {d : Nat} {ls : mj_L} {st : List Value} {M : mj_H} : mj_Rn d mj_m337 48 ls st M = mq_k0 d mj_m337 49 ls M (mj_lda (mj_lk ls 0) st) := mj_R0 (r := (.aload_n 0, 1, 0, 0, 0)) rfl rfl
theorem s337_49 {d : Nat} {ls : mj_L} {st : List Value} {M : mj_H} : mj_Rn (d + 1) mj_m337 49 ls st M = mq_k5a (d + 1) mj_m337 52 ls M 244 (mq_cb 0 0 11 st M) := mj_R5e (r := (.invokevirtual 285, 3, 0, 244, 32832)) (z := mj_m244) rfl rfl (by decide) (by decide) rfl
theorem s337_52 {d : Nat} {ls : mj_L} {st : List Value} {M : mj_H} : mj_Rn d mj_m337 52 ls st M = mq_k4 d mj_m337 53 ls (mj_hw (.iastore, 1, 0, 0, 0) st M) := mj_R4 (r := (.iastore, 1, 0, 0, 0)) rfl rfl
theorem s337_53 {d : Nat} {ls : mj_L} {st : List Value} {M : mj_H} : mj_Rn d mj_m337 53 ls st M = mj_Rn d mj_m337 54 ls (.int 1 :: st) M := mj_R0 (r := (.iconst 1, 1, 0, 0, 0)) rfl rfl
theorem s337_54 {d : Nat} {ls : mj_L} {st : List Value} {M : mj_H} : mj_Rn d mj_m337 54 ls st M = mq_k6 M (mj_re (some .boolean) (.ireturn) st) := mj_R6 (r := (.ireturn, 1, 0, 0, 0)) rfl rfl
/- 338 PasskeyHouseModel.seal(III)I -/
theorem s338_0 {d : Nat} {ls : mj_L} {st : List Value} {M : mj_H} : mj_Rn d mj_m338 0 ls st M = mq_k0 d mj_m338 1 ls M (mj_lda (mj_lk ls 0) st) := mj_R0 (r := (.aload_n 0, 1, 0, 0, 0)) rfl rfl
theorem s338_1 {d : Nat} {ls : mj_L} {st : List Value} {M : mj_H} : mj_Rn d mj_m338 1 ls st M = mq_k0 d mj_m338 2 ls M (mj_ldi (mj_lk ls 3) st) := mj_R0 (r := (.iload_n 3, 1, 0, 0, 0)) rfl rfl
theorem s338_2 {d : Nat} {ls : mj_L} {st : List Value} {M : mj_H} : mj_Rn (d + 1) mj_m338 2 ls st M = mq_k5a (d + 1) mj_m338 5 ls M 275 (mq_cb 0 1 11 st M) := mj_R5e (r := (.invokevirtual 581, 3, 0, 275, 32951)) (z := mj_m275) rfl rfl (by decide) (by decide) rfl
theorem s338_5 {d : Nat} {ls : mj_L} {st : List Value} {M : mj_H} : mj_Rn d mj_m338 5 ls st M = mq_k1 d mj_m338 7 M (mj_lo 6 (.istore 4) ls st) := mj_R1 (r := (.istore 4, 2, 0, 0, 0)) rfl rfl
theorem s338_7 {d : Nat} {ls : mj_L} {st : List Value} {M : mj_H} : mj_Rn d mj_m338 7 ls st M = mq_k0 d mj_m338 8 ls M (mj_ldi (mj_lk ls 1) st) := mj_R0 (r := (.iload_n 1, 1, 0, 0, 0)) rfl rfl
theorem s338_8 {d : Nat} {ls : mj_L} {st : List Value} {M : mj_H} : mj_Rn (d + 1) mj_m338 8 ls st M = mq_k5a (d + 1) mj_m338 11 ls M 336 (mq_cb 2 1 11 st M) := mj_R5e (r := (.invokestatic 587, 3, 2, 336, 37056)) (z := mj_m336) rfl rfl (by decide) (by decide) rfl
theorem s338_11 {d : Nat} {ls : mj_L} {st : List Value} {M : mj_H} : mj_Rn d mj_m338 11 ls st M = mq_k2 d mj_m338 ls M (mj_br (.ifCond .eq 18) 11 st) := mj_R2 (r := (.ifCond .eq 18, 3, 0, 0, 0)) rfl rfl
theorem s338_14 {d : Nat} {ls : mj_L} {st : List Value} {M : mj_H} : mj_Rn d mj_m338 14 ls st M = mq_k0 d mj_m338 16 ls M (mj_ldi (mj_lk ls 4) st) := mj_R0 (r := (.iload 4, 2, 0, 0, 0)) rfl rfl
theorem s338_16 {d : Nat} {ls : mj_L} {st : List Value} {M : mj_H} : mj_Rn d mj_m338 16 ls st M = mj_Rn d mj_m338 17 ls (.int (-1) :: st) M := mj_R0 (r := (.iconst (-1), 1, 0, 0, 0)) rfl rfl
theorem s338_17 {d : Nat} {ls : mj_L} {st : List Value} {M : mj_H} : mj_Rn d mj_m338 17 ls st M = mq_k2 d mj_m338 ls M (mj_br (.if_icmp .eq 12) 17 st) := mj_R2 (r := (.if_icmp .eq 12, 3, 0, 0, 0)) rfl rfl
theorem s338_20 {d : Nat} {ls : mj_L} {st : List Value} {M : mj_H} : mj_Rn d mj_m338 20 ls st M = mq_k0 d mj_m338 21 ls M (mj_ldi (mj_lk ls 2) st) := mj_R0 (r := (.iload_n 2, 1, 0, 0, 0)) rfl rfl
theorem s338_21 {d : Nat} {ls : mj_L} {st : List Value} {M : mj_H} : mj_Rn d mj_m338 21 ls st M = mq_k2 d mj_m338 ls M (mj_br (.ifCond .lt 8) 21 st) := mj_R2 (r := (.ifCond .lt 8, 3, 0, 0, 0)) rfl rfl
theorem s338_24 {d : Nat} {ls : mj_L} {st : List Value} {M : mj_H} : mj_Rn d mj_m338 24 ls st M = mq_k0 d mj_m338 25 ls M (mj_ldi (mj_lk ls 2) st) := mj_R0 (r := (.iload_n 2, 1, 0, 0, 0)) rfl rfl
theorem s338_25 {d : Nat} {ls : mj_L} {st : List Value} {M : mj_H} : mj_Rn d mj_m338 25 ls st M = mj_Rn d mj_m338 26 ls (.int 4 :: st) M := mj_R0 (r := (.iconst 4, 1, 0, 0, 0)) rfl rfl
theorem s338_26 {d : Nat} {ls : mj_L} {st : List Value} {M : mj_H} : mj_Rn d mj_m338 26 ls st M = mq_k2 d mj_m338 ls M (mj_br (.if_icmp .le 5) 26 st) := mj_R2 (r := (.if_icmp .le 5, 3, 0, 0, 0)) rfl rfl
theorem s338_29 {d : Nat} {ls : mj_L} {st : List Value} {M : mj_H} : mj_Rn d mj_m338 29 ls st M = mj_Rn d mj_m338 30 ls (.int (-1) :: st) M := mj_R0 (r := (.iconst (-1), 1, 0, 0, 0)) rfl rfl
theorem s338_30 {d : Nat} {ls : mj_L} {st : List Value} {M : mj_H} : mj_Rn d mj_m338 30 ls st M = mq_k6 M (mj_re (some .int) (.ireturn) st) := mj_R6 (r := (.ireturn, 1, 0, 0, 0)) rfl rfl
theorem s338_31 {d : Nat} {ls : mj_L} {st : List Value} {M : mj_H} : mj_Rn d mj_m338 31 ls st M = mq_k0 d mj_m338 32 ls M (mj_ldi (mj_lk ls 2) st) := mj_R0 (r := (.iload_n 2, 1, 0, 0, 0)) rfl rfl
theorem s338_32 {d : Nat} {ls : mj_L} {st : List Value} {M : mj_H} : mj_Rn d mj_m338 32 ls st M = mj_Rn d mj_m338 33 ls (.int 1 :: st) M := mj_R0 (r := (.iconst 1, 1, 0, 0, 0)) rfl rfl
theorem s338_33 {d : Nat} {ls : mj_L} {st : List Value} {M : mj_H} : mj_Rn d mj_m338 33 ls st M = mq_k2 d mj_m338 ls M (mj_br (.if_icmp .eq 8) 33 st) := mj_R2 (r := (.if_icmp .eq 8, 3, 0, 0, 0)) rfl rfl
theorem s338_36 {d : Nat} {ls : mj_L} {st : List Value} {M : mj_H} : mj_Rn d mj_m338 36 ls st M = mq_k0 d mj_m338 37 ls M (mj_ldi (mj_lk ls 2) st) := mj_R0 (r := (.iload_n 2, 1, 0, 0, 0)) rfl rfl
theorem s338_37 {d : Nat} {ls : mj_L} {st : List Value} {M : mj_H} : mj_Rn d mj_m338 37 ls st M = mj_Rn d mj_m338 38 ls (.int 2 :: st) M := mj_R0 (r := (.iconst 2, 1, 0, 0, 0)) rfl rfl
theorem s338_38 {d : Nat} {ls : mj_L} {st : List Value} {M : mj_H} : mj_Rn d mj_m338 38 ls st M = mq_k2 d mj_m338 ls M (mj_br (.if_icmp .ne 12) 38 st) := mj_R2 (r := (.if_icmp .ne 12, 3, 0, 0, 0)) rfl rfl
theorem s338_41 {d : Nat} {ls : mj_L} {st : List Value} {M : mj_H} : mj_Rn d mj_m338 41 ls st M = mq_k0 d mj_m338 42 ls M (mj_lda (mj_lk ls 0) st) := mj_R0 (r := (.aload_n 0, 1, 0, 0, 0)) rfl rfl
theorem s338_42 {d : Nat} {ls : mj_L} {st : List Value} {M : mj_H} : mj_Rn d mj_m338 42 ls st M = mq_k0 d mj_m338 45 ls M (mq_gf 11 62 st M) := (mj_R3 (r := (.getfield 170, 3, 11, 62, 57432)) rfl rfl).trans (congrArg (mq_k0 d mj_m338 45 ls M) mq_gf_eq)
theorem s338_45 {d : Nat} {ls : mj_L} {st : List Value} {M : mj_H} : mj_Rn d mj_m338 45 ls st M = mq_k0 d mj_m338 46 ls M (mj_ldi (mj_lk ls 1) st) := mj_R0 (r := (.iload_n 1, 1, 0, 0, 0)) rfl rfl
theorem s338_46 {d : Nat} {ls : mj_L} {st : List Value} {M : mj_H} : mj_Rn d mj_m338 46 ls st M = mq_k0 d mj_m338 47 ls M (mq_al [1000] st M) := (mj_R3 (r := (.iaload, 1, 0, 0, 0)) rfl rfl).trans (congrArg (mq_k0 d mj_m338 47 ls M) mq_ali_eq)
theorem s338_47 {d : Nat} {ls : mj_L} {st : List Value} {M : mj_H} : mj_Rn d mj_m338 47 ls st M = mj_Rn d mj_m338 79 ls st M := mj_R2 (r := (.goto 32, 3, 0, 0, 0)) rfl rfl
theorem s338_50 {d : Nat} {ls : mj_L} {st : List Value} {M : mj_H} : mj_Rn d mj_m338 50 ls st M = mq_k0 d mj_m338 51 ls M (mj_ldi (mj_lk ls 2) st) := mj_R0 (r := (.iload_n 2, 1, 0, 0, 0)) rfl rfl
theorem s338_51 {d : Nat} {ls : mj_L} {st : List Value} {M : mj_H} : mj_Rn d mj_m338 51 ls st M = mj_Rn d mj_m338 52 ls (.int 3 :: st) M := mj_R0 (r := (.iconst 3, 1, 0, 0, 0)) rfl rfl
theorem s338_52 {d : Nat} {ls : mj_L} {st : List Value} {M : mj_H} : mj_Rn d mj_m338 52 ls st M = mq_k2 d mj_m338 ls M (mj_br (.if_icmp .ne 12) 52 st) := mj_R2 (r := (.if_icmp .ne 12, 3, 0, 0, 0)) rfl rfl
theorem s338_55 {d : Nat} {ls : mj_L} {st : List Value} {M : mj_H} : mj_Rn d mj_m338 55 ls st M = mq_k0 d mj_m338 56 ls M (mj_lda (mj_lk ls 0) st) := mj_R0 (r := (.aload_n 0, 1, 0, 0, 0)) rfl rfl
theorem s338_56 {d : Nat} {ls : mj_L} {st : List Value} {M : mj_H} : mj_Rn d mj_m338 56 ls st M = mq_k0 d mj_m338 59 ls M (mq_gf 11 63 st M) := (mj_R3 (r := (.getfield 173, 3, 11, 63, 57434)) rfl rfl).trans (congrArg (mq_k0 d mj_m338 59 ls M) mq_gf_eq)
theorem s338_59 {d : Nat} {ls : mj_L} {st : List Value} {M : mj_H} : mj_Rn d mj_m338 59 ls st M = mq_k0 d mj_m338 60 ls M (mj_ldi (mj_lk ls 1) st) := mj_R0 (r := (.iload_n 1, 1, 0, 0, 0)) rfl rfl
theorem s338_60 {d : Nat} {ls : mj_L} {st : List Value} {M : mj_H} : mj_Rn d mj_m338 60 ls st M = mq_k0 d mj_m338 61 ls M (mq_al [1000] st M) := (mj_R3 (r := (.iaload, 1, 0, 0, 0)) rfl rfl).trans (congrArg (mq_k0 d mj_m338 61 ls M) mq_ali_eq)
theorem s338_61 {d : Nat} {ls : mj_L} {st : List Value} {M : mj_H} : mj_Rn d mj_m338 61 ls st M = mj_Rn d mj_m338 79 ls st M := mj_R2 (r := (.goto 18, 3, 0, 0, 0)) rfl rfl
theorem s338_64 {d : Nat} {ls : mj_L} {st : List Value} {M : mj_H} : mj_Rn d mj_m338 64 ls st M = mq_k0 d mj_m338 65 ls M (mj_ldi (mj_lk ls 2) st) := mj_R0 (r := (.iload_n 2, 1, 0, 0, 0)) rfl rfl
theorem s338_65 {d : Nat} {ls : mj_L} {st : List Value} {M : mj_H} : mj_Rn d mj_m338 65 ls st M = mj_Rn d mj_m338 66 ls (.int 4 :: st) M := mj_R0 (r := (.iconst 4, 1, 0, 0, 0)) rfl rfl
theorem s338_66 {d : Nat} {ls : mj_L} {st : List Value} {M : mj_H} : mj_Rn d mj_m338 66 ls st M = mq_k2 d mj_m338 ls M (mj_br (.if_icmp .ne 12) 66 st) := mj_R2 (r := (.if_icmp .ne 12, 3, 0, 0, 0)) rfl rfl
theorem s338_69 {d : Nat} {ls : mj_L} {st : List Value} {M : mj_H} : mj_Rn d mj_m338 69 ls st M = mq_k0 d mj_m338 70 ls M (mj_lda (mj_lk ls 0) st) := mj_R0 (r := (.aload_n 0, 1, 0, 0, 0)) rfl rfl
theorem s338_70 {d : Nat} {ls : mj_L} {st : List Value} {M : mj_H} : mj_Rn d mj_m338 70 ls st M = mq_k0 d mj_m338 73 ls M (mq_gf 11 61 st M) := (mj_R3 (r := (.getfield 167, 3, 11, 61, 57430)) rfl rfl).trans (congrArg (mq_k0 d mj_m338 73 ls M) mq_gf_eq)
theorem s338_73 {d : Nat} {ls : mj_L} {st : List Value} {M : mj_H} : mj_Rn d mj_m338 73 ls st M = mq_k0 d mj_m338 74 ls M (mj_ldi (mj_lk ls 1) st) := mj_R0 (r := (.iload_n 1, 1, 0, 0, 0)) rfl rfl
theorem s338_74 {d : Nat} {ls : mj_L} {st : List Value} {M : mj_H} : mj_Rn d mj_m338 74 ls st M = mq_k0 d mj_m338 75 ls M (mq_al [1000] st M) := (mj_R3 (r := (.iaload, 1, 0, 0, 0)) rfl rfl).trans (congrArg (mq_k0 d mj_m338 75 ls M) mq_ali_eq)
theorem s338_75 {d : Nat} {ls : mj_L} {st : List Value} {M : mj_H} : mj_Rn d mj_m338 75 ls st M = mj_Rn d mj_m338 79 ls st M := mj_R2 (r := (.goto 4, 3, 0, 0, 0)) rfl rfl
theorem s338_78 {d : Nat} {ls : mj_L} {st : List Value} {M : mj_H} : mj_Rn d mj_m338 78 ls st M = mj_Rn d mj_m338 79 ls (.int 1 :: st) M := mj_R0 (r := (.iconst 1, 1, 0, 0, 0)) rfl rfl
theorem s338_79 {d : Nat} {ls : mj_L} {st : List Value} {M : mj_H} : mj_Rn d mj_m338 79 ls st M = mq_k1 d mj_m338 81 M (mj_lo 6 (.istore 5) ls st) := mj_R1 (r := (.istore 5, 2, 0, 0, 0)) rfl rfl
theorem s338_81 {d : Nat} {ls : mj_L} {st : List Value} {M : mj_H} : mj_Rn d mj_m338 81 ls st M = mq_k0 d mj_m338 83 ls M (mj_ldi (mj_lk ls 5) st) := mj_R0 (r := (.iload 5, 2, 0, 0, 0)) rfl rfl
theorem s338_83 {d : Nat} {ls : mj_L} {st : List Value} {M : mj_H} : mj_Rn d mj_m338 83 ls st M = mq_k2 d mj_m338 ls M (mj_br (.ifCond .ne 5) 83 st) := mj_R2 (r := (.ifCond .ne 5, 3, 0, 0, 0)) rfl rfl
theorem s338_86 {d : Nat} {ls : mj_L} {st : List Value} {M : mj_H} : mj_Rn d mj_m338 86 ls st M = mj_Rn d mj_m338 87 ls (.int (-1) :: st) M := mj_R0 (r := (.iconst (-1), 1, 0, 0, 0)) rfl rfl
theorem s338_87 {d : Nat} {ls : mj_L} {st : List Value} {M : mj_H} : mj_Rn d mj_m338 87 ls st M = mq_k6 M (mj_re (some .int) (.ireturn) st) := mj_R6 (r := (.ireturn, 1, 0, 0, 0)) rfl rfl
theorem s338_88 {d : Nat} {ls : mj_L} {st : List Value} {M : mj_H} : mj_Rn d mj_m338 88 ls st M = mq_k0 d mj_m338 89 ls M (mj_lda (mj_lk ls 0) st) := mj_R0 (r := (.aload_n 0, 1, 0, 0, 0)) rfl rfl
theorem s338_89 {d : Nat} {ls : mj_L} {st : List Value} {M : mj_H} : mj_Rn d mj_m338 89 ls st M = mq_k0 d mj_m338 90 ls M (mj_ldi (mj_lk ls 2) st) := mj_R0 (r := (.iload_n 2, 1, 0, 0, 0)) rfl rfl
theorem s338_90 {d : Nat} {ls : mj_L} {st : List Value} {M : mj_H} : mj_Rn d mj_m338 90 ls st M = mq_k2 d mj_m338 ls M (mj_br (.ifCond .ne 8) 90 st) := mj_R2 (r := (.ifCond .ne 8, 3, 0, 0, 0)) rfl rfl
theorem s338_93 {d : Nat} {ls : mj_L} {st : List Value} {M : mj_H} : mj_Rn d mj_m338 93 ls st M = mj_Rn d mj_m338 95 ls (.int 7 :: st) M := mj_R0 (r := (.bipush 7, 2, 0, 0, 0)) rfl rfl
theorem s338_95 {d : Nat} {ls : mj_L} {st : List Value} {M : mj_H} : mj_Rn d mj_m338 95 ls st M = mj_Rn d mj_m338 128 ls st M := mj_R2 (r := (.goto 33, 3, 0, 0, 0)) rfl rfl
theorem s338_98 {d : Nat} {ls : mj_L} {st : List Value} {M : mj_H} : mj_Rn d mj_m338 98 ls st M = mq_k0 d mj_m338 99 ls M (mj_ldi (mj_lk ls 2) st) := mj_R0 (r := (.iload_n 2, 1, 0, 0, 0)) rfl rfl
theorem s338_99 {d : Nat} {ls : mj_L} {st : List Value} {M : mj_H} : mj_Rn d mj_m338 99 ls st M = mj_Rn d mj_m338 100 ls (.int 1 :: st) M := mj_R0 (r := (.iconst 1, 1, 0, 0, 0)) rfl rfl
theorem s338_100 {d : Nat} {ls : mj_L} {st : List Value} {M : mj_H} : mj_Rn d mj_m338 100 ls st M = mq_k2 d mj_m338 ls M (mj_br (.if_icmp .ne 7) 100 st) := mj_R2 (r := (.if_icmp .ne 7, 3, 0, 0, 0)) rfl rfl
theorem s338_103 {d : Nat} {ls : mj_L} {st : List Value} {M : mj_H} : mj_Rn d mj_m338 103 ls st M = mj_Rn d mj_m338 104 ls (.int 4 :: st) M := mj_R0 (r := (.iconst 4, 1, 0, 0, 0)) rfl rfl
theorem s338_104 {d : Nat} {ls : mj_L} {st : List Value} {M : mj_H} : mj_Rn d mj_m338 104 ls st M = mj_Rn d mj_m338 128 ls st M := mj_R2 (r := (.goto 24, 3, 0, 0, 0)) rfl rfl
theorem s338_107 {d : Nat} {ls : mj_L} {st : List Value} {M : mj_H} : mj_Rn d mj_m338 107 ls st M = mq_k0 d mj_m338 108 ls M (mj_ldi (mj_lk ls 2) st) := mj_R0 (r := (.iload_n 2, 1, 0, 0, 0)) rfl rfl
theorem s338_108 {d : Nat} {ls : mj_L} {st : List Value} {M : mj_H} : mj_Rn d mj_m338 108 ls st M = mj_Rn d mj_m338 109 ls (.int 2 :: st) M := mj_R0 (r := (.iconst 2, 1, 0, 0, 0)) rfl rfl
theorem s338_109 {d : Nat} {ls : mj_L} {st : List Value} {M : mj_H} : mj_Rn d mj_m338 109 ls st M = mq_k2 d mj_m338 ls M (mj_br (.if_icmp .ne 7) 109 st) := mj_R2 (r := (.if_icmp .ne 7, 3, 0, 0, 0)) rfl rfl
theorem s338_112 {d : Nat} {ls : mj_L} {st : List Value} {M : mj_H} : mj_Rn d mj_m338 112 ls st M = mj_Rn d mj_m338 113 ls (.int 5 :: st) M := mj_R0 (r := (.iconst 5, 1, 0, 0, 0)) rfl rfl
theorem s338_113 {d : Nat} {ls : mj_L} {st : List Value} {M : mj_H} : mj_Rn d mj_m338 113 ls st M = mj_Rn d mj_m338 128 ls st M := mj_R2 (r := (.goto 15, 3, 0, 0, 0)) rfl rfl
theorem s338_116 {d : Nat} {ls : mj_L} {st : List Value} {M : mj_H} : mj_Rn d mj_m338 116 ls st M = mq_k0 d mj_m338 117 ls M (mj_ldi (mj_lk ls 2) st) := mj_R0 (r := (.iload_n 2, 1, 0, 0, 0)) rfl rfl
theorem s338_117 {d : Nat} {ls : mj_L} {st : List Value} {M : mj_H} : mj_Rn d mj_m338 117 ls st M = mj_Rn d mj_m338 118 ls (.int 3 :: st) M := mj_R0 (r := (.iconst 3, 1, 0, 0, 0)) rfl rfl
theorem s338_118 {d : Nat} {ls : mj_L} {st : List Value} {M : mj_H} : mj_Rn d mj_m338 118 ls st M = mq_k2 d mj_m338 ls M (mj_br (.if_icmp .ne 8) 118 st) := mj_R2 (r := (.if_icmp .ne 8, 3, 0, 0, 0)) rfl rfl
theorem s338_121 {d : Nat} {ls : mj_L} {st : List Value} {M : mj_H} : mj_Rn d mj_m338 121 ls st M = mj_Rn d mj_m338 123 ls (.int 10 :: st) M := mj_R0 (r := (.bipush 10, 2, 0, 0, 0)) rfl rfl
theorem s338_123 {d : Nat} {ls : mj_L} {st : List Value} {M : mj_H} : mj_Rn d mj_m338 123 ls st M = mj_Rn d mj_m338 128 ls st M := mj_R2 (r := (.goto 5, 3, 0, 0, 0)) rfl rfl
theorem s338_126 {d : Nat} {ls : mj_L} {st : List Value} {M : mj_H} : mj_Rn d mj_m338 126 ls st M = mj_Rn d mj_m338 128 ls (.int 6 :: st) M := mj_R0 (r := (.bipush 6, 2, 0, 0, 0)) rfl rfl
theorem s338_128 {d : Nat} {ls : mj_L} {st : List Value} {M : mj_H} : mj_Rn (d + 1) mj_m338 128 ls st M = mq_k5a (d + 1) mj_m338 131 ls M 242 (mq_cb 0 1 11 st M) := mj_R5e (r := (.invokevirtual 279, 3, 0, 242, 32824)) (z := mj_m242) rfl rfl (by decide) (by decide) rfl
theorem s338_131 {d : Nat} {ls : mj_L} {st : List Value} {M : mj_H} : mj_Rn d mj_m338 131 ls st M = mq_k0 d mj_m338 132 ls M (mj_ldi (mj_lk ls 2) st) := mj_R0 (r := (.iload_n 2, 1, 0, 0, 0)) rfl rfl
theorem s338_132 {d : Nat} {ls : mj_L} {st : List Value} {M : mj_H} : mj_Rn d mj_m338 132 ls st M = mq_k2 d mj_m338 ls M (mj_br (.ifCond .le 9) 132 st) := mj_R2 (r := (.ifCond .le 9, 3, 0, 0, 0)) rfl rfl
theorem s338_135 {d : Nat} {ls : mj_L} {st : List Value} {M : mj_H} : mj_Rn d mj_m338 135 ls st M = mq_k0 d mj_m338 136 ls M (mj_lda (mj_lk ls 0) st) := mj_R0 (r := (.aload_n 0, 1, 0, 0, 0)) rfl rfl
theorem s338_136 {d : Nat} {ls : mj_L} {st : List Value} {M : mj_H} : mj_Rn d mj_m338 136 ls st M = mq_k0 d mj_m338 138 ls M (mj_ldi (mj_lk ls 5) st) := mj_R0 (r := (.iload 5, 2, 0, 0, 0)) rfl rfl
theorem s338_138 {d : Nat} {ls : mj_L} {st : List Value} {M : mj_H} : mj_Rn (d + 1) mj_m338 138 ls st M = mq_k5a (d + 1) mj_m338 141 ls M 243 (mq_cb 0 1 11 st M) := mj_R5e (r := (.invokevirtual 258, 3, 0, 243, 32828)) (z := mj_m243) rfl rfl (by decide) (by decide) rfl
theorem s338_141 {d : Nat} {ls : mj_L} {st : List Value} {M : mj_H} : mj_Rn d mj_m338 141 ls st M = mq_k0 d mj_m338 142 ls M (mj_lda (mj_lk ls 0) st) := mj_R0 (r := (.aload_n 0, 1, 0, 0, 0)) rfl rfl
theorem s338_142 {d : Nat} {ls : mj_L} {st : List Value} {M : mj_H} : mj_Rn d mj_m338 142 ls st M = mq_k0 d mj_m338 143 ls M (mj_lda (mj_lk ls 0) st) := mj_R0 (r := (.aload_n 0, 1, 0, 0, 0)) rfl rfl
theorem s338_143 {d : Nat} {ls : mj_L} {st : List Value} {M : mj_H} : mj_Rn d mj_m338 143 ls st M = mq_k0 d mj_m338 146 ls M (mq_gf 11 10 st M) := (mj_R3 (r := (.getfield 27, 3, 11, 10, 49616)) rfl rfl).trans (congrArg (mq_k0 d mj_m338 146 ls M) mq_gf_eq)
theorem s338_146 {d : Nat} {ls : mj_L} {st : List Value} {M : mj_H} : mj_Rn d mj_m338 146 ls st M = mj_Rn d mj_m338 147 ls (.int 0 :: st) M := mj_R0 (r := (.iconst 0, 1, 0, 0, 0)) rfl rfl
theorem s338_147 {d : Nat} {ls : mj_L} {st : List Value} {M : mj_H} : mj_Rn d mj_m338 147 ls st M = mq_k0 d mj_m338 149 ls M (mj_ldi (mj_lk ls 4) st) := mj_R0 (r := (.iload 4, 2, 0, 0, 0)) rfl rfl
theorem s338_149 {d : Nat} {ls : mj_L} {st : List Value} {M : mj_H} : mj_Rn (d + 1) mj_m338 149 ls st M = mq_k5a (d + 1) mj_m338 152 ls M 289 (mq_cb 0 3 11 st M) := mj_R5e (r := (.invokevirtual 447, 3, 0, 289, 33007)) (z := mj_m289) rfl rfl (by decide) (by decide) rfl
theorem s338_152 {d : Nat} {ls : mj_L} {st : List Value} {M : mj_H} : mj_Rn d mj_m338 152 ls st M = mq_k0 d mj_m338 153 ls M (mj_lda (mj_lk ls 0) st) := mj_R0 (r := (.aload_n 0, 1, 0, 0, 0)) rfl rfl
theorem s338_153 {d : Nat} {ls : mj_L} {st : List Value} {M : mj_H} : mj_Rn (d + 1) mj_m338 153 ls st M = mq_k5a (d + 1) mj_m338 156 ls M 244 (mq_cb 0 0 11 st M) := mj_R5e (r := (.invokevirtual 285, 3, 0, 244, 32832)) (z := mj_m244) rfl rfl (by decide) (by decide) rfl
theorem s338_156 {d : Nat} {ls : mj_L} {st : List Value} {M : mj_H} : mj_Rn d mj_m338 156 ls st M = mq_k6 M (mj_re (some .int) (.ireturn) st) := mj_R6 (r := (.ireturn, 1, 0, 0, 0)) rfl rfl
/- 339 PasskeyHouseModel.open(II)I -/
theorem s339_0 {d : Nat} {ls : mj_L} {st : List Value} {M : mj_H} : mj_Rn d mj_m339 0 ls st M = mq_k0 d mj_m339 1 ls M (mj_ldi (mj_lk ls 1) st) := mj_R0 (r := (.iload_n 1, 1, 0, 0, 0)) rfl rfl
theorem s339_1 {d : Nat} {ls : mj_L} {st : List Value} {M : mj_H} : mj_Rn (d + 1) mj_m339 1 ls st M = mq_k5a (d + 1) mj_m339 4 ls M 336 (mq_cb 2 1 11 st M) := mj_R5e (r := (.invokestatic 587, 3, 2, 336, 37056)) (z := mj_m336) rfl rfl (by decide) (by decide) rfl
theorem s339_4 {d : Nat} {ls : mj_L} {st : List Value} {M : mj_H} : mj_Rn d mj_m339 4 ls st M = mq_k2 d mj_m339 ls M (mj_br (.ifCond .eq 36) 4 st) := mj_R2 (r := (.ifCond .eq 36, 3, 0, 0, 0)) rfl rfl
theorem s339_7 {d : Nat} {ls : mj_L} {st : List Value} {M : mj_H} : mj_Rn d mj_m339 7 ls st M = mq_k0 d mj_m339 8 ls M (mj_lda (mj_lk ls 0) st) := mj_R0 (r := (.aload_n 0, 1, 0, 0, 0)) rfl rfl
theorem s339_8 {d : Nat} {ls : mj_L} {st : List Value} {M : mj_H} : mj_Rn d mj_m339 8 ls st M = mq_k0 d mj_m339 11 ls M (mq_gf 11 62 st M) := (mj_R3 (r := (.getfield 170, 3, 11, 62, 57432)) rfl rfl).trans (congrArg (mq_k0 d mj_m339 11 ls M) mq_gf_eq)
theorem s339_11 {d : Nat} {ls : mj_L} {st : List Value} {M : mj_H} : mj_Rn d mj_m339 11 ls st M = mq_k0 d mj_m339 12 ls M (mj_ldi (mj_lk ls 1) st) := mj_R0 (r := (.iload_n 1, 1, 0, 0, 0)) rfl rfl
theorem s339_12 {d : Nat} {ls : mj_L} {st : List Value} {M : mj_H} : mj_Rn d mj_m339 12 ls st M = mq_k0 d mj_m339 13 ls M (mq_al [1000] st M) := (mj_R3 (r := (.iaload, 1, 0, 0, 0)) rfl rfl).trans (congrArg (mq_k0 d mj_m339 13 ls M) mq_ali_eq)
theorem s339_13 {d : Nat} {ls : mj_L} {st : List Value} {M : mj_H} : mj_Rn d mj_m339 13 ls st M = mq_k2 d mj_m339 ls M (mj_br (.ifCond .eq 27) 13 st) := mj_R2 (r := (.ifCond .eq 27, 3, 0, 0, 0)) rfl rfl
theorem s339_16 {d : Nat} {ls : mj_L} {st : List Value} {M : mj_H} : mj_Rn d mj_m339 16 ls st M = mq_k0 d mj_m339 17 ls M (mj_lda (mj_lk ls 0) st) := mj_R0 (r := (.aload_n 0, 1, 0, 0, 0)) rfl rfl
theorem s339_17 {d : Nat} {ls : mj_L} {st : List Value} {M : mj_H} : mj_Rn d mj_m339 17 ls st M = mq_k0 d mj_m339 18 ls M (mj_ldi (mj_lk ls 2) st) := mj_R0 (r := (.iload_n 2, 1, 0, 0, 0)) rfl rfl
theorem s339_18 {d : Nat} {ls : mj_L} {st : List Value} {M : mj_H} : mj_Rn d mj_m339 18 ls st M = mj_Rn d mj_m339 19 ls (.int 4 :: st) M := mj_R0 (r := (.iconst 4, 1, 0, 0, 0)) rfl rfl
theorem s339_19 {d : Nat} {ls : mj_L} {st : List Value} {M : mj_H} : mj_Rn (d + 1) mj_m339 19 ls st M = mq_k5a (d + 1) mj_m339 22 ls M 316 (mq_cb 0 2 11 st M) := mj_R5e (r := (.invokevirtual 451, 3, 0, 316, 36975)) (z := mj_m316) rfl rfl (by decide) (by decide) rfl
theorem s339_22 {d : Nat} {ls : mj_L} {st : List Value} {M : mj_H} : mj_Rn d mj_m339 22 ls st M = mq_k2 d mj_m339 ls M (mj_br (.ifCond .eq 18) 22 st) := mj_R2 (r := (.ifCond .eq 18, 3, 0, 0, 0)) rfl rfl
theorem s339_25 {d : Nat} {ls : mj_L} {st : List Value} {M : mj_H} : mj_Rn d mj_m339 25 ls st M = mq_k0 d mj_m339 26 ls M (mj_lda (mj_lk ls 0) st) := mj_R0 (r := (.aload_n 0, 1, 0, 0, 0)) rfl rfl
theorem s339_26 {d : Nat} {ls : mj_L} {st : List Value} {M : mj_H} : mj_Rn d mj_m339 26 ls st M = mq_k0 d mj_m339 27 ls M (mj_ldi (mj_lk ls 2) st) := mj_R0 (r := (.iload_n 2, 1, 0, 0, 0)) rfl rfl
theorem s339_27 {d : Nat} {ls : mj_L} {st : List Value} {M : mj_H} : mj_Rn d mj_m339 27 ls st M = mj_Rn d mj_m339 28 ls (.int 1 :: st) M := mj_R0 (r := (.iconst 1, 1, 0, 0, 0)) rfl rfl
theorem s339_28 {d : Nat} {ls : mj_L} {st : List Value} {M : mj_H} : mj_Rn (d + 1) mj_m339 28 ls st M = mq_k5a (d + 1) mj_m339 31 ls M 234 (mq_cb 0 2 11 st M) := mj_R5e (r := (.invokevirtual 300, 3, 0, 234, 32791)) (z := mj_m234) rfl rfl (by decide) (by decide) rfl
theorem s339_31 {d : Nat} {ls : mj_L} {st : List Value} {M : mj_H} : mj_Rn d mj_m339 31 ls st M = mq_k0 d mj_m339 32 ls M (mj_lda (mj_lk ls 0) st) := mj_R0 (r := (.aload_n 0, 1, 0, 0, 0)) rfl rfl
theorem s339_32 {d : Nat} {ls : mj_L} {st : List Value} {M : mj_H} : mj_Rn d mj_m339 32 ls st M = mq_k0 d mj_m339 35 ls M (mq_gf 11 62 st M) := (mj_R3 (r := (.getfield 170, 3, 11, 62, 57432)) rfl rfl).trans (congrArg (mq_k0 d mj_m339 35 ls M) mq_gf_eq)
theorem s339_35 {d : Nat} {ls : mj_L} {st : List Value} {M : mj_H} : mj_Rn d mj_m339 35 ls st M = mq_k0 d mj_m339 36 ls M (mj_ldi (mj_lk ls 1) st) := mj_R0 (r := (.iload_n 1, 1, 0, 0, 0)) rfl rfl
theorem s339_36 {d : Nat} {ls : mj_L} {st : List Value} {M : mj_H} : mj_Rn d mj_m339 36 ls st M = mq_k0 d mj_m339 37 ls M (mq_al [1000] st M) := (mj_R3 (r := (.iaload, 1, 0, 0, 0)) rfl rfl).trans (congrArg (mq_k0 d mj_m339 37 ls M) mq_ali_eq)
theorem s339_37 {d : Nat} {ls : mj_L} {st : List Value} {M : mj_H} : mj_Rn d mj_m339 37 ls st M = mq_k2 d mj_m339 ls M (mj_br (.if_icmp .eq 5) 37 st) := mj_R2 (r := (.if_icmp .eq 5, 3, 0, 0, 0)) rfl rfl
theorem s339_40 {d : Nat} {ls : mj_L} {st : List Value} {M : mj_H} : mj_Rn d mj_m339 40 ls st M = mj_Rn d mj_m339 41 ls (.int (-1) :: st) M := mj_R0 (r := (.iconst (-1), 1, 0, 0, 0)) rfl rfl
theorem s339_41 {d : Nat} {ls : mj_L} {st : List Value} {M : mj_H} : mj_Rn d mj_m339 41 ls st M = mq_k6 M (mj_re (some .int) (.ireturn) st) := mj_R6 (r := (.ireturn, 1, 0, 0, 0)) rfl rfl
theorem s339_42 {d : Nat} {ls : mj_L} {st : List Value} {M : mj_H} : mj_Rn d mj_m339 42 ls st M = mq_k0 d mj_m339 43 ls M (mj_lda (mj_lk ls 0) st) := mj_R0 (r := (.aload_n 0, 1, 0, 0, 0)) rfl rfl
theorem s339_43 {d : Nat} {ls : mj_L} {st : List Value} {M : mj_H} : mj_Rn d mj_m339 43 ls st M = mq_k0 d mj_m339 44 ls M (mj_lda (mj_lk ls 0) st) := mj_R0 (r := (.aload_n 0, 1, 0, 0, 0)) rfl rfl
theorem s339_44 {d : Nat} {ls : mj_L} {st : List Value} {M : mj_H} : mj_Rn d mj_m339 44 ls st M = mq_k0 d mj_m339 47 ls M (mq_gf 11 2 st M) := (mj_R3 (r := (.getfield 15, 3, 11, 2, 49600)) rfl rfl).trans (congrArg (mq_k0 d mj_m339 47 ls M) mq_gf_eq)
theorem s339_47 {d : Nat} {ls : mj_L} {st : List Value} {M : mj_H} : mj_Rn d mj_m339 47 ls st M = mq_k0 d mj_m339 48 ls M (mj_ldi (mj_lk ls 2) st) := mj_R0 (r := (.iload_n 2, 1, 0, 0, 0)) rfl rfl
theorem s339_48 {d : Nat} {ls : mj_L} {st : List Value} {M : mj_H} : mj_Rn d mj_m339 48 ls st M = mj_Rn d mj_m339 49 ls (.int 1 :: st) M := mj_R0 (r := (.iconst 1, 1, 0, 0, 0)) rfl rfl
theorem s339_49 {d : Nat} {ls : mj_L} {st : List Value} {M : mj_H} : mj_Rn d mj_m339 49 ls st M = mq_k0 d mj_m339 50 ls M (mj_pu .iadd ls st) := mj_R0 (r := (.iadd, 1, 0, 0, 0)) rfl rfl
theorem s339_50 {d : Nat} {ls : mj_L} {st : List Value} {M : mj_H} : mj_Rn d mj_m339 50 ls st M = mq_k0 d mj_m339 51 ls M (mq_al [1000] st M) := (mj_R3 (r := (.iaload, 1, 0, 0, 0)) rfl rfl).trans (congrArg (mq_k0 d mj_m339 51 ls M) mq_ali_eq)
theorem s339_51 {d : Nat} {ls : mj_L} {st : List Value} {M : mj_H} : mj_Rn d mj_m339 51 ls st M = mq_k0 d mj_m339 52 ls M (mj_lda (mj_lk ls 0) st) := mj_R0 (r := (.aload_n 0, 1, 0, 0, 0)) rfl rfl
theorem s339_52 {d : Nat} {ls : mj_L} {st : List Value} {M : mj_H} : mj_Rn d mj_m339 52 ls st M = mq_k0 d mj_m339 55 ls M (mq_gf 11 2 st M) := (mj_R3 (r := (.getfield 15, 3, 11, 2, 49600)) rfl rfl).trans (congrArg (mq_k0 d mj_m339 55 ls M) mq_gf_eq)
theorem s339_55 {d : Nat} {ls : mj_L} {st : List Value} {M : mj_H} : mj_Rn d mj_m339 55 ls st M = mq_k0 d mj_m339 56 ls M (mj_ldi (mj_lk ls 2) st) := mj_R0 (r := (.iload_n 2, 1, 0, 0, 0)) rfl rfl
theorem s339_56 {d : Nat} {ls : mj_L} {st : List Value} {M : mj_H} : mj_Rn d mj_m339 56 ls st M = mq_k0 d mj_m339 57 ls M (mq_al [1000] st M) := (mj_R3 (r := (.iaload, 1, 0, 0, 0)) rfl rfl).trans (congrArg (mq_k0 d mj_m339 57 ls M) mq_ali_eq)
theorem s339_57 {d : Nat} {ls : mj_L} {st : List Value} {M : mj_H} : mj_Rn d mj_m339 57 ls st M = mq_k0 d mj_m339 58 ls M (mj_pu .isub ls st) := mj_R0 (r := (.isub, 1, 0, 0, 0)) rfl rfl
theorem s339_58 {d : Nat} {ls : mj_L} {st : List Value} {M : mj_H} : mj_Rn d mj_m339 58 ls st M = mj_Rn d mj_m339 59 ls (.int 2 :: st) M := mj_R0 (r := (.iconst 2, 1, 0, 0, 0)) rfl rfl
theorem s339_59 {d : Nat} {ls : mj_L} {st : List Value} {M : mj_H} : mj_Rn d mj_m339 59 ls st M = mq_k0 d mj_m339 60 ls M (mj_pu .isub ls st) := mj_R0 (r := (.isub, 1, 0, 0, 0)) rfl rfl
theorem s339_60 {d : Nat} {ls : mj_L} {st : List Value} {M : mj_H} : mj_Rn d mj_m339 60 ls st M = mq_k4 d mj_m339 63 ls (mq_pf 11 11 0 st M) := (mj_R4 (r := (.putfield 303, 3, 11, 11, 49618)) rfl rfl).trans (congrArg (mq_k4 d mj_m339 63 ls) (mq_pf_eq rfl rfl))
theorem s339_63 {d : Nat} {ls : mj_L} {st : List Value} {M : mj_H} : mj_Rn d mj_m339 63 ls st M = mq_k0 d mj_m339 64 ls M (mj_lda (mj_lk ls 0) st) := mj_R0 (r := (.aload_n 0, 1, 0, 0, 0)) rfl rfl
theorem s339_64 {d : Nat} {ls : mj_L} {st : List Value} {M : mj_H} : mj_Rn d mj_m339 64 ls st M = mq_k0 d mj_m339 67 ls M (mq_gf 11 0 st M) := (mj_R3 (r := (.getfield 8, 3, 11, 0, 49596)) rfl rfl).trans (congrArg (mq_k0 d mj_m339 67 ls M) mq_gf_eq)
theorem s339_67 {d : Nat} {ls : mj_L} {st : List Value} {M : mj_H} : mj_Rn d mj_m339 67 ls st M = mq_k0 d mj_m339 68 ls M (mj_lda (mj_lk ls 0) st) := mj_R0 (r := (.aload_n 0, 1, 0, 0, 0)) rfl rfl
theorem s339_68 {d : Nat} {ls : mj_L} {st : List Value} {M : mj_H} : mj_Rn d mj_m339 68 ls st M = mq_k0 d mj_m339 71 ls M (mq_gf 11 2 st M) := (mj_R3 (r := (.getfield 15, 3, 11, 2, 49600)) rfl rfl).trans (congrArg (mq_k0 d mj_m339 71 ls M) mq_gf_eq)
theorem s339_71 {d : Nat} {ls : mj_L} {st : List Value} {M : mj_H} : mj_Rn d mj_m339 71 ls st M = mq_k0 d mj_m339 72 ls M (mj_ldi (mj_lk ls 2) st) := mj_R0 (r := (.iload_n 2, 1, 0, 0, 0)) rfl rfl
theorem s339_72 {d : Nat} {ls : mj_L} {st : List Value} {M : mj_H} : mj_Rn d mj_m339 72 ls st M = mq_k0 d mj_m339 73 ls M (mq_al [1000] st M) := (mj_R3 (r := (.iaload, 1, 0, 0, 0)) rfl rfl).trans (congrArg (mq_k0 d mj_m339 73 ls M) mq_ali_eq)
theorem s339_73 {d : Nat} {ls : mj_L} {st : List Value} {M : mj_H} : mj_Rn d mj_m339 73 ls st M = mj_Rn d mj_m339 74 ls (.int 2 :: st) M := mj_R0 (r := (.iconst 2, 1, 0, 0, 0)) rfl rfl
theorem s339_74 {d : Nat} {ls : mj_L} {st : List Value} {M : mj_H} : mj_Rn d mj_m339 74 ls st M = mq_k0 d mj_m339 75 ls M (mj_pu .iadd ls st) := mj_R0 (r := (.iadd, 1, 0, 0, 0)) rfl rfl
theorem s339_75 {d : Nat} {ls : mj_L} {st : List Value} {M : mj_H} : mj_Rn d mj_m339 75 ls st M = mq_k0 d mj_m339 76 ls M (mj_lda (mj_lk ls 0) st) := mj_R0 (r := (.aload_n 0, 1, 0, 0, 0)) rfl rfl
theorem s339_76 {d : Nat} {ls : mj_L} {st : List Value} {M : mj_H} : mj_Rn d mj_m339 76 ls st M = mq_k0 d mj_m339 79 ls M (mq_gf 11 10 st M) := (mj_R3 (r := (.getfield 27, 3, 11, 10, 49616)) rfl rfl).trans (congrArg (mq_k0 d mj_m339 79 ls M) mq_gf_eq)
theorem s339_79 {d : Nat} {ls : mj_L} {st : List Value} {M : mj_H} : mj_Rn d mj_m339 79 ls st M = mj_Rn d mj_m339 80 ls (.int 0 :: st) M := mj_R0 (r := (.iconst 0, 1, 0, 0, 0)) rfl rfl
theorem s339_80 {d : Nat} {ls : mj_L} {st : List Value} {M : mj_H} : mj_Rn d mj_m339 80 ls st M = mq_k0 d mj_m339 81 ls M (mj_lda (mj_lk ls 0) st) := mj_R0 (r := (.aload_n 0, 1, 0, 0, 0)) rfl rfl
theorem s339_81 {d : Nat} {ls : mj_L} {st : List Value} {M : mj_H} : mj_Rn d mj_m339 81 ls st M = mq_k0 d mj_m339 84 ls M (mq_gf 11 11 st M) := (mj_R3 (r := (.getfield 303, 3, 11, 11, 49618)) rfl rfl).trans (congrArg (mq_k0 d mj_m339 84 ls M) mq_gf_eq)
theorem s339_84 {d : Nat} {ls : mj_L} {st : List Value} {M : mj_H} : mj_Rn (d + 1) mj_m339 84 ls st M = mq_k4 (d + 1) mj_m339 87 ls (mq_cpr st M) := mj_R5ce (r := (.invokestatic 248, 3, 7, 0, 32847)) rfl rfl rfl
theorem s339_87 {d : Nat} {ls : mj_L} {st : List Value} {M : mj_H} : mj_Rn d mj_m339 87 ls st M = mq_k0 d mj_m339 88 ls M (mj_lda (mj_lk ls 0) st) := mj_R0 (r := (.aload_n 0, 1, 0, 0, 0)) rfl rfl
theorem s339_88 {d : Nat} {ls : mj_L} {st : List Value} {M : mj_H} : mj_Rn d mj_m339 88 ls st M = mq_k0 d mj_m339 91 ls M (mq_gf 11 11 st M) := (mj_R3 (r := (.getfield 303, 3, 11, 11, 49618)) rfl rfl).trans (congrArg (mq_k0 d mj_m339 91 ls M) mq_gf_eq)
theorem s339_91 {d : Nat} {ls : mj_L} {st : List Value} {M : mj_H} : mj_Rn d mj_m339 91 ls st M = mq_k6 M (mj_re (some .int) (.ireturn) st) := mj_R6 (r := (.ireturn, 1, 0, 0, 0)) rfl rfl
/- 340 PasskeyHouseModel.token(II)Z -/
theorem s340_0 {d : Nat} {ls : mj_L} {st : List Value} {M : mj_H} : mj_Rn d mj_m340 0 ls st M = mq_k0 d mj_m340 1 ls M (mj_ldi (mj_lk ls 1) st) := mj_R0 (r := (.iload_n 1, 1, 0, 0, 0)) rfl rfl
theorem s340_1 {d : Nat} {ls : mj_L} {st : List Value} {M : mj_H} : mj_Rn (d + 1) mj_m340 1 ls st M = mq_k5a (d + 1) mj_m340 4 ls M 336 (mq_cb 2 1 11 st M) := mj_R5e (r := (.invokestatic 587, 3, 2, 336, 37056)) (z := mj_m336) rfl rfl (by decide) (by decide) rfl
theorem s340_4 {d : Nat} {ls : mj_L} {st : List Value} {M : mj_H} : mj_Rn d mj_m340 4 ls st M = mq_k2 d mj_m340 ls M (mj_br (.ifCond .eq 37) 4 st) := mj_R2 (r := (.ifCond .eq 37, 3, 0, 0, 0)) rfl rfl
theorem s340_7 {d : Nat} {ls : mj_L} {st : List Value} {M : mj_H} : mj_Rn d mj_m340 7 ls st M = mq_k0 d mj_m340 8 ls M (mj_lda (mj_lk ls 0) st) := mj_R0 (r := (.aload_n 0, 1, 0, 0, 0)) rfl rfl
theorem s340_8 {d : Nat} {ls : mj_L} {st : List Value} {M : mj_H} : mj_Rn d mj_m340 8 ls st M = mq_k0 d mj_m340 11 ls M (mq_gf 11 62 st M) := (mj_R3 (r := (.getfield 170, 3, 11, 62, 57432)) rfl rfl).trans (congrArg (mq_k0 d mj_m340 11 ls M) mq_gf_eq)
theorem s340_11 {d : Nat} {ls : mj_L} {st : List Value} {M : mj_H} : mj_Rn d mj_m340 11 ls st M = mq_k0 d mj_m340 12 ls M (mj_ldi (mj_lk ls 1) st) := mj_R0 (r := (.iload_n 1, 1, 0, 0, 0)) rfl rfl
theorem s340_12 {d : Nat} {ls : mj_L} {st : List Value} {M : mj_H} : mj_Rn d mj_m340 12 ls st M = mq_k0 d mj_m340 13 ls M (mq_al [1000] st M) := (mj_R3 (r := (.iaload, 1, 0, 0, 0)) rfl rfl).trans (congrArg (mq_k0 d mj_m340 13 ls M) mq_ali_eq)
theorem s340_13 {d : Nat} {ls : mj_L} {st : List Value} {M : mj_H} : mj_Rn d mj_m340 13 ls st M = mq_k2 d mj_m340 ls M (mj_br (.ifCond .eq 28) 13 st) := mj_R2 (r := (.ifCond .eq 28, 3, 0, 0, 0)) rfl rfl
theorem s340_16 {d : Nat} {ls : mj_L} {st : List Value} {M : mj_H} : mj_Rn d mj_m340 16 ls st M = mq_k0 d mj_m340 17 ls M (mj_lda (mj_lk ls 0) st) := mj_R0 (r := (.aload_n 0, 1, 0, 0, 0)) rfl rfl
theorem s340_17 {d : Nat} {ls : mj_L} {st : List Value} {M : mj_H} : mj_Rn d mj_m340 17 ls st M = mq_k0 d mj_m340 18 ls M (mj_ldi (mj_lk ls 2) st) := mj_R0 (r := (.iload_n 2, 1, 0, 0, 0)) rfl rfl
theorem s340_18 {d : Nat} {ls : mj_L} {st : List Value} {M : mj_H} : mj_Rn d mj_m340 18 ls st M = mj_Rn d mj_m340 20 ls (.int 9 :: st) M := mj_R0 (r := (.bipush 9, 2, 0, 0, 0)) rfl rfl
theorem s340_20 {d : Nat} {ls : mj_L} {st : List Value} {M : mj_H} : mj_Rn (d + 1) mj_m340 20 ls st M = mq_k5a (d + 1) mj_m340 23 ls M 316 (mq_cb 0 2 11 st M) := mj_R5e (r := (.invokevirtual 451, 3, 0, 316, 36975)) (z := mj_m316) rfl rfl (by decide) (by decide) rfl
theorem s340_23 {d : Nat} {ls : mj_L} {st : List Value} {M : mj_H} : mj_Rn d mj_m340 23 ls st M = mq_k2 d mj_m340 ls M (mj_br (.ifCond .eq 18) 23 st) := mj_R2 (r := (.ifCond .eq 18, 3, 0, 0, 0)) rfl rfl
theorem s340_26 {d : Nat} {ls : mj_L} {st : List Value} {M : mj_H} : mj_Rn d mj_m340 26 ls st M = mq_k0 d mj_m340 27 ls M (mj_lda (mj_lk ls 0) st) := mj_R0 (r := (.aload_n 0, 1, 0, 0, 0)) rfl rfl
theorem s340_27 {d : Nat} {ls : mj_L} {st : List Value} {M : mj_H} : mj_Rn d mj_m340 27 ls st M = mq_k0 d mj_m340 28 ls M (mj_ldi (mj_lk ls 2) st) := mj_R0 (r := (.iload_n 2, 1, 0, 0, 0)) rfl rfl
theorem s340_28 {d : Nat} {ls : mj_L} {st : List Value} {M : mj_H} : mj_Rn d mj_m340 28 ls st M = mj_Rn d mj_m340 29 ls (.int 1 :: st) M := mj_R0 (r := (.iconst 1, 1, 0, 0, 0)) rfl rfl
theorem s340_29 {d : Nat} {ls : mj_L} {st : List Value} {M : mj_H} : mj_Rn (d + 1) mj_m340 29 ls st M = mq_k5a (d + 1) mj_m340 32 ls M 234 (mq_cb 0 2 11 st M) := mj_R5e (r := (.invokevirtual 300, 3, 0, 234, 32791)) (z := mj_m234) rfl rfl (by decide) (by decide) rfl
theorem s340_32 {d : Nat} {ls : mj_L} {st : List Value} {M : mj_H} : mj_Rn d mj_m340 32 ls st M = mq_k0 d mj_m340 33 ls M (mj_lda (mj_lk ls 0) st) := mj_R0 (r := (.aload_n 0, 1, 0, 0, 0)) rfl rfl
theorem s340_33 {d : Nat} {ls : mj_L} {st : List Value} {M : mj_H} : mj_Rn d mj_m340 33 ls st M = mq_k0 d mj_m340 36 ls M (mq_gf 11 62 st M) := (mj_R3 (r := (.getfield 170, 3, 11, 62, 57432)) rfl rfl).trans (congrArg (mq_k0 d mj_m340 36 ls M) mq_gf_eq)
theorem s340_36 {d : Nat} {ls : mj_L} {st : List Value} {M : mj_H} : mj_Rn d mj_m340 36 ls st M = mq_k0 d mj_m340 37 ls M (mj_ldi (mj_lk ls 1) st) := mj_R0 (r := (.iload_n 1, 1, 0, 0, 0)) rfl rfl
theorem s340_37 {d : Nat} {ls : mj_L} {st : List Value} {M : mj_H} : mj_Rn d mj_m340 37 ls st M = mq_k0 d mj_m340 38 ls M (mq_al [1000] st M) := (mj_R3 (r := (.iaload, 1, 0, 0, 0)) rfl rfl).trans (congrArg (mq_k0 d mj_m340 38 ls M) mq_ali_eq)
theorem s340_38 {d : Nat} {ls : mj_L} {st : List Value} {M : mj_H} : mj_Rn d mj_m340 38 ls st M = mq_k2 d mj_m340 ls M (mj_br (.if_icmp .eq 5) 38 st) := mj_R2 (r := (.if_icmp .eq 5, 3, 0, 0, 0)) rfl rfl
theorem s340_41 {d : Nat} {ls : mj_L} {st : List Value} {M : mj_H} : mj_Rn d mj_m340 41 ls st M = mj_Rn d mj_m340 42 ls (.int 0 :: st) M := mj_R0 (r := (.iconst 0, 1, 0, 0, 0)) rfl rfl
theorem s340_42 {d : Nat} {ls : mj_L} {st : List Value} {M : mj_H} : mj_Rn d mj_m340 42 ls st M = mq_k6 M (mj_re (some .boolean) (.ireturn) st) := mj_R6 (r := (.ireturn, 1, 0, 0, 0)) rfl rfl
theorem s340_43 {d : Nat} {ls : mj_L} {st : List Value} {M : mj_H} : mj_Rn d mj_m340 43 ls st M = mq_k0 d mj_m340 44 ls M (mj_lda (mj_lk ls 0) st) := mj_R0 (r := (.aload_n 0, 1, 0, 0, 0)) rfl rfl
theorem s340_44 {d : Nat} {ls : mj_L} {st : List Value} {M : mj_H} : mj_Rn d mj_m340 44 ls st M = mq_k0 d mj_m340 47 ls M (mq_gf 11 63 st M) := (mj_R3 (r := (.getfield 173, 3, 11, 63, 57434)) rfl rfl).trans (congrArg (mq_k0 d mj_m340 47 ls M) mq_gf_eq)
theorem s340_47 {d : Nat} {ls : mj_L} {st : List Value} {M : mj_H} : mj_Rn d mj_m340 47 ls st M = mq_k0 d mj_m340 48 ls M (mj_ldi (mj_lk ls 1) st) := mj_R0 (r := (.iload_n 1, 1, 0, 0, 0)) rfl rfl
theorem s340_48 {d : Nat} {ls : mj_L} {st : List Value} {M : mj_H} : mj_Rn d mj_m340 48 ls st M = mq_k0 d mj_m340 49 ls M (mj_lda (mj_lk ls 0) st) := mj_R0 (r := (.aload_n 0, 1, 0, 0, 0)) rfl rfl
theorem s340_49 {d : Nat} {ls : mj_L} {st : List Value} {M : mj_H} : mj_Rn d mj_m340 49 ls st M = mq_k0 d mj_m340 50 ls M (mj_ldi (mj_lk ls 2) st) := mj_R0 (r := (.iload_n 2, 1, 0, 0, 0)) rfl rfl
theorem s340_50 {d : Nat} {ls : mj_L} {st : List Value} {M : mj_H} : mj_Rn d mj_m340 50 ls st M = mj_Rn d mj_m340 51 ls (.int 2 :: st) M := mj_R0 (r := (.iconst 2, 1, 0, 0, 0)) rfl rfl
theorem s340_51 {d : Nat} {ls : mj_L} {st : List Value} {M : mj_H} : mj_Rn (d + 1) mj_m340 51 ls st M = mq_k5a (d + 1) mj_m340 54 ls M 234 (mq_cb 0 2 11 st M) := mj_R5e (r := (.invokevirtual 300, 3, 0, 234, 32791)) (z := mj_m234) rfl rfl (by decide) (by decide) rfl
theorem s340_54 {d : Nat} {ls : mj_L} {st : List Value} {M : mj_H} : mj_Rn d mj_m340 54 ls st M = mq_k4 d mj_m340 55 ls (mj_hw (.iastore, 1, 0, 0, 0) st M) := mj_R4 (r := (.iastore, 1, 0, 0, 0)) rfl rfl
theorem s340_55 {d : Nat} {ls : mj_L} {st : List Value} {M : mj_H} : mj_Rn d mj_m340 55 ls st M = mj_Rn d mj_m340 56 ls (.int 1 :: st) M := mj_R0 (r := (.iconst 1, 1, 0, 0, 0)) rfl rfl
theorem s340_56 {d : Nat} {ls : mj_L} {st : List Value} {M : mj_H} : mj_Rn d mj_m340 56 ls st M = mq_k6 M (mj_re (some .boolean) (.ireturn) st) := mj_R6 (r := (.ireturn, 1, 0, 0, 0)) rfl rfl
/- 341 PasskeyHouseModel.pin(II)Z -/
theorem s341_0 {d : Nat} {ls : mj_L} {st : List Value} {M : mj_H} : mj_Rn d mj_m341 0 ls st M = mq_k0 d mj_m341 1 ls M (mj_ldi (mj_lk ls 1) st) := mj_R0 (r := (.iload_n 1, 1, 0, 0, 0)) rfl rfl
theorem s341_1 {d : Nat} {ls : mj_L} {st : List Value} {M : mj_H} : mj_Rn (d + 1) mj_m341 1 ls st M = mq_k5a (d + 1) mj_m341 4 ls M 336 (mq_cb 2 1 11 st M) := mj_R5e (r := (.invokestatic 587, 3, 2, 336, 37056)) (z := mj_m336) rfl rfl (by decide) (by decide) rfl
theorem s341_4 {d : Nat} {ls : mj_L} {st : List Value} {M : mj_H} : mj_Rn d mj_m341 4 ls st M = mq_k2 d mj_m341 ls M (mj_br (.ifCond .eq 21) 4 st) := mj_R2 (r := (.ifCond .eq 21, 3, 0, 0, 0)) rfl rfl
theorem s341_7 {d : Nat} {ls : mj_L} {st : List Value} {M : mj_H} : mj_Rn d mj_m341 7 ls st M = mq_k0 d mj_m341 8 ls M (mj_ldi (mj_lk ls 2) st) := mj_R0 (r := (.iload_n 2, 1, 0, 0, 0)) rfl rfl
theorem s341_8 {d : Nat} {ls : mj_L} {st : List Value} {M : mj_H} : mj_Rn d mj_m341 8 ls st M = mq_k2 d mj_m341 ls M (mj_br (.ifCond .lt 17) 8 st) := mj_R2 (r := (.ifCond .lt 17, 3, 0, 0, 0)) rfl rfl
theorem s341_11 {d : Nat} {ls : mj_L} {st : List Value} {M : mj_H} : mj_Rn d mj_m341 11 ls st M = mq_k0 d mj_m341 12 ls M (mj_ldi (mj_lk ls 2) st) := mj_R0 (r := (.iload_n 2, 1, 0, 0, 0)) rfl rfl
theorem s341_12 {d : Nat} {ls : mj_L} {st : List Value} {M : mj_H} : mj_Rn d mj_m341 12 ls st M = mj_Rn d mj_m341 14 ls (.int 12 :: st) M := mj_R0 (r := (.bipush 12, 2, 0, 0, 0)) rfl rfl
theorem s341_14 {d : Nat} {ls : mj_L} {st : List Value} {M : mj_H} : mj_Rn d mj_m341 14 ls st M = mq_k2 d mj_m341 ls M (mj_br (.if_icmp .gt 11) 14 st) := mj_R2 (r := (.if_icmp .gt 11, 3, 0, 0, 0)) rfl rfl
theorem s341_17 {d : Nat} {ls : mj_L} {st : List Value} {M : mj_H} : mj_Rn d mj_m341 17 ls st M = mq_k0 d mj_m341 18 ls M (mj_ldi (mj_lk ls 2) st) := mj_R0 (r := (.iload_n 2, 1, 0, 0, 0)) rfl rfl
theorem s341_18 {d : Nat} {ls : mj_L} {st : List Value} {M : mj_H} : mj_Rn d mj_m341 18 ls st M = mq_k0 d mj_m341 19 ls M (mj_lda (mj_lk ls 0) st) := mj_R0 (r := (.aload_n 0, 1, 0, 0, 0)) rfl rfl
theorem s341_19 {d : Nat} {ls : mj_L} {st : List Value} {M : mj_H} : mj_Rn d mj_m341 19 ls st M = mq_k0 d mj_m341 22 ls M (mq_gf 11 11 st M) := (mj_R3 (r := (.getfield 303, 3, 11, 11, 49618)) rfl rfl).trans (congrArg (mq_k0 d mj_m341 22 ls M) mq_gf_eq)
theorem s341_22 {d : Nat} {ls : mj_L} {st : List Value} {M : mj_H} : mj_Rn d mj_m341 22 ls st M = mq_k2 d mj_m341 ls M (mj_br (.if_icmp .le 5) 22 st) := mj_R2 (r := (.if_icmp .le 5, 3, 0, 0, 0)) rfl rfl
theorem s341_25 {d : Nat} {ls : mj_L} {st : List Value} {M : mj_H} : mj_Rn d mj_m341 25 ls st M = mj_Rn d mj_m341 26 ls (.int 0 :: st) M := mj_R0 (r := (.iconst 0, 1, 0, 0, 0)) rfl rfl
theorem s341_26 {d : Nat} {ls : mj_L} {st : List Value} {M : mj_H} : mj_Rn d mj_m341 26 ls st M = mq_k6 M (mj_re (some .boolean) (.ireturn) st) := mj_R6 (r := (.ireturn, 1, 0, 0, 0)) rfl rfl
theorem s341_27 {d : Nat} {ls : mj_L} {st : List Value} {M : mj_H} : mj_Rn d mj_m341 27 ls st M = mq_k0 d mj_m341 28 ls M (mj_lda (mj_lk ls 0) st) := mj_R0 (r := (.aload_n 0, 1, 0, 0, 0)) rfl rfl
theorem s341_28 {d : Nat} {ls : mj_L} {st : List Value} {M : mj_H} : mj_Rn d mj_m341 28 ls st M = mq_k0 d mj_m341 31 ls M (mq_gf 11 10 st M) := (mj_R3 (r := (.getfield 27, 3, 11, 10, 49616)) rfl rfl).trans (congrArg (mq_k0 d mj_m341 31 ls M) mq_gf_eq)
theorem s341_31 {d : Nat} {ls : mj_L} {st : List Value} {M : mj_H} : mj_Rn d mj_m341 31 ls st M = mj_Rn d mj_m341 32 ls (.int 0 :: st) M := mj_R0 (r := (.iconst 0, 1, 0, 0, 0)) rfl rfl
theorem s341_32 {d : Nat} {ls : mj_L} {st : List Value} {M : mj_H} : mj_Rn d mj_m341 32 ls st M = mq_k0 d mj_m341 33 ls M (mj_lda (mj_lk ls 0) st) := mj_R0 (r := (.aload_n 0, 1, 0, 0, 0)) rfl rfl
theorem s341_33 {d : Nat} {ls : mj_L} {st : List Value} {M : mj_H} : mj_Rn d mj_m341 33 ls st M = mq_k0 d mj_m341 36 ls M (mq_gf 11 64 st M) := (mj_R3 (r := (.getfield 176, 3, 11, 64, 57436)) rfl rfl).trans (congrArg (mq_k0 d mj_m341 36 ls M) mq_gf_eq)
theorem s341_36 {d : Nat} {ls : mj_L} {st : List Value} {M : mj_H} : mj_Rn d mj_m341 36 ls st M = mj_Rn d mj_m341 38 ls (.int 12 :: st) M := mj_R0 (r := (.bipush 12, 2, 0, 0, 0)) rfl rfl
theorem s341_38 {d : Nat} {ls : mj_L} {st : List Value} {M : mj_H} : mj_Rn d mj_m341 38 ls st M = mq_k0 d mj_m341 39 ls M (mj_ldi (mj_lk ls 1) st) := mj_R0 (r := (.iload_n 1, 1, 0, 0, 0)) rfl rfl
theorem s341_39 {d : Nat} {ls : mj_L} {st : List Value} {M : mj_H} : mj_Rn d mj_m341 39 ls st M = mq_k0 d mj_m341 40 ls M (mj_pu .imul ls st) := mj_R0 (r := (.imul, 1, 0, 0, 0)) rfl rfl
theorem s341_40 {d : Nat} {ls : mj_L} {st : List Value} {M : mj_H} : mj_Rn d mj_m341 40 ls st M = mq_k0 d mj_m341 41 ls M (mj_ldi (mj_lk ls 2) st) := mj_R0 (r := (.iload_n 2, 1, 0, 0, 0)) rfl rfl
theorem s341_41 {d : Nat} {ls : mj_L} {st : List Value} {M : mj_H} : mj_Rn (d + 1) mj_m341 41 ls st M = mq_k4 (d + 1) mj_m341 44 ls (mq_cpr st M) := mj_R5ce (r := (.invokestatic 248, 3, 7, 0, 32847)) rfl rfl rfl
theorem s341_44 {d : Nat} {ls : mj_L} {st : List Value} {M : mj_H} : mj_Rn d mj_m341 44 ls st M = mq_k0 d mj_m341 45 ls M (mj_lda (mj_lk ls 0) st) := mj_R0 (r := (.aload_n 0, 1, 0, 0, 0)) rfl rfl
theorem s341_45 {d : Nat} {ls : mj_L} {st : List Value} {M : mj_H} : mj_Rn d mj_m341 45 ls st M = mq_k0 d mj_m341 48 ls M (mq_gf 11 65 st M) := (mj_R3 (r := (.getfield 179, 3, 11, 65, 57438)) rfl rfl).trans (congrArg (mq_k0 d mj_m341 48 ls M) mq_gf_eq)
theorem s341_48 {d : Nat} {ls : mj_L} {st : List Value} {M : mj_H} : mj_Rn d mj_m341 48 ls st M = mq_k0 d mj_m341 49 ls M (mj_ldi (mj_lk ls 1) st) := mj_R0 (r := (.iload_n 1, 1, 0, 0, 0)) rfl rfl
theorem s341_49 {d : Nat} {ls : mj_L} {st : List Value} {M : mj_H} : mj_Rn d mj_m341 49 ls st M = mq_k0 d mj_m341 50 ls M (mj_ldi (mj_lk ls 2) st) := mj_R0 (r := (.iload_n 2, 1, 0, 0, 0)) rfl rfl
theorem s341_50 {d : Nat} {ls : mj_L} {st : List Value} {M : mj_H} : mj_Rn d mj_m341 50 ls st M = mq_k4 d mj_m341 51 ls (mj_hw (.iastore, 1, 0, 0, 0) st M) := mj_R4 (r := (.iastore, 1, 0, 0, 0)) rfl rfl
theorem s341_51 {d : Nat} {ls : mj_L} {st : List Value} {M : mj_H} : mj_Rn d mj_m341 51 ls st M = mj_Rn d mj_m341 52 ls (.int 1 :: st) M := mj_R0 (r := (.iconst 1, 1, 0, 0, 0)) rfl rfl
theorem s341_52 {d : Nat} {ls : mj_L} {st : List Value} {M : mj_H} : mj_Rn d mj_m341 52 ls st M = mq_k6 M (mj_re (some .boolean) (.ireturn) st) := mj_R6 (r := (.ireturn, 1, 0, 0, 0)) rfl rfl
/- 342 PasskeyHouseModel.page(II)Z -/
theorem s342_0 {d : Nat} {ls : mj_L} {st : List Value} {M : mj_H} : mj_Rn d mj_m342 0 ls st M = mq_k0 d mj_m342 1 ls M (mj_ldi (mj_lk ls 1) st) := mj_R0 (r := (.iload_n 1, 1, 0, 0, 0)) rfl rfl
theorem s342_1 {d : Nat} {ls : mj_L} {st : List Value} {M : mj_H} : mj_Rn (d + 1) mj_m342 1 ls st M = mq_k5a (d + 1) mj_m342 4 ls M 336 (mq_cb 2 1 11 st M) := mj_R5e (r := (.invokestatic 587, 3, 2, 336, 37056)) (z := mj_m336) rfl rfl (by decide) (by decide) rfl
theorem s342_4 {d : Nat} {ls : mj_L} {st : List Value} {M : mj_H} : mj_Rn d mj_m342 4 ls st M = mq_k2 d mj_m342 ls M (mj_br (.ifCond .eq 21) 4 st) := mj_R2 (r := (.ifCond .eq 21, 3, 0, 0, 0)) rfl rfl
theorem s342_7 {d : Nat} {ls : mj_L} {st : List Value} {M : mj_H} : mj_Rn d mj_m342 7 ls st M = mq_k0 d mj_m342 8 ls M (mj_ldi (mj_lk ls 2) st) := mj_R0 (r := (.iload_n 2, 1, 0, 0, 0)) rfl rfl
theorem s342_8 {d : Nat} {ls : mj_L} {st : List Value} {M : mj_H} : mj_Rn d mj_m342 8 ls st M = mq_k2 d mj_m342 ls M (mj_br (.ifCond .lt 17) 8 st) := mj_R2 (r := (.ifCond .lt 17, 3, 0, 0, 0)) rfl rfl
theorem s342_11 {d : Nat} {ls : mj_L} {st : List Value} {M : mj_H} : mj_Rn d mj_m342 11 ls st M = mq_k0 d mj_m342 12 ls M (mj_ldi (mj_lk ls 2) st) := mj_R0 (r := (.iload_n 2, 1, 0, 0, 0)) rfl rfl
theorem s342_12 {d : Nat} {ls : mj_L} {st : List Value} {M : mj_H} : mj_Rn d mj_m342 12 ls st M = mj_Rn d mj_m342 14 ls (.int 40 :: st) M := mj_R0 (r := (.bipush 40, 2, 0, 0, 0)) rfl rfl
theorem s342_14 {d : Nat} {ls : mj_L} {st : List Value} {M : mj_H} : mj_Rn d mj_m342 14 ls st M = mq_k2 d mj_m342 ls M (mj_br (.if_icmp .gt 11) 14 st) := mj_R2 (r := (.if_icmp .gt 11, 3, 0, 0, 0)) rfl rfl
theorem s342_17 {d : Nat} {ls : mj_L} {st : List Value} {M : mj_H} : mj_Rn d mj_m342 17 ls st M = mq_k0 d mj_m342 18 ls M (mj_ldi (mj_lk ls 2) st) := mj_R0 (r := (.iload_n 2, 1, 0, 0, 0)) rfl rfl
theorem s342_18 {d : Nat} {ls : mj_L} {st : List Value} {M : mj_H} : mj_Rn d mj_m342 18 ls st M = mq_k0 d mj_m342 19 ls M (mj_lda (mj_lk ls 0) st) := mj_R0 (r := (.aload_n 0, 1, 0, 0, 0)) rfl rfl
theorem s342_19 {d : Nat} {ls : mj_L} {st : List Value} {M : mj_H} : mj_Rn d mj_m342 19 ls st M = mq_k0 d mj_m342 22 ls M (mq_gf 11 11 st M) := (mj_R3 (r := (.getfield 303, 3, 11, 11, 49618)) rfl rfl).trans (congrArg (mq_k0 d mj_m342 22 ls M) mq_gf_eq)
theorem s342_22 {d : Nat} {ls : mj_L} {st : List Value} {M : mj_H} : mj_Rn d mj_m342 22 ls st M = mq_k2 d mj_m342 ls M (mj_br (.if_icmp .le 5) 22 st) := mj_R2 (r := (.if_icmp .le 5, 3, 0, 0, 0)) rfl rfl
theorem s342_25 {d : Nat} {ls : mj_L} {st : List Value} {M : mj_H} : mj_Rn d mj_m342 25 ls st M = mj_Rn d mj_m342 26 ls (.int 0 :: st) M := mj_R0 (r := (.iconst 0, 1, 0, 0, 0)) rfl rfl
theorem s342_26 {d : Nat} {ls : mj_L} {st : List Value} {M : mj_H} : mj_Rn d mj_m342 26 ls st M = mq_k6 M (mj_re (some .boolean) (.ireturn) st) := mj_R6 (r := (.ireturn, 1, 0, 0, 0)) rfl rfl
theorem s342_27 {d : Nat} {ls : mj_L} {st : List Value} {M : mj_H} : mj_Rn d mj_m342 27 ls st M = mq_k0 d mj_m342 28 ls M (mj_lda (mj_lk ls 0) st) := mj_R0 (r := (.aload_n 0, 1, 0, 0, 0)) rfl rfl
theorem s342_28 {d : Nat} {ls : mj_L} {st : List Value} {M : mj_H} : mj_Rn d mj_m342 28 ls st M = mq_k0 d mj_m342 31 ls M (mq_gf 11 10 st M) := (mj_R3 (r := (.getfield 27, 3, 11, 10, 49616)) rfl rfl).trans (congrArg (mq_k0 d mj_m342 31 ls M) mq_gf_eq)
theorem s342_31 {d : Nat} {ls : mj_L} {st : List Value} {M : mj_H} : mj_Rn d mj_m342 31 ls st M = mj_Rn d mj_m342 32 ls (.int 0 :: st) M := mj_R0 (r := (.iconst 0, 1, 0, 0, 0)) rfl rfl
theorem s342_32 {d : Nat} {ls : mj_L} {st : List Value} {M : mj_H} : mj_Rn d mj_m342 32 ls st M = mq_k0 d mj_m342 33 ls M (mj_lda (mj_lk ls 0) st) := mj_R0 (r := (.aload_n 0, 1, 0, 0, 0)) rfl rfl
theorem s342_33 {d : Nat} {ls : mj_L} {st : List Value} {M : mj_H} : mj_Rn d mj_m342 33 ls st M = mq_k0 d mj_m342 36 ls M (mq_gf 11 66 st M) := (mj_R3 (r := (.getfield 182, 3, 11, 66, 57440)) rfl rfl).trans (congrArg (mq_k0 d mj_m342 36 ls M) mq_gf_eq)
theorem s342_36 {d : Nat} {ls : mj_L} {st : List Value} {M : mj_H} : mj_Rn d mj_m342 36 ls st M = mj_Rn d mj_m342 38 ls (.int 40 :: st) M := mj_R0 (r := (.bipush 40, 2, 0, 0, 0)) rfl rfl
theorem s342_38 {d : Nat} {ls : mj_L} {st : List Value} {M : mj_H} : mj_Rn d mj_m342 38 ls st M = mq_k0 d mj_m342 39 ls M (mj_ldi (mj_lk ls 1) st) := mj_R0 (r := (.iload_n 1, 1, 0, 0, 0)) rfl rfl
theorem s342_39 {d : Nat} {ls : mj_L} {st : List Value} {M : mj_H} : mj_Rn d mj_m342 39 ls st M = mq_k0 d mj_m342 40 ls M (mj_pu .imul ls st) := mj_R0 (r := (.imul, 1, 0, 0, 0)) rfl rfl
theorem s342_40 {d : Nat} {ls : mj_L} {st : List Value} {M : mj_H} : mj_Rn d mj_m342 40 ls st M = mq_k0 d mj_m342 41 ls M (mj_ldi (mj_lk ls 2) st) := mj_R0 (r := (.iload_n 2, 1, 0, 0, 0)) rfl rfl
theorem s342_41 {d : Nat} {ls : mj_L} {st : List Value} {M : mj_H} : mj_Rn (d + 1) mj_m342 41 ls st M = mq_k4 (d + 1) mj_m342 44 ls (mq_cpr st M) := mj_R5ce (r := (.invokestatic 248, 3, 7, 0, 32847)) rfl rfl rfl
theorem s342_44 {d : Nat} {ls : mj_L} {st : List Value} {M : mj_H} : mj_Rn d mj_m342 44 ls st M = mq_k0 d mj_m342 45 ls M (mj_lda (mj_lk ls 0) st) := mj_R0 (r := (.aload_n 0, 1, 0, 0, 0)) rfl rfl
theorem s342_45 {d : Nat} {ls : mj_L} {st : List Value} {M : mj_H} : mj_Rn d mj_m342 45 ls st M = mq_k0 d mj_m342 48 ls M (mq_gf 11 67 st M) := (mj_R3 (r := (.getfield 185, 3, 11, 67, 57442)) rfl rfl).trans (congrArg (mq_k0 d mj_m342 48 ls M) mq_gf_eq)
theorem s342_48 {d : Nat} {ls : mj_L} {st : List Value} {M : mj_H} : mj_Rn d mj_m342 48 ls st M = mq_k0 d mj_m342 49 ls M (mj_ldi (mj_lk ls 1) st) := mj_R0 (r := (.iload_n 1, 1, 0, 0, 0)) rfl rfl
theorem s342_49 {d : Nat} {ls : mj_L} {st : List Value} {M : mj_H} : mj_Rn d mj_m342 49 ls st M = mq_k0 d mj_m342 50 ls M (mj_ldi (mj_lk ls 2) st) := mj_R0 (r := (.iload_n 2, 1, 0, 0, 0)) rfl rfl
theorem s342_50 {d : Nat} {ls : mj_L} {st : List Value} {M : mj_H} : mj_Rn d mj_m342 50 ls st M = mq_k4 d mj_m342 51 ls (mj_hw (.iastore, 1, 0, 0, 0) st M) := mj_R4 (r := (.iastore, 1, 0, 0, 0)) rfl rfl
theorem s342_51 {d : Nat} {ls : mj_L} {st : List Value} {M : mj_H} : mj_Rn d mj_m342 51 ls st M = mj_Rn d mj_m342 52 ls (.int 1 :: st) M := mj_R0 (r := (.iconst 1, 1, 0, 0, 0)) rfl rfl
theorem s342_52 {d : Nat} {ls : mj_L} {st : List Value} {M : mj_H} : mj_Rn d mj_m342 52 ls st M = mq_k6 M (mj_re (some .boolean) (.ireturn) st) := mj_R6 (r := (.ireturn, 1, 0, 0, 0)) rfl rfl
theorem c335 {d : Nat} {a0 : Nat} {x1 : Int32} {M : mj_H} : mj_V (d + 1) 335 [.ref a0, .int x1] M = mj_Rn d mj_m335 0 [(0, .ref a0), (1, .int x1)] [] M := mj_V_go rfl (Nat.le_of_ble_eq_true rfl)
theorem c336 {d : Nat} {x0 : Int32} {M : mj_H} : mj_V (d + 1) 336 [.int x0] M = mj_Rn d mj_m336 0 [(0, .int x0)] [] M := mj_V_go rfl (Nat.le_of_ble_eq_true rfl)
theorem c337 {d : Nat} {a0 : Nat} {x1 : Int32} {x2 : Int32} {M : mj_H} : mj_V (d + 1) 337 [.ref a0, .int x1, .int x2] M = mj_Rn d mj_m337 0 [(0, .ref a0), (1, .int x1), (2, .int x2)] [] M := mj_V_go rfl (Nat.le_of_ble_eq_true rfl)
theorem c338 {d : Nat} {a0 : Nat} {x1 : Int32} {x2 : Int32} {x3 : Int32} {M : mj_H} : mj_V (d + 1) 338 [.ref a0, .int x1, .int x2, .int x3] M = mj_Rn d mj_m338 0 [(0, .ref a0), (1, .int x1), (2, .int x2), (3, .int x3)] [] M := mj_V_go rfl (Nat.le_of_ble_eq_true rfl)
theorem c339 {d : Nat} {a0 : Nat} {x1 : Int32} {x2 : Int32} {M : mj_H} : mj_V (d + 1) 339 [.ref a0, .int x1, .int x2] M = mj_Rn d mj_m339 0 [(0, .ref a0), (1, .int x1), (2, .int x2)] [] M := mj_V_go rfl (Nat.le_of_ble_eq_true rfl)
theorem c340 {d : Nat} {a0 : Nat} {x1 : Int32} {x2 : Int32} {M : mj_H} : mj_V (d + 1) 340 [.ref a0, .int x1, .int x2] M = mj_Rn d mj_m340 0 [(0, .ref a0), (1, .int x1), (2, .int x2)] [] M := mj_V_go rfl (Nat.le_of_ble_eq_true rfl)
theorem c341 {d : Nat} {a0 : Nat} {x1 : Int32} {x2 : Int32} {M : mj_H} : mj_V (d + 1) 341 [.ref a0, .int x1, .int x2] M = mj_Rn d mj_m341 0 [(0, .ref a0), (1, .int x1), (2, .int x2)] [] M := mj_V_go rfl (Nat.le_of_ble_eq_true rfl)
theorem c342 {d : Nat} {a0 : Nat} {x1 : Int32} {x2 : Int32} {M : mj_H} : mj_V (d + 1) 342 [.ref a0, .int x1, .int x2] M = mj_Rn d mj_m342 0 [(0, .ref a0), (1, .int x1), (2, .int x2)] [] M := mj_V_go rfl (Nat.le_of_ble_eq_true rfl)
theorem set_same {l : List Int32} {j : Nat} {v : Int32} (h : l[j]? = some v) : l.set j v = l := by
  apply List.ext_getElem?
  intro i
  by_cases c : j = i
  · subst c
    have hj : j < l.length := by
      rcases Nat.lt_or_ge j l.length with z | z
      · exact z
      · rw [List.getElem?_eq_none z] at h; cases h
    rw [List.getElem?_set_self hj, h]
  · rw [List.getElem?_set_ne c]
def Fx.w3 (x : Fx) (j : Nat) (a b c : Int32) : Fx := (((((((x.1.1.1.1.1.1, x.1.1.1.1.1.2), (x.1.1.1.1.2.1, x.1.1.1.1.2.2)), ((x.1.1.1.2.1.1, x.1.1.1.2.1.2), (x.1.1.1.2.2.1, x.1.1.1.2.2.2))), (((x.1.1.2.1.1.1, x.1.1.2.1.1.2), (x.1.1.2.1.2.1, x.1.1.2.1.2.2)), ((x.1.1.2.2.1.1, x.1.1.2.2.1.2), (x.1.1.2.2.2.1, x.1.1.2.2.2.2)))), ((((x.1.2.1.1.1.1, x.1.2.1.1.1.2), (x.1.2.1.1.2.1, x.1.2.1.1.2.2)), ((x.1.2.1.2.1.1, x.1.2.1.2.1.2), (x.1.2.1.2.2.1, x.1.2.1.2.2.2))), (((x.1.2.2.1.1.1, x.1.2.2.1.1.2), (x.1.2.2.1.2.1, x.1.2.2.1.2.2)), ((x.1.2.2.2.1.1, x.1.2.2.2.1.2), (x.1.2.2.2.2.1, x.1.2.2.2.2.2))))), (((((x.2.1.1.1.1.1, x.2.1.1.1.1.2), (x.2.1.1.1.2.1, x.2.1.1.1.2.2)), ((x.2.1.1.2.1.1, x.2.1.1.2.1.2), (x.2.1.1.2.2.1.set j a, x.2.1.1.2.2.2.set j b))), (((x.2.1.2.1.1.1.set j c, x.2.1.2.1.1.2), (x.2.1.2.1.2.1, x.2.1.2.1.2.2)), ((x.2.1.2.2.1.1, x.2.1.2.2.1.2), (x.2.1.2.2.2.1, x.2.1.2.2.2.2)))), ((((x.2.2.1.1.1.1, x.2.2.1.1.1.2), (x.2.2.1.1.2.1, x.2.2.1.1.2.2)), ((x.2.2.1.2.1.1, x.2.2.1.2.1.2), (x.2.2.1.2.2.1, x.2.2.1.2.2.2))), (((x.2.2.2.1.1.1, x.2.2.2.1.1.2), (x.2.2.2.1.2.1, x.2.2.2.1.2.2)), ((x.2.2.2.2.1.1, x.2.2.2.2.1.2), (x.2.2.2.2.2.1, x.2.2.2.2.2.2)))))) : Fx)
def Fx.wpn (x : Fx) (j : Nat) (l : List Int32) (n : Nat) : Fx := (((((((x.1.1.1.1.1.1, x.1.1.1.1.1.2), (x.1.1.1.1.2.1, x.1.1.1.1.2.2)), ((x.1.1.1.2.1.1, x.1.1.1.2.1.2), (x.1.1.1.2.2.1, x.1.1.1.2.2.2))), (((x.1.1.2.1.1.1, x.1.1.2.1.1.2), (x.1.1.2.1.2.1, x.1.1.2.1.2.2)), ((x.1.1.2.2.1.1, x.1.1.2.2.1.2), (x.1.1.2.2.2.1, x.1.1.2.2.2.2)))), ((((x.1.2.1.1.1.1, x.1.2.1.1.1.2), (x.1.2.1.1.2.1, x.1.2.1.1.2.2)), ((x.1.2.1.2.1.1, x.1.2.1.2.1.2), (x.1.2.1.2.2.1, x.1.2.1.2.2.2))), (((x.1.2.2.1.1.1, x.1.2.2.1.1.2), (x.1.2.2.1.2.1, x.1.2.2.1.2.2)), ((x.1.2.2.2.1.1, x.1.2.2.2.1.2), (x.1.2.2.2.2.1, x.1.2.2.2.2.2))))), (((((x.2.1.1.1.1.1, x.2.1.1.1.1.2), (x.2.1.1.1.2.1, x.2.1.1.1.2.2)), ((x.2.1.1.2.1.1, x.2.1.1.2.1.2), (x.2.1.1.2.2.1, x.2.1.1.2.2.2))), (((x.2.1.2.1.1.1, l), (x.2.1.2.1.2.1.set j (nI n), x.2.1.2.1.2.2)), ((x.2.1.2.2.1.1, x.2.1.2.2.1.2), (x.2.1.2.2.2.1, x.2.1.2.2.2.2)))), ((((x.2.2.1.1.1.1, x.2.2.1.1.1.2), (x.2.2.1.1.2.1, x.2.2.1.1.2.2)), ((x.2.2.1.2.1.1, x.2.2.1.2.1.2), (x.2.2.1.2.2.1, x.2.2.1.2.2.2))), (((x.2.2.2.1.1.1, x.2.2.2.1.1.2), (x.2.2.2.1.2.1, x.2.2.2.1.2.2)), ((x.2.2.2.2.1.1, x.2.2.2.2.1.2), (x.2.2.2.2.2.1, x.2.2.2.2.2.2)))))) : Fx)
def Fx.wpg (x : Fx) (j : Nat) (l : List Int32) (n : Nat) : Fx := (((((((x.1.1.1.1.1.1, x.1.1.1.1.1.2), (x.1.1.1.1.2.1, x.1.1.1.1.2.2)), ((x.1.1.1.2.1.1, x.1.1.1.2.1.2), (x.1.1.1.2.2.1, x.1.1.1.2.2.2))), (((x.1.1.2.1.1.1, x.1.1.2.1.1.2), (x.1.1.2.1.2.1, x.1.1.2.1.2.2)), ((x.1.1.2.2.1.1, x.1.1.2.2.1.2), (x.1.1.2.2.2.1, x.1.1.2.2.2.2)))), ((((x.1.2.1.1.1.1, x.1.2.1.1.1.2), (x.1.2.1.1.2.1, x.1.2.1.1.2.2)), ((x.1.2.1.2.1.1, x.1.2.1.2.1.2), (x.1.2.1.2.2.1, x.1.2.1.2.2.2))), (((x.1.2.2.1.1.1, x.1.2.2.1.1.2), (x.1.2.2.1.2.1, x.1.2.2.1.2.2)), ((x.1.2.2.2.1.1, x.1.2.2.2.1.2), (x.1.2.2.2.2.1, x.1.2.2.2.2.2))))), (((((x.2.1.1.1.1.1, x.2.1.1.1.1.2), (x.2.1.1.1.2.1, x.2.1.1.1.2.2)), ((x.2.1.1.2.1.1, x.2.1.1.2.1.2), (x.2.1.1.2.2.1, x.2.1.1.2.2.2))), (((x.2.1.2.1.1.1, x.2.1.2.1.1.2), (x.2.1.2.1.2.1, l)), ((x.2.1.2.2.1.1.set j (nI n), x.2.1.2.2.1.2), (x.2.1.2.2.2.1, x.2.1.2.2.2.2)))), ((((x.2.2.1.1.1.1, x.2.2.1.1.1.2), (x.2.2.1.1.2.1, x.2.2.1.1.2.2)), ((x.2.2.1.2.1.1, x.2.2.1.2.1.2), (x.2.2.1.2.2.1, x.2.2.1.2.2.2))), (((x.2.2.2.1.1.1, x.2.2.2.1.1.2), (x.2.2.2.1.2.1, x.2.2.2.1.2.2)), ((x.2.2.2.2.1.1, x.2.2.2.2.1.2), (x.2.2.2.2.2.1, x.2.2.2.2.2.2)))))) : Fx)
section
variable {d : Nat} {B : Bs} {x : Fx} {y : Sy} {H : Ho} {h : List Hd} {P : List Pa} {j : Nat} {q : Hd}
theorem mh_.w3 (z : mh_ x h P) (hq : h[j]? = some q) (a b c : Int32) : mh_ (x.w3 j a b c) (h.set j ((q.1, (q.2.1, (a, (b, c)))) : Hd)) P := by
  have hj : j < h.length := by
    rcases Nat.lt_or_ge j h.length with w | w
    · exact w
    · rw [List.getElem?_eq_none w] at hq; cases hq
  have h4 := z.h4
  refine (mh__mk_ ((xh_mk_ ((List.length_set ..).trans z.l.secretOf) ((List.length_set ..).trans z.l.agreed) ((List.length_set ..).trans z.l.tokenOf) z.l.typed z.l.typedLong z.l.pages z.l.pageLong z.l.origins z.l.originLong z.l.names z.l.nameLong z.l.offers z.l.offerTerm z.l.offerUser z.l.offerLong z.l.offerGet z.l.offerPin z.l.accounts z.l.accId z.l.accPublic z.l.accCount z.l.logins z.l.accUser z.l.accLong z.l.took z.l.others)) (by rw [List.length_set]; exact h4) ?_ z.n z.n4 ?_ z.p0)
  · intro i q' hq'
    by_cases hij : j = i
    · subst hij
      rw [List.getElem?_set_self hj] at hq'
      cases hq'
      obtain ⟨a1, a2, a3, a4, a5, a6, a7, a8, a9⟩ := z.hs j q hq
      exact (hM_mk_ (List.getElem?_set_self (by rw [z.l.secretOf]; omega)) (List.getElem?_set_self (by rw [z.l.agreed]; omega)) (List.getElem?_set_self (by rw [z.l.tokenOf]; omega)) a4 a5 a6 a7 a8 a9)
    · rw [List.getElem?_set_ne hij] at hq'
      obtain ⟨a1, a2, a3, a4, a5, a6, a7, a8, a9⟩ := z.hs i q' hq'
      exact (hM_mk_ ((List.getElem?_set_ne hij).trans a1) ((List.getElem?_set_ne hij).trans a2) ((List.getElem?_set_ne hij).trans a3) a4 a5 a6 a7 a8 a9)
  · intro i p hp
    obtain ⟨a1, a2, a3, a4, a5, a6, a7, a8, a9, a10, a11, a12, a13, a14⟩ := z.ps i p hp
    exact (pM_mk_ a1 a2 a3 a4 a5 a6 a7 a8 (fun i o ho => (by obtain ⟨b1, b2, b3, b4, b5, b6⟩ := a9 i o ho; exact (oM_mk_ b1 b2 b3 b4 b5 b6))) a10 a11 (fun i o ho => (by obtain ⟨b1, b2, b3, b4, b5, b6, b7⟩ := a12 i o ho; exact (aM_mk_ b1 b2 b3 b4 b5 b6 b7))) a13 a14)
theorem spl_far {l s : List Int32} {p i : Nat} (hp : p + s.length ≤ l.length) (hi : i < p ∨ p + s.length ≤ i) : (spl l p s)[i]? = l[i]? := by
  rw [spl_at hp, if_neg (by omega)]
theorem mh_.wpn (z : mh_ x h P) (hq : h[j]? = some q) {s : List Int32} (hs : s.length ≤ 12) : mh_ (x.wpn j (spl x.2.1.2.1.1.2 (12 * j) s) s.length) (h.set j ((s, (q.2.1, (q.2.2.1, (q.2.2.2.1, q.2.2.2.2)))) : Hd)) P := by
  have hj : j < h.length := by
    rcases Nat.lt_or_ge j h.length with w | w
    · exact w
    · rw [List.getElem?_eq_none w] at hq; cases hq
  have h4 := z.h4
  have ht := z.l.typed
  have hp : 12 * j + s.length ≤ x.2.1.2.1.1.2.length := by omega
  refine (mh__mk_ ((xh_mk_ z.l.secretOf z.l.agreed z.l.tokenOf ((spl_len hp).trans ht) ((List.length_set ..).trans z.l.typedLong) z.l.pages z.l.pageLong z.l.origins z.l.originLong z.l.names z.l.nameLong z.l.offers z.l.offerTerm z.l.offerUser z.l.offerLong z.l.offerGet z.l.offerPin z.l.accounts z.l.accId z.l.accPublic z.l.accCount z.l.logins z.l.accUser z.l.accLong z.l.took z.l.others)) (by rw [List.length_set]; exact h4) ?_ z.n z.n4 ?_ z.p0)
  · intro i q' hq'
    by_cases hij : j = i
    · subst hij
      rw [List.getElem?_set_self hj] at hq'
      cases hq'
      obtain ⟨a1, a2, a3, a4, a5, a6, a7, a8, a9⟩ := z.hs j q hq
      exact (hM_mk_ a1 a2 a3 (List.getElem?_set_self (by rw [z.l.typedLong]; omega)) hs (fun k hk => spl_get (by omega) hk) a7 a8 a9)
    · rw [List.getElem?_set_ne hij] at hq'
      have hi : i < h.length := by
        rcases Nat.lt_or_ge i h.length with w | w
        · exact w
        · rw [List.getElem?_eq_none w] at hq'; cases hq'
      obtain ⟨a1, a2, a3, a4, a5, a6, a7, a8, a9⟩ := z.hs i q' hq'
      exact (hM_mk_ a1 a2 a3 ((List.getElem?_set_ne hij).trans a4) a5 (fun k hk => (spl_far hp (by omega)).trans (a6 k hk)) a7 a8 a9)
  · intro i p hp
    obtain ⟨a1, a2, a3, a4, a5, a6, a7, a8, a9, a10, a11, a12, a13, a14⟩ := z.ps i p hp
    exact (pM_mk_ a1 a2 a3 a4 a5 a6 a7 a8 (fun i o ho => (by obtain ⟨b1, b2, b3, b4, b5, b6⟩ := a9 i o ho; exact (oM_mk_ b1 b2 b3 b4 b5 b6))) a10 a11 (fun i o ho => (by obtain ⟨b1, b2, b3, b4, b5, b6, b7⟩ := a12 i o ho; exact (aM_mk_ b1 b2 b3 b4 b5 b6 b7))) a13 a14)
theorem mh_.wpg (z : mh_ x h P) (hq : h[j]? = some q) {s : List Int32} (hs : s.length ≤ 40) : mh_ (x.wpg j (spl x.2.1.2.1.2.2 (40 * j) s) s.length) (h.set j ((q.1, (s, (q.2.2.1, (q.2.2.2.1, q.2.2.2.2)))) : Hd)) P := by
  have hj : j < h.length := by
    rcases Nat.lt_or_ge j h.length with w | w
    · exact w
    · rw [List.getElem?_eq_none w] at hq; cases hq
  have h4 := z.h4
  have ht := z.l.pages
  have hp : 40 * j + s.length ≤ x.2.1.2.1.2.2.length := by omega
  refine (mh__mk_ ((xh_mk_ z.l.secretOf z.l.agreed z.l.tokenOf z.l.typed z.l.typedLong ((spl_len hp).trans ht) ((List.length_set ..).trans z.l.pageLong) z.l.origins z.l.originLong z.l.names z.l.nameLong z.l.offers z.l.offerTerm z.l.offerUser z.l.offerLong z.l.offerGet z.l.offerPin z.l.accounts z.l.accId z.l.accPublic z.l.accCount z.l.logins z.l.accUser z.l.accLong z.l.took z.l.others)) (by rw [List.length_set]; exact h4) ?_ z.n z.n4 ?_ z.p0)
  · intro i q' hq'
    by_cases hij : j = i
    · subst hij
      rw [List.getElem?_set_self hj] at hq'
      cases hq'
      obtain ⟨a1, a2, a3, a4, a5, a6, a7, a8, a9⟩ := z.hs j q hq
      exact (hM_mk_ a1 a2 a3 a4 a5 a6 (List.getElem?_set_self (by rw [z.l.pageLong]; omega)) hs (fun k hk => spl_get (by omega) hk))
    · rw [List.getElem?_set_ne hij] at hq'
      have hi : i < h.length := by
        rcases Nat.lt_or_ge i h.length with w | w
        · exact w
        · rw [List.getElem?_eq_none w] at hq'; cases hq'
      obtain ⟨a1, a2, a3, a4, a5, a6, a7, a8, a9⟩ := z.hs i q' hq'
      exact (hM_mk_ a1 a2 a3 a4 a5 a6 ((List.getElem?_set_ne hij).trans a7) a8 (fun k hk => (spl_far hp (by omega)).trans (a9 k hk)))
  · intro i p hp
    obtain ⟨a1, a2, a3, a4, a5, a6, a7, a8, a9, a10, a11, a12, a13, a14⟩ := z.ps i p hp
    exact (pM_mk_ a1 a2 a3 a4 a5 a6 a7 a8 (fun i o ho => (by obtain ⟨b1, b2, b3, b4, b5, b6⟩ := a9 i o ho; exact (oM_mk_ b1 b2 b3 b4 b5 b6))) a10 a11 (fun i o ho => (by obtain ⟨b1, b2, b3, b4, b5, b6, b7⟩ := a12 i o ho; exact (aM_mk_ b1 b2 b3 b4 b5 b6 b7))) a13 a14)
theorem q_isHand {M : mj_H} (i : Int32) : mj_V (d + 1) 336 [.int i] M = some (some (.int (on1 (ix i 4).isSome)), M) := by
  cases hi : ix i 4 with
  | none =>
    rcases ix_none hi with h0 | ⟨k, rfl, hk, hnk⟩
    · simp (disch := (first | omega | decide)) [S_cb_mmade4_0, S_bx_mcan1_0, S_b8_mkey_1, S_b8_mkey_0, S_b1_mterm_0, S_b1_copy_0, S_b0_mod_7, S_b0_mod_6, S_b0_mod_5, S_b0_mod_3, S_b0_mod_2, S_b0_mod_1, S_b0_mod_0, S_cb_mmade4_1h, S_bx_mcan1_1h, S_b0_mod_4h, c336, s336_0, s336_1, s336_4, s336_5, s336_6, s336_9, s336_10, s336_13, s336_14, mq_k0s, mq_k1s, mq_k2s, mq_k4s, mq_k5s, mq_k5n, mq_k5as, mq_k6s, mj_pu, mj_lo, mj_br, mj_hr, mj_hw, mq_gf, mq_len, mq_al, mq_pf, mq_ok, mj_re, mq_lkm, mq_lkn, mj_ldi, mj_ldl, mj_lda, mj_ii, mj_ll, mj_li, mj_i1, ms_1, ms_2, f1_n, f1_i, f1_r, f1_u, f1_l, f2_n, f2_i, f2_r, f2_u, f2_l, mj_tg, mj_c1, mj_c2, mj_ar, mj_aw, mq_cb, mq_oi, mj_rm, Value.category, -getElem?_pos, List.getElem?_cons_zero, decide_eq_true, decide_eq_false, nl_lt, nl_le, ln_lt, ln_le, nl_eq, ln_eq, nl_add, ln_add, nl_sub, ln_mul, nI_sub, nI_mul, nI_add, nI_lt_iff, nI_le_iff, nI_inj, nI_num, mq_ix, nI_1, nl_mul, nl_div, h0, narrow_b0, on1]
    · simp (disch := (first | omega | decide)) [S_cb_mmade4_0, S_bx_mcan1_0, S_b8_mkey_1, S_b8_mkey_0, S_b1_mterm_0, S_b1_copy_0, S_b0_mod_7, S_b0_mod_6, S_b0_mod_5, S_b0_mod_3, S_b0_mod_2, S_b0_mod_1, S_b0_mod_0, S_cb_mmade4_1h, S_bx_mcan1_1h, S_b0_mod_4h, c336, s336_0, s336_1, s336_4, s336_5, s336_6, s336_9, s336_10, s336_13, s336_14, mq_k0s, mq_k1s, mq_k2s, mq_k4s, mq_k5s, mq_k5n, mq_k5as, mq_k6s, mj_pu, mj_lo, mj_br, mj_hr, mj_hw, mq_gf, mq_len, mq_al, mq_pf, mq_ok, mj_re, mq_lkm, mq_lkn, mj_ldi, mj_ldl, mj_lda, mj_ii, mj_ll, mj_li, mj_i1, ms_1, ms_2, f1_n, f1_i, f1_r, f1_u, f1_l, f2_n, f2_i, f2_r, f2_u, f2_l, mj_tg, mj_c1, mj_c2, mj_ar, mj_aw, mq_cb, mq_oi, mj_rm, Value.category, -getElem?_pos, List.getElem?_cons_zero, decide_eq_true, decide_eq_false, nl_lt, nl_le, ln_lt, ln_le, nl_eq, ln_eq, nl_add, ln_add, nl_sub, ln_mul, nI_sub, nI_mul, nI_add, nI_lt_iff, nI_le_iff, nI_inj, nI_num, mq_ix, nI_1, nl_mul, nl_div, nI_pos hk, hnk, narrow_b0, on1]
  | some j =>
    obtain ⟨rfl, hj, hj31⟩ := ix_some hi
    simp (disch := (first | omega | decide)) [S_cb_mmade4_0, S_bx_mcan1_0, S_b8_mkey_1, S_b8_mkey_0, S_b1_mterm_0, S_b1_copy_0, S_b0_mod_7, S_b0_mod_6, S_b0_mod_5, S_b0_mod_3, S_b0_mod_2, S_b0_mod_1, S_b0_mod_0, S_cb_mmade4_1h, S_bx_mcan1_1h, S_b0_mod_4h, c336, s336_0, s336_1, s336_4, s336_5, s336_6, s336_9, s336_10, s336_13, s336_14, mq_k0s, mq_k1s, mq_k2s, mq_k4s, mq_k5s, mq_k5n, mq_k5as, mq_k6s, mj_pu, mj_lo, mj_br, mj_hr, mj_hw, mq_gf, mq_len, mq_al, mq_pf, mq_ok, mj_re, mq_lkm, mq_lkn, mj_ldi, mj_ldl, mj_lda, mj_ii, mj_ll, mj_li, mj_i1, ms_1, ms_2, f1_n, f1_i, f1_r, f1_u, f1_l, f2_n, f2_i, f2_r, f2_u, f2_l, mj_tg, mj_c1, mj_c2, mj_ar, mj_aw, mq_cb, mq_oi, mj_rm, Value.category, -getElem?_pos, List.getElem?_cons_zero, decide_eq_true, decide_eq_false, nl_lt, nl_le, ln_lt, ln_le, nl_eq, ln_eq, nl_add, ln_add, nl_sub, ln_mul, nI_sub, nI_mul, nI_add, nI_lt_iff, nI_le_iff, nI_inj, nI_num, mq_ix, nI_1, nl_mul, nl_div, nI_pos hj31, show ¬ 4 ≤ j by omega, narrow_b1, on1]
theorem hand_at (z : mz x y H) {i : Int32} {j : Nat} (hi : ix i 4 = some j) : ∃ q, H.2.2.2.1[j]? = some q ∧ i = nI j ∧ j < 4 ∧ hM x j q := by
  obtain ⟨rfl, hj, -⟩ := ix_some hi
  have h4 := z.h.h4
  exact ⟨_, List.getElem?_eq_getElem (by omega), rfl, hj, z.h.hs j _ (List.getElem?_eq_getElem (by omega))⟩
/-- an own key pair: state -/
theorem q_own (z : mz x y H) {q : Hd} (hq : H.2.2.2.1[j]? = some q) (hj : j < 4) (hT : H.2.1.1.length < 1000) : ∃ y', mj_V (d + 5) 335 [.ref 67, .int (nI j)] (mm B x y) = some (some (.int (own_n H.2.1)), mm B (x.w3 j (nI (H.2.1.2.2 + 1)) 0 0) y') ∧ mz (x.w3 j (nI (H.2.1.2.2 + 1)) 0 0) y' (H.ht j (own_h q H.2.1, own_T H.2.1)) := by
  obtain ⟨D, O, hy⟩ := z.y
  have rh := q_isHand (d := d + 3) (M := mm B x y) (nI j)
  rw [ix_nI (by omega), if_pos hj] at rh
  obtain ⟨y1, p1, z1, k1⟩ := q_secret (d := d + 3) (B := B) (x := x) hy
  obtain ⟨y2, p2, z2, k2⟩ := q_publicOf (d := d) (B := B) (x := x.w3 j (nI (H.2.1.2.2 + 1)) 0 0) z1 hT (nI (H.2.1.2.2 + 1))
  refine ⟨y2, ?_, (mz_mk_ z.t z.m (z.k.kf rfl) (z.h.w3 hq _ _ _) (⟨_, _, z2⟩))⟩
  have l1 := z.h.l.secretOf
  have l2 := z.h.l.agreed
  have l3 := z.h.l.tokenOf
  have hr : ((x.2.1.1.2.2.1.set j (nI (H.2.1.2.2 + 1)))[j]?) = some (nI (H.2.1.2.2 + 1)) := List.getElem?_set_self (by omega)
  show _ = some (some (Value.int (nI (tm_no (own_T1 H.2.1) [2, nI (H.2.1.2.2 + 1)]))), _)
  have p2 : mj_V (d + 4) 321 [.ref 67, .int (nI (H.2.1.2.2 + 1))] (mm B (x.w3 j (nI (H.2.1.2.2 + 1)) 0 0) y1) = some (some (.int (nI (tm_no (own_T1 H.2.1) [2, nI (H.2.1.2.2 + 1)]))), mm B (x.w3 j (nI (H.2.1.2.2 + 1)) 0 0) y2) := p2
  generalize nI (tm_no (own_T1 H.2.1) [2, nI (H.2.1.2.2 + 1)]) = res at *
  generalize nI (H.2.1.2.2 + 1) = se at *
  simp only [Fx.w3] at p2
  simp only [on1, Option.isSome_some, if_true] at rh
  simp (disch := (first | omega | decide)) [S_cb_mmade4_0, S_bx_mcan1_0, S_b8_mkey_1, S_b8_mkey_0, S_b1_mterm_0, S_b1_copy_0, S_b0_mod_7, S_b0_mod_6, S_b0_mod_5, S_b0_mod_3, S_b0_mod_2, S_b0_mod_1, S_b0_mod_0, S_cb_mmade4_1h, S_bx_mcan1_1h, S_b0_mod_4h, c335, s335_0, s335_1, s335_4, s335_7, s335_8, s335_9, s335_10, s335_13, s335_14, s335_15, s335_18, s335_19, s335_20, s335_23, s335_24, s335_25, s335_26, s335_27, s335_30, s335_31, s335_32, s335_33, s335_34, s335_35, s335_38, s335_39, s335_40, s335_43, mq_k0s, mq_k1s, mq_k2s, mq_k4s, mq_k5s, mq_k5n, mq_k5as, mq_k6s, mj_pu, mj_lo, mj_br, mj_hr, mj_hw, mq_gf, mq_len, mq_al, mq_pf, mq_ok, mj_re, mq_lkm, mq_lkn, mj_ldi, mj_ldl, mj_lda, mj_ii, mj_ll, mj_li, mj_i1, ms_1, ms_2, f1_n, f1_i, f1_r, f1_u, f1_l, f2_n, f2_i, f2_r, f2_u, f2_l, mj_tg, mj_c1, mj_c2, mj_ar, mj_aw, mq_cb, mq_oi, mj_rm, Value.category, -getElem?_pos, List.getElem?_cons_zero, decide_eq_true, decide_eq_false, nl_lt, nl_le, ln_lt, ln_le, nl_eq, ln_eq, nl_add, ln_add, nl_sub, ln_mul, nI_sub, nI_mul, nI_add, nI_lt_iff, nI_le_iff, nI_inj, nI_num, mq_ix, nI_1, nl_mul, nl_div, rh, l1, l2, l3, p1, hr, p2, narrow, Fx.w3]
theorem o_own (z : mz x y H) (i : Int32) (hT : H.2.1.1.length < 1000) : oR (d + 5) 335 [.ref 67, .int i] B x y (ho_own H i) := by
  have rh := q_isHand (d := d + 3) (M := mm B x y) i
  unfold ho_own
  cases hi : ix i 4 with
  | none =>
    rw [hi] at rh
    simp only [on1, Option.isSome_none, Bool.false_eq_true, if_false] at rh
    refine ⟨x, y, ?_, z⟩
    simp (disch := (first | omega | decide)) [S_cb_mmade4_0, S_bx_mcan1_0, S_b8_mkey_1, S_b8_mkey_0, S_b1_mterm_0, S_b1_copy_0, S_b0_mod_7, S_b0_mod_6, S_b0_mod_5, S_b0_mod_3, S_b0_mod_2, S_b0_mod_1, S_b0_mod_0, S_cb_mmade4_1h, S_bx_mcan1_1h, S_b0_mod_4h, c335, s335_0, s335_1, s335_4, s335_7, s335_8, s335_9, s335_10, s335_13, s335_14, s335_15, s335_18, s335_19, s335_20, s335_23, s335_24, s335_25, s335_26, s335_27, s335_30, s335_31, s335_32, s335_33, s335_34, s335_35, s335_38, s335_39, s335_40, s335_43, mq_k0s, mq_k1s, mq_k2s, mq_k4s, mq_k5s, mq_k5n, mq_k5as, mq_k6s, mj_pu, mj_lo, mj_br, mj_hr, mj_hw, mq_gf, mq_len, mq_al, mq_pf, mq_ok, mj_re, mq_lkm, mq_lkn, mj_ldi, mj_ldl, mj_lda, mj_ii, mj_ll, mj_li, mj_i1, ms_1, ms_2, f1_n, f1_i, f1_r, f1_u, f1_l, f2_n, f2_i, f2_r, f2_u, f2_l, mj_tg, mj_c1, mj_c2, mj_ar, mj_aw, mq_cb, mq_oi, mj_rm, Value.category, -getElem?_pos, List.getElem?_cons_zero, decide_eq_true, decide_eq_false, nl_lt, nl_le, ln_lt, ln_le, nl_eq, ln_eq, nl_add, ln_add, nl_sub, ln_mul, nI_sub, nI_mul, nI_add, nI_lt_iff, nI_le_iff, nI_inj, nI_num, mq_ix, nI_1, nl_mul, nl_div, rh, narrow]
  | some j =>
    obtain ⟨q, hq, rfl, hj, hm⟩ := hand_at z hi
    dsimp only
    rw [hq]
    dsimp only
    obtain ⟨y', a, b⟩ := q_own (d := d) (B := B) z hq hj hT
    exact ⟨_, y', a, b⟩
end
end
