/- do.msigned -/
section
set_option maxRecDepth 512
/-! The model: signatures that parties know, whose account it is. -/
/- 375 PasskeyHouseModel.isIts(I)Z -/
theorem s375_0 {d : Nat} {ls : mj_L} {st : List Value} {M : mj_H} : mj_Rn d mj_m375 0 ls st M = mq_k0 d mj_m375 1 ls M (mj_lda (mj_lk ls 0) st) := mj_R0 (r := (.aload_n 0, 1, 0, 0, 0)) rfl rfl
theorem s375_1 {d : Nat} {ls : mj_L} {st : List Value} {M : mj_H} : mj_Rn d mj_m375 1 ls st M = mq_k0 d mj_m375 4 ls M (mq_gf 11 85 st M) := (mj_R3 (r := (.getfield 236, 3, 11, 85, 57478)) rfl rfl).trans (congrArg (mq_k0 d mj_m375 4 ls M) mq_gf_eq)
theorem s375_4 {d : Nat} {ls : mj_L} {st : List Value} {M : mj_H} : mj_Rn d mj_m375 4 ls st M = mq_k0 d mj_m375 5 ls M (mj_ldi (mj_lk ls 1) st) := mj_R0 (r := (.iload_n 1, 1, 0, 0, 0)) rfl rfl
theorem s375_5 {d : Nat} {ls : mj_L} {st : List Value} {M : mj_H} : mj_Rn d mj_m375 5 ls st M = mq_k0 d mj_m375 6 ls M (mq_al [1000] st M) := (mj_R3 (r := (.iaload, 1, 0, 0, 0)) rfl rfl).trans (congrArg (mq_k0 d mj_m375 6 ls M) mq_ali_eq)
theorem s375_6 {d : Nat} {ls : mj_L} {st : List Value} {M : mj_H} : mj_Rn d mj_m375 6 ls st M = mq_k0 d mj_m375 7 ls M (mj_lda (mj_lk ls 0) st) := mj_R0 (r := (.aload_n 0, 1, 0, 0, 0)) rfl rfl
theorem s375_7 {d : Nat} {ls : mj_L} {st : List Value} {M : mj_H} : mj_Rn d mj_m375 7 ls st M = mq_k0 d mj_m375 10 ls M (mq_gf 11 89 st M) := (mj_R3 (r := (.getfield 673, 3, 11, 89, 57486)) rfl rfl).trans (congrArg (mq_k0 d mj_m375 10 ls M) mq_gf_eq)
theorem s375_10 {d : Nat} {ls : mj_L} {st : List Value} {M : mj_H} : mj_Rn d mj_m375 10 ls st M = mq_k2 d mj_m375 ls M (mj_br (.if_icmp .ne 7) 10 st) := mj_R2 (r := (.if_icmp .ne 7, 3, 0, 0, 0)) rfl rfl
theorem s375_13 {d : Nat} {ls : mj_L} {st : List Value} {M : mj_H} : mj_Rn d mj_m375 13 ls st M = mj_Rn d mj_m375 14 ls (.int 1 :: st) M := mj_R0 (r := (.iconst 1, 1, 0, 0, 0)) rfl rfl
theorem s375_14 {d : Nat} {ls : mj_L} {st : List Value} {M : mj_H} : mj_Rn d mj_m375 14 ls st M = mj_Rn d mj_m375 18 ls st M := mj_R2 (r := (.goto 4, 3, 0, 0, 0)) rfl rfl
theorem s375_17 {d : Nat} {ls : mj_L} {st : List Value} {M : mj_H} : mj_Rn d mj_m375 17 ls st M = mj_Rn d mj_m375 18 ls (.int 0 :: st) M := mj_R0 (r := (.iconst 0, 1, 0, 0, 0)) rfl rfl
theorem s375_18 {d : Nat} {ls : mj_L} {st : List Value} {M : mj_H} : mj_Rn d mj_m375 18 ls st M = mq_k1 d mj_m375 19 M (mj_lo 4 (.istore 2) ls st) := (mj_R1 (r := (.istore_n 2, 1, 0, 0, 0)) rfl rfl).trans (congrArg (mq_k1 d mj_m375 19 M) (mq_sti (k := 2)))
theorem s375_19 {d : Nat} {ls : mj_L} {st : List Value} {M : mj_H} : mj_Rn d mj_m375 19 ls st M = mj_Rn d mj_m375 20 ls (.int 0 :: st) M := mj_R0 (r := (.iconst 0, 1, 0, 0, 0)) rfl rfl
theorem s375_20 {d : Nat} {ls : mj_L} {st : List Value} {M : mj_H} : mj_Rn d mj_m375 20 ls st M = mq_k1 d mj_m375 21 M (mj_lo 4 (.istore 3) ls st) := (mj_R1 (r := (.istore_n 3, 1, 0, 0, 0)) rfl rfl).trans (congrArg (mq_k1 d mj_m375 21 M) (mq_sti (k := 3)))
theorem s375_21 {d : Nat} {ls : mj_L} {st : List Value} {M : mj_H} : mj_Rn d mj_m375 21 ls st M = mq_k0 d mj_m375 22 ls M (mj_ldi (mj_lk ls 3) st) := mj_R0 (r := (.iload_n 3, 1, 0, 0, 0)) rfl rfl
theorem s375_22 {d : Nat} {ls : mj_L} {st : List Value} {M : mj_H} : mj_Rn d mj_m375 22 ls st M = mq_k0 d mj_m375 23 ls M (mj_lda (mj_lk ls 0) st) := mj_R0 (r := (.aload_n 0, 1, 0, 0, 0)) rfl rfl
theorem s375_23 {d : Nat} {ls : mj_L} {st : List Value} {M : mj_H} : mj_Rn d mj_m375 23 ls st M = mq_k0 d mj_m375 26 ls M (mq_gf 11 89 st M) := (mj_R3 (r := (.getfield 673, 3, 11, 89, 57486)) rfl rfl).trans (congrArg (mq_k0 d mj_m375 26 ls M) mq_gf_eq)
theorem s375_26 {d : Nat} {ls : mj_L} {st : List Value} {M : mj_H} : mj_Rn d mj_m375 26 ls st M = mq_k2 d mj_m375 ls M (mj_br (.if_icmp .ge 39) 26 st) := mj_R2 (r := (.if_icmp .ge 39, 3, 0, 0, 0)) rfl rfl
theorem s375_29 {d : Nat} {ls : mj_L} {st : List Value} {M : mj_H} : mj_Rn d mj_m375 29 ls st M = mq_k0 d mj_m375 30 ls M (mj_ldi (mj_lk ls 2) st) := mj_R0 (r := (.iload_n 2, 1, 0, 0, 0)) rfl rfl
theorem s375_30 {d : Nat} {ls : mj_L} {st : List Value} {M : mj_H} : mj_Rn d mj_m375 30 ls st M = mq_k2 d mj_m375 ls M (mj_br (.ifCond .eq 35) 30 st) := mj_R2 (r := (.ifCond .eq 35, 3, 0, 0, 0)) rfl rfl
theorem s375_33 {d : Nat} {ls : mj_L} {st : List Value} {M : mj_H} : mj_Rn d mj_m375 33 ls st M = mq_k0 d mj_m375 34 ls M (mj_lda (mj_lk ls 0) st) := mj_R0 (r := (.aload_n 0, 1, 0, 0, 0)) rfl rfl
theorem s375_34 {d : Nat} {ls : mj_L} {st : List Value} {M : mj_H} : mj_Rn d mj_m375 34 ls st M = mq_k0 d mj_m375 37 ls M (mq_gf 11 84 st M) := (mj_R3 (r := (.getfield 233, 3, 11, 84, 57476)) rfl rfl).trans (congrArg (mq_k0 d mj_m375 37 ls M) mq_gf_eq)
theorem s375_37 {d : Nat} {ls : mj_L} {st : List Value} {M : mj_H} : mj_Rn d mj_m375 37 ls st M = mj_Rn d mj_m375 39 ls (.int 8 :: st) M := mj_R0 (r := (.bipush 8, 2, 0, 0, 0)) rfl rfl
theorem s375_39 {d : Nat} {ls : mj_L} {st : List Value} {M : mj_H} : mj_Rn d mj_m375 39 ls st M = mq_k0 d mj_m375 40 ls M (mj_ldi (mj_lk ls 1) st) := mj_R0 (r := (.iload_n 1, 1, 0, 0, 0)) rfl rfl
theorem s375_40 {d : Nat} {ls : mj_L} {st : List Value} {M : mj_H} : mj_Rn d mj_m375 40 ls st M = mq_k0 d mj_m375 41 ls M (mj_pu .imul ls st) := mj_R0 (r := (.imul, 1, 0, 0, 0)) rfl rfl
theorem s375_41 {d : Nat} {ls : mj_L} {st : List Value} {M : mj_H} : mj_Rn d mj_m375 41 ls st M = mq_k0 d mj_m375 42 ls M (mj_ldi (mj_lk ls 3) st) := mj_R0 (r := (.iload_n 3, 1, 0, 0, 0)) rfl rfl
theorem s375_42 {d : Nat} {ls : mj_L} {st : List Value} {M : mj_H} : mj_Rn d mj_m375 42 ls st M = mq_k0 d mj_m375 43 ls M (mj_pu .iadd ls st) := mj_R0 (r := (.iadd, 1, 0, 0, 0)) rfl rfl
theorem s375_43 {d : Nat} {ls : mj_L} {st : List Value} {M : mj_H} : mj_Rn d mj_m375 43 ls st M = mq_k0 d mj_m375 44 ls M (mq_al [1000] st M) := (mj_R3 (r := (.iaload, 1, 0, 0, 0)) rfl rfl).trans (congrArg (mq_k0 d mj_m375 44 ls M) mq_ali_eq)
theorem s375_44 {d : Nat} {ls : mj_L} {st : List Value} {M : mj_H} : mj_Rn d mj_m375 44 ls st M = mq_k0 d mj_m375 45 ls M (mj_lda (mj_lk ls 0) st) := mj_R0 (r := (.aload_n 0, 1, 0, 0, 0)) rfl rfl
theorem s375_45 {d : Nat} {ls : mj_L} {st : List Value} {M : mj_H} : mj_Rn d mj_m375 45 ls st M = mq_k0 d mj_m375 48 ls M (mq_gf 11 88 st M) := (mj_R3 (r := (.getfield 245, 3, 11, 88, 57484)) rfl rfl).trans (congrArg (mq_k0 d mj_m375 48 ls M) mq_gf_eq)
theorem s375_48 {d : Nat} {ls : mj_L} {st : List Value} {M : mj_H} : mj_Rn d mj_m375 48 ls st M = mq_k0 d mj_m375 49 ls M (mj_ldi (mj_lk ls 3) st) := mj_R0 (r := (.iload_n 3, 1, 0, 0, 0)) rfl rfl
theorem s375_49 {d : Nat} {ls : mj_L} {st : List Value} {M : mj_H} : mj_Rn d mj_m375 49 ls st M = mq_k0 d mj_m375 50 ls M (mq_al [1000] st M) := (mj_R3 (r := (.iaload, 1, 0, 0, 0)) rfl rfl).trans (congrArg (mq_k0 d mj_m375 50 ls M) mq_ali_eq)
theorem s375_50 {d : Nat} {ls : mj_L} {st : List Value} {M : mj_H} : mj_Rn d mj_m375 50 ls st M = mq_k2 d mj_m375 ls M (mj_br (.if_icmp .ne 7) 50 st) := mj_R2 (r := (.if_icmp .ne 7, 3, 0, 0, 0)) rfl rfl
theorem s375_53 {d : Nat} {ls : mj_L} {st : List Value} {M : mj_H} : mj_Rn d mj_m375 53 ls st M = mj_Rn d mj_m375 54 ls (.int 1 :: st) M := mj_R0 (r := (.iconst 1, 1, 0, 0, 0)) rfl rfl
theorem s375_54 {d : Nat} {ls : mj_L} {st : List Value} {M : mj_H} : mj_Rn d mj_m375 54 ls st M = mj_Rn d mj_m375 58 ls st M := mj_R2 (r := (.goto 4, 3, 0, 0, 0)) rfl rfl
theorem s375_57 {d : Nat} {ls : mj_L} {st : List Value} {M : mj_H} : mj_Rn d mj_m375 57 ls st M = mj_Rn d mj_m375 58 ls (.int 0 :: st) M := mj_R0 (r := (.iconst 0, 1, 0, 0, 0)) rfl rfl
theorem s375_58 {d : Nat} {ls : mj_L} {st : List Value} {M : mj_H} : mj_Rn d mj_m375 58 ls st M = mq_k1 d mj_m375 59 M (mj_lo 4 (.istore 2) ls st) := (mj_R1 (r := (.istore_n 2, 1, 0, 0, 0)) rfl rfl).trans (congrArg (mq_k1 d mj_m375 59 M) (mq_sti (k := 2)))
theorem s375_59 {d : Nat} {ls : mj_L} {st : List Value} {M : mj_H} : mj_Rn d mj_m375 59 ls st M = mq_k1 d mj_m375 62 M (mj_lo 4 (.iinc 3 1) ls st) := mj_R1 (r := (.iinc 3 1, 3, 0, 0, 0)) rfl rfl
theorem s375_62 {d : Nat} {ls : mj_L} {st : List Value} {M : mj_H} : mj_Rn d mj_m375 62 ls st M = mj_Rn d mj_m375 21 ls st M := mj_R2 (r := (.goto (-41), 3, 0, 0, 0)) rfl rfl
theorem s375_65 {d : Nat} {ls : mj_L} {st : List Value} {M : mj_H} : mj_Rn d mj_m375 65 ls st M = mq_k0 d mj_m375 66 ls M (mj_ldi (mj_lk ls 2) st) := mj_R0 (r := (.iload_n 2, 1, 0, 0, 0)) rfl rfl
theorem s375_66 {d : Nat} {ls : mj_L} {st : List Value} {M : mj_H} : mj_Rn d mj_m375 66 ls st M = mq_k6 M (mj_re (some .boolean) (.ireturn) st) := mj_R6 (r := (.ireturn, 1, 0, 0, 0)) rfl rfl
/- 376 PasskeyHouseModel.isSigned(IIII)Z -/
theorem s376_0 {d : Nat} {ls : mj_L} {st : List Value} {M : mj_H} : mj_Rn d mj_m376 0 ls st M = mq_k0 d mj_m376 1 ls M (mj_lda (mj_lk ls 0) st) := mj_R0 (r := (.aload_n 0, 1, 0, 0, 0)) rfl rfl
theorem s376_1 {d : Nat} {ls : mj_L} {st : List Value} {M : mj_H} : mj_Rn d mj_m376 1 ls st M = mj_Rn d mj_m376 3 ls (.int 7 :: st) M := mj_R0 (r := (.bipush 7, 2, 0, 0, 0)) rfl rfl
theorem s376_3 {d : Nat} {ls : mj_L} {st : List Value} {M : mj_H} : mj_Rn (d + 1) mj_m376 3 ls st M = mq_k5a (d + 1) mj_m376 6 ls M 242 (mq_cb 0 1 11 st M) := mj_R5e (r := (.invokevirtual 279, 3, 0, 242, 32824)) (z := mj_m242) rfl rfl (by decide) (by decide) rfl
theorem s376_6 {d : Nat} {ls : mj_L} {st : List Value} {M : mj_H} : mj_Rn d mj_m376 6 ls st M = mq_k0 d mj_m376 7 ls M (mj_lda (mj_lk ls 0) st) := mj_R0 (r := (.aload_n 0, 1, 0, 0, 0)) rfl rfl
theorem s376_7 {d : Nat} {ls : mj_L} {st : List Value} {M : mj_H} : mj_Rn d mj_m376 7 ls st M = mq_k0 d mj_m376 8 ls M (mj_lda (mj_lk ls 0) st) := mj_R0 (r := (.aload_n 0, 1, 0, 0, 0)) rfl rfl
theorem s376_8 {d : Nat} {ls : mj_L} {st : List Value} {M : mj_H} : mj_Rn d mj_m376 8 ls st M = mq_k0 d mj_m376 11 ls M (mq_gf 11 10 st M) := (mj_R3 (r := (.getfield 27, 3, 11, 10, 49616)) rfl rfl).trans (congrArg (mq_k0 d mj_m376 11 ls M) mq_gf_eq)
theorem s376_11 {d : Nat} {ls : mj_L} {st : List Value} {M : mj_H} : mj_Rn d mj_m376 11 ls st M = mj_Rn d mj_m376 12 ls (.int 0 :: st) M := mj_R0 (r := (.iconst 0, 1, 0, 0, 0)) rfl rfl
theorem s376_12 {d : Nat} {ls : mj_L} {st : List Value} {M : mj_H} : mj_Rn d mj_m376 12 ls st M = mj_Rn d mj_m376 13 ls (.int 5 :: st) M := mj_R0 (r := (.iconst 5, 1, 0, 0, 0)) rfl rfl
theorem s376_13 {d : Nat} {ls : mj_L} {st : List Value} {M : mj_H} : mj_Rn (d + 1) mj_m376 13 ls st M = mq_k5a (d + 1) mj_m376 16 ls M 289 (mq_cb 0 3 11 st M) := mj_R5e (r := (.invokevirtual 447, 3, 0, 289, 33007)) (z := mj_m289) rfl rfl (by decide) (by decide) rfl
theorem s376_16 {d : Nat} {ls : mj_L} {st : List Value} {M : mj_H} : mj_Rn d mj_m376 16 ls st M = mq_k0 d mj_m376 17 ls M (mj_lda (mj_lk ls 0) st) := mj_R0 (r := (.aload_n 0, 1, 0, 0, 0)) rfl rfl
theorem s376_17 {d : Nat} {ls : mj_L} {st : List Value} {M : mj_H} : mj_Rn d mj_m376 17 ls st M = mq_k0 d mj_m376 18 ls M (mj_lda (mj_lk ls 0) st) := mj_R0 (r := (.aload_n 0, 1, 0, 0, 0)) rfl rfl
theorem s376_18 {d : Nat} {ls : mj_L} {st : List Value} {M : mj_H} : mj_Rn d mj_m376 18 ls st M = mq_k0 d mj_m376 21 ls M (mq_gf 11 10 st M) := (mj_R3 (r := (.getfield 27, 3, 11, 10, 49616)) rfl rfl).trans (congrArg (mq_k0 d mj_m376 21 ls M) mq_gf_eq)
theorem s376_21 {d : Nat} {ls : mj_L} {st : List Value} {M : mj_H} : mj_Rn d mj_m376 21 ls st M = mj_Rn d mj_m376 23 ls (.int 6 :: st) M := mj_R0 (r := (.bipush 6, 2, 0, 0, 0)) rfl rfl
theorem s376_23 {d : Nat} {ls : mj_L} {st : List Value} {M : mj_H} : mj_Rn d mj_m376 23 ls st M = mq_k0 d mj_m376 24 ls M (mj_lda (mj_lk ls 0) st) := mj_R0 (r := (.aload_n 0, 1, 0, 0, 0)) rfl rfl
theorem s376_24 {d : Nat} {ls : mj_L} {st : List Value} {M : mj_H} : mj_Rn d mj_m376 24 ls st M = mq_k0 d mj_m376 27 ls M (mq_gf 11 10 st M) := (mj_R3 (r := (.getfield 27, 3, 11, 10, 49616)) rfl rfl).trans (congrArg (mq_k0 d mj_m376 27 ls M) mq_gf_eq)
theorem s376_27 {d : Nat} {ls : mj_L} {st : List Value} {M : mj_H} : mj_Rn d mj_m376 27 ls st M = mj_Rn d mj_m376 28 ls (.int 5 :: st) M := mj_R0 (r := (.iconst 5, 1, 0, 0, 0)) rfl rfl
theorem s376_28 {d : Nat} {ls : mj_L} {st : List Value} {M : mj_H} : mj_Rn d mj_m376 28 ls st M = mq_k0 d mj_m376 29 ls M (mq_al [1000] st M) := (mj_R3 (r := (.iaload, 1, 0, 0, 0)) rfl rfl).trans (congrArg (mq_k0 d mj_m376 29 ls M) mq_ali_eq)
theorem s376_29 {d : Nat} {ls : mj_L} {st : List Value} {M : mj_H} : mj_Rn (d + 1) mj_m376 29 ls st M = mq_k5a (d + 1) mj_m376 32 ls M 289 (mq_cb 0 3 11 st M) := mj_R5e (r := (.invokevirtual 447, 3, 0, 289, 33007)) (z := mj_m289) rfl rfl (by decide) (by decide) rfl
theorem s376_32 {d : Nat} {ls : mj_L} {st : List Value} {M : mj_H} : mj_Rn d mj_m376 32 ls st M = mq_k0 d mj_m376 33 ls M (mj_lda (mj_lk ls 0) st) := mj_R0 (r := (.aload_n 0, 1, 0, 0, 0)) rfl rfl
theorem s376_33 {d : Nat} {ls : mj_L} {st : List Value} {M : mj_H} : mj_Rn (d + 1) mj_m376 33 ls st M = mq_k5a (d + 1) mj_m376 36 ls M 245 (mq_cb 0 0 11 st M) := mj_R5e (r := (.invokevirtual 266, 3, 0, 245, 32836)) (z := mj_m245) rfl rfl (by decide) (by decide) rfl
theorem s376_36 {d : Nat} {ls : mj_L} {st : List Value} {M : mj_H} : mj_Rn d mj_m376 36 ls st M = mq_k1 d mj_m376 38 M (mj_lo 7 (.istore 5) ls st) := mj_R1 (r := (.istore 5, 2, 0, 0, 0)) rfl rfl
theorem s376_38 {d : Nat} {ls : mj_L} {st : List Value} {M : mj_H} : mj_Rn d mj_m376 38 ls st M = mq_k0 d mj_m376 40 ls M (mj_ldi (mj_lk ls 5) st) := mj_R0 (r := (.iload 5, 2, 0, 0, 0)) rfl rfl
theorem s376_40 {d : Nat} {ls : mj_L} {st : List Value} {M : mj_H} : mj_Rn d mj_m376 40 ls st M = mq_k2 d mj_m376 ls M (mj_br (.ifCond .ne 5) 40 st) := mj_R2 (r := (.ifCond .ne 5, 3, 0, 0, 0)) rfl rfl
theorem s376_43 {d : Nat} {ls : mj_L} {st : List Value} {M : mj_H} : mj_Rn d mj_m376 43 ls st M = mj_Rn d mj_m376 44 ls (.int 0 :: st) M := mj_R0 (r := (.iconst 0, 1, 0, 0, 0)) rfl rfl
theorem s376_44 {d : Nat} {ls : mj_L} {st : List Value} {M : mj_H} : mj_Rn d mj_m376 44 ls st M = mq_k6 M (mj_re (some .boolean) (.ireturn) st) := mj_R6 (r := (.ireturn, 1, 0, 0, 0)) rfl rfl
theorem s376_45 {d : Nat} {ls : mj_L} {st : List Value} {M : mj_H} : mj_Rn d mj_m376 45 ls st M = mq_k0 d mj_m376 46 ls M (mj_lda (mj_lk ls 0) st) := mj_R0 (r := (.aload_n 0, 1, 0, 0, 0)) rfl rfl
theorem s376_46 {d : Nat} {ls : mj_L} {st : List Value} {M : mj_H} : mj_Rn d mj_m376 46 ls st M = mj_Rn d mj_m376 48 ls (.int 6 :: st) M := mj_R0 (r := (.bipush 6, 2, 0, 0, 0)) rfl rfl
theorem s376_48 {d : Nat} {ls : mj_L} {st : List Value} {M : mj_H} : mj_Rn (d + 1) mj_m376 48 ls st M = mq_k5a (d + 1) mj_m376 51 ls M 242 (mq_cb 0 1 11 st M) := mj_R5e (r := (.invokevirtual 279, 3, 0, 242, 32824)) (z := mj_m242) rfl rfl (by decide) (by decide) rfl
theorem s376_51 {d : Nat} {ls : mj_L} {st : List Value} {M : mj_H} : mj_Rn d mj_m376 51 ls st M = mq_k0 d mj_m376 52 ls M (mj_lda (mj_lk ls 0) st) := mj_R0 (r := (.aload_n 0, 1, 0, 0, 0)) rfl rfl
theorem s376_52 {d : Nat} {ls : mj_L} {st : List Value} {M : mj_H} : mj_Rn d mj_m376 52 ls st M = mq_k0 d mj_m376 53 ls M (mj_lda (mj_lk ls 0) st) := mj_R0 (r := (.aload_n 0, 1, 0, 0, 0)) rfl rfl
theorem s376_53 {d : Nat} {ls : mj_L} {st : List Value} {M : mj_H} : mj_Rn d mj_m376 53 ls st M = mq_k0 d mj_m376 54 ls M (mj_ldi (mj_lk ls 2) st) := mj_R0 (r := (.iload_n 2, 1, 0, 0, 0)) rfl rfl
theorem s376_54 {d : Nat} {ls : mj_L} {st : List Value} {M : mj_H} : mj_Rn d mj_m376 54 ls st M = mj_Rn d mj_m376 55 ls (.int 1 :: st) M := mj_R0 (r := (.iconst 1, 1, 0, 0, 0)) rfl rfl
theorem s376_55 {d : Nat} {ls : mj_L} {st : List Value} {M : mj_H} : mj_Rn (d + 1) mj_m376 55 ls st M = mq_k5a (d + 1) mj_m376 58 ls M 234 (mq_cb 0 2 11 st M) := mj_R5e (r := (.invokevirtual 300, 3, 0, 234, 32791)) (z := mj_m234) rfl rfl (by decide) (by decide) rfl
theorem s376_58 {d : Nat} {ls : mj_L} {st : List Value} {M : mj_H} : mj_Rn (d + 1) mj_m376 58 ls st M = mq_k5a (d + 1) mj_m376 61 ls M 243 (mq_cb 0 1 11 st M) := mj_R5e (r := (.invokevirtual 258, 3, 0, 243, 32828)) (z := mj_m243) rfl rfl (by decide) (by decide) rfl
theorem s376_61 {d : Nat} {ls : mj_L} {st : List Value} {M : mj_H} : mj_Rn d mj_m376 61 ls st M = mq_k0 d mj_m376 62 ls M (mj_lda (mj_lk ls 0) st) := mj_R0 (r := (.aload_n 0, 1, 0, 0, 0)) rfl rfl
theorem s376_62 {d : Nat} {ls : mj_L} {st : List Value} {M : mj_H} : mj_Rn d mj_m376 62 ls st M = mq_k0 d mj_m376 63 ls M (mj_lda (mj_lk ls 0) st) := mj_R0 (r := (.aload_n 0, 1, 0, 0, 0)) rfl rfl
theorem s376_63 {d : Nat} {ls : mj_L} {st : List Value} {M : mj_H} : mj_Rn d mj_m376 63 ls st M = mq_k0 d mj_m376 66 ls M (mq_gf 11 10 st M) := (mj_R3 (r := (.getfield 27, 3, 11, 10, 49616)) rfl rfl).trans (congrArg (mq_k0 d mj_m376 66 ls M) mq_gf_eq)
theorem s376_66 {d : Nat} {ls : mj_L} {st : List Value} {M : mj_H} : mj_Rn d mj_m376 66 ls st M = mq_k0 d mj_m376 67 ls M (mj_ldi (mj_lk ls 3) st) := mj_R0 (r := (.iload_n 3, 1, 0, 0, 0)) rfl rfl
theorem s376_67 {d : Nat} {ls : mj_L} {st : List Value} {M : mj_H} : mj_Rn d mj_m376 67 ls st M = mq_k0 d mj_m376 69 ls M (mj_ldi (mj_lk ls 4) st) := mj_R0 (r := (.iload 4, 2, 0, 0, 0)) rfl rfl
theorem s376_69 {d : Nat} {ls : mj_L} {st : List Value} {M : mj_H} : mj_Rn (d + 1) mj_m376 69 ls st M = mq_k5a (d + 1) mj_m376 72 ls M 289 (mq_cb 0 3 11 st M) := mj_R5e (r := (.invokevirtual 447, 3, 0, 289, 33007)) (z := mj_m289) rfl rfl (by decide) (by decide) rfl
theorem s376_72 {d : Nat} {ls : mj_L} {st : List Value} {M : mj_H} : mj_Rn d mj_m376 72 ls st M = mq_k0 d mj_m376 73 ls M (mj_lda (mj_lk ls 0) st) := mj_R0 (r := (.aload_n 0, 1, 0, 0, 0)) rfl rfl
theorem s376_73 {d : Nat} {ls : mj_L} {st : List Value} {M : mj_H} : mj_Rn d mj_m376 73 ls st M = mq_k0 d mj_m376 75 ls M (mj_ldi (mj_lk ls 5) st) := mj_R0 (r := (.iload 5, 2, 0, 0, 0)) rfl rfl
theorem s376_75 {d : Nat} {ls : mj_L} {st : List Value} {M : mj_H} : mj_Rn (d + 1) mj_m376 75 ls st M = mq_k5a (d + 1) mj_m376 78 ls M 290 (mq_cb 0 1 11 st M) := mj_R5e (r := (.invokevirtual 532, 3, 0, 290, 36867)) (z := mj_m290) rfl rfl (by decide) (by decide) rfl
theorem s376_78 {d : Nat} {ls : mj_L} {st : List Value} {M : mj_H} : mj_Rn d mj_m376 78 ls st M = mq_k0 d mj_m376 79 ls M (mj_lda (mj_lk ls 0) st) := mj_R0 (r := (.aload_n 0, 1, 0, 0, 0)) rfl rfl
theorem s376_79 {d : Nat} {ls : mj_L} {st : List Value} {M : mj_H} : mj_Rn (d + 1) mj_m376 79 ls st M = mq_k5a (d + 1) mj_m376 82 ls M 245 (mq_cb 0 0 11 st M) := mj_R5e (r := (.invokevirtual 266, 3, 0, 245, 32836)) (z := mj_m245) rfl rfl (by decide) (by decide) rfl
theorem s376_82 {d : Nat} {ls : mj_L} {st : List Value} {M : mj_H} : mj_Rn d mj_m376 82 ls st M = mq_k1 d mj_m376 84 M (mj_lo 7 (.istore 6) ls st) := mj_R1 (r := (.istore 6, 2, 0, 0, 0)) rfl rfl
theorem s376_84 {d : Nat} {ls : mj_L} {st : List Value} {M : mj_H} : mj_Rn d mj_m376 84 ls st M = mq_k0 d mj_m376 86 ls M (mj_ldi (mj_lk ls 6) st) := mj_R0 (r := (.iload 6, 2, 0, 0, 0)) rfl rfl
theorem s376_86 {d : Nat} {ls : mj_L} {st : List Value} {M : mj_H} : mj_Rn d mj_m376 86 ls st M = mq_k2 d mj_m376 ls M (mj_br (.ifCond .eq 13) 86 st) := mj_R2 (r := (.ifCond .eq 13, 3, 0, 0, 0)) rfl rfl
theorem s376_89 {d : Nat} {ls : mj_L} {st : List Value} {M : mj_H} : mj_Rn d mj_m376 89 ls st M = mq_k0 d mj_m376 91 ls M (mj_ldi (mj_lk ls 6) st) := mj_R0 (r := (.iload 6, 2, 0, 0, 0)) rfl rfl
theorem s376_91 {d : Nat} {ls : mj_L} {st : List Value} {M : mj_H} : mj_Rn d mj_m376 91 ls st M = mq_k0 d mj_m376 92 ls M (mj_ldi (mj_lk ls 1) st) := mj_R0 (r := (.iload_n 1, 1, 0, 0, 0)) rfl rfl
theorem s376_92 {d : Nat} {ls : mj_L} {st : List Value} {M : mj_H} : mj_Rn d mj_m376 92 ls st M = mq_k2 d mj_m376 ls M (mj_br (.if_icmp .ne 7) 92 st) := mj_R2 (r := (.if_icmp .ne 7, 3, 0, 0, 0)) rfl rfl
theorem s376_95 {d : Nat} {ls : mj_L} {st : List Value} {M : mj_H} : mj_Rn d mj_m376 95 ls st M = mj_Rn d mj_m376 96 ls (.int 1 :: st) M := mj_R0 (r := (.iconst 1, 1, 0, 0, 0)) rfl rfl
theorem s376_96 {d : Nat} {ls : mj_L} {st : List Value} {M : mj_H} : mj_Rn d mj_m376 96 ls st M = mj_Rn d mj_m376 100 ls st M := mj_R2 (r := (.goto 4, 3, 0, 0, 0)) rfl rfl
theorem s376_99 {d : Nat} {ls : mj_L} {st : List Value} {M : mj_H} : mj_Rn d mj_m376 99 ls st M = mj_Rn d mj_m376 100 ls (.int 0 :: st) M := mj_R0 (r := (.iconst 0, 1, 0, 0, 0)) rfl rfl
theorem s376_100 {d : Nat} {ls : mj_L} {st : List Value} {M : mj_H} : mj_Rn d mj_m376 100 ls st M = mq_k6 M (mj_re (some .boolean) (.ireturn) st) := mj_R6 (r := (.ireturn, 1, 0, 0, 0)) rfl rfl
/- 374 PasskeyHouseModel.entered(IIII)I -/
theorem s374_0 {d : Nat} {ls : mj_L} {st : List Value} {M : mj_H} : mj_Rn d mj_m374 0 ls st M = mj_Rn d mj_m374 2 ls (.int 8 :: st) M := mj_R0 (r := (.bipush 8, 2, 0, 0, 0)) rfl rfl
theorem s374_2 {d : Nat} {ls : mj_L} {st : List Value} {M : mj_H} : mj_Rn d mj_m374 2 ls st M = mq_k0 d mj_m374 3 ls M (mj_ldi (mj_lk ls 1) st) := mj_R0 (r := (.iload_n 1, 1, 0, 0, 0)) rfl rfl
theorem s374_3 {d : Nat} {ls : mj_L} {st : List Value} {M : mj_H} : mj_Rn d mj_m374 3 ls st M = mq_k0 d mj_m374 4 ls M (mj_pu .imul ls st) := mj_R0 (r := (.imul, 1, 0, 0, 0)) rfl rfl
theorem s374_4 {d : Nat} {ls : mj_L} {st : List Value} {M : mj_H} : mj_Rn d mj_m374 4 ls st M = mq_k1 d mj_m374 6 M (mj_lo 9 (.istore 5) ls st) := mj_R1 (r := (.istore 5, 2, 0, 0, 0)) rfl rfl
theorem s374_6 {d : Nat} {ls : mj_L} {st : List Value} {M : mj_H} : mj_Rn d mj_m374 6 ls st M = mq_k0 d mj_m374 8 ls M (mj_ldi (mj_lk ls 5) st) := mj_R0 (r := (.iload 5, 2, 0, 0, 0)) rfl rfl
theorem s374_8 {d : Nat} {ls : mj_L} {st : List Value} {M : mj_H} : mj_Rn d mj_m374 8 ls st M = mq_k0 d mj_m374 9 ls M (mj_lda (mj_lk ls 0) st) := mj_R0 (r := (.aload_n 0, 1, 0, 0, 0)) rfl rfl
theorem s374_9 {d : Nat} {ls : mj_L} {st : List Value} {M : mj_H} : mj_Rn d mj_m374 9 ls st M = mq_k0 d mj_m374 12 ls M (mq_gf 11 79 st M) := (mj_R3 (r := (.getfield 218, 3, 11, 79, 57466)) rfl rfl).trans (congrArg (mq_k0 d mj_m374 12 ls M) mq_gf_eq)
theorem s374_12 {d : Nat} {ls : mj_L} {st : List Value} {M : mj_H} : mj_Rn d mj_m374 12 ls st M = mq_k0 d mj_m374 13 ls M (mj_ldi (mj_lk ls 1) st) := mj_R0 (r := (.iload_n 1, 1, 0, 0, 0)) rfl rfl
theorem s374_13 {d : Nat} {ls : mj_L} {st : List Value} {M : mj_H} : mj_Rn d mj_m374 13 ls st M = mq_k0 d mj_m374 14 ls M (mq_al [1000] st M) := (mj_R3 (r := (.iaload, 1, 0, 0, 0)) rfl rfl).trans (congrArg (mq_k0 d mj_m374 14 ls M) mq_ali_eq)
theorem s374_14 {d : Nat} {ls : mj_L} {st : List Value} {M : mj_H} : mj_Rn d mj_m374 14 ls st M = mq_k0 d mj_m374 15 ls M (mj_pu .iadd ls st) := mj_R0 (r := (.iadd, 1, 0, 0, 0)) rfl rfl
theorem s374_15 {d : Nat} {ls : mj_L} {st : List Value} {M : mj_H} : mj_Rn d mj_m374 15 ls st M = mq_k1 d mj_m374 17 M (mj_lo 9 (.istore 6) ls st) := mj_R1 (r := (.istore 6, 2, 0, 0, 0)) rfl rfl
theorem s374_17 {d : Nat} {ls : mj_L} {st : List Value} {M : mj_H} : mj_Rn d mj_m374 17 ls st M = mq_k0 d mj_m374 19 ls M (mj_ldi (mj_lk ls 5) st) := mj_R0 (r := (.iload 5, 2, 0, 0, 0)) rfl rfl
theorem s374_19 {d : Nat} {ls : mj_L} {st : List Value} {M : mj_H} : mj_Rn d mj_m374 19 ls st M = mq_k0 d mj_m374 21 ls M (mj_ldi (mj_lk ls 6) st) := mj_R0 (r := (.iload 6, 2, 0, 0, 0)) rfl rfl
theorem s374_21 {d : Nat} {ls : mj_L} {st : List Value} {M : mj_H} : mj_Rn d mj_m374 21 ls st M = mq_k2 d mj_m374 ls M (mj_br (.if_icmp .ge 29) 21 st) := mj_R2 (r := (.if_icmp .ge 29, 3, 0, 0, 0)) rfl rfl
theorem s374_24 {d : Nat} {ls : mj_L} {st : List Value} {M : mj_H} : mj_Rn d mj_m374 24 ls st M = mq_k0 d mj_m374 25 ls M (mj_lda (mj_lk ls 0) st) := mj_R0 (r := (.aload_n 0, 1, 0, 0, 0)) rfl rfl
theorem s374_25 {d : Nat} {ls : mj_L} {st : List Value} {M : mj_H} : mj_Rn d mj_m374 25 ls st M = mq_k0 d mj_m374 28 ls M (mq_gf 11 80 st M) := (mj_R3 (r := (.getfield 221, 3, 11, 80, 57468)) rfl rfl).trans (congrArg (mq_k0 d mj_m374 28 ls M) mq_gf_eq)
theorem s374_28 {d : Nat} {ls : mj_L} {st : List Value} {M : mj_H} : mj_Rn d mj_m374 28 ls st M = mq_k0 d mj_m374 30 ls M (mj_ldi (mj_lk ls 5) st) := mj_R0 (r := (.iload 5, 2, 0, 0, 0)) rfl rfl
theorem s374_30 {d : Nat} {ls : mj_L} {st : List Value} {M : mj_H} : mj_Rn d mj_m374 30 ls st M = mq_k0 d mj_m374 31 ls M (mq_al [1000] st M) := (mj_R3 (r := (.iaload, 1, 0, 0, 0)) rfl rfl).trans (congrArg (mq_k0 d mj_m374 31 ls M) mq_ali_eq)
theorem s374_31 {d : Nat} {ls : mj_L} {st : List Value} {M : mj_H} : mj_Rn d mj_m374 31 ls st M = mq_k0 d mj_m374 32 ls M (mj_ldi (mj_lk ls 2) st) := mj_R0 (r := (.iload_n 2, 1, 0, 0, 0)) rfl rfl
theorem s374_32 {d : Nat} {ls : mj_L} {st : List Value} {M : mj_H} : mj_Rn d mj_m374 32 ls st M = mq_k2 d mj_m374 ls M (mj_br (.if_icmp .ne 12) 32 st) := mj_R2 (r := (.if_icmp .ne 12, 3, 0, 0, 0)) rfl rfl
theorem s374_35 {d : Nat} {ls : mj_L} {st : List Value} {M : mj_H} : mj_Rn d mj_m374 35 ls st M = mq_k0 d mj_m374 36 ls M (mj_lda (mj_lk ls 0) st) := mj_R0 (r := (.aload_n 0, 1, 0, 0, 0)) rfl rfl
theorem s374_36 {d : Nat} {ls : mj_L} {st : List Value} {M : mj_H} : mj_Rn d mj_m374 36 ls st M = mq_k0 d mj_m374 38 ls M (mj_ldi (mj_lk ls 5) st) := mj_R0 (r := (.iload 5, 2, 0, 0, 0)) rfl rfl
theorem s374_38 {d : Nat} {ls : mj_L} {st : List Value} {M : mj_H} : mj_Rn (d + 1) mj_m374 38 ls st M = mq_k5a (d + 1) mj_m374 41 ls M 375 (mq_cb 0 1 11 st M) := mj_R5e (r := (.invokevirtual 687, 3, 0, 375, 41068)) (z := mj_m375) rfl rfl (by decide) (by decide) rfl
theorem s374_41 {d : Nat} {ls : mj_L} {st : List Value} {M : mj_H} : mj_Rn d mj_m374 41 ls st M = mq_k2 d mj_m374 ls M (mj_br (.ifCond .ne 9) 41 st) := mj_R2 (r := (.ifCond .ne 9, 3, 0, 0, 0)) rfl rfl
theorem s374_44 {d : Nat} {ls : mj_L} {st : List Value} {M : mj_H} : mj_Rn d mj_m374 44 ls st M = mq_k1 d mj_m374 47 M (mj_lo 9 (.iinc 5 1) ls st) := mj_R1 (r := (.iinc 5 1, 3, 0, 0, 0)) rfl rfl
theorem s374_47 {d : Nat} {ls : mj_L} {st : List Value} {M : mj_H} : mj_Rn d mj_m374 47 ls st M = mj_Rn d mj_m374 17 ls st M := mj_R2 (r := (.goto (-30), 3, 0, 0, 0)) rfl rfl
theorem s374_50 {d : Nat} {ls : mj_L} {st : List Value} {M : mj_H} : mj_Rn d mj_m374 50 ls st M = mq_k0 d mj_m374 52 ls M (mj_ldi (mj_lk ls 5) st) := mj_R0 (r := (.iload 5, 2, 0, 0, 0)) rfl rfl
theorem s374_52 {d : Nat} {ls : mj_L} {st : List Value} {M : mj_H} : mj_Rn d mj_m374 52 ls st M = mq_k0 d mj_m374 54 ls M (mj_ldi (mj_lk ls 6) st) := mj_R0 (r := (.iload 6, 2, 0, 0, 0)) rfl rfl
theorem s374_54 {d : Nat} {ls : mj_L} {st : List Value} {M : mj_H} : mj_Rn d mj_m374 54 ls st M = mq_k2 d mj_m374 ls M (mj_br (.if_icmp .ne 6) 54 st) := mj_R2 (r := (.if_icmp .ne 6, 3, 0, 0, 0)) rfl rfl
theorem s374_57 {d : Nat} {ls : mj_L} {st : List Value} {M : mj_H} : mj_Rn d mj_m374 57 ls st M = mj_Rn d mj_m374 59 ls (.int 11 :: st) M := mj_R0 (r := (.bipush 11, 2, 0, 0, 0)) rfl rfl
theorem s374_59 {d : Nat} {ls : mj_L} {st : List Value} {M : mj_H} : mj_Rn d mj_m374 59 ls st M = mq_k6 M (mj_re (some .int) (.ireturn) st) := mj_R6 (r := (.ireturn, 1, 0, 0, 0)) rfl rfl
theorem s374_60 {d : Nat} {ls : mj_L} {st : List Value} {M : mj_H} : mj_Rn d mj_m374 60 ls st M = mq_k0 d mj_m374 61 ls M (mj_lda (mj_lk ls 0) st) := mj_R0 (r := (.aload_n 0, 1, 0, 0, 0)) rfl rfl
theorem s374_61 {d : Nat} {ls : mj_L} {st : List Value} {M : mj_H} : mj_Rn d mj_m374 61 ls st M = mq_k0 d mj_m374 63 ls M (mj_ldi (mj_lk ls 4) st) := mj_R0 (r := (.iload 4, 2, 0, 0, 0)) rfl rfl
theorem s374_63 {d : Nat} {ls : mj_L} {st : List Value} {M : mj_H} : mj_Rn d mj_m374 63 ls st M = mq_k0 d mj_m374 64 ls M (mj_lda (mj_lk ls 0) st) := mj_R0 (r := (.aload_n 0, 1, 0, 0, 0)) rfl rfl
theorem s374_64 {d : Nat} {ls : mj_L} {st : List Value} {M : mj_H} : mj_Rn d mj_m374 64 ls st M = mq_k0 d mj_m374 67 ls M (mq_gf 11 81 st M) := (mj_R3 (r := (.getfield 224, 3, 11, 81, 57470)) rfl rfl).trans (congrArg (mq_k0 d mj_m374 67 ls M) mq_gf_eq)
theorem s374_67 {d : Nat} {ls : mj_L} {st : List Value} {M : mj_H} : mj_Rn d mj_m374 67 ls st M = mq_k0 d mj_m374 69 ls M (mj_ldi (mj_lk ls 5) st) := mj_R0 (r := (.iload 5, 2, 0, 0, 0)) rfl rfl
theorem s374_69 {d : Nat} {ls : mj_L} {st : List Value} {M : mj_H} : mj_Rn d mj_m374 69 ls st M = mq_k0 d mj_m374 70 ls M (mq_al [1000] st M) := (mj_R3 (r := (.iaload, 1, 0, 0, 0)) rfl rfl).trans (congrArg (mq_k0 d mj_m374 70 ls M) mq_ali_eq)
theorem s374_70 {d : Nat} {ls : mj_L} {st : List Value} {M : mj_H} : mj_Rn d mj_m374 70 ls st M = mq_k0 d mj_m374 71 ls M (mj_ldi (mj_lk ls 3) st) := mj_R0 (r := (.iload_n 3, 1, 0, 0, 0)) rfl rfl
theorem s374_71 {d : Nat} {ls : mj_L} {st : List Value} {M : mj_H} : mj_Rn d mj_m374 71 ls st M = mj_Rn d mj_m374 73 ls (.int 9 :: st) M := mj_R0 (r := (.bipush 9, 2, 0, 0, 0)) rfl rfl
theorem s374_73 {d : Nat} {ls : mj_L} {st : List Value} {M : mj_H} : mj_Rn (d + 1) mj_m374 73 ls st M = mq_k5a (d + 1) mj_m374 76 ls M 376 (mq_cb 0 4 11 st M) := mj_R5e (r := (.invokevirtual 684, 3, 0, 376, 41072)) (z := mj_m376) rfl rfl (by decide) (by decide) rfl
theorem s374_76 {d : Nat} {ls : mj_L} {st : List Value} {M : mj_H} : mj_Rn d mj_m374 76 ls st M = mq_k2 d mj_m374 ls M (mj_br (.ifCond .ne 6) 76 st) := mj_R2 (r := (.ifCond .ne 6, 3, 0, 0, 0)) rfl rfl
theorem s374_79 {d : Nat} {ls : mj_L} {st : List Value} {M : mj_H} : mj_Rn d mj_m374 79 ls st M = mj_Rn d mj_m374 81 ls (.int 8 :: st) M := mj_R0 (r := (.bipush 8, 2, 0, 0, 0)) rfl rfl
theorem s374_81 {d : Nat} {ls : mj_L} {st : List Value} {M : mj_H} : mj_Rn d mj_m374 81 ls st M = mq_k6 M (mj_re (some .int) (.ireturn) st) := mj_R6 (r := (.ireturn, 1, 0, 0, 0)) rfl rfl
theorem s374_82 {d : Nat} {ls : mj_L} {st : List Value} {M : mj_H} : mj_Rn d mj_m374 82 ls st M = mq_k0 d mj_m374 83 ls M (mj_lda (mj_lk ls 0) st) := mj_R0 (r := (.aload_n 0, 1, 0, 0, 0)) rfl rfl
theorem s374_83 {d : Nat} {ls : mj_L} {st : List Value} {M : mj_H} : mj_Rn d mj_m374 83 ls st M = mq_k0 d mj_m374 86 ls M (mq_gf 11 10 st M) := (mj_R3 (r := (.getfield 27, 3, 11, 10, 49616)) rfl rfl).trans (congrArg (mq_k0 d mj_m374 86 ls M) mq_gf_eq)
theorem s374_86 {d : Nat} {ls : mj_L} {st : List Value} {M : mj_H} : mj_Rn d mj_m374 86 ls st M = mq_k0 d mj_m374 87 ls M (mj_ldi (mj_lk ls 3) st) := mj_R0 (r := (.iload_n 3, 1, 0, 0, 0)) rfl rfl
theorem s374_87 {d : Nat} {ls : mj_L} {st : List Value} {M : mj_H} : mj_Rn d mj_m374 87 ls st M = mj_Rn d mj_m374 88 ls (.int 5 :: st) M := mj_R0 (r := (.iconst 5, 1, 0, 0, 0)) rfl rfl
theorem s374_88 {d : Nat} {ls : mj_L} {st : List Value} {M : mj_H} : mj_Rn d mj_m374 88 ls st M = mq_k0 d mj_m374 89 ls M (mj_pu .iadd ls st) := mj_R0 (r := (.iadd, 1, 0, 0, 0)) rfl rfl
theorem s374_89 {d : Nat} {ls : mj_L} {st : List Value} {M : mj_H} : mj_Rn (d + 1) mj_m374 89 ls st M = mq_k5a (d + 1) mj_m374 92 ls M 257 (mq_cb 2 2 11 st M) := mj_R5e (r := (.invokestatic 364, 3, 2, 257, 32881)) (z := mj_m257) rfl rfl (by decide) (by decide) rfl
theorem s374_92 {d : Nat} {ls : mj_L} {st : List Value} {M : mj_H} : mj_Rn d mj_m374 92 ls st M = mq_k1 d mj_m374 94 M (mj_lo 9 (.istore 7) ls st) := mj_R1 (r := (.istore 7, 2, 0, 0, 0)) rfl rfl
theorem s374_94 {d : Nat} {ls : mj_L} {st : List Value} {M : mj_H} : mj_Rn d mj_m374 94 ls st M = mq_k0 d mj_m374 96 ls M (mj_ldi (mj_lk ls 7) st) := mj_R0 (r := (.iload 7, 2, 0, 0, 0)) rfl rfl
theorem s374_96 {d : Nat} {ls : mj_L} {st : List Value} {M : mj_H} : mj_Rn d mj_m374 96 ls st M = mq_k0 d mj_m374 97 ls M (mj_pu .i2l ls st) := mj_R0 (r := (.i2l, 1, 0, 0, 0)) rfl rfl
theorem s374_97 {d : Nat} {ls : mj_L} {st : List Value} {M : mj_H} : mj_Rn d mj_m374 97 ls st M = mj_Rn d mj_m374 100 ls (.long 4294967295 :: st) M := mj_R3 (r := (.ldc2_w 690, 3, 1, 19, 41076)) rfl rfl
theorem s374_100 {d : Nat} {ls : mj_L} {st : List Value} {M : mj_H} : mj_Rn d mj_m374 100 ls st M = mq_k0 d mj_m374 101 ls M (mj_pu .land ls st) := mj_R0 (r := (.land, 1, 0, 0, 0)) rfl rfl
theorem s374_101 {d : Nat} {ls : mj_L} {st : List Value} {M : mj_H} : mj_Rn d mj_m374 101 ls st M = mq_k0 d mj_m374 102 ls M (mj_lda (mj_lk ls 0) st) := mj_R0 (r := (.aload_n 0, 1, 0, 0, 0)) rfl rfl
theorem s374_102 {d : Nat} {ls : mj_L} {st : List Value} {M : mj_H} : mj_Rn d mj_m374 102 ls st M = mq_k0 d mj_m374 105 ls M (mq_gf 11 82 st M) := (mj_R3 (r := (.getfield 227, 3, 11, 82, 57472)) rfl rfl).trans (congrArg (mq_k0 d mj_m374 105 ls M) mq_gf_eq)
theorem s374_105 {d : Nat} {ls : mj_L} {st : List Value} {M : mj_H} : mj_Rn d mj_m374 105 ls st M = mq_k0 d mj_m374 107 ls M (mj_ldi (mj_lk ls 5) st) := mj_R0 (r := (.iload 5, 2, 0, 0, 0)) rfl rfl
theorem s374_107 {d : Nat} {ls : mj_L} {st : List Value} {M : mj_H} : mj_Rn d mj_m374 107 ls st M = mq_k0 d mj_m374 108 ls M (mq_al [1000] st M) := (mj_R3 (r := (.iaload, 1, 0, 0, 0)) rfl rfl).trans (congrArg (mq_k0 d mj_m374 108 ls M) mq_ali_eq)
theorem s374_108 {d : Nat} {ls : mj_L} {st : List Value} {M : mj_H} : mj_Rn d mj_m374 108 ls st M = mq_k0 d mj_m374 109 ls M (mj_pu .i2l ls st) := mj_R0 (r := (.i2l, 1, 0, 0, 0)) rfl rfl
theorem s374_109 {d : Nat} {ls : mj_L} {st : List Value} {M : mj_H} : mj_Rn d mj_m374 109 ls st M = mj_Rn d mj_m374 112 ls (.long 4294967295 :: st) M := mj_R3 (r := (.ldc2_w 690, 3, 1, 19, 41076)) rfl rfl
theorem s374_112 {d : Nat} {ls : mj_L} {st : List Value} {M : mj_H} : mj_Rn d mj_m374 112 ls st M = mq_k0 d mj_m374 113 ls M (mj_pu .land ls st) := mj_R0 (r := (.land, 1, 0, 0, 0)) rfl rfl
theorem s374_113 {d : Nat} {ls : mj_L} {st : List Value} {M : mj_H} : mj_Rn d mj_m374 113 ls st M = mq_k0 d mj_m374 114 ls M (mj_pu .lcmp ls st) := mj_R0 (r := (.lcmp, 1, 0, 0, 0)) rfl rfl
theorem s374_114 {d : Nat} {ls : mj_L} {st : List Value} {M : mj_H} : mj_Rn d mj_m374 114 ls st M = mq_k2 d mj_m374 ls M (mj_br (.ifCond .le 7) 114 st) := mj_R2 (r := (.ifCond .le 7, 3, 0, 0, 0)) rfl rfl
theorem s374_117 {d : Nat} {ls : mj_L} {st : List Value} {M : mj_H} : mj_Rn d mj_m374 117 ls st M = mj_Rn d mj_m374 118 ls (.int 1 :: st) M := mj_R0 (r := (.iconst 1, 1, 0, 0, 0)) rfl rfl
theorem s374_118 {d : Nat} {ls : mj_L} {st : List Value} {M : mj_H} : mj_Rn d mj_m374 118 ls st M = mj_Rn d mj_m374 122 ls st M := mj_R2 (r := (.goto 4, 3, 0, 0, 0)) rfl rfl
theorem s374_121 {d : Nat} {ls : mj_L} {st : List Value} {M : mj_H} : mj_Rn d mj_m374 121 ls st M = mj_Rn d mj_m374 122 ls (.int 0 :: st) M := mj_R0 (r := (.iconst 0, 1, 0, 0, 0)) rfl rfl
theorem s374_122 {d : Nat} {ls : mj_L} {st : List Value} {M : mj_H} : mj_Rn d mj_m374 122 ls st M = mq_k1 d mj_m374 124 M (mj_lo 9 (.istore 8) ls st) := mj_R1 (r := (.istore 8, 2, 0, 0, 0)) rfl rfl
theorem s374_124 {d : Nat} {ls : mj_L} {st : List Value} {M : mj_H} : mj_Rn d mj_m374 124 ls st M = mq_k0 d mj_m374 126 ls M (mj_ldi (mj_lk ls 8) st) := mj_R0 (r := (.iload 8, 2, 0, 0, 0)) rfl rfl
theorem s374_126 {d : Nat} {ls : mj_L} {st : List Value} {M : mj_H} : mj_Rn d mj_m374 126 ls st M = mq_k2 d mj_m374 ls M (mj_br (.ifCond .ne 21) 126 st) := mj_R2 (r := (.ifCond .ne 21, 3, 0, 0, 0)) rfl rfl
theorem s374_129 {d : Nat} {ls : mj_L} {st : List Value} {M : mj_H} : mj_Rn d mj_m374 129 ls st M = mq_k0 d mj_m374 131 ls M (mj_ldi (mj_lk ls 7) st) := mj_R0 (r := (.iload 7, 2, 0, 0, 0)) rfl rfl
theorem s374_131 {d : Nat} {ls : mj_L} {st : List Value} {M : mj_H} : mj_Rn d mj_m374 131 ls st M = mq_k2 d mj_m374 ls M (mj_br (.ifCond .ne 13) 131 st) := mj_R2 (r := (.ifCond .ne 13, 3, 0, 0, 0)) rfl rfl
theorem s374_134 {d : Nat} {ls : mj_L} {st : List Value} {M : mj_H} : mj_Rn d mj_m374 134 ls st M = mq_k0 d mj_m374 135 ls M (mj_lda (mj_lk ls 0) st) := mj_R0 (r := (.aload_n 0, 1, 0, 0, 0)) rfl rfl
theorem s374_135 {d : Nat} {ls : mj_L} {st : List Value} {M : mj_H} : mj_Rn d mj_m374 135 ls st M = mq_k0 d mj_m374 138 ls M (mq_gf 11 82 st M) := (mj_R3 (r := (.getfield 227, 3, 11, 82, 57472)) rfl rfl).trans (congrArg (mq_k0 d mj_m374 138 ls M) mq_gf_eq)
theorem s374_138 {d : Nat} {ls : mj_L} {st : List Value} {M : mj_H} : mj_Rn d mj_m374 138 ls st M = mq_k0 d mj_m374 140 ls M (mj_ldi (mj_lk ls 5) st) := mj_R0 (r := (.iload 5, 2, 0, 0, 0)) rfl rfl
theorem s374_140 {d : Nat} {ls : mj_L} {st : List Value} {M : mj_H} : mj_Rn d mj_m374 140 ls st M = mq_k0 d mj_m374 141 ls M (mq_al [1000] st M) := (mj_R3 (r := (.iaload, 1, 0, 0, 0)) rfl rfl).trans (congrArg (mq_k0 d mj_m374 141 ls M) mq_ali_eq)
theorem s374_141 {d : Nat} {ls : mj_L} {st : List Value} {M : mj_H} : mj_Rn d mj_m374 141 ls st M = mq_k2 d mj_m374 ls M (mj_br (.ifCond .eq 6) 141 st) := mj_R2 (r := (.ifCond .eq 6, 3, 0, 0, 0)) rfl rfl
theorem s374_144 {d : Nat} {ls : mj_L} {st : List Value} {M : mj_H} : mj_Rn d mj_m374 144 ls st M = mj_Rn d mj_m374 146 ls (.int 12 :: st) M := mj_R0 (r := (.bipush 12, 2, 0, 0, 0)) rfl rfl
theorem s374_146 {d : Nat} {ls : mj_L} {st : List Value} {M : mj_H} : mj_Rn d mj_m374 146 ls st M = mq_k6 M (mj_re (some .int) (.ireturn) st) := mj_R6 (r := (.ireturn, 1, 0, 0, 0)) rfl rfl
theorem s374_147 {d : Nat} {ls : mj_L} {st : List Value} {M : mj_H} : mj_Rn d mj_m374 147 ls st M = mq_k0 d mj_m374 148 ls M (mj_lda (mj_lk ls 0) st) := mj_R0 (r := (.aload_n 0, 1, 0, 0, 0)) rfl rfl
theorem s374_148 {d : Nat} {ls : mj_L} {st : List Value} {M : mj_H} : mj_Rn d mj_m374 148 ls st M = mq_k0 d mj_m374 151 ls M (mq_gf 11 82 st M) := (mj_R3 (r := (.getfield 227, 3, 11, 82, 57472)) rfl rfl).trans (congrArg (mq_k0 d mj_m374 151 ls M) mq_gf_eq)
theorem s374_151 {d : Nat} {ls : mj_L} {st : List Value} {M : mj_H} : mj_Rn d mj_m374 151 ls st M = mq_k0 d mj_m374 153 ls M (mj_ldi (mj_lk ls 5) st) := mj_R0 (r := (.iload 5, 2, 0, 0, 0)) rfl rfl
theorem s374_153 {d : Nat} {ls : mj_L} {st : List Value} {M : mj_H} : mj_Rn d mj_m374 153 ls st M = mq_k0 d mj_m374 155 ls M (mj_ldi (mj_lk ls 7) st) := mj_R0 (r := (.iload 7, 2, 0, 0, 0)) rfl rfl
theorem s374_155 {d : Nat} {ls : mj_L} {st : List Value} {M : mj_H} : mj_Rn d mj_m374 155 ls st M = mq_k4 d mj_m374 156 ls (mj_hw (.iastore, 1, 0, 0, 0) st M) := mj_R4 (r := (.iastore, 1, 0, 0, 0)) rfl rfl
theorem s374_156 {d : Nat} {ls : mj_L} {st : List Value} {M : mj_H} : mj_Rn d mj_m374 156 ls st M = mq_k0 d mj_m374 157 ls M (mj_lda (mj_lk ls 0) st) := mj_R0 (r := (.aload_n 0, 1, 0, 0, 0)) rfl rfl
theorem s374_157 {d : Nat} {ls : mj_L} {st : List Value} {M : mj_H} : mj_Rn d mj_m374 157 ls st M = mq_k0 d mj_m374 160 ls M (mq_gf 11 83 st M) := (mj_R3 (r := (.getfield 230, 3, 11, 83, 57474)) rfl rfl).trans (congrArg (mq_k0 d mj_m374 160 ls M) mq_gf_eq)
theorem s374_160 {d : Nat} {ls : mj_L} {st : List Value} {M : mj_H} : mj_Rn d mj_m374 160 ls st M = mq_k0 d mj_m374 162 ls M (mj_ldi (mj_lk ls 5) st) := mj_R0 (r := (.iload 5, 2, 0, 0, 0)) rfl rfl
theorem s374_162 {d : Nat} {ls : mj_L} {st : List Value} {M : mj_H} : mj_Rn d mj_m374 162 ls st M = mq_k0 d mj_m374 163 ls M (mj_pu .dup2 ls st) := mj_R0 (r := (.dup2, 1, 0, 0, 0)) rfl rfl
theorem s374_163 {d : Nat} {ls : mj_L} {st : List Value} {M : mj_H} : mj_Rn d mj_m374 163 ls st M = mq_k0 d mj_m374 164 ls M (mq_al [1000] st M) := (mj_R3 (r := (.iaload, 1, 0, 0, 0)) rfl rfl).trans (congrArg (mq_k0 d mj_m374 164 ls M) mq_ali_eq)
theorem s374_164 {d : Nat} {ls : mj_L} {st : List Value} {M : mj_H} : mj_Rn d mj_m374 164 ls st M = mj_Rn d mj_m374 165 ls (.int 1 :: st) M := mj_R0 (r := (.iconst 1, 1, 0, 0, 0)) rfl rfl
theorem s374_165 {d : Nat} {ls : mj_L} {st : List Value} {M : mj_H} : mj_Rn d mj_m374 165 ls st M = mq_k0 d mj_m374 166 ls M (mj_pu .iadd ls st) := mj_R0 (r := (.iadd, 1, 0, 0, 0)) rfl rfl
theorem s374_166 {d : Nat} {ls : mj_L} {st : List Value} {M : mj_H} : mj_Rn d mj_m374 166 ls st M = mq_k4 d mj_m374 167 ls (mj_hw (.iastore, 1, 0, 0, 0) st M) := mj_R4 (r := (.iastore, 1, 0, 0, 0)) rfl rfl
theorem s374_167 {d : Nat} {ls : mj_L} {st : List Value} {M : mj_H} : mj_Rn d mj_m374 167 ls st M = mj_Rn d mj_m374 168 ls (.int 0 :: st) M := mj_R0 (r := (.iconst 0, 1, 0, 0, 0)) rfl rfl
theorem s374_168 {d : Nat} {ls : mj_L} {st : List Value} {M : mj_H} : mj_Rn d mj_m374 168 ls st M = mq_k6 M (mj_re (some .int) (.ireturn) st) := mj_R6 (r := (.ireturn, 1, 0, 0, 0)) rfl rfl
theorem c375 {d : Nat} {a0 : Nat} {x1 : Int32} {M : mj_H} : mj_V (d + 1) 375 [.ref a0, .int x1] M = mj_Rn d mj_m375 0 [(0, .ref a0), (1, .int x1)] [] M := mj_V_go rfl (Nat.le_of_ble_eq_true rfl)
theorem c376 {d : Nat} {a0 : Nat} {x1 : Int32} {x2 : Int32} {x3 : Int32} {x4 : Int32} {M : mj_H} : mj_V (d + 1) 376 [.ref a0, .int x1, .int x2, .int x3, .int x4] M = mj_Rn d mj_m376 0 [(0, .ref a0), (1, .int x1), (2, .int x2), (3, .int x3), (4, .int x4)] [] M := mj_V_go rfl (Nat.le_of_ble_eq_true rfl)
theorem c374 {d : Nat} {a0 : Nat} {x1 : Int32} {x2 : Int32} {x3 : Int32} {x4 : Int32} {M : mj_H} : mj_V (d + 1) 374 [.ref a0, .int x1, .int x2, .int x3, .int x4] M = mj_Rn d mj_m374 0 [(0, .ref a0), (1, .int x1), (2, .int x2), (3, .int x3), (4, .int x4)] [] M := mj_V_go rfl (Nat.le_of_ble_eq_true rfl)
/-- the user of the offer that is judged -/
def yi (y : Sy) (u : List Int32) : Prop := (y.1.2.1.1.1 = nI u.length) ∧ (u.length ≤ 8) ∧ (y.2.2.2.1.2.length = 8) ∧ (∀ q, q < u.length → y.2.2.2.1.2[q]? = u[q]?)
theorem yi.n {y : Sy} {u : List Int32} (hh_ : yi y u) : y.1.2.1.1.1 = nI u.length := hh_.1
theorem yi.u8 {y : Sy} {u : List Int32} (hh_ : yi y u) : u.length ≤ 8 := hh_.2.1
theorem yi.l {y : Sy} {u : List Int32} (hh_ : yi y u) : y.2.2.2.1.2.length = 8 := hh_.2.2.1
theorem yi.us {y : Sy} {u : List Int32} (hh_ : yi y u) : ∀ q, q < u.length → y.2.2.2.1.2[q]? = u[q]? := hh_.2.2.2
theorem yi_mk_ {y : Sy} {u : List Int32} (f_0_ : y.1.2.1.1.1 = nI u.length) (f_1_ : u.length ≤ 8) (f_2_ : y.2.2.2.1.2.length = 8) (f_3_ : ∀ q, q < u.length → y.2.2.2.1.2[q]? = u[q]?) : yi y u := And.intro f_0_ (And.intro f_1_ (And.intro f_2_ f_3_))
theorem yi.yk {y y' : Sy} {u : List Int32} (h : yi y u) (e : yk y' = yk y) : yi y' u := by
  have e1 : y'.2.2.2.1.2 = y.2.2.2.1.2 := congrArg (fun q : List Int32 × List Int32 × List Int32 × Int32 × List Int32 × Int32 => q.2.2.2.2.1) e
  have e2 : y'.1.2.1.1.1 = y.1.2.1.1.1 := congrArg (fun q : List Int32 × List Int32 × List Int32 × Int32 × List Int32 × Int32 => q.2.2.2.2.2) e
  exact (yi_mk_ (e2.trans h.n) h.u8 (by rw [e1]; exact h.l) (by rw [e1]; exact h.us))
/-- accounts have ids of their own -/
def acD (l : List Ac) : Prop := ∀ (i k : Nat) (a c : Ac), l[i]? = some a → l[k]? = some c → a.1 = c.1 → i = k
section
variable {x : Fx} {y : Sy} {d : Nat} {B : Bs} {H : Ho} {T : Tm} {D O t u : List Int32} {j : Nat} {p : Pa}
theorem xt.at (z : xt x t) (hb : ∀ v ∈ t, v &&& 255 = v) {q : Nat} (hq : q < t.length) : x.1.1.1.2.1.1[q]? = some (nI (cbB t q)) ∧ cbB t q < 256 := by
  refine ⟨?_, ms_by hb q⟩
  rw [z.1.get hq]
  have h8 := hb _ (List.getElem_mem hq)
  unfold cbB
  rw [List.getD_eq_getElem?_getD, List.getElem?_eq_getElem hq, Option.getD_some]
  generalize t[q] = v at *
  obtain ⟨n, hn, e⟩ := tb_and (x := v) (k := 8) (by decide)
  rw [show (255 : Int32) = nI (2 ^ 8 - 1) from rfl] at h8
  rw [h8] at e
  rw [e, nI_clamp (by omega)]
theorem q_tapeInt (z : xt x t) (hb : ∀ v ∈ t, v &&& 255 = v) {q : Nat} (hq : q + 4 ≤ t.length) : mj_V (d + 1) 257 [.ref 73, .int (nI q)] (mm B x y) = some (some (.int (w4a t q)), mm B x y) := by
  have hle := z.1.le
  have htl : x.1.1.1.2.1.1.length = 400 := by obtain ⟨g, -, hl⟩ := z.1; exact hl
  have hsl : (x.1.1.1.2.1.1.drop q).take 4 = (t.drop q).take 4 := z.1.sub hq
  have r := m_intAt (d := d) (M := mm B x y) (a := 73) (l := x.1.1.1.2.1.1) (p := q) (by simp [S_cb_mmade4_0, S_bx_mcan1_0, S_b8_mkey_1, S_b8_mkey_0, S_b1_mterm_0, S_b1_copy_0, S_b0_mod_7, S_b0_mod_6, S_b0_mod_5, S_b0_mod_3, S_b0_mod_2, S_b0_mod_1, S_b0_mod_0, S_cb_mmade4_1h, S_bx_mcan1_1h, S_b0_mod_4h]) (by omega) (by omega) (by rw [hsl]; exact sl_by hb _ _)
  have ew : w4a x.1.1.1.2.1.1 q = w4a t q := by unfold w4a; rw [hsl]
  rw [ew] at r
  exact r
theorem l_its0 {A k : Nat} {n : Nat} (hn : y.1.2.1.1.1 = nI n) (h8 : n ≤ 8) (hk : k ≤ n) : mj_Rn d mj_m375 21 [(3, .int (nI k)), (2, .int 0), (0, .ref 67), (1, .int (nI A))] [] (mm B x y) = some (some (.int 0), mm B x y) := by
  by_cases h : n ≤ k
  · simp (disch := (first | omega | decide)) [S_cb_mmade4_0, S_bx_mcan1_0, S_b8_mkey_1, S_b8_mkey_0, S_b1_mterm_0, S_b1_copy_0, S_b0_mod_7, S_b0_mod_6, S_b0_mod_5, S_b0_mod_3, S_b0_mod_2, S_b0_mod_1, S_b0_mod_0, S_cb_mmade4_1h, S_bx_mcan1_1h, S_b0_mod_4h, s375_0, s375_1, s375_4, s375_5, s375_6, s375_7, s375_10, s375_13, s375_14, s375_17, s375_18, s375_19, s375_20, s375_21, s375_22, s375_23, s375_26, s375_29, s375_30, s375_33, s375_34, s375_37, s375_39, s375_40, s375_41, s375_42, s375_43, s375_44, s375_45, s375_48, s375_49, s375_50, s375_53, s375_54, s375_57, s375_58, s375_59, s375_62, s375_65, s375_66, mq_k0s, mq_k1s, mq_k2s, mq_k4s, mq_k5s, mq_k5n, mq_k5as, mq_k6s, mj_pu, mj_lo, mj_br, mj_hr, mj_hw, mq_gf, mq_len, mq_al, mq_pf, mq_ok, mj_re, mq_lkm, mq_lkn, mj_ldi, mj_ldl, mj_lda, mj_ii, mj_ll, mj_li, mj_i1, ms_1, ms_2, f1_n, f1_i, f1_r, f1_u, f1_l, f2_n, f2_i, f2_r, f2_u, f2_l, mj_tg, mj_c1, mj_c2, mj_ar, mj_aw, mq_cb, mq_oi, mj_rm, Value.category, -getElem?_pos, List.getElem?_cons_zero, decide_eq_true, decide_eq_false, nl_lt, nl_le, ln_lt, ln_le, nl_eq, ln_eq, nl_add, ln_add, nl_sub, ln_mul, nI_sub, nI_mul, nI_add, nI_lt_iff, nI_le_iff, nI_inj, nI_num, mq_ix, nI_1, nl_mul, nl_div, hn, h, narrow_b0]
  · simp (disch := (first | omega | decide)) [S_cb_mmade4_0, S_bx_mcan1_0, S_b8_mkey_1, S_b8_mkey_0, S_b1_mterm_0, S_b1_copy_0, S_b0_mod_7, S_b0_mod_6, S_b0_mod_5, S_b0_mod_3, S_b0_mod_2, S_b0_mod_1, S_b0_mod_0, S_cb_mmade4_1h, S_bx_mcan1_1h, S_b0_mod_4h, s375_0, s375_1, s375_4, s375_5, s375_6, s375_7, s375_10, s375_13, s375_14, s375_17, s375_18, s375_19, s375_20, s375_21, s375_22, s375_23, s375_26, s375_29, s375_30, s375_33, s375_34, s375_37, s375_39, s375_40, s375_41, s375_42, s375_43, s375_44, s375_45, s375_48, s375_49, s375_50, s375_53, s375_54, s375_57, s375_58, s375_59, s375_62, s375_65, s375_66, mq_k0s, mq_k1s, mq_k2s, mq_k4s, mq_k5s, mq_k5n, mq_k5as, mq_k6s, mj_pu, mj_lo, mj_br, mj_hr, mj_hw, mq_gf, mq_len, mq_al, mq_pf, mq_ok, mj_re, mq_lkm, mq_lkn, mj_ldi, mj_ldl, mj_lda, mj_ii, mj_ll, mj_li, mj_i1, ms_1, ms_2, f1_n, f1_i, f1_r, f1_u, f1_l, f2_n, f2_i, f2_r, f2_u, f2_l, mj_tg, mj_c1, mj_c2, mj_ar, mj_aw, mq_cb, mq_oi, mj_rm, Value.category, -getElem?_pos, List.getElem?_cons_zero, decide_eq_true, decide_eq_false, nl_lt, nl_le, ln_lt, ln_le, nl_eq, ln_eq, nl_add, ln_add, nl_sub, ln_mul, nI_sub, nI_mul, nI_add, nI_lt_iff, nI_le_iff, nI_inj, nI_num, mq_ix, nI_1, nl_mul, nl_div, hn, h, narrow_b0]
theorem l_its (I : yi y u) {A : Nat} {c : List Int32} (hA : A < 32) (lu : x.2.2.2.2.1.1.length = 256) (hc : c.length = u.length) (hcu : ∀ q, q < c.length → x.2.2.2.2.1.1[8 * A + q]? = c[q]?) : ∀ (r k : Nat), k + r = u.length →
    mj_Rn d mj_m375 21 [(3, .int (nI k)), (2, .int 1), (0, .ref 67), (1, .int (nI A))] [] (mm B x y) = some (some (.int (on1 (decide (c.drop k = u.drop k)))), mm B x y) := by
  have hn := I.n
  have h8 := I.u8
  have hil := I.l
  intro r
  induction r with
  | zero =>
    intro k hk
    rw [List.drop_eq_nil_of_le (by omega), List.drop_eq_nil_of_le (by omega)]
    simp (disch := (first | omega | decide)) [S_cb_mmade4_0, S_bx_mcan1_0, S_b8_mkey_1, S_b8_mkey_0, S_b1_mterm_0, S_b1_copy_0, S_b0_mod_7, S_b0_mod_6, S_b0_mod_5, S_b0_mod_3, S_b0_mod_2, S_b0_mod_1, S_b0_mod_0, S_cb_mmade4_1h, S_bx_mcan1_1h, S_b0_mod_4h, s375_0, s375_1, s375_4, s375_5, s375_6, s375_7, s375_10, s375_13, s375_14, s375_17, s375_18, s375_19, s375_20, s375_21, s375_22, s375_23, s375_26, s375_29, s375_30, s375_33, s375_34, s375_37, s375_39, s375_40, s375_41, s375_42, s375_43, s375_44, s375_45, s375_48, s375_49, s375_50, s375_53, s375_54, s375_57, s375_58, s375_59, s375_62, s375_65, s375_66, mq_k0s, mq_k1s, mq_k2s, mq_k4s, mq_k5s, mq_k5n, mq_k5as, mq_k6s, mj_pu, mj_lo, mj_br, mj_hr, mj_hw, mq_gf, mq_len, mq_al, mq_pf, mq_ok, mj_re, mq_lkm, mq_lkn, mj_ldi, mj_ldl, mj_lda, mj_ii, mj_ll, mj_li, mj_i1, ms_1, ms_2, f1_n, f1_i, f1_r, f1_u, f1_l, f2_n, f2_i, f2_r, f2_u, f2_l, mj_tg, mj_c1, mj_c2, mj_ar, mj_aw, mq_cb, mq_oi, mj_rm, Value.category, -getElem?_pos, List.getElem?_cons_zero, decide_eq_true, decide_eq_false, nl_lt, nl_le, ln_lt, ln_le, nl_eq, ln_eq, nl_add, ln_add, nl_sub, ln_mul, nI_sub, nI_mul, nI_add, nI_lt_iff, nI_le_iff, nI_inj, nI_num, mq_ix, nI_1, nl_mul, nl_div, hn, show u.length ≤ k by omega, narrow_b1, on1]
  | succ r ih =>
    intro k hk
    have rr := ih (k + 1) (by omega)
    have hku : k < u.length := by omega
    have hkc : k < c.length := by omega
    have a1 := hcu k hkc
    have a2 := I.us k hku
    rw [List.getElem?_eq_getElem hkc] at a1
    rw [List.getElem?_eq_getElem hku] at a2
    rw [List.drop_eq_getElem_cons hkc, List.drop_eq_getElem_cons hku]
    generalize c.drop (k + 1) = w1 at *
    generalize u.drop (k + 1) = w2 at *
    generalize c[k] = v1 at *
    generalize u[k] = v2 at *
    rw [s375_21]
    by_cases hv : v1 = v2
    · subst hv
      simp only [List.cons.injEq, true_and]
      simp (disch := (first | omega | decide)) [S_cb_mmade4_0, S_bx_mcan1_0, S_b8_mkey_1, S_b8_mkey_0, S_b1_mterm_0, S_b1_copy_0, S_b0_mod_7, S_b0_mod_6, S_b0_mod_5, S_b0_mod_3, S_b0_mod_2, S_b0_mod_1, S_b0_mod_0, S_cb_mmade4_1h, S_bx_mcan1_1h, S_b0_mod_4h, s375_0, s375_1, s375_4, s375_5, s375_6, s375_7, s375_10, s375_13, s375_14, s375_17, s375_18, s375_19, s375_20, s375_22, s375_23, s375_26, s375_29, s375_30, s375_33, s375_34, s375_37, s375_39, s375_40, s375_41, s375_42, s375_43, s375_44, s375_45, s375_48, s375_49, s375_50, s375_53, s375_54, s375_57, s375_58, s375_59, s375_62, s375_65, s375_66, mq_k0s, mq_k1s, mq_k2s, mq_k4s, mq_k5s, mq_k5n, mq_k5as, mq_k6s, mj_pu, mj_lo, mj_br, mj_hr, mj_hw, mq_gf, mq_len, mq_al, mq_pf, mq_ok, mj_re, mq_lkm, mq_lkn, mj_ldi, mj_ldl, mj_lda, mj_ii, mj_ll, mj_li, mj_i1, ms_1, ms_2, f1_n, f1_i, f1_r, f1_u, f1_l, f2_n, f2_i, f2_r, f2_u, f2_l, mj_tg, mj_c1, mj_c2, mj_ar, mj_aw, mq_cb, mq_oi, mj_rm, Value.category, -getElem?_pos, List.getElem?_cons_zero, decide_eq_true, decide_eq_false, nl_lt, nl_le, ln_lt, ln_le, nl_eq, ln_eq, nl_add, ln_add, nl_sub, ln_mul, nI_sub, nI_mul, nI_add, nI_lt_iff, nI_le_iff, nI_inj, nI_num, mq_ix, nI_1, nl_mul, nl_div, hn, show ¬ u.length ≤ k by omega, lu, hil, a1, a2]
      refine mq_wk ?_ rr
      simp [S_cb_mmade4_0, S_bx_mcan1_0, S_b8_mkey_1, S_b8_mkey_0, S_b1_mterm_0, S_b1_copy_0, S_b0_mod_7, S_b0_mod_6, S_b0_mod_5, S_b0_mod_3, S_b0_mod_2, S_b0_mod_1, S_b0_mod_0, S_cb_mmade4_1h, S_bx_mcan1_1h, S_b0_mod_4h, mq_sub, mj_lk]
    · simp only [List.cons.injEq, hv, false_and, decide_false]
      have r0 := l_its0 (d := d) (B := B) (x := x) (y := y) (A := A) (k := k + 1) hn h8 (by omega)
      simp (disch := (first | omega | decide)) [S_cb_mmade4_0, S_bx_mcan1_0, S_b8_mkey_1, S_b8_mkey_0, S_b1_mterm_0, S_b1_copy_0, S_b0_mod_7, S_b0_mod_6, S_b0_mod_5, S_b0_mod_3, S_b0_mod_2, S_b0_mod_1, S_b0_mod_0, S_cb_mmade4_1h, S_bx_mcan1_1h, S_b0_mod_4h, s375_0, s375_1, s375_4, s375_5, s375_6, s375_7, s375_10, s375_13, s375_14, s375_17, s375_18, s375_19, s375_20, s375_22, s375_23, s375_26, s375_29, s375_30, s375_33, s375_34, s375_37, s375_39, s375_40, s375_41, s375_42, s375_43, s375_44, s375_45, s375_48, s375_49, s375_50, s375_53, s375_54, s375_57, s375_58, s375_59, s375_62, s375_65, s375_66, mq_k0s, mq_k1s, mq_k2s, mq_k4s, mq_k5s, mq_k5n, mq_k5as, mq_k6s, mj_pu, mj_lo, mj_br, mj_hr, mj_hw, mq_gf, mq_len, mq_al, mq_pf, mq_ok, mj_re, mq_lkm, mq_lkn, mj_ldi, mj_ldl, mj_lda, mj_ii, mj_ll, mj_li, mj_i1, ms_1, ms_2, f1_n, f1_i, f1_r, f1_u, f1_l, f2_n, f2_i, f2_r, f2_u, f2_l, mj_tg, mj_c1, mj_c2, mj_ar, mj_aw, mq_cb, mq_oi, mj_rm, Value.category, -getElem?_pos, List.getElem?_cons_zero, decide_eq_true, decide_eq_false, nl_lt, nl_le, ln_lt, ln_le, nl_eq, ln_eq, nl_add, ln_add, nl_sub, ln_mul, nI_sub, nI_mul, nI_add, nI_lt_iff, nI_le_iff, nI_inj, nI_num, mq_ix, nI_1, nl_mul, nl_div, hn, show ¬ u.length ≤ k by omega, lu, hil, a1, a2, hv]
      refine mq_wk ?_ r0
      simp [S_cb_mmade4_0, S_bx_mcan1_0, S_b8_mkey_1, S_b8_mkey_0, S_b1_mterm_0, S_b1_copy_0, S_b0_mod_7, S_b0_mod_6, S_b0_mod_5, S_b0_mod_3, S_b0_mod_2, S_b0_mod_1, S_b0_mod_0, S_cb_mmade4_1h, S_bx_mcan1_1h, S_b0_mod_4h, mq_sub, mj_lk]
theorem q_isIts (I : yi y u) {A : Nat} {c : Ac} (hA : A < 32) (lu : x.2.2.2.2.1.1.length = 256) (ll : x.2.2.2.2.1.2.length = 32) (m : aM x A c) : mj_V (d + 1) 375 [.ref 67, .int (nI A)] (mm B x y) = some (some (.int (on1 (decide (c.2.2.2.2 = u)))), mm B x y) := by
  have hn := I.n
  have h8 := I.u8
  have u8 := m.u8
  have hln := m.ln
  by_cases hc : c.2.2.2.2.length = u.length
  · have r := l_its (d := d) (B := B) I hA lu hc m.us u.length 0 (by omega)
    rw [List.drop_zero, List.drop_zero, nI_0] at r
    rw [hc] at hln
    generalize decide (c.2.2.2.2 = u) = b at *
    simp (disch := (first | omega | decide)) [S_cb_mmade4_0, S_bx_mcan1_0, S_b8_mkey_1, S_b8_mkey_0, S_b1_mterm_0, S_b1_copy_0, S_b0_mod_7, S_b0_mod_6, S_b0_mod_5, S_b0_mod_3, S_b0_mod_2, S_b0_mod_1, S_b0_mod_0, S_cb_mmade4_1h, S_bx_mcan1_1h, S_b0_mod_4h, c375, s375_0, s375_1, s375_4, s375_5, s375_6, s375_7, s375_10, s375_13, s375_14, s375_17, s375_18, s375_19, s375_20, s375_22, s375_23, s375_26, s375_29, s375_30, s375_33, s375_34, s375_37, s375_39, s375_40, s375_41, s375_42, s375_43, s375_44, s375_45, s375_48, s375_49, s375_50, s375_53, s375_54, s375_57, s375_58, s375_59, s375_62, s375_65, s375_66, mq_k0s, mq_k1s, mq_k2s, mq_k4s, mq_k5s, mq_k5n, mq_k5as, mq_k6s, mj_pu, mj_lo, mj_br, mj_hr, mj_hw, mq_gf, mq_len, mq_al, mq_pf, mq_ok, mj_re, mq_lkm, mq_lkn, mj_ldi, mj_ldl, mj_lda, mj_ii, mj_ll, mj_li, mj_i1, ms_1, ms_2, f1_n, f1_i, f1_r, f1_u, f1_l, f2_n, f2_i, f2_r, f2_u, f2_l, mj_tg, mj_c1, mj_c2, mj_ar, mj_aw, mq_cb, mq_oi, mj_rm, Value.category, -getElem?_pos, List.getElem?_cons_zero, decide_eq_true, decide_eq_false, nl_lt, nl_le, ln_lt, ln_le, nl_eq, ln_eq, nl_add, ln_add, nl_sub, ln_mul, nI_sub, nI_mul, nI_add, nI_lt_iff, nI_le_iff, nI_inj, nI_num, mq_ix, nI_1, nl_mul, nl_div, ll, hln, hn]
    refine mq_wk ?_ r
    simp [S_cb_mmade4_0, S_bx_mcan1_0, S_b8_mkey_1, S_b8_mkey_0, S_b1_mterm_0, S_b1_copy_0, S_b0_mod_7, S_b0_mod_6, S_b0_mod_5, S_b0_mod_3, S_b0_mod_2, S_b0_mod_1, S_b0_mod_0, S_cb_mmade4_1h, S_bx_mcan1_1h, S_b0_mod_4h, mq_sub, mj_lk]
  · have e : ¬ c.2.2.2.2 = u := fun w => hc (by rw [w])
    rw [decide_eq_false e]
    have r0 := l_its0 (d := d) (B := B) (x := x) (y := y) (A := A) (k := 0) hn h8 (by omega)
    rw [nI_0] at r0
    simp (disch := (first | omega | decide)) [S_cb_mmade4_0, S_bx_mcan1_0, S_b8_mkey_1, S_b8_mkey_0, S_b1_mterm_0, S_b1_copy_0, S_b0_mod_7, S_b0_mod_6, S_b0_mod_5, S_b0_mod_3, S_b0_mod_2, S_b0_mod_1, S_b0_mod_0, S_cb_mmade4_1h, S_bx_mcan1_1h, S_b0_mod_4h, c375, s375_0, s375_1, s375_4, s375_5, s375_6, s375_7, s375_10, s375_13, s375_14, s375_17, s375_18, s375_19, s375_20, s375_22, s375_23, s375_26, s375_29, s375_30, s375_33, s375_34, s375_37, s375_39, s375_40, s375_41, s375_42, s375_43, s375_44, s375_45, s375_48, s375_49, s375_50, s375_53, s375_54, s375_57, s375_58, s375_59, s375_62, s375_65, s375_66, mq_k0s, mq_k1s, mq_k2s, mq_k4s, mq_k5s, mq_k5n, mq_k5as, mq_k6s, mj_pu, mj_lo, mj_br, mj_hr, mj_hw, mq_gf, mq_len, mq_al, mq_pf, mq_ok, mj_re, mq_lkm, mq_lkn, mj_ldi, mj_ldl, mj_lda, mj_ii, mj_ll, mj_li, mj_i1, ms_1, ms_2, f1_n, f1_i, f1_r, f1_u, f1_l, f2_n, f2_i, f2_r, f2_u, f2_l, mj_tg, mj_c1, mj_c2, mj_ar, mj_aw, mq_cb, mq_oi, mj_rm, Value.category, -getElem?_pos, List.getElem?_cons_zero, decide_eq_true, decide_eq_false, nl_lt, nl_le, ln_lt, ln_le, nl_eq, ln_eq, nl_add, ln_add, nl_sub, ln_mul, nI_sub, nI_mul, nI_add, nI_lt_iff, nI_le_iff, nI_inj, nI_num, mq_ix, nI_1, nl_mul, nl_div, ll, hln, hn, hc]
    refine mq_wk ?_ r0
    simp [S_cb_mmade4_0, S_bx_mcan1_0, S_b8_mkey_1, S_b8_mkey_0, S_b1_mterm_0, S_b1_copy_0, S_b0_mod_7, S_b0_mod_6, S_b0_mod_5, S_b0_mod_3, S_b0_mod_2, S_b0_mod_1, S_b0_mod_0, S_cb_mmade4_1h, S_bx_mcan1_1h, S_b0_mod_4h, mq_sub, mj_lk]
/-- is it a signature -/
theorem q_isSigned (z : xt x t) (hb : ∀ v ∈ t, v &&& 255 = v) (hy : yz y T D O) (h8 : tk8 T) (h9 : tk9 T) {fr n : Nat} {by_ sig : Int32} (hby : bt_at (tm_row T.1 by_) 0 = 2) (ho : 6 + cbB t 5 ≤ t.length) (hfn : fr + n ≤ t.length) (hn : n ≤ 17) (h5 : 5 < t.length) :
    ∃ y', mj_V (d + 3) 376 [.ref 67, .int sig, .int by_, .int (nI fr), .int (nI n)] (mm B x y) = some (some (.int (on1 (!decide (tm_ix T.1 (7 :: (t.take 5 ++ (t.drop 6).take (cbB t 5))) = 0) && kn_as T (6 :: tm_sec T.1 by_ :: ((t.drop fr).take n ++ b4 (nI (tm_ix T.1 (7 :: (t.take 5 ++ (t.drop 6).take (cbB t 5))))))) sig))), mm B x y') ∧ (∃ D', yz y' T D' O) ∧ yk y' = yk y := by
  have hle := z.1.le
  have htl : x.1.1.1.2.1.1.length = 400 := by obtain ⟨g, -, hl⟩ := z.1; exact hl
  obtain ⟨g5, g5'⟩ := z.at hb h5
  obtain ⟨y1, p1, z1, k1⟩ := q_begin (d := d + 1) (B := B) (x := x) hy 7
  obtain ⟨y2, p2, z2, k2⟩ := q_sayBytes (d := d) (B := B) (x := x) (a := 73) (q := 0) (n := 5) (l := x.1.1.1.2.1.1) z1 (fun y' _ => by simp [S_cb_mmade4_0, S_bx_mcan1_0, S_b8_mkey_1, S_b8_mkey_0, S_b1_mterm_0, S_b1_copy_0, S_b0_mod_7, S_b0_mod_6, S_b0_mod_5, S_b0_mod_3, S_b0_mod_2, S_b0_mod_1, S_b0_mod_0, S_cb_mmade4_1h, S_bx_mcan1_1h, S_b0_mod_4h]) (by omega) (by omega) (by simp [S_cb_mmade4_0, S_bx_mcan1_0, S_b8_mkey_1, S_b8_mkey_0, S_b1_mterm_0, S_b1_copy_0, S_b0_mod_7, S_b0_mod_6, S_b0_mod_5, S_b0_mod_3, S_b0_mod_2, S_b0_mod_1, S_b0_mod_0, S_cb_mmade4_1h, S_bx_mcan1_1h, S_b0_mod_4h])
  rw [z.1.sub (q := 0) (n := 5) (by omega), List.drop_zero] at z2
  obtain ⟨y3, p3, z3, k3⟩ := q_sayBytes (d := d) (B := B) (x := x) (a := 73) (q := 6) (n := cbB t 5) (l := x.1.1.1.2.1.1) z2 (fun y' _ => by simp [S_cb_mmade4_0, S_bx_mcan1_0, S_b8_mkey_1, S_b8_mkey_0, S_b1_mterm_0, S_b1_copy_0, S_b0_mod_7, S_b0_mod_6, S_b0_mod_5, S_b0_mod_3, S_b0_mod_2, S_b0_mod_1, S_b0_mod_0, S_cb_mmade4_1h, S_bx_mcan1_1h, S_b0_mod_4h]) (by omega) (by omega) (by simp [S_cb_mmade4_0, S_bx_mcan1_0, S_b8_mkey_1, S_b8_mkey_0, S_b1_mterm_0, S_b1_copy_0, S_b0_mod_7, S_b0_mod_6, S_b0_mod_5, S_b0_mod_3, S_b0_mod_2, S_b0_mod_1, S_b0_mod_0, S_cb_mmade4_1h, S_bx_mcan1_1h, S_b0_mod_4h]; omega)
  rw [z.1.sub (q := 6) (by omega)] at z3
  have e3 : [7] ++ t.take 5 ++ (t.drop 6).take (cbB t 5) = 7 :: (t.take 5 ++ (t.drop 6).take (cbB t 5)) := by simp [S_cb_mmade4_0, S_bx_mcan1_0, S_b8_mkey_1, S_b8_mkey_0, S_b1_mterm_0, S_b1_copy_0, S_b0_mod_7, S_b0_mod_6, S_b0_mod_5, S_b0_mod_3, S_b0_mod_2, S_b0_mod_1, S_b0_mod_0, S_cb_mmade4_1h, S_bx_mcan1_1h, S_b0_mod_4h]
  rw [e3] at z3
  have p4 := q_found (d := d) (B := B) (x := x) z3 (by simp [S_cb_mmade4_0, S_bx_mcan1_0, S_b8_mkey_1, S_b8_mkey_0, S_b1_mterm_0, S_b1_copy_0, S_b0_mod_7, S_b0_mod_6, S_b0_mod_5, S_b0_mod_3, S_b0_mod_2, S_b0_mod_1, S_b0_mod_0, S_cb_mmade4_1h, S_bx_mcan1_1h, S_b0_mod_4h])
  have kk : yk y3 = yk y := by rw [yk_nd k3, yk_nd k2, yk_nd k1]
  have hix := ix_lt (row := 7 :: (t.take 5 ++ (t.drop 6).take (cbB t 5))) z3
  generalize hI : tm_ix T.1 (7 :: (t.take 5 ++ (t.drop 6).take (cbB t 5))) = I at *
  rw [nI_0, show nI 5 = (5 : Int32) from rfl] at p2
  rw [show nI 6 = (6 : Int32) from rfl] at p3
  by_cases h0 : I = 0
  · refine ⟨y3, ?_, ⟨_, z3⟩, kk⟩
    rw [decide_eq_true h0]
    subst h0
    rw [nI_0] at p4
    simp (disch := (first | omega | decide)) [S_cb_mmade4_0, S_bx_mcan1_0, S_b8_mkey_1, S_b8_mkey_0, S_b1_mterm_0, S_b1_copy_0, S_b0_mod_7, S_b0_mod_6, S_b0_mod_5, S_b0_mod_3, S_b0_mod_2, S_b0_mod_1, S_b0_mod_0, S_cb_mmade4_1h, S_bx_mcan1_1h, S_b0_mod_4h, c376, s376_0, s376_1, s376_3, s376_6, s376_7, s376_8, s376_11, s376_12, s376_13, s376_16, s376_17, s376_18, s376_21, s376_23, s376_24, s376_27, s376_28, s376_29, s376_32, s376_33, s376_36, s376_38, s376_40, s376_43, s376_44, s376_45, s376_46, s376_48, s376_51, s376_52, s376_53, s376_54, s376_55, s376_58, s376_61, s376_62, s376_63, s376_66, s376_67, s376_69, s376_72, s376_73, s376_75, s376_78, s376_79, s376_82, s376_84, s376_86, s376_89, s376_91, s376_92, s376_95, s376_96, s376_99, s376_100, mq_k0s, mq_k1s, mq_k2s, mq_k4s, mq_k5s, mq_k5n, mq_k5as, mq_k6s, mj_pu, mj_lo, mj_br, mj_hr, mj_hw, mq_gf, mq_len, mq_al, mq_pf, mq_ok, mj_re, mq_lkm, mq_lkn, mj_ldi, mj_ldl, mj_lda, mj_ii, mj_ll, mj_li, mj_i1, ms_1, ms_2, f1_n, f1_i, f1_r, f1_u, f1_l, f2_n, f2_i, f2_r, f2_u, f2_l, mj_tg, mj_c1, mj_c2, mj_ar, mj_aw, mq_cb, mq_oi, mj_rm, Value.category, -getElem?_pos, List.getElem?_cons_zero, decide_eq_true, decide_eq_false, nl_lt, nl_le, ln_lt, ln_le, nl_eq, ln_eq, nl_add, ln_add, nl_sub, ln_mul, nI_sub, nI_mul, nI_add, nI_lt_iff, nI_le_iff, nI_inj, nI_num, mq_ix, nI_1, nl_mul, nl_div, p1, p2, htl, g5, p3, p4, narrow_b0, on1]
  · rw [decide_eq_false h0]
    simp only [Bool.not_false, Bool.true_and]
    obtain ⟨y5, p5, z5, k5⟩ := q_begin (d := d + 1) (B := B) (x := x) z3 6
    have rp := q_partA (d := d + 1) (B := B) (x := x) z5 (t := by_) (k := 1) (by rw [h8.p2 by_ hby]; omega)
    rw [show nI 1 = (1 : Int32) from rfl, ← (sec_p h8 h9 by_ hby).2] at rp
    obtain ⟨y6, p6, z6, k6⟩ := q_say (d := d + 1) (B := B) (x := x) z5 (by simp [S_cb_mmade4_0, S_bx_mcan1_0, S_b8_mkey_1, S_b8_mkey_0, S_b1_mterm_0, S_b1_copy_0, S_b0_mod_7, S_b0_mod_6, S_b0_mod_5, S_b0_mod_3, S_b0_mod_2, S_b0_mod_1, S_b0_mod_0, S_cb_mmade4_1h, S_bx_mcan1_1h, S_b0_mod_4h]) (tm_sec T.1 by_)
    obtain ⟨y7, p7, z7, k7⟩ := q_sayBytes (d := d) (B := B) (x := x) (a := 73) (q := fr) (n := n) (l := x.1.1.1.2.1.1) z6 (fun y' _ => by simp [S_cb_mmade4_0, S_bx_mcan1_0, S_b8_mkey_1, S_b8_mkey_0, S_b1_mterm_0, S_b1_copy_0, S_b0_mod_7, S_b0_mod_6, S_b0_mod_5, S_b0_mod_3, S_b0_mod_2, S_b0_mod_1, S_b0_mod_0, S_cb_mmade4_1h, S_bx_mcan1_1h, S_b0_mod_4h]) (by omega) (by omega) (by simp [S_cb_mmade4_0, S_bx_mcan1_0, S_b8_mkey_1, S_b8_mkey_0, S_b1_mterm_0, S_b1_copy_0, S_b0_mod_7, S_b0_mod_6, S_b0_mod_5, S_b0_mod_3, S_b0_mod_2, S_b0_mod_1, S_b0_mod_0, S_cb_mmade4_1h, S_bx_mcan1_1h, S_b0_mod_4h]; omega)
    rw [z.1.sub hfn] at z7
    have hsl : ((t.drop fr).take n).length ≤ 17 := by rw [List.length_take]; omega
    obtain ⟨y8, p8, z8, k8⟩ := q_sayInt (d := d) (B := B) (x := x) z7 (by simp only [List.length_append, List.length_cons, List.length_nil]; omega) (nI I)
    have e8 : [6] ++ [tm_sec T.1 by_] ++ (t.drop fr).take n ++ b4 (nI I) = 6 :: tm_sec T.1 by_ :: ((t.drop fr).take n ++ b4 (nI I)) := by simp [S_cb_mmade4_0, S_bx_mcan1_0, S_b8_mkey_1, S_b8_mkey_0, S_b1_mterm_0, S_b1_copy_0, S_b0_mod_7, S_b0_mod_6, S_b0_mod_5, S_b0_mod_3, S_b0_mod_2, S_b0_mod_1, S_b0_mod_0, S_cb_mmade4_1h, S_bx_mcan1_1h, S_b0_mod_4h]
    rw [e8] at z8
    have p9 := q_found (d := d) (B := B) (x := x) z8 (by simp [S_cb_mmade4_0, S_bx_mcan1_0, S_b8_mkey_1, S_b8_mkey_0, S_b1_mterm_0, S_b1_copy_0, S_b0_mod_7, S_b0_mod_6, S_b0_mod_5, S_b0_mod_3, S_b0_mod_2, S_b0_mod_1, S_b0_mod_0, S_cb_mmade4_1h, S_bx_mcan1_1h, S_b0_mod_4h])
    have hix2 := ix_lt (row := 6 :: tm_sec T.1 by_ :: ((t.drop fr).take n ++ b4 (nI I))) z8
    refine ⟨y8, ?_, ⟨_, z8⟩, by rw [yk_nd k8, yk_nd k7, yk_nd k6, yk_nd k5, kk]⟩
    unfold kn_as
    generalize tm_ix T.1 (6 :: tm_sec T.1 by_ :: ((t.drop fr).take n ++ b4 (nI I))) = J at *
    generalize tm_sec T.1 by_ = sc at *
    by_cases hJ : J = 0
    · rw [decide_eq_true hJ]
      subst hJ
      rw [nI_0] at p9
      simp (disch := (first | omega | decide)) [S_cb_mmade4_0, S_bx_mcan1_0, S_b8_mkey_1, S_b8_mkey_0, S_b1_mterm_0, S_b1_copy_0, S_b0_mod_7, S_b0_mod_6, S_b0_mod_5, S_b0_mod_3, S_b0_mod_2, S_b0_mod_1, S_b0_mod_0, S_cb_mmade4_1h, S_bx_mcan1_1h, S_b0_mod_4h, c376, s376_0, s376_1, s376_3, s376_6, s376_7, s376_8, s376_11, s376_12, s376_13, s376_16, s376_17, s376_18, s376_21, s376_23, s376_24, s376_27, s376_28, s376_29, s376_32, s376_33, s376_36, s376_38, s376_40, s376_43, s376_44, s376_45, s376_46, s376_48, s376_51, s376_52, s376_53, s376_54, s376_55, s376_58, s376_61, s376_62, s376_63, s376_66, s376_67, s376_69, s376_72, s376_73, s376_75, s376_78, s376_79, s376_82, s376_84, s376_86, s376_89, s376_91, s376_92, s376_95, s376_96, s376_99, s376_100, mq_k0s, mq_k1s, mq_k2s, mq_k4s, mq_k5s, mq_k5n, mq_k5as, mq_k6s, mj_pu, mj_lo, mj_br, mj_hr, mj_hw, mq_gf, mq_len, mq_al, mq_pf, mq_ok, mj_re, mq_lkm, mq_lkn, mj_ldi, mj_ldl, mj_lda, mj_ii, mj_ll, mj_li, mj_i1, ms_1, ms_2, f1_n, f1_i, f1_r, f1_u, f1_l, f2_n, f2_i, f2_r, f2_u, f2_l, mj_tg, mj_c1, mj_c2, mj_ar, mj_aw, mq_cb, mq_oi, mj_rm, Value.category, -getElem?_pos, List.getElem?_cons_zero, decide_eq_true, decide_eq_false, nl_lt, nl_le, ln_lt, ln_le, nl_eq, ln_eq, nl_add, ln_add, nl_sub, ln_mul, nI_sub, nI_mul, nI_add, nI_lt_iff, nI_le_iff, nI_inj, nI_num, mq_ix, nI_1, nl_mul, nl_div, p1, p2, htl, g5, p3, p4, h0, p5, rp, p6, p7, p8, p9, narrow_b0, on1]
    · rw [decide_eq_false hJ]
      simp only [Bool.not_false, Bool.true_and]
      by_cases hs : nI J = sig
      · rw [decide_eq_true hs]
        subst hs
        simp (disch := (first | omega | decide)) [S_cb_mmade4_0, S_bx_mcan1_0, S_b8_mkey_1, S_b8_mkey_0, S_b1_mterm_0, S_b1_copy_0, S_b0_mod_7, S_b0_mod_6, S_b0_mod_5, S_b0_mod_3, S_b0_mod_2, S_b0_mod_1, S_b0_mod_0, S_cb_mmade4_1h, S_bx_mcan1_1h, S_b0_mod_4h, c376, s376_0, s376_1, s376_3, s376_6, s376_7, s376_8, s376_11, s376_12, s376_13, s376_16, s376_17, s376_18, s376_21, s376_23, s376_24, s376_27, s376_28, s376_29, s376_32, s376_33, s376_36, s376_38, s376_40, s376_43, s376_44, s376_45, s376_46, s376_48, s376_51, s376_52, s376_53, s376_54, s376_55, s376_58, s376_61, s376_62, s376_63, s376_66, s376_67, s376_69, s376_72, s376_73, s376_75, s376_78, s376_79, s376_82, s376_84, s376_86, s376_89, s376_91, s376_92, s376_95, s376_96, s376_99, s376_100, mq_k0s, mq_k1s, mq_k2s, mq_k4s, mq_k5s, mq_k5n, mq_k5as, mq_k6s, mj_pu, mj_lo, mj_br, mj_hr, mj_hw, mq_gf, mq_len, mq_al, mq_pf, mq_ok, mj_re, mq_lkm, mq_lkn, mj_ldi, mj_ldl, mj_lda, mj_ii, mj_ll, mj_li, mj_i1, ms_1, ms_2, f1_n, f1_i, f1_r, f1_u, f1_l, f2_n, f2_i, f2_r, f2_u, f2_l, mj_tg, mj_c1, mj_c2, mj_ar, mj_aw, mq_cb, mq_oi, mj_rm, Value.category, -getElem?_pos, List.getElem?_cons_zero, decide_eq_true, decide_eq_false, nl_lt, nl_le, ln_lt, ln_le, nl_eq, ln_eq, nl_add, ln_add, nl_sub, ln_mul, nI_sub, nI_mul, nI_add, nI_lt_iff, nI_le_iff, nI_inj, nI_num, mq_ix, nI_1, nl_mul, nl_div, p1, p2, htl, g5, p3, p4, h0, p5, rp, p6, p7, p8, p9, hJ, narrow_b1, on1]
      · rw [decide_eq_false hs]
        simp (disch := (first | omega | decide)) [S_cb_mmade4_0, S_bx_mcan1_0, S_b8_mkey_1, S_b8_mkey_0, S_b1_mterm_0, S_b1_copy_0, S_b0_mod_7, S_b0_mod_6, S_b0_mod_5, S_b0_mod_3, S_b0_mod_2, S_b0_mod_1, S_b0_mod_0, S_cb_mmade4_1h, S_bx_mcan1_1h, S_b0_mod_4h, c376, s376_0, s376_1, s376_3, s376_6, s376_7, s376_8, s376_11, s376_12, s376_13, s376_16, s376_17, s376_18, s376_21, s376_23, s376_24, s376_27, s376_28, s376_29, s376_32, s376_33, s376_36, s376_38, s376_40, s376_43, s376_44, s376_45, s376_46, s376_48, s376_51, s376_52, s376_53, s376_54, s376_55, s376_58, s376_61, s376_62, s376_63, s376_66, s376_67, s376_69, s376_72, s376_73, s376_75, s376_78, s376_79, s376_82, s376_84, s376_86, s376_89, s376_91, s376_92, s376_95, s376_96, s376_99, s376_100, mq_k0s, mq_k1s, mq_k2s, mq_k4s, mq_k5s, mq_k5n, mq_k5as, mq_k6s, mj_pu, mj_lo, mj_br, mj_hr, mj_hw, mq_gf, mq_len, mq_al, mq_pf, mq_ok, mj_re, mq_lkm, mq_lkn, mj_ldi, mj_ldl, mj_lda, mj_ii, mj_ll, mj_li, mj_i1, ms_1, ms_2, f1_n, f1_i, f1_r, f1_u, f1_l, f2_n, f2_i, f2_r, f2_u, f2_l, mj_tg, mj_c1, mj_c2, mj_ar, mj_aw, mq_cb, mq_oi, mj_rm, Value.category, -getElem?_pos, List.getElem?_cons_zero, decide_eq_true, decide_eq_false, nl_lt, nl_le, ln_lt, ln_le, nl_eq, ln_eq, nl_add, ln_add, nl_sub, ln_mul, nI_sub, nI_mul, nI_add, nI_lt_iff, nI_le_iff, nI_inj, nI_num, mq_ix, nI_1, nl_mul, nl_div, p1, p2, htl, g5, p3, p4, h0, p5, rp, p6, p7, p8, p9, hJ, hs, narrow_b0, on1]
end
end
