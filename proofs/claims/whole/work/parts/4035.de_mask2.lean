/- de.mask2 -/
section
set_option maxRecDepth 512
/-! The model: challenges, hashes, marks, a user's accounts. -/
/- 362 PasskeyHouseModel.accountsOf(IJI)I -/
theorem s362_0 {d : Nat} {ls : mj_L} {st : List Value} {M : mj_H} : mj_Rn d mj_m362 0 ls st M = mj_Rn d mj_m362 1 ls (.int 0 :: st) M := mj_R0 (r := (.iconst 0, 1, 0, 0, 0)) rfl rfl
theorem s362_1 {d : Nat} {ls : mj_L} {st : List Value} {M : mj_H} : mj_Rn d mj_m362 1 ls st M = mq_k1 d mj_m362 3 M (mj_lo 8 (.istore 5) ls st) := mj_R1 (r := (.istore 5, 2, 0, 0, 0)) rfl rfl
theorem s362_3 {d : Nat} {ls : mj_L} {st : List Value} {M : mj_H} : mj_Rn d mj_m362 3 ls st M = mj_Rn d mj_m362 4 ls (.int 0 :: st) M := mj_R0 (r := (.iconst 0, 1, 0, 0, 0)) rfl rfl
theorem s362_4 {d : Nat} {ls : mj_L} {st : List Value} {M : mj_H} : mj_Rn d mj_m362 4 ls st M = mq_k1 d mj_m362 6 M (mj_lo 8 (.istore 6) ls st) := mj_R1 (r := (.istore 6, 2, 0, 0, 0)) rfl rfl
theorem s362_6 {d : Nat} {ls : mj_L} {st : List Value} {M : mj_H} : mj_Rn d mj_m362 6 ls st M = mq_k0 d mj_m362 7 ls M (mj_ldi (mj_lk ls 1) st) := mj_R0 (r := (.iload_n 1, 1, 0, 0, 0)) rfl rfl
theorem s362_7 {d : Nat} {ls : mj_L} {st : List Value} {M : mj_H} : mj_Rn d mj_m362 7 ls st M = mj_Rn d mj_m362 8 ls (.int (-1) :: st) M := mj_R0 (r := (.iconst (-1), 1, 0, 0, 0)) rfl rfl
theorem s362_8 {d : Nat} {ls : mj_L} {st : List Value} {M : mj_H} : mj_Rn d mj_m362 8 ls st M = mq_k2 d mj_m362 ls M (mj_br (.if_icmp .eq 65) 8 st) := mj_R2 (r := (.if_icmp .eq 65, 3, 0, 0, 0)) rfl rfl
theorem s362_11 {d : Nat} {ls : mj_L} {st : List Value} {M : mj_H} : mj_Rn d mj_m362 11 ls st M = mq_k0 d mj_m362 13 ls M (mj_ldi (mj_lk ls 6) st) := mj_R0 (r := (.iload 6, 2, 0, 0, 0)) rfl rfl
theorem s362_13 {d : Nat} {ls : mj_L} {st : List Value} {M : mj_H} : mj_Rn d mj_m362 13 ls st M = mq_k0 d mj_m362 14 ls M (mj_lda (mj_lk ls 0) st) := mj_R0 (r := (.aload_n 0, 1, 0, 0, 0)) rfl rfl
theorem s362_14 {d : Nat} {ls : mj_L} {st : List Value} {M : mj_H} : mj_Rn d mj_m362 14 ls st M = mq_k0 d mj_m362 17 ls M (mq_gf 11 79 st M) := (mj_R3 (r := (.getfield 218, 3, 11, 79, 57466)) rfl rfl).trans (congrArg (mq_k0 d mj_m362 17 ls M) mq_gf_eq)
theorem s362_17 {d : Nat} {ls : mj_L} {st : List Value} {M : mj_H} : mj_Rn d mj_m362 17 ls st M = mq_k0 d mj_m362 18 ls M (mj_ldi (mj_lk ls 1) st) := mj_R0 (r := (.iload_n 1, 1, 0, 0, 0)) rfl rfl
theorem s362_18 {d : Nat} {ls : mj_L} {st : List Value} {M : mj_H} : mj_Rn d mj_m362 18 ls st M = mq_k0 d mj_m362 19 ls M (mq_al [1000] st M) := (mj_R3 (r := (.iaload, 1, 0, 0, 0)) rfl rfl).trans (congrArg (mq_k0 d mj_m362 19 ls M) mq_ali_eq)
theorem s362_19 {d : Nat} {ls : mj_L} {st : List Value} {M : mj_H} : mj_Rn d mj_m362 19 ls st M = mq_k2 d mj_m362 ls M (mj_br (.if_icmp .ge 54) 19 st) := mj_R2 (r := (.if_icmp .ge 54, 3, 0, 0, 0)) rfl rfl
theorem s362_22 {d : Nat} {ls : mj_L} {st : List Value} {M : mj_H} : mj_Rn d mj_m362 22 ls st M = mj_Rn d mj_m362 24 ls (.int 8 :: st) M := mj_R0 (r := (.bipush 8, 2, 0, 0, 0)) rfl rfl
theorem s362_24 {d : Nat} {ls : mj_L} {st : List Value} {M : mj_H} : mj_Rn d mj_m362 24 ls st M = mq_k0 d mj_m362 25 ls M (mj_ldi (mj_lk ls 1) st) := mj_R0 (r := (.iload_n 1, 1, 0, 0, 0)) rfl rfl
theorem s362_25 {d : Nat} {ls : mj_L} {st : List Value} {M : mj_H} : mj_Rn d mj_m362 25 ls st M = mq_k0 d mj_m362 26 ls M (mj_pu .imul ls st) := mj_R0 (r := (.imul, 1, 0, 0, 0)) rfl rfl
theorem s362_26 {d : Nat} {ls : mj_L} {st : List Value} {M : mj_H} : mj_Rn d mj_m362 26 ls st M = mq_k0 d mj_m362 28 ls M (mj_ldi (mj_lk ls 6) st) := mj_R0 (r := (.iload 6, 2, 0, 0, 0)) rfl rfl
theorem s362_28 {d : Nat} {ls : mj_L} {st : List Value} {M : mj_H} : mj_Rn d mj_m362 28 ls st M = mq_k0 d mj_m362 29 ls M (mj_pu .iadd ls st) := mj_R0 (r := (.iadd, 1, 0, 0, 0)) rfl rfl
theorem s362_29 {d : Nat} {ls : mj_L} {st : List Value} {M : mj_H} : mj_Rn d mj_m362 29 ls st M = mq_k1 d mj_m362 31 M (mj_lo 8 (.istore 7) ls st) := mj_R1 (r := (.istore 7, 2, 0, 0, 0)) rfl rfl
theorem s362_31 {d : Nat} {ls : mj_L} {st : List Value} {M : mj_H} : mj_Rn d mj_m362 31 ls st M = mq_k0 d mj_m362 33 ls M (mj_ldi (mj_lk ls 5) st) := mj_R0 (r := (.iload 5, 2, 0, 0, 0)) rfl rfl
theorem s362_33 {d : Nat} {ls : mj_L} {st : List Value} {M : mj_H} : mj_Rn d mj_m362 33 ls st M = mq_k0 d mj_m362 34 ls M (mj_lda (mj_lk ls 0) st) := mj_R0 (r := (.aload_n 0, 1, 0, 0, 0)) rfl rfl
theorem s362_34 {d : Nat} {ls : mj_L} {st : List Value} {M : mj_H} : mj_Rn d mj_m362 34 ls st M = mq_k0 d mj_m362 35 ls M (mj_lda (mj_lk ls 0) st) := mj_R0 (r := (.aload_n 0, 1, 0, 0, 0)) rfl rfl
theorem s362_35 {d : Nat} {ls : mj_L} {st : List Value} {M : mj_H} : mj_Rn d mj_m362 35 ls st M = mq_k0 d mj_m362 38 ls M (mq_gf 11 84 st M) := (mj_R3 (r := (.getfield 233, 3, 11, 84, 57476)) rfl rfl).trans (congrArg (mq_k0 d mj_m362 38 ls M) mq_gf_eq)
theorem s362_38 {d : Nat} {ls : mj_L} {st : List Value} {M : mj_H} : mj_Rn d mj_m362 38 ls st M = mj_Rn d mj_m362 40 ls (.int 8 :: st) M := mj_R0 (r := (.bipush 8, 2, 0, 0, 0)) rfl rfl
theorem s362_40 {d : Nat} {ls : mj_L} {st : List Value} {M : mj_H} : mj_Rn d mj_m362 40 ls st M = mq_k0 d mj_m362 42 ls M (mj_ldi (mj_lk ls 7) st) := mj_R0 (r := (.iload 7, 2, 0, 0, 0)) rfl rfl
theorem s362_42 {d : Nat} {ls : mj_L} {st : List Value} {M : mj_H} : mj_Rn d mj_m362 42 ls st M = mq_k0 d mj_m362 43 ls M (mj_pu .imul ls st) := mj_R0 (r := (.imul, 1, 0, 0, 0)) rfl rfl
theorem s362_43 {d : Nat} {ls : mj_L} {st : List Value} {M : mj_H} : mj_Rn d mj_m362 43 ls st M = mq_k0 d mj_m362 44 ls M (mj_lda (mj_lk ls 0) st) := mj_R0 (r := (.aload_n 0, 1, 0, 0, 0)) rfl rfl
theorem s362_44 {d : Nat} {ls : mj_L} {st : List Value} {M : mj_H} : mj_Rn d mj_m362 44 ls st M = mq_k0 d mj_m362 47 ls M (mq_gf 11 85 st M) := (mj_R3 (r := (.getfield 236, 3, 11, 85, 57478)) rfl rfl).trans (congrArg (mq_k0 d mj_m362 47 ls M) mq_gf_eq)
theorem s362_47 {d : Nat} {ls : mj_L} {st : List Value} {M : mj_H} : mj_Rn d mj_m362 47 ls st M = mq_k0 d mj_m362 49 ls M (mj_ldi (mj_lk ls 7) st) := mj_R0 (r := (.iload 7, 2, 0, 0, 0)) rfl rfl
theorem s362_49 {d : Nat} {ls : mj_L} {st : List Value} {M : mj_H} : mj_Rn d mj_m362 49 ls st M = mq_k0 d mj_m362 50 ls M (mq_al [1000] st M) := (mj_R3 (r := (.iaload, 1, 0, 0, 0)) rfl rfl).trans (congrArg (mq_k0 d mj_m362 50 ls M) mq_ali_eq)
theorem s362_50 {d : Nat} {ls : mj_L} {st : List Value} {M : mj_H} : mj_Rn d mj_m362 50 ls st M = mq_k0 d mj_m362 51 ls M (mj_ldl (mj_lk ls 2) st) := mj_R0 (r := (.lload_n 2, 1, 0, 0, 0)) rfl rfl
theorem s362_51 {d : Nat} {ls : mj_L} {st : List Value} {M : mj_H} : mj_Rn d mj_m362 51 ls st M = mq_k0 d mj_m362 53 ls M (mj_ldi (mj_lk ls 4) st) := mj_R0 (r := (.iload 4, 2, 0, 0, 0)) rfl rfl
theorem s362_53 {d : Nat} {ls : mj_L} {st : List Value} {M : mj_H} : mj_Rn (d + 1) mj_m362 53 ls st M = mq_k5a (d + 1) mj_m362 56 ls M 363 (mq_cb 0 5 11 st M) := mj_R5e (r := (.invokevirtual 623, 3, 0, 363, 41020)) (z := mj_m363) rfl rfl (by decide) (by decide) rfl
theorem s362_56 {d : Nat} {ls : mj_L} {st : List Value} {M : mj_H} : mj_Rn d mj_m362 56 ls st M = mq_k2 d mj_m362 ls M (mj_br (.ifCond .eq 7) 56 st) := mj_R2 (r := (.ifCond .eq 7, 3, 0, 0, 0)) rfl rfl
theorem s362_59 {d : Nat} {ls : mj_L} {st : List Value} {M : mj_H} : mj_Rn d mj_m362 59 ls st M = mj_Rn d mj_m362 60 ls (.int 1 :: st) M := mj_R0 (r := (.iconst 1, 1, 0, 0, 0)) rfl rfl
theorem s362_60 {d : Nat} {ls : mj_L} {st : List Value} {M : mj_H} : mj_Rn d mj_m362 60 ls st M = mj_Rn d mj_m362 64 ls st M := mj_R2 (r := (.goto 4, 3, 0, 0, 0)) rfl rfl
theorem s362_63 {d : Nat} {ls : mj_L} {st : List Value} {M : mj_H} : mj_Rn d mj_m362 63 ls st M = mj_Rn d mj_m362 64 ls (.int 0 :: st) M := mj_R0 (r := (.iconst 0, 1, 0, 0, 0)) rfl rfl
theorem s362_64 {d : Nat} {ls : mj_L} {st : List Value} {M : mj_H} : mj_Rn d mj_m362 64 ls st M = mq_k0 d mj_m362 65 ls M (mj_pu .iadd ls st) := mj_R0 (r := (.iadd, 1, 0, 0, 0)) rfl rfl
theorem s362_65 {d : Nat} {ls : mj_L} {st : List Value} {M : mj_H} : mj_Rn d mj_m362 65 ls st M = mq_k1 d mj_m362 67 M (mj_lo 8 (.istore 5) ls st) := mj_R1 (r := (.istore 5, 2, 0, 0, 0)) rfl rfl
theorem s362_67 {d : Nat} {ls : mj_L} {st : List Value} {M : mj_H} : mj_Rn d mj_m362 67 ls st M = mq_k1 d mj_m362 70 M (mj_lo 8 (.iinc 6 1) ls st) := mj_R1 (r := (.iinc 6 1, 3, 0, 0, 0)) rfl rfl
theorem s362_70 {d : Nat} {ls : mj_L} {st : List Value} {M : mj_H} : mj_Rn d mj_m362 70 ls st M = mj_Rn d mj_m362 6 ls st M := mj_R2 (r := (.goto (-64), 3, 0, 0, 0)) rfl rfl
theorem s362_73 {d : Nat} {ls : mj_L} {st : List Value} {M : mj_H} : mj_Rn d mj_m362 73 ls st M = mq_k0 d mj_m362 75 ls M (mj_ldi (mj_lk ls 5) st) := mj_R0 (r := (.iload 5, 2, 0, 0, 0)) rfl rfl
theorem s362_75 {d : Nat} {ls : mj_L} {st : List Value} {M : mj_H} : mj_Rn d mj_m362 75 ls st M = mq_k6 M (mj_re (some .int) (.ireturn) st) := mj_R6 (r := (.ireturn, 1, 0, 0, 0)) rfl rfl
/- 363 PasskeyHouseModel.isUser([IIIJI)Z -/
theorem s363_0 {d : Nat} {ls : mj_L} {st : List Value} {M : mj_H} : mj_Rn d mj_m363 0 ls st M = mq_k0 d mj_m363 1 ls M (mj_ldi (mj_lk ls 3) st) := mj_R0 (r := (.iload_n 3, 1, 0, 0, 0)) rfl rfl
theorem s363_1 {d : Nat} {ls : mj_L} {st : List Value} {M : mj_H} : mj_Rn d mj_m363 1 ls st M = mq_k0 d mj_m363 3 ls M (mj_ldi (mj_lk ls 6) st) := mj_R0 (r := (.iload 6, 2, 0, 0, 0)) rfl rfl
theorem s363_3 {d : Nat} {ls : mj_L} {st : List Value} {M : mj_H} : mj_Rn d mj_m363 3 ls st M = mq_k2 d mj_m363 ls M (mj_br (.if_icmp .ne 7) 3 st) := mj_R2 (r := (.if_icmp .ne 7, 3, 0, 0, 0)) rfl rfl
theorem s363_6 {d : Nat} {ls : mj_L} {st : List Value} {M : mj_H} : mj_Rn d mj_m363 6 ls st M = mj_Rn d mj_m363 7 ls (.int 1 :: st) M := mj_R0 (r := (.iconst 1, 1, 0, 0, 0)) rfl rfl
theorem s363_7 {d : Nat} {ls : mj_L} {st : List Value} {M : mj_H} : mj_Rn d mj_m363 7 ls st M = mj_Rn d mj_m363 11 ls st M := mj_R2 (r := (.goto 4, 3, 0, 0, 0)) rfl rfl
theorem s363_10 {d : Nat} {ls : mj_L} {st : List Value} {M : mj_H} : mj_Rn d mj_m363 10 ls st M = mj_Rn d mj_m363 11 ls (.int 0 :: st) M := mj_R0 (r := (.iconst 0, 1, 0, 0, 0)) rfl rfl
theorem s363_11 {d : Nat} {ls : mj_L} {st : List Value} {M : mj_H} : mj_Rn d mj_m363 11 ls st M = mq_k1 d mj_m363 13 M (mj_lo 9 (.istore 7) ls st) := mj_R1 (r := (.istore 7, 2, 0, 0, 0)) rfl rfl
theorem s363_13 {d : Nat} {ls : mj_L} {st : List Value} {M : mj_H} : mj_Rn d mj_m363 13 ls st M = mj_Rn d mj_m363 14 ls (.int 0 :: st) M := mj_R0 (r := (.iconst 0, 1, 0, 0, 0)) rfl rfl
theorem s363_14 {d : Nat} {ls : mj_L} {st : List Value} {M : mj_H} : mj_Rn d mj_m363 14 ls st M = mq_k1 d mj_m363 16 M (mj_lo 9 (.istore 8) ls st) := mj_R1 (r := (.istore 8, 2, 0, 0, 0)) rfl rfl
theorem s363_16 {d : Nat} {ls : mj_L} {st : List Value} {M : mj_H} : mj_Rn d mj_m363 16 ls st M = mq_k0 d mj_m363 18 ls M (mj_ldi (mj_lk ls 8) st) := mj_R0 (r := (.iload 8, 2, 0, 0, 0)) rfl rfl
theorem s363_18 {d : Nat} {ls : mj_L} {st : List Value} {M : mj_H} : mj_Rn d mj_m363 18 ls st M = mq_k0 d mj_m363 20 ls M (mj_ldi (mj_lk ls 6) st) := mj_R0 (r := (.iload 6, 2, 0, 0, 0)) rfl rfl
theorem s363_20 {d : Nat} {ls : mj_L} {st : List Value} {M : mj_H} : mj_Rn d mj_m363 20 ls st M = mq_k2 d mj_m363 ls M (mj_br (.if_icmp .ge 48) 20 st) := mj_R2 (r := (.if_icmp .ge 48, 3, 0, 0, 0)) rfl rfl
theorem s363_23 {d : Nat} {ls : mj_L} {st : List Value} {M : mj_H} : mj_Rn d mj_m363 23 ls st M = mq_k0 d mj_m363 25 ls M (mj_ldi (mj_lk ls 7) st) := mj_R0 (r := (.iload 7, 2, 0, 0, 0)) rfl rfl
theorem s363_25 {d : Nat} {ls : mj_L} {st : List Value} {M : mj_H} : mj_Rn d mj_m363 25 ls st M = mq_k2 d mj_m363 ls M (mj_br (.ifCond .eq 43) 25 st) := mj_R2 (r := (.ifCond .eq 43, 3, 0, 0, 0)) rfl rfl
theorem s363_28 {d : Nat} {ls : mj_L} {st : List Value} {M : mj_H} : mj_Rn d mj_m363 28 ls st M = mq_k0 d mj_m363 29 ls M (mj_lda (mj_lk ls 1) st) := mj_R0 (r := (.aload_n 1, 1, 0, 0, 0)) rfl rfl
theorem s363_29 {d : Nat} {ls : mj_L} {st : List Value} {M : mj_H} : mj_Rn d mj_m363 29 ls st M = mq_k0 d mj_m363 30 ls M (mj_ldi (mj_lk ls 2) st) := mj_R0 (r := (.iload_n 2, 1, 0, 0, 0)) rfl rfl
theorem s363_30 {d : Nat} {ls : mj_L} {st : List Value} {M : mj_H} : mj_Rn d mj_m363 30 ls st M = mq_k0 d mj_m363 32 ls M (mj_ldi (mj_lk ls 8) st) := mj_R0 (r := (.iload 8, 2, 0, 0, 0)) rfl rfl
theorem s363_32 {d : Nat} {ls : mj_L} {st : List Value} {M : mj_H} : mj_Rn d mj_m363 32 ls st M = mq_k0 d mj_m363 33 ls M (mj_pu .iadd ls st) := mj_R0 (r := (.iadd, 1, 0, 0, 0)) rfl rfl
theorem s363_33 {d : Nat} {ls : mj_L} {st : List Value} {M : mj_H} : mj_Rn d mj_m363 33 ls st M = mq_k0 d mj_m363 34 ls M (mq_al [1000] st M) := (mj_R3 (r := (.iaload, 1, 0, 0, 0)) rfl rfl).trans (congrArg (mq_k0 d mj_m363 34 ls M) mq_ali_eq)
theorem s363_34 {d : Nat} {ls : mj_L} {st : List Value} {M : mj_H} : mj_Rn d mj_m363 34 ls st M = mq_k0 d mj_m363 36 ls M (mj_ldl (mj_lk ls 4) st) := mj_R0 (r := (.lload 4, 2, 0, 0, 0)) rfl rfl
theorem s363_36 {d : Nat} {ls : mj_L} {st : List Value} {M : mj_H} : mj_Rn d mj_m363 36 ls st M = mj_Rn d mj_m363 38 ls (.int 8 :: st) M := mj_R0 (r := (.bipush 8, 2, 0, 0, 0)) rfl rfl
theorem s363_38 {d : Nat} {ls : mj_L} {st : List Value} {M : mj_H} : mj_Rn d mj_m363 38 ls st M = mq_k0 d mj_m363 40 ls M (mj_ldi (mj_lk ls 6) st) := mj_R0 (r := (.iload 6, 2, 0, 0, 0)) rfl rfl
theorem s363_40 {d : Nat} {ls : mj_L} {st : List Value} {M : mj_H} : mj_Rn d mj_m363 40 ls st M = mj_Rn d mj_m363 41 ls (.int 1 :: st) M := mj_R0 (r := (.iconst 1, 1, 0, 0, 0)) rfl rfl
theorem s363_41 {d : Nat} {ls : mj_L} {st : List Value} {M : mj_H} : mj_Rn d mj_m363 41 ls st M = mq_k0 d mj_m363 42 ls M (mj_pu .isub ls st) := mj_R0 (r := (.isub, 1, 0, 0, 0)) rfl rfl
theorem s363_42 {d : Nat} {ls : mj_L} {st : List Value} {M : mj_H} : mj_Rn d mj_m363 42 ls st M = mq_k0 d mj_m363 44 ls M (mj_ldi (mj_lk ls 8) st) := mj_R0 (r := (.iload 8, 2, 0, 0, 0)) rfl rfl
theorem s363_44 {d : Nat} {ls : mj_L} {st : List Value} {M : mj_H} : mj_Rn d mj_m363 44 ls st M = mq_k0 d mj_m363 45 ls M (mj_pu .isub ls st) := mj_R0 (r := (.isub, 1, 0, 0, 0)) rfl rfl
theorem s363_45 {d : Nat} {ls : mj_L} {st : List Value} {M : mj_H} : mj_Rn d mj_m363 45 ls st M = mq_k0 d mj_m363 46 ls M (mj_pu .imul ls st) := mj_R0 (r := (.imul, 1, 0, 0, 0)) rfl rfl
theorem s363_46 {d : Nat} {ls : mj_L} {st : List Value} {M : mj_H} : mj_Rn d mj_m363 46 ls st M = mq_k0 d mj_m363 47 ls M (mj_pu .lshr ls st) := mj_R0 (r := (.lshr, 1, 0, 0, 0)) rfl rfl
theorem s363_47 {d : Nat} {ls : mj_L} {st : List Value} {M : mj_H} : mj_Rn d mj_m363 47 ls st M = mj_Rn d mj_m363 50 ls (.long 255 :: st) M := mj_R3 (r := (.ldc2_w 306, 3, 1, 22, 32799)) rfl rfl
theorem s363_50 {d : Nat} {ls : mj_L} {st : List Value} {M : mj_H} : mj_Rn d mj_m363 50 ls st M = mq_k0 d mj_m363 51 ls M (mj_pu .land ls st) := mj_R0 (r := (.land, 1, 0, 0, 0)) rfl rfl
theorem s363_51 {d : Nat} {ls : mj_L} {st : List Value} {M : mj_H} : mj_Rn d mj_m363 51 ls st M = mq_k0 d mj_m363 52 ls M (mj_pu .l2i ls st) := mj_R0 (r := (.l2i, 1, 0, 0, 0)) rfl rfl
theorem s363_52 {d : Nat} {ls : mj_L} {st : List Value} {M : mj_H} : mj_Rn d mj_m363 52 ls st M = mq_k2 d mj_m363 ls M (mj_br (.if_icmp .ne 7) 52 st) := mj_R2 (r := (.if_icmp .ne 7, 3, 0, 0, 0)) rfl rfl
theorem s363_55 {d : Nat} {ls : mj_L} {st : List Value} {M : mj_H} : mj_Rn d mj_m363 55 ls st M = mj_Rn d mj_m363 56 ls (.int 1 :: st) M := mj_R0 (r := (.iconst 1, 1, 0, 0, 0)) rfl rfl
theorem s363_56 {d : Nat} {ls : mj_L} {st : List Value} {M : mj_H} : mj_Rn d mj_m363 56 ls st M = mj_Rn d mj_m363 60 ls st M := mj_R2 (r := (.goto 4, 3, 0, 0, 0)) rfl rfl
theorem s363_59 {d : Nat} {ls : mj_L} {st : List Value} {M : mj_H} : mj_Rn d mj_m363 59 ls st M = mj_Rn d mj_m363 60 ls (.int 0 :: st) M := mj_R0 (r := (.iconst 0, 1, 0, 0, 0)) rfl rfl
theorem s363_60 {d : Nat} {ls : mj_L} {st : List Value} {M : mj_H} : mj_Rn d mj_m363 60 ls st M = mq_k1 d mj_m363 62 M (mj_lo 9 (.istore 7) ls st) := mj_R1 (r := (.istore 7, 2, 0, 0, 0)) rfl rfl
theorem s363_62 {d : Nat} {ls : mj_L} {st : List Value} {M : mj_H} : mj_Rn d mj_m363 62 ls st M = mq_k1 d mj_m363 65 M (mj_lo 9 (.iinc 8 1) ls st) := mj_R1 (r := (.iinc 8 1, 3, 0, 0, 0)) rfl rfl
theorem s363_65 {d : Nat} {ls : mj_L} {st : List Value} {M : mj_H} : mj_Rn d mj_m363 65 ls st M = mj_Rn d mj_m363 16 ls st M := mj_R2 (r := (.goto (-49), 3, 0, 0, 0)) rfl rfl
theorem s363_68 {d : Nat} {ls : mj_L} {st : List Value} {M : mj_H} : mj_Rn d mj_m363 68 ls st M = mq_k0 d mj_m363 70 ls M (mj_ldi (mj_lk ls 7) st) := mj_R0 (r := (.iload 7, 2, 0, 0, 0)) rfl rfl
theorem s363_70 {d : Nat} {ls : mj_L} {st : List Value} {M : mj_H} : mj_Rn d mj_m363 70 ls st M = mq_k6 M (mj_re (some .boolean) (.ireturn) st) := mj_R6 (r := (.ireturn, 1, 0, 0, 0)) rfl rfl
/- 364 PasskeyHouseModel.tellUser(JI)V -/
theorem s364_0 {d : Nat} {ls : mj_L} {st : List Value} {M : mj_H} : mj_Rn d mj_m364 0 ls st M = mq_k0 d mj_m364 1 ls M (mj_lda (mj_lk ls 0) st) := mj_R0 (r := (.aload_n 0, 1, 0, 0, 0)) rfl rfl
theorem s364_1 {d : Nat} {ls : mj_L} {st : List Value} {M : mj_H} : mj_Rn d mj_m364 1 ls st M = mj_Rn d mj_m364 2 ls (.int 2 :: st) M := mj_R0 (r := (.iconst 2, 1, 0, 0, 0)) rfl rfl
theorem s364_2 {d : Nat} {ls : mj_L} {st : List Value} {M : mj_H} : mj_Rn d mj_m364 2 ls st M = mq_k0 d mj_m364 3 ls M (mj_ldi (mj_lk ls 3) st) := mj_R0 (r := (.iload_n 3, 1, 0, 0, 0)) rfl rfl
theorem s364_3 {d : Nat} {ls : mj_L} {st : List Value} {M : mj_H} : mj_Rn (d + 1) mj_m364 3 ls st M = mq_k5a (d + 1) mj_m364 6 ls M 281 (mq_cb 0 2 11 st M) := mj_R5e (r := (.invokevirtual 443, 3, 0, 281, 32975)) (z := mj_m281) rfl rfl (by decide) (by decide) rfl
theorem s364_6 {d : Nat} {ls : mj_L} {st : List Value} {M : mj_H} : mj_Rn d mj_m364 6 ls st M = mq_k0 d mj_m364 7 ls M (mj_ldi (mj_lk ls 3) st) := mj_R0 (r := (.iload_n 3, 1, 0, 0, 0)) rfl rfl
theorem s364_7 {d : Nat} {ls : mj_L} {st : List Value} {M : mj_H} : mj_Rn d mj_m364 7 ls st M = mj_Rn d mj_m364 8 ls (.int 1 :: st) M := mj_R0 (r := (.iconst 1, 1, 0, 0, 0)) rfl rfl
theorem s364_8 {d : Nat} {ls : mj_L} {st : List Value} {M : mj_H} : mj_Rn d mj_m364 8 ls st M = mq_k0 d mj_m364 9 ls M (mj_pu .isub ls st) := mj_R0 (r := (.isub, 1, 0, 0, 0)) rfl rfl
theorem s364_9 {d : Nat} {ls : mj_L} {st : List Value} {M : mj_H} : mj_Rn d mj_m364 9 ls st M = mq_k1 d mj_m364 11 M (mj_lo 5 (.istore 4) ls st) := mj_R1 (r := (.istore 4, 2, 0, 0, 0)) rfl rfl
theorem s364_11 {d : Nat} {ls : mj_L} {st : List Value} {M : mj_H} : mj_Rn d mj_m364 11 ls st M = mq_k0 d mj_m364 13 ls M (mj_ldi (mj_lk ls 4) st) := mj_R0 (r := (.iload 4, 2, 0, 0, 0)) rfl rfl
theorem s364_13 {d : Nat} {ls : mj_L} {st : List Value} {M : mj_H} : mj_Rn d mj_m364 13 ls st M = mq_k2 d mj_m364 ls M (mj_br (.ifCond .lt 25) 13 st) := mj_R2 (r := (.ifCond .lt 25, 3, 0, 0, 0)) rfl rfl
theorem s364_16 {d : Nat} {ls : mj_L} {st : List Value} {M : mj_H} : mj_Rn d mj_m364 16 ls st M = mq_k0 d mj_m364 17 ls M (mj_lda (mj_lk ls 0) st) := mj_R0 (r := (.aload_n 0, 1, 0, 0, 0)) rfl rfl
theorem s364_17 {d : Nat} {ls : mj_L} {st : List Value} {M : mj_H} : mj_Rn d mj_m364 17 ls st M = mq_k0 d mj_m364 18 ls M (mj_ldl (mj_lk ls 1) st) := mj_R0 (r := (.lload_n 1, 1, 0, 0, 0)) rfl rfl
theorem s364_18 {d : Nat} {ls : mj_L} {st : List Value} {M : mj_H} : mj_Rn d mj_m364 18 ls st M = mj_Rn d mj_m364 20 ls (.int 8 :: st) M := mj_R0 (r := (.bipush 8, 2, 0, 0, 0)) rfl rfl
theorem s364_20 {d : Nat} {ls : mj_L} {st : List Value} {M : mj_H} : mj_Rn d mj_m364 20 ls st M = mq_k0 d mj_m364 22 ls M (mj_ldi (mj_lk ls 4) st) := mj_R0 (r := (.iload 4, 2, 0, 0, 0)) rfl rfl
theorem s364_22 {d : Nat} {ls : mj_L} {st : List Value} {M : mj_H} : mj_Rn d mj_m364 22 ls st M = mq_k0 d mj_m364 23 ls M (mj_pu .imul ls st) := mj_R0 (r := (.imul, 1, 0, 0, 0)) rfl rfl
theorem s364_23 {d : Nat} {ls : mj_L} {st : List Value} {M : mj_H} : mj_Rn d mj_m364 23 ls st M = mq_k0 d mj_m364 24 ls M (mj_pu .lshr ls st) := mj_R0 (r := (.lshr, 1, 0, 0, 0)) rfl rfl
theorem s364_24 {d : Nat} {ls : mj_L} {st : List Value} {M : mj_H} : mj_Rn d mj_m364 24 ls st M = mj_Rn d mj_m364 27 ls (.long 255 :: st) M := mj_R3 (r := (.ldc2_w 306, 3, 1, 22, 32799)) rfl rfl
theorem s364_27 {d : Nat} {ls : mj_L} {st : List Value} {M : mj_H} : mj_Rn d mj_m364 27 ls st M = mq_k0 d mj_m364 28 ls M (mj_pu .land ls st) := mj_R0 (r := (.land, 1, 0, 0, 0)) rfl rfl
theorem s364_28 {d : Nat} {ls : mj_L} {st : List Value} {M : mj_H} : mj_Rn d mj_m364 28 ls st M = mq_k0 d mj_m364 29 ls M (mj_pu .l2i ls st) := mj_R0 (r := (.l2i, 1, 0, 0, 0)) rfl rfl
theorem s364_29 {d : Nat} {ls : mj_L} {st : List Value} {M : mj_H} : mj_Rn (d + 1) mj_m364 29 ls st M = mq_k5a (d + 1) mj_m364 32 ls M 279 (mq_cb 0 1 11 st M) := mj_R5e (r := (.invokevirtual 440, 3, 0, 279, 32967)) (z := mj_m279) rfl rfl (by decide) (by decide) rfl
theorem s364_32 {d : Nat} {ls : mj_L} {st : List Value} {M : mj_H} : mj_Rn d mj_m364 32 ls st M = mq_k1 d mj_m364 35 M (mj_lo 5 (.iinc 4 (-1)) ls st) := mj_R1 (r := (.iinc 4 (-1), 3, 0, 0, 0)) rfl rfl
theorem s364_35 {d : Nat} {ls : mj_L} {st : List Value} {M : mj_H} : mj_Rn d mj_m364 35 ls st M = mj_Rn d mj_m364 11 ls st M := mj_R2 (r := (.goto (-24), 3, 0, 0, 0)) rfl rfl
theorem s364_38 {d : Nat} {ls : mj_L} {st : List Value} {M : mj_H} : mj_Rn d mj_m364 38 ls st M = mq_k6 M (mj_re none (.return_) st) := mj_R6 (r := (.return_, 1, 0, 0, 0)) rfl rfl
theorem c362 {d : Nat} {a0 : Nat} {x1 : Int32} {x2 : Int64} {x3 : Int32} {M : mj_H} : mj_V (d + 1) 362 [.ref a0, .int x1, .long x2, .int x3] M = mj_Rn d mj_m362 0 [(0, .ref a0), (1, .int x1), (2, .long x2), (4, .int x3)] [] M := mj_V_go rfl (Nat.le_of_ble_eq_true rfl)
theorem c363 {d : Nat} {a0 : Nat} {a1 : Nat} {x2 : Int32} {x3 : Int32} {x4 : Int64} {x5 : Int32} {M : mj_H} : mj_V (d + 1) 363 [.ref a0, .ref a1, .int x2, .int x3, .long x4, .int x5] M = mj_Rn d mj_m363 0 [(0, .ref a0), (1, .ref a1), (2, .int x2), (3, .int x3), (4, .long x4), (6, .int x5)] [] M := mj_V_go rfl (Nat.le_of_ble_eq_true rfl)
theorem c364 {d : Nat} {a0 : Nat} {x1 : Int64} {x2 : Int32} {M : mj_H} : mj_V (d + 1) 364 [.ref a0, .long x1, .int x2] M = mj_Rn d mj_m364 0 [(0, .ref a0), (1, .long x1), (3, .int x2)] [] M := mj_V_go rfl (Nat.le_of_ble_eq_true rfl)
section
variable {d : Nat} {B : Bs} {x : Fx} {y : Sy} {H : Ho} {M : mj_H} {T : Tm} {D O : List Int32} {j : Nat}
theorem party_at {i : Int32} {j : Nat} (hi : ix i H.2.2.2.2.length = some j) : ∃ p, H.2.2.2.2[j]? = some p ∧ i = nI j := by
  obtain ⟨rfl, hj, -⟩ := ix_some hi
  exact ⟨_, List.getElem?_eq_getElem hj, rfl⟩
theorem q_challengeOf (z : mz x y H) (c p : Int32) (hp : p = -1 ∨ (pOf H p).isSome = true) : mj_V (d + 1) 359 [.ref 67, .int c, .int p] (mm B x y) = some (some (.int (chOf c (pOf H p))), mm B x y) := by
  unfold chOf
  by_cases hc : c = 0
  · rw [if_neg (fun w => w hc)]
    by_cases h1 : p = -1
    · subst h1
      have e : pOf H (-1) = none := rfl
      rw [e]
      simp (disch := (first | omega | decide)) [S_cb_mmade4_0, S_bx_mcan1_0, S_b8_mkey_1, S_b8_mkey_0, S_b1_mterm_0, S_b1_copy_0, S_b0_mod_7, S_b0_mod_6, S_b0_mod_5, S_b0_mod_3, S_b0_mod_2, S_b0_mod_1, S_b0_mod_0, S_cb_mmade4_1h, S_bx_mcan1_1h, S_b0_mod_4h, c359, s359_0, s359_1, s359_4, s359_5, s359_6, s359_9, s359_10, s359_13, s359_14, s359_15, s359_18, s359_19, s359_22, s359_23, s359_24, s359_25, s359_28, s359_29, s359_32, s359_33, s359_34, s359_35, s359_36, s359_39, s359_40, s359_41, s359_42, s359_43, s359_44, s359_45, s359_48, s359_49, mq_k0s, mq_k1s, mq_k2s, mq_k4s, mq_k5s, mq_k5n, mq_k5as, mq_k6s, mj_pu, mj_lo, mj_br, mj_hr, mj_hw, mq_gf, mq_len, mq_al, mq_pf, mq_ok, mj_re, mq_lkm, mq_lkn, mj_ldi, mj_ldl, mj_lda, mj_ii, mj_ll, mj_li, mj_i1, ms_1, ms_2, f1_n, f1_i, f1_r, f1_u, f1_l, f2_n, f2_i, f2_r, f2_u, f2_l, mj_tg, mj_c1, mj_c2, mj_ar, mj_aw, mq_cb, mq_oi, mj_rm, Value.category, -getElem?_pos, List.getElem?_cons_zero, decide_eq_true, decide_eq_false, nl_lt, nl_le, ln_lt, ln_le, nl_eq, ln_eq, nl_add, ln_add, nl_sub, ln_mul, nI_sub, nI_mul, nI_add, nI_lt_iff, nI_le_iff, nI_inj, nI_num, mq_ix, nI_1, nl_mul, nl_div, hc, narrow]
    · have h2 := hp.resolve_left h1
      unfold pOf at h2 ⊢
      cases hi : ix p H.2.2.2.2.length with
      | none => rw [hi] at h2; cases h2
      | some j =>
        obtain ⟨q, hq, rfl⟩ := party_at hi
        obtain ⟨-, hj, -⟩ := ix_some hi
        have hj4 := z.h.n4
        have hM := z.h.ps j q hq
        have ho := hM.of
        have h4 := hM.of4
        have l1 := z.h.l.offers
        have l2 := z.h.l.offerTerm
        simp only [Option.bind_some, hq]
        by_cases h0 : q.2.2.1.length = 0
        · rw [List.getLast?_eq_none_iff.mpr (List.eq_nil_of_length_eq_zero h0)]
          rw [h0] at ho
          simp (disch := (first | omega | decide)) [S_cb_mmade4_0, S_bx_mcan1_0, S_b8_mkey_1, S_b8_mkey_0, S_b1_mterm_0, S_b1_copy_0, S_b0_mod_7, S_b0_mod_6, S_b0_mod_5, S_b0_mod_3, S_b0_mod_2, S_b0_mod_1, S_b0_mod_0, S_cb_mmade4_1h, S_bx_mcan1_1h, S_b0_mod_4h, c359, s359_0, s359_1, s359_4, s359_5, s359_6, s359_9, s359_10, s359_13, s359_14, s359_15, s359_18, s359_19, s359_22, s359_23, s359_24, s359_25, s359_28, s359_29, s359_32, s359_33, s359_34, s359_35, s359_36, s359_39, s359_40, s359_41, s359_42, s359_43, s359_44, s359_45, s359_48, s359_49, mq_k0s, mq_k1s, mq_k2s, mq_k4s, mq_k5s, mq_k5n, mq_k5as, mq_k6s, mj_pu, mj_lo, mj_br, mj_hr, mj_hw, mq_gf, mq_len, mq_al, mq_pf, mq_ok, mj_re, mq_lkm, mq_lkn, mj_ldi, mj_ldl, mj_lda, mj_ii, mj_ll, mj_li, mj_i1, ms_1, ms_2, f1_n, f1_i, f1_r, f1_u, f1_l, f2_n, f2_i, f2_r, f2_u, f2_l, mj_tg, mj_c1, mj_c2, mj_ar, mj_aw, mq_cb, mq_oi, mj_rm, Value.category, -getElem?_pos, List.getElem?_cons_zero, decide_eq_true, decide_eq_false, nl_lt, nl_le, ln_lt, ln_le, nl_eq, ln_eq, nl_add, ln_add, nl_sub, ln_mul, nI_sub, nI_mul, nI_add, nI_lt_iff, nI_le_iff, nI_inj, nI_num, mq_ix, nI_1, nl_mul, nl_div, hc, h1, l1, ho, narrow]
        · have hl : q.2.2.1.getLast? = q.2.2.1[q.2.2.1.length - 1]? := List.getLast?_eq_getElem?
          have hg : q.2.2.1[q.2.2.1.length - 1]? = some (q.2.2.1[q.2.2.1.length - 1]'(by omega)) := List.getElem?_eq_getElem (by omega)
          rw [hl, hg]
          have ht := (hM.os _ _ hg).te
          generalize q.2.2.1[q.2.2.1.length - 1]'(by omega) = o at *
          have e : 4 * j + q.2.2.1.length - 1 = 4 * j + (q.2.2.1.length - 1) := by omega
          simp (disch := (first | omega | decide)) [S_cb_mmade4_0, S_bx_mcan1_0, S_b8_mkey_1, S_b8_mkey_0, S_b1_mterm_0, S_b1_copy_0, S_b0_mod_7, S_b0_mod_6, S_b0_mod_5, S_b0_mod_3, S_b0_mod_2, S_b0_mod_1, S_b0_mod_0, S_cb_mmade4_1h, S_bx_mcan1_1h, S_b0_mod_4h, c359, s359_0, s359_1, s359_4, s359_5, s359_6, s359_9, s359_10, s359_13, s359_14, s359_15, s359_18, s359_19, s359_22, s359_23, s359_24, s359_25, s359_28, s359_29, s359_32, s359_33, s359_34, s359_35, s359_36, s359_39, s359_40, s359_41, s359_42, s359_43, s359_44, s359_45, s359_48, s359_49, mq_k0s, mq_k1s, mq_k2s, mq_k4s, mq_k5s, mq_k5n, mq_k5as, mq_k6s, mj_pu, mj_lo, mj_br, mj_hr, mj_hw, mq_gf, mq_len, mq_al, mq_pf, mq_ok, mj_re, mq_lkm, mq_lkn, mj_ldi, mj_ldl, mj_lda, mj_ii, mj_ll, mj_li, mj_i1, ms_1, ms_2, f1_n, f1_i, f1_r, f1_u, f1_l, f2_n, f2_i, f2_r, f2_u, f2_l, mj_tg, mj_c1, mj_c2, mj_ar, mj_aw, mq_cb, mq_oi, mj_rm, Value.category, -getElem?_pos, List.getElem?_cons_zero, decide_eq_true, decide_eq_false, nl_lt, nl_le, ln_lt, ln_le, nl_eq, ln_eq, nl_add, ln_add, nl_sub, ln_mul, nI_sub, nI_mul, nI_add, nI_lt_iff, nI_le_iff, nI_inj, nI_num, mq_ix, nI_1, nl_mul, nl_div, hc, h1, l1, l2, ho, h0, e, ht, narrow]
  · rw [if_pos hc]
    simp (disch := (first | omega | decide)) [S_cb_mmade4_0, S_bx_mcan1_0, S_b8_mkey_1, S_b8_mkey_0, S_b1_mterm_0, S_b1_copy_0, S_b0_mod_7, S_b0_mod_6, S_b0_mod_5, S_b0_mod_3, S_b0_mod_2, S_b0_mod_1, S_b0_mod_0, S_cb_mmade4_1h, S_bx_mcan1_1h, S_b0_mod_4h, c359, s359_0, s359_1, s359_4, s359_5, s359_6, s359_9, s359_10, s359_13, s359_14, s359_15, s359_18, s359_19, s359_22, s359_23, s359_24, s359_25, s359_28, s359_29, s359_32, s359_33, s359_34, s359_35, s359_36, s359_39, s359_40, s359_41, s359_42, s359_43, s359_44, s359_45, s359_48, s359_49, mq_k0s, mq_k1s, mq_k2s, mq_k4s, mq_k5s, mq_k5n, mq_k5as, mq_k6s, mj_pu, mj_lo, mj_br, mj_hr, mj_hw, mq_gf, mq_len, mq_al, mq_pf, mq_ok, mj_re, mq_lkm, mq_lkn, mj_ldi, mj_ldl, mj_lda, mj_ii, mj_ll, mj_li, mj_i1, ms_1, ms_2, f1_n, f1_i, f1_r, f1_u, f1_l, f2_n, f2_i, f2_r, f2_u, f2_l, mj_tg, mj_c1, mj_c2, mj_ar, mj_aw, mq_cb, mq_oi, mj_rm, Value.category, -getElem?_pos, List.getElem?_cons_zero, decide_eq_true, decide_eq_false, nl_lt, nl_le, ln_lt, ln_le, nl_eq, ln_eq, nl_add, ln_add, nl_sub, ln_mul, nI_sub, nI_mul, nI_add, nI_lt_iff, nI_le_iff, nI_inj, nI_num, mq_ix, nI_1, nl_mul, nl_div, hc, narrow]
theorem q_clientHash (h : yz y T D O) {q : Hd} (zl : xh x) (hm : hM x j q) (hj : j < 4) (kind c : Int32) (hT : T.1.length < 1000) : ∃ y', mj_V (d + 4) 360 [.ref 67, .int (nI j), .int kind, .int c] (mm B x y) = some (some (.int (cl_h q T kind c)), mm B x y') ∧ ∃ D', yz y' (tm_mk T (chRow kind c q.2.1)) D' O := by
  have l1 := zl.pages
  have l3 := zl.pageLong
  have ht := hm.pl
  have h40 := hm.p40
  have hsl : (x.2.1.2.1.2.2.drop (40 * j)).take q.2.1.length = q.2.1 := sub_eq hm.pg rfl
  obtain ⟨y1, p1, z1, k1⟩ := q_begin (d := d + 2) (B := B) (x := x) h 7
  obtain ⟨y2, p2, z2, k2⟩ := q_say (d := d + 2) (B := B) (x := x) z1 (by simp [S_cb_mmade4_0, S_bx_mcan1_0, S_b8_mkey_1, S_b8_mkey_0, S_b1_mterm_0, S_b1_copy_0, S_b0_mod_7, S_b0_mod_6, S_b0_mod_5, S_b0_mod_3, S_b0_mod_2, S_b0_mod_1, S_b0_mod_0, S_cb_mmade4_1h, S_bx_mcan1_1h, S_b0_mod_4h]) kind
  obtain ⟨y3, p3, z3, k3⟩ := q_sayInt (d := d + 1) (B := B) (x := x) z2 (by simp [S_cb_mmade4_0, S_bx_mcan1_0, S_b8_mkey_1, S_b8_mkey_0, S_b1_mterm_0, S_b1_copy_0, S_b0_mod_7, S_b0_mod_6, S_b0_mod_5, S_b0_mod_3, S_b0_mod_2, S_b0_mod_1, S_b0_mod_0, S_cb_mmade4_1h, S_bx_mcan1_1h, S_b0_mod_4h]) c
  obtain ⟨y4, p4, z4, k4⟩ := q_sayBytes (d := d + 1) (B := B) (x := x) (a := 124) (q := 40 * j) (n := q.2.1.length) (l := x.2.1.2.1.2.2) z3 (fun y' _ => by simp [S_cb_mmade4_0, S_bx_mcan1_0, S_b8_mkey_1, S_b8_mkey_0, S_b1_mterm_0, S_b1_copy_0, S_b0_mod_7, S_b0_mod_6, S_b0_mod_5, S_b0_mod_3, S_b0_mod_2, S_b0_mod_1, S_b0_mod_0, S_cb_mmade4_1h, S_bx_mcan1_1h, S_b0_mod_4h]) (by omega) (by omega) (by simp [S_cb_mmade4_0, S_bx_mcan1_0, S_b8_mkey_1, S_b8_mkey_0, S_b1_mterm_0, S_b1_copy_0, S_b0_mod_7, S_b0_mod_6, S_b0_mod_5, S_b0_mod_3, S_b0_mod_2, S_b0_mod_1, S_b0_mod_0, S_cb_mmade4_1h, S_bx_mcan1_1h, S_b0_mod_4h, b4_len]; omega)
  have e : [7] ++ [kind] ++ b4 c ++ (x.2.1.2.1.2.2.drop (40 * j)).take q.2.1.length = chRow kind c q.2.1 := by rw [hsl]; simp [S_cb_mmade4_0, S_bx_mcan1_0, S_b8_mkey_1, S_b8_mkey_0, S_b1_mterm_0, S_b1_copy_0, S_b0_mod_7, S_b0_mod_6, S_b0_mod_5, S_b0_mod_3, S_b0_mod_2, S_b0_mod_1, S_b0_mod_0, S_cb_mmade4_1h, S_bx_mcan1_1h, S_b0_mod_4h, chRow]
  rw [e] at z4
  obtain ⟨y5, p5, z5, k5⟩ := q_term (d := d) (B := B) (x := x) z4 (by simp [S_cb_mmade4_0, S_bx_mcan1_0, S_b8_mkey_1, S_b8_mkey_0, S_b1_mterm_0, S_b1_copy_0, S_b0_mod_7, S_b0_mod_6, S_b0_mod_5, S_b0_mod_3, S_b0_mod_2, S_b0_mod_1, S_b0_mod_0, S_cb_mmade4_1h, S_bx_mcan1_1h, S_b0_mod_4h, chRow]) (by simp [S_cb_mmade4_0, S_bx_mcan1_0, S_b8_mkey_1, S_b8_mkey_0, S_b1_mterm_0, S_b1_copy_0, S_b0_mod_7, S_b0_mod_6, S_b0_mod_5, S_b0_mod_3, S_b0_mod_2, S_b0_mod_1, S_b0_mod_0, S_cb_mmade4_1h, S_bx_mcan1_1h, S_b0_mod_4h, chRow, b4_len]; omega) hT
  refine ⟨y5, ?_, _, z5⟩
  unfold cl_h
  generalize nI (tm_no T (chRow kind c q.2.1)) = res at *
  simp (disch := (first | omega | decide)) [S_cb_mmade4_0, S_bx_mcan1_0, S_b8_mkey_1, S_b8_mkey_0, S_b1_mterm_0, S_b1_copy_0, S_b0_mod_7, S_b0_mod_6, S_b0_mod_5, S_b0_mod_3, S_b0_mod_2, S_b0_mod_1, S_b0_mod_0, S_cb_mmade4_1h, S_bx_mcan1_1h, S_b0_mod_4h, c360, s360_0, s360_1, s360_3, s360_6, s360_7, s360_8, s360_11, s360_12, s360_13, s360_16, s360_17, s360_18, s360_21, s360_23, s360_24, s360_25, s360_26, s360_29, s360_30, s360_31, s360_34, s360_35, s360_38, mq_k0s, mq_k1s, mq_k2s, mq_k4s, mq_k5s, mq_k5n, mq_k5as, mq_k6s, mj_pu, mj_lo, mj_br, mj_hr, mj_hw, mq_gf, mq_len, mq_al, mq_pf, mq_ok, mj_re, mq_lkm, mq_lkn, mj_ldi, mj_ldl, mj_lda, mj_ii, mj_ll, mj_li, mj_i1, ms_1, ms_2, f1_n, f1_i, f1_r, f1_u, f1_l, f2_n, f2_i, f2_r, f2_u, f2_l, mj_tg, mj_c1, mj_c2, mj_ar, mj_aw, mq_cb, mq_oi, mj_rm, Value.category, -getElem?_pos, List.getElem?_cons_zero, decide_eq_true, decide_eq_false, nl_lt, nl_le, ln_lt, ln_le, nl_eq, ln_eq, nl_add, ln_add, nl_sub, ln_mul, nI_sub, nI_mul, nI_add, nI_lt_iff, nI_le_iff, nI_inj, nI_num, mq_ix, nI_1, nl_mul, nl_div, p1, l1, l3, ht, p2, p3, p4, p5, narrow]
theorem q_markOf (h : yz y T D O) {q : Hd} (zl : xh x) (hm : hM x j q) (hj : j < 4) (hash : Int32) (hT : T.1.length < 1000) : ∃ y', mj_V (d + 4) 361 [.ref 67, .int (nI j), .int hash] (mm B x y) = some (some (.int (nI (tm_no T (mkRow q hash)))), mm B x y') ∧ ∃ D', yz y' (tm_mk T (mkRow q hash)) D' O := by
  have l1 := zl.tokenOf
  have ht := hm.to
  obtain ⟨y1, p1, z1, k1⟩ := q_begin (d := d + 2) (B := B) (x := x) h 10
  obtain ⟨y2, p2, z2, k2⟩ := q_say (d := d + 2) (B := B) (x := x) z1 (by simp [S_cb_mmade4_0, S_bx_mcan1_0, S_b8_mkey_1, S_b8_mkey_0, S_b1_mterm_0, S_b1_copy_0, S_b0_mod_7, S_b0_mod_6, S_b0_mod_5, S_b0_mod_3, S_b0_mod_2, S_b0_mod_1, S_b0_mod_0, S_cb_mmade4_1h, S_bx_mcan1_1h, S_b0_mod_4h]) q.2.2.2.2
  obtain ⟨y3, p3, z3, k3⟩ := q_sayInt (d := d + 1) (B := B) (x := x) z2 (by simp [S_cb_mmade4_0, S_bx_mcan1_0, S_b8_mkey_1, S_b8_mkey_0, S_b1_mterm_0, S_b1_copy_0, S_b0_mod_7, S_b0_mod_6, S_b0_mod_5, S_b0_mod_3, S_b0_mod_2, S_b0_mod_1, S_b0_mod_0, S_cb_mmade4_1h, S_bx_mcan1_1h, S_b0_mod_4h]) hash
  have e : [10] ++ [q.2.2.2.2] ++ b4 hash = mkRow q hash := by simp [S_cb_mmade4_0, S_bx_mcan1_0, S_b8_mkey_1, S_b8_mkey_0, S_b1_mterm_0, S_b1_copy_0, S_b0_mod_7, S_b0_mod_6, S_b0_mod_5, S_b0_mod_3, S_b0_mod_2, S_b0_mod_1, S_b0_mod_0, S_cb_mmade4_1h, S_bx_mcan1_1h, S_b0_mod_4h, mkRow]
  rw [e] at z3
  obtain ⟨y5, p5, z5, k5⟩ := q_term (d := d) (B := B) (x := x) z3 (by simp [S_cb_mmade4_0, S_bx_mcan1_0, S_b8_mkey_1, S_b8_mkey_0, S_b1_mterm_0, S_b1_copy_0, S_b0_mod_7, S_b0_mod_6, S_b0_mod_5, S_b0_mod_3, S_b0_mod_2, S_b0_mod_1, S_b0_mod_0, S_cb_mmade4_1h, S_bx_mcan1_1h, S_b0_mod_4h, mkRow]) (by simp [S_cb_mmade4_0, S_bx_mcan1_0, S_b8_mkey_1, S_b8_mkey_0, S_b1_mterm_0, S_b1_copy_0, S_b0_mod_7, S_b0_mod_6, S_b0_mod_5, S_b0_mod_3, S_b0_mod_2, S_b0_mod_1, S_b0_mod_0, S_cb_mmade4_1h, S_bx_mcan1_1h, S_b0_mod_4h, mkRow, b4_len]) hT
  refine ⟨y5, ?_, _, z5⟩
  generalize nI (tm_no T (mkRow q hash)) = res at *
  simp (disch := (first | omega | decide)) [S_cb_mmade4_0, S_bx_mcan1_0, S_b8_mkey_1, S_b8_mkey_0, S_b1_mterm_0, S_b1_copy_0, S_b0_mod_7, S_b0_mod_6, S_b0_mod_5, S_b0_mod_3, S_b0_mod_2, S_b0_mod_1, S_b0_mod_0, S_cb_mmade4_1h, S_bx_mcan1_1h, S_b0_mod_4h, c361, s361_0, s361_1, s361_3, s361_6, s361_7, s361_8, s361_11, s361_12, s361_13, s361_16, s361_17, s361_18, s361_21, s361_22, s361_25, mq_k0s, mq_k1s, mq_k2s, mq_k4s, mq_k5s, mq_k5n, mq_k5as, mq_k6s, mj_pu, mj_lo, mj_br, mj_hr, mj_hw, mq_gf, mq_len, mq_al, mq_pf, mq_ok, mj_re, mq_lkm, mq_lkn, mj_ldi, mj_ldl, mj_lda, mj_ii, mj_ll, mj_li, mj_i1, ms_1, ms_2, f1_n, f1_i, f1_r, f1_u, f1_l, f2_n, f2_i, f2_r, f2_u, f2_l, mj_tg, mj_c1, mj_c2, mj_ar, mj_aw, mq_cb, mq_oi, mj_rm, Value.category, -getElem?_pos, List.getElem?_cons_zero, decide_eq_true, decide_eq_false, nl_lt, nl_le, ln_lt, ln_le, nl_eq, ln_eq, nl_add, ln_add, nl_sub, ln_mul, nI_sub, nI_mul, nI_add, nI_lt_iff, nI_le_iff, nI_inj, nI_num, mq_ix, nI_1, nl_mul, nl_div, p1, l1, ht, p2, p3, p5, narrow]
/-- is it this user -/
theorem l_user0 {a q n k : Nat} {w : Int64} (ln : Int32) (hk : k ≤ n) (hn : n < 100) : mj_Rn d mj_m363 16 [(8, .int (nI k)), (7, .int 0), (0, .ref 67), (1, .ref a), (2, .int (nI q)), (3, .int ln), (4, .long w), (6, .int (nI n))] [] M = some (some (.int 0), M) := by
  by_cases h : n ≤ k
  · simp (disch := (first | omega | decide)) [S_cb_mmade4_0, S_bx_mcan1_0, S_b8_mkey_1, S_b8_mkey_0, S_b1_mterm_0, S_b1_copy_0, S_b0_mod_7, S_b0_mod_6, S_b0_mod_5, S_b0_mod_3, S_b0_mod_2, S_b0_mod_1, S_b0_mod_0, S_cb_mmade4_1h, S_bx_mcan1_1h, S_b0_mod_4h, s363_0, s363_1, s363_3, s363_6, s363_7, s363_10, s363_11, s363_13, s363_14, s363_16, s363_18, s363_20, s363_23, s363_25, s363_28, s363_29, s363_30, s363_32, s363_33, s363_34, s363_36, s363_38, s363_40, s363_41, s363_42, s363_44, s363_45, s363_46, s363_47, s363_50, s363_51, s363_52, s363_55, s363_56, s363_59, s363_60, s363_62, s363_65, s363_68, s363_70, mq_k0s, mq_k1s, mq_k2s, mq_k4s, mq_k5s, mq_k5n, mq_k5as, mq_k6s, mj_pu, mj_lo, mj_br, mj_hr, mj_hw, mq_gf, mq_len, mq_al, mq_pf, mq_ok, mj_re, mq_lkm, mq_lkn, mj_ldi, mj_ldl, mj_lda, mj_ii, mj_ll, mj_li, mj_i1, ms_1, ms_2, f1_n, f1_i, f1_r, f1_u, f1_l, f2_n, f2_i, f2_r, f2_u, f2_l, mj_tg, mj_c1, mj_c2, mj_ar, mj_aw, mq_cb, mq_oi, mj_rm, Value.category, -getElem?_pos, List.getElem?_cons_zero, decide_eq_true, decide_eq_false, nl_lt, nl_le, ln_lt, ln_le, nl_eq, ln_eq, nl_add, ln_add, nl_sub, ln_mul, nI_sub, nI_mul, nI_add, nI_lt_iff, nI_le_iff, nI_inj, nI_num, mq_ix, nI_1, h, narrow_b0]
  · simp (disch := (first | omega | decide)) [S_cb_mmade4_0, S_bx_mcan1_0, S_b8_mkey_1, S_b8_mkey_0, S_b1_mterm_0, S_b1_copy_0, S_b0_mod_7, S_b0_mod_6, S_b0_mod_5, S_b0_mod_3, S_b0_mod_2, S_b0_mod_1, S_b0_mod_0, S_cb_mmade4_1h, S_bx_mcan1_1h, S_b0_mod_4h, s363_0, s363_1, s363_3, s363_6, s363_7, s363_10, s363_11, s363_13, s363_14, s363_16, s363_18, s363_20, s363_23, s363_25, s363_28, s363_29, s363_30, s363_32, s363_33, s363_34, s363_36, s363_38, s363_40, s363_41, s363_42, s363_44, s363_45, s363_46, s363_47, s363_50, s363_51, s363_52, s363_55, s363_56, s363_59, s363_60, s363_62, s363_65, s363_68, s363_70, mq_k0s, mq_k1s, mq_k2s, mq_k4s, mq_k5s, mq_k5n, mq_k5as, mq_k6s, mj_pu, mj_lo, mj_br, mj_hr, mj_hw, mq_gf, mq_len, mq_al, mq_pf, mq_ok, mj_re, mq_lkm, mq_lkn, mj_ldi, mj_ldl, mj_lda, mj_ii, mj_ll, mj_li, mj_i1, ms_1, ms_2, f1_n, f1_i, f1_r, f1_u, f1_l, f2_n, f2_i, f2_r, f2_u, f2_l, mj_tg, mj_c1, mj_c2, mj_ar, mj_aw, mq_cb, mq_oi, mj_rm, Value.category, -getElem?_pos, List.getElem?_cons_zero, decide_eq_true, decide_eq_false, nl_lt, nl_le, ln_lt, ln_le, nl_eq, ln_eq, nl_add, ln_add, nl_sub, ln_mul, nI_sub, nI_mul, nI_add, nI_lt_iff, nI_le_iff, nI_inj, nI_num, mq_ix, nI_1, h, narrow_b0]
theorem l_user {a q n : Nat} {w : Int64} {l : List Int32} {ln : Int32} (ha : M[a]? = some (1000, vi l)) (hl : l.length < 2 ^ 30) (hq : q + n ≤ l.length) (h8 : n ≤ 8) : ∀ (r k : Nat), k + r = n →
    mj_Rn d mj_m363 16 [(8, .int (nI k)), (7, .int 1), (0, .ref 67), (1, .ref a), (2, .int (nI q)), (3, .int ln), (4, .long w), (6, .int (nI n))] [] M = some (some (.int (on1 (decide ((l.drop (q + k)).take r = bt_low w r)))), M) := by
  intro r
  induction r with
  | zero =>
    intro k hk
    simp (disch := (first | omega | decide)) [S_cb_mmade4_0, S_bx_mcan1_0, S_b8_mkey_1, S_b8_mkey_0, S_b1_mterm_0, S_b1_copy_0, S_b0_mod_7, S_b0_mod_6, S_b0_mod_5, S_b0_mod_3, S_b0_mod_2, S_b0_mod_1, S_b0_mod_0, S_cb_mmade4_1h, S_bx_mcan1_1h, S_b0_mod_4h, s363_0, s363_1, s363_3, s363_6, s363_7, s363_10, s363_11, s363_13, s363_14, s363_16, s363_18, s363_20, s363_23, s363_25, s363_28, s363_29, s363_30, s363_32, s363_33, s363_34, s363_36, s363_38, s363_40, s363_41, s363_42, s363_44, s363_45, s363_46, s363_47, s363_50, s363_51, s363_52, s363_55, s363_56, s363_59, s363_60, s363_62, s363_65, s363_68, s363_70, mq_k0s, mq_k1s, mq_k2s, mq_k4s, mq_k5s, mq_k5n, mq_k5as, mq_k6s, mj_pu, mj_lo, mj_br, mj_hr, mj_hw, mq_gf, mq_len, mq_al, mq_pf, mq_ok, mj_re, mq_lkm, mq_lkn, mj_ldi, mj_ldl, mj_lda, mj_ii, mj_ll, mj_li, mj_i1, ms_1, ms_2, f1_n, f1_i, f1_r, f1_u, f1_l, f2_n, f2_i, f2_r, f2_u, f2_l, mj_tg, mj_c1, mj_c2, mj_ar, mj_aw, mq_cb, mq_oi, mj_rm, Value.category, -getElem?_pos, List.getElem?_cons_zero, decide_eq_true, decide_eq_false, nl_lt, nl_le, ln_lt, ln_le, nl_eq, ln_eq, nl_add, ln_add, nl_sub, ln_mul, nI_sub, nI_mul, nI_add, nI_lt_iff, nI_le_iff, nI_inj, nI_num, mq_ix, nI_1, show n ≤ k by omega, narrow_b1, on1, bt_low]
  | succ r ih =>
    intro k hk
    have rr := ih (k + 1) (by omega)
    have hv1 : l[q + k]? = some l[q + k] := List.getElem?_eq_getElem (by omega)
    have e0 := sslB' w (m := r) (by omega)
    rw [take_ne (show q + k < l.length by omega), bt_low]
    rw [← Nat.add_assoc] at rr
    generalize (l.drop (q + k + 1)).take r = w1 at *
    generalize l[q + k] = u at *
    generalize bt_low w r = w2 at *
    have i1 : q + k < l.length := by omega
    have e1 : n - 1 - k = r := by omega
    rw [s363_16]
    by_cases huv : u = bt_by w r
    · subst huv
      simp only [List.cons.injEq, true_and]
      simp (disch := (first | omega | decide)) [S_cb_mmade4_0, S_bx_mcan1_0, S_b8_mkey_1, S_b8_mkey_0, S_b1_mterm_0, S_b1_copy_0, S_b0_mod_7, S_b0_mod_6, S_b0_mod_5, S_b0_mod_3, S_b0_mod_2, S_b0_mod_1, S_b0_mod_0, S_cb_mmade4_1h, S_bx_mcan1_1h, S_b0_mod_4h, s363_0, s363_1, s363_3, s363_6, s363_7, s363_10, s363_11, s363_13, s363_14, s363_18, s363_20, s363_23, s363_25, s363_28, s363_29, s363_30, s363_32, s363_33, s363_34, s363_36, s363_38, s363_40, s363_41, s363_42, s363_44, s363_45, s363_46, s363_47, s363_50, s363_51, s363_52, s363_55, s363_56, s363_59, s363_60, s363_62, s363_65, s363_68, s363_70, mq_k0s, mq_k1s, mq_k2s, mq_k4s, mq_k5s, mq_k5n, mq_k5as, mq_k6s, mj_pu, mj_lo, mj_br, mj_hr, mj_hw, mq_gf, mq_len, mq_al, mq_pf, mq_ok, mj_re, mq_lkm, mq_lkn, mj_ldi, mj_ldl, mj_lda, mj_ii, mj_ll, mj_li, mj_i1, ms_1, ms_2, f1_n, f1_i, f1_r, f1_u, f1_l, f2_n, f2_i, f2_r, f2_u, f2_l, mj_tg, mj_c1, mj_c2, mj_ar, mj_aw, mq_cb, mq_oi, mj_rm, Value.category, -getElem?_pos, List.getElem?_cons_zero, decide_eq_true, decide_eq_false, nl_lt, nl_le, ln_lt, ln_le, nl_eq, ln_eq, nl_add, ln_add, nl_sub, ln_mul, nI_sub, nI_mul, nI_add, nI_lt_iff, nI_le_iff, nI_inj, nI_num, mq_ix, nI_1, ha, hv1, e1, e0, show ¬ n ≤ k by omega]
      refine mq_wk ?_ rr
      simp [S_cb_mmade4_0, S_bx_mcan1_0, S_b8_mkey_1, S_b8_mkey_0, S_b1_mterm_0, S_b1_copy_0, S_b0_mod_7, S_b0_mod_6, S_b0_mod_5, S_b0_mod_3, S_b0_mod_2, S_b0_mod_1, S_b0_mod_0, S_cb_mmade4_1h, S_bx_mcan1_1h, S_b0_mod_4h, mq_sub, mj_lk]
    · simp only [List.cons.injEq, huv, false_and, decide_false]
      have r0 := l_user0 (d := d) (M := M) (a := a) (q := q) (n := n) (k := k + 1) (w := w) ln (by omega) (by omega)
      simp (disch := (first | omega | decide)) [S_cb_mmade4_0, S_bx_mcan1_0, S_b8_mkey_1, S_b8_mkey_0, S_b1_mterm_0, S_b1_copy_0, S_b0_mod_7, S_b0_mod_6, S_b0_mod_5, S_b0_mod_3, S_b0_mod_2, S_b0_mod_1, S_b0_mod_0, S_cb_mmade4_1h, S_bx_mcan1_1h, S_b0_mod_4h, s363_0, s363_1, s363_3, s363_6, s363_7, s363_10, s363_11, s363_13, s363_14, s363_18, s363_20, s363_23, s363_25, s363_28, s363_29, s363_30, s363_32, s363_33, s363_34, s363_36, s363_38, s363_40, s363_41, s363_42, s363_44, s363_45, s363_46, s363_47, s363_50, s363_51, s363_52, s363_55, s363_56, s363_59, s363_60, s363_62, s363_65, s363_68, s363_70, mq_k0s, mq_k1s, mq_k2s, mq_k4s, mq_k5s, mq_k5n, mq_k5as, mq_k6s, mj_pu, mj_lo, mj_br, mj_hr, mj_hw, mq_gf, mq_len, mq_al, mq_pf, mq_ok, mj_re, mq_lkm, mq_lkn, mj_ldi, mj_ldl, mj_lda, mj_ii, mj_ll, mj_li, mj_i1, ms_1, ms_2, f1_n, f1_i, f1_r, f1_u, f1_l, f2_n, f2_i, f2_r, f2_u, f2_l, mj_tg, mj_c1, mj_c2, mj_ar, mj_aw, mq_cb, mq_oi, mj_rm, Value.category, -getElem?_pos, List.getElem?_cons_zero, decide_eq_true, decide_eq_false, nl_lt, nl_le, ln_lt, ln_le, nl_eq, ln_eq, nl_add, ln_add, nl_sub, ln_mul, nI_sub, nI_mul, nI_add, nI_lt_iff, nI_le_iff, nI_inj, nI_num, mq_ix, nI_1, ha, hv1, e1, e0, huv, show ¬ n ≤ k by omega]
      refine mq_wk ?_ r0
      simp [S_cb_mmade4_0, S_bx_mcan1_0, S_b8_mkey_1, S_b8_mkey_0, S_b1_mterm_0, S_b1_copy_0, S_b0_mod_7, S_b0_mod_6, S_b0_mod_5, S_b0_mod_3, S_b0_mod_2, S_b0_mod_1, S_b0_mod_0, S_cb_mmade4_1h, S_bx_mcan1_1h, S_b0_mod_4h, mq_sub, mj_lk]
theorem m_isUser {a q n m : Nat} {w : Int64} {l u : List Int32} (ha : M[a]? = some (1000, vi l)) (hl : l.length < 2 ^ 30) (h8 : u.length ≤ 8) (hq : q + u.length ≤ l.length) (hu : ∀ k, k < u.length → l[q + k]? = u[k]?) (hm : m ≤ 8) : mj_V (d + 1) 363 [.ref 67, .ref a, .int (nI q), .int (nI u.length), .long w, .int (nI m)] M = some (some (.int (on1 (decide (u = bt_low w m)))), M) := by
  by_cases e : u.length = m
  · have r := l_user (d := d) (M := M) (a := a) (q := q) (n := m) (w := w) (ln := nI m) ha hl (by omega) hm m 0 (by omega)
    rw [Nat.add_zero, sub_eq (n := m) (fun k hk => hu k (by omega)) e, nI_0] at r
    rw [e]
    generalize decide (u = bt_low w m) = b at *
    simp (disch := (first | omega | decide)) [S_cb_mmade4_0, S_bx_mcan1_0, S_b8_mkey_1, S_b8_mkey_0, S_b1_mterm_0, S_b1_copy_0, S_b0_mod_7, S_b0_mod_6, S_b0_mod_5, S_b0_mod_3, S_b0_mod_2, S_b0_mod_1, S_b0_mod_0, S_cb_mmade4_1h, S_bx_mcan1_1h, S_b0_mod_4h, c363, s363_0, s363_1, s363_3, s363_6, s363_7, s363_10, s363_11, s363_13, s363_14, s363_18, s363_20, s363_23, s363_25, s363_28, s363_29, s363_30, s363_32, s363_33, s363_34, s363_36, s363_38, s363_40, s363_41, s363_42, s363_44, s363_45, s363_46, s363_47, s363_50, s363_51, s363_52, s363_55, s363_56, s363_59, s363_60, s363_62, s363_65, s363_68, s363_70, mq_k0s, mq_k1s, mq_k2s, mq_k4s, mq_k5s, mq_k5n, mq_k5as, mq_k6s, mj_pu, mj_lo, mj_br, mj_hr, mj_hw, mq_gf, mq_len, mq_al, mq_pf, mq_ok, mj_re, mq_lkm, mq_lkn, mj_ldi, mj_ldl, mj_lda, mj_ii, mj_ll, mj_li, mj_i1, ms_1, ms_2, f1_n, f1_i, f1_r, f1_u, f1_l, f2_n, f2_i, f2_r, f2_u, f2_l, mj_tg, mj_c1, mj_c2, mj_ar, mj_aw, mq_cb, mq_oi, mj_rm, Value.category, -getElem?_pos, List.getElem?_cons_zero, decide_eq_true, decide_eq_false, nl_lt, nl_le, ln_lt, ln_le, nl_eq, ln_eq, nl_add, ln_add, nl_sub, ln_mul, nI_sub, nI_mul, nI_add, nI_lt_iff, nI_le_iff, nI_inj, nI_num, mq_ix, nI_1]
    refine mq_wk ?_ r
    simp [S_cb_mmade4_0, S_bx_mcan1_0, S_b8_mkey_1, S_b8_mkey_0, S_b1_mterm_0, S_b1_copy_0, S_b0_mod_7, S_b0_mod_6, S_b0_mod_5, S_b0_mod_3, S_b0_mod_2, S_b0_mod_1, S_b0_mod_0, S_cb_mmade4_1h, S_bx_mcan1_1h, S_b0_mod_4h, mq_sub, mj_lk]
  · have : ¬ u = bt_low w m := fun w' => e (by rw [w', bt_low_len])
    rw [decide_eq_false this]
    have r0 := l_user0 (d := d) (M := M) (a := a) (q := q) (n := m) (k := 0) (w := w) (nI u.length) (by omega) (by omega)
    rw [nI_0] at r0
    simp (disch := (first | omega | decide)) [S_cb_mmade4_0, S_bx_mcan1_0, S_b8_mkey_1, S_b8_mkey_0, S_b1_mterm_0, S_b1_copy_0, S_b0_mod_7, S_b0_mod_6, S_b0_mod_5, S_b0_mod_3, S_b0_mod_2, S_b0_mod_1, S_b0_mod_0, S_cb_mmade4_1h, S_bx_mcan1_1h, S_b0_mod_4h, c363, s363_0, s363_1, s363_3, s363_6, s363_7, s363_10, s363_11, s363_13, s363_14, s363_18, s363_20, s363_23, s363_25, s363_28, s363_29, s363_30, s363_32, s363_33, s363_34, s363_36, s363_38, s363_40, s363_41, s363_42, s363_44, s363_45, s363_46, s363_47, s363_50, s363_51, s363_52, s363_55, s363_56, s363_59, s363_60, s363_62, s363_65, s363_68, s363_70, mq_k0s, mq_k1s, mq_k2s, mq_k4s, mq_k5s, mq_k5n, mq_k5as, mq_k6s, mj_pu, mj_lo, mj_br, mj_hr, mj_hw, mq_gf, mq_len, mq_al, mq_pf, mq_ok, mj_re, mq_lkm, mq_lkn, mj_ldi, mj_ldl, mj_lda, mj_ii, mj_ll, mj_li, mj_i1, ms_1, ms_2, f1_n, f1_i, f1_r, f1_u, f1_l, f2_n, f2_i, f2_r, f2_u, f2_l, mj_tg, mj_c1, mj_c2, mj_ar, mj_aw, mq_cb, mq_oi, mj_rm, Value.category, -getElem?_pos, List.getElem?_cons_zero, decide_eq_true, decide_eq_false, nl_lt, nl_le, ln_lt, ln_le, nl_eq, ln_eq, nl_add, ln_add, nl_sub, ln_mul, nI_sub, nI_mul, nI_add, nI_lt_iff, nI_le_iff, nI_inj, nI_num, mq_ix, nI_1, e]
    refine mq_wk ?_ r0
    simp [S_cb_mmade4_0, S_bx_mcan1_0, S_b8_mkey_1, S_b8_mkey_0, S_b1_mterm_0, S_b1_copy_0, S_b0_mod_7, S_b0_mod_6, S_b0_mod_5, S_b0_mod_3, S_b0_mod_2, S_b0_mod_1, S_b0_mod_0, S_cb_mmade4_1h, S_bx_mcan1_1h, S_b0_mod_4h, mq_sub, mj_lk]
theorem acUser (z : mz x y H) {p : Pa} (hp : H.2.2.2.2[j]? = some p) {i : Nat} {c : Ac} (hc : p.2.2.2.1[i]? = some c) {m : Nat} (hm : m ≤ 8) (w : Int64) (y' : Sy) : mj_V (d + 1) 363 [.ref 67, .ref 141, .int (nI (8 * (8 * j + i))), .int (nI c.2.2.2.2.length), .long w, .int (nI m)] (mm B x y') = some (some (.int (on1 (decide (c.2.2.2.2 = bt_low w m)))), mm B x y') := by
  have hM := z.h.ps j p hp
  have a := hM.as i c hc
  have l1 := z.h.l.accUser
  have h4 := z.h.n4
  have h8 := hM.ac8
  have hj : j < H.2.2.2.2.length := by
    rcases Nat.lt_or_ge j H.2.2.2.2.length with z | z
    · exact z
    · rw [List.getElem?_eq_none z] at hp; cases hp
  have hi : i < p.2.2.2.1.length := by
    rcases Nat.lt_or_ge i p.2.2.2.1.length with z | z
    · exact z
    · rw [List.getElem?_eq_none z] at hc; cases hc
  have u8 := a.u8
  exact m_isUser (n := 0) (by simp [S_cb_mmade4_0, S_bx_mcan1_0, S_b8_mkey_1, S_b8_mkey_0, S_b1_mterm_0, S_b1_copy_0, S_b0_mod_7, S_b0_mod_6, S_b0_mod_5, S_b0_mod_3, S_b0_mod_2, S_b0_mod_1, S_b0_mod_0, S_cb_mmade4_1h, S_bx_mcan1_1h, S_b0_mod_4h]) (by omega) u8 (by omega) a.us hm
theorem l_accountsOf (z : mz x y H) {p : Pa} (hp : H.2.2.2.2[j]? = some p) {m : Nat} (hm : m ≤ 8) (w : Int64) : ∀ (r i c : Nat) (v7 : List (Nat × Value)), i + r = p.2.2.2.1.length → c ≤ i → (v7 = [] ∨ ∃ v, v7 = [(7, Value.int v)]) →
    mj_Rn (d + 1) mj_m362 6 (v7 ++ [(6, .int (nI i)), (5, .int (nI c)), (0, .ref 67), (1, .int (nI j)), (2, .long w), (4, .int (nI m))]) [] (mm B x y) = some (some (.int (nI (c + ((p.2.2.2.1.drop i).filter (fun a => decide (a.2.2.2.2 = bt_low w m))).length))), mm B x y) := by
  have hM := z.h.ps j p hp
  have l1 := z.h.l.accounts
  have l2 := z.h.l.accLong
  have h4 := z.h.n4
  have h8 := hM.ac8
  have hac := hM.ac
  have hj : j < H.2.2.2.2.length := by
    rcases Nat.lt_or_ge j H.2.2.2.2.length with z | z
    · exact z
    · rw [List.getElem?_eq_none z] at hp; cases hp
  have hm1 : ¬ nI j = -1 := fun u => (nI_m1 (a := j) (by omega)).mp u
  intro r
  induction r with
  | zero =>
    intro i c v7 hi hc hv
    rw [List.drop_eq_nil_of_le (by omega), List.filter_nil, List.length_nil, Nat.add_zero]
    rcases hv with rfl | ⟨v, rfl⟩ <;> simp (disch := (first | omega | decide)) [S_cb_mmade4_0, S_bx_mcan1_0, S_b8_mkey_1, S_b8_mkey_0, S_b1_mterm_0, S_b1_copy_0, S_b0_mod_7, S_b0_mod_6, S_b0_mod_5, S_b0_mod_3, S_b0_mod_2, S_b0_mod_1, S_b0_mod_0, S_cb_mmade4_1h, S_bx_mcan1_1h, S_b0_mod_4h, s362_0, s362_1, s362_3, s362_4, s362_6, s362_7, s362_8, s362_11, s362_13, s362_14, s362_17, s362_18, s362_19, s362_22, s362_24, s362_25, s362_26, s362_28, s362_29, s362_31, s362_33, s362_34, s362_35, s362_38, s362_40, s362_42, s362_43, s362_44, s362_47, s362_49, s362_50, s362_51, s362_53, s362_56, s362_59, s362_60, s362_63, s362_64, s362_65, s362_67, s362_70, s362_73, s362_75, mq_k0s, mq_k1s, mq_k2s, mq_k4s, mq_k5s, mq_k5n, mq_k5as, mq_k6s, mj_pu, mj_lo, mj_br, mj_hr, mj_hw, mq_gf, mq_len, mq_al, mq_pf, mq_ok, mj_re, mq_lkm, mq_lkn, mj_ldi, mj_ldl, mj_lda, mj_ii, mj_ll, mj_li, mj_i1, ms_1, ms_2, f1_n, f1_i, f1_r, f1_u, f1_l, f2_n, f2_i, f2_r, f2_u, f2_l, mj_tg, mj_c1, mj_c2, mj_ar, mj_aw, mq_cb, mq_oi, mj_rm, Value.category, -getElem?_pos, List.getElem?_cons_zero, decide_eq_true, decide_eq_false, nl_lt, nl_le, ln_lt, ln_le, nl_eq, ln_eq, nl_add, ln_add, nl_sub, ln_mul, nI_sub, nI_mul, nI_add, nI_lt_iff, nI_le_iff, nI_inj, nI_num, mq_ix, nI_1, nl_mul, nl_div, hm1, l1, hac, show p.2.2.2.1.length ≤ i by omega, narrow]
  | succ r ih =>
    intro i c v7 hi hc hv
    have hil : i < p.2.2.2.1.length := by omega
    obtain ⟨a, ha⟩ : ∃ a, p.2.2.2.1[i]? = some a := ⟨_, List.getElem?_eq_getElem hil⟩
    have hd : p.2.2.2.1.drop i = a :: p.2.2.2.1.drop (i + 1) := by
      rw [List.drop_eq_getElem_cons hil]
      rw [List.getElem?_eq_getElem hil] at ha
      rw [Option.some.inj ha]
    have aM := hM.as i a ha
    have hln := aM.ln
    have ru := acUser (d := d) (B := B) z hp ha hm w y
    rw [hd, List.filter_cons]
    have hw : ∀ {res c'}, mj_Rn (d + 1) mj_m362 6 ([(7, .int (nI (8 * j + i)))] ++ [(6, .int (nI (i + 1))), (5, .int (nI c')), (0, .ref 67), (1, .int (nI j)), (2, .long w), (4, .int (nI m))]) [] (mm B x y) = some res → mj_Rn (d + 1) mj_m362 6 [(6, .int (nI (i + 1))), (5, .int (nI c')), (7, .int (nI (8 * j + i))), (0, .ref 67), (1, .int (nI j)), (2, .long w), (4, .int (nI m))] [] (mm B x y) = some res := by
      intro res c' hr
      refine mq_wk ?_ hr
      simp [S_cb_mmade4_0, S_bx_mcan1_0, S_b8_mkey_1, S_b8_mkey_0, S_b1_mterm_0, S_b1_copy_0, S_b0_mod_7, S_b0_mod_6, S_b0_mod_5, S_b0_mod_3, S_b0_mod_2, S_b0_mod_1, S_b0_mod_0, S_cb_mmade4_1h, S_bx_mcan1_1h, S_b0_mod_4h, mq_sub, mj_lk]
    by_cases e : a.2.2.2.2 = bt_low w m
    · rw [decide_eq_true e] at ru ⊢
      simp only [on1, if_true] at ru
      have rr := hw (ih (i + 1) (c + 1) [(7, .int (nI (8 * j + i)))] (by omega) (by omega) (Or.inr ⟨_, rfl⟩))
      rw [if_pos rfl, List.length_cons, show c + (((p.2.2.2.1.drop (i + 1)).filter (fun a => decide (a.2.2.2.2 = bt_low w m))).length + 1) = c + 1 + ((p.2.2.2.1.drop (i + 1)).filter (fun a => decide (a.2.2.2.2 = bt_low w m))).length from by omega]
      generalize nI (c + 1 + ((p.2.2.2.1.drop (i + 1)).filter (fun a => decide (a.2.2.2.2 = bt_low w m))).length) = res at *
      clear hw ih
      rcases hv with rfl | ⟨v, rfl⟩
      · simp only [List.nil_append]
        rw [s362_6]
        simp (disch := (first | omega | decide)) [S_cb_mmade4_0, S_bx_mcan1_0, S_b8_mkey_1, S_b8_mkey_0, S_b1_mterm_0, S_b1_copy_0, S_b0_mod_7, S_b0_mod_6, S_b0_mod_5, S_b0_mod_3, S_b0_mod_2, S_b0_mod_1, S_b0_mod_0, S_cb_mmade4_1h, S_bx_mcan1_1h, S_b0_mod_4h, s362_0, s362_1, s362_3, s362_4, s362_7, s362_8, s362_11, s362_13, s362_14, s362_17, s362_18, s362_19, s362_22, s362_24, s362_25, s362_26, s362_28, s362_29, s362_31, s362_33, s362_34, s362_35, s362_38, s362_40, s362_42, s362_43, s362_44, s362_47, s362_49, s362_50, s362_51, s362_53, s362_56, s362_59, s362_60, s362_63, s362_64, s362_65, s362_67, s362_70, s362_73, s362_75, mq_k0s, mq_k1s, mq_k2s, mq_k4s, mq_k5s, mq_k5n, mq_k5as, mq_k6s, mj_pu, mj_lo, mj_br, mj_hr, mj_hw, mq_gf, mq_len, mq_al, mq_pf, mq_ok, mj_re, mq_lkm, mq_lkn, mj_ldi, mj_ldl, mj_lda, mj_ii, mj_ll, mj_li, mj_i1, ms_1, ms_2, f1_n, f1_i, f1_r, f1_u, f1_l, f2_n, f2_i, f2_r, f2_u, f2_l, mj_tg, mj_c1, mj_c2, mj_ar, mj_aw, mq_cb, mq_oi, mj_rm, Value.category, -getElem?_pos, List.getElem?_cons_zero, decide_eq_true, decide_eq_false, nl_lt, nl_le, ln_lt, ln_le, nl_eq, ln_eq, nl_add, ln_add, nl_sub, ln_mul, nI_sub, nI_mul, nI_add, nI_lt_iff, nI_le_iff, nI_inj, nI_num, mq_ix, nI_1, nl_mul, nl_div, hm1, l1, l2, hac, show ¬ p.2.2.2.1.length ≤ i by omega, hln, ru]
        refine mq_wk ?_ rr
        simp [S_cb_mmade4_0, S_bx_mcan1_0, S_b8_mkey_1, S_b8_mkey_0, S_b1_mterm_0, S_b1_copy_0, S_b0_mod_7, S_b0_mod_6, S_b0_mod_5, S_b0_mod_3, S_b0_mod_2, S_b0_mod_1, S_b0_mod_0, S_cb_mmade4_1h, S_bx_mcan1_1h, S_b0_mod_4h, mq_sub, mj_lk]
      · simp only [List.cons_append, List.nil_append]
        rw [s362_6]
        simp (disch := (first | omega | decide)) [S_cb_mmade4_0, S_bx_mcan1_0, S_b8_mkey_1, S_b8_mkey_0, S_b1_mterm_0, S_b1_copy_0, S_b0_mod_7, S_b0_mod_6, S_b0_mod_5, S_b0_mod_3, S_b0_mod_2, S_b0_mod_1, S_b0_mod_0, S_cb_mmade4_1h, S_bx_mcan1_1h, S_b0_mod_4h, s362_0, s362_1, s362_3, s362_4, s362_7, s362_8, s362_11, s362_13, s362_14, s362_17, s362_18, s362_19, s362_22, s362_24, s362_25, s362_26, s362_28, s362_29, s362_31, s362_33, s362_34, s362_35, s362_38, s362_40, s362_42, s362_43, s362_44, s362_47, s362_49, s362_50, s362_51, s362_53, s362_56, s362_59, s362_60, s362_63, s362_64, s362_65, s362_67, s362_70, s362_73, s362_75, mq_k0s, mq_k1s, mq_k2s, mq_k4s, mq_k5s, mq_k5n, mq_k5as, mq_k6s, mj_pu, mj_lo, mj_br, mj_hr, mj_hw, mq_gf, mq_len, mq_al, mq_pf, mq_ok, mj_re, mq_lkm, mq_lkn, mj_ldi, mj_ldl, mj_lda, mj_ii, mj_ll, mj_li, mj_i1, ms_1, ms_2, f1_n, f1_i, f1_r, f1_u, f1_l, f2_n, f2_i, f2_r, f2_u, f2_l, mj_tg, mj_c1, mj_c2, mj_ar, mj_aw, mq_cb, mq_oi, mj_rm, Value.category, -getElem?_pos, List.getElem?_cons_zero, decide_eq_true, decide_eq_false, nl_lt, nl_le, ln_lt, ln_le, nl_eq, ln_eq, nl_add, ln_add, nl_sub, ln_mul, nI_sub, nI_mul, nI_add, nI_lt_iff, nI_le_iff, nI_inj, nI_num, mq_ix, nI_1, nl_mul, nl_div, hm1, l1, l2, hac, show ¬ p.2.2.2.1.length ≤ i by omega, hln, ru]
        refine mq_wk ?_ rr
        simp [S_cb_mmade4_0, S_bx_mcan1_0, S_b8_mkey_1, S_b8_mkey_0, S_b1_mterm_0, S_b1_copy_0, S_b0_mod_7, S_b0_mod_6, S_b0_mod_5, S_b0_mod_3, S_b0_mod_2, S_b0_mod_1, S_b0_mod_0, S_cb_mmade4_1h, S_bx_mcan1_1h, S_b0_mod_4h, mq_sub, mj_lk]
    · rw [decide_eq_false e] at ru ⊢
      simp only [on1, Bool.false_eq_true, if_false] at ru
      have rr := hw (ih (i + 1) c [(7, .int (nI (8 * j + i)))] (by omega) (by omega) (Or.inr ⟨_, rfl⟩))
      rw [if_neg (by decide)]
      generalize nI (c + ((p.2.2.2.1.drop (i + 1)).filter (fun a => decide (a.2.2.2.2 = bt_low w m))).length) = res at *
      clear hw ih
      rcases hv with rfl | ⟨v, rfl⟩
      · simp only [List.nil_append]
        rw [s362_6]
        simp (disch := (first | omega | decide)) [S_cb_mmade4_0, S_bx_mcan1_0, S_b8_mkey_1, S_b8_mkey_0, S_b1_mterm_0, S_b1_copy_0, S_b0_mod_7, S_b0_mod_6, S_b0_mod_5, S_b0_mod_3, S_b0_mod_2, S_b0_mod_1, S_b0_mod_0, S_cb_mmade4_1h, S_bx_mcan1_1h, S_b0_mod_4h, s362_0, s362_1, s362_3, s362_4, s362_7, s362_8, s362_11, s362_13, s362_14, s362_17, s362_18, s362_19, s362_22, s362_24, s362_25, s362_26, s362_28, s362_29, s362_31, s362_33, s362_34, s362_35, s362_38, s362_40, s362_42, s362_43, s362_44, s362_47, s362_49, s362_50, s362_51, s362_53, s362_56, s362_59, s362_60, s362_63, s362_64, s362_65, s362_67, s362_70, s362_73, s362_75, mq_k0s, mq_k1s, mq_k2s, mq_k4s, mq_k5s, mq_k5n, mq_k5as, mq_k6s, mj_pu, mj_lo, mj_br, mj_hr, mj_hw, mq_gf, mq_len, mq_al, mq_pf, mq_ok, mj_re, mq_lkm, mq_lkn, mj_ldi, mj_ldl, mj_lda, mj_ii, mj_ll, mj_li, mj_i1, ms_1, ms_2, f1_n, f1_i, f1_r, f1_u, f1_l, f2_n, f2_i, f2_r, f2_u, f2_l, mj_tg, mj_c1, mj_c2, mj_ar, mj_aw, mq_cb, mq_oi, mj_rm, Value.category, -getElem?_pos, List.getElem?_cons_zero, decide_eq_true, decide_eq_false, nl_lt, nl_le, ln_lt, ln_le, nl_eq, ln_eq, nl_add, ln_add, nl_sub, ln_mul, nI_sub, nI_mul, nI_add, nI_lt_iff, nI_le_iff, nI_inj, nI_num, mq_ix, nI_1, nl_mul, nl_div, hm1, l1, l2, hac, show ¬ p.2.2.2.1.length ≤ i by omega, hln, ru]
        refine mq_wk ?_ rr
        simp [S_cb_mmade4_0, S_bx_mcan1_0, S_b8_mkey_1, S_b8_mkey_0, S_b1_mterm_0, S_b1_copy_0, S_b0_mod_7, S_b0_mod_6, S_b0_mod_5, S_b0_mod_3, S_b0_mod_2, S_b0_mod_1, S_b0_mod_0, S_cb_mmade4_1h, S_bx_mcan1_1h, S_b0_mod_4h, mq_sub, mj_lk]
      · simp only [List.cons_append, List.nil_append]
        rw [s362_6]
        simp (disch := (first | omega | decide)) [S_cb_mmade4_0, S_bx_mcan1_0, S_b8_mkey_1, S_b8_mkey_0, S_b1_mterm_0, S_b1_copy_0, S_b0_mod_7, S_b0_mod_6, S_b0_mod_5, S_b0_mod_3, S_b0_mod_2, S_b0_mod_1, S_b0_mod_0, S_cb_mmade4_1h, S_bx_mcan1_1h, S_b0_mod_4h, s362_0, s362_1, s362_3, s362_4, s362_7, s362_8, s362_11, s362_13, s362_14, s362_17, s362_18, s362_19, s362_22, s362_24, s362_25, s362_26, s362_28, s362_29, s362_31, s362_33, s362_34, s362_35, s362_38, s362_40, s362_42, s362_43, s362_44, s362_47, s362_49, s362_50, s362_51, s362_53, s362_56, s362_59, s362_60, s362_63, s362_64, s362_65, s362_67, s362_70, s362_73, s362_75, mq_k0s, mq_k1s, mq_k2s, mq_k4s, mq_k5s, mq_k5n, mq_k5as, mq_k6s, mj_pu, mj_lo, mj_br, mj_hr, mj_hw, mq_gf, mq_len, mq_al, mq_pf, mq_ok, mj_re, mq_lkm, mq_lkn, mj_ldi, mj_ldl, mj_lda, mj_ii, mj_ll, mj_li, mj_i1, ms_1, ms_2, f1_n, f1_i, f1_r, f1_u, f1_l, f2_n, f2_i, f2_r, f2_u, f2_l, mj_tg, mj_c1, mj_c2, mj_ar, mj_aw, mq_cb, mq_oi, mj_rm, Value.category, -getElem?_pos, List.getElem?_cons_zero, decide_eq_true, decide_eq_false, nl_lt, nl_le, ln_lt, ln_le, nl_eq, ln_eq, nl_add, ln_add, nl_sub, ln_mul, nI_sub, nI_mul, nI_add, nI_lt_iff, nI_le_iff, nI_inj, nI_num, mq_ix, nI_1, nl_mul, nl_div, hm1, l1, l2, hac, show ¬ p.2.2.2.1.length ≤ i by omega, hln, ru]
        refine mq_wk ?_ rr
        simp [S_cb_mmade4_0, S_bx_mcan1_0, S_b8_mkey_1, S_b8_mkey_0, S_b1_mterm_0, S_b1_copy_0, S_b0_mod_7, S_b0_mod_6, S_b0_mod_5, S_b0_mod_3, S_b0_mod_2, S_b0_mod_1, S_b0_mod_0, S_cb_mmade4_1h, S_bx_mcan1_1h, S_b0_mod_4h, mq_sub, mj_lk]
theorem q_accountsOf (z : mz x y H) (p : Int32) (hp : p = -1 ∨ (pOf H p).isSome = true) {m : Nat} (hm : m ≤ 8) (w : Int64) : mj_V (d + 2) 362 [.ref 67, .int p, .long w, .int (nI m)] (mm B x y) = some (some (.int (nI (acOf (pOf H p) (bt_low w m)).length)), mm B x y) := by
  by_cases h1 : p = -1
  · subst h1
    have e : pOf H (-1) = none := rfl
    rw [e]
    simp (disch := (first | omega | decide)) [S_cb_mmade4_0, S_bx_mcan1_0, S_b8_mkey_1, S_b8_mkey_0, S_b1_mterm_0, S_b1_copy_0, S_b0_mod_7, S_b0_mod_6, S_b0_mod_5, S_b0_mod_3, S_b0_mod_2, S_b0_mod_1, S_b0_mod_0, S_cb_mmade4_1h, S_bx_mcan1_1h, S_b0_mod_4h, c362, s362_0, s362_1, s362_3, s362_4, s362_6, s362_7, s362_8, s362_11, s362_13, s362_14, s362_17, s362_18, s362_19, s362_22, s362_24, s362_25, s362_26, s362_28, s362_29, s362_31, s362_33, s362_34, s362_35, s362_38, s362_40, s362_42, s362_43, s362_44, s362_47, s362_49, s362_50, s362_51, s362_53, s362_56, s362_59, s362_60, s362_63, s362_64, s362_65, s362_67, s362_70, s362_73, s362_75, mq_k0s, mq_k1s, mq_k2s, mq_k4s, mq_k5s, mq_k5n, mq_k5as, mq_k6s, mj_pu, mj_lo, mj_br, mj_hr, mj_hw, mq_gf, mq_len, mq_al, mq_pf, mq_ok, mj_re, mq_lkm, mq_lkn, mj_ldi, mj_ldl, mj_lda, mj_ii, mj_ll, mj_li, mj_i1, ms_1, ms_2, f1_n, f1_i, f1_r, f1_u, f1_l, f2_n, f2_i, f2_r, f2_u, f2_l, mj_tg, mj_c1, mj_c2, mj_ar, mj_aw, mq_cb, mq_oi, mj_rm, Value.category, -getElem?_pos, List.getElem?_cons_zero, decide_eq_true, decide_eq_false, nl_lt, nl_le, ln_lt, ln_le, nl_eq, ln_eq, nl_add, ln_add, nl_sub, ln_mul, nI_sub, nI_mul, nI_add, nI_lt_iff, nI_le_iff, nI_inj, nI_num, mq_ix, nI_1, nl_mul, nl_div, narrow, acOf]
  · have h2 := hp.resolve_left h1
    unfold pOf at h2 ⊢
    cases hi : ix p H.2.2.2.2.length with
    | none => rw [hi] at h2; cases h2
    | some j =>
      obtain ⟨q, hq, rfl⟩ := party_at hi
      have r := l_accountsOf (d := d) (B := B) z hq hm w q.2.2.2.1.length 0 0 [] (by omega) (by omega) (Or.inl rfl)
      rw [List.drop_zero, Nat.zero_add, List.nil_append, nI_0] at r
      simp only [Option.bind_some, hq, acOf]
      generalize nI (q.2.2.2.1.filter (fun a => decide (a.2.2.2.2 = bt_low w m))).length = res at *
      simp (disch := (first | omega | decide)) [S_cb_mmade4_0, S_bx_mcan1_0, S_b8_mkey_1, S_b8_mkey_0, S_b1_mterm_0, S_b1_copy_0, S_b0_mod_7, S_b0_mod_6, S_b0_mod_5, S_b0_mod_3, S_b0_mod_2, S_b0_mod_1, S_b0_mod_0, S_cb_mmade4_1h, S_bx_mcan1_1h, S_b0_mod_4h, c362, s362_0, s362_1, s362_3, s362_4, s362_7, s362_8, s362_11, s362_13, s362_14, s362_17, s362_18, s362_19, s362_22, s362_24, s362_25, s362_26, s362_28, s362_29, s362_31, s362_33, s362_34, s362_35, s362_38, s362_40, s362_42, s362_43, s362_44, s362_47, s362_49, s362_50, s362_51, s362_53, s362_56, s362_59, s362_60, s362_63, s362_64, s362_65, s362_67, s362_70, s362_73, s362_75, mq_k0s, mq_k1s, mq_k2s, mq_k4s, mq_k5s, mq_k5n, mq_k5as, mq_k6s, mj_pu, mj_lo, mj_br, mj_hr, mj_hw, mq_gf, mq_len, mq_al, mq_pf, mq_ok, mj_re, mq_lkm, mq_lkn, mj_ldi, mj_ldl, mj_lda, mj_ii, mj_ll, mj_li, mj_i1, ms_1, ms_2, f1_n, f1_i, f1_r, f1_u, f1_l, f2_n, f2_i, f2_r, f2_u, f2_l, mj_tg, mj_c1, mj_c2, mj_ar, mj_aw, mq_cb, mq_oi, mj_rm, Value.category, -getElem?_pos, List.getElem?_cons_zero, decide_eq_true, decide_eq_false, nl_lt, nl_le, ln_lt, ln_le, nl_eq, ln_eq, nl_add, ln_add, nl_sub, ln_mul, nI_sub, nI_mul, nI_add, nI_lt_iff, nI_le_iff, nI_inj, nI_num, mq_ix, nI_1, nl_mul, nl_div]
      refine mq_wk ?_ r
      simp [S_cb_mmade4_0, S_bx_mcan1_0, S_b8_mkey_1, S_b8_mkey_0, S_b1_mterm_0, S_b1_copy_0, S_b0_mod_7, S_b0_mod_6, S_b0_mod_5, S_b0_mod_3, S_b0_mod_2, S_b0_mod_1, S_b0_mod_0, S_cb_mmade4_1h, S_bx_mcan1_1h, S_b0_mod_4h, mq_sub, mj_lk]
theorem l_tellUser {w : Int64} {n : Int32} : ∀ (m : Nat) (O : List Int32) (y : Sy), m ≤ 8 → O.length + m ≤ 640 → yz y T D O → ∃ y', mj_Rn (d + 1) mj_m364 11 [(4, .int (nI m + -1)), (0, .ref 67), (1, .long w), (3, .int n)] [] (mm B x y) = some (none, mm B x y') ∧ yz y' T D (O ++ bt_low w m) ∧ y'.no = y.no := by
  intro m
  induction m with
  | zero =>
    intro O y hm hl h
    refine ⟨y, ?_, by simpa [S_cb_mmade4_0, S_bx_mcan1_0, S_b8_mkey_1, S_b8_mkey_0, S_b1_mterm_0, S_b1_copy_0, S_b0_mod_7, S_b0_mod_6, S_b0_mod_5, S_b0_mod_3, S_b0_mod_2, S_b0_mod_1, S_b0_mod_0, S_cb_mmade4_1h, S_bx_mcan1_1h, S_b0_mod_4h, bt_low] using h, rfl⟩
    simp (disch := (first | omega | decide)) [S_cb_mmade4_0, S_bx_mcan1_0, S_b8_mkey_1, S_b8_mkey_0, S_b1_mterm_0, S_b1_copy_0, S_b0_mod_7, S_b0_mod_6, S_b0_mod_5, S_b0_mod_3, S_b0_mod_2, S_b0_mod_1, S_b0_mod_0, S_cb_mmade4_1h, S_bx_mcan1_1h, S_b0_mod_4h, s364_0, s364_1, s364_2, s364_3, s364_6, s364_7, s364_8, s364_9, s364_11, s364_13, s364_16, s364_17, s364_18, s364_20, s364_22, s364_23, s364_24, s364_27, s364_28, s364_29, s364_32, s364_35, s364_38, mq_k0s, mq_k1s, mq_k2s, mq_k4s, mq_k5s, mq_k5n, mq_k5as, mq_k6s, mj_pu, mj_lo, mj_br, mj_hr, mj_hw, mq_gf, mq_len, mq_al, mq_pf, mq_ok, mj_re, mq_lkm, mq_lkn, mj_ldi, mj_ldl, mj_lda, mj_ii, mj_ll, mj_li, mj_i1, ms_1, ms_2, f1_n, f1_i, f1_r, f1_u, f1_l, f2_n, f2_i, f2_r, f2_u, f2_l, mj_tg, mj_c1, mj_c2, mj_ar, mj_aw, mq_cb, mq_oi, mj_rm, Value.category, -getElem?_pos, List.getElem?_cons_zero, decide_eq_true, decide_eq_false, nl_lt, nl_le, ln_lt, ln_le, nl_eq, ln_eq, nl_add, ln_add, nl_sub, ln_mul, nI_sub, nI_mul, nI_add, nI_lt_iff, nI_le_iff, nI_inj, nI_num, mq_ix, nI_1, show nI 0 + -1 < (0 : Int32) by decide]
  | succ m ih =>
    intro O y hm hl h
    obtain ⟨y1, p1, z1, f1⟩ := q_tell (d := d) (B := B) (x := x) h (by omega) (bt_by w m)
    obtain ⟨y', r4, r5, r6⟩ := ih _ y1 (by omega) (by simp [S_cb_mmade4_0, S_bx_mcan1_0, S_b8_mkey_1, S_b8_mkey_0, S_b1_mterm_0, S_b1_copy_0, S_b0_mod_7, S_b0_mod_6, S_b0_mod_5, S_b0_mod_3, S_b0_mod_2, S_b0_mod_1, S_b0_mod_0, S_cb_mmade4_1h, S_bx_mcan1_1h, S_b0_mod_4h]; omega) z1
    refine ⟨y', ?_, by simpa [S_cb_mmade4_0, S_bx_mcan1_0, S_b8_mkey_1, S_b8_mkey_0, S_b1_mterm_0, S_b1_copy_0, S_b0_mod_7, S_b0_mod_6, S_b0_mod_5, S_b0_mod_3, S_b0_mod_2, S_b0_mod_1, S_b0_mod_0, S_cb_mmade4_1h, S_bx_mcan1_1h, S_b0_mod_4h, bt_low] using r5, r6.trans f1⟩
    have e0 := sslB' w (m := m) (by omega)
    have e1 : nI (m + 1) + -1 = nI m := by
      rcases (show m = 0 ∨ m = 1 ∨ m = 2 ∨ m = 3 ∨ m = 4 ∨ m = 5 ∨ m = 6 ∨ m = 7 by omega) with rfl | rfl | rfl | rfl | rfl | rfl | rfl | rfl <;> rfl
    have e2 : ¬ nI m < 0 := nI_pos (by omega)
    have e4 : (8 : Int32) * nI m = nI (8 * m) := by
      rcases (show m = 0 ∨ m = 1 ∨ m = 2 ∨ m = 3 ∨ m = 4 ∨ m = 5 ∨ m = 6 ∨ m = 7 by omega) with rfl | rfl | rfl | rfl | rfl | rfl | rfl | rfl <;> rfl
    rw [e1, s364_11]
    simp (disch := (first | omega | decide)) [S_cb_mmade4_0, S_bx_mcan1_0, S_b8_mkey_1, S_b8_mkey_0, S_b1_mterm_0, S_b1_copy_0, S_b0_mod_7, S_b0_mod_6, S_b0_mod_5, S_b0_mod_3, S_b0_mod_2, S_b0_mod_1, S_b0_mod_0, S_cb_mmade4_1h, S_bx_mcan1_1h, S_b0_mod_4h, s364_0, s364_1, s364_2, s364_3, s364_6, s364_7, s364_8, s364_9, s364_13, s364_16, s364_17, s364_18, s364_20, s364_22, s364_23, s364_24, s364_27, s364_28, s364_29, s364_32, s364_35, s364_38, mq_k0s, mq_k1s, mq_k2s, mq_k4s, mq_k5s, mq_k5n, mq_k5as, mq_k6s, mj_pu, mj_lo, mj_br, mj_hr, mj_hw, mq_gf, mq_len, mq_al, mq_pf, mq_ok, mj_re, mq_lkm, mq_lkn, mj_ldi, mj_ldl, mj_lda, mj_ii, mj_ll, mj_li, mj_i1, ms_1, ms_2, f1_n, f1_i, f1_r, f1_u, f1_l, f2_n, f2_i, f2_r, f2_u, f2_l, mj_tg, mj_c1, mj_c2, mj_ar, mj_aw, mq_cb, mq_oi, mj_rm, Value.category, -getElem?_pos, List.getElem?_cons_zero, decide_eq_true, decide_eq_false, nl_lt, nl_le, ln_lt, ln_le, nl_eq, ln_eq, nl_add, ln_add, nl_sub, ln_mul, nI_sub, nI_mul, nI_add, nI_lt_iff, nI_le_iff, nI_inj, nI_num, mq_ix, nI_1, e2, e4, e0, p1]
    refine mq_wk ?_ r4
    simp [S_cb_mmade4_0, S_bx_mcan1_0, S_b8_mkey_1, S_b8_mkey_0, S_b1_mterm_0, S_b1_copy_0, S_b0_mod_7, S_b0_mod_6, S_b0_mod_5, S_b0_mod_3, S_b0_mod_2, S_b0_mod_1, S_b0_mod_0, S_cb_mmade4_1h, S_bx_mcan1_1h, S_b0_mod_4h, mq_sub, mj_lk]
theorem q_tellUser (h : yz y T D O) (hl : O.length + 10 ≤ 640) {m : Nat} (h1 : 1 ≤ m) (h8 : m ≤ 8) (w : Int64) : ∃ y', mj_V (d + 3) 364 [.ref 67, .long w, .int (nI m)] (mm B x y) = some (none, mm B x y') ∧ yz y' T D (O ++ (bt_hd 2 (nI m) ++ bt_low w m)) ∧ y'.no = y.no := by
  obtain ⟨y1, p1, z1, f1⟩ := q_tellHead (d := d) (B := B) (x := x) h (by omega) (s := 2) (by decide) (k := m) (by omega)
  have hb : (bt_hd 2 (nI m)).length ≤ 2 := by
    unfold bt_hd
    rw [show (256 : Int32) = nI 256 from rfl]
    rw [if_pos (nI_lt (show m < 256 by omega) (by omega))]
    split <;> simp [S_cb_mmade4_0, S_bx_mcan1_0, S_b8_mkey_1, S_b8_mkey_0, S_b1_mterm_0, S_b1_copy_0, S_b0_mod_7, S_b0_mod_6, S_b0_mod_5, S_b0_mod_3, S_b0_mod_2, S_b0_mod_1, S_b0_mod_0, S_cb_mmade4_1h, S_bx_mcan1_1h, S_b0_mod_4h]
  obtain ⟨y2, p2, z2, f2⟩ := l_tellUser (d := d + 1) (B := B) (x := x) (w := w) (n := nI m) m _ y1 h8 (by simp [S_cb_mmade4_0, S_bx_mcan1_0, S_b8_mkey_1, S_b8_mkey_0, S_b1_mterm_0, S_b1_copy_0, S_b0_mod_7, S_b0_mod_6, S_b0_mod_5, S_b0_mod_3, S_b0_mod_2, S_b0_mod_1, S_b0_mod_0, S_cb_mmade4_1h, S_bx_mcan1_1h, S_b0_mod_4h]; omega) z1
  refine ⟨y2, ?_, by simpa [S_cb_mmade4_0, S_bx_mcan1_0, S_b8_mkey_1, S_b8_mkey_0, S_b1_mterm_0, S_b1_copy_0, S_b0_mod_7, S_b0_mod_6, S_b0_mod_5, S_b0_mod_3, S_b0_mod_2, S_b0_mod_1, S_b0_mod_0, S_cb_mmade4_1h, S_bx_mcan1_1h, S_b0_mod_4h] using z2, f2.trans f1⟩
  have e3 : nI (m - 1) = nI m + -1 := by
    rcases (show m = 1 ∨ m = 2 ∨ m = 3 ∨ m = 4 ∨ m = 5 ∨ m = 6 ∨ m = 7 ∨ m = 8 by omega) with rfl | rfl | rfl | rfl | rfl | rfl | rfl | rfl <;> rfl
  simp (disch := (first | omega | decide)) [S_cb_mmade4_0, S_bx_mcan1_0, S_b8_mkey_1, S_b8_mkey_0, S_b1_mterm_0, S_b1_copy_0, S_b0_mod_7, S_b0_mod_6, S_b0_mod_5, S_b0_mod_3, S_b0_mod_2, S_b0_mod_1, S_b0_mod_0, S_cb_mmade4_1h, S_bx_mcan1_1h, S_b0_mod_4h, c364, s364_0, s364_1, s364_2, s364_3, s364_6, s364_7, s364_8, s364_9, s364_13, s364_16, s364_17, s364_18, s364_20, s364_22, s364_23, s364_24, s364_27, s364_28, s364_29, s364_32, s364_35, s364_38, mq_k0s, mq_k1s, mq_k2s, mq_k4s, mq_k5s, mq_k5n, mq_k5as, mq_k6s, mj_pu, mj_lo, mj_br, mj_hr, mj_hw, mq_gf, mq_len, mq_al, mq_pf, mq_ok, mj_re, mq_lkm, mq_lkn, mj_ldi, mj_ldl, mj_lda, mj_ii, mj_ll, mj_li, mj_i1, ms_1, ms_2, f1_n, f1_i, f1_r, f1_u, f1_l, f2_n, f2_i, f2_r, f2_u, f2_l, mj_tg, mj_c1, mj_c2, mj_ar, mj_aw, mq_cb, mq_oi, mj_rm, Value.category, -getElem?_pos, List.getElem?_cons_zero, decide_eq_true, decide_eq_false, nl_lt, nl_le, ln_lt, ln_le, nl_eq, ln_eq, nl_add, ln_add, nl_sub, ln_mul, nI_sub, nI_mul, nI_add, nI_lt_iff, nI_le_iff, nI_inj, nI_num, mq_ix, nI_1, p1, e3]
  refine mq_wk ?_ p2
  simp [S_cb_mmade4_0, S_bx_mcan1_0, S_b8_mkey_1, S_b8_mkey_0, S_b1_mterm_0, S_b1_copy_0, S_b0_mod_7, S_b0_mod_6, S_b0_mod_5, S_b0_mod_3, S_b0_mod_2, S_b0_mod_1, S_b0_mod_0, S_cb_mmade4_1h, S_bx_mcan1_1h, S_b0_mod_4h, mq_sub, mj_lk]
end
end
