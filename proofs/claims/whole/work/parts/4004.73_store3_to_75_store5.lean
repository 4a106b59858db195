/- 73.store3 -/
section
set_option maxRecDepth 512
/-! Class: Store: moving. -/
/- 58 PasskeyHouse$Store.move()Z -/
theorem s58_0 {d : Nat} {ls : mj_L} {st : List Value} {M : mj_H} : mj_Rn d mj_m58 0 ls st M = mj_Rn d mj_m58 1 ls (.int 1 :: st) M := mj_R0 (r := (.iconst 1, 1, 0, 0, 0)) rfl rfl
theorem s58_1 {d : Nat} {ls : mj_L} {st : List Value} {M : mj_H} : mj_Rn d mj_m58 1 ls st M = mq_k0 d mj_m58 2 ls M (mj_lda (mj_lk ls 0) st) := mj_R0 (r := (.aload_n 0, 1, 0, 0, 0)) rfl rfl
theorem s58_2 {d : Nat} {ls : mj_L} {st : List Value} {M : mj_H} : mj_Rn d mj_m58 2 ls st M = mq_k0 d mj_m58 5 ls M (mq_gf 8 7 st M) := (mj_R3 (r := (.getfield 73, 3, 8, 7, 16504)) rfl rfl).trans (congrArg (mq_k0 d mj_m58 5 ls M) mq_gf_eq)
theorem s58_5 {d : Nat} {ls : mj_L} {st : List Value} {M : mj_H} : mj_Rn d mj_m58 5 ls st M = mq_k0 d mj_m58 6 ls M (mj_pu .isub ls st) := mj_R0 (r := (.isub, 1, 0, 0, 0)) rfl rfl
theorem s58_6 {d : Nat} {ls : mj_L} {st : List Value} {M : mj_H} : mj_Rn d mj_m58 6 ls st M = mq_k1 d mj_m58 7 M (mj_lo 6 (.istore 1) ls st) := (mj_R1 (r := (.istore_n 1, 1, 0, 0, 0)) rfl rfl).trans (congrArg (mq_k1 d mj_m58 7 M) (mq_sti (k := 1)))
theorem s58_7 {d : Nat} {ls : mj_L} {st : List Value} {M : mj_H} : mj_Rn d mj_m58 7 ls st M = mq_k0 d mj_m58 8 ls M (mj_lda (mj_lk ls 0) st) := mj_R0 (r := (.aload_n 0, 1, 0, 0, 0)) rfl rfl
theorem s58_8 {d : Nat} {ls : mj_L} {st : List Value} {M : mj_H} : mj_Rn d mj_m58 8 ls st M = mq_k0 d mj_m58 9 ls M (mj_ldi (mj_lk ls 1) st) := mj_R0 (r := (.iload_n 1, 1, 0, 0, 0)) rfl rfl
theorem s58_9 {d : Nat} {ls : mj_L} {st : List Value} {M : mj_H} : mj_Rn (d + 1) mj_m58 9 ls st M = mq_k5a (d + 1) mj_m58 12 ls M 59 (mq_cb 0 1 8 st M) := mj_R5e (r := (.invokevirtual 177, 3, 0, 59, 12357)) (z := mj_m59) rfl rfl (by decide) (by decide) rfl
theorem s58_12 {d : Nat} {ls : mj_L} {st : List Value} {M : mj_H} : mj_Rn d mj_m58 12 ls st M = mq_k2 d mj_m58 ls M (mj_br (.ifCond .ne 5) 12 st) := mj_R2 (r := (.ifCond .ne 5, 3, 0, 0, 0)) rfl rfl
theorem s58_15 {d : Nat} {ls : mj_L} {st : List Value} {M : mj_H} : mj_Rn d mj_m58 15 ls st M = mj_Rn d mj_m58 16 ls (.int 0 :: st) M := mj_R0 (r := (.iconst 0, 1, 0, 0, 0)) rfl rfl
theorem s58_16 {d : Nat} {ls : mj_L} {st : List Value} {M : mj_H} : mj_Rn d mj_m58 16 ls st M = mq_k6 M (mj_re (some .boolean) (.ireturn) st) := mj_R6 (r := (.ireturn, 1, 0, 0, 0)) rfl rfl
theorem s58_17 {d : Nat} {ls : mj_L} {st : List Value} {M : mj_H} : mj_Rn d mj_m58 17 ls st M = mj_Rn d mj_m58 18 ls (.int 4 :: st) M := mj_R0 (r := (.iconst 4, 1, 0, 0, 0)) rfl rfl
theorem s58_18 {d : Nat} {ls : mj_L} {st : List Value} {M : mj_H} : mj_Rn d mj_m58 18 ls st M = mq_k1 d mj_m58 19 M (mj_lo 6 (.istore 2) ls st) := (mj_R1 (r := (.istore_n 2, 1, 0, 0, 0)) rfl rfl).trans (congrArg (mq_k1 d mj_m58 19 M) (mq_sti (k := 2)))
theorem s58_19 {d : Nat} {ls : mj_L} {st : List Value} {M : mj_H} : mj_Rn d mj_m58 19 ls st M = mj_Rn d mj_m58 20 ls (.int 0 :: st) M := mj_R0 (r := (.iconst 0, 1, 0, 0, 0)) rfl rfl
theorem s58_20 {d : Nat} {ls : mj_L} {st : List Value} {M : mj_H} : mj_Rn d mj_m58 20 ls st M = mq_k1 d mj_m58 21 M (mj_lo 6 (.istore 3) ls st) := (mj_R1 (r := (.istore_n 3, 1, 0, 0, 0)) rfl rfl).trans (congrArg (mq_k1 d mj_m58 21 M) (mq_sti (k := 3)))
theorem s58_21 {d : Nat} {ls : mj_L} {st : List Value} {M : mj_H} : mj_Rn d mj_m58 21 ls st M = mq_k0 d mj_m58 22 ls M (mj_ldi (mj_lk ls 3) st) := mj_R0 (r := (.iload_n 3, 1, 0, 0, 0)) rfl rfl
theorem s58_22 {d : Nat} {ls : mj_L} {st : List Value} {M : mj_H} : mj_Rn d mj_m58 22 ls st M = mj_Rn d mj_m58 23 ls (.int 4 :: st) M := mj_R0 (r := (.iconst 4, 1, 0, 0, 0)) rfl rfl
theorem s58_23 {d : Nat} {ls : mj_L} {st : List Value} {M : mj_H} : mj_Rn d mj_m58 23 ls st M = mj_Rn d mj_m58 24 ls (.int 2 :: st) M := mj_R0 (r := (.iconst 2, 1, 0, 0, 0)) rfl rfl
theorem s58_24 {d : Nat} {ls : mj_L} {st : List Value} {M : mj_H} : mj_Rn d mj_m58 24 ls st M = mq_k0 d mj_m58 25 ls M (mj_lda (mj_lk ls 0) st) := mj_R0 (r := (.aload_n 0, 1, 0, 0, 0)) rfl rfl
theorem s58_25 {d : Nat} {ls : mj_L} {st : List Value} {M : mj_H} : mj_Rn d mj_m58 25 ls st M = mq_k0 d mj_m58 28 ls M (mq_gf 8 14 st M) := (mj_R3 (r := (.getfield 124, 3, 8, 14, 16526)) rfl rfl).trans (congrArg (mq_k0 d mj_m58 28 ls M) mq_gf_eq)
theorem s58_28 {d : Nat} {ls : mj_L} {st : List Value} {M : mj_H} : mj_Rn d mj_m58 28 ls st M = mq_k0 d mj_m58 29 ls M (mj_pu .imul ls st) := mj_R0 (r := (.imul, 1, 0, 0, 0)) rfl rfl
theorem s58_29 {d : Nat} {ls : mj_L} {st : List Value} {M : mj_H} : mj_Rn d mj_m58 29 ls st M = mq_k0 d mj_m58 30 ls M (mj_pu .iadd ls st) := mj_R0 (r := (.iadd, 1, 0, 0, 0)) rfl rfl
theorem s58_30 {d : Nat} {ls : mj_L} {st : List Value} {M : mj_H} : mj_Rn d mj_m58 30 ls st M = mq_k2 d mj_m58 ls M (mj_br (.if_icmp .ge 117) 30 st) := mj_R2 (r := (.if_icmp .ge 117, 3, 0, 0, 0)) rfl rfl
theorem s58_33 {d : Nat} {ls : mj_L} {st : List Value} {M : mj_H} : mj_Rn d mj_m58 33 ls st M = mq_k0 d mj_m58 34 ls M (mj_ldi (mj_lk ls 3) st) := mj_R0 (r := (.iload_n 3, 1, 0, 0, 0)) rfl rfl
theorem s58_34 {d : Nat} {ls : mj_L} {st : List Value} {M : mj_H} : mj_Rn d mj_m58 34 ls st M = mj_Rn d mj_m58 35 ls (.int 4 :: st) M := mj_R0 (r := (.iconst 4, 1, 0, 0, 0)) rfl rfl
theorem s58_35 {d : Nat} {ls : mj_L} {st : List Value} {M : mj_H} : mj_Rn d mj_m58 35 ls st M = mq_k2 d mj_m58 ls M (mj_br (.if_icmp .ge 7) 35 st) := mj_R2 (r := (.if_icmp .ge 7, 3, 0, 0, 0)) rfl rfl
theorem s58_38 {d : Nat} {ls : mj_L} {st : List Value} {M : mj_H} : mj_Rn d mj_m58 38 ls st M = mj_Rn d mj_m58 39 ls (.null :: st) M := mj_R0 (r := (.aconst_null, 1, 0, 0, 0)) rfl rfl
theorem s58_39 {d : Nat} {ls : mj_L} {st : List Value} {M : mj_H} : mj_Rn d mj_m58 39 ls st M = mj_Rn d mj_m58 51 ls st M := mj_R2 (r := (.goto 12, 3, 0, 0, 0)) rfl rfl
theorem s58_42 {d : Nat} {ls : mj_L} {st : List Value} {M : mj_H} : mj_Rn d mj_m58 42 ls st M = mq_k0 d mj_m58 43 ls M (mj_lda (mj_lk ls 0) st) := mj_R0 (r := (.aload_n 0, 1, 0, 0, 0)) rfl rfl
theorem s58_43 {d : Nat} {ls : mj_L} {st : List Value} {M : mj_H} : mj_Rn d mj_m58 43 ls st M = mq_k0 d mj_m58 44 ls M (mj_ldi (mj_lk ls 3) st) := mj_R0 (r := (.iload_n 3, 1, 0, 0, 0)) rfl rfl
theorem s58_44 {d : Nat} {ls : mj_L} {st : List Value} {M : mj_H} : mj_Rn d mj_m58 44 ls st M = mj_Rn d mj_m58 45 ls (.int 4 :: st) M := mj_R0 (r := (.iconst 4, 1, 0, 0, 0)) rfl rfl
theorem s58_45 {d : Nat} {ls : mj_L} {st : List Value} {M : mj_H} : mj_Rn d mj_m58 45 ls st M = mq_k0 d mj_m58 46 ls M (mj_pu .isub ls st) := mj_R0 (r := (.isub, 1, 0, 0, 0)) rfl rfl
theorem s58_46 {d : Nat} {ls : mj_L} {st : List Value} {M : mj_H} : mj_Rn d mj_m58 46 ls st M = mj_Rn d mj_m58 47 ls (.int 1 :: st) M := mj_R0 (r := (.iconst 1, 1, 0, 0, 0)) rfl rfl
theorem s58_47 {d : Nat} {ls : mj_L} {st : List Value} {M : mj_H} : mj_Rn d mj_m58 47 ls st M = mq_k0 d mj_m58 48 ls M (mj_pu .ishr ls st) := mj_R0 (r := (.ishr, 1, 0, 0, 0)) rfl rfl
theorem s58_48 {d : Nat} {ls : mj_L} {st : List Value} {M : mj_H} : mj_Rn (d + 1) mj_m58 48 ls st M = mq_k5a (d + 1) mj_m58 51 ls M 61 (mq_cb 0 1 8 st M) := mj_R5e (r := (.invokevirtual 180, 3, 0, 61, 12365)) (z := mj_m61) rfl rfl (by decide) (by decide) rfl
theorem s58_51 {d : Nat} {ls : mj_L} {st : List Value} {M : mj_H} : mj_Rn d mj_m58 51 ls st M = mq_k1 d mj_m58 53 M (mj_lo 6 (.astore 4) ls st) := mj_R1 (r := (.astore 4, 2, 0, 0, 0)) rfl rfl
theorem s58_53 {d : Nat} {ls : mj_L} {st : List Value} {M : mj_H} : mj_Rn d mj_m58 53 ls st M = mq_k0 d mj_m58 54 ls M (mj_ldi (mj_lk ls 3) st) := mj_R0 (r := (.iload_n 3, 1, 0, 0, 0)) rfl rfl
theorem s58_54 {d : Nat} {ls : mj_L} {st : List Value} {M : mj_H} : mj_Rn d mj_m58 54 ls st M = mj_Rn d mj_m58 55 ls (.int 4 :: st) M := mj_R0 (r := (.iconst 4, 1, 0, 0, 0)) rfl rfl
theorem s58_55 {d : Nat} {ls : mj_L} {st : List Value} {M : mj_H} : mj_Rn d mj_m58 55 ls st M = mq_k2 d mj_m58 ls M (mj_br (.if_icmp .ge 9) 55 st) := mj_R2 (r := (.if_icmp .ge 9, 3, 0, 0, 0)) rfl rfl
theorem s58_58 {d : Nat} {ls : mj_L} {st : List Value} {M : mj_H} : mj_Rn d mj_m58 58 ls st M = mq_k0 d mj_m58 59 ls M (mj_ldi (mj_lk ls 3) st) := mj_R0 (r := (.iload_n 3, 1, 0, 0, 0)) rfl rfl
theorem s58_59 {d : Nat} {ls : mj_L} {st : List Value} {M : mj_H} : mj_Rn d mj_m58 59 ls st M = mj_Rn d mj_m58 60 ls (.int 1 :: st) M := mj_R0 (r := (.iconst 1, 1, 0, 0, 0)) rfl rfl
theorem s58_60 {d : Nat} {ls : mj_L} {st : List Value} {M : mj_H} : mj_Rn d mj_m58 60 ls st M = mq_k0 d mj_m58 61 ls M (mj_pu .iadd ls st) := mj_R0 (r := (.iadd, 1, 0, 0, 0)) rfl rfl
theorem s58_61 {d : Nat} {ls : mj_L} {st : List Value} {M : mj_H} : mj_Rn d mj_m58 61 ls st M = mj_Rn d mj_m58 69 ls st M := mj_R2 (r := (.goto 8, 3, 0, 0, 0)) rfl rfl
theorem s58_64 {d : Nat} {ls : mj_L} {st : List Value} {M : mj_H} : mj_Rn d mj_m58 64 ls st M = mj_Rn d mj_m58 65 ls (.int 5 :: st) M := mj_R0 (r := (.iconst 5, 1, 0, 0, 0)) rfl rfl
theorem s58_65 {d : Nat} {ls : mj_L} {st : List Value} {M : mj_H} : mj_Rn d mj_m58 65 ls st M = mq_k0 d mj_m58 66 ls M (mj_ldi (mj_lk ls 3) st) := mj_R0 (r := (.iload_n 3, 1, 0, 0, 0)) rfl rfl
theorem s58_66 {d : Nat} {ls : mj_L} {st : List Value} {M : mj_H} : mj_Rn d mj_m58 66 ls st M = mj_Rn d mj_m58 67 ls (.int 1 :: st) M := mj_R0 (r := (.iconst 1, 1, 0, 0, 0)) rfl rfl
theorem s58_67 {d : Nat} {ls : mj_L} {st : List Value} {M : mj_H} : mj_Rn d mj_m58 67 ls st M = mq_k0 d mj_m58 68 ls M (mj_pu .iand ls st) := mj_R0 (r := (.iand, 1, 0, 0, 0)) rfl rfl
theorem s58_68 {d : Nat} {ls : mj_L} {st : List Value} {M : mj_H} : mj_Rn d mj_m58 68 ls st M = mq_k0 d mj_m58 69 ls M (mj_pu .isub ls st) := mj_R0 (r := (.isub, 1, 0, 0, 0)) rfl rfl
theorem s58_69 {d : Nat} {ls : mj_L} {st : List Value} {M : mj_H} : mj_Rn d mj_m58 69 ls st M = mq_k1 d mj_m58 71 M (mj_lo 6 (.istore 5) ls st) := mj_R1 (r := (.istore 5, 2, 0, 0, 0)) rfl rfl
theorem s58_71 {d : Nat} {ls : mj_L} {st : List Value} {M : mj_H} : mj_Rn d mj_m58 71 ls st M = mq_k0 d mj_m58 72 ls M (mj_lda (mj_lk ls 0) st) := mj_R0 (r := (.aload_n 0, 1, 0, 0, 0)) rfl rfl
theorem s58_72 {d : Nat} {ls : mj_L} {st : List Value} {M : mj_H} : mj_Rn d mj_m58 72 ls st M = mq_k0 d mj_m58 74 ls M (mj_ldi (mj_lk ls 5) st) := mj_R0 (r := (.iload 5, 2, 0, 0, 0)) rfl rfl
theorem s58_74 {d : Nat} {ls : mj_L} {st : List Value} {M : mj_H} : mj_Rn d mj_m58 74 ls st M = mq_k0 d mj_m58 76 ls M (mj_lda (mj_lk ls 4) st) := mj_R0 (r := (.aload 4, 2, 0, 0, 0)) rfl rfl
theorem s58_76 {d : Nat} {ls : mj_L} {st : List Value} {M : mj_H} : mj_Rn (d + 1) mj_m58 76 ls st M = mq_k5a (d + 1) mj_m58 79 ls M 62 (mq_cb 0 2 8 st M) := mj_R5e (r := (.invokevirtual 184, 3, 0, 62, 12369)) (z := mj_m62) rfl rfl (by decide) (by decide) rfl
theorem s58_79 {d : Nat} {ls : mj_L} {st : List Value} {M : mj_H} : mj_Rn d mj_m58 79 ls st M = mq_k2 d mj_m58 ls M (mj_br (.ifCond .eq 62) 79 st) := mj_R2 (r := (.ifCond .eq 62, 3, 0, 0, 0)) rfl rfl
theorem s58_82 {d : Nat} {ls : mj_L} {st : List Value} {M : mj_H} : mj_Rn d mj_m58 82 ls st M = mq_k0 d mj_m58 83 ls M (mj_lda (mj_lk ls 0) st) := mj_R0 (r := (.aload_n 0, 1, 0, 0, 0)) rfl rfl
theorem s58_83 {d : Nat} {ls : mj_L} {st : List Value} {M : mj_H} : mj_Rn d mj_m58 83 ls st M = mq_k0 d mj_m58 85 ls M (mj_ldi (mj_lk ls 5) st) := mj_R0 (r := (.iload 5, 2, 0, 0, 0)) rfl rfl
theorem s58_85 {d : Nat} {ls : mj_L} {st : List Value} {M : mj_H} : mj_Rn d mj_m58 85 ls st M = mq_k0 d mj_m58 86 ls M (mj_lda (mj_lk ls 0) st) := mj_R0 (r := (.aload_n 0, 1, 0, 0, 0)) rfl rfl
theorem s58_86 {d : Nat} {ls : mj_L} {st : List Value} {M : mj_H} : mj_Rn d mj_m58 86 ls st M = mq_k0 d mj_m58 88 ls M (mj_ldi (mj_lk ls 5) st) := mj_R0 (r := (.iload 5, 2, 0, 0, 0)) rfl rfl
theorem s58_88 {d : Nat} {ls : mj_L} {st : List Value} {M : mj_H} : mj_Rn d mj_m58 88 ls st M = mq_k0 d mj_m58 90 ls M (mj_lda (mj_lk ls 4) st) := mj_R0 (r := (.aload 4, 2, 0, 0, 0)) rfl rfl
theorem s58_90 {d : Nat} {ls : mj_L} {st : List Value} {M : mj_H} : mj_Rn (d + 1) mj_m58 90 ls st M = mq_k5a (d + 1) mj_m58 93 ls M 63 (mq_cb 0 2 8 st M) := mj_R5e (r := (.invokevirtual 188, 3, 0, 63, 12373)) (z := mj_m63) rfl rfl (by decide) (by decide) rfl
theorem s58_93 {d : Nat} {ls : mj_L} {st : List Value} {M : mj_H} : mj_Rn d mj_m58 93 ls st M = mq_k0 d mj_m58 95 ls M (mj_lda (mj_lk ls 4) st) := mj_R0 (r := (.aload 4, 2, 0, 0, 0)) rfl rfl
theorem s58_95 {d : Nat} {ls : mj_L} {st : List Value} {M : mj_H} : mj_Rn d mj_m58 95 ls st M = mq_k2 d mj_m58 ls M (mj_br (.ifnonnull 10) 95 st) := mj_R2 (r := (.ifnonnull 10, 3, 0, 0, 0)) rfl rfl
theorem s58_98 {d : Nat} {ls : mj_L} {st : List Value} {M : mj_H} : mj_Rn d mj_m58 98 ls st M = mq_k0 d mj_m58 99 ls M (mj_lda (mj_lk ls 0) st) := mj_R0 (r := (.aload_n 0, 1, 0, 0, 0)) rfl rfl
theorem s58_99 {d : Nat} {ls : mj_L} {st : List Value} {M : mj_H} : mj_Rn d mj_m58 99 ls st M = mq_k0 d mj_m58 102 ls M (mq_gf 8 13 st M) := (mj_R3 (r := (.getfield 121, 3, 8, 13, 16522)) rfl rfl).trans (congrArg (mq_k0 d mj_m58 102 ls M) mq_gf_eq)
theorem s58_102 {d : Nat} {ls : mj_L} {st : List Value} {M : mj_H} : mj_Rn d mj_m58 102 ls st M = mj_Rn d mj_m58 110 ls st M := mj_R2 (r := (.goto 8, 3, 0, 0, 0)) rfl rfl
theorem s58_105 {d : Nat} {ls : mj_L} {st : List Value} {M : mj_H} : mj_Rn d mj_m58 105 ls st M = mq_k0 d mj_m58 107 ls M (mj_lda (mj_lk ls 4) st) := mj_R0 (r := (.aload 4, 2, 0, 0, 0)) rfl rfl
theorem s58_107 {d : Nat} {ls : mj_L} {st : List Value} {M : mj_H} : mj_Rn d mj_m58 107 ls st M = mq_k0 d mj_m58 110 ls M (mq_gf 2 5 st M) := (mj_R3 (r := (.getfield 146, 3, 2, 5, 16451)) rfl rfl).trans (congrArg (mq_k0 d mj_m58 110 ls M) mq_gf_eq)
theorem s58_110 {d : Nat} {ls : mj_L} {st : List Value} {M : mj_H} : mj_Rn d mj_m58 110 ls st M = mq_k0 d mj_m58 112 ls M (mj_lda (mj_lk ls 4) st) := mj_R0 (r := (.aload 4, 2, 0, 0, 0)) rfl rfl
theorem s58_112 {d : Nat} {ls : mj_L} {st : List Value} {M : mj_H} : mj_Rn (d + 1) mj_m58 112 ls st M = mq_k5a (d + 1) mj_m58 115 ls M 44 (mq_cb 0 4 8 st M) := mj_R5e (r := (.invokevirtual 54, 3, 0, 44, 12291)) (z := mj_m44) rfl rfl (by decide) (by decide) rfl
theorem s58_115 {d : Nat} {ls : mj_L} {st : List Value} {M : mj_H} : mj_Rn d mj_m58 115 ls st M = mq_k0 d mj_m58 116 ls M (mj_lda (mj_lk ls 0) st) := mj_R0 (r := (.aload_n 0, 1, 0, 0, 0)) rfl rfl
theorem s58_116 {d : Nat} {ls : mj_L} {st : List Value} {M : mj_H} : mj_Rn d mj_m58 116 ls st M = mq_k0 d mj_m58 117 ls M (mj_ldi (mj_lk ls 1) st) := mj_R0 (r := (.iload_n 1, 1, 0, 0, 0)) rfl rfl
theorem s58_117 {d : Nat} {ls : mj_L} {st : List Value} {M : mj_H} : mj_Rn d mj_m58 117 ls st M = mj_Rn d mj_m58 120 ls (.int 256 :: st) M := mj_R0 (r := (.sipush 256, 3, 0, 0, 0)) rfl rfl
theorem s58_120 {d : Nat} {ls : mj_L} {st : List Value} {M : mj_H} : mj_Rn d mj_m58 120 ls st M = mq_k0 d mj_m58 121 ls M (mj_pu .imul ls st) := mj_R0 (r := (.imul, 1, 0, 0, 0)) rfl rfl
theorem s58_121 {d : Nat} {ls : mj_L} {st : List Value} {M : mj_H} : mj_Rn d mj_m58 121 ls st M = mq_k0 d mj_m58 122 ls M (mj_ldi (mj_lk ls 2) st) := mj_R0 (r := (.iload_n 2, 1, 0, 0, 0)) rfl rfl
theorem s58_122 {d : Nat} {ls : mj_L} {st : List Value} {M : mj_H} : mj_Rn d mj_m58 122 ls st M = mq_k0 d mj_m58 123 ls M (mj_pu .iadd ls st) := mj_R0 (r := (.iadd, 1, 0, 0, 0)) rfl rfl
theorem s58_123 {d : Nat} {ls : mj_L} {st : List Value} {M : mj_H} : mj_Rn (d + 1) mj_m58 123 ls st M = mq_k5a (d + 1) mj_m58 126 ls M 64 (mq_cb 0 1 8 st M) := mj_R5e (r := (.invokevirtual 192, 3, 0, 64, 12377)) (z := mj_m64) rfl rfl (by decide) (by decide) rfl
theorem s58_126 {d : Nat} {ls : mj_L} {st : List Value} {M : mj_H} : mj_Rn d mj_m58 126 ls st M = mq_k2 d mj_m58 ls M (mj_br (.ifCond .ne 5) 126 st) := mj_R2 (r := (.ifCond .ne 5, 3, 0, 0, 0)) rfl rfl
theorem s58_129 {d : Nat} {ls : mj_L} {st : List Value} {M : mj_H} : mj_Rn d mj_m58 129 ls st M = mj_Rn d mj_m58 130 ls (.int 0 :: st) M := mj_R0 (r := (.iconst 0, 1, 0, 0, 0)) rfl rfl
theorem s58_130 {d : Nat} {ls : mj_L} {st : List Value} {M : mj_H} : mj_Rn d mj_m58 130 ls st M = mq_k6 M (mj_re (some .boolean) (.ireturn) st) := mj_R6 (r := (.ireturn, 1, 0, 0, 0)) rfl rfl
theorem s58_131 {d : Nat} {ls : mj_L} {st : List Value} {M : mj_H} : mj_Rn d mj_m58 131 ls st M = mq_k0 d mj_m58 132 ls M (mj_ldi (mj_lk ls 2) st) := mj_R0 (r := (.iload_n 2, 1, 0, 0, 0)) rfl rfl
theorem s58_132 {d : Nat} {ls : mj_L} {st : List Value} {M : mj_H} : mj_Rn d mj_m58 132 ls st M = mq_k0 d mj_m58 133 ls M (mj_lda (mj_lk ls 0) st) := mj_R0 (r := (.aload_n 0, 1, 0, 0, 0)) rfl rfl
theorem s58_133 {d : Nat} {ls : mj_L} {st : List Value} {M : mj_H} : mj_Rn d mj_m58 133 ls st M = mq_k0 d mj_m58 136 ls M (mq_gf 8 1 st M) := (mj_R3 (r := (.getfield 20, 3, 8, 1, 16484)) rfl rfl).trans (congrArg (mq_k0 d mj_m58 136 ls M) mq_gf_eq)
theorem s58_136 {d : Nat} {ls : mj_L} {st : List Value} {M : mj_H} : mj_Rn (d + 1) mj_m58 136 ls st M = mq_k5a (d + 1) mj_m58 139 ls M 9 (mq_cb 0 0 1 st M) := mj_R5e (r := (.invokevirtual 58, 3, 0, 9, 12288)) (z := mj_m9) rfl rfl (by decide) (by decide) rfl
theorem s58_139 {d : Nat} {ls : mj_L} {st : List Value} {M : mj_H} : mj_Rn d mj_m58 139 ls st M = mq_k0 d mj_m58 140 ls M (mj_pu .iadd ls st) := mj_R0 (r := (.iadd, 1, 0, 0, 0)) rfl rfl
theorem s58_140 {d : Nat} {ls : mj_L} {st : List Value} {M : mj_H} : mj_Rn d mj_m58 140 ls st M = mq_k1 d mj_m58 141 M (mj_lo 6 (.istore 2) ls st) := (mj_R1 (r := (.istore_n 2, 1, 0, 0, 0)) rfl rfl).trans (congrArg (mq_k1 d mj_m58 141 M) (mq_sti (k := 2)))
theorem s58_141 {d : Nat} {ls : mj_L} {st : List Value} {M : mj_H} : mj_Rn d mj_m58 141 ls st M = mq_k1 d mj_m58 144 M (mj_lo 6 (.iinc 3 1) ls st) := mj_R1 (r := (.iinc 3 1, 3, 0, 0, 0)) rfl rfl
theorem s58_144 {d : Nat} {ls : mj_L} {st : List Value} {M : mj_H} : mj_Rn d mj_m58 144 ls st M = mj_Rn d mj_m58 21 ls st M := mj_R2 (r := (.goto (-123), 3, 0, 0, 0)) rfl rfl
theorem s58_147 {d : Nat} {ls : mj_L} {st : List Value} {M : mj_H} : mj_Rn d mj_m58 147 ls st M = mq_k0 d mj_m58 148 ls M (mj_lda (mj_lk ls 0) st) := mj_R0 (r := (.aload_n 0, 1, 0, 0, 0)) rfl rfl
theorem s58_148 {d : Nat} {ls : mj_L} {st : List Value} {M : mj_H} : mj_Rn d mj_m58 148 ls st M = mq_k0 d mj_m58 149 ls M (mj_lda (mj_lk ls 0) st) := mj_R0 (r := (.aload_n 0, 1, 0, 0, 0)) rfl rfl
theorem s58_149 {d : Nat} {ls : mj_L} {st : List Value} {M : mj_H} : mj_Rn d mj_m58 149 ls st M = mq_k0 d mj_m58 152 ls M (mq_gf 8 8 st M) := (mj_R3 (r := (.getfield 82, 3, 8, 8, 16506)) rfl rfl).trans (congrArg (mq_k0 d mj_m58 152 ls M) mq_gf_eq)
theorem s58_152 {d : Nat} {ls : mj_L} {st : List Value} {M : mj_H} : mj_Rn d mj_m58 152 ls st M = mj_Rn d mj_m58 153 ls (.int 1 :: st) M := mj_R0 (r := (.iconst 1, 1, 0, 0, 0)) rfl rfl
theorem s58_153 {d : Nat} {ls : mj_L} {st : List Value} {M : mj_H} : mj_Rn d mj_m58 153 ls st M = mq_k0 d mj_m58 154 ls M (mj_pu .iadd ls st) := mj_R0 (r := (.iadd, 1, 0, 0, 0)) rfl rfl
theorem s58_154 {d : Nat} {ls : mj_L} {st : List Value} {M : mj_H} : mj_Rn (d + 1) mj_m58 154 ls st M = mq_k5a (d + 1) mj_m58 157 ls M 41 (mq_cb 0 1 8 st M) := mj_R5e (r := (.invokevirtual 48, 3, 0, 41, 8417)) (z := mj_m41) rfl rfl (by decide) (by decide) rfl
theorem s58_157 {d : Nat} {ls : mj_L} {st : List Value} {M : mj_H} : mj_Rn d mj_m58 157 ls st M = mq_k0 d mj_m58 158 ls M (mj_lda (mj_lk ls 0) st) := mj_R0 (r := (.aload_n 0, 1, 0, 0, 0)) rfl rfl
theorem s58_158 {d : Nat} {ls : mj_L} {st : List Value} {M : mj_H} : mj_Rn d mj_m58 158 ls st M = mq_k0 d mj_m58 159 ls M (mj_ldi (mj_lk ls 1) st) := mj_R0 (r := (.iload_n 1, 1, 0, 0, 0)) rfl rfl
theorem s58_159 {d : Nat} {ls : mj_L} {st : List Value} {M : mj_H} : mj_Rn d mj_m58 159 ls st M = mj_Rn d mj_m58 162 ls (.int 256 :: st) M := mj_R0 (r := (.sipush 256, 3, 0, 0, 0)) rfl rfl
theorem s58_162 {d : Nat} {ls : mj_L} {st : List Value} {M : mj_H} : mj_Rn d mj_m58 162 ls st M = mq_k0 d mj_m58 163 ls M (mj_pu .imul ls st) := mj_R0 (r := (.imul, 1, 0, 0, 0)) rfl rfl
theorem s58_163 {d : Nat} {ls : mj_L} {st : List Value} {M : mj_H} : mj_Rn (d + 1) mj_m58 163 ls st M = mq_k5a (d + 1) mj_m58 166 ls M 64 (mq_cb 0 1 8 st M) := mj_R5e (r := (.invokevirtual 192, 3, 0, 64, 12377)) (z := mj_m64) rfl rfl (by decide) (by decide) rfl
theorem s58_166 {d : Nat} {ls : mj_L} {st : List Value} {M : mj_H} : mj_Rn d mj_m58 166 ls st M = mq_k2 d mj_m58 ls M (mj_br (.ifCond .ne 5) 166 st) := mj_R2 (r := (.ifCond .ne 5, 3, 0, 0, 0)) rfl rfl
theorem s58_169 {d : Nat} {ls : mj_L} {st : List Value} {M : mj_H} : mj_Rn d mj_m58 169 ls st M = mj_Rn d mj_m58 170 ls (.int 0 :: st) M := mj_R0 (r := (.iconst 0, 1, 0, 0, 0)) rfl rfl
theorem s58_170 {d : Nat} {ls : mj_L} {st : List Value} {M : mj_H} : mj_Rn d mj_m58 170 ls st M = mq_k6 M (mj_re (some .boolean) (.ireturn) st) := mj_R6 (r := (.ireturn, 1, 0, 0, 0)) rfl rfl
theorem s58_171 {d : Nat} {ls : mj_L} {st : List Value} {M : mj_H} : mj_Rn d mj_m58 171 ls st M = mq_k0 d mj_m58 172 ls M (mj_lda (mj_lk ls 0) st) := mj_R0 (r := (.aload_n 0, 1, 0, 0, 0)) rfl rfl
theorem s58_172 {d : Nat} {ls : mj_L} {st : List Value} {M : mj_H} : mj_Rn d mj_m58 172 ls st M = mq_k0 d mj_m58 173 ls M (mj_ldi (mj_lk ls 1) st) := mj_R0 (r := (.iload_n 1, 1, 0, 0, 0)) rfl rfl
theorem s58_173 {d : Nat} {ls : mj_L} {st : List Value} {M : mj_H} : mj_Rn d mj_m58 173 ls st M = mq_k4 d mj_m58 176 ls (mq_pf 8 7 0 st M) := (mj_R4 (r := (.putfield 73, 3, 8, 7, 16504)) rfl rfl).trans (congrArg (mq_k4 d mj_m58 176 ls) (mq_pf_eq rfl rfl))
theorem s58_176 {d : Nat} {ls : mj_L} {st : List Value} {M : mj_H} : mj_Rn d mj_m58 176 ls st M = mq_k0 d mj_m58 177 ls M (mj_lda (mj_lk ls 0) st) := mj_R0 (r := (.aload_n 0, 1, 0, 0, 0)) rfl rfl
theorem s58_177 {d : Nat} {ls : mj_L} {st : List Value} {M : mj_H} : mj_Rn d mj_m58 177 ls st M = mq_k0 d mj_m58 178 ls M (mj_pu .dup ls st) := mj_R0 (r := (.dup, 1, 0, 0, 0)) rfl rfl
theorem s58_178 {d : Nat} {ls : mj_L} {st : List Value} {M : mj_H} : mj_Rn d mj_m58 178 ls st M = mq_k0 d mj_m58 181 ls M (mq_gf 8 8 st M) := (mj_R3 (r := (.getfield 82, 3, 8, 8, 16506)) rfl rfl).trans (congrArg (mq_k0 d mj_m58 181 ls M) mq_gf_eq)
theorem s58_181 {d : Nat} {ls : mj_L} {st : List Value} {M : mj_H} : mj_Rn d mj_m58 181 ls st M = mj_Rn d mj_m58 182 ls (.int 1 :: st) M := mj_R0 (r := (.iconst 1, 1, 0, 0, 0)) rfl rfl
theorem s58_182 {d : Nat} {ls : mj_L} {st : List Value} {M : mj_H} : mj_Rn d mj_m58 182 ls st M = mq_k0 d mj_m58 183 ls M (mj_pu .iadd ls st) := mj_R0 (r := (.iadd, 1, 0, 0, 0)) rfl rfl
theorem s58_183 {d : Nat} {ls : mj_L} {st : List Value} {M : mj_H} : mj_Rn d mj_m58 183 ls st M = mq_k4 d mj_m58 186 ls (mq_pf 8 8 0 st M) := (mj_R4 (r := (.putfield 82, 3, 8, 8, 16506)) rfl rfl).trans (congrArg (mq_k4 d mj_m58 186 ls) (mq_pf_eq rfl rfl))
theorem s58_186 {d : Nat} {ls : mj_L} {st : List Value} {M : mj_H} : mj_Rn d mj_m58 186 ls st M = mq_k0 d mj_m58 187 ls M (mj_lda (mj_lk ls 0) st) := mj_R0 (r := (.aload_n 0, 1, 0, 0, 0)) rfl rfl
theorem s58_187 {d : Nat} {ls : mj_L} {st : List Value} {M : mj_H} : mj_Rn d mj_m58 187 ls st M = mq_k0 d mj_m58 188 ls M (mj_ldi (mj_lk ls 2) st) := mj_R0 (r := (.iload_n 2, 1, 0, 0, 0)) rfl rfl
theorem s58_188 {d : Nat} {ls : mj_L} {st : List Value} {M : mj_H} : mj_Rn d mj_m58 188 ls st M = mq_k4 d mj_m58 191 ls (mq_pf 8 9 0 st M) := (mj_R4 (r := (.putfield 88, 3, 8, 9, 16508)) rfl rfl).trans (congrArg (mq_k4 d mj_m58 191 ls) (mq_pf_eq rfl rfl))
theorem s58_191 {d : Nat} {ls : mj_L} {st : List Value} {M : mj_H} : mj_Rn d mj_m58 191 ls st M = mj_Rn d mj_m58 192 ls (.int 1 :: st) M := mj_R0 (r := (.iconst 1, 1, 0, 0, 0)) rfl rfl
theorem s58_192 {d : Nat} {ls : mj_L} {st : List Value} {M : mj_H} : mj_Rn d mj_m58 192 ls st M = mq_k6 M (mj_re (some .boolean) (.ireturn) st) := mj_R6 (r := (.ireturn, 1, 0, 0, 0)) rfl rfl
theorem c58 {d : Nat} {a0 : Nat} {M : mj_H} : mj_V (d + 1) 58 [.ref a0] M = mj_Rn d mj_m58 0 [(0, .ref a0)] [] M := mj_V_go rfl (Nat.le_of_ble_eq_true rfl)
def kl (κ : Nat) : List Value := [.ref (κ + 7), .ref (κ + 8), .ref (κ + 9), .ref (κ + 10), .ref (κ + 11), .ref (κ + 12), .ref (κ + 13), .ref (κ + 14)]
theorem kl_at {κ i : Nat} (h : i < 8) : (kl κ)[i]? = some (.ref (κ + 7 + i)) := by
  rcases (show i = 0 ∨ i = 1 ∨ i = 2 ∨ i = 3 ∨ i = 4 ∨ i = 5 ∨ i = 6 ∨ i = 7 by omega) with rfl | rfl | rfl | rfl | rfl | rfl | rfl | rfl <;> rfl
theorem kl_len {κ : Nat} : (kl κ).length = 8 := rfl
theorem st_standing {d κ i : Nat} {s : Fl} {r : List Int32} {M : mj_H} (h : ks M κ s r) (hi : i < s.2.2.2.2.2.2.2.2.2.2.2.length) : mj_V (d + 1) 61 [.ref (κ + 1), .int (nI i)] M = some (some (.ref (κ + 7 + i)), M) := by
  have hob := h.ob
  unfold so at hob
  have h8 := h.l8
  have ha : M[κ + 6]? = some (1007, kl κ) := h.ca
  have e1 := kl_at (κ := κ) (show i < 8 by omega)
  have e2 := kl_len (κ := κ)
  generalize kl κ = zs at *
  simp (disch := (first | omega | decide)) [c61, s61_0, s61_1, s61_4, s61_5, s61_6, s61_9, s61_12, s61_13, s61_14, s61_17, s61_18, s61_21, s61_22, s61_25, s61_26, s61_29, s61_30, s61_31, mq_k0s, mq_k1s, mq_k2s, mq_k4s, mq_k5s, mq_k5n, mq_k5as, mq_k6s, mj_pu, mj_lo, mj_br, mj_hr, mj_hw, mq_gf, mq_len, mq_al, mq_pf, mq_ok, mj_re, mq_lkm, mq_lkn, mj_ldi, mj_ldl, mj_lda, mj_ii, mj_ll, mj_li, mj_i1, ms_1, ms_2, f1_n, f1_i, f1_r, f1_u, f1_l, f2_n, f2_i, f2_r, f2_u, f2_l, mj_tg, mj_c1, mj_c2, mj_ar, mj_aw, mq_cb, mq_oi, mj_rm, Value.category, -getElem?_pos, List.getElem?_cons_zero, decide_eq_true, decide_eq_false, nl_lt, nl_le, ln_lt, ln_le, nl_eq, ln_eq, nl_add, ln_add, nl_sub, ln_mul, nI_sub, nI_mul, nI_add, nI_lt_iff, nI_le_iff, nI_inj, nI_num, mq_ix, nI_1, nl_mul, nl_div, hob, ha, e1, e2, narrow]
theorem st_standing0 {d κ : Nat} {i : Int32} {s : Fl} {r : List Int32} {M : mj_H} (h : ks M κ s r) (hi : i < 0 ∨ ∃ k : Nat, i = nI k ∧ k < 2 ^ 31 ∧ s.2.2.2.2.2.2.2.2.2.2.2.length ≤ k) : mj_V (d + 1) 61 [.ref (κ + 1), .int i] M = some (some .null, M) := by
  have hob := h.ob
  unfold so at hob
  have h8 := h.l8
  rcases hi with hi | ⟨k, rfl, hk, hi⟩
  · simp (disch := (first | omega | decide)) [c61, s61_0, s61_1, s61_4, s61_5, s61_6, s61_9, s61_12, s61_13, s61_14, s61_17, s61_18, s61_21, s61_22, s61_25, s61_26, s61_29, s61_30, s61_31, mq_k0s, mq_k1s, mq_k2s, mq_k4s, mq_k5s, mq_k5n, mq_k5as, mq_k6s, mj_pu, mj_lo, mj_br, mj_hr, mj_hw, mq_gf, mq_len, mq_al, mq_pf, mq_ok, mj_re, mq_lkm, mq_lkn, mj_ldi, mj_ldl, mj_lda, mj_ii, mj_ll, mj_li, mj_i1, ms_1, ms_2, f1_n, f1_i, f1_r, f1_u, f1_l, f2_n, f2_i, f2_r, f2_u, f2_l, mj_tg, mj_c1, mj_c2, mj_ar, mj_aw, mq_cb, mq_oi, mj_rm, Value.category, -getElem?_pos, List.getElem?_cons_zero, decide_eq_true, decide_eq_false, nl_lt, nl_le, ln_lt, ln_le, nl_eq, ln_eq, nl_add, ln_add, nl_sub, ln_mul, nI_sub, nI_mul, nI_add, nI_lt_iff, nI_le_iff, nI_inj, nI_num, mq_ix, nI_1, nl_mul, nl_div, hob, hi, narrow]
  · simp (disch := (first | omega | decide)) [c61, s61_0, s61_1, s61_4, s61_5, s61_6, s61_9, s61_12, s61_13, s61_14, s61_17, s61_18, s61_21, s61_22, s61_25, s61_26, s61_29, s61_30, s61_31, mq_k0s, mq_k1s, mq_k2s, mq_k4s, mq_k5s, mq_k5n, mq_k5as, mq_k6s, mj_pu, mj_lo, mj_br, mj_hr, mj_hw, mq_gf, mq_len, mq_al, mq_pf, mq_ok, mj_re, mq_lkm, mq_lkn, mj_ldi, mj_ldl, mj_lda, mj_ii, mj_ll, mj_li, mj_i1, ms_1, ms_2, f1_n, f1_i, f1_r, f1_u, f1_l, f2_n, f2_i, f2_r, f2_u, f2_l, mj_tg, mj_c1, mj_c2, mj_ar, mj_aw, mq_cb, mq_oi, mj_rm, Value.category, -getElem?_pos, List.getElem?_cons_zero, decide_eq_true, decide_eq_false, nl_lt, nl_le, ln_lt, ln_le, nl_eq, ln_eq, nl_add, ln_add, nl_sub, ln_mul, nI_sub, nI_mul, nI_add, nI_lt_iff, nI_le_iff, nI_inj, nI_num, mq_ix, nI_1, nl_mul, nl_div, hob, hk, narrow]
def dueN (σ : St) (k : Nat) : Bool := if k = 2 then !decide (σ.2.1 = 0) else if k = 3 then !decide (σ.2.2.1 = 8) else if k = 4 then !decide (σ.2.2.2.1 = 0) else true
def fstN (σ : St) (k : Nat) : Int32 := if k = 1 then σ.1 else if k = 2 then σ.2.1 else if k = 3 then σ.2.2.1 else 0
theorem st_due {d κ k : Nat} {s : Fl} {r : List Int32} {M : mj_H} (h : ks M κ s r) (hk : 1 ≤ k ∧ k ≤ 4) : mj_V (d + 1) 62 [.ref (κ + 1), .int (nI k), .null] M = some (some (.int (on1 (dueN s.2.2.2.2.2.2.2 k))), M) := by
  have hob := h.ob
  unfold so at hob
  rcases (show k = 1 ∨ k = 2 ∨ k = 3 ∨ k = 4 by omega) with rfl | rfl | rfl | rfl
  · rw [show nI 1 = 1 from rfl]; simp (disch := (first | omega | decide)) [c62n2, s62_0, s62_1, s62_28, s62_29, s62_32, s62_35, s62_36, s62_39, s62_40, s62_41, s62_42, s62_45, s62_47, s62_50, s62_51, s62_54, s62_55, s62_56, s62_57, s62_60, s62_61, s62_64, s62_67, s62_68, s62_71, s62_74, s62_75, s62_78, s62_79, s62_80, s62_81, mq_k0s, mq_k1s, mq_k2s, mq_k4s, mq_k5s, mq_k5n, mq_k5as, mq_k6s, mj_pu, mj_lo, mj_br, mj_hr, mj_hw, mq_gf, mq_len, mq_al, mq_pf, mq_ok, mj_re, mq_lkm, mq_lkn, mj_ldi, mj_ldl, mj_lda, mj_ii, mj_ll, mj_li, mj_i1, ms_1, ms_2, f1_n, f1_i, f1_r, f1_u, f1_l, f2_n, f2_i, f2_r, f2_u, f2_l, mj_tg, mj_c1, mj_c2, mj_ar, mj_aw, mq_cb, mq_oi, mj_rm, Value.category, -getElem?_pos, List.getElem?_cons_zero, decide_eq_true, decide_eq_false, nl_lt, nl_le, ln_lt, ln_le, nl_eq, ln_eq, nl_add, ln_add, nl_sub, ln_mul, nI_sub, nI_mul, nI_add, nI_lt_iff, nI_le_iff, nI_inj, nI_num, mq_ix, nI_1, nl_mul, nl_div, hob, narrow_b1, dueN, on1]
  · rw [show nI 2 = 2 from rfl]
    by_cases h0 : s.2.2.2.2.2.2.2.2.1 = 0 <;> simp (disch := (first | omega | decide)) [c62n2, s62_0, s62_1, s62_28, s62_29, s62_32, s62_35, s62_36, s62_39, s62_40, s62_41, s62_42, s62_45, s62_47, s62_50, s62_51, s62_54, s62_55, s62_56, s62_57, s62_60, s62_61, s62_64, s62_67, s62_68, s62_71, s62_74, s62_75, s62_78, s62_79, s62_80, s62_81, mq_k0s, mq_k1s, mq_k2s, mq_k4s, mq_k5s, mq_k5n, mq_k5as, mq_k6s, mj_pu, mj_lo, mj_br, mj_hr, mj_hw, mq_gf, mq_len, mq_al, mq_pf, mq_ok, mj_re, mq_lkm, mq_lkn, mj_ldi, mj_ldl, mj_lda, mj_ii, mj_ll, mj_li, mj_i1, ms_1, ms_2, f1_n, f1_i, f1_r, f1_u, f1_l, f2_n, f2_i, f2_r, f2_u, f2_l, mj_tg, mj_c1, mj_c2, mj_ar, mj_aw, mq_cb, mq_oi, mj_rm, Value.category, -getElem?_pos, List.getElem?_cons_zero, decide_eq_true, decide_eq_false, nl_lt, nl_le, ln_lt, ln_le, nl_eq, ln_eq, nl_add, ln_add, nl_sub, ln_mul, nI_sub, nI_mul, nI_add, nI_lt_iff, nI_le_iff, nI_inj, nI_num, mq_ix, nI_1, nl_mul, nl_div, hob, narrow_b0, narrow_b1, dueN, on1, h0]
  · rw [show nI 3 = 3 from rfl]
    by_cases h0 : s.2.2.2.2.2.2.2.2.2.1 = 8 <;> simp (disch := (first | omega | decide)) [c62n2, s62_0, s62_1, s62_28, s62_29, s62_32, s62_35, s62_36, s62_39, s62_40, s62_41, s62_42, s62_45, s62_47, s62_50, s62_51, s62_54, s62_55, s62_56, s62_57, s62_60, s62_61, s62_64, s62_67, s62_68, s62_71, s62_74, s62_75, s62_78, s62_79, s62_80, s62_81, mq_k0s, mq_k1s, mq_k2s, mq_k4s, mq_k5s, mq_k5n, mq_k5as, mq_k6s, mj_pu, mj_lo, mj_br, mj_hr, mj_hw, mq_gf, mq_len, mq_al, mq_pf, mq_ok, mj_re, mq_lkm, mq_lkn, mj_ldi, mj_ldl, mj_lda, mj_ii, mj_ll, mj_li, mj_i1, ms_1, ms_2, f1_n, f1_i, f1_r, f1_u, f1_l, f2_n, f2_i, f2_r, f2_u, f2_l, mj_tg, mj_c1, mj_c2, mj_ar, mj_aw, mq_cb, mq_oi, mj_rm, Value.category, -getElem?_pos, List.getElem?_cons_zero, decide_eq_true, decide_eq_false, nl_lt, nl_le, ln_lt, ln_le, nl_eq, ln_eq, nl_add, ln_add, nl_sub, ln_mul, nI_sub, nI_mul, nI_add, nI_lt_iff, nI_le_iff, nI_inj, nI_num, mq_ix, nI_1, nl_mul, nl_div, hob, narrow_b0, narrow_b1, dueN, on1, h0]
  · rw [show nI 4 = 4 from rfl]
    by_cases h0 : s.2.2.2.2.2.2.2.2.2.2.1 = 0 <;> simp (disch := (first | omega | decide)) [c62n2, s62_0, s62_1, s62_28, s62_29, s62_32, s62_35, s62_36, s62_39, s62_40, s62_41, s62_42, s62_45, s62_47, s62_50, s62_51, s62_54, s62_55, s62_56, s62_57, s62_60, s62_61, s62_64, s62_67, s62_68, s62_71, s62_74, s62_75, s62_78, s62_79, s62_80, s62_81, mq_k0s, mq_k1s, mq_k2s, mq_k4s, mq_k5s, mq_k5n, mq_k5as, mq_k6s, mj_pu, mj_lo, mj_br, mj_hr, mj_hw, mq_gf, mq_len, mq_al, mq_pf, mq_ok, mj_re, mq_lkm, mq_lkn, mj_ldi, mj_ldl, mj_lda, mj_ii, mj_ll, mj_li, mj_i1, ms_1, ms_2, f1_n, f1_i, f1_r, f1_u, f1_l, f2_n, f2_i, f2_r, f2_u, f2_l, mj_tg, mj_c1, mj_c2, mj_ar, mj_aw, mq_cb, mq_oi, mj_rm, Value.category, -getElem?_pos, List.getElem?_cons_zero, decide_eq_true, decide_eq_false, nl_lt, nl_le, ln_lt, ln_le, nl_eq, ln_eq, nl_add, ln_add, nl_sub, ln_mul, nI_sub, nI_mul, nI_add, nI_lt_iff, nI_le_iff, nI_inj, nI_num, mq_ix, nI_1, nl_mul, nl_div, hob, narrow_b0, narrow_b1, dueN, on1, h0]
theorem st_fst {d κ k : Nat} {s : Fl} {r : List Int32} {M : mj_H} (h : ks M κ s r) (hk : 1 ≤ k ∧ k ≤ 4) : mj_V (d + 1) 63 [.ref (κ + 1), .int (nI k), .null] M = some (some (.int (fstN s.2.2.2.2.2.2.2 k)), M) := by
  have hob := h.ob
  unfold so at hob
  rcases (show k = 1 ∨ k = 2 ∨ k = 3 ∨ k = 4 by omega) with rfl | rfl | rfl | rfl
  · rw [show nI 1 = 1 from rfl]; simp (disch := (first | omega | decide)) [c63n2, s63_0, s63_1, s63_28, s63_29, s63_32, s63_33, s63_34, s63_37, s63_38, s63_39, s63_42, s63_43, s63_44, s63_47, s63_48, s63_51, s63_52, s63_55, mq_k0s, mq_k1s, mq_k2s, mq_k4s, mq_k5s, mq_k5n, mq_k5as, mq_k6s, mj_pu, mj_lo, mj_br, mj_hr, mj_hw, mq_gf, mq_len, mq_al, mq_pf, mq_ok, mj_re, mq_lkm, mq_lkn, mj_ldi, mj_ldl, mj_lda, mj_ii, mj_ll, mj_li, mj_i1, ms_1, ms_2, f1_n, f1_i, f1_r, f1_u, f1_l, f2_n, f2_i, f2_r, f2_u, f2_l, mj_tg, mj_c1, mj_c2, mj_ar, mj_aw, mq_cb, mq_oi, mj_rm, Value.category, -getElem?_pos, List.getElem?_cons_zero, decide_eq_true, decide_eq_false, nl_lt, nl_le, ln_lt, ln_le, nl_eq, ln_eq, nl_add, ln_add, nl_sub, ln_mul, nI_sub, nI_mul, nI_add, nI_lt_iff, nI_le_iff, nI_inj, nI_num, mq_ix, nI_1, nl_mul, nl_div, hob, narrow, fstN]
  · rw [show nI 2 = 2 from rfl]; simp (disch := (first | omega | decide)) [c63n2, s63_0, s63_1, s63_28, s63_29, s63_32, s63_33, s63_34, s63_37, s63_38, s63_39, s63_42, s63_43, s63_44, s63_47, s63_48, s63_51, s63_52, s63_55, mq_k0s, mq_k1s, mq_k2s, mq_k4s, mq_k5s, mq_k5n, mq_k5as, mq_k6s, mj_pu, mj_lo, mj_br, mj_hr, mj_hw, mq_gf, mq_len, mq_al, mq_pf, mq_ok, mj_re, mq_lkm, mq_lkn, mj_ldi, mj_ldl, mj_lda, mj_ii, mj_ll, mj_li, mj_i1, ms_1, ms_2, f1_n, f1_i, f1_r, f1_u, f1_l, f2_n, f2_i, f2_r, f2_u, f2_l, mj_tg, mj_c1, mj_c2, mj_ar, mj_aw, mq_cb, mq_oi, mj_rm, Value.category, -getElem?_pos, List.getElem?_cons_zero, decide_eq_true, decide_eq_false, nl_lt, nl_le, ln_lt, ln_le, nl_eq, ln_eq, nl_add, ln_add, nl_sub, ln_mul, nI_sub, nI_mul, nI_add, nI_lt_iff, nI_le_iff, nI_inj, nI_num, mq_ix, nI_1, nl_mul, nl_div, hob, narrow, fstN]
  · rw [show nI 3 = 3 from rfl]; simp (disch := (first | omega | decide)) [c63n2, s63_0, s63_1, s63_28, s63_29, s63_32, s63_33, s63_34, s63_37, s63_38, s63_39, s63_42, s63_43, s63_44, s63_47, s63_48, s63_51, s63_52, s63_55, mq_k0s, mq_k1s, mq_k2s, mq_k4s, mq_k5s, mq_k5n, mq_k5as, mq_k6s, mj_pu, mj_lo, mj_br, mj_hr, mj_hw, mq_gf, mq_len, mq_al, mq_pf, mq_ok, mj_re, mq_lkm, mq_lkn, mj_ldi, mj_ldl, mj_lda, mj_ii, mj_ll, mj_li, mj_i1, ms_1, ms_2, f1_n, f1_i, f1_r, f1_u, f1_l, f2_n, f2_i, f2_r, f2_u, f2_l, mj_tg, mj_c1, mj_c2, mj_ar, mj_aw, mq_cb, mq_oi, mj_rm, Value.category, -getElem?_pos, List.getElem?_cons_zero, decide_eq_true, decide_eq_false, nl_lt, nl_le, ln_lt, ln_le, nl_eq, ln_eq, nl_add, ln_add, nl_sub, ln_mul, nI_sub, nI_mul, nI_add, nI_lt_iff, nI_le_iff, nI_inj, nI_num, mq_ix, nI_1, nl_mul, nl_div, hob, narrow, fstN]
  · rw [show nI 4 = 4 from rfl]; simp (disch := (first | omega | decide)) [c63n2, s63_0, s63_1, s63_28, s63_29, s63_32, s63_33, s63_34, s63_37, s63_38, s63_39, s63_42, s63_43, s63_44, s63_47, s63_48, s63_51, s63_52, s63_55, mq_k0s, mq_k1s, mq_k2s, mq_k4s, mq_k5s, mq_k5n, mq_k5as, mq_k6s, mj_pu, mj_lo, mj_br, mj_hr, mj_hw, mq_gf, mq_len, mq_al, mq_pf, mq_ok, mj_re, mq_lkm, mq_lkn, mj_ldi, mj_ldl, mj_lda, mj_ii, mj_ll, mj_li, mj_i1, ms_1, ms_2, f1_n, f1_i, f1_r, f1_u, f1_l, f2_n, f2_i, f2_r, f2_u, f2_l, mj_tg, mj_c1, mj_c2, mj_ar, mj_aw, mq_cb, mq_oi, mj_rm, Value.category, -getElem?_pos, List.getElem?_cons_zero, decide_eq_true, decide_eq_false, nl_lt, nl_le, ln_lt, ln_le, nl_eq, ln_eq, nl_add, ln_add, nl_sub, ln_mul, nI_sub, nI_mul, nI_add, nI_lt_iff, nI_le_iff, nI_inj, nI_num, mq_ix, nI_1, nl_mul, nl_div, hob, narrow, fstN]
theorem st_due5 {d κ x : Nat} {s : Fl} {r : List Int32} {M : mj_H} (h : ks M κ s r) : mj_V (d + 1) 62 [.ref (κ + 1), .int 5, .ref x] M = some (some (.int 1), M) := by
  simp (disch := (first | omega | decide)) [c62, s62_0, s62_1, s62_28, s62_29, s62_32, s62_35, s62_36, s62_39, s62_40, s62_41, s62_42, s62_45, s62_47, s62_50, s62_51, s62_54, s62_55, s62_56, s62_57, s62_60, s62_61, s62_64, s62_67, s62_68, s62_71, s62_74, s62_75, s62_78, s62_79, s62_80, s62_81, mq_k0s, mq_k1s, mq_k2s, mq_k4s, mq_k5s, mq_k5n, mq_k5as, mq_k6s, mj_pu, mj_lo, mj_br, mj_hr, mj_hw, mq_gf, mq_len, mq_al, mq_pf, mq_ok, mj_re, mq_lkm, mq_lkn, mj_ldi, mj_ldl, mj_lda, mj_ii, mj_ll, mj_li, mj_i1, ms_1, ms_2, f1_n, f1_i, f1_r, f1_u, f1_l, f2_n, f2_i, f2_r, f2_u, f2_l, mj_tg, mj_c1, mj_c2, mj_ar, mj_aw, mq_cb, mq_oi, mj_rm, Value.category, -getElem?_pos, List.getElem?_cons_zero, decide_eq_true, decide_eq_false, nl_lt, nl_le, ln_lt, ln_le, nl_eq, ln_eq, nl_add, ln_add, nl_sub, ln_mul, nI_sub, nI_mul, nI_add, nI_lt_iff, nI_le_iff, nI_inj, nI_num, mq_ix, nI_1, nl_mul, nl_div, narrow_b1]
theorem st_due4 {d κ x : Nat} {s : Fl} {r : List Int32} {M : mj_H} {c : Cr} (h : ks M κ s r) (hx : M[x]? = some (cc c)) : mj_V (d + 1) 62 [.ref (κ + 1), .int 4, .ref x] M = some (some (.int (on1 (!decide (c.2.2.2.2 = 0)))), M) := by
  unfold cc at hx
  by_cases h0 : c.2.2.2.2 = 0 <;> simp (disch := (first | omega | decide)) [c62, s62_0, s62_1, s62_28, s62_29, s62_32, s62_35, s62_36, s62_39, s62_40, s62_41, s62_42, s62_45, s62_47, s62_50, s62_51, s62_54, s62_55, s62_56, s62_57, s62_60, s62_61, s62_64, s62_67, s62_68, s62_71, s62_74, s62_75, s62_78, s62_79, s62_80, s62_81, mq_k0s, mq_k1s, mq_k2s, mq_k4s, mq_k5s, mq_k5n, mq_k5as, mq_k6s, mj_pu, mj_lo, mj_br, mj_hr, mj_hw, mq_gf, mq_len, mq_al, mq_pf, mq_ok, mj_re, mq_lkm, mq_lkn, mj_ldi, mj_ldl, mj_lda, mj_ii, mj_ll, mj_li, mj_i1, ms_1, ms_2, f1_n, f1_i, f1_r, f1_u, f1_l, f2_n, f2_i, f2_r, f2_u, f2_l, mj_tg, mj_c1, mj_c2, mj_ar, mj_aw, mq_cb, mq_oi, mj_rm, Value.category, -getElem?_pos, List.getElem?_cons_zero, decide_eq_true, decide_eq_false, nl_lt, nl_le, ln_lt, ln_le, nl_eq, ln_eq, nl_add, ln_add, nl_sub, ln_mul, nI_sub, nI_mul, nI_add, nI_lt_iff, nI_le_iff, nI_inj, nI_num, mq_ix, nI_1, nl_mul, nl_div, hx, narrow_b1, narrow_b0, on1, h0]
theorem st_fst45 {d κ x : Nat} {k : Int32} {s : Fl} {r : List Int32} {M : mj_H} {c : Cr} (h : ks M κ s r) (hk : k = 4 ∨ k = 5) (hx : M[x]? = some (cc c)) : mj_V (d + 1) 63 [.ref (κ + 1), .int k, .ref x] M = some (some (.int c.1), M) := by
  unfold cc at hx
  rcases hk with rfl | rfl <;> simp (disch := (first | omega | decide)) [c63, s63_0, s63_1, s63_28, s63_29, s63_32, s63_33, s63_34, s63_37, s63_38, s63_39, s63_42, s63_43, s63_44, s63_47, s63_48, s63_51, s63_52, s63_55, mq_k0s, mq_k1s, mq_k2s, mq_k4s, mq_k5s, mq_k5n, mq_k5as, mq_k6s, mj_pu, mj_lo, mj_br, mj_hr, mj_hw, mq_gf, mq_len, mq_al, mq_pf, mq_ok, mj_re, mq_lkm, mq_lkn, mj_ldi, mj_ldl, mj_lda, mj_ii, mj_ll, mj_li, mj_i1, ms_1, ms_2, f1_n, f1_i, f1_r, f1_u, f1_l, f2_n, f2_i, f2_r, f2_u, f2_l, mj_tg, mj_c1, mj_c2, mj_ar, mj_aw, mq_cb, mq_oi, mj_rm, Value.category, -getElem?_pos, List.getElem?_cons_zero, decide_eq_true, decide_eq_false, nl_lt, nl_le, ln_lt, ln_le, nl_eq, ln_eq, nl_add, ln_add, nl_sub, ln_mul, nI_sub, nI_mul, nI_add, nI_lt_iff, nI_le_iff, nI_inj, nI_num, mq_ix, nI_1, nl_mul, nl_div, hx, narrow]
/-- item r of a move -/
def mvi (σ : St) (r : Nat) : List Int32 :=
  if r < 4 then (if dueN σ (r + 1) then rcn (nI (r + 1)) (fstN σ (r + 1)) σ.2.2.2.1 else [])
  else match σ.2.2.2.2[(r - 4) / 2]? with
    | none => []
    | some c => if r % 2 = 0 then c.row else (if c.2.2.2.2 = 0 then [] else rcCount c.1 c.2.2.2.2)
def fs_mt (w g : Nat) (rest : List Int32) (to : Nat) (s : Fl) : Fl × Bool :=
  let l := fs_lay rest (w * 256 + to) s
  if l.2 = false then l else
  let h := fs_lay (hdr (g + 1)) (w * 256) l.1
  if h.2 = false then h else
  (((h.1.1, (h.1.2.1, (h.1.2.2.1, (h.1.2.2.2.1, (w, (g + 1, (to + rest.length, h.1.2.2.2.2.2.2.2))))))) : Fl), true)
theorem fs_lay_app : ∀ (a b : List Int32) (p : Nat) (s : Fl), fs_lay (a ++ b) p s = if (fs_lay a p s).2 = false then fs_lay a p s else fs_lay b (p + a.length) (fs_lay a p s).1 := by
  intro a
  induction a with
  | nil => intro b p s; simp [fs_lay]
  | cons x a ih =>
    intro b p s
    rw [List.cons_append, fs_lay, fs_lay]
    by_cases h : s.2.2.2.1 = 0
    · simp [h]
    · rw [if_neg h, if_neg h, ih, List.length_cons, show p + 1 + a.length = p + (a.length + 1) by omega]
theorem fs_mt_app (w g to : Nat) (a b : List Int32) (s : Fl) : fs_mt w g (a ++ b) to s = if (fs_lay a (w * 256 + to) s).2 = false then fs_lay a (w * 256 + to) s else fs_mt w g b (to + a.length) (fs_lay a (w * 256 + to) s).1 := by
  unfold fs_mt
  rw [fs_lay_app]
  cases h : (fs_lay a (w * 256 + to) s).2 with
  | false => simp [h]
  | true => simp [Nat.add_assoc]
theorem fs_lay_on : ∀ (bs : List Int32) (p : Nat) (s : Fl), (fs_lay bs p s).2 = true → (fs_lay bs p s).1.2.1 = s.2.1 := by
  intro bs
  induction bs with
  | nil => intro p s _; rfl
  | cons b bs ih =>
    intro p s h
    rw [fs_lay] at h ⊢
    split at h
    · cases h
    · next h0 => rw [if_neg h0, ih _ _ h]; rfl
theorem fs_lay_st : ∀ (bs : List Int32) (p : Nat) (s : Fl), (fs_lay bs p s).1.2.2.2.2.2.2.2 = s.2.2.2.2.2.2.2 ∧ (fs_lay bs p s).1.2.2.2.2.1 = s.2.2.2.2.1 ∧ (fs_lay bs p s).1.2.2.2.2.2.1 = s.2.2.2.2.2.1 ∧ (fs_lay bs p s).1.2.2.2.2.2.2.1 = s.2.2.2.2.2.2.1 := by
  intro bs
  induction bs with
  | nil => intro p s; exact ⟨rfl, rfl, rfl, rfl⟩
  | cons b bs ih =>
    intro p s
    rw [fs_lay]
    split
    · exact ⟨rfl, rfl, rfl, rfl⟩
    · exact ih _ _
theorem nI_shr1 : ∀ a : Nat, a < 32 → nI a >>> (1 : Int32) = nI (a / 2) := by decide +kernel
theorem nI_and1 : ∀ a : Nat, a < 32 → nI a &&& (1 : Int32) = nI (a % 2) := by decide +kernel
theorem and131 : (1 : Int32) &&& 31 = 1 := by decide
/-- the users of all are short -/
def okU (cr : List Cr) : Prop := ∀ c ∈ cr, c.2.2.2.1.length ≤ 8 ∧ ∀ v ∈ c.2.2.2.1, v &&& 255 = v
theorem l_move {d κ w g : Nat} {σ : St} (hw : w ≤ 1) (hg : g < 2 ^ 30) (hu : okU σ.2.2.2.2) : ∀ (m rr to : Nat) (s : Fl) (r : List Int32) (M : mj_H), rr + m = 4 + 2 * σ.2.2.2.2.length → ks M κ s r → s.2.1 = true → s.1.length = 512 → s.2.2.2.2.2.2.2 = σ → s.2.2.2.2.2.1 = g → to + ((List.range' rr m).flatMap (mvi σ)).length ≤ 256 →
    ∃ M' r', mj_Rn (d + 3) mj_m58 21 [(3, .int (nI rr)), (2, .int (nI to)), (1, .int (nI w)), (0, .ref (κ + 1))] [] M = some (some (.int (on1 (fs_mt w g ((List.range' rr m).flatMap (mvi σ)) to s).2)), M') ∧ ks M' κ (fs_mt w g ((List.range' rr m).flatMap (mvi σ)) to s).1 r' ∧ kf κ M M' := by
  intro m
  induction m with
  | zero =>
    intro rr to s r M hrr h hon hfl hst hgen hto
    have hob := h.ob
    unfold so at hob
    obtain ⟨M1, p1, r1, f1⟩ := st_header (d := d + 1) h (g + 1)
    obtain ⟨M2, p2, r2, f2⟩ := st_lay (d := d + 1) (p := w * 256) r1 (by show _ + 4 ≤ _; omega) hon hfl
    have e0 : (List.range' rr 0).flatMap (mvi σ) = [] := rfl
    rw [e0]
    have hh : fs_mt w g [] to s = if (fs_lay (hdr (g + 1)) (w * 256) s).2 = false then fs_lay (hdr (g + 1)) (w * 256) s else (((((fs_lay (hdr (g + 1)) (w * 256) s).1).1, (((fs_lay (hdr (g + 1)) (w * 256) s).1).2.1, (((fs_lay (hdr (g + 1)) (w * 256) s).1).2.2.1, (((fs_lay (hdr (g + 1)) (w * 256) s).1).2.2.2.1, (w, (g + 1, (to, ((fs_lay (hdr (g + 1)) (w * 256) s).1).2.2.2.2.2.2.2))))))) : Fl), true) := by
      simp [fs_mt, fs_lay]
      rfl
    rw [hh]
    have hl8 := h.l8
    rw [hst] at hl8 hob
    rw [hgen] at hob
    have o1 := r1.ob
    unfold so at o1
    rw [s58_21]
    cases h2 : (fs_lay (hdr (g + 1)) (w * 256) s).2 with
    | false =>
      refine ⟨M2, _, ?_, by simpa using r2, f1.tr f2⟩
      rw [h2] at p2
      simp (disch := (first | omega | decide)) [s58_0, s58_1, s58_2, s58_5, s58_6, s58_7, s58_8, s58_9, s58_12, s58_15, s58_16, s58_17, s58_18, s58_19, s58_20, s58_22, s58_23, s58_24, s58_25, s58_28, s58_29, s58_30, s58_33, s58_34, s58_35, s58_38, s58_39, s58_42, s58_43, s58_44, s58_45, s58_46, s58_47, s58_48, s58_51, s58_53, s58_54, s58_55, s58_58, s58_59, s58_60, s58_61, s58_64, s58_65, s58_66, s58_67, s58_68, s58_69, s58_71, s58_72, s58_74, s58_76, s58_79, s58_82, s58_83, s58_85, s58_86, s58_88, s58_90, s58_93, s58_95, s58_98, s58_99, s58_102, s58_105, s58_107, s58_110, s58_112, s58_115, s58_116, s58_117, s58_120, s58_121, s58_122, s58_123, s58_126, s58_129, s58_130, s58_131, s58_132, s58_133, s58_136, s58_139, s58_140, s58_141, s58_144, s58_147, s58_148, s58_149, s58_152, s58_153, s58_154, s58_157, s58_158, s58_159, s58_162, s58_163, s58_166, s58_169, s58_170, s58_171, s58_172, s58_173, s58_176, s58_177, s58_178, s58_181, s58_182, s58_183, s58_186, s58_187, s58_188, s58_191, s58_192, mq_k0s, mq_k1s, mq_k2s, mq_k4s, mq_k5s, mq_k5n, mq_k5as, mq_k6s, mj_pu, mj_lo, mj_br, mj_hr, mj_hw, mq_gf, mq_len, mq_al, mq_pf, mq_ok, mj_re, mq_lkm, mq_lkn, mj_ldi, mj_ldl, mj_lda, mj_ii, mj_ll, mj_li, mj_i1, ms_1, ms_2, f1_n, f1_i, f1_r, f1_u, f1_l, f2_n, f2_i, f2_r, f2_u, f2_l, mj_tg, mj_c1, mj_c2, mj_ar, mj_aw, mq_cb, mq_oi, mj_rm, Value.category, -getElem?_pos, List.getElem?_cons_zero, decide_eq_true, decide_eq_false, nl_lt, nl_le, ln_lt, ln_le, nl_eq, ln_eq, nl_add, ln_add, nl_sub, ln_mul, nI_sub, nI_mul, nI_add, nI_lt_iff, nI_le_iff, nI_inj, nI_num, mq_ix, nI_1, nl_mul, nl_div, hob, p1, o1, p2, on1, h2, narrow_b0]
    | true =>
      rw [h2] at p2
      obtain ⟨e1, e2, e3, e4⟩ := fs_lay_st (hdr (g + 1)) (w * 256) s
      have k3 := r2.set (s' := ((((fs_lay (hdr (g + 1)) (w * 256) s).1).1, (((fs_lay (hdr (g + 1)) (w * 256) s).1).2.1, (((fs_lay (hdr (g + 1)) (w * 256) s).1).2.2.1, (((fs_lay (hdr (g + 1)) (w * 256) s).1).2.2.2.1, (w, (g + 1, (to, ((fs_lay (hdr (g + 1)) (w * 256) s).1).2.2.2.2.2.2.2))))))) : Fl)) rfl rfl
      refine ⟨_, _, ?_, by simpa [h2] using k3, (f1.tr f2).tr (kf.st (by omega))⟩
      have o2 := r2.ob
      unfold so at o2
      rw [e3, hgen] at o2
      have hl := mq_lt r2.ob
      have hlo := h.lo
      have hh : ¬ κ + 1 < 25 := by omega
      simp (disch := (first | omega | decide)) [s58_0, s58_1, s58_2, s58_5, s58_6, s58_7, s58_8, s58_9, s58_12, s58_15, s58_16, s58_17, s58_18, s58_19, s58_20, s58_22, s58_23, s58_24, s58_25, s58_28, s58_29, s58_30, s58_33, s58_34, s58_35, s58_38, s58_39, s58_42, s58_43, s58_44, s58_45, s58_46, s58_47, s58_48, s58_51, s58_53, s58_54, s58_55, s58_58, s58_59, s58_60, s58_61, s58_64, s58_65, s58_66, s58_67, s58_68, s58_69, s58_71, s58_72, s58_74, s58_76, s58_79, s58_82, s58_83, s58_85, s58_86, s58_88, s58_90, s58_93, s58_95, s58_98, s58_99, s58_102, s58_105, s58_107, s58_110, s58_112, s58_115, s58_116, s58_117, s58_120, s58_121, s58_122, s58_123, s58_126, s58_129, s58_130, s58_131, s58_132, s58_133, s58_136, s58_139, s58_140, s58_141, s58_144, s58_147, s58_148, s58_149, s58_152, s58_153, s58_154, s58_157, s58_158, s58_159, s58_162, s58_163, s58_166, s58_169, s58_170, s58_171, s58_172, s58_173, s58_176, s58_177, s58_178, s58_181, s58_182, s58_183, s58_186, s58_187, s58_188, s58_191, s58_192, mq_k0s, mq_k1s, mq_k2s, mq_k4s, mq_k5s, mq_k5n, mq_k5as, mq_k6s, mj_pu, mj_lo, mj_br, mj_hr, mj_hw, mq_gf, mq_len, mq_al, mq_pf, mq_ok, mj_re, mq_lkm, mq_lkn, mj_ldi, mj_ldl, mj_lda, mj_ii, mj_ll, mj_li, mj_i1, ms_1, ms_2, f1_n, f1_i, f1_r, f1_u, f1_l, f2_n, f2_i, f2_r, f2_u, f2_l, mj_tg, mj_c1, mj_c2, mj_ar, mj_aw, mq_cb, mq_oi, mj_rm, Value.category, -getElem?_pos, List.getElem?_cons_zero, decide_eq_true, decide_eq_false, nl_lt, nl_le, ln_lt, ln_le, nl_eq, ln_eq, nl_add, ln_add, nl_sub, ln_mul, nI_sub, nI_mul, nI_add, nI_lt_iff, nI_le_iff, nI_inj, nI_num, mq_ix, nI_1, nl_mul, nl_div, hob, p1, o1, p2, o2, on1, narrow_b1, narrow, mj_E, List.getElem?_set, hl, hh, so]
  | succ m ih =>
    intro rr to s r M hrr h hon hfl hst hgen hto
    rw [List.range'_succ, List.flatMap_cons] at hto ⊢
    have hob := h.ob
    unfold so at hob
    have hl8 := h.l8
    rw [hst] at hl8 hob
    rw [fs_mt_app]
    have hto' : to + (mvi σ rr).length ≤ 256 := by rw [List.length_append] at hto; omega
    -- what a row of the loop does, once it is known what is composed
    have fin : ∀ (M1 : mj_H), ks M1 κ s (mvi σ rr) → kf κ M M1 → (∀ (M2 : mj_H), mj_V (d + 3) 64 [.ref (κ + 1), .int (nI (w * 256 + to))] M1 = some (some (.int 0), M2) → mj_Rn (d + 3) mj_m58 21 [(3, .int (nI rr)), (2, .int (nI to)), (1, .int (nI w)), (0, .ref (κ + 1))] [] M = some (some (.int 0), M2)) →
        (∀ (M2 M3 : mj_H) (b : Int32), mj_V (d + 3) 64 [.ref (κ + 1), .int (nI (w * 256 + to))] M1 = some (some (.int 1), M2) → ks M2 κ (fs_lay (mvi σ rr) (w * 256 + to) s).1 (mvi σ rr) → mj_Rn (d + 3) mj_m58 21 [(3, .int (nI (rr + 1))), (2, .int (nI (to + (mvi σ rr).length))), (1, .int (nI w)), (0, .ref (κ + 1))] [] M2 = some (some (.int b), M3) → mj_Rn (d + 3) mj_m58 21 [(3, .int (nI rr)), (2, .int (nI to)), (1, .int (nI w)), (0, .ref (κ + 1))] [] M = some (some (.int b), M3)) →
        ∃ M' r', mj_Rn (d + 3) mj_m58 21 [(3, .int (nI rr)), (2, .int (nI to)), (1, .int (nI w)), (0, .ref (κ + 1))] [] M = some (some (.int (on1 (if (fs_lay (mvi σ rr) (w * 256 + to) s).2 = false then fs_lay (mvi σ rr) (w * 256 + to) s else fs_mt w g ((List.range' (rr + 1) m).flatMap (mvi σ)) (to + (mvi σ rr).length) (fs_lay (mvi σ rr) (w * 256 + to) s).1).2)), M') ∧ ks M' κ (if (fs_lay (mvi σ rr) (w * 256 + to) s).2 = false then fs_lay (mvi σ rr) (w * 256 + to) s else fs_mt w g ((List.range' (rr + 1) m).flatMap (mvi σ)) (to + (mvi σ rr).length) (fs_lay (mvi σ rr) (w * 256 + to) s).1).1 r' ∧ kf κ M M' := by
      intro M1 k1 f1 g0 g1
      obtain ⟨M2, p2, r2, f2⟩ := st_lay (d := d + 1) (p := w * 256 + to) k1 (by omega) hon hfl
      cases h2 : (fs_lay (mvi σ rr) (w * 256 + to) s).2 with
      | false =>
        rw [h2] at p2
        refine ⟨M2, _, ?_, by simpa using r2, f1.tr f2⟩
        have := g0 M2 p2
        simpa [on1, h2] using this
      | true =>
        rw [h2] at p2
        obtain ⟨e1, e2, e3, e4⟩ := fs_lay_st (mvi σ rr) (w * 256 + to) s
        obtain ⟨M3, r3, p3, k3, f3⟩ := ih (rr + 1) (to + (mvi σ rr).length) _ _ M2 (by omega) r2 (by rw [fs_lay_on _ _ _ h2]; exact hon) (by rw [fs_lay_len]; exact hfl) (by rw [e1]; exact hst) (by rw [e3]; exact hgen) (by rw [List.length_append] at hto; omega)
        refine ⟨M3, r3, ?_, by simpa using k3, (f1.tr f2).tr f3⟩
        have := g1 M2 M3 _ p2 r2 p3
        simpa using this
    -- a row that is not due
    have skip : mvi σ rr = [] → (∀ (M3 : mj_H) (b : Int32), mj_Rn (d + 3) mj_m58 21 [(3, .int (nI (rr + 1))), (2, .int (nI to)), (1, .int (nI w)), (0, .ref (κ + 1))] [] M = some (some (.int b), M3) → mj_Rn (d + 3) mj_m58 21 [(3, .int (nI rr)), (2, .int (nI to)), (1, .int (nI w)), (0, .ref (κ + 1))] [] M = some (some (.int b), M3)) →
        ∃ M' r', mj_Rn (d + 3) mj_m58 21 [(3, .int (nI rr)), (2, .int (nI to)), (1, .int (nI w)), (0, .ref (κ + 1))] [] M = some (some (.int (on1 (if (fs_lay (mvi σ rr) (w * 256 + to) s).2 = false then fs_lay (mvi σ rr) (w * 256 + to) s else fs_mt w g ((List.range' (rr + 1) m).flatMap (mvi σ)) (to + (mvi σ rr).length) (fs_lay (mvi σ rr) (w * 256 + to) s).1).2)), M') ∧ ks M' κ (if (fs_lay (mvi σ rr) (w * 256 + to) s).2 = false then fs_lay (mvi σ rr) (w * 256 + to) s else fs_mt w g ((List.range' (rr + 1) m).flatMap (mvi σ)) (to + (mvi σ rr).length) (fs_lay (mvi σ rr) (w * 256 + to) s).1).1 r' ∧ kf κ M M' := by
      intro e0 g1
      rw [e0] at hto ⊢
      obtain ⟨M3, r3, p3, k3, f3⟩ := ih (rr + 1) to s r M (by omega) h hon hfl hst hgen (by simpa using hto)
      exact ⟨M3, r3, g1 M3 _ p3, k3, f3⟩
    have hrb := h.rb.2.2.2.2.2.1
    by_cases h4 : rr < 4
    · have hv1 := st_due (d := d + 2) (k := rr + 1) h (by omega)
      have hv2 := st_fst (d := d + 2) (k := rr + 1) h (by omega)
      rw [hst] at hv1 hv2
      cases hd : dueN σ (rr + 1) with
      | false =>
        rw [hd] at hv1
        refine skip (by simp [mvi, h4, hd]) ?_
        intro M3 b p3
        rw [s58_21]
        simp (disch := (first | omega | decide)) [s58_0, s58_1, s58_2, s58_5, s58_6, s58_7, s58_8, s58_9, s58_12, s58_15, s58_16, s58_17, s58_18, s58_19, s58_20, s58_22, s58_23, s58_24, s58_25, s58_28, s58_29, s58_30, s58_33, s58_34, s58_35, s58_38, s58_39, s58_42, s58_43, s58_44, s58_45, s58_46, s58_47, s58_48, s58_51, s58_53, s58_54, s58_55, s58_58, s58_59, s58_60, s58_61, s58_64, s58_65, s58_66, s58_67, s58_68, s58_69, s58_71, s58_72, s58_74, s58_76, s58_79, s58_82, s58_83, s58_85, s58_86, s58_88, s58_90, s58_93, s58_95, s58_98, s58_99, s58_102, s58_105, s58_107, s58_110, s58_112, s58_115, s58_116, s58_117, s58_120, s58_121, s58_122, s58_123, s58_126, s58_129, s58_130, s58_131, s58_132, s58_133, s58_136, s58_139, s58_140, s58_141, s58_144, s58_147, s58_148, s58_149, s58_152, s58_153, s58_154, s58_157, s58_158, s58_159, s58_162, s58_163, s58_166, s58_169, s58_170, s58_171, s58_172, s58_173, s58_176, s58_177, s58_178, s58_181, s58_182, s58_183, s58_186, s58_187, s58_188, s58_191, s58_192, mq_k0s, mq_k1s, mq_k2s, mq_k4s, mq_k5s, mq_k5n, mq_k5as, mq_k6s, mj_pu, mj_lo, mj_br, mj_hr, mj_hw, mq_gf, mq_len, mq_al, mq_pf, mq_ok, mj_re, mq_lkm, mq_lkn, mj_ldi, mj_ldl, mj_lda, mj_ii, mj_ll, mj_li, mj_i1, ms_1, ms_2, f1_n, f1_i, f1_r, f1_u, f1_l, f2_n, f2_i, f2_r, f2_u, f2_l, mj_tg, mj_c1, mj_c2, mj_ar, mj_aw, mq_cb, mq_oi, mj_rm, Value.category, -getElem?_pos, List.getElem?_cons_zero, decide_eq_true, decide_eq_false, nl_lt, nl_le, ln_lt, ln_le, nl_eq, ln_eq, nl_add, ln_add, nl_sub, ln_mul, nI_sub, nI_mul, nI_add, nI_lt_iff, nI_le_iff, nI_inj, nI_num, mq_ix, nI_1, nl_mul, nl_div, hob, hv1, on1]
        refine mq_wk ?_ p3
        simp [mq_sub, mj_lk]
      | true =>
        rw [hd] at hv1
        have em : mvi σ rr = rcn (nI (rr + 1)) (fstN σ (rr + 1)) σ.2.2.2.1 := by simp [mvi, h4, hd]
        obtain ⟨M1, p1, r1, f1⟩ := st_comp (d := d + 1) h (nI (rr + 1)) (fstN σ (rr + 1)) σ.2.2.2.1 (by
          rcases (show rr = 0 ∨ rr = 1 ∨ rr = 2 ∨ rr = 3 by omega) with rfl | rfl | rfl | rfl <;> simp [nI] )
        rw [← em] at r1
        have o1 := r1.ob
        unfold so at o1
        refine fin M1 r1 (kf.of f1 (by simp)) ?_ ?_
        · intro M2 p2
          rw [s58_21]
          simp (disch := (first | omega | decide)) [s58_0, s58_1, s58_2, s58_5, s58_6, s58_7, s58_8, s58_9, s58_12, s58_15, s58_16, s58_17, s58_18, s58_19, s58_20, s58_22, s58_23, s58_24, s58_25, s58_28, s58_29, s58_30, s58_33, s58_34, s58_35, s58_38, s58_39, s58_42, s58_43, s58_44, s58_45, s58_46, s58_47, s58_48, s58_51, s58_53, s58_54, s58_55, s58_58, s58_59, s58_60, s58_61, s58_64, s58_65, s58_66, s58_67, s58_68, s58_69, s58_71, s58_72, s58_74, s58_76, s58_79, s58_82, s58_83, s58_85, s58_86, s58_88, s58_90, s58_93, s58_95, s58_98, s58_99, s58_102, s58_105, s58_107, s58_110, s58_112, s58_115, s58_116, s58_117, s58_120, s58_121, s58_122, s58_123, s58_126, s58_129, s58_130, s58_131, s58_132, s58_133, s58_136, s58_139, s58_140, s58_141, s58_144, s58_147, s58_148, s58_149, s58_152, s58_153, s58_154, s58_157, s58_158, s58_159, s58_162, s58_163, s58_166, s58_169, s58_170, s58_171, s58_172, s58_173, s58_176, s58_177, s58_178, s58_181, s58_182, s58_183, s58_186, s58_187, s58_188, s58_191, s58_192, mq_k0s, mq_k1s, mq_k2s, mq_k4s, mq_k5s, mq_k5n, mq_k5as, mq_k6s, mj_pu, mj_lo, mj_br, mj_hr, mj_hw, mq_gf, mq_len, mq_al, mq_pf, mq_ok, mj_re, mq_lkm, mq_lkn, mj_ldi, mj_ldl, mj_lda, mj_ii, mj_ll, mj_li, mj_i1, ms_1, ms_2, f1_n, f1_i, f1_r, f1_u, f1_l, f2_n, f2_i, f2_r, f2_u, f2_l, mj_tg, mj_c1, mj_c2, mj_ar, mj_aw, mq_cb, mq_oi, mj_rm, Value.category, -getElem?_pos, List.getElem?_cons_zero, decide_eq_true, decide_eq_false, nl_lt, nl_le, ln_lt, ln_le, nl_eq, ln_eq, nl_add, ln_add, nl_sub, ln_mul, nI_sub, nI_mul, nI_add, nI_lt_iff, nI_le_iff, nI_inj, nI_num, mq_ix, nI_1, nl_mul, nl_div, hob, hv1, hv2, on1, p1, o1, p2, narrow_b0]
        · intro M2 M3 b p2 k2 p3
          have v2 := v_size (d := d + 2) k2.rb
          have o2 := k2.ob
          have b2 := k2.rb.2.2.2.2.2.1
          unfold so at o2
          rw [s58_21]
          simp (disch := (first | omega | decide)) [s58_0, s58_1, s58_2, s58_5, s58_6, s58_7, s58_8, s58_9, s58_12, s58_15, s58_16, s58_17, s58_18, s58_19, s58_20, s58_22, s58_23, s58_24, s58_25, s58_28, s58_29, s58_30, s58_33, s58_34, s58_35, s58_38, s58_39, s58_42, s58_43, s58_44, s58_45, s58_46, s58_47, s58_48, s58_51, s58_53, s58_54, s58_55, s58_58, s58_59, s58_60, s58_61, s58_64, s58_65, s58_66, s58_67, s58_68, s58_69, s58_71, s58_72, s58_74, s58_76, s58_79, s58_82, s58_83, s58_85, s58_86, s58_88, s58_90, s58_93, s58_95, s58_98, s58_99, s58_102, s58_105, s58_107, s58_110, s58_112, s58_115, s58_116, s58_117, s58_120, s58_121, s58_122, s58_123, s58_126, s58_129, s58_130, s58_131, s58_132, s58_133, s58_136, s58_139, s58_140, s58_141, s58_144, s58_147, s58_148, s58_149, s58_152, s58_153, s58_154, s58_157, s58_158, s58_159, s58_162, s58_163, s58_166, s58_169, s58_170, s58_171, s58_172, s58_173, s58_176, s58_177, s58_178, s58_181, s58_182, s58_183, s58_186, s58_187, s58_188, s58_191, s58_192, mq_k0s, mq_k1s, mq_k2s, mq_k4s, mq_k5s, mq_k5n, mq_k5as, mq_k6s, mj_pu, mj_lo, mj_br, mj_hr, mj_hw, mq_gf, mq_len, mq_al, mq_pf, mq_ok, mj_re, mq_lkm, mq_lkn, mj_ldi, mj_ldl, mj_lda, mj_ii, mj_ll, mj_li, mj_i1, ms_1, ms_2, f1_n, f1_i, f1_r, f1_u, f1_l, f2_n, f2_i, f2_r, f2_u, f2_l, mj_tg, mj_c1, mj_c2, mj_ar, mj_aw, mq_cb, mq_oi, mj_rm, Value.category, -getElem?_pos, List.getElem?_cons_zero, decide_eq_true, decide_eq_false, nl_lt, nl_le, ln_lt, ln_le, nl_eq, ln_eq, nl_add, ln_add, nl_sub, ln_mul, nI_sub, nI_mul, nI_add, nI_lt_iff, nI_le_iff, nI_inj, nI_num, mq_ix, nI_1, nl_mul, nl_div, hob, hv1, hv2, on1, p1, o1, p2, o2, b2, v2]
          refine mq_wk ?_ p3
          simp [mq_sub, mj_lk]
    · have hi : (rr - 4) / 2 < σ.2.2.2.2.length := by omega
      have hs1 := st_standing (d := d + 2) (i := (rr - 4) / 2) h (by rw [hst]; exact hi)
      have hci : s.2.2.2.2.2.2.2.2.2.2.2[(rr - 4) / 2]? = some σ.2.2.2.2[(rr - 4) / 2] := by rw [hst]; exact List.getElem?_eq_getElem hi
      have hcc := h.cr _ _ hci
      have hus := hu _ (List.getElem_mem hi)
      have em0 : mvi σ rr = if rr % 2 = 0 then σ.2.2.2.2[(rr - 4) / 2].row else (if σ.2.2.2.2[(rr - 4) / 2].2.2.2.2 = 0 then [] else rcCount σ.2.2.2.2[(rr - 4) / 2].1 σ.2.2.2.2[(rr - 4) / 2].2.2.2.2) := by
        unfold mvi
        rw [if_neg h4, List.getElem?_eq_getElem hi]
      have e1 := nI_shr1 (rr - 4) (by omega)
      have e2 := nI_and1 rr (by omega)
      generalize σ.2.2.2.2[(rr - 4) / 2] = c at *
      have hcc0 := hcc
      unfold cc at hcc
      rcases Nat.mod_two_eq_zero_or_one rr with hr | hr
      · rw [hr, nI_0] at e2
        rw [if_pos hr] at em0
        have hv1 := st_due5 (d := d + 2) (x := κ + 7 + (rr - 4) / 2) h
        have hv2 := st_fst45 (d := d + 2) (k := 5) h (Or.inr rfl) hcc0
        obtain ⟨M1, p1, r1, f1⟩ := st_comp5 (d := d + 1) h hcc0 (by omega) hus.1 hus.2 c.1 c.2.2.2.2
        rw [← em0] at r1
        have o1 := r1.ob
        unfold so at o1
        refine fin M1 r1 (kf.of f1 (by simp)) ?_ ?_
        · intro M2 p2
          rw [s58_21]
          simp (disch := (first | omega | decide)) [s58_0, s58_1, s58_2, s58_5, s58_6, s58_7, s58_8, s58_9, s58_12, s58_15, s58_16, s58_17, s58_18, s58_19, s58_20, s58_22, s58_23, s58_24, s58_25, s58_28, s58_29, s58_30, s58_33, s58_34, s58_35, s58_38, s58_39, s58_42, s58_43, s58_44, s58_45, s58_46, s58_47, s58_48, s58_51, s58_53, s58_54, s58_55, s58_58, s58_59, s58_60, s58_61, s58_64, s58_65, s58_66, s58_67, s58_68, s58_69, s58_71, s58_72, s58_74, s58_76, s58_79, s58_82, s58_83, s58_85, s58_86, s58_88, s58_90, s58_93, s58_95, s58_98, s58_99, s58_102, s58_105, s58_107, s58_110, s58_112, s58_115, s58_116, s58_117, s58_120, s58_121, s58_122, s58_123, s58_126, s58_129, s58_130, s58_131, s58_132, s58_133, s58_136, s58_139, s58_140, s58_141, s58_144, s58_147, s58_148, s58_149, s58_152, s58_153, s58_154, s58_157, s58_158, s58_159, s58_162, s58_163, s58_166, s58_169, s58_170, s58_171, s58_172, s58_173, s58_176, s58_177, s58_178, s58_181, s58_182, s58_183, s58_186, s58_187, s58_188, s58_191, s58_192, mq_k0s, mq_k1s, mq_k2s, mq_k4s, mq_k5s, mq_k5n, mq_k5as, mq_k6s, mj_pu, mj_lo, mj_br, mj_hr, mj_hw, mq_gf, mq_len, mq_al, mq_pf, mq_ok, mj_re, mq_lkm, mq_lkn, mj_ldi, mj_ldl, mj_lda, mj_ii, mj_ll, mj_li, mj_i1, ms_1, ms_2, f1_n, f1_i, f1_r, f1_u, f1_l, f2_n, f2_i, f2_r, f2_u, f2_l, mj_tg, mj_c1, mj_c2, mj_ar, mj_aw, mq_cb, mq_oi, mj_rm, Value.category, -getElem?_pos, List.getElem?_cons_zero, decide_eq_true, decide_eq_false, nl_lt, nl_le, ln_lt, ln_le, nl_eq, ln_eq, nl_add, ln_add, nl_sub, ln_mul, nI_sub, nI_mul, nI_add, nI_lt_iff, nI_le_iff, nI_inj, nI_num, mq_ix, nI_1, nl_mul, nl_div, hob, and131, e1, e2, hs1, hcc, hv1, hv2, on1, p1, o1, p2, narrow_b0]
        · intro M2 M3 b p2 k2 p3
          have v2 := v_size (d := d + 2) k2.rb
          have o2 := k2.ob
          have b2 := k2.rb.2.2.2.2.2.1
          unfold so at o2
          rw [s58_21]
          simp (disch := (first | omega | decide)) [s58_0, s58_1, s58_2, s58_5, s58_6, s58_7, s58_8, s58_9, s58_12, s58_15, s58_16, s58_17, s58_18, s58_19, s58_20, s58_22, s58_23, s58_24, s58_25, s58_28, s58_29, s58_30, s58_33, s58_34, s58_35, s58_38, s58_39, s58_42, s58_43, s58_44, s58_45, s58_46, s58_47, s58_48, s58_51, s58_53, s58_54, s58_55, s58_58, s58_59, s58_60, s58_61, s58_64, s58_65, s58_66, s58_67, s58_68, s58_69, s58_71, s58_72, s58_74, s58_76, s58_79, s58_82, s58_83, s58_85, s58_86, s58_88, s58_90, s58_93, s58_95, s58_98, s58_99, s58_102, s58_105, s58_107, s58_110, s58_112, s58_115, s58_116, s58_117, s58_120, s58_121, s58_122, s58_123, s58_126, s58_129, s58_130, s58_131, s58_132, s58_133, s58_136, s58_139, s58_140, s58_141, s58_144, s58_147, s58_148, s58_149, s58_152, s58_153, s58_154, s58_157, s58_158, s58_159, s58_162, s58_163, s58_166, s58_169, s58_170, s58_171, s58_172, s58_173, s58_176, s58_177, s58_178, s58_181, s58_182, s58_183, s58_186, s58_187, s58_188, s58_191, s58_192, mq_k0s, mq_k1s, mq_k2s, mq_k4s, mq_k5s, mq_k5n, mq_k5as, mq_k6s, mj_pu, mj_lo, mj_br, mj_hr, mj_hw, mq_gf, mq_len, mq_al, mq_pf, mq_ok, mj_re, mq_lkm, mq_lkn, mj_ldi, mj_ldl, mj_lda, mj_ii, mj_ll, mj_li, mj_i1, ms_1, ms_2, f1_n, f1_i, f1_r, f1_u, f1_l, f2_n, f2_i, f2_r, f2_u, f2_l, mj_tg, mj_c1, mj_c2, mj_ar, mj_aw, mq_cb, mq_oi, mj_rm, Value.category, -getElem?_pos, List.getElem?_cons_zero, decide_eq_true, decide_eq_false, nl_lt, nl_le, ln_lt, ln_le, nl_eq, ln_eq, nl_add, ln_add, nl_sub, ln_mul, nI_sub, nI_mul, nI_add, nI_lt_iff, nI_le_iff, nI_inj, nI_num, mq_ix, nI_1, nl_mul, nl_div, hob, and131, e1, e2, hs1, hcc, hv1, hv2, on1, p1, o1, p2, o2, b2, v2]
          refine mq_wk ?_ p3
          simp [mq_sub, mj_lk]
      · rw [hr, show nI 1 = 1 from rfl] at e2
        rw [if_neg (by omega)] at em0
        have hv1 := st_due4 (d := d + 2) (x := κ + 7 + (rr - 4) / 2) h hcc0
        have hv2 := st_fst45 (d := d + 2) (k := 4) h (Or.inl rfl) hcc0
        by_cases hz : c.2.2.2.2 = 0
        · rw [if_pos hz] at em0
          refine skip em0 ?_
          intro M3 b p3
          rw [s58_21]
          simp (disch := (first | omega | decide)) [s58_0, s58_1, s58_2, s58_5, s58_6, s58_7, s58_8, s58_9, s58_12, s58_15, s58_16, s58_17, s58_18, s58_19, s58_20, s58_22, s58_23, s58_24, s58_25, s58_28, s58_29, s58_30, s58_33, s58_34, s58_35, s58_38, s58_39, s58_42, s58_43, s58_44, s58_45, s58_46, s58_47, s58_48, s58_51, s58_53, s58_54, s58_55, s58_58, s58_59, s58_60, s58_61, s58_64, s58_65, s58_66, s58_67, s58_68, s58_69, s58_71, s58_72, s58_74, s58_76, s58_79, s58_82, s58_83, s58_85, s58_86, s58_88, s58_90, s58_93, s58_95, s58_98, s58_99, s58_102, s58_105, s58_107, s58_110, s58_112, s58_115, s58_116, s58_117, s58_120, s58_121, s58_122, s58_123, s58_126, s58_129, s58_130, s58_131, s58_132, s58_133, s58_136, s58_139, s58_140, s58_141, s58_144, s58_147, s58_148, s58_149, s58_152, s58_153, s58_154, s58_157, s58_158, s58_159, s58_162, s58_163, s58_166, s58_169, s58_170, s58_171, s58_172, s58_173, s58_176, s58_177, s58_178, s58_181, s58_182, s58_183, s58_186, s58_187, s58_188, s58_191, s58_192, mq_k0s, mq_k1s, mq_k2s, mq_k4s, mq_k5s, mq_k5n, mq_k5as, mq_k6s, mj_pu, mj_lo, mj_br, mj_hr, mj_hw, mq_gf, mq_len, mq_al, mq_pf, mq_ok, mj_re, mq_lkm, mq_lkn, mj_ldi, mj_ldl, mj_lda, mj_ii, mj_ll, mj_li, mj_i1, ms_1, ms_2, f1_n, f1_i, f1_r, f1_u, f1_l, f2_n, f2_i, f2_r, f2_u, f2_l, mj_tg, mj_c1, mj_c2, mj_ar, mj_aw, mq_cb, mq_oi, mj_rm, Value.category, -getElem?_pos, List.getElem?_cons_zero, decide_eq_true, decide_eq_false, nl_lt, nl_le, ln_lt, ln_le, nl_eq, ln_eq, nl_add, ln_add, nl_sub, ln_mul, nI_sub, nI_mul, nI_add, nI_lt_iff, nI_le_iff, nI_inj, nI_num, mq_ix, nI_1, nl_mul, nl_div, hob, and131, e1, e2, hs1, hv1, on1, hz, show (5 : Int32) - 1 = 4 from by decide]
          refine mq_wk ?_ p3
          simp [mq_sub, mj_lk]
        · rw [if_neg hz] at em0
          obtain ⟨M1, p1, r1, f1⟩ := st_comp4 (d := d + 1) (x := κ + 7 + (rr - 4) / 2) h c.1 c.2.2.2.2
          rw [← em0] at r1
          have o1 := r1.ob
          unfold so at o1
          refine fin M1 r1 (kf.of f1 (by simp)) ?_ ?_
          · intro M2 p2
            rw [s58_21]
            simp (disch := (first | omega | decide)) [s58_0, s58_1, s58_2, s58_5, s58_6, s58_7, s58_8, s58_9, s58_12, s58_15, s58_16, s58_17, s58_18, s58_19, s58_20, s58_22, s58_23, s58_24, s58_25, s58_28, s58_29, s58_30, s58_33, s58_34, s58_35, s58_38, s58_39, s58_42, s58_43, s58_44, s58_45, s58_46, s58_47, s58_48, s58_51, s58_53, s58_54, s58_55, s58_58, s58_59, s58_60, s58_61, s58_64, s58_65, s58_66, s58_67, s58_68, s58_69, s58_71, s58_72, s58_74, s58_76, s58_79, s58_82, s58_83, s58_85, s58_86, s58_88, s58_90, s58_93, s58_95, s58_98, s58_99, s58_102, s58_105, s58_107, s58_110, s58_112, s58_115, s58_116, s58_117, s58_120, s58_121, s58_122, s58_123, s58_126, s58_129, s58_130, s58_131, s58_132, s58_133, s58_136, s58_139, s58_140, s58_141, s58_144, s58_147, s58_148, s58_149, s58_152, s58_153, s58_154, s58_157, s58_158, s58_159, s58_162, s58_163, s58_166, s58_169, s58_170, s58_171, s58_172, s58_173, s58_176, s58_177, s58_178, s58_181, s58_182, s58_183, s58_186, s58_187, s58_188, s58_191, s58_192, mq_k0s, mq_k1s, mq_k2s, mq_k4s, mq_k5s, mq_k5n, mq_k5as, mq_k6s, mj_pu, mj_lo, mj_br, mj_hr, mj_hw, mq_gf, mq_len, mq_al, mq_pf, mq_ok, mj_re, mq_lkm, mq_lkn, mj_ldi, mj_ldl, mj_lda, mj_ii, mj_ll, mj_li, mj_i1, ms_1, ms_2, f1_n, f1_i, f1_r, f1_u, f1_l, f2_n, f2_i, f2_r, f2_u, f2_l, mj_tg, mj_c1, mj_c2, mj_ar, mj_aw, mq_cb, mq_oi, mj_rm, Value.category, -getElem?_pos, List.getElem?_cons_zero, decide_eq_true, decide_eq_false, nl_lt, nl_le, ln_lt, ln_le, nl_eq, ln_eq, nl_add, ln_add, nl_sub, ln_mul, nI_sub, nI_mul, nI_add, nI_lt_iff, nI_le_iff, nI_inj, nI_num, mq_ix, nI_1, nl_mul, nl_div, hob, and131, e1, e2, hs1, hcc, hv1, hv2, on1, hz, p1, o1, p2, narrow_b0, show (5 : Int32) - 1 = 4 from by decide]
          · intro M2 M3 b p2 k2 p3
            have v2 := v_size (d := d + 2) k2.rb
            have o2 := k2.ob
            have b2 := k2.rb.2.2.2.2.2.1
            unfold so at o2
            rw [s58_21]
            simp (disch := (first | omega | decide)) [s58_0, s58_1, s58_2, s58_5, s58_6, s58_7, s58_8, s58_9, s58_12, s58_15, s58_16, s58_17, s58_18, s58_19, s58_20, s58_22, s58_23, s58_24, s58_25, s58_28, s58_29, s58_30, s58_33, s58_34, s58_35, s58_38, s58_39, s58_42, s58_43, s58_44, s58_45, s58_46, s58_47, s58_48, s58_51, s58_53, s58_54, s58_55, s58_58, s58_59, s58_60, s58_61, s58_64, s58_65, s58_66, s58_67, s58_68, s58_69, s58_71, s58_72, s58_74, s58_76, s58_79, s58_82, s58_83, s58_85, s58_86, s58_88, s58_90, s58_93, s58_95, s58_98, s58_99, s58_102, s58_105, s58_107, s58_110, s58_112, s58_115, s58_116, s58_117, s58_120, s58_121, s58_122, s58_123, s58_126, s58_129, s58_130, s58_131, s58_132, s58_133, s58_136, s58_139, s58_140, s58_141, s58_144, s58_147, s58_148, s58_149, s58_152, s58_153, s58_154, s58_157, s58_158, s58_159, s58_162, s58_163, s58_166, s58_169, s58_170, s58_171, s58_172, s58_173, s58_176, s58_177, s58_178, s58_181, s58_182, s58_183, s58_186, s58_187, s58_188, s58_191, s58_192, mq_k0s, mq_k1s, mq_k2s, mq_k4s, mq_k5s, mq_k5n, mq_k5as, mq_k6s, mj_pu, mj_lo, mj_br, mj_hr, mj_hw, mq_gf, mq_len, mq_al, mq_pf, mq_ok, mj_re, mq_lkm, mq_lkn, mj_ldi, mj_ldl, mj_lda, mj_ii, mj_ll, mj_li, mj_i1, ms_1, ms_2, f1_n, f1_i, f1_r, f1_u, f1_l, f2_n, f2_i, f2_r, f2_u, f2_l, mj_tg, mj_c1, mj_c2, mj_ar, mj_aw, mq_cb, mq_oi, mj_rm, Value.category, -getElem?_pos, List.getElem?_cons_zero, decide_eq_true, decide_eq_false, nl_lt, nl_le, ln_lt, ln_le, nl_eq, ln_eq, nl_add, ln_add, nl_sub, ln_mul, nI_sub, nI_mul, nI_add, nI_lt_iff, nI_le_iff, nI_inj, nI_num, mq_ix, nI_1, nl_mul, nl_div, hob, and131, e1, e2, hs1, hcc, hv1, hv2, on1, hz, p1, o1, p2, o2, b2, v2, show (5 : Int32) - 1 = 4 from by decide]
            refine mq_wk ?_ p3
            simp [mq_sub, mj_lk]
theorem fl_own (σ : St) : (List.range' 0 4).flatMap (mvi σ) = σ.own := by
  have e0 : mvi σ 0 = rc 1 (b4 σ.1) := by simp [mvi, dueN, fstN, rcn, nI]
  have e1 : mvi σ 1 = if σ.2.1 = 0 then [] else rc 2 (b4 σ.2.1) := by
    by_cases h : σ.2.1 = 0 <;> simp [mvi, dueN, fstN, h] <;> rfl
  have e2 : mvi σ 2 = if σ.2.2.1 = 8 then [] else rc 3 [σ.2.2.1 &&& 255] := by
    by_cases h : σ.2.2.1 = 8 <;> simp [mvi, dueN, fstN, h] <;> rfl
  have e3 : mvi σ 3 = if σ.2.2.2.1 = 0 then [] else rcCount 0 σ.2.2.2.1 := by
    by_cases h : σ.2.2.2.1 = 0 <;> simp [mvi, dueN, fstN, h] <;> rfl
  simp only [List.range', List.flatMap_cons, List.flatMap_nil, e0, e1, e2, e3, List.append_nil]
  rfl
theorem fl_crs (σ : St) : ∀ (m i : Nat), i + m = σ.2.2.2.2.length → (List.range' (4 + 2 * i) (2 * m)).flatMap (mvi σ) = (σ.2.2.2.2.drop i).flatMap Cr.recs := by
  intro m
  induction m with
  | zero => intro i h; rw [List.drop_eq_nil_of_le (by omega)]; rfl
  | succ m ih =>
    intro i h
    have hi : i < σ.2.2.2.2.length := by omega
    rw [show 2 * (m + 1) = 2 * m + 1 + 1 by omega, List.range'_succ, List.range'_succ, show 4 + 2 * i + 1 + 1 = 4 + 2 * (i + 1) by omega, List.flatMap_cons, List.flatMap_cons, ih (i + 1) (by omega), List.drop_eq_getElem_cons hi, List.flatMap_cons]
    have e1 : mvi σ (4 + 2 * i) = σ.2.2.2.2[i].row := by
      unfold mvi
      rw [if_neg (by omega), show (4 + 2 * i - 4) / 2 = i by omega, List.getElem?_eq_getElem hi]
      simp
    have e2 : mvi σ (4 + 2 * i + 1) = if σ.2.2.2.2[i].2.2.2.2 = 0 then [] else rcCount σ.2.2.2.2[i].1 σ.2.2.2.2[i].2.2.2.2 := by
      unfold mvi
      rw [if_neg (by omega), show (4 + 2 * i + 1 - 4) / 2 = i by omega, List.getElem?_eq_getElem hi]
      simp
      intro z; omega
    rw [e1, e2]
    simp [Cr.recs]
theorem fl_recs (σ : St) : (List.range' 0 (4 + 2 * σ.2.2.2.2.length)).flatMap (mvi σ) = σ.recs := by
  rw [← List.range'_append_1 (s := 0) (m := 4), List.flatMap_append, fl_own, Nat.zero_add, show 4 = 4 + 2 * 0 from rfl, fl_crs σ _ 0 (by omega)]
  rfl
theorem fs_era_len : ∀ (k p : Nat) (s : Fl), (fs_era k p s).1.1.length = s.1.length := by
  intro k
  have hf : ∀ (n p : Nat) (l : List Int32), (fs_fill n p l).length = l.length := by
    intro n
    induction n with
    | zero => intro p l; rfl
    | succ n ih => intro p l; rw [fs_fill, ih]; simp
  induction k with
  | zero => intro p s; rfl
  | succ k ih =>
    intro p s
    rw [fs_era]
    split
    · rfl
    · rw [ih]
      simp only [hf]
theorem fs_era_st : ∀ (k p : Nat) (s : Fl), (fs_era k p s).1.2.2.2.2.2.2.2 = s.2.2.2.2.2.2.2 ∧ (fs_era k p s).1.2.2.2.2.1 = s.2.2.2.2.1 ∧ (fs_era k p s).1.2.2.2.2.2.1 = s.2.2.2.2.2.1 ∧ (fs_era k p s).1.2.2.2.2.2.2.1 = s.2.2.2.2.2.2.1 ∧ ((fs_era k p s).2 = true → (fs_era k p s).1.2.1 = s.2.1) := by
  intro k
  induction k with
  | zero => intro p s; exact ⟨rfl, rfl, rfl, rfl, fun _ => rfl⟩
  | succ k ih => intro p s; rw [fs_era]; split; exact ⟨rfl, rfl, rfl, rfl, fun z => by cases z⟩; exact ih _ _
theorem fs_move_eq (s : Fl) : fs_move s = if (fs_era 4 ((1 - s.2.2.2.2.1) * 256) s).2 = false then fs_era 4 ((1 - s.2.2.2.2.1) * 256) s else fs_mt (1 - s.2.2.2.2.1) s.2.2.2.2.2.1 s.2.2.2.2.2.2.2.recs 4 (fs_era 4 ((1 - s.2.2.2.2.1) * 256) s).1 := by
  simp only [fs_move, fs_mt]
theorem st_move {d κ : Nat} {s : Fl} {r : List Int32} {M : mj_H} (h : ks M κ s r) (hon : s.2.1 = true) (hfl : s.1.length = 512) (ha : s.2.2.2.2.1 ≤ 1) (hg : s.2.2.2.2.2.1 < 2 ^ 30) (hu : okU s.2.2.2.2.2.2.2.2.2.2.2) (hr : 4 + s.2.2.2.2.2.2.2.recs.length ≤ 256) : ∃ M' r', mj_V (d + 4) 58 [.ref (κ + 1)] M = some (some (.int (on1 (fs_move s).2)), M') ∧ ks M' κ (fs_move s).1 r' ∧ kf κ M M' := by
  have hob := h.ob
  unfold so at hob
  obtain ⟨M1, p1, r1, f1⟩ := st_erase (d := d + 1) (w := 1 - s.2.2.2.2.1) h (by omega) hon hfl
  obtain ⟨e1, e2, e3, e4, e5⟩ := fs_era_st 4 ((1 - s.2.2.2.2.1) * 256) s
  have es : (1 : Int32) - nI s.2.2.2.2.1 = nI (1 - s.2.2.2.2.1) := by
    rcases (show s.2.2.2.2.1 = 0 ∨ s.2.2.2.2.1 = 1 by omega) with z | z <;> rw [z] <;> rfl
  rw [fs_move_eq]
  cases h2 : (fs_era 4 ((1 - s.2.2.2.2.1) * 256) s).2 with
  | false =>
    rw [h2] at p1
    refine ⟨M1, r, ?_, by simpa using r1, f1⟩
    simp (disch := (first | omega | decide)) [c58, s58_0, s58_1, s58_2, s58_5, s58_6, s58_7, s58_8, s58_9, s58_12, s58_15, s58_16, s58_17, s58_18, s58_19, s58_20, s58_22, s58_23, s58_24, s58_25, s58_28, s58_29, s58_30, s58_33, s58_34, s58_35, s58_38, s58_39, s58_42, s58_43, s58_44, s58_45, s58_46, s58_47, s58_48, s58_51, s58_53, s58_54, s58_55, s58_58, s58_59, s58_60, s58_61, s58_64, s58_65, s58_66, s58_67, s58_68, s58_69, s58_71, s58_72, s58_74, s58_76, s58_79, s58_82, s58_83, s58_85, s58_86, s58_88, s58_90, s58_93, s58_95, s58_98, s58_99, s58_102, s58_105, s58_107, s58_110, s58_112, s58_115, s58_116, s58_117, s58_120, s58_121, s58_122, s58_123, s58_126, s58_129, s58_130, s58_131, s58_132, s58_133, s58_136, s58_139, s58_140, s58_141, s58_144, s58_147, s58_148, s58_149, s58_152, s58_153, s58_154, s58_157, s58_158, s58_159, s58_162, s58_163, s58_166, s58_169, s58_170, s58_171, s58_172, s58_173, s58_176, s58_177, s58_178, s58_181, s58_182, s58_183, s58_186, s58_187, s58_188, s58_191, s58_192, mq_k0s, mq_k1s, mq_k2s, mq_k4s, mq_k5s, mq_k5n, mq_k5as, mq_k6s, mj_pu, mj_lo, mj_br, mj_hr, mj_hw, mq_gf, mq_len, mq_al, mq_pf, mq_ok, mj_re, mq_lkm, mq_lkn, mj_ldi, mj_ldl, mj_lda, mj_ii, mj_ll, mj_li, mj_i1, ms_1, ms_2, f1_n, f1_i, f1_r, f1_u, f1_l, f2_n, f2_i, f2_r, f2_u, f2_l, mj_tg, mj_c1, mj_c2, mj_ar, mj_aw, mq_cb, mq_oi, mj_rm, Value.category, -getElem?_pos, List.getElem?_cons_zero, decide_eq_true, decide_eq_false, nl_lt, nl_le, ln_lt, ln_le, nl_eq, ln_eq, nl_add, ln_add, nl_sub, ln_mul, nI_sub, nI_mul, nI_add, nI_lt_iff, nI_le_iff, nI_inj, nI_num, mq_ix, nI_1, nl_mul, nl_div, hob, es, p1, on1, h2, narrow_b0]
  | true =>
    rw [h2] at p1
    obtain ⟨M2, r2, p2, k2, f2⟩ := l_move (d := d) (w := 1 - s.2.2.2.2.1) (g := s.2.2.2.2.2.1) (σ := s.2.2.2.2.2.2.2) (by omega) hg hu (4 + 2 * s.2.2.2.2.2.2.2.2.2.2.2.length) 0 4 _ r M1 (by omega) r1 (by rw [e5 h2]; exact hon) (by rw [fs_era_len]; exact hfl) e1 e3 (by rw [fl_recs]; exact hr)
    rw [fl_recs] at p2 k2
    refine ⟨M2, r2, ?_, by simpa using k2, f1.tr f2⟩
    simp (disch := (first | omega | decide)) [c58, s58_0, s58_1, s58_2, s58_5, s58_6, s58_7, s58_8, s58_9, s58_12, s58_15, s58_16, s58_17, s58_18, s58_19, s58_20, s58_22, s58_23, s58_24, s58_25, s58_28, s58_29, s58_30, s58_33, s58_34, s58_35, s58_38, s58_39, s58_42, s58_43, s58_44, s58_45, s58_46, s58_47, s58_48, s58_51, s58_53, s58_54, s58_55, s58_58, s58_59, s58_60, s58_61, s58_64, s58_65, s58_66, s58_67, s58_68, s58_69, s58_71, s58_72, s58_74, s58_76, s58_79, s58_82, s58_83, s58_85, s58_86, s58_88, s58_90, s58_93, s58_95, s58_98, s58_99, s58_102, s58_105, s58_107, s58_110, s58_112, s58_115, s58_116, s58_117, s58_120, s58_121, s58_122, s58_123, s58_126, s58_129, s58_130, s58_131, s58_132, s58_133, s58_136, s58_139, s58_140, s58_141, s58_144, s58_147, s58_148, s58_149, s58_152, s58_153, s58_154, s58_157, s58_158, s58_159, s58_162, s58_163, s58_166, s58_169, s58_170, s58_171, s58_172, s58_173, s58_176, s58_177, s58_178, s58_181, s58_182, s58_183, s58_186, s58_187, s58_188, s58_191, s58_192, mq_k0s, mq_k1s, mq_k2s, mq_k4s, mq_k5s, mq_k5n, mq_k5as, mq_k6s, mj_pu, mj_lo, mj_br, mj_hr, mj_hw, mq_gf, mq_len, mq_al, mq_pf, mq_ok, mj_re, mq_lkm, mq_lkn, mj_ldi, mj_ldl, mj_lda, mj_ii, mj_ll, mj_li, mj_i1, ms_1, ms_2, f1_n, f1_i, f1_r, f1_u, f1_l, f2_n, f2_i, f2_r, f2_u, f2_l, mj_tg, mj_c1, mj_c2, mj_ar, mj_aw, mq_cb, mq_oi, mj_rm, Value.category, -getElem?_pos, List.getElem?_cons_zero, decide_eq_true, decide_eq_false, nl_lt, nl_le, ln_lt, ln_le, nl_eq, ln_eq, nl_add, ln_add, nl_sub, ln_mul, nI_sub, nI_mul, nI_add, nI_lt_iff, nI_le_iff, nI_inj, nI_num, mq_ix, nI_1, nl_mul, nl_div, hob, es, p1, on1]
    refine mq_wk ?_ p2
    simp [mq_sub, mj_lk]
    decide
end
/- 74.store4 -/
section
set_option maxRecDepth 512
/-! Class: Store: reading the flash. -/
/- 48 PasskeyHouse$Store.goodGeneration(I)I -/
theorem s48_0 {d : Nat} {ls : mj_L} {st : List Value} {M : mj_H} : mj_Rn d mj_m48 0 ls st M = mq_k0 d mj_m48 1 ls M (mj_ldi (mj_lk ls 1) st) := mj_R0 (r := (.iload_n 1, 1, 0, 0, 0)) rfl rfl
theorem s48_1 {d : Nat} {ls : mj_L} {st : List Value} {M : mj_H} : mj_Rn d mj_m48 1 ls st M = mj_Rn d mj_m48 4 ls (.int 256 :: st) M := mj_R0 (r := (.sipush 256, 3, 0, 0, 0)) rfl rfl
theorem s48_4 {d : Nat} {ls : mj_L} {st : List Value} {M : mj_H} : mj_Rn d mj_m48 4 ls st M = mq_k0 d mj_m48 5 ls M (mj_pu .imul ls st) := mj_R0 (r := (.imul, 1, 0, 0, 0)) rfl rfl
theorem s48_5 {d : Nat} {ls : mj_L} {st : List Value} {M : mj_H} : mj_Rn d mj_m48 5 ls st M = mq_k1 d mj_m48 6 M (mj_lo 4 (.istore 2) ls st) := (mj_R1 (r := (.istore_n 2, 1, 0, 0, 0)) rfl rfl).trans (congrArg (mq_k1 d mj_m48 6 M) (mq_sti (k := 2)))
theorem s48_6 {d : Nat} {ls : mj_L} {st : List Value} {M : mj_H} : mj_Rn d mj_m48 6 ls st M = mq_k0 d mj_m48 7 ls M (mj_lda (mj_lk ls 0) st) := mj_R0 (r := (.aload_n 0, 1, 0, 0, 0)) rfl rfl
theorem s48_7 {d : Nat} {ls : mj_L} {st : List Value} {M : mj_H} : mj_Rn d mj_m48 7 ls st M = mq_k0 d mj_m48 10 ls M (mq_gf 8 0 st M) := (mj_R3 (r := (.getfield 16, 3, 8, 0, 16480)) rfl rfl).trans (congrArg (mq_k0 d mj_m48 10 ls M) mq_gf_eq)
theorem s48_10 {d : Nat} {ls : mj_L} {st : List Value} {M : mj_H} : mj_Rn d mj_m48 10 ls st M = mq_k0 d mj_m48 11 ls M (mj_ldi (mj_lk ls 2) st) := mj_R0 (r := (.iload_n 2, 1, 0, 0, 0)) rfl rfl
theorem s48_11 {d : Nat} {ls : mj_L} {st : List Value} {M : mj_H} : mj_Rn d mj_m48 11 ls st M = mj_Rn d mj_m48 12 ls (.int 2 :: st) M := mj_R0 (r := (.iconst 2, 1, 0, 0, 0)) rfl rfl
theorem s48_12 {d : Nat} {ls : mj_L} {st : List Value} {M : mj_H} : mj_Rn d mj_m48 12 ls st M = mq_k0 d mj_m48 13 ls M (mj_pu .iadd ls st) := mj_R0 (r := (.iadd, 1, 0, 0, 0)) rfl rfl
theorem s48_13 {d : Nat} {ls : mj_L} {st : List Value} {M : mj_H} : mj_Rn d mj_m48 13 ls st M = mj_Rn d mj_m48 14 ls (.int 2 :: st) M := mj_R0 (r := (.iconst 2, 1, 0, 0, 0)) rfl rfl
theorem s48_14 {d : Nat} {ls : mj_L} {st : List Value} {M : mj_H} : mj_Rn (d + 1) mj_m48 14 ls st M = mq_k5a (d + 1) mj_m48 17 ls M 49 (mq_cb 0 2 1 st M) := mj_R5e (r := (.invokevirtual 105, 3, 0, 49, 12311)) (z := mj_m49) rfl rfl (by decide) (by decide) rfl
theorem s48_17 {d : Nat} {ls : mj_L} {st : List Value} {M : mj_H} : mj_Rn d mj_m48 17 ls st M = mq_k0 d mj_m48 18 ls M (mj_lda (mj_lk ls 0) st) := mj_R0 (r := (.aload_n 0, 1, 0, 0, 0)) rfl rfl
theorem s48_18 {d : Nat} {ls : mj_L} {st : List Value} {M : mj_H} : mj_Rn d mj_m48 18 ls st M = mq_k0 d mj_m48 21 ls M (mq_gf 8 0 st M) := (mj_R3 (r := (.getfield 16, 3, 8, 0, 16480)) rfl rfl).trans (congrArg (mq_k0 d mj_m48 21 ls M) mq_gf_eq)
theorem s48_21 {d : Nat} {ls : mj_L} {st : List Value} {M : mj_H} : mj_Rn d mj_m48 21 ls st M = mq_k0 d mj_m48 22 ls M (mj_ldi (mj_lk ls 2) st) := mj_R0 (r := (.iload_n 2, 1, 0, 0, 0)) rfl rfl
theorem s48_22 {d : Nat} {ls : mj_L} {st : List Value} {M : mj_H} : mj_Rn d mj_m48 22 ls st M = mj_Rn d mj_m48 23 ls (.int 2 :: st) M := mj_R0 (r := (.iconst 2, 1, 0, 0, 0)) rfl rfl
theorem s48_23 {d : Nat} {ls : mj_L} {st : List Value} {M : mj_H} : mj_Rn (d + 1) mj_m48 23 ls st M = mq_k5a (d + 1) mj_m48 26 ls M 42 (mq_cb 0 2 1 st M) := mj_R5e (r := (.invokevirtual 109, 3, 0, 42, 8423)) (z := mj_m42) rfl rfl (by decide) (by decide) rfl
theorem s48_26 {d : Nat} {ls : mj_L} {st : List Value} {M : mj_H} : mj_Rn d mj_m48 26 ls st M = mq_k0 d mj_m48 27 ls M (mj_pu .i2l ls st) := mj_R0 (r := (.i2l, 1, 0, 0, 0)) rfl rfl
theorem s48_27 {d : Nat} {ls : mj_L} {st : List Value} {M : mj_H} : mj_Rn d mj_m48 27 ls st M = mq_k0 d mj_m48 28 ls M (mj_pu .lcmp ls st) := mj_R0 (r := (.lcmp, 1, 0, 0, 0)) rfl rfl
theorem s48_28 {d : Nat} {ls : mj_L} {st : List Value} {M : mj_H} : mj_Rn d mj_m48 28 ls st M = mq_k2 d mj_m48 ls M (mj_br (.ifCond .ne 7) 28 st) := mj_R2 (r := (.ifCond .ne 7, 3, 0, 0, 0)) rfl rfl
theorem s48_31 {d : Nat} {ls : mj_L} {st : List Value} {M : mj_H} : mj_Rn d mj_m48 31 ls st M = mj_Rn d mj_m48 32 ls (.int 1 :: st) M := mj_R0 (r := (.iconst 1, 1, 0, 0, 0)) rfl rfl
theorem s48_32 {d : Nat} {ls : mj_L} {st : List Value} {M : mj_H} : mj_Rn d mj_m48 32 ls st M = mj_Rn d mj_m48 36 ls st M := mj_R2 (r := (.goto 4, 3, 0, 0, 0)) rfl rfl
theorem s48_35 {d : Nat} {ls : mj_L} {st : List Value} {M : mj_H} : mj_Rn d mj_m48 35 ls st M = mj_Rn d mj_m48 36 ls (.int 0 :: st) M := mj_R0 (r := (.iconst 0, 1, 0, 0, 0)) rfl rfl
theorem s48_36 {d : Nat} {ls : mj_L} {st : List Value} {M : mj_H} : mj_Rn d mj_m48 36 ls st M = mq_k1 d mj_m48 37 M (mj_lo 4 (.istore 3) ls st) := (mj_R1 (r := (.istore_n 3, 1, 0, 0, 0)) rfl rfl).trans (congrArg (mq_k1 d mj_m48 37 M) (mq_sti (k := 3)))
theorem s48_37 {d : Nat} {ls : mj_L} {st : List Value} {M : mj_H} : mj_Rn d mj_m48 37 ls st M = mq_k0 d mj_m48 38 ls M (mj_ldi (mj_lk ls 3) st) := mj_R0 (r := (.iload_n 3, 1, 0, 0, 0)) rfl rfl
theorem s48_38 {d : Nat} {ls : mj_L} {st : List Value} {M : mj_H} : mj_Rn d mj_m48 38 ls st M = mq_k2 d mj_m48 ls M (mj_br (.ifCond .eq 16) 38 st) := mj_R2 (r := (.ifCond .eq 16, 3, 0, 0, 0)) rfl rfl
theorem s48_41 {d : Nat} {ls : mj_L} {st : List Value} {M : mj_H} : mj_Rn d mj_m48 41 ls st M = mq_k0 d mj_m48 42 ls M (mj_lda (mj_lk ls 0) st) := mj_R0 (r := (.aload_n 0, 1, 0, 0, 0)) rfl rfl
theorem s48_42 {d : Nat} {ls : mj_L} {st : List Value} {M : mj_H} : mj_Rn d mj_m48 42 ls st M = mq_k0 d mj_m48 45 ls M (mq_gf 8 0 st M) := (mj_R3 (r := (.getfield 16, 3, 8, 0, 16480)) rfl rfl).trans (congrArg (mq_k0 d mj_m48 45 ls M) mq_gf_eq)
theorem s48_45 {d : Nat} {ls : mj_L} {st : List Value} {M : mj_H} : mj_Rn d mj_m48 45 ls st M = mq_k0 d mj_m48 46 ls M (mj_ldi (mj_lk ls 2) st) := mj_R0 (r := (.iload_n 2, 1, 0, 0, 0)) rfl rfl
theorem s48_46 {d : Nat} {ls : mj_L} {st : List Value} {M : mj_H} : mj_Rn d mj_m48 46 ls st M = mj_Rn d mj_m48 47 ls (.int 2 :: st) M := mj_R0 (r := (.iconst 2, 1, 0, 0, 0)) rfl rfl
theorem s48_47 {d : Nat} {ls : mj_L} {st : List Value} {M : mj_H} : mj_Rn (d + 1) mj_m48 47 ls st M = mq_k5a (d + 1) mj_m48 50 ls M 49 (mq_cb 0 2 1 st M) := mj_R5e (r := (.invokevirtual 105, 3, 0, 49, 12311)) (z := mj_m49) rfl rfl (by decide) (by decide) rfl
theorem s48_50 {d : Nat} {ls : mj_L} {st : List Value} {M : mj_H} : mj_Rn d mj_m48 50 ls st M = mq_k0 d mj_m48 51 ls M (mj_pu .l2i ls st) := mj_R0 (r := (.l2i, 1, 0, 0, 0)) rfl rfl
theorem s48_51 {d : Nat} {ls : mj_L} {st : List Value} {M : mj_H} : mj_Rn d mj_m48 51 ls st M = mj_Rn d mj_m48 55 ls st M := mj_R2 (r := (.goto 4, 3, 0, 0, 0)) rfl rfl
theorem s48_54 {d : Nat} {ls : mj_L} {st : List Value} {M : mj_H} : mj_Rn d mj_m48 54 ls st M = mj_Rn d mj_m48 55 ls (.int (-1) :: st) M := mj_R0 (r := (.iconst (-1), 1, 0, 0, 0)) rfl rfl
theorem s48_55 {d : Nat} {ls : mj_L} {st : List Value} {M : mj_H} : mj_Rn d mj_m48 55 ls st M = mq_k6 M (mj_re (some .int) (.ireturn) st) := mj_R6 (r := (.ireturn, 1, 0, 0, 0)) rfl rfl
/- 51 PasskeyHouse$Store.recordSize(I)I -/
theorem s51_0 {d : Nat} {ls : mj_L} {st : List Value} {M : mj_H} : mj_Rn d mj_m51 0 ls st M = mq_k0 d mj_m51 1 ls M (mj_lda (mj_lk ls 0) st) := mj_R0 (r := (.aload_n 0, 1, 0, 0, 0)) rfl rfl
theorem s51_1 {d : Nat} {ls : mj_L} {st : List Value} {M : mj_H} : mj_Rn d mj_m51 1 ls st M = mq_k0 d mj_m51 4 ls M (mq_gf 8 7 st M) := (mj_R3 (r := (.getfield 73, 3, 8, 7, 16504)) rfl rfl).trans (congrArg (mq_k0 d mj_m51 4 ls M) mq_gf_eq)
theorem s51_4 {d : Nat} {ls : mj_L} {st : List Value} {M : mj_H} : mj_Rn d mj_m51 4 ls st M = mj_Rn d mj_m51 7 ls (.int 256 :: st) M := mj_R0 (r := (.sipush 256, 3, 0, 0, 0)) rfl rfl
theorem s51_7 {d : Nat} {ls : mj_L} {st : List Value} {M : mj_H} : mj_Rn d mj_m51 7 ls st M = mq_k0 d mj_m51 8 ls M (mj_pu .imul ls st) := mj_R0 (r := (.imul, 1, 0, 0, 0)) rfl rfl
theorem s51_8 {d : Nat} {ls : mj_L} {st : List Value} {M : mj_H} : mj_Rn d mj_m51 8 ls st M = mq_k0 d mj_m51 9 ls M (mj_ldi (mj_lk ls 1) st) := mj_R0 (r := (.iload_n 1, 1, 0, 0, 0)) rfl rfl
theorem s51_9 {d : Nat} {ls : mj_L} {st : List Value} {M : mj_H} : mj_Rn d mj_m51 9 ls st M = mq_k0 d mj_m51 10 ls M (mj_pu .iadd ls st) := mj_R0 (r := (.iadd, 1, 0, 0, 0)) rfl rfl
theorem s51_10 {d : Nat} {ls : mj_L} {st : List Value} {M : mj_H} : mj_Rn d mj_m51 10 ls st M = mq_k1 d mj_m51 11 M (mj_lo 5 (.istore 2) ls st) := (mj_R1 (r := (.istore_n 2, 1, 0, 0, 0)) rfl rfl).trans (congrArg (mq_k1 d mj_m51 11 M) (mq_sti (k := 2)))
theorem s51_11 {d : Nat} {ls : mj_L} {st : List Value} {M : mj_H} : mj_Rn d mj_m51 11 ls st M = mq_k0 d mj_m51 12 ls M (mj_ldi (mj_lk ls 1) st) := mj_R0 (r := (.iload_n 1, 1, 0, 0, 0)) rfl rfl
theorem s51_12 {d : Nat} {ls : mj_L} {st : List Value} {M : mj_H} : mj_Rn d mj_m51 12 ls st M = mj_Rn d mj_m51 13 ls (.int 4 :: st) M := mj_R0 (r := (.iconst 4, 1, 0, 0, 0)) rfl rfl
theorem s51_13 {d : Nat} {ls : mj_L} {st : List Value} {M : mj_H} : mj_Rn d mj_m51 13 ls st M = mq_k0 d mj_m51 14 ls M (mj_pu .iadd ls st) := mj_R0 (r := (.iadd, 1, 0, 0, 0)) rfl rfl
theorem s51_14 {d : Nat} {ls : mj_L} {st : List Value} {M : mj_H} : mj_Rn d mj_m51 14 ls st M = mj_Rn d mj_m51 17 ls (.int 256 :: st) M := mj_R0 (r := (.sipush 256, 3, 0, 0, 0)) rfl rfl
theorem s51_17 {d : Nat} {ls : mj_L} {st : List Value} {M : mj_H} : mj_Rn d mj_m51 17 ls st M = mq_k2 d mj_m51 ls M (mj_br (.if_icmp .le 5) 17 st) := mj_R2 (r := (.if_icmp .le 5, 3, 0, 0, 0)) rfl rfl
theorem s51_20 {d : Nat} {ls : mj_L} {st : List Value} {M : mj_H} : mj_Rn d mj_m51 20 ls st M = mj_Rn d mj_m51 21 ls (.int 0 :: st) M := mj_R0 (r := (.iconst 0, 1, 0, 0, 0)) rfl rfl
theorem s51_21 {d : Nat} {ls : mj_L} {st : List Value} {M : mj_H} : mj_Rn d mj_m51 21 ls st M = mq_k6 M (mj_re (some .int) (.ireturn) st) := mj_R6 (r := (.ireturn, 1, 0, 0, 0)) rfl rfl
theorem s51_22 {d : Nat} {ls : mj_L} {st : List Value} {M : mj_H} : mj_Rn d mj_m51 22 ls st M = mq_k0 d mj_m51 23 ls M (mj_lda (mj_lk ls 0) st) := mj_R0 (r := (.aload_n 0, 1, 0, 0, 0)) rfl rfl
theorem s51_23 {d : Nat} {ls : mj_L} {st : List Value} {M : mj_H} : mj_Rn d mj_m51 23 ls st M = mq_k0 d mj_m51 26 ls M (mq_gf 8 0 st M) := (mj_R3 (r := (.getfield 16, 3, 8, 0, 16480)) rfl rfl).trans (congrArg (mq_k0 d mj_m51 26 ls M) mq_gf_eq)
theorem s51_26 {d : Nat} {ls : mj_L} {st : List Value} {M : mj_H} : mj_Rn d mj_m51 26 ls st M = mq_k0 d mj_m51 27 ls M (mj_ldi (mj_lk ls 2) st) := mj_R0 (r := (.iload_n 2, 1, 0, 0, 0)) rfl rfl
theorem s51_27 {d : Nat} {ls : mj_L} {st : List Value} {M : mj_H} : mj_Rn (d + 1) mj_m51 27 ls st M = mq_k5a (d + 1) mj_m51 30 ls M 14 (mq_cb 0 1 1 st M) := mj_R5e (r := (.invokevirtual 62, 3, 0, 14, 12289)) (z := mj_m14) rfl rfl (by decide) (by decide) rfl
theorem s51_30 {d : Nat} {ls : mj_L} {st : List Value} {M : mj_H} : mj_Rn d mj_m51 30 ls st M = mq_k1 d mj_m51 31 M (mj_lo 5 (.istore 3) ls st) := (mj_R1 (r := (.istore_n 3, 1, 0, 0, 0)) rfl rfl).trans (congrArg (mq_k1 d mj_m51 31 M) (mq_sti (k := 3)))
theorem s51_31 {d : Nat} {ls : mj_L} {st : List Value} {M : mj_H} : mj_Rn d mj_m51 31 ls st M = mq_k0 d mj_m51 32 ls M (mj_lda (mj_lk ls 0) st) := mj_R0 (r := (.aload_n 0, 1, 0, 0, 0)) rfl rfl
theorem s51_32 {d : Nat} {ls : mj_L} {st : List Value} {M : mj_H} : mj_Rn d mj_m51 32 ls st M = mq_k0 d mj_m51 35 ls M (mq_gf 8 0 st M) := (mj_R3 (r := (.getfield 16, 3, 8, 0, 16480)) rfl rfl).trans (congrArg (mq_k0 d mj_m51 35 ls M) mq_gf_eq)
theorem s51_35 {d : Nat} {ls : mj_L} {st : List Value} {M : mj_H} : mj_Rn d mj_m51 35 ls st M = mq_k0 d mj_m51 36 ls M (mj_ldi (mj_lk ls 2) st) := mj_R0 (r := (.iload_n 2, 1, 0, 0, 0)) rfl rfl
theorem s51_36 {d : Nat} {ls : mj_L} {st : List Value} {M : mj_H} : mj_Rn d mj_m51 36 ls st M = mj_Rn d mj_m51 37 ls (.int 1 :: st) M := mj_R0 (r := (.iconst 1, 1, 0, 0, 0)) rfl rfl
theorem s51_37 {d : Nat} {ls : mj_L} {st : List Value} {M : mj_H} : mj_Rn d mj_m51 37 ls st M = mq_k0 d mj_m51 38 ls M (mj_pu .iadd ls st) := mj_R0 (r := (.iadd, 1, 0, 0, 0)) rfl rfl
theorem s51_38 {d : Nat} {ls : mj_L} {st : List Value} {M : mj_H} : mj_Rn (d + 1) mj_m51 38 ls st M = mq_k5a (d + 1) mj_m51 41 ls M 14 (mq_cb 0 1 1 st M) := mj_R5e (r := (.invokevirtual 62, 3, 0, 14, 12289)) (z := mj_m14) rfl rfl (by decide) (by decide) rfl
theorem s51_41 {d : Nat} {ls : mj_L} {st : List Value} {M : mj_H} : mj_Rn d mj_m51 41 ls st M = mq_k1 d mj_m51 43 M (mj_lo 5 (.istore 4) ls st) := mj_R1 (r := (.istore 4, 2, 0, 0, 0)) rfl rfl
theorem s51_43 {d : Nat} {ls : mj_L} {st : List Value} {M : mj_H} : mj_Rn d mj_m51 43 ls st M = mq_k0 d mj_m51 44 ls M (mj_ldi (mj_lk ls 3) st) := mj_R0 (r := (.iload_n 3, 1, 0, 0, 0)) rfl rfl
theorem s51_44 {d : Nat} {ls : mj_L} {st : List Value} {M : mj_H} : mj_Rn d mj_m51 44 ls st M = mj_Rn d mj_m51 45 ls (.int 1 :: st) M := mj_R0 (r := (.iconst 1, 1, 0, 0, 0)) rfl rfl
theorem s51_45 {d : Nat} {ls : mj_L} {st : List Value} {M : mj_H} : mj_Rn d mj_m51 45 ls st M = mq_k2 d mj_m51 ls M (mj_br (.if_icmp .lt 19) 45 st) := mj_R2 (r := (.if_icmp .lt 19, 3, 0, 0, 0)) rfl rfl
theorem s51_48 {d : Nat} {ls : mj_L} {st : List Value} {M : mj_H} : mj_Rn d mj_m51 48 ls st M = mq_k0 d mj_m51 49 ls M (mj_ldi (mj_lk ls 3) st) := mj_R0 (r := (.iload_n 3, 1, 0, 0, 0)) rfl rfl
theorem s51_49 {d : Nat} {ls : mj_L} {st : List Value} {M : mj_H} : mj_Rn d mj_m51 49 ls st M = mj_Rn d mj_m51 52 ls (.ref 1 :: st) M := mj_R3 (r := (.getstatic 127, 3, 0, 0, 12324)) rfl rfl
theorem s51_52 {d : Nat} {ls : mj_L} {st : List Value} {M : mj_H} : mj_Rn d mj_m51 52 ls st M = mq_k0 d mj_m51 53 ls M (mq_len st M) := (mj_R3 (r := (.arraylength, 1, 0, 0, 0)) rfl rfl).trans (congrArg (mq_k0 d mj_m51 53 ls M) mq_len_eq)
theorem s51_53 {d : Nat} {ls : mj_L} {st : List Value} {M : mj_H} : mj_Rn d mj_m51 53 ls st M = mq_k2 d mj_m51 ls M (mj_br (.if_icmp .ge 11) 53 st) := mj_R2 (r := (.if_icmp .ge 11, 3, 0, 0, 0)) rfl rfl
theorem s51_56 {d : Nat} {ls : mj_L} {st : List Value} {M : mj_H} : mj_Rn d mj_m51 56 ls st M = mq_k0 d mj_m51 57 ls M (mj_ldi (mj_lk ls 3) st) := mj_R0 (r := (.iload_n 3, 1, 0, 0, 0)) rfl rfl
theorem s51_57 {d : Nat} {ls : mj_L} {st : List Value} {M : mj_H} : mj_Rn d mj_m51 57 ls st M = mj_Rn d mj_m51 60 ls (.ref 2 :: st) M := mj_R3 (r := (.getstatic 131, 3, 1, 0, 12326)) rfl rfl
theorem s51_60 {d : Nat} {ls : mj_L} {st : List Value} {M : mj_H} : mj_Rn d mj_m51 60 ls st M = mq_k0 d mj_m51 61 ls M (mq_len st M) := (mj_R3 (r := (.arraylength, 1, 0, 0, 0)) rfl rfl).trans (congrArg (mq_k0 d mj_m51 61 ls M) mq_len_eq)
theorem s51_61 {d : Nat} {ls : mj_L} {st : List Value} {M : mj_H} : mj_Rn d mj_m51 61 ls st M = mq_k2 d mj_m51 ls M (mj_br (.if_icmp .lt 5) 61 st) := mj_R2 (r := (.if_icmp .lt 5, 3, 0, 0, 0)) rfl rfl
theorem s51_64 {d : Nat} {ls : mj_L} {st : List Value} {M : mj_H} : mj_Rn d mj_m51 64 ls st M = mj_Rn d mj_m51 65 ls (.int 0 :: st) M := mj_R0 (r := (.iconst 0, 1, 0, 0, 0)) rfl rfl
theorem s51_65 {d : Nat} {ls : mj_L} {st : List Value} {M : mj_H} : mj_Rn d mj_m51 65 ls st M = mq_k6 M (mj_re (some .int) (.ireturn) st) := mj_R6 (r := (.ireturn, 1, 0, 0, 0)) rfl rfl
theorem s51_66 {d : Nat} {ls : mj_L} {st : List Value} {M : mj_H} : mj_Rn d mj_m51 66 ls st M = mq_k0 d mj_m51 68 ls M (mj_ldi (mj_lk ls 4) st) := mj_R0 (r := (.iload 4, 2, 0, 0, 0)) rfl rfl
theorem s51_68 {d : Nat} {ls : mj_L} {st : List Value} {M : mj_H} : mj_Rn d mj_m51 68 ls st M = mj_Rn d mj_m51 71 ls (.ref 1 :: st) M := mj_R3 (r := (.getstatic 127, 3, 0, 0, 12324)) rfl rfl
theorem s51_71 {d : Nat} {ls : mj_L} {st : List Value} {M : mj_H} : mj_Rn d mj_m51 71 ls st M = mq_k0 d mj_m51 72 ls M (mj_ldi (mj_lk ls 3) st) := mj_R0 (r := (.iload_n 3, 1, 0, 0, 0)) rfl rfl
theorem s51_72 {d : Nat} {ls : mj_L} {st : List Value} {M : mj_H} : mj_Rn d mj_m51 72 ls st M = mq_k0 d mj_m51 73 ls M (mq_al [1000] st M) := (mj_R3 (r := (.iaload, 1, 0, 0, 0)) rfl rfl).trans (congrArg (mq_k0 d mj_m51 73 ls M) mq_ali_eq)
theorem s51_73 {d : Nat} {ls : mj_L} {st : List Value} {M : mj_H} : mj_Rn d mj_m51 73 ls st M = mq_k2 d mj_m51 ls M (mj_br (.if_icmp .lt 25) 73 st) := mj_R2 (r := (.if_icmp .lt 25, 3, 0, 0, 0)) rfl rfl
theorem s51_76 {d : Nat} {ls : mj_L} {st : List Value} {M : mj_H} : mj_Rn d mj_m51 76 ls st M = mq_k0 d mj_m51 78 ls M (mj_ldi (mj_lk ls 4) st) := mj_R0 (r := (.iload 4, 2, 0, 0, 0)) rfl rfl
theorem s51_78 {d : Nat} {ls : mj_L} {st : List Value} {M : mj_H} : mj_Rn d mj_m51 78 ls st M = mj_Rn d mj_m51 81 ls (.ref 2 :: st) M := mj_R3 (r := (.getstatic 131, 3, 1, 0, 12326)) rfl rfl
theorem s51_81 {d : Nat} {ls : mj_L} {st : List Value} {M : mj_H} : mj_Rn d mj_m51 81 ls st M = mq_k0 d mj_m51 82 ls M (mj_ldi (mj_lk ls 3) st) := mj_R0 (r := (.iload_n 3, 1, 0, 0, 0)) rfl rfl
theorem s51_82 {d : Nat} {ls : mj_L} {st : List Value} {M : mj_H} : mj_Rn d mj_m51 82 ls st M = mq_k0 d mj_m51 83 ls M (mq_al [1000] st M) := (mj_R3 (r := (.iaload, 1, 0, 0, 0)) rfl rfl).trans (congrArg (mq_k0 d mj_m51 83 ls M) mq_ali_eq)
theorem s51_83 {d : Nat} {ls : mj_L} {st : List Value} {M : mj_H} : mj_Rn d mj_m51 83 ls st M = mq_k2 d mj_m51 ls M (mj_br (.if_icmp .gt 15) 83 st) := mj_R2 (r := (.if_icmp .gt 15, 3, 0, 0, 0)) rfl rfl
theorem s51_86 {d : Nat} {ls : mj_L} {st : List Value} {M : mj_H} : mj_Rn d mj_m51 86 ls st M = mq_k0 d mj_m51 87 ls M (mj_ldi (mj_lk ls 1) st) := mj_R0 (r := (.iload_n 1, 1, 0, 0, 0)) rfl rfl
theorem s51_87 {d : Nat} {ls : mj_L} {st : List Value} {M : mj_H} : mj_Rn d mj_m51 87 ls st M = mq_k0 d mj_m51 89 ls M (mj_ldi (mj_lk ls 4) st) := mj_R0 (r := (.iload 4, 2, 0, 0, 0)) rfl rfl
theorem s51_89 {d : Nat} {ls : mj_L} {st : List Value} {M : mj_H} : mj_Rn d mj_m51 89 ls st M = mq_k0 d mj_m51 90 ls M (mj_pu .iadd ls st) := mj_R0 (r := (.iadd, 1, 0, 0, 0)) rfl rfl
theorem s51_90 {d : Nat} {ls : mj_L} {st : List Value} {M : mj_H} : mj_Rn d mj_m51 90 ls st M = mj_Rn d mj_m51 91 ls (.int 4 :: st) M := mj_R0 (r := (.iconst 4, 1, 0, 0, 0)) rfl rfl
theorem s51_91 {d : Nat} {ls : mj_L} {st : List Value} {M : mj_H} : mj_Rn d mj_m51 91 ls st M = mq_k0 d mj_m51 92 ls M (mj_pu .iadd ls st) := mj_R0 (r := (.iadd, 1, 0, 0, 0)) rfl rfl
theorem s51_92 {d : Nat} {ls : mj_L} {st : List Value} {M : mj_H} : mj_Rn d mj_m51 92 ls st M = mj_Rn d mj_m51 95 ls (.int 256 :: st) M := mj_R0 (r := (.sipush 256, 3, 0, 0, 0)) rfl rfl
theorem s51_95 {d : Nat} {ls : mj_L} {st : List Value} {M : mj_H} : mj_Rn d mj_m51 95 ls st M = mq_k2 d mj_m51 ls M (mj_br (.if_icmp .le 5) 95 st) := mj_R2 (r := (.if_icmp .le 5, 3, 0, 0, 0)) rfl rfl
theorem s51_98 {d : Nat} {ls : mj_L} {st : List Value} {M : mj_H} : mj_Rn d mj_m51 98 ls st M = mj_Rn d mj_m51 99 ls (.int 0 :: st) M := mj_R0 (r := (.iconst 0, 1, 0, 0, 0)) rfl rfl
theorem s51_99 {d : Nat} {ls : mj_L} {st : List Value} {M : mj_H} : mj_Rn d mj_m51 99 ls st M = mq_k6 M (mj_re (some .int) (.ireturn) st) := mj_R6 (r := (.ireturn, 1, 0, 0, 0)) rfl rfl
theorem s51_100 {d : Nat} {ls : mj_L} {st : List Value} {M : mj_H} : mj_Rn d mj_m51 100 ls st M = mq_k0 d mj_m51 101 ls M (mj_lda (mj_lk ls 0) st) := mj_R0 (r := (.aload_n 0, 1, 0, 0, 0)) rfl rfl
theorem s51_101 {d : Nat} {ls : mj_L} {st : List Value} {M : mj_H} : mj_Rn d mj_m51 101 ls st M = mq_k0 d mj_m51 104 ls M (mq_gf 8 0 st M) := (mj_R3 (r := (.getfield 16, 3, 8, 0, 16480)) rfl rfl).trans (congrArg (mq_k0 d mj_m51 104 ls M) mq_gf_eq)
theorem s51_104 {d : Nat} {ls : mj_L} {st : List Value} {M : mj_H} : mj_Rn d mj_m51 104 ls st M = mq_k0 d mj_m51 105 ls M (mj_ldi (mj_lk ls 2) st) := mj_R0 (r := (.iload_n 2, 1, 0, 0, 0)) rfl rfl
theorem s51_105 {d : Nat} {ls : mj_L} {st : List Value} {M : mj_H} : mj_Rn d mj_m51 105 ls st M = mj_Rn d mj_m51 106 ls (.int 2 :: st) M := mj_R0 (r := (.iconst 2, 1, 0, 0, 0)) rfl rfl
theorem s51_106 {d : Nat} {ls : mj_L} {st : List Value} {M : mj_H} : mj_Rn d mj_m51 106 ls st M = mq_k0 d mj_m51 107 ls M (mj_pu .iadd ls st) := mj_R0 (r := (.iadd, 1, 0, 0, 0)) rfl rfl
theorem s51_107 {d : Nat} {ls : mj_L} {st : List Value} {M : mj_H} : mj_Rn d mj_m51 107 ls st M = mq_k0 d mj_m51 109 ls M (mj_ldi (mj_lk ls 4) st) := mj_R0 (r := (.iload 4, 2, 0, 0, 0)) rfl rfl
theorem s51_109 {d : Nat} {ls : mj_L} {st : List Value} {M : mj_H} : mj_Rn d mj_m51 109 ls st M = mq_k0 d mj_m51 110 ls M (mj_pu .iadd ls st) := mj_R0 (r := (.iadd, 1, 0, 0, 0)) rfl rfl
theorem s51_110 {d : Nat} {ls : mj_L} {st : List Value} {M : mj_H} : mj_Rn d mj_m51 110 ls st M = mj_Rn d mj_m51 111 ls (.int 2 :: st) M := mj_R0 (r := (.iconst 2, 1, 0, 0, 0)) rfl rfl
theorem s51_111 {d : Nat} {ls : mj_L} {st : List Value} {M : mj_H} : mj_Rn (d + 1) mj_m51 111 ls st M = mq_k5a (d + 1) mj_m51 114 ls M 49 (mq_cb 0 2 1 st M) := mj_R5e (r := (.invokevirtual 105, 3, 0, 49, 12311)) (z := mj_m49) rfl rfl (by decide) (by decide) rfl
theorem s51_114 {d : Nat} {ls : mj_L} {st : List Value} {M : mj_H} : mj_Rn d mj_m51 114 ls st M = mq_k0 d mj_m51 115 ls M (mj_lda (mj_lk ls 0) st) := mj_R0 (r := (.aload_n 0, 1, 0, 0, 0)) rfl rfl
theorem s51_115 {d : Nat} {ls : mj_L} {st : List Value} {M : mj_H} : mj_Rn d mj_m51 115 ls st M = mq_k0 d mj_m51 118 ls M (mq_gf 8 0 st M) := (mj_R3 (r := (.getfield 16, 3, 8, 0, 16480)) rfl rfl).trans (congrArg (mq_k0 d mj_m51 118 ls M) mq_gf_eq)
theorem s51_118 {d : Nat} {ls : mj_L} {st : List Value} {M : mj_H} : mj_Rn d mj_m51 118 ls st M = mq_k0 d mj_m51 119 ls M (mj_ldi (mj_lk ls 2) st) := mj_R0 (r := (.iload_n 2, 1, 0, 0, 0)) rfl rfl
theorem s51_119 {d : Nat} {ls : mj_L} {st : List Value} {M : mj_H} : mj_Rn d mj_m51 119 ls st M = mj_Rn d mj_m51 120 ls (.int 2 :: st) M := mj_R0 (r := (.iconst 2, 1, 0, 0, 0)) rfl rfl
theorem s51_120 {d : Nat} {ls : mj_L} {st : List Value} {M : mj_H} : mj_Rn d mj_m51 120 ls st M = mq_k0 d mj_m51 122 ls M (mj_ldi (mj_lk ls 4) st) := mj_R0 (r := (.iload 4, 2, 0, 0, 0)) rfl rfl
theorem s51_122 {d : Nat} {ls : mj_L} {st : List Value} {M : mj_H} : mj_Rn d mj_m51 122 ls st M = mq_k0 d mj_m51 123 ls M (mj_pu .iadd ls st) := mj_R0 (r := (.iadd, 1, 0, 0, 0)) rfl rfl
theorem s51_123 {d : Nat} {ls : mj_L} {st : List Value} {M : mj_H} : mj_Rn (d + 1) mj_m51 123 ls st M = mq_k5a (d + 1) mj_m51 126 ls M 42 (mq_cb 0 2 1 st M) := mj_R5e (r := (.invokevirtual 109, 3, 0, 42, 8423)) (z := mj_m42) rfl rfl (by decide) (by decide) rfl
theorem s51_126 {d : Nat} {ls : mj_L} {st : List Value} {M : mj_H} : mj_Rn d mj_m51 126 ls st M = mq_k0 d mj_m51 127 ls M (mj_pu .i2l ls st) := mj_R0 (r := (.i2l, 1, 0, 0, 0)) rfl rfl
theorem s51_127 {d : Nat} {ls : mj_L} {st : List Value} {M : mj_H} : mj_Rn d mj_m51 127 ls st M = mq_k0 d mj_m51 128 ls M (mj_pu .lcmp ls st) := mj_R0 (r := (.lcmp, 1, 0, 0, 0)) rfl rfl
theorem s51_128 {d : Nat} {ls : mj_L} {st : List Value} {M : mj_H} : mj_Rn d mj_m51 128 ls st M = mq_k2 d mj_m51 ls M (mj_br (.ifCond .ne 10) 128 st) := mj_R2 (r := (.ifCond .ne 10, 3, 0, 0, 0)) rfl rfl
theorem s51_131 {d : Nat} {ls : mj_L} {st : List Value} {M : mj_H} : mj_Rn d mj_m51 131 ls st M = mq_k0 d mj_m51 133 ls M (mj_ldi (mj_lk ls 4) st) := mj_R0 (r := (.iload 4, 2, 0, 0, 0)) rfl rfl
theorem s51_133 {d : Nat} {ls : mj_L} {st : List Value} {M : mj_H} : mj_Rn d mj_m51 133 ls st M = mj_Rn d mj_m51 134 ls (.int 4 :: st) M := mj_R0 (r := (.iconst 4, 1, 0, 0, 0)) rfl rfl
theorem s51_134 {d : Nat} {ls : mj_L} {st : List Value} {M : mj_H} : mj_Rn d mj_m51 134 ls st M = mq_k0 d mj_m51 135 ls M (mj_pu .iadd ls st) := mj_R0 (r := (.iadd, 1, 0, 0, 0)) rfl rfl
theorem s51_135 {d : Nat} {ls : mj_L} {st : List Value} {M : mj_H} : mj_Rn d mj_m51 135 ls st M = mj_Rn d mj_m51 139 ls st M := mj_R2 (r := (.goto 4, 3, 0, 0, 0)) rfl rfl
theorem s51_138 {d : Nat} {ls : mj_L} {st : List Value} {M : mj_H} : mj_Rn d mj_m51 138 ls st M = mj_Rn d mj_m51 139 ls (.int 0 :: st) M := mj_R0 (r := (.iconst 0, 1, 0, 0, 0)) rfl rfl
theorem s51_139 {d : Nat} {ls : mj_L} {st : List Value} {M : mj_H} : mj_Rn d mj_m51 139 ls st M = mq_k6 M (mj_re (some .int) (.ireturn) st) := mj_R6 (r := (.ireturn, 1, 0, 0, 0)) rfl rfl
/- 57 PasskeyHouse$Store.isErasedFrom(I)Z -/
theorem s57_0 {d : Nat} {ls : mj_L} {st : List Value} {M : mj_H} : mj_Rn d mj_m57 0 ls st M = mq_k0 d mj_m57 1 ls M (mj_ldi (mj_lk ls 1) st) := mj_R0 (r := (.iload_n 1, 1, 0, 0, 0)) rfl rfl
theorem s57_1 {d : Nat} {ls : mj_L} {st : List Value} {M : mj_H} : mj_Rn d mj_m57 1 ls st M = mq_k1 d mj_m57 2 M (mj_lo 3 (.istore 2) ls st) := (mj_R1 (r := (.istore_n 2, 1, 0, 0, 0)) rfl rfl).trans (congrArg (mq_k1 d mj_m57 2 M) (mq_sti (k := 2)))
theorem s57_2 {d : Nat} {ls : mj_L} {st : List Value} {M : mj_H} : mj_Rn d mj_m57 2 ls st M = mq_k0 d mj_m57 3 ls M (mj_ldi (mj_lk ls 2) st) := mj_R0 (r := (.iload_n 2, 1, 0, 0, 0)) rfl rfl
theorem s57_3 {d : Nat} {ls : mj_L} {st : List Value} {M : mj_H} : mj_Rn d mj_m57 3 ls st M = mj_Rn d mj_m57 6 ls (.int 256 :: st) M := mj_R0 (r := (.sipush 256, 3, 0, 0, 0)) rfl rfl
theorem s57_6 {d : Nat} {ls : mj_L} {st : List Value} {M : mj_H} : mj_Rn d mj_m57 6 ls st M = mq_k2 d mj_m57 ls M (mj_br (.if_icmp .ge 34) 6 st) := mj_R2 (r := (.if_icmp .ge 34, 3, 0, 0, 0)) rfl rfl
theorem s57_9 {d : Nat} {ls : mj_L} {st : List Value} {M : mj_H} : mj_Rn d mj_m57 9 ls st M = mq_k0 d mj_m57 10 ls M (mj_lda (mj_lk ls 0) st) := mj_R0 (r := (.aload_n 0, 1, 0, 0, 0)) rfl rfl
theorem s57_10 {d : Nat} {ls : mj_L} {st : List Value} {M : mj_H} : mj_Rn d mj_m57 10 ls st M = mq_k0 d mj_m57 13 ls M (mq_gf 8 0 st M) := (mj_R3 (r := (.getfield 16, 3, 8, 0, 16480)) rfl rfl).trans (congrArg (mq_k0 d mj_m57 13 ls M) mq_gf_eq)
theorem s57_13 {d : Nat} {ls : mj_L} {st : List Value} {M : mj_H} : mj_Rn d mj_m57 13 ls st M = mq_k0 d mj_m57 14 ls M (mj_lda (mj_lk ls 0) st) := mj_R0 (r := (.aload_n 0, 1, 0, 0, 0)) rfl rfl
theorem s57_14 {d : Nat} {ls : mj_L} {st : List Value} {M : mj_H} : mj_Rn d mj_m57 14 ls st M = mq_k0 d mj_m57 17 ls M (mq_gf 8 7 st M) := (mj_R3 (r := (.getfield 73, 3, 8, 7, 16504)) rfl rfl).trans (congrArg (mq_k0 d mj_m57 17 ls M) mq_gf_eq)
theorem s57_17 {d : Nat} {ls : mj_L} {st : List Value} {M : mj_H} : mj_Rn d mj_m57 17 ls st M = mj_Rn d mj_m57 20 ls (.int 256 :: st) M := mj_R0 (r := (.sipush 256, 3, 0, 0, 0)) rfl rfl
theorem s57_20 {d : Nat} {ls : mj_L} {st : List Value} {M : mj_H} : mj_Rn d mj_m57 20 ls st M = mq_k0 d mj_m57 21 ls M (mj_pu .imul ls st) := mj_R0 (r := (.imul, 1, 0, 0, 0)) rfl rfl
theorem s57_21 {d : Nat} {ls : mj_L} {st : List Value} {M : mj_H} : mj_Rn d mj_m57 21 ls st M = mq_k0 d mj_m57 22 ls M (mj_ldi (mj_lk ls 2) st) := mj_R0 (r := (.iload_n 2, 1, 0, 0, 0)) rfl rfl
theorem s57_22 {d : Nat} {ls : mj_L} {st : List Value} {M : mj_H} : mj_Rn d mj_m57 22 ls st M = mq_k0 d mj_m57 23 ls M (mj_pu .iadd ls st) := mj_R0 (r := (.iadd, 1, 0, 0, 0)) rfl rfl
theorem s57_23 {d : Nat} {ls : mj_L} {st : List Value} {M : mj_H} : mj_Rn (d + 1) mj_m57 23 ls st M = mq_k5a (d + 1) mj_m57 26 ls M 14 (mq_cb 0 1 1 st M) := mj_R5e (r := (.invokevirtual 62, 3, 0, 14, 12289)) (z := mj_m14) rfl rfl (by decide) (by decide) rfl
theorem s57_26 {d : Nat} {ls : mj_L} {st : List Value} {M : mj_H} : mj_Rn d mj_m57 26 ls st M = mj_Rn d mj_m57 29 ls (.int 255 :: st) M := mj_R0 (r := (.sipush 255, 3, 0, 0, 0)) rfl rfl
theorem s57_29 {d : Nat} {ls : mj_L} {st : List Value} {M : mj_H} : mj_Rn d mj_m57 29 ls st M = mq_k2 d mj_m57 ls M (mj_br (.if_icmp .eq 5) 29 st) := mj_R2 (r := (.if_icmp .eq 5, 3, 0, 0, 0)) rfl rfl
theorem s57_32 {d : Nat} {ls : mj_L} {st : List Value} {M : mj_H} : mj_Rn d mj_m57 32 ls st M = mj_Rn d mj_m57 33 ls (.int 0 :: st) M := mj_R0 (r := (.iconst 0, 1, 0, 0, 0)) rfl rfl
theorem s57_33 {d : Nat} {ls : mj_L} {st : List Value} {M : mj_H} : mj_Rn d mj_m57 33 ls st M = mq_k6 M (mj_re (some .boolean) (.ireturn) st) := mj_R6 (r := (.ireturn, 1, 0, 0, 0)) rfl rfl
theorem s57_34 {d : Nat} {ls : mj_L} {st : List Value} {M : mj_H} : mj_Rn d mj_m57 34 ls st M = mq_k1 d mj_m57 37 M (mj_lo 3 (.iinc 2 1) ls st) := mj_R1 (r := (.iinc 2 1, 3, 0, 0, 0)) rfl rfl
theorem s57_37 {d : Nat} {ls : mj_L} {st : List Value} {M : mj_H} : mj_Rn d mj_m57 37 ls st M = mj_Rn d mj_m57 2 ls st M := mj_R2 (r := (.goto (-35), 3, 0, 0, 0)) rfl rfl
theorem s57_40 {d : Nat} {ls : mj_L} {st : List Value} {M : mj_H} : mj_Rn d mj_m57 40 ls st M = mj_Rn d mj_m57 41 ls (.int 1 :: st) M := mj_R0 (r := (.iconst 1, 1, 0, 0, 0)) rfl rfl
theorem s57_41 {d : Nat} {ls : mj_L} {st : List Value} {M : mj_H} : mj_Rn d mj_m57 41 ls st M = mq_k6 M (mj_re (some .boolean) (.ireturn) st) := mj_R6 (r := (.ireturn, 1, 0, 0, 0)) rfl rfl
theorem c48 {d : Nat} {a0 : Nat} {x1 : Int32} {M : mj_H} : mj_V (d + 1) 48 [.ref a0, .int x1] M = mj_Rn d mj_m48 0 [(0, .ref a0), (1, .int x1)] [] M := mj_V_go rfl (Nat.le_of_ble_eq_true rfl)
theorem c51 {d : Nat} {a0 : Nat} {x1 : Int32} {M : mj_H} : mj_V (d + 1) 51 [.ref a0, .int x1] M = mj_Rn d mj_m51 0 [(0, .ref a0), (1, .int x1)] [] M := mj_V_go rfl (Nat.le_of_ble_eq_true rfl)
theorem c57 {d : Nat} {a0 : Nat} {x1 : Int32} {M : mj_H} : mj_V (d + 1) 57 [.ref a0, .int x1] M = mj_Rn d mj_m57 0 [(0, .ref a0), (1, .int x1)] [] M := mj_V_go rfl (Nat.le_of_ble_eq_true rfl)
theorem and_65535 (x : Int32) : ∃ n : Nat, n < 65536 ∧ x &&& 65535 = nI n := by
  refine ⟨x.toBitVec.toNat % 65536, Nat.mod_lt _ (by decide), ?_⟩
  apply Int32.toBitVec_inj.mp
  apply BitVec.eq_of_toNat_eq
  simp [nI]
  rw [Nat.mod_eq_of_lt (a := x.toBitVec.toNat % 65536) (by omega)]
  exact Nat.and_two_pow_sub_one_eq_mod (n := 16) ..
theorem cs_lt : ∀ (l : List Int32) (c : Int32), (∃ n : Nat, n < 65536 ∧ c = nI n) → ∃ n : Nat, n < 65536 ∧ l.foldl bt_cs c = nI n := by
  intro l
  induction l with
  | nil => intro c h; exact h
  | cons v l ih => intro c _; exact ih _ (and_65535 _)
theorem ck_lt (b : List Int32) : ∃ n : Nat, n < 65535 ∧ bt_ck b = nI n := by
  obtain ⟨n, h1, h2⟩ := cs_lt b 0 ⟨0, by decide, rfl⟩
  unfold bt_ck
  by_cases h : b.foldl bt_cs 0 = 65535
  · rw [if_pos h]; exact ⟨0, by decide, rfl⟩
  · rw [if_neg h, h2]
    refine ⟨n, ?_, rfl⟩
    rw [h2] at h
    rcases Nat.lt_or_ge n 65535 with z | z
    · exact z
    · exfalso; apply h; rw [show n = 65535 by omega]; rfl
theorem low2_nat {n : Nat} (h : n < 65536) : bt_low (nI n).toInt64 2 = [nI (n / 256), nI (n % 256)] := by
  rw [i64_l (by omega)]
  have e : uL (Int64.ofNat n) = n := by rw [show Int64.ofNat n = nL n from rfl, uL_nL]; omega
  simp only [bt_low]
  rw [bt_by_nat _ (by omega), bt_by_nat _ (by omega), e, show n / 256 ^ 1 % 256 = n / 256 by omega, show n / 256 ^ 0 % 256 = n % 256 by omega]
theorem bn2 {a b : Nat} (ha : a < 256) (hb : b < 256) : bn [nI a, nI b] = 256 * a + b := by
  simp [bn, nI_clamp (show a < 2 ^ 31 by omega), nI_clamp (show b < 2 ^ 31 by omega)]
theorem by_nat : ∀ n : Nat, n < 256 → nI n &&& 255 = nI n := by decide +kernel
theorem lo_low2 {n : Nat} (h : n < 65536) : bt_lo [nI (n / 256), nI (n % 256)] = (nI n).toInt64 := by
  rw [bt_lo_nat _ (by
    intro v hv
    simp at hv
    rcases hv with rfl | rfl
    · exact by_nat _ (by omega)
    · exact by_nat _ (by omega)) (by simp), bn2 (by omega) (by omega), i64_l (by omega), show 256 * (n / 256) + n % 256 = n by omega]
theorem ck2_iff {l b : List Int32} (h8 : ∀ v ∈ l, v &&& 255 = v) (hl : l.length = 2) : (bt_lo l = (bt_ck b).toInt64) ↔ l = ck2 b := by
  obtain ⟨n, h1, h2⟩ := ck_lt b
  unfold ck2
  rw [h2]
  constructor
  · intro h
    have := bt_lo_low l h8 (by omega)
    rw [hl, h] at this
    exact this.symm
  · intro h
    rw [h, low2_nat (by omega), lo_low2 (by omega)]
theorem sl_by {fl : List Int32} (h8 : ∀ v ∈ fl, v &&& 255 = v) (p n : Nat) : ∀ v ∈ (fl.drop p).take n, v &&& 255 = v := fun v hv => h8 v (List.mem_of_mem_drop (List.mem_of_mem_take hv))
theorem sl_len {fl : List Int32} {p n : Nat} (h : p + n ≤ fl.length) : ((fl.drop p).take n).length = n := by simp; omega
/-- what a good header says, as an int -/
def ggI (o : Option Nat) : Int32 := match o with
  | some g => nI g
  | none => -1
theorem st_good {d κ w : Nat} {s : Fl} {r : List Int32} {M : mj_H} (h : ks M κ s r) (hw : w ≤ 1) (hfl : s.1.length = 512) : mj_V (d + 2) 48 [.ref (κ + 1), .int (nI w)] M = some (some (.int (ggI (fs_gg s.1 w))), M) := by
  have hob := h.ob
  unfold so at hob
  have hca := h.ce.2.2.2.2.2.1
  have h8 := h.ce.2.2.2.2.1
  obtain ⟨w1, p1, e1⟩ := v_low (d := d) h.ce (p := w * 256 + 2) (n := 2) (by omega)
  obtain ⟨w2, p2, e2⟩ := v_check (d := d) h.ce (p := w * 256) (n := 2) (by omega)
  obtain ⟨w3, p3, e3⟩ := v_low (d := d) h.ce (p := w * 256) (n := 2) (by omega)
  have e1 := e1 (by omega)
  have e2 := e2 (by omega)
  have e3 := e3 (by omega)
  have hi := ck2_iff (b := (s.1.drop (w * 256)).take 2) (sl_by h8 (w * 256 + 2) 2) (sl_len (by omega))
  rw [← e1, ← e2] at hi
  have e4 : w3.toInt32 = nI (bn ((s.1.drop (w * 256)).take 2)) := by rw [e3, w4_lo _ (sl_by h8 _ _) (by rw [sl_len (by omega)]; omega)]; rfl
  rw [show nI 2 = 2 from rfl] at p1 p2 p3
  unfold fs_gg
  by_cases hg : (s.1.drop (w * 256 + 2)).take 2 = ck2 ((s.1.drop (w * 256)).take 2)
  · have hq := hi.mpr hg
    rw [if_pos hg]
    simp (disch := (first | omega | decide)) [c48, s48_0, s48_1, s48_4, s48_5, s48_6, s48_7, s48_10, s48_11, s48_12, s48_13, s48_14, s48_17, s48_18, s48_21, s48_22, s48_23, s48_26, s48_27, s48_28, s48_31, s48_32, s48_35, s48_36, s48_37, s48_38, s48_41, s48_42, s48_45, s48_46, s48_47, s48_50, s48_51, s48_54, s48_55, mq_k0s, mq_k1s, mq_k2s, mq_k4s, mq_k5s, mq_k5n, mq_k5as, mq_k6s, mj_pu, mj_lo, mj_br, mj_hr, mj_hw, mq_gf, mq_len, mq_al, mq_pf, mq_ok, mj_re, mq_lkm, mq_lkn, mj_ldi, mj_ldl, mj_lda, mj_ii, mj_ll, mj_li, mj_i1, ms_1, ms_2, f1_n, f1_i, f1_r, f1_u, f1_l, f2_n, f2_i, f2_r, f2_u, f2_l, mj_tg, mj_c1, mj_c2, mj_ar, mj_aw, mq_cb, mq_oi, mj_rm, Value.category, -getElem?_pos, List.getElem?_cons_zero, decide_eq_true, decide_eq_false, nl_lt, nl_le, ln_lt, ln_le, nl_eq, ln_eq, nl_add, ln_add, nl_sub, ln_mul, nI_sub, nI_mul, nI_add, nI_lt_iff, nI_le_iff, nI_inj, nI_num, mq_ix, nI_1, nl_mul, nl_div, nL_lt, nL_le, nL_eq, nL_l, nL_i, nLl_lt, nLl_le, nLl_eq, lnL_lt, lnL_le, lg_cmp_ge, lg_cmp_le, lg_cmp_gt, lg_cmp_lt, lg_cmp_eq, hob, hca, p1, p2, p3, hq, e4, ggI, narrow]
  · have hq : ¬ w1 = w2.toInt64 := fun z => hg (hi.mp z)
    rw [if_neg hg]
    simp (disch := (first | omega | decide)) [c48, s48_0, s48_1, s48_4, s48_5, s48_6, s48_7, s48_10, s48_11, s48_12, s48_13, s48_14, s48_17, s48_18, s48_21, s48_22, s48_23, s48_26, s48_27, s48_28, s48_31, s48_32, s48_35, s48_36, s48_37, s48_38, s48_41, s48_42, s48_45, s48_46, s48_47, s48_50, s48_51, s48_54, s48_55, mq_k0s, mq_k1s, mq_k2s, mq_k4s, mq_k5s, mq_k5n, mq_k5as, mq_k6s, mj_pu, mj_lo, mj_br, mj_hr, mj_hw, mq_gf, mq_len, mq_al, mq_pf, mq_ok, mj_re, mq_lkm, mq_lkn, mj_ldi, mj_ldl, mj_lda, mj_ii, mj_ll, mj_li, mj_i1, ms_1, ms_2, f1_n, f1_i, f1_r, f1_u, f1_l, f2_n, f2_i, f2_r, f2_u, f2_l, mj_tg, mj_c1, mj_c2, mj_ar, mj_aw, mq_cb, mq_oi, mj_rm, Value.category, -getElem?_pos, List.getElem?_cons_zero, decide_eq_true, decide_eq_false, nl_lt, nl_le, ln_lt, ln_le, nl_eq, ln_eq, nl_add, ln_add, nl_sub, ln_mul, nI_sub, nI_mul, nI_add, nI_lt_iff, nI_le_iff, nI_inj, nI_num, mq_ix, nI_1, nl_mul, nl_div, nL_lt, nL_le, nL_eq, nL_l, nL_i, nLl_lt, nLl_le, nLl_eq, lnL_lt, lnL_le, lg_cmp_ge, lg_cmp_le, lg_cmp_gt, lg_cmp_lt, lg_cmp_eq, hob, hca, p1, p2, p3, hq, ggI, narrow]
theorem ar_slice {fl : List Int32} {a p n : Nat} (h : p + n ≤ 256) : ((fs_ar fl a).drop p).take n = (fl.drop (a * 256 + p)).take n := by
  unfold fs_ar
  rw [List.drop_take, List.take_take, List.drop_drop, Nat.min_eq_left (by omega)]
theorem ar_get {fl : List Int32} {a p : Nat} (h : p < 256) (hfl : a * 256 + p < fl.length) (u : Int32) : (fs_ar fl a).getD p u = fl.getD (a * 256 + p) (-1) := by
  unfold fs_ar
  simp [List.getD, List.getElem?_take, h, List.getElem?_drop, hfl]
theorem by_in {fl : List Int32} (h8 : ∀ v ∈ fl, v &&& 255 = v) {p : Nat} (hp : p < fl.length) (u : Int32) : ∃ n : Nat, n < 256 ∧ fl.getD p u = nI n := by
  have e : fl.getD p u = fl[p] := by simp [List.getD, hp]
  rw [e]
  exact by_nI (h8 _ (List.getElem_mem hp))
theorem st_size {d κ p : Nat} {s : Fl} {r : List Int32} {M : mj_H} (h : ks M κ s r) (ha : s.2.2.2.2.1 ≤ 1) (hfl : s.1.length = 512) (hp : p ≤ 512) : mj_V (d + 2) 51 [.ref (κ + 1), .int (nI p)] M = some (some (.int (nI (fs_rz (fs_ar s.1 s.2.2.2.2.1) p))), M) := by
  have hob := h.ob
  unfold so at hob
  have hca := h.ce.2.2.2.2.2.1
  have h8 := h.ce.2.2.2.2.1
  by_cases h4 : 256 < p + 4
  · have e0 : fs_rz (fs_ar s.1 s.2.2.2.2.1) p = 0 := by
      unfold fs_rz
      rw [if_neg (fun z => by omega)]
    rw [e0]
    simp (disch := (first | omega | decide)) [c51, s51_0, s51_1, s51_4, s51_7, s51_8, s51_9, s51_10, s51_11, s51_12, s51_13, s51_14, s51_17, s51_20, s51_21, s51_22, s51_23, s51_26, s51_27, s51_30, s51_31, s51_32, s51_35, s51_36, s51_37, s51_38, s51_41, s51_43, s51_44, s51_45, s51_48, s51_49, s51_52, s51_53, s51_56, s51_57, s51_60, s51_61, s51_64, s51_65, s51_66, s51_68, s51_71, s51_72, s51_73, s51_76, s51_78, s51_81, s51_82, s51_83, s51_86, s51_87, s51_89, s51_90, s51_91, s51_92, s51_95, s51_98, s51_99, s51_100, s51_101, s51_104, s51_105, s51_106, s51_107, s51_109, s51_110, s51_111, s51_114, s51_115, s51_118, s51_119, s51_120, s51_122, s51_123, s51_126, s51_127, s51_128, s51_131, s51_133, s51_134, s51_135, s51_138, s51_139, mq_k0s, mq_k1s, mq_k2s, mq_k4s, mq_k5s, mq_k5n, mq_k5as, mq_k6s, mj_pu, mj_lo, mj_br, mj_hr, mj_hw, mq_gf, mq_len, mq_al, mq_pf, mq_ok, mj_re, mq_lkm, mq_lkn, mj_ldi, mj_ldl, mj_lda, mj_ii, mj_ll, mj_li, mj_i1, ms_1, ms_2, f1_n, f1_i, f1_r, f1_u, f1_l, f2_n, f2_i, f2_r, f2_u, f2_l, mj_tg, mj_c1, mj_c2, mj_ar, mj_aw, mq_cb, mq_oi, mj_rm, Value.category, -getElem?_pos, List.getElem?_cons_zero, decide_eq_true, decide_eq_false, nl_lt, nl_le, ln_lt, ln_le, nl_eq, ln_eq, nl_add, ln_add, nl_sub, ln_mul, nI_sub, nI_mul, nI_add, nI_lt_iff, nI_le_iff, nI_inj, nI_num, mq_ix, nI_1, nl_mul, nl_div, hob, narrow]
  · have g1 := ar_get (fl := s.1) (a := s.2.2.2.2.1) (p := p) (by omega) (by omega) 0
    have g2 := ar_get (fl := s.1) (a := s.2.2.2.2.1) (p := p + 1) (by omega) (by omega) 0
    have v1 := v_item (d := d) h.ce (nI (s.2.2.2.2.1 * 256 + p))
    have v2 := v_item (d := d) h.ce (nI (s.2.2.2.2.1 * 256 + p + 1))
    rw [bt_at_nI (by omega)] at v1 v2
    obtain ⟨k, hk, ek⟩ := by_in h8 (p := s.2.2.2.2.1 * 256 + p) (by omega) (-1)
    obtain ⟨n, hn, en⟩ := by_in h8 (p := s.2.2.2.2.1 * 256 + p + 1) (by omega) (-1)
    rw [← Nat.add_assoc] at g2
    rw [ek] at g1 v1
    rw [en] at g2 v2
    have s1 := h.s1
    have s2 := h.s2
    obtain ⟨w1, p1, e1⟩ := v_low (d := d) h.ce (p := s.2.2.2.2.1 * 256 + p + 2 + n) (n := 2) (by omega)
    obtain ⟨w2, p2, e2⟩ := v_check (d := d) h.ce (p := s.2.2.2.2.1 * 256 + p) (n := 2 + n) (by omega)
    have hz : fs_rz (fs_ar s.1 s.2.2.2.2.1) p = if p + n + 4 ≤ 256 ∧ fs_kl k n = true ∧ w1 = w2.toInt64 then n + 4 else 0 := by
      unfold fs_rz
      dsimp only
      rw [g1, g2, uN_nI, uN_nI, Nat.mod_eq_of_lt (by omega), Nat.mod_eq_of_lt (by omega)]
      by_cases hb : p + n + 4 ≤ 256
      · have e1 := e1 (by omega)
        have e2 := e2 (by omega)
        have hi := ck2_iff (b := (s.1.drop (s.2.2.2.2.1 * 256 + p)).take (2 + n)) (sl_by h8 (s.2.2.2.2.1 * 256 + p + 2 + n) 2) (sl_len (by omega))
        rw [← e1, ← e2] at hi
        rw [ar_slice (by omega), ar_slice (by omega), show s.2.2.2.2.1 * 256 + (p + 2 + n) = s.2.2.2.2.1 * 256 + p + 2 + n by omega]
        simp only [hi]
      · rw [if_neg (fun z => hb z.1), if_neg (fun z => hb z.1)]
    rw [show nI 2 = 2 from rfl] at p1
    have k6 : ¬ (1 ≤ k ∧ k ≤ 5) → fs_kl k n = false := by intro z; unfold fs_kl; simp; omega
    have z0 : ¬ (p + n + 4 ≤ 256 ∧ fs_kl k n = true ∧ w1 = w2.toInt64) → fs_rz (fs_ar s.1 s.2.2.2.2.1) p = 0 := fun z => by rw [hz, if_neg z]
    have z1 : (p + n + 4 ≤ 256 ∧ fs_kl k n = true ∧ w1 = w2.toInt64) → fs_rz (fs_ar s.1 s.2.2.2.2.1) p = n + 4 := fun z => by rw [hz, if_pos z]
    rcases (show k = 0 ∨ k = 1 ∨ k = 2 ∨ k = 3 ∨ k = 4 ∨ k = 5 ∨ 6 ≤ k by omega) with rfl | rfl | rfl | rfl | rfl | rfl | h6
    · rw [z0 (fun z => by rw [k6 (by omega)] at z; simp at z)]
      simp (disch := (first | omega | decide)) [c51, s51_0, s51_1, s51_4, s51_7, s51_8, s51_9, s51_10, s51_11, s51_12, s51_13, s51_14, s51_17, s51_20, s51_21, s51_22, s51_23, s51_26, s51_27, s51_30, s51_31, s51_32, s51_35, s51_36, s51_37, s51_38, s51_41, s51_43, s51_44, s51_45, s51_48, s51_49, s51_52, s51_53, s51_56, s51_57, s51_60, s51_61, s51_64, s51_65, s51_66, s51_68, s51_71, s51_72, s51_73, s51_76, s51_78, s51_81, s51_82, s51_83, s51_86, s51_87, s51_89, s51_90, s51_91, s51_92, s51_95, s51_98, s51_99, s51_100, s51_101, s51_104, s51_105, s51_106, s51_107, s51_109, s51_110, s51_111, s51_114, s51_115, s51_118, s51_119, s51_120, s51_122, s51_123, s51_126, s51_127, s51_128, s51_131, s51_133, s51_134, s51_135, s51_138, s51_139, mq_k0s, mq_k1s, mq_k2s, mq_k4s, mq_k5s, mq_k5n, mq_k5as, mq_k6s, mj_pu, mj_lo, mj_br, mj_hr, mj_hw, mq_gf, mq_len, mq_al, mq_pf, mq_ok, mj_re, mq_lkm, mq_lkn, mj_ldi, mj_ldl, mj_lda, mj_ii, mj_ll, mj_li, mj_i1, ms_1, ms_2, f1_n, f1_i, f1_r, f1_u, f1_l, f2_n, f2_i, f2_r, f2_u, f2_l, mj_tg, mj_c1, mj_c2, mj_ar, mj_aw, mq_cb, mq_oi, mj_rm, Value.category, -getElem?_pos, List.getElem?_cons_zero, decide_eq_true, decide_eq_false, nl_lt, nl_le, ln_lt, ln_le, nl_eq, ln_eq, nl_add, ln_add, nl_sub, ln_mul, nI_sub, nI_mul, nI_add, nI_lt_iff, nI_le_iff, nI_inj, nI_num, mq_ix, nI_1, nl_mul, nl_div, hob, hca, v1, v2, narrow]
    · have kk : fs_kl 1 n = true ↔ 4 ≤ n ∧ n ≤ 4 := by simp [fs_kl]; try omega
      rw [kk] at z0 z1
      by_cases l1 : n < 4
      · rw [z0 (by omega)]; simp (disch := (first | omega | decide)) [c51, s51_0, s51_1, s51_4, s51_7, s51_8, s51_9, s51_10, s51_11, s51_12, s51_13, s51_14, s51_17, s51_20, s51_21, s51_22, s51_23, s51_26, s51_27, s51_30, s51_31, s51_32, s51_35, s51_36, s51_37, s51_38, s51_41, s51_43, s51_44, s51_45, s51_48, s51_49, s51_52, s51_53, s51_56, s51_57, s51_60, s51_61, s51_64, s51_65, s51_66, s51_68, s51_71, s51_72, s51_73, s51_76, s51_78, s51_81, s51_82, s51_83, s51_86, s51_87, s51_89, s51_90, s51_91, s51_92, s51_95, s51_98, s51_99, s51_100, s51_101, s51_104, s51_105, s51_106, s51_107, s51_109, s51_110, s51_111, s51_114, s51_115, s51_118, s51_119, s51_120, s51_122, s51_123, s51_126, s51_127, s51_128, s51_131, s51_133, s51_134, s51_135, s51_138, s51_139, mq_k0s, mq_k1s, mq_k2s, mq_k4s, mq_k5s, mq_k5n, mq_k5as, mq_k6s, mj_pu, mj_lo, mj_br, mj_hr, mj_hw, mq_gf, mq_len, mq_al, mq_pf, mq_ok, mj_re, mq_lkm, mq_lkn, mj_ldi, mj_ldl, mj_lda, mj_ii, mj_ll, mj_li, mj_i1, ms_1, ms_2, f1_n, f1_i, f1_r, f1_u, f1_l, f2_n, f2_i, f2_r, f2_u, f2_l, mj_tg, mj_c1, mj_c2, mj_ar, mj_aw, mq_cb, mq_oi, mj_rm, Value.category, -getElem?_pos, List.getElem?_cons_zero, decide_eq_true, decide_eq_false, nl_lt, nl_le, ln_lt, ln_le, nl_eq, ln_eq, nl_add, ln_add, nl_sub, ln_mul, nI_sub, nI_mul, nI_add, nI_lt_iff, nI_le_iff, nI_inj, nI_num, mq_ix, nI_1, nl_mul, nl_div, hob, hca, v1, v2, s1, s2, l1, narrow]
      · by_cases l2 : 4 < n
        · rw [z0 (by omega)]; simp (disch := (first | omega | decide)) [c51, s51_0, s51_1, s51_4, s51_7, s51_8, s51_9, s51_10, s51_11, s51_12, s51_13, s51_14, s51_17, s51_20, s51_21, s51_22, s51_23, s51_26, s51_27, s51_30, s51_31, s51_32, s51_35, s51_36, s51_37, s51_38, s51_41, s51_43, s51_44, s51_45, s51_48, s51_49, s51_52, s51_53, s51_56, s51_57, s51_60, s51_61, s51_64, s51_65, s51_66, s51_68, s51_71, s51_72, s51_73, s51_76, s51_78, s51_81, s51_82, s51_83, s51_86, s51_87, s51_89, s51_90, s51_91, s51_92, s51_95, s51_98, s51_99, s51_100, s51_101, s51_104, s51_105, s51_106, s51_107, s51_109, s51_110, s51_111, s51_114, s51_115, s51_118, s51_119, s51_120, s51_122, s51_123, s51_126, s51_127, s51_128, s51_131, s51_133, s51_134, s51_135, s51_138, s51_139, mq_k0s, mq_k1s, mq_k2s, mq_k4s, mq_k5s, mq_k5n, mq_k5as, mq_k6s, mj_pu, mj_lo, mj_br, mj_hr, mj_hw, mq_gf, mq_len, mq_al, mq_pf, mq_ok, mj_re, mq_lkm, mq_lkn, mj_ldi, mj_ldl, mj_lda, mj_ii, mj_ll, mj_li, mj_i1, ms_1, ms_2, f1_n, f1_i, f1_r, f1_u, f1_l, f2_n, f2_i, f2_r, f2_u, f2_l, mj_tg, mj_c1, mj_c2, mj_ar, mj_aw, mq_cb, mq_oi, mj_rm, Value.category, -getElem?_pos, List.getElem?_cons_zero, decide_eq_true, decide_eq_false, nl_lt, nl_le, ln_lt, ln_le, nl_eq, ln_eq, nl_add, ln_add, nl_sub, ln_mul, nI_sub, nI_mul, nI_add, nI_lt_iff, nI_le_iff, nI_inj, nI_num, mq_ix, nI_1, nl_mul, nl_div, hob, hca, v1, v2, s1, s2, l1, l2, narrow]
        · by_cases hb : p + n + 4 ≤ 256
          · by_cases hq : w1 = w2.toInt64
            · rw [z1 ⟨hb, ⟨by omega, by omega⟩, hq⟩]; simp (disch := (first | omega | decide)) [c51, s51_0, s51_1, s51_4, s51_7, s51_8, s51_9, s51_10, s51_11, s51_12, s51_13, s51_14, s51_17, s51_20, s51_21, s51_22, s51_23, s51_26, s51_27, s51_30, s51_31, s51_32, s51_35, s51_36, s51_37, s51_38, s51_41, s51_43, s51_44, s51_45, s51_48, s51_49, s51_52, s51_53, s51_56, s51_57, s51_60, s51_61, s51_64, s51_65, s51_66, s51_68, s51_71, s51_72, s51_73, s51_76, s51_78, s51_81, s51_82, s51_83, s51_86, s51_87, s51_89, s51_90, s51_91, s51_92, s51_95, s51_98, s51_99, s51_100, s51_101, s51_104, s51_105, s51_106, s51_107, s51_109, s51_110, s51_111, s51_114, s51_115, s51_118, s51_119, s51_120, s51_122, s51_123, s51_126, s51_127, s51_128, s51_131, s51_133, s51_134, s51_135, s51_138, s51_139, mq_k0s, mq_k1s, mq_k2s, mq_k4s, mq_k5s, mq_k5n, mq_k5as, mq_k6s, mj_pu, mj_lo, mj_br, mj_hr, mj_hw, mq_gf, mq_len, mq_al, mq_pf, mq_ok, mj_re, mq_lkm, mq_lkn, mj_ldi, mj_ldl, mj_lda, mj_ii, mj_ll, mj_li, mj_i1, ms_1, ms_2, f1_n, f1_i, f1_r, f1_u, f1_l, f2_n, f2_i, f2_r, f2_u, f2_l, mj_tg, mj_c1, mj_c2, mj_ar, mj_aw, mq_cb, mq_oi, mj_rm, Value.category, -getElem?_pos, List.getElem?_cons_zero, decide_eq_true, decide_eq_false, nl_lt, nl_le, ln_lt, ln_le, nl_eq, ln_eq, nl_add, ln_add, nl_sub, ln_mul, nI_sub, nI_mul, nI_add, nI_lt_iff, nI_le_iff, nI_inj, nI_num, mq_ix, nI_1, nl_mul, nl_div, nL_lt, nL_le, nL_eq, nL_l, nL_i, nLl_lt, nLl_le, nLl_eq, lnL_lt, lnL_le, lg_cmp_ge, lg_cmp_le, lg_cmp_gt, lg_cmp_lt, lg_cmp_eq, hob, hca, v1, v2, s1, s2, l1, l2, hb, hq, p1, p2, narrow]
            · rw [z0 (fun z => hq z.2.2)]; simp (disch := (first | omega | decide)) [c51, s51_0, s51_1, s51_4, s51_7, s51_8, s51_9, s51_10, s51_11, s51_12, s51_13, s51_14, s51_17, s51_20, s51_21, s51_22, s51_23, s51_26, s51_27, s51_30, s51_31, s51_32, s51_35, s51_36, s51_37, s51_38, s51_41, s51_43, s51_44, s51_45, s51_48, s51_49, s51_52, s51_53, s51_56, s51_57, s51_60, s51_61, s51_64, s51_65, s51_66, s51_68, s51_71, s51_72, s51_73, s51_76, s51_78, s51_81, s51_82, s51_83, s51_86, s51_87, s51_89, s51_90, s51_91, s51_92, s51_95, s51_98, s51_99, s51_100, s51_101, s51_104, s51_105, s51_106, s51_107, s51_109, s51_110, s51_111, s51_114, s51_115, s51_118, s51_119, s51_120, s51_122, s51_123, s51_126, s51_127, s51_128, s51_131, s51_133, s51_134, s51_135, s51_138, s51_139, mq_k0s, mq_k1s, mq_k2s, mq_k4s, mq_k5s, mq_k5n, mq_k5as, mq_k6s, mj_pu, mj_lo, mj_br, mj_hr, mj_hw, mq_gf, mq_len, mq_al, mq_pf, mq_ok, mj_re, mq_lkm, mq_lkn, mj_ldi, mj_ldl, mj_lda, mj_ii, mj_ll, mj_li, mj_i1, ms_1, ms_2, f1_n, f1_i, f1_r, f1_u, f1_l, f2_n, f2_i, f2_r, f2_u, f2_l, mj_tg, mj_c1, mj_c2, mj_ar, mj_aw, mq_cb, mq_oi, mj_rm, Value.category, -getElem?_pos, List.getElem?_cons_zero, decide_eq_true, decide_eq_false, nl_lt, nl_le, ln_lt, ln_le, nl_eq, ln_eq, nl_add, ln_add, nl_sub, ln_mul, nI_sub, nI_mul, nI_add, nI_lt_iff, nI_le_iff, nI_inj, nI_num, mq_ix, nI_1, nl_mul, nl_div, nL_lt, nL_le, nL_eq, nL_l, nL_i, nLl_lt, nLl_le, nLl_eq, lnL_lt, lnL_le, lg_cmp_ge, lg_cmp_le, lg_cmp_gt, lg_cmp_lt, lg_cmp_eq, hob, hca, v1, v2, s1, s2, l1, l2, hb, hq, p1, p2, narrow]
          · rw [z0 (by omega)]; simp (disch := (first | omega | decide)) [c51, s51_0, s51_1, s51_4, s51_7, s51_8, s51_9, s51_10, s51_11, s51_12, s51_13, s51_14, s51_17, s51_20, s51_21, s51_22, s51_23, s51_26, s51_27, s51_30, s51_31, s51_32, s51_35, s51_36, s51_37, s51_38, s51_41, s51_43, s51_44, s51_45, s51_48, s51_49, s51_52, s51_53, s51_56, s51_57, s51_60, s51_61, s51_64, s51_65, s51_66, s51_68, s51_71, s51_72, s51_73, s51_76, s51_78, s51_81, s51_82, s51_83, s51_86, s51_87, s51_89, s51_90, s51_91, s51_92, s51_95, s51_98, s51_99, s51_100, s51_101, s51_104, s51_105, s51_106, s51_107, s51_109, s51_110, s51_111, s51_114, s51_115, s51_118, s51_119, s51_120, s51_122, s51_123, s51_126, s51_127, s51_128, s51_131, s51_133, s51_134, s51_135, s51_138, s51_139, mq_k0s, mq_k1s, mq_k2s, mq_k4s, mq_k5s, mq_k5n, mq_k5as, mq_k6s, mj_pu, mj_lo, mj_br, mj_hr, mj_hw, mq_gf, mq_len, mq_al, mq_pf, mq_ok, mj_re, mq_lkm, mq_lkn, mj_ldi, mj_ldl, mj_lda, mj_ii, mj_ll, mj_li, mj_i1, ms_1, ms_2, f1_n, f1_i, f1_r, f1_u, f1_l, f2_n, f2_i, f2_r, f2_u, f2_l, mj_tg, mj_c1, mj_c2, mj_ar, mj_aw, mq_cb, mq_oi, mj_rm, Value.category, -getElem?_pos, List.getElem?_cons_zero, decide_eq_true, decide_eq_false, nl_lt, nl_le, ln_lt, ln_le, nl_eq, ln_eq, nl_add, ln_add, nl_sub, ln_mul, nI_sub, nI_mul, nI_add, nI_lt_iff, nI_le_iff, nI_inj, nI_num, mq_ix, nI_1, nl_mul, nl_div, hob, hca, v1, v2, s1, s2, l1, l2, hb, narrow]
    · have kk : fs_kl 2 n = true ↔ 4 ≤ n ∧ n ≤ 4 := by simp [fs_kl]; try omega
      rw [kk] at z0 z1
      by_cases l1 : n < 4
      · rw [z0 (by omega)]; simp (disch := (first | omega | decide)) [c51, s51_0, s51_1, s51_4, s51_7, s51_8, s51_9, s51_10, s51_11, s51_12, s51_13, s51_14, s51_17, s51_20, s51_21, s51_22, s51_23, s51_26, s51_27, s51_30, s51_31, s51_32, s51_35, s51_36, s51_37, s51_38, s51_41, s51_43, s51_44, s51_45, s51_48, s51_49, s51_52, s51_53, s51_56, s51_57, s51_60, s51_61, s51_64, s51_65, s51_66, s51_68, s51_71, s51_72, s51_73, s51_76, s51_78, s51_81, s51_82, s51_83, s51_86, s51_87, s51_89, s51_90, s51_91, s51_92, s51_95, s51_98, s51_99, s51_100, s51_101, s51_104, s51_105, s51_106, s51_107, s51_109, s51_110, s51_111, s51_114, s51_115, s51_118, s51_119, s51_120, s51_122, s51_123, s51_126, s51_127, s51_128, s51_131, s51_133, s51_134, s51_135, s51_138, s51_139, mq_k0s, mq_k1s, mq_k2s, mq_k4s, mq_k5s, mq_k5n, mq_k5as, mq_k6s, mj_pu, mj_lo, mj_br, mj_hr, mj_hw, mq_gf, mq_len, mq_al, mq_pf, mq_ok, mj_re, mq_lkm, mq_lkn, mj_ldi, mj_ldl, mj_lda, mj_ii, mj_ll, mj_li, mj_i1, ms_1, ms_2, f1_n, f1_i, f1_r, f1_u, f1_l, f2_n, f2_i, f2_r, f2_u, f2_l, mj_tg, mj_c1, mj_c2, mj_ar, mj_aw, mq_cb, mq_oi, mj_rm, Value.category, -getElem?_pos, List.getElem?_cons_zero, decide_eq_true, decide_eq_false, nl_lt, nl_le, ln_lt, ln_le, nl_eq, ln_eq, nl_add, ln_add, nl_sub, ln_mul, nI_sub, nI_mul, nI_add, nI_lt_iff, nI_le_iff, nI_inj, nI_num, mq_ix, nI_1, nl_mul, nl_div, hob, hca, v1, v2, s1, s2, l1, narrow]
      · by_cases l2 : 4 < n
        · rw [z0 (by omega)]; simp (disch := (first | omega | decide)) [c51, s51_0, s51_1, s51_4, s51_7, s51_8, s51_9, s51_10, s51_11, s51_12, s51_13, s51_14, s51_17, s51_20, s51_21, s51_22, s51_23, s51_26, s51_27, s51_30, s51_31, s51_32, s51_35, s51_36, s51_37, s51_38, s51_41, s51_43, s51_44, s51_45, s51_48, s51_49, s51_52, s51_53, s51_56, s51_57, s51_60, s51_61, s51_64, s51_65, s51_66, s51_68, s51_71, s51_72, s51_73, s51_76, s51_78, s51_81, s51_82, s51_83, s51_86, s51_87, s51_89, s51_90, s51_91, s51_92, s51_95, s51_98, s51_99, s51_100, s51_101, s51_104, s51_105, s51_106, s51_107, s51_109, s51_110, s51_111, s51_114, s51_115, s51_118, s51_119, s51_120, s51_122, s51_123, s51_126, s51_127, s51_128, s51_131, s51_133, s51_134, s51_135, s51_138, s51_139, mq_k0s, mq_k1s, mq_k2s, mq_k4s, mq_k5s, mq_k5n, mq_k5as, mq_k6s, mj_pu, mj_lo, mj_br, mj_hr, mj_hw, mq_gf, mq_len, mq_al, mq_pf, mq_ok, mj_re, mq_lkm, mq_lkn, mj_ldi, mj_ldl, mj_lda, mj_ii, mj_ll, mj_li, mj_i1, ms_1, ms_2, f1_n, f1_i, f1_r, f1_u, f1_l, f2_n, f2_i, f2_r, f2_u, f2_l, mj_tg, mj_c1, mj_c2, mj_ar, mj_aw, mq_cb, mq_oi, mj_rm, Value.category, -getElem?_pos, List.getElem?_cons_zero, decide_eq_true, decide_eq_false, nl_lt, nl_le, ln_lt, ln_le, nl_eq, ln_eq, nl_add, ln_add, nl_sub, ln_mul, nI_sub, nI_mul, nI_add, nI_lt_iff, nI_le_iff, nI_inj, nI_num, mq_ix, nI_1, nl_mul, nl_div, hob, hca, v1, v2, s1, s2, l1, l2, narrow]
        · by_cases hb : p + n + 4 ≤ 256
          · by_cases hq : w1 = w2.toInt64
            · rw [z1 ⟨hb, ⟨by omega, by omega⟩, hq⟩]; simp (disch := (first | omega | decide)) [c51, s51_0, s51_1, s51_4, s51_7, s51_8, s51_9, s51_10, s51_11, s51_12, s51_13, s51_14, s51_17, s51_20, s51_21, s51_22, s51_23, s51_26, s51_27, s51_30, s51_31, s51_32, s51_35, s51_36, s51_37, s51_38, s51_41, s51_43, s51_44, s51_45, s51_48, s51_49, s51_52, s51_53, s51_56, s51_57, s51_60, s51_61, s51_64, s51_65, s51_66, s51_68, s51_71, s51_72, s51_73, s51_76, s51_78, s51_81, s51_82, s51_83, s51_86, s51_87, s51_89, s51_90, s51_91, s51_92, s51_95, s51_98, s51_99, s51_100, s51_101, s51_104, s51_105, s51_106, s51_107, s51_109, s51_110, s51_111, s51_114, s51_115, s51_118, s51_119, s51_120, s51_122, s51_123, s51_126, s51_127, s51_128, s51_131, s51_133, s51_134, s51_135, s51_138, s51_139, mq_k0s, mq_k1s, mq_k2s, mq_k4s, mq_k5s, mq_k5n, mq_k5as, mq_k6s, mj_pu, mj_lo, mj_br, mj_hr, mj_hw, mq_gf, mq_len, mq_al, mq_pf, mq_ok, mj_re, mq_lkm, mq_lkn, mj_ldi, mj_ldl, mj_lda, mj_ii, mj_ll, mj_li, mj_i1, ms_1, ms_2, f1_n, f1_i, f1_r, f1_u, f1_l, f2_n, f2_i, f2_r, f2_u, f2_l, mj_tg, mj_c1, mj_c2, mj_ar, mj_aw, mq_cb, mq_oi, mj_rm, Value.category, -getElem?_pos, List.getElem?_cons_zero, decide_eq_true, decide_eq_false, nl_lt, nl_le, ln_lt, ln_le, nl_eq, ln_eq, nl_add, ln_add, nl_sub, ln_mul, nI_sub, nI_mul, nI_add, nI_lt_iff, nI_le_iff, nI_inj, nI_num, mq_ix, nI_1, nl_mul, nl_div, nL_lt, nL_le, nL_eq, nL_l, nL_i, nLl_lt, nLl_le, nLl_eq, lnL_lt, lnL_le, lg_cmp_ge, lg_cmp_le, lg_cmp_gt, lg_cmp_lt, lg_cmp_eq, hob, hca, v1, v2, s1, s2, l1, l2, hb, hq, p1, p2, narrow]
            · rw [z0 (fun z => hq z.2.2)]; simp (disch := (first | omega | decide)) [c51, s51_0, s51_1, s51_4, s51_7, s51_8, s51_9, s51_10, s51_11, s51_12, s51_13, s51_14, s51_17, s51_20, s51_21, s51_22, s51_23, s51_26, s51_27, s51_30, s51_31, s51_32, s51_35, s51_36, s51_37, s51_38, s51_41, s51_43, s51_44, s51_45, s51_48, s51_49, s51_52, s51_53, s51_56, s51_57, s51_60, s51_61, s51_64, s51_65, s51_66, s51_68, s51_71, s51_72, s51_73, s51_76, s51_78, s51_81, s51_82, s51_83, s51_86, s51_87, s51_89, s51_90, s51_91, s51_92, s51_95, s51_98, s51_99, s51_100, s51_101, s51_104, s51_105, s51_106, s51_107, s51_109, s51_110, s51_111, s51_114, s51_115, s51_118, s51_119, s51_120, s51_122, s51_123, s51_126, s51_127, s51_128, s51_131, s51_133, s51_134, s51_135, s51_138, s51_139, mq_k0s, mq_k1s, mq_k2s, mq_k4s, mq_k5s, mq_k5n, mq_k5as, mq_k6s, mj_pu, mj_lo, mj_br, mj_hr, mj_hw, mq_gf, mq_len, mq_al, mq_pf, mq_ok, mj_re, mq_lkm, mq_lkn, mj_ldi, mj_ldl, mj_lda, mj_ii, mj_ll, mj_li, mj_i1, ms_1, ms_2, f1_n, f1_i, f1_r, f1_u, f1_l, f2_n, f2_i, f2_r, f2_u, f2_l, mj_tg, mj_c1, mj_c2, mj_ar, mj_aw, mq_cb, mq_oi, mj_rm, Value.category, -getElem?_pos, List.getElem?_cons_zero, decide_eq_true, decide_eq_false, nl_lt, nl_le, ln_lt, ln_le, nl_eq, ln_eq, nl_add, ln_add, nl_sub, ln_mul, nI_sub, nI_mul, nI_add, nI_lt_iff, nI_le_iff, nI_inj, nI_num, mq_ix, nI_1, nl_mul, nl_div, nL_lt, nL_le, nL_eq, nL_l, nL_i, nLl_lt, nLl_le, nLl_eq, lnL_lt, lnL_le, lg_cmp_ge, lg_cmp_le, lg_cmp_gt, lg_cmp_lt, lg_cmp_eq, hob, hca, v1, v2, s1, s2, l1, l2, hb, hq, p1, p2, narrow]
          · rw [z0 (by omega)]; simp (disch := (first | omega | decide)) [c51, s51_0, s51_1, s51_4, s51_7, s51_8, s51_9, s51_10, s51_11, s51_12, s51_13, s51_14, s51_17, s51_20, s51_21, s51_22, s51_23, s51_26, s51_27, s51_30, s51_31, s51_32, s51_35, s51_36, s51_37, s51_38, s51_41, s51_43, s51_44, s51_45, s51_48, s51_49, s51_52, s51_53, s51_56, s51_57, s51_60, s51_61, s51_64, s51_65, s51_66, s51_68, s51_71, s51_72, s51_73, s51_76, s51_78, s51_81, s51_82, s51_83, s51_86, s51_87, s51_89, s51_90, s51_91, s51_92, s51_95, s51_98, s51_99, s51_100, s51_101, s51_104, s51_105, s51_106, s51_107, s51_109, s51_110, s51_111, s51_114, s51_115, s51_118, s51_119, s51_120, s51_122, s51_123, s51_126, s51_127, s51_128, s51_131, s51_133, s51_134, s51_135, s51_138, s51_139, mq_k0s, mq_k1s, mq_k2s, mq_k4s, mq_k5s, mq_k5n, mq_k5as, mq_k6s, mj_pu, mj_lo, mj_br, mj_hr, mj_hw, mq_gf, mq_len, mq_al, mq_pf, mq_ok, mj_re, mq_lkm, mq_lkn, mj_ldi, mj_ldl, mj_lda, mj_ii, mj_ll, mj_li, mj_i1, ms_1, ms_2, f1_n, f1_i, f1_r, f1_u, f1_l, f2_n, f2_i, f2_r, f2_u, f2_l, mj_tg, mj_c1, mj_c2, mj_ar, mj_aw, mq_cb, mq_oi, mj_rm, Value.category, -getElem?_pos, List.getElem?_cons_zero, decide_eq_true, decide_eq_false, nl_lt, nl_le, ln_lt, ln_le, nl_eq, ln_eq, nl_add, ln_add, nl_sub, ln_mul, nI_sub, nI_mul, nI_add, nI_lt_iff, nI_le_iff, nI_inj, nI_num, mq_ix, nI_1, nl_mul, nl_div, hob, hca, v1, v2, s1, s2, l1, l2, hb, narrow]
    · have kk : fs_kl 3 n = true ↔ 1 ≤ n ∧ n ≤ 1 := by simp [fs_kl]; try omega
      rw [kk] at z0 z1
      by_cases l1 : n < 1
      · rw [z0 (by omega)]; simp (disch := (first | omega | decide)) [c51, s51_0, s51_1, s51_4, s51_7, s51_8, s51_9, s51_10, s51_11, s51_12, s51_13, s51_14, s51_17, s51_20, s51_21, s51_22, s51_23, s51_26, s51_27, s51_30, s51_31, s51_32, s51_35, s51_36, s51_37, s51_38, s51_41, s51_43, s51_44, s51_45, s51_48, s51_49, s51_52, s51_53, s51_56, s51_57, s51_60, s51_61, s51_64, s51_65, s51_66, s51_68, s51_71, s51_72, s51_73, s51_76, s51_78, s51_81, s51_82, s51_83, s51_86, s51_87, s51_89, s51_90, s51_91, s51_92, s51_95, s51_98, s51_99, s51_100, s51_101, s51_104, s51_105, s51_106, s51_107, s51_109, s51_110, s51_111, s51_114, s51_115, s51_118, s51_119, s51_120, s51_122, s51_123, s51_126, s51_127, s51_128, s51_131, s51_133, s51_134, s51_135, s51_138, s51_139, mq_k0s, mq_k1s, mq_k2s, mq_k4s, mq_k5s, mq_k5n, mq_k5as, mq_k6s, mj_pu, mj_lo, mj_br, mj_hr, mj_hw, mq_gf, mq_len, mq_al, mq_pf, mq_ok, mj_re, mq_lkm, mq_lkn, mj_ldi, mj_ldl, mj_lda, mj_ii, mj_ll, mj_li, mj_i1, ms_1, ms_2, f1_n, f1_i, f1_r, f1_u, f1_l, f2_n, f2_i, f2_r, f2_u, f2_l, mj_tg, mj_c1, mj_c2, mj_ar, mj_aw, mq_cb, mq_oi, mj_rm, Value.category, -getElem?_pos, List.getElem?_cons_zero, decide_eq_true, decide_eq_false, nl_lt, nl_le, ln_lt, ln_le, nl_eq, ln_eq, nl_add, ln_add, nl_sub, ln_mul, nI_sub, nI_mul, nI_add, nI_lt_iff, nI_le_iff, nI_inj, nI_num, mq_ix, nI_1, nl_mul, nl_div, hob, hca, v1, v2, s1, s2, l1, narrow]
      · by_cases l2 : 1 < n
        · rw [z0 (by omega)]; simp (disch := (first | omega | decide)) [c51, s51_0, s51_1, s51_4, s51_7, s51_8, s51_9, s51_10, s51_11, s51_12, s51_13, s51_14, s51_17, s51_20, s51_21, s51_22, s51_23, s51_26, s51_27, s51_30, s51_31, s51_32, s51_35, s51_36, s51_37, s51_38, s51_41, s51_43, s51_44, s51_45, s51_48, s51_49, s51_52, s51_53, s51_56, s51_57, s51_60, s51_61, s51_64, s51_65, s51_66, s51_68, s51_71, s51_72, s51_73, s51_76, s51_78, s51_81, s51_82, s51_83, s51_86, s51_87, s51_89, s51_90, s51_91, s51_92, s51_95, s51_98, s51_99, s51_100, s51_101, s51_104, s51_105, s51_106, s51_107, s51_109, s51_110, s51_111, s51_114, s51_115, s51_118, s51_119, s51_120, s51_122, s51_123, s51_126, s51_127, s51_128, s51_131, s51_133, s51_134, s51_135, s51_138, s51_139, mq_k0s, mq_k1s, mq_k2s, mq_k4s, mq_k5s, mq_k5n, mq_k5as, mq_k6s, mj_pu, mj_lo, mj_br, mj_hr, mj_hw, mq_gf, mq_len, mq_al, mq_pf, mq_ok, mj_re, mq_lkm, mq_lkn, mj_ldi, mj_ldl, mj_lda, mj_ii, mj_ll, mj_li, mj_i1, ms_1, ms_2, f1_n, f1_i, f1_r, f1_u, f1_l, f2_n, f2_i, f2_r, f2_u, f2_l, mj_tg, mj_c1, mj_c2, mj_ar, mj_aw, mq_cb, mq_oi, mj_rm, Value.category, -getElem?_pos, List.getElem?_cons_zero, decide_eq_true, decide_eq_false, nl_lt, nl_le, ln_lt, ln_le, nl_eq, ln_eq, nl_add, ln_add, nl_sub, ln_mul, nI_sub, nI_mul, nI_add, nI_lt_iff, nI_le_iff, nI_inj, nI_num, mq_ix, nI_1, nl_mul, nl_div, hob, hca, v1, v2, s1, s2, l1, l2, narrow]
        · by_cases hb : p + n + 4 ≤ 256
          · by_cases hq : w1 = w2.toInt64
            · rw [z1 ⟨hb, ⟨by omega, by omega⟩, hq⟩]; simp (disch := (first | omega | decide)) [c51, s51_0, s51_1, s51_4, s51_7, s51_8, s51_9, s51_10, s51_11, s51_12, s51_13, s51_14, s51_17, s51_20, s51_21, s51_22, s51_23, s51_26, s51_27, s51_30, s51_31, s51_32, s51_35, s51_36, s51_37, s51_38, s51_41, s51_43, s51_44, s51_45, s51_48, s51_49, s51_52, s51_53, s51_56, s51_57, s51_60, s51_61, s51_64, s51_65, s51_66, s51_68, s51_71, s51_72, s51_73, s51_76, s51_78, s51_81, s51_82, s51_83, s51_86, s51_87, s51_89, s51_90, s51_91, s51_92, s51_95, s51_98, s51_99, s51_100, s51_101, s51_104, s51_105, s51_106, s51_107, s51_109, s51_110, s51_111, s51_114, s51_115, s51_118, s51_119, s51_120, s51_122, s51_123, s51_126, s51_127, s51_128, s51_131, s51_133, s51_134, s51_135, s51_138, s51_139, mq_k0s, mq_k1s, mq_k2s, mq_k4s, mq_k5s, mq_k5n, mq_k5as, mq_k6s, mj_pu, mj_lo, mj_br, mj_hr, mj_hw, mq_gf, mq_len, mq_al, mq_pf, mq_ok, mj_re, mq_lkm, mq_lkn, mj_ldi, mj_ldl, mj_lda, mj_ii, mj_ll, mj_li, mj_i1, ms_1, ms_2, f1_n, f1_i, f1_r, f1_u, f1_l, f2_n, f2_i, f2_r, f2_u, f2_l, mj_tg, mj_c1, mj_c2, mj_ar, mj_aw, mq_cb, mq_oi, mj_rm, Value.category, -getElem?_pos, List.getElem?_cons_zero, decide_eq_true, decide_eq_false, nl_lt, nl_le, ln_lt, ln_le, nl_eq, ln_eq, nl_add, ln_add, nl_sub, ln_mul, nI_sub, nI_mul, nI_add, nI_lt_iff, nI_le_iff, nI_inj, nI_num, mq_ix, nI_1, nl_mul, nl_div, nL_lt, nL_le, nL_eq, nL_l, nL_i, nLl_lt, nLl_le, nLl_eq, lnL_lt, lnL_le, lg_cmp_ge, lg_cmp_le, lg_cmp_gt, lg_cmp_lt, lg_cmp_eq, hob, hca, v1, v2, s1, s2, l1, l2, hb, hq, p1, p2, narrow]
            · rw [z0 (fun z => hq z.2.2)]; simp (disch := (first | omega | decide)) [c51, s51_0, s51_1, s51_4, s51_7, s51_8, s51_9, s51_10, s51_11, s51_12, s51_13, s51_14, s51_17, s51_20, s51_21, s51_22, s51_23, s51_26, s51_27, s51_30, s51_31, s51_32, s51_35, s51_36, s51_37, s51_38, s51_41, s51_43, s51_44, s51_45, s51_48, s51_49, s51_52, s51_53, s51_56, s51_57, s51_60, s51_61, s51_64, s51_65, s51_66, s51_68, s51_71, s51_72, s51_73, s51_76, s51_78, s51_81, s51_82, s51_83, s51_86, s51_87, s51_89, s51_90, s51_91, s51_92, s51_95, s51_98, s51_99, s51_100, s51_101, s51_104, s51_105, s51_106, s51_107, s51_109, s51_110, s51_111, s51_114, s51_115, s51_118, s51_119, s51_120, s51_122, s51_123, s51_126, s51_127, s51_128, s51_131, s51_133, s51_134, s51_135, s51_138, s51_139, mq_k0s, mq_k1s, mq_k2s, mq_k4s, mq_k5s, mq_k5n, mq_k5as, mq_k6s, mj_pu, mj_lo, mj_br, mj_hr, mj_hw, mq_gf, mq_len, mq_al, mq_pf, mq_ok, mj_re, mq_lkm, mq_lkn, mj_ldi, mj_ldl, mj_lda, mj_ii, mj_ll, mj_li, mj_i1, ms_1, ms_2, f1_n, f1_i, f1_r, f1_u, f1_l, f2_n, f2_i, f2_r, f2_u, f2_l, mj_tg, mj_c1, mj_c2, mj_ar, mj_aw, mq_cb, mq_oi, mj_rm, Value.category, -getElem?_pos, List.getElem?_cons_zero, decide_eq_true, decide_eq_false, nl_lt, nl_le, ln_lt, ln_le, nl_eq, ln_eq, nl_add, ln_add, nl_sub, ln_mul, nI_sub, nI_mul, nI_add, nI_lt_iff, nI_le_iff, nI_inj, nI_num, mq_ix, nI_1, nl_mul, nl_div, nL_lt, nL_le, nL_eq, nL_l, nL_i, nLl_lt, nLl_le, nLl_eq, lnL_lt, lnL_le, lg_cmp_ge, lg_cmp_le, lg_cmp_gt, lg_cmp_lt, lg_cmp_eq, hob, hca, v1, v2, s1, s2, l1, l2, hb, hq, p1, p2, narrow]
          · rw [z0 (by omega)]; simp (disch := (first | omega | decide)) [c51, s51_0, s51_1, s51_4, s51_7, s51_8, s51_9, s51_10, s51_11, s51_12, s51_13, s51_14, s51_17, s51_20, s51_21, s51_22, s51_23, s51_26, s51_27, s51_30, s51_31, s51_32, s51_35, s51_36, s51_37, s51_38, s51_41, s51_43, s51_44, s51_45, s51_48, s51_49, s51_52, s51_53, s51_56, s51_57, s51_60, s51_61, s51_64, s51_65, s51_66, s51_68, s51_71, s51_72, s51_73, s51_76, s51_78, s51_81, s51_82, s51_83, s51_86, s51_87, s51_89, s51_90, s51_91, s51_92, s51_95, s51_98, s51_99, s51_100, s51_101, s51_104, s51_105, s51_106, s51_107, s51_109, s51_110, s51_111, s51_114, s51_115, s51_118, s51_119, s51_120, s51_122, s51_123, s51_126, s51_127, s51_128, s51_131, s51_133, s51_134, s51_135, s51_138, s51_139, mq_k0s, mq_k1s, mq_k2s, mq_k4s, mq_k5s, mq_k5n, mq_k5as, mq_k6s, mj_pu, mj_lo, mj_br, mj_hr, mj_hw, mq_gf, mq_len, mq_al, mq_pf, mq_ok, mj_re, mq_lkm, mq_lkn, mj_ldi, mj_ldl, mj_lda, mj_ii, mj_ll, mj_li, mj_i1, ms_1, ms_2, f1_n, f1_i, f1_r, f1_u, f1_l, f2_n, f2_i, f2_r, f2_u, f2_l, mj_tg, mj_c1, mj_c2, mj_ar, mj_aw, mq_cb, mq_oi, mj_rm, Value.category, -getElem?_pos, List.getElem?_cons_zero, decide_eq_true, decide_eq_false, nl_lt, nl_le, ln_lt, ln_le, nl_eq, ln_eq, nl_add, ln_add, nl_sub, ln_mul, nI_sub, nI_mul, nI_add, nI_lt_iff, nI_le_iff, nI_inj, nI_num, mq_ix, nI_1, nl_mul, nl_div, hob, hca, v1, v2, s1, s2, l1, l2, hb, narrow]
    · have kk : fs_kl 4 n = true ↔ 8 ≤ n ∧ n ≤ 8 := by simp [fs_kl]; try omega
      rw [kk] at z0 z1
      by_cases l1 : n < 8
      · rw [z0 (by omega)]; simp (disch := (first | omega | decide)) [c51, s51_0, s51_1, s51_4, s51_7, s51_8, s51_9, s51_10, s51_11, s51_12, s51_13, s51_14, s51_17, s51_20, s51_21, s51_22, s51_23, s51_26, s51_27, s51_30, s51_31, s51_32, s51_35, s51_36, s51_37, s51_38, s51_41, s51_43, s51_44, s51_45, s51_48, s51_49, s51_52, s51_53, s51_56, s51_57, s51_60, s51_61, s51_64, s51_65, s51_66, s51_68, s51_71, s51_72, s51_73, s51_76, s51_78, s51_81, s51_82, s51_83, s51_86, s51_87, s51_89, s51_90, s51_91, s51_92, s51_95, s51_98, s51_99, s51_100, s51_101, s51_104, s51_105, s51_106, s51_107, s51_109, s51_110, s51_111, s51_114, s51_115, s51_118, s51_119, s51_120, s51_122, s51_123, s51_126, s51_127, s51_128, s51_131, s51_133, s51_134, s51_135, s51_138, s51_139, mq_k0s, mq_k1s, mq_k2s, mq_k4s, mq_k5s, mq_k5n, mq_k5as, mq_k6s, mj_pu, mj_lo, mj_br, mj_hr, mj_hw, mq_gf, mq_len, mq_al, mq_pf, mq_ok, mj_re, mq_lkm, mq_lkn, mj_ldi, mj_ldl, mj_lda, mj_ii, mj_ll, mj_li, mj_i1, ms_1, ms_2, f1_n, f1_i, f1_r, f1_u, f1_l, f2_n, f2_i, f2_r, f2_u, f2_l, mj_tg, mj_c1, mj_c2, mj_ar, mj_aw, mq_cb, mq_oi, mj_rm, Value.category, -getElem?_pos, List.getElem?_cons_zero, decide_eq_true, decide_eq_false, nl_lt, nl_le, ln_lt, ln_le, nl_eq, ln_eq, nl_add, ln_add, nl_sub, ln_mul, nI_sub, nI_mul, nI_add, nI_lt_iff, nI_le_iff, nI_inj, nI_num, mq_ix, nI_1, nl_mul, nl_div, hob, hca, v1, v2, s1, s2, l1, narrow]
      · by_cases l2 : 8 < n
        · rw [z0 (by omega)]; simp (disch := (first | omega | decide)) [c51, s51_0, s51_1, s51_4, s51_7, s51_8, s51_9, s51_10, s51_11, s51_12, s51_13, s51_14, s51_17, s51_20, s51_21, s51_22, s51_23, s51_26, s51_27, s51_30, s51_31, s51_32, s51_35, s51_36, s51_37, s51_38, s51_41, s51_43, s51_44, s51_45, s51_48, s51_49, s51_52, s51_53, s51_56, s51_57, s51_60, s51_61, s51_64, s51_65, s51_66, s51_68, s51_71, s51_72, s51_73, s51_76, s51_78, s51_81, s51_82, s51_83, s51_86, s51_87, s51_89, s51_90, s51_91, s51_92, s51_95, s51_98, s51_99, s51_100, s51_101, s51_104, s51_105, s51_106, s51_107, s51_109, s51_110, s51_111, s51_114, s51_115, s51_118, s51_119, s51_120, s51_122, s51_123, s51_126, s51_127, s51_128, s51_131, s51_133, s51_134, s51_135, s51_138, s51_139, mq_k0s, mq_k1s, mq_k2s, mq_k4s, mq_k5s, mq_k5n, mq_k5as, mq_k6s, mj_pu, mj_lo, mj_br, mj_hr, mj_hw, mq_gf, mq_len, mq_al, mq_pf, mq_ok, mj_re, mq_lkm, mq_lkn, mj_ldi, mj_ldl, mj_lda, mj_ii, mj_ll, mj_li, mj_i1, ms_1, ms_2, f1_n, f1_i, f1_r, f1_u, f1_l, f2_n, f2_i, f2_r, f2_u, f2_l, mj_tg, mj_c1, mj_c2, mj_ar, mj_aw, mq_cb, mq_oi, mj_rm, Value.category, -getElem?_pos, List.getElem?_cons_zero, decide_eq_true, decide_eq_false, nl_lt, nl_le, ln_lt, ln_le, nl_eq, ln_eq, nl_add, ln_add, nl_sub, ln_mul, nI_sub, nI_mul, nI_add, nI_lt_iff, nI_le_iff, nI_inj, nI_num, mq_ix, nI_1, nl_mul, nl_div, hob, hca, v1, v2, s1, s2, l1, l2, narrow]
        · by_cases hb : p + n + 4 ≤ 256
          · by_cases hq : w1 = w2.toInt64
            · rw [z1 ⟨hb, ⟨by omega, by omega⟩, hq⟩]; simp (disch := (first | omega | decide)) [c51, s51_0, s51_1, s51_4, s51_7, s51_8, s51_9, s51_10, s51_11, s51_12, s51_13, s51_14, s51_17, s51_20, s51_21, s51_22, s51_23, s51_26, s51_27, s51_30, s51_31, s51_32, s51_35, s51_36, s51_37, s51_38, s51_41, s51_43, s51_44, s51_45, s51_48, s51_49, s51_52, s51_53, s51_56, s51_57, s51_60, s51_61, s51_64, s51_65, s51_66, s51_68, s51_71, s51_72, s51_73, s51_76, s51_78, s51_81, s51_82, s51_83, s51_86, s51_87, s51_89, s51_90, s51_91, s51_92, s51_95, s51_98, s51_99, s51_100, s51_101, s51_104, s51_105, s51_106, s51_107, s51_109, s51_110, s51_111, s51_114, s51_115, s51_118, s51_119, s51_120, s51_122, s51_123, s51_126, s51_127, s51_128, s51_131, s51_133, s51_134, s51_135, s51_138, s51_139, mq_k0s, mq_k1s, mq_k2s, mq_k4s, mq_k5s, mq_k5n, mq_k5as, mq_k6s, mj_pu, mj_lo, mj_br, mj_hr, mj_hw, mq_gf, mq_len, mq_al, mq_pf, mq_ok, mj_re, mq_lkm, mq_lkn, mj_ldi, mj_ldl, mj_lda, mj_ii, mj_ll, mj_li, mj_i1, ms_1, ms_2, f1_n, f1_i, f1_r, f1_u, f1_l, f2_n, f2_i, f2_r, f2_u, f2_l, mj_tg, mj_c1, mj_c2, mj_ar, mj_aw, mq_cb, mq_oi, mj_rm, Value.category, -getElem?_pos, List.getElem?_cons_zero, decide_eq_true, decide_eq_false, nl_lt, nl_le, ln_lt, ln_le, nl_eq, ln_eq, nl_add, ln_add, nl_sub, ln_mul, nI_sub, nI_mul, nI_add, nI_lt_iff, nI_le_iff, nI_inj, nI_num, mq_ix, nI_1, nl_mul, nl_div, nL_lt, nL_le, nL_eq, nL_l, nL_i, nLl_lt, nLl_le, nLl_eq, lnL_lt, lnL_le, lg_cmp_ge, lg_cmp_le, lg_cmp_gt, lg_cmp_lt, lg_cmp_eq, hob, hca, v1, v2, s1, s2, l1, l2, hb, hq, p1, p2, narrow]
            · rw [z0 (fun z => hq z.2.2)]; simp (disch := (first | omega | decide)) [c51, s51_0, s51_1, s51_4, s51_7, s51_8, s51_9, s51_10, s51_11, s51_12, s51_13, s51_14, s51_17, s51_20, s51_21, s51_22, s51_23, s51_26, s51_27, s51_30, s51_31, s51_32, s51_35, s51_36, s51_37, s51_38, s51_41, s51_43, s51_44, s51_45, s51_48, s51_49, s51_52, s51_53, s51_56, s51_57, s51_60, s51_61, s51_64, s51_65, s51_66, s51_68, s51_71, s51_72, s51_73, s51_76, s51_78, s51_81, s51_82, s51_83, s51_86, s51_87, s51_89, s51_90, s51_91, s51_92, s51_95, s51_98, s51_99, s51_100, s51_101, s51_104, s51_105, s51_106, s51_107, s51_109, s51_110, s51_111, s51_114, s51_115, s51_118, s51_119, s51_120, s51_122, s51_123, s51_126, s51_127, s51_128, s51_131, s51_133, s51_134, s51_135, s51_138, s51_139, mq_k0s, mq_k1s, mq_k2s, mq_k4s, mq_k5s, mq_k5n, mq_k5as, mq_k6s, mj_pu, mj_lo, mj_br, mj_hr, mj_hw, mq_gf, mq_len, mq_al, mq_pf, mq_ok, mj_re, mq_lkm, mq_lkn, mj_ldi, mj_ldl, mj_lda, mj_ii, mj_ll, mj_li, mj_i1, ms_1, ms_2, f1_n, f1_i, f1_r, f1_u, f1_l, f2_n, f2_i, f2_r, f2_u, f2_l, mj_tg, mj_c1, mj_c2, mj_ar, mj_aw, mq_cb, mq_oi, mj_rm, Value.category, -getElem?_pos, List.getElem?_cons_zero, decide_eq_true, decide_eq_false, nl_lt, nl_le, ln_lt, ln_le, nl_eq, ln_eq, nl_add, ln_add, nl_sub, ln_mul, nI_sub, nI_mul, nI_add, nI_lt_iff, nI_le_iff, nI_inj, nI_num, mq_ix, nI_1, nl_mul, nl_div, nL_lt, nL_le, nL_eq, nL_l, nL_i, nLl_lt, nLl_le, nLl_eq, lnL_lt, lnL_le, lg_cmp_ge, lg_cmp_le, lg_cmp_gt, lg_cmp_lt, lg_cmp_eq, hob, hca, v1, v2, s1, s2, l1, l2, hb, hq, p1, p2, narrow]
          · rw [z0 (by omega)]; simp (disch := (first | omega | decide)) [c51, s51_0, s51_1, s51_4, s51_7, s51_8, s51_9, s51_10, s51_11, s51_12, s51_13, s51_14, s51_17, s51_20, s51_21, s51_22, s51_23, s51_26, s51_27, s51_30, s51_31, s51_32, s51_35, s51_36, s51_37, s51_38, s51_41, s51_43, s51_44, s51_45, s51_48, s51_49, s51_52, s51_53, s51_56, s51_57, s51_60, s51_61, s51_64, s51_65, s51_66, s51_68, s51_71, s51_72, s51_73, s51_76, s51_78, s51_81, s51_82, s51_83, s51_86, s51_87, s51_89, s51_90, s51_91, s51_92, s51_95, s51_98, s51_99, s51_100, s51_101, s51_104, s51_105, s51_106, s51_107, s51_109, s51_110, s51_111, s51_114, s51_115, s51_118, s51_119, s51_120, s51_122, s51_123, s51_126, s51_127, s51_128, s51_131, s51_133, s51_134, s51_135, s51_138, s51_139, mq_k0s, mq_k1s, mq_k2s, mq_k4s, mq_k5s, mq_k5n, mq_k5as, mq_k6s, mj_pu, mj_lo, mj_br, mj_hr, mj_hw, mq_gf, mq_len, mq_al, mq_pf, mq_ok, mj_re, mq_lkm, mq_lkn, mj_ldi, mj_ldl, mj_lda, mj_ii, mj_ll, mj_li, mj_i1, ms_1, ms_2, f1_n, f1_i, f1_r, f1_u, f1_l, f2_n, f2_i, f2_r, f2_u, f2_l, mj_tg, mj_c1, mj_c2, mj_ar, mj_aw, mq_cb, mq_oi, mj_rm, Value.category, -getElem?_pos, List.getElem?_cons_zero, decide_eq_true, decide_eq_false, nl_lt, nl_le, ln_lt, ln_le, nl_eq, ln_eq, nl_add, ln_add, nl_sub, ln_mul, nI_sub, nI_mul, nI_add, nI_lt_iff, nI_le_iff, nI_inj, nI_num, mq_ix, nI_1, nl_mul, nl_div, hob, hca, v1, v2, s1, s2, l1, l2, hb, narrow]
    · have kk : fs_kl 5 n = true ↔ 13 ≤ n ∧ n ≤ 20 := by simp [fs_kl]; try omega
      rw [kk] at z0 z1
      by_cases l1 : n < 13
      · rw [z0 (by omega)]; simp (disch := (first | omega | decide)) [c51, s51_0, s51_1, s51_4, s51_7, s51_8, s51_9, s51_10, s51_11, s51_12, s51_13, s51_14, s51_17, s51_20, s51_21, s51_22, s51_23, s51_26, s51_27, s51_30, s51_31, s51_32, s51_35, s51_36, s51_37, s51_38, s51_41, s51_43, s51_44, s51_45, s51_48, s51_49, s51_52, s51_53, s51_56, s51_57, s51_60, s51_61, s51_64, s51_65, s51_66, s51_68, s51_71, s51_72, s51_73, s51_76, s51_78, s51_81, s51_82, s51_83, s51_86, s51_87, s51_89, s51_90, s51_91, s51_92, s51_95, s51_98, s51_99, s51_100, s51_101, s51_104, s51_105, s51_106, s51_107, s51_109, s51_110, s51_111, s51_114, s51_115, s51_118, s51_119, s51_120, s51_122, s51_123, s51_126, s51_127, s51_128, s51_131, s51_133, s51_134, s51_135, s51_138, s51_139, mq_k0s, mq_k1s, mq_k2s, mq_k4s, mq_k5s, mq_k5n, mq_k5as, mq_k6s, mj_pu, mj_lo, mj_br, mj_hr, mj_hw, mq_gf, mq_len, mq_al, mq_pf, mq_ok, mj_re, mq_lkm, mq_lkn, mj_ldi, mj_ldl, mj_lda, mj_ii, mj_ll, mj_li, mj_i1, ms_1, ms_2, f1_n, f1_i, f1_r, f1_u, f1_l, f2_n, f2_i, f2_r, f2_u, f2_l, mj_tg, mj_c1, mj_c2, mj_ar, mj_aw, mq_cb, mq_oi, mj_rm, Value.category, -getElem?_pos, List.getElem?_cons_zero, decide_eq_true, decide_eq_false, nl_lt, nl_le, ln_lt, ln_le, nl_eq, ln_eq, nl_add, ln_add, nl_sub, ln_mul, nI_sub, nI_mul, nI_add, nI_lt_iff, nI_le_iff, nI_inj, nI_num, mq_ix, nI_1, nl_mul, nl_div, hob, hca, v1, v2, s1, s2, l1, narrow]
      · by_cases l2 : 20 < n
        · rw [z0 (by omega)]; simp (disch := (first | omega | decide)) [c51, s51_0, s51_1, s51_4, s51_7, s51_8, s51_9, s51_10, s51_11, s51_12, s51_13, s51_14, s51_17, s51_20, s51_21, s51_22, s51_23, s51_26, s51_27, s51_30, s51_31, s51_32, s51_35, s51_36, s51_37, s51_38, s51_41, s51_43, s51_44, s51_45, s51_48, s51_49, s51_52, s51_53, s51_56, s51_57, s51_60, s51_61, s51_64, s51_65, s51_66, s51_68, s51_71, s51_72, s51_73, s51_76, s51_78, s51_81, s51_82, s51_83, s51_86, s51_87, s51_89, s51_90, s51_91, s51_92, s51_95, s51_98, s51_99, s51_100, s51_101, s51_104, s51_105, s51_106, s51_107, s51_109, s51_110, s51_111, s51_114, s51_115, s51_118, s51_119, s51_120, s51_122, s51_123, s51_126, s51_127, s51_128, s51_131, s51_133, s51_134, s51_135, s51_138, s51_139, mq_k0s, mq_k1s, mq_k2s, mq_k4s, mq_k5s, mq_k5n, mq_k5as, mq_k6s, mj_pu, mj_lo, mj_br, mj_hr, mj_hw, mq_gf, mq_len, mq_al, mq_pf, mq_ok, mj_re, mq_lkm, mq_lkn, mj_ldi, mj_ldl, mj_lda, mj_ii, mj_ll, mj_li, mj_i1, ms_1, ms_2, f1_n, f1_i, f1_r, f1_u, f1_l, f2_n, f2_i, f2_r, f2_u, f2_l, mj_tg, mj_c1, mj_c2, mj_ar, mj_aw, mq_cb, mq_oi, mj_rm, Value.category, -getElem?_pos, List.getElem?_cons_zero, decide_eq_true, decide_eq_false, nl_lt, nl_le, ln_lt, ln_le, nl_eq, ln_eq, nl_add, ln_add, nl_sub, ln_mul, nI_sub, nI_mul, nI_add, nI_lt_iff, nI_le_iff, nI_inj, nI_num, mq_ix, nI_1, nl_mul, nl_div, hob, hca, v1, v2, s1, s2, l1, l2, narrow]
        · by_cases hb : p + n + 4 ≤ 256
          · by_cases hq : w1 = w2.toInt64
            · rw [z1 ⟨hb, ⟨by omega, by omega⟩, hq⟩]; simp (disch := (first | omega | decide)) [c51, s51_0, s51_1, s51_4, s51_7, s51_8, s51_9, s51_10, s51_11, s51_12, s51_13, s51_14, s51_17, s51_20, s51_21, s51_22, s51_23, s51_26, s51_27, s51_30, s51_31, s51_32, s51_35, s51_36, s51_37, s51_38, s51_41, s51_43, s51_44, s51_45, s51_48, s51_49, s51_52, s51_53, s51_56, s51_57, s51_60, s51_61, s51_64, s51_65, s51_66, s51_68, s51_71, s51_72, s51_73, s51_76, s51_78, s51_81, s51_82, s51_83, s51_86, s51_87, s51_89, s51_90, s51_91, s51_92, s51_95, s51_98, s51_99, s51_100, s51_101, s51_104, s51_105, s51_106, s51_107, s51_109, s51_110, s51_111, s51_114, s51_115, s51_118, s51_119, s51_120, s51_122, s51_123, s51_126, s51_127, s51_128, s51_131, s51_133, s51_134, s51_135, s51_138, s51_139, mq_k0s, mq_k1s, mq_k2s, mq_k4s, mq_k5s, mq_k5n, mq_k5as, mq_k6s, mj_pu, mj_lo, mj_br, mj_hr, mj_hw, mq_gf, mq_len, mq_al, mq_pf, mq_ok, mj_re, mq_lkm, mq_lkn, mj_ldi, mj_ldl, mj_lda, mj_ii, mj_ll, mj_li, mj_i1, ms_1, ms_2, f1_n, f1_i, f1_r, f1_u, f1_l, f2_n, f2_i, f2_r, f2_u, f2_l, mj_tg, mj_c1, mj_c2, mj_ar, mj_aw, mq_cb, mq_oi, mj_rm, Value.category, -getElem?_pos, List.getElem?_cons_zero, decide_eq_true, decide_eq_false, nl_lt, nl_le, ln_lt, ln_le, nl_eq, ln_eq, nl_add, ln_add, nl_sub, ln_mul, nI_sub, nI_mul, nI_add, nI_lt_iff, nI_le_iff, nI_inj, nI_num, mq_ix, nI_1, nl_mul, nl_div, nL_lt, nL_le, nL_eq, nL_l, nL_i, nLl_lt, nLl_le, nLl_eq, lnL_lt, lnL_le, lg_cmp_ge, lg_cmp_le, lg_cmp_gt, lg_cmp_lt, lg_cmp_eq, hob, hca, v1, v2, s1, s2, l1, l2, hb, hq, p1, p2, narrow]
            · rw [z0 (fun z => hq z.2.2)]; simp (disch := (first | omega | decide)) [c51, s51_0, s51_1, s51_4, s51_7, s51_8, s51_9, s51_10, s51_11, s51_12, s51_13, s51_14, s51_17, s51_20, s51_21, s51_22, s51_23, s51_26, s51_27, s51_30, s51_31, s51_32, s51_35, s51_36, s51_37, s51_38, s51_41, s51_43, s51_44, s51_45, s51_48, s51_49, s51_52, s51_53, s51_56, s51_57, s51_60, s51_61, s51_64, s51_65, s51_66, s51_68, s51_71, s51_72, s51_73, s51_76, s51_78, s51_81, s51_82, s51_83, s51_86, s51_87, s51_89, s51_90, s51_91, s51_92, s51_95, s51_98, s51_99, s51_100, s51_101, s51_104, s51_105, s51_106, s51_107, s51_109, s51_110, s51_111, s51_114, s51_115, s51_118, s51_119, s51_120, s51_122, s51_123, s51_126, s51_127, s51_128, s51_131, s51_133, s51_134, s51_135, s51_138, s51_139, mq_k0s, mq_k1s, mq_k2s, mq_k4s, mq_k5s, mq_k5n, mq_k5as, mq_k6s, mj_pu, mj_lo, mj_br, mj_hr, mj_hw, mq_gf, mq_len, mq_al, mq_pf, mq_ok, mj_re, mq_lkm, mq_lkn, mj_ldi, mj_ldl, mj_lda, mj_ii, mj_ll, mj_li, mj_i1, ms_1, ms_2, f1_n, f1_i, f1_r, f1_u, f1_l, f2_n, f2_i, f2_r, f2_u, f2_l, mj_tg, mj_c1, mj_c2, mj_ar, mj_aw, mq_cb, mq_oi, mj_rm, Value.category, -getElem?_pos, List.getElem?_cons_zero, decide_eq_true, decide_eq_false, nl_lt, nl_le, ln_lt, ln_le, nl_eq, ln_eq, nl_add, ln_add, nl_sub, ln_mul, nI_sub, nI_mul, nI_add, nI_lt_iff, nI_le_iff, nI_inj, nI_num, mq_ix, nI_1, nl_mul, nl_div, nL_lt, nL_le, nL_eq, nL_l, nL_i, nLl_lt, nLl_le, nLl_eq, lnL_lt, lnL_le, lg_cmp_ge, lg_cmp_le, lg_cmp_gt, lg_cmp_lt, lg_cmp_eq, hob, hca, v1, v2, s1, s2, l1, l2, hb, hq, p1, p2, narrow]
          · rw [z0 (by omega)]; simp (disch := (first | omega | decide)) [c51, s51_0, s51_1, s51_4, s51_7, s51_8, s51_9, s51_10, s51_11, s51_12, s51_13, s51_14, s51_17, s51_20, s51_21, s51_22, s51_23, s51_26, s51_27, s51_30, s51_31, s51_32, s51_35, s51_36, s51_37, s51_38, s51_41, s51_43, s51_44, s51_45, s51_48, s51_49, s51_52, s51_53, s51_56, s51_57, s51_60, s51_61, s51_64, s51_65, s51_66, s51_68, s51_71, s51_72, s51_73, s51_76, s51_78, s51_81, s51_82, s51_83, s51_86, s51_87, s51_89, s51_90, s51_91, s51_92, s51_95, s51_98, s51_99, s51_100, s51_101, s51_104, s51_105, s51_106, s51_107, s51_109, s51_110, s51_111, s51_114, s51_115, s51_118, s51_119, s51_120, s51_122, s51_123, s51_126, s51_127, s51_128, s51_131, s51_133, s51_134, s51_135, s51_138, s51_139, mq_k0s, mq_k1s, mq_k2s, mq_k4s, mq_k5s, mq_k5n, mq_k5as, mq_k6s, mj_pu, mj_lo, mj_br, mj_hr, mj_hw, mq_gf, mq_len, mq_al, mq_pf, mq_ok, mj_re, mq_lkm, mq_lkn, mj_ldi, mj_ldl, mj_lda, mj_ii, mj_ll, mj_li, mj_i1, ms_1, ms_2, f1_n, f1_i, f1_r, f1_u, f1_l, f2_n, f2_i, f2_r, f2_u, f2_l, mj_tg, mj_c1, mj_c2, mj_ar, mj_aw, mq_cb, mq_oi, mj_rm, Value.category, -getElem?_pos, List.getElem?_cons_zero, decide_eq_true, decide_eq_false, nl_lt, nl_le, ln_lt, ln_le, nl_eq, ln_eq, nl_add, ln_add, nl_sub, ln_mul, nI_sub, nI_mul, nI_add, nI_lt_iff, nI_le_iff, nI_inj, nI_num, mq_ix, nI_1, nl_mul, nl_div, hob, hca, v1, v2, s1, s2, l1, l2, hb, narrow]
    · rw [z0 (fun z => by rw [k6 (by omega)] at z; simp at z)]
      simp (disch := (first | omega | decide)) [c51, s51_0, s51_1, s51_4, s51_7, s51_8, s51_9, s51_10, s51_11, s51_12, s51_13, s51_14, s51_17, s51_20, s51_21, s51_22, s51_23, s51_26, s51_27, s51_30, s51_31, s51_32, s51_35, s51_36, s51_37, s51_38, s51_41, s51_43, s51_44, s51_45, s51_48, s51_49, s51_52, s51_53, s51_56, s51_57, s51_60, s51_61, s51_64, s51_65, s51_66, s51_68, s51_71, s51_72, s51_73, s51_76, s51_78, s51_81, s51_82, s51_83, s51_86, s51_87, s51_89, s51_90, s51_91, s51_92, s51_95, s51_98, s51_99, s51_100, s51_101, s51_104, s51_105, s51_106, s51_107, s51_109, s51_110, s51_111, s51_114, s51_115, s51_118, s51_119, s51_120, s51_122, s51_123, s51_126, s51_127, s51_128, s51_131, s51_133, s51_134, s51_135, s51_138, s51_139, mq_k0s, mq_k1s, mq_k2s, mq_k4s, mq_k5s, mq_k5n, mq_k5as, mq_k6s, mj_pu, mj_lo, mj_br, mj_hr, mj_hw, mq_gf, mq_len, mq_al, mq_pf, mq_ok, mj_re, mq_lkm, mq_lkn, mj_ldi, mj_ldl, mj_lda, mj_ii, mj_ll, mj_li, mj_i1, ms_1, ms_2, f1_n, f1_i, f1_r, f1_u, f1_l, f2_n, f2_i, f2_r, f2_u, f2_l, mj_tg, mj_c1, mj_c2, mj_ar, mj_aw, mq_cb, mq_oi, mj_rm, Value.category, -getElem?_pos, List.getElem?_cons_zero, decide_eq_true, decide_eq_false, nl_lt, nl_le, ln_lt, ln_le, nl_eq, ln_eq, nl_add, ln_add, nl_sub, ln_mul, nI_sub, nI_mul, nI_add, nI_lt_iff, nI_le_iff, nI_inj, nI_num, mq_ix, nI_1, nl_mul, nl_div, hob, hca, v1, v2, s1, s2, narrow]
theorem l_erased {d κ : Nat} {s : Fl} {r : List Int32} {M : mj_H} (h : ks M κ s r) (ha : s.2.2.2.2.1 ≤ 1) (hfl : s.1.length = 512) {p0 : Int32} : ∀ (m i : Nat), i + m = 256 → mj_Rn (d + 1) mj_m57 2 [(2, .int (nI i)), (0, .ref (κ + 1)), (1, .int p0)] [] M = some (some (.int (on1 (((fs_ar s.1 s.2.2.2.2.1).drop i).all (fun v => v == 255)))), M) := by
  have hob := h.ob
  unfold so at hob
  have hca := h.ce.2.2.2.2.2.1
  have hl : (fs_ar s.1 s.2.2.2.2.1).length = 256 := by unfold fs_ar; rw [sl_len (by omega)]
  intro m
  induction m with
  | zero =>
    intro i hi
    rw [List.drop_eq_nil_of_le (by omega)]
    simp (disch := (first | omega | decide)) [s57_0, s57_1, s57_2, s57_3, s57_6, s57_9, s57_10, s57_13, s57_14, s57_17, s57_20, s57_21, s57_22, s57_23, s57_26, s57_29, s57_32, s57_33, s57_34, s57_37, s57_40, s57_41, mq_k0s, mq_k1s, mq_k2s, mq_k4s, mq_k5s, mq_k5n, mq_k5as, mq_k6s, mj_pu, mj_lo, mj_br, mj_hr, mj_hw, mq_gf, mq_len, mq_al, mq_pf, mq_ok, mj_re, mq_lkm, mq_lkn, mj_ldi, mj_ldl, mj_lda, mj_ii, mj_ll, mj_li, mj_i1, ms_1, ms_2, f1_n, f1_i, f1_r, f1_u, f1_l, f2_n, f2_i, f2_r, f2_u, f2_l, mj_tg, mj_c1, mj_c2, mj_ar, mj_aw, mq_cb, mq_oi, mj_rm, Value.category, -getElem?_pos, List.getElem?_cons_zero, decide_eq_true, decide_eq_false, nl_lt, nl_le, ln_lt, ln_le, nl_eq, ln_eq, nl_add, ln_add, nl_sub, ln_mul, nI_sub, nI_mul, nI_add, nI_lt_iff, nI_le_iff, nI_inj, nI_num, mq_ix, nI_1, nl_mul, nl_div, on1, narrow_b1]
  | succ m ih =>
    intro i hi
    have v1 := v_item (d := d) h.ce (nI (s.2.2.2.2.1 * 256 + i))
    rw [bt_at_nI (by omega), ← ar_get (by omega) (by omega) 0] at v1
    have e : (fs_ar s.1 s.2.2.2.2.1).getD i 0 = (fs_ar s.1 s.2.2.2.2.1)[i]'(by omega) := by simp [List.getD, hl, show i < 256 by omega]
    rw [e] at v1
    rw [s57_2, List.drop_eq_getElem_cons (by omega), List.all_cons]
    generalize (fs_ar s.1 s.2.2.2.2.1)[i]'(by omega) = u at *
    by_cases hu : u = 255
    · subst hu
      have r1 := ih (i + 1) (by omega)
      simp (disch := (first | omega | decide)) [s57_0, s57_1, s57_3, s57_6, s57_9, s57_10, s57_13, s57_14, s57_17, s57_20, s57_21, s57_22, s57_23, s57_26, s57_29, s57_32, s57_33, s57_34, s57_37, s57_40, s57_41, mq_k0s, mq_k1s, mq_k2s, mq_k4s, mq_k5s, mq_k5n, mq_k5as, mq_k6s, mj_pu, mj_lo, mj_br, mj_hr, mj_hw, mq_gf, mq_len, mq_al, mq_pf, mq_ok, mj_re, mq_lkm, mq_lkn, mj_ldi, mj_ldl, mj_lda, mj_ii, mj_ll, mj_li, mj_i1, ms_1, ms_2, f1_n, f1_i, f1_r, f1_u, f1_l, f2_n, f2_i, f2_r, f2_u, f2_l, mj_tg, mj_c1, mj_c2, mj_ar, mj_aw, mq_cb, mq_oi, mj_rm, Value.category, -getElem?_pos, List.getElem?_cons_zero, decide_eq_true, decide_eq_false, nl_lt, nl_le, ln_lt, ln_le, nl_eq, ln_eq, nl_add, ln_add, nl_sub, ln_mul, nI_sub, nI_mul, nI_add, nI_lt_iff, nI_le_iff, nI_inj, nI_num, mq_ix, nI_1, nl_mul, nl_div, hob, hca, v1]
      refine mq_wk ?_ r1
      simp [mq_sub, mj_lk]
    · simp (disch := (first | omega | decide)) [s57_0, s57_1, s57_3, s57_6, s57_9, s57_10, s57_13, s57_14, s57_17, s57_20, s57_21, s57_22, s57_23, s57_26, s57_29, s57_32, s57_33, s57_34, s57_37, s57_40, s57_41, mq_k0s, mq_k1s, mq_k2s, mq_k4s, mq_k5s, mq_k5n, mq_k5as, mq_k6s, mj_pu, mj_lo, mj_br, mj_hr, mj_hw, mq_gf, mq_len, mq_al, mq_pf, mq_ok, mj_re, mq_lkm, mq_lkn, mj_ldi, mj_ldl, mj_lda, mj_ii, mj_ll, mj_li, mj_i1, ms_1, ms_2, f1_n, f1_i, f1_r, f1_u, f1_l, f2_n, f2_i, f2_r, f2_u, f2_l, mj_tg, mj_c1, mj_c2, mj_ar, mj_aw, mq_cb, mq_oi, mj_rm, Value.category, -getElem?_pos, List.getElem?_cons_zero, decide_eq_true, decide_eq_false, nl_lt, nl_le, ln_lt, ln_le, nl_eq, ln_eq, nl_add, ln_add, nl_sub, ln_mul, nI_sub, nI_mul, nI_add, nI_lt_iff, nI_le_iff, nI_inj, nI_num, mq_ix, nI_1, nl_mul, nl_div, hob, hca, v1, hu, on1, narrow_b0]
theorem st_erased {d κ p : Nat} {s : Fl} {r : List Int32} {M : mj_H} (h : ks M κ s r) (ha : s.2.2.2.2.1 ≤ 1) (hfl : s.1.length = 512) (hp : p ≤ 256) : mj_V (d + 2) 57 [.ref (κ + 1), .int (nI p)] M = some (some (.int (on1 (((fs_ar s.1 s.2.2.2.2.1).drop p).all (fun v => v == 255)))), M) := by
  have r1 := l_erased (d := d) h ha hfl (p0 := nI p) (256 - p) p (by omega)
  simp (disch := (first | omega | decide)) [c57, s57_0, s57_1, s57_3, s57_6, s57_9, s57_10, s57_13, s57_14, s57_17, s57_20, s57_21, s57_22, s57_23, s57_26, s57_29, s57_32, s57_33, s57_34, s57_37, s57_40, s57_41, mq_k0s, mq_k1s, mq_k2s, mq_k4s, mq_k5s, mq_k5n, mq_k5as, mq_k6s, mj_pu, mj_lo, mj_br, mj_hr, mj_hw, mq_gf, mq_len, mq_al, mq_pf, mq_ok, mj_re, mq_lkm, mq_lkn, mj_ldi, mj_ldl, mj_lda, mj_ii, mj_ll, mj_li, mj_i1, ms_1, ms_2, f1_n, f1_i, f1_r, f1_u, f1_l, f2_n, f2_i, f2_r, f2_u, f2_l, mj_tg, mj_c1, mj_c2, mj_ar, mj_aw, mq_cb, mq_oi, mj_rm, Value.category, -getElem?_pos, List.getElem?_cons_zero, decide_eq_true, decide_eq_false, nl_lt, nl_le, ln_lt, ln_le, nl_eq, ln_eq, nl_add, ln_add, nl_sub, ln_mul, nI_sub, nI_mul, nI_add, nI_lt_iff, nI_le_iff, nI_inj, nI_num, mq_ix, nI_1, nl_mul, nl_div]
  exact r1
end
/- 75.store5 -/
section
set_option maxRecDepth 512
/-! Class: Store: what a record says. -/
/- 52 PasskeyHouse$Store.learn(I)V -/
theorem s52_0 {d : Nat} {ls : mj_L} {st : List Value} {M : mj_H} : mj_Rn d mj_m52 0 ls st M = mq_k0 d mj_m52 1 ls M (mj_lda (mj_lk ls 0) st) := mj_R0 (r := (.aload_n 0, 1, 0, 0, 0)) rfl rfl
theorem s52_1 {d : Nat} {ls : mj_L} {st : List Value} {M : mj_H} : mj_Rn d mj_m52 1 ls st M = mq_k0 d mj_m52 4 ls M (mq_gf 8 7 st M) := (mj_R3 (r := (.getfield 73, 3, 8, 7, 16504)) rfl rfl).trans (congrArg (mq_k0 d mj_m52 4 ls M) mq_gf_eq)
theorem s52_4 {d : Nat} {ls : mj_L} {st : List Value} {M : mj_H} : mj_Rn d mj_m52 4 ls st M = mj_Rn d mj_m52 7 ls (.int 256 :: st) M := mj_R0 (r := (.sipush 256, 3, 0, 0, 0)) rfl rfl
theorem s52_7 {d : Nat} {ls : mj_L} {st : List Value} {M : mj_H} : mj_Rn d mj_m52 7 ls st M = mq_k0 d mj_m52 8 ls M (mj_pu .imul ls st) := mj_R0 (r := (.imul, 1, 0, 0, 0)) rfl rfl
theorem s52_8 {d : Nat} {ls : mj_L} {st : List Value} {M : mj_H} : mj_Rn d mj_m52 8 ls st M = mq_k0 d mj_m52 9 ls M (mj_ldi (mj_lk ls 1) st) := mj_R0 (r := (.iload_n 1, 1, 0, 0, 0)) rfl rfl
theorem s52_9 {d : Nat} {ls : mj_L} {st : List Value} {M : mj_H} : mj_Rn d mj_m52 9 ls st M = mq_k0 d mj_m52 10 ls M (mj_pu .iadd ls st) := mj_R0 (r := (.iadd, 1, 0, 0, 0)) rfl rfl
theorem s52_10 {d : Nat} {ls : mj_L} {st : List Value} {M : mj_H} : mj_Rn d mj_m52 10 ls st M = mq_k1 d mj_m52 11 M (mj_lo 4 (.istore 2) ls st) := (mj_R1 (r := (.istore_n 2, 1, 0, 0, 0)) rfl rfl).trans (congrArg (mq_k1 d mj_m52 11 M) (mq_sti (k := 2)))
theorem s52_11 {d : Nat} {ls : mj_L} {st : List Value} {M : mj_H} : mj_Rn d mj_m52 11 ls st M = mq_k0 d mj_m52 12 ls M (mj_ldi (mj_lk ls 2) st) := mj_R0 (r := (.iload_n 2, 1, 0, 0, 0)) rfl rfl
theorem s52_12 {d : Nat} {ls : mj_L} {st : List Value} {M : mj_H} : mj_Rn d mj_m52 12 ls st M = mj_Rn d mj_m52 13 ls (.int 2 :: st) M := mj_R0 (r := (.iconst 2, 1, 0, 0, 0)) rfl rfl
theorem s52_13 {d : Nat} {ls : mj_L} {st : List Value} {M : mj_H} : mj_Rn d mj_m52 13 ls st M = mq_k0 d mj_m52 14 ls M (mj_pu .iadd ls st) := mj_R0 (r := (.iadd, 1, 0, 0, 0)) rfl rfl
theorem s52_14 {d : Nat} {ls : mj_L} {st : List Value} {M : mj_H} : mj_Rn d mj_m52 14 ls st M = mq_k1 d mj_m52 15 M (mj_lo 4 (.istore 3) ls st) := (mj_R1 (r := (.istore_n 3, 1, 0, 0, 0)) rfl rfl).trans (congrArg (mq_k1 d mj_m52 15 M) (mq_sti (k := 3)))
theorem s52_15 {d : Nat} {ls : mj_L} {st : List Value} {M : mj_H} : mj_Rn d mj_m52 15 ls st M = mq_k0 d mj_m52 16 ls M (mj_lda (mj_lk ls 0) st) := mj_R0 (r := (.aload_n 0, 1, 0, 0, 0)) rfl rfl
theorem s52_16 {d : Nat} {ls : mj_L} {st : List Value} {M : mj_H} : mj_Rn d mj_m52 16 ls st M = mq_k0 d mj_m52 19 ls M (mq_gf 8 0 st M) := (mj_R3 (r := (.getfield 16, 3, 8, 0, 16480)) rfl rfl).trans (congrArg (mq_k0 d mj_m52 19 ls M) mq_gf_eq)
theorem s52_19 {d : Nat} {ls : mj_L} {st : List Value} {M : mj_H} : mj_Rn d mj_m52 19 ls st M = mq_k0 d mj_m52 20 ls M (mj_ldi (mj_lk ls 2) st) := mj_R0 (r := (.iload_n 2, 1, 0, 0, 0)) rfl rfl
theorem s52_20 {d : Nat} {ls : mj_L} {st : List Value} {M : mj_H} : mj_Rn (d + 1) mj_m52 20 ls st M = mq_k5a (d + 1) mj_m52 23 ls M 14 (mq_cb 0 1 1 st M) := mj_R5e (r := (.invokevirtual 62, 3, 0, 14, 12289)) (z := mj_m14) rfl rfl (by decide) (by decide) rfl
theorem s52_23 {d : Nat} {ls : mj_L} {st : List Value} {M : mj_H} : mj_Rn d mj_m52 23 ls st M = mq_k2 d mj_m52 ls M (mj_br (.tableswitch 130 1 5 #[33, 48, 69, 84, 109]) 23 st) := mj_R2 (r := (.tableswitch 130 1 5 #[33, 48, 69, 84, 109], 33, 0, 0, 0)) rfl rfl
theorem s52_56 {d : Nat} {ls : mj_L} {st : List Value} {M : mj_H} : mj_Rn d mj_m52 56 ls st M = mq_k0 d mj_m52 57 ls M (mj_lda (mj_lk ls 0) st) := mj_R0 (r := (.aload_n 0, 1, 0, 0, 0)) rfl rfl
theorem s52_57 {d : Nat} {ls : mj_L} {st : List Value} {M : mj_H} : mj_Rn d mj_m52 57 ls st M = mq_k0 d mj_m52 58 ls M (mj_lda (mj_lk ls 0) st) := mj_R0 (r := (.aload_n 0, 1, 0, 0, 0)) rfl rfl
theorem s52_58 {d : Nat} {ls : mj_L} {st : List Value} {M : mj_H} : mj_Rn d mj_m52 58 ls st M = mq_k0 d mj_m52 61 ls M (mq_gf 8 0 st M) := (mj_R3 (r := (.getfield 16, 3, 8, 0, 16480)) rfl rfl).trans (congrArg (mq_k0 d mj_m52 61 ls M) mq_gf_eq)
theorem s52_61 {d : Nat} {ls : mj_L} {st : List Value} {M : mj_H} : mj_Rn d mj_m52 61 ls st M = mq_k0 d mj_m52 62 ls M (mj_ldi (mj_lk ls 3) st) := mj_R0 (r := (.iload_n 3, 1, 0, 0, 0)) rfl rfl
theorem s52_62 {d : Nat} {ls : mj_L} {st : List Value} {M : mj_H} : mj_Rn (d + 1) mj_m52 62 ls st M = mq_k5a (d + 1) mj_m52 65 ls M 53 (mq_cb 0 1 1 st M) := mj_R5e (r := (.invokevirtual 134, 3, 0, 53, 12332)) (z := mj_m53) rfl rfl (by decide) (by decide) rfl
theorem s52_65 {d : Nat} {ls : mj_L} {st : List Value} {M : mj_H} : mj_Rn d mj_m52 65 ls st M = mq_k4 d mj_m52 68 ls (mq_pf 8 10 0 st M) := (mj_R4 (r := (.putfield 112, 3, 8, 10, 16510)) rfl rfl).trans (congrArg (mq_k4 d mj_m52 68 ls) (mq_pf_eq rfl rfl))
theorem s52_68 {d : Nat} {ls : mj_L} {st : List Value} {M : mj_H} : mj_Rn d mj_m52 68 ls st M = mj_Rn d mj_m52 153 ls st M := mj_R2 (r := (.goto 85, 3, 0, 0, 0)) rfl rfl
theorem s52_71 {d : Nat} {ls : mj_L} {st : List Value} {M : mj_H} : mj_Rn d mj_m52 71 ls st M = mq_k0 d mj_m52 72 ls M (mj_lda (mj_lk ls 0) st) := mj_R0 (r := (.aload_n 0, 1, 0, 0, 0)) rfl rfl
theorem s52_72 {d : Nat} {ls : mj_L} {st : List Value} {M : mj_H} : mj_Rn d mj_m52 72 ls st M = mq_k0 d mj_m52 73 ls M (mj_lda (mj_lk ls 0) st) := mj_R0 (r := (.aload_n 0, 1, 0, 0, 0)) rfl rfl
theorem s52_73 {d : Nat} {ls : mj_L} {st : List Value} {M : mj_H} : mj_Rn d mj_m52 73 ls st M = mq_k0 d mj_m52 76 ls M (mq_gf 8 0 st M) := (mj_R3 (r := (.getfield 16, 3, 8, 0, 16480)) rfl rfl).trans (congrArg (mq_k0 d mj_m52 76 ls M) mq_gf_eq)
theorem s52_76 {d : Nat} {ls : mj_L} {st : List Value} {M : mj_H} : mj_Rn d mj_m52 76 ls st M = mq_k0 d mj_m52 77 ls M (mj_ldi (mj_lk ls 3) st) := mj_R0 (r := (.iload_n 3, 1, 0, 0, 0)) rfl rfl
theorem s52_77 {d : Nat} {ls : mj_L} {st : List Value} {M : mj_H} : mj_Rn (d + 1) mj_m52 77 ls st M = mq_k5a (d + 1) mj_m52 80 ls M 53 (mq_cb 0 1 1 st M) := mj_R5e (r := (.invokevirtual 134, 3, 0, 53, 12332)) (z := mj_m53) rfl rfl (by decide) (by decide) rfl
theorem s52_80 {d : Nat} {ls : mj_L} {st : List Value} {M : mj_H} : mj_Rn d mj_m52 80 ls st M = mq_k4 d mj_m52 83 ls (mq_pf 8 11 0 st M) := (mj_R4 (r := (.putfield 115, 3, 8, 11, 16514)) rfl rfl).trans (congrArg (mq_k4 d mj_m52 83 ls) (mq_pf_eq rfl rfl))
theorem s52_83 {d : Nat} {ls : mj_L} {st : List Value} {M : mj_H} : mj_Rn d mj_m52 83 ls st M = mq_k0 d mj_m52 84 ls M (mj_lda (mj_lk ls 0) st) := mj_R0 (r := (.aload_n 0, 1, 0, 0, 0)) rfl rfl
theorem s52_84 {d : Nat} {ls : mj_L} {st : List Value} {M : mj_H} : mj_Rn d mj_m52 84 ls st M = mj_Rn d mj_m52 86 ls (.int 8 :: st) M := mj_R0 (r := (.bipush 8, 2, 0, 0, 0)) rfl rfl
theorem s52_86 {d : Nat} {ls : mj_L} {st : List Value} {M : mj_H} : mj_Rn d mj_m52 86 ls st M = mq_k4 d mj_m52 89 ls (mq_pf 8 12 0 st M) := (mj_R4 (r := (.putfield 118, 3, 8, 12, 16518)) rfl rfl).trans (congrArg (mq_k4 d mj_m52 89 ls) (mq_pf_eq rfl rfl))
theorem s52_89 {d : Nat} {ls : mj_L} {st : List Value} {M : mj_H} : mj_Rn d mj_m52 89 ls st M = mj_Rn d mj_m52 153 ls st M := mj_R2 (r := (.goto 64, 3, 0, 0, 0)) rfl rfl
theorem s52_92 {d : Nat} {ls : mj_L} {st : List Value} {M : mj_H} : mj_Rn d mj_m52 92 ls st M = mq_k0 d mj_m52 93 ls M (mj_lda (mj_lk ls 0) st) := mj_R0 (r := (.aload_n 0, 1, 0, 0, 0)) rfl rfl
theorem s52_93 {d : Nat} {ls : mj_L} {st : List Value} {M : mj_H} : mj_Rn d mj_m52 93 ls st M = mq_k0 d mj_m52 94 ls M (mj_lda (mj_lk ls 0) st) := mj_R0 (r := (.aload_n 0, 1, 0, 0, 0)) rfl rfl
theorem s52_94 {d : Nat} {ls : mj_L} {st : List Value} {M : mj_H} : mj_Rn d mj_m52 94 ls st M = mq_k0 d mj_m52 97 ls M (mq_gf 8 0 st M) := (mj_R3 (r := (.getfield 16, 3, 8, 0, 16480)) rfl rfl).trans (congrArg (mq_k0 d mj_m52 97 ls M) mq_gf_eq)
theorem s52_97 {d : Nat} {ls : mj_L} {st : List Value} {M : mj_H} : mj_Rn d mj_m52 97 ls st M = mq_k0 d mj_m52 98 ls M (mj_ldi (mj_lk ls 3) st) := mj_R0 (r := (.iload_n 3, 1, 0, 0, 0)) rfl rfl
theorem s52_98 {d : Nat} {ls : mj_L} {st : List Value} {M : mj_H} : mj_Rn (d + 1) mj_m52 98 ls st M = mq_k5a (d + 1) mj_m52 101 ls M 14 (mq_cb 0 1 1 st M) := mj_R5e (r := (.invokevirtual 62, 3, 0, 14, 12289)) (z := mj_m14) rfl rfl (by decide) (by decide) rfl
theorem s52_101 {d : Nat} {ls : mj_L} {st : List Value} {M : mj_H} : mj_Rn d mj_m52 101 ls st M = mq_k4 d mj_m52 104 ls (mq_pf 8 12 0 st M) := (mj_R4 (r := (.putfield 118, 3, 8, 12, 16518)) rfl rfl).trans (congrArg (mq_k4 d mj_m52 104 ls) (mq_pf_eq rfl rfl))
theorem s52_104 {d : Nat} {ls : mj_L} {st : List Value} {M : mj_H} : mj_Rn d mj_m52 104 ls st M = mj_Rn d mj_m52 153 ls st M := mj_R2 (r := (.goto 49, 3, 0, 0, 0)) rfl rfl
theorem s52_107 {d : Nat} {ls : mj_L} {st : List Value} {M : mj_H} : mj_Rn d mj_m52 107 ls st M = mq_k0 d mj_m52 108 ls M (mj_lda (mj_lk ls 0) st) := mj_R0 (r := (.aload_n 0, 1, 0, 0, 0)) rfl rfl
theorem s52_108 {d : Nat} {ls : mj_L} {st : List Value} {M : mj_H} : mj_Rn d mj_m52 108 ls st M = mq_k0 d mj_m52 109 ls M (mj_lda (mj_lk ls 0) st) := mj_R0 (r := (.aload_n 0, 1, 0, 0, 0)) rfl rfl
theorem s52_109 {d : Nat} {ls : mj_L} {st : List Value} {M : mj_H} : mj_Rn d mj_m52 109 ls st M = mq_k0 d mj_m52 112 ls M (mq_gf 8 0 st M) := (mj_R3 (r := (.getfield 16, 3, 8, 0, 16480)) rfl rfl).trans (congrArg (mq_k0 d mj_m52 112 ls M) mq_gf_eq)
theorem s52_112 {d : Nat} {ls : mj_L} {st : List Value} {M : mj_H} : mj_Rn d mj_m52 112 ls st M = mq_k0 d mj_m52 113 ls M (mj_ldi (mj_lk ls 3) st) := mj_R0 (r := (.iload_n 3, 1, 0, 0, 0)) rfl rfl
theorem s52_113 {d : Nat} {ls : mj_L} {st : List Value} {M : mj_H} : mj_Rn (d + 1) mj_m52 113 ls st M = mq_k5a (d + 1) mj_m52 116 ls M 53 (mq_cb 0 1 1 st M) := mj_R5e (r := (.invokevirtual 134, 3, 0, 53, 12332)) (z := mj_m53) rfl rfl (by decide) (by decide) rfl
theorem s52_116 {d : Nat} {ls : mj_L} {st : List Value} {M : mj_H} : mj_Rn d mj_m52 116 ls st M = mq_k0 d mj_m52 117 ls M (mj_lda (mj_lk ls 0) st) := mj_R0 (r := (.aload_n 0, 1, 0, 0, 0)) rfl rfl
theorem s52_117 {d : Nat} {ls : mj_L} {st : List Value} {M : mj_H} : mj_Rn d mj_m52 117 ls st M = mq_k0 d mj_m52 120 ls M (mq_gf 8 0 st M) := (mj_R3 (r := (.getfield 16, 3, 8, 0, 16480)) rfl rfl).trans (congrArg (mq_k0 d mj_m52 120 ls M) mq_gf_eq)
theorem s52_120 {d : Nat} {ls : mj_L} {st : List Value} {M : mj_H} : mj_Rn d mj_m52 120 ls st M = mq_k0 d mj_m52 121 ls M (mj_ldi (mj_lk ls 3) st) := mj_R0 (r := (.iload_n 3, 1, 0, 0, 0)) rfl rfl
theorem s52_121 {d : Nat} {ls : mj_L} {st : List Value} {M : mj_H} : mj_Rn d mj_m52 121 ls st M = mj_Rn d mj_m52 122 ls (.int 4 :: st) M := mj_R0 (r := (.iconst 4, 1, 0, 0, 0)) rfl rfl
theorem s52_122 {d : Nat} {ls : mj_L} {st : List Value} {M : mj_H} : mj_Rn d mj_m52 122 ls st M = mq_k0 d mj_m52 123 ls M (mj_pu .iadd ls st) := mj_R0 (r := (.iadd, 1, 0, 0, 0)) rfl rfl
theorem s52_123 {d : Nat} {ls : mj_L} {st : List Value} {M : mj_H} : mj_Rn (d + 1) mj_m52 123 ls st M = mq_k5a (d + 1) mj_m52 126 ls M 53 (mq_cb 0 1 1 st M) := mj_R5e (r := (.invokevirtual 134, 3, 0, 53, 12332)) (z := mj_m53) rfl rfl (by decide) (by decide) rfl
theorem s52_126 {d : Nat} {ls : mj_L} {st : List Value} {M : mj_H} : mj_Rn (d + 1) mj_m52 126 ls st M = mq_k5a (d + 1) mj_m52 129 ls M 54 (mq_cb 0 2 8 st M) := mj_R5e (r := (.invokevirtual 137, 3, 0, 54, 12337)) (z := mj_m54) rfl rfl (by decide) (by decide) rfl
theorem s52_129 {d : Nat} {ls : mj_L} {st : List Value} {M : mj_H} : mj_Rn d mj_m52 129 ls st M = mj_Rn d mj_m52 153 ls st M := mj_R2 (r := (.goto 24, 3, 0, 0, 0)) rfl rfl
theorem s52_132 {d : Nat} {ls : mj_L} {st : List Value} {M : mj_H} : mj_Rn d mj_m52 132 ls st M = mq_k0 d mj_m52 133 ls M (mj_lda (mj_lk ls 0) st) := mj_R0 (r := (.aload_n 0, 1, 0, 0, 0)) rfl rfl
theorem s52_133 {d : Nat} {ls : mj_L} {st : List Value} {M : mj_H} : mj_Rn d mj_m52 133 ls st M = mq_k0 d mj_m52 134 ls M (mj_ldi (mj_lk ls 3) st) := mj_R0 (r := (.iload_n 3, 1, 0, 0, 0)) rfl rfl
theorem s52_134 {d : Nat} {ls : mj_L} {st : List Value} {M : mj_H} : mj_Rn d mj_m52 134 ls st M = mq_k0 d mj_m52 135 ls M (mj_lda (mj_lk ls 0) st) := mj_R0 (r := (.aload_n 0, 1, 0, 0, 0)) rfl rfl
theorem s52_135 {d : Nat} {ls : mj_L} {st : List Value} {M : mj_H} : mj_Rn d mj_m52 135 ls st M = mq_k0 d mj_m52 138 ls M (mq_gf 8 0 st M) := (mj_R3 (r := (.getfield 16, 3, 8, 0, 16480)) rfl rfl).trans (congrArg (mq_k0 d mj_m52 138 ls M) mq_gf_eq)
theorem s52_138 {d : Nat} {ls : mj_L} {st : List Value} {M : mj_H} : mj_Rn d mj_m52 138 ls st M = mq_k0 d mj_m52 139 ls M (mj_ldi (mj_lk ls 2) st) := mj_R0 (r := (.iload_n 2, 1, 0, 0, 0)) rfl rfl
theorem s52_139 {d : Nat} {ls : mj_L} {st : List Value} {M : mj_H} : mj_Rn d mj_m52 139 ls st M = mj_Rn d mj_m52 140 ls (.int 1 :: st) M := mj_R0 (r := (.iconst 1, 1, 0, 0, 0)) rfl rfl
theorem s52_140 {d : Nat} {ls : mj_L} {st : List Value} {M : mj_H} : mj_Rn d mj_m52 140 ls st M = mq_k0 d mj_m52 141 ls M (mj_pu .iadd ls st) := mj_R0 (r := (.iadd, 1, 0, 0, 0)) rfl rfl
theorem s52_141 {d : Nat} {ls : mj_L} {st : List Value} {M : mj_H} : mj_Rn (d + 1) mj_m52 141 ls st M = mq_k5a (d + 1) mj_m52 144 ls M 14 (mq_cb 0 1 1 st M) := mj_R5e (r := (.invokevirtual 62, 3, 0, 14, 12289)) (z := mj_m14) rfl rfl (by decide) (by decide) rfl
theorem s52_144 {d : Nat} {ls : mj_L} {st : List Value} {M : mj_H} : mj_Rn d mj_m52 144 ls st M = mj_Rn d mj_m52 146 ls (.int 12 :: st) M := mj_R0 (r := (.bipush 12, 2, 0, 0, 0)) rfl rfl
theorem s52_146 {d : Nat} {ls : mj_L} {st : List Value} {M : mj_H} : mj_Rn d mj_m52 146 ls st M = mq_k0 d mj_m52 147 ls M (mj_pu .isub ls st) := mj_R0 (r := (.isub, 1, 0, 0, 0)) rfl rfl
theorem s52_147 {d : Nat} {ls : mj_L} {st : List Value} {M : mj_H} : mj_Rn (d + 1) mj_m52 147 ls st M = mq_k5a (d + 1) mj_m52 150 ls M 55 (mq_cb 0 2 8 st M) := mj_R5e (r := (.invokevirtual 140, 3, 0, 55, 12341)) (z := mj_m55) rfl rfl (by decide) (by decide) rfl
theorem s52_150 {d : Nat} {ls : mj_L} {st : List Value} {M : mj_H} : mj_Rn d mj_m52 150 ls st M = mj_Rn d mj_m52 153 ls st M := mj_R2 (r := (.goto 3, 3, 0, 0, 0)) rfl rfl
theorem s52_153 {d : Nat} {ls : mj_L} {st : List Value} {M : mj_H} : mj_Rn d mj_m52 153 ls st M = mq_k6 M (mj_re none (.return_) st) := mj_R6 (r := (.return_, 1, 0, 0, 0)) rfl rfl
/- 54 PasskeyHouse$Store.learnCount(II)V -/
theorem s54_0 {d : Nat} {ls : mj_L} {st : List Value} {M : mj_H} : mj_Rn d mj_m54 0 ls st M = mq_k0 d mj_m54 1 ls M (mj_ldi (mj_lk ls 1) st) := mj_R0 (r := (.iload_n 1, 1, 0, 0, 0)) rfl rfl
theorem s54_1 {d : Nat} {ls : mj_L} {st : List Value} {M : mj_H} : mj_Rn d mj_m54 1 ls st M = mq_k2 d mj_m54 ls M (mj_br (.ifCond .ne 9) 1 st) := mj_R2 (r := (.ifCond .ne 9, 3, 0, 0, 0)) rfl rfl
theorem s54_4 {d : Nat} {ls : mj_L} {st : List Value} {M : mj_H} : mj_Rn d mj_m54 4 ls st M = mq_k0 d mj_m54 5 ls M (mj_lda (mj_lk ls 0) st) := mj_R0 (r := (.aload_n 0, 1, 0, 0, 0)) rfl rfl
theorem s54_5 {d : Nat} {ls : mj_L} {st : List Value} {M : mj_H} : mj_Rn d mj_m54 5 ls st M = mq_k0 d mj_m54 6 ls M (mj_ldi (mj_lk ls 2) st) := mj_R0 (r := (.iload_n 2, 1, 0, 0, 0)) rfl rfl
theorem s54_6 {d : Nat} {ls : mj_L} {st : List Value} {M : mj_H} : mj_Rn d mj_m54 6 ls st M = mq_k4 d mj_m54 9 ls (mq_pf 8 13 0 st M) := (mj_R4 (r := (.putfield 121, 3, 8, 13, 16522)) rfl rfl).trans (congrArg (mq_k4 d mj_m54 9 ls) (mq_pf_eq rfl rfl))
theorem s54_9 {d : Nat} {ls : mj_L} {st : List Value} {M : mj_H} : mj_Rn d mj_m54 9 ls st M = mq_k6 M (mj_re none (.return_) st) := mj_R6 (r := (.return_, 1, 0, 0, 0)) rfl rfl
theorem s54_10 {d : Nat} {ls : mj_L} {st : List Value} {M : mj_H} : mj_Rn d mj_m54 10 ls st M = mj_Rn d mj_m54 11 ls (.int 0 :: st) M := mj_R0 (r := (.iconst 0, 1, 0, 0, 0)) rfl rfl
theorem s54_11 {d : Nat} {ls : mj_L} {st : List Value} {M : mj_H} : mj_Rn d mj_m54 11 ls st M = mq_k1 d mj_m54 12 M (mj_lo 4 (.istore 3) ls st) := (mj_R1 (r := (.istore_n 3, 1, 0, 0, 0)) rfl rfl).trans (congrArg (mq_k1 d mj_m54 12 M) (mq_sti (k := 3)))
theorem s54_12 {d : Nat} {ls : mj_L} {st : List Value} {M : mj_H} : mj_Rn d mj_m54 12 ls st M = mq_k0 d mj_m54 13 ls M (mj_ldi (mj_lk ls 3) st) := mj_R0 (r := (.iload_n 3, 1, 0, 0, 0)) rfl rfl
theorem s54_13 {d : Nat} {ls : mj_L} {st : List Value} {M : mj_H} : mj_Rn d mj_m54 13 ls st M = mq_k0 d mj_m54 14 ls M (mj_lda (mj_lk ls 0) st) := mj_R0 (r := (.aload_n 0, 1, 0, 0, 0)) rfl rfl
theorem s54_14 {d : Nat} {ls : mj_L} {st : List Value} {M : mj_H} : mj_Rn d mj_m54 14 ls st M = mq_k0 d mj_m54 17 ls M (mq_gf 8 14 st M) := (mj_R3 (r := (.getfield 124, 3, 8, 14, 16526)) rfl rfl).trans (congrArg (mq_k0 d mj_m54 17 ls M) mq_gf_eq)
theorem s54_17 {d : Nat} {ls : mj_L} {st : List Value} {M : mj_H} : mj_Rn d mj_m54 17 ls st M = mq_k2 d mj_m54 ls M (mj_br (.if_icmp .ge 50) 17 st) := mj_R2 (r := (.if_icmp .ge 50, 3, 0, 0, 0)) rfl rfl
theorem s54_20 {d : Nat} {ls : mj_L} {st : List Value} {M : mj_H} : mj_Rn d mj_m54 20 ls st M = mq_k0 d mj_m54 21 ls M (mj_ldi (mj_lk ls 3) st) := mj_R0 (r := (.iload_n 3, 1, 0, 0, 0)) rfl rfl
theorem s54_21 {d : Nat} {ls : mj_L} {st : List Value} {M : mj_H} : mj_Rn d mj_m54 21 ls st M = mq_k0 d mj_m54 22 ls M (mj_lda (mj_lk ls 0) st) := mj_R0 (r := (.aload_n 0, 1, 0, 0, 0)) rfl rfl
theorem s54_22 {d : Nat} {ls : mj_L} {st : List Value} {M : mj_H} : mj_Rn d mj_m54 22 ls st M = mq_k0 d mj_m54 25 ls M (mq_gf 8 2 st M) := (mj_R3 (r := (.getfield 25, 3, 8, 2, 16486)) rfl rfl).trans (congrArg (mq_k0 d mj_m54 25 ls M) mq_gf_eq)
theorem s54_25 {d : Nat} {ls : mj_L} {st : List Value} {M : mj_H} : mj_Rn d mj_m54 25 ls st M = mq_k0 d mj_m54 26 ls M (mq_len st M) := (mj_R3 (r := (.arraylength, 1, 0, 0, 0)) rfl rfl).trans (congrArg (mq_k0 d mj_m54 26 ls M) mq_len_eq)
theorem s54_26 {d : Nat} {ls : mj_L} {st : List Value} {M : mj_H} : mj_Rn d mj_m54 26 ls st M = mq_k2 d mj_m54 ls M (mj_br (.if_icmp .ge 41) 26 st) := mj_R2 (r := (.if_icmp .ge 41, 3, 0, 0, 0)) rfl rfl
theorem s54_29 {d : Nat} {ls : mj_L} {st : List Value} {M : mj_H} : mj_Rn d mj_m54 29 ls st M = mq_k0 d mj_m54 30 ls M (mj_lda (mj_lk ls 0) st) := mj_R0 (r := (.aload_n 0, 1, 0, 0, 0)) rfl rfl
theorem s54_30 {d : Nat} {ls : mj_L} {st : List Value} {M : mj_H} : mj_Rn d mj_m54 30 ls st M = mq_k0 d mj_m54 33 ls M (mq_gf 8 2 st M) := (mj_R3 (r := (.getfield 25, 3, 8, 2, 16486)) rfl rfl).trans (congrArg (mq_k0 d mj_m54 33 ls M) mq_gf_eq)
theorem s54_33 {d : Nat} {ls : mj_L} {st : List Value} {M : mj_H} : mj_Rn d mj_m54 33 ls st M = mq_k0 d mj_m54 34 ls M (mj_ldi (mj_lk ls 3) st) := mj_R0 (r := (.iload_n 3, 1, 0, 0, 0)) rfl rfl
theorem s54_34 {d : Nat} {ls : mj_L} {st : List Value} {M : mj_H} : mj_Rn d mj_m54 34 ls st M = mq_k0 d mj_m54 35 ls M (mq_al [1004, 1005, 1006, 1007, 1008, 1009] st M) := (mj_R3 (r := (.aaload, 1, 0, 0, 0)) rfl rfl).trans (congrArg (mq_k0 d mj_m54 35 ls M) mq_ala_eq)
theorem s54_35 {d : Nat} {ls : mj_L} {st : List Value} {M : mj_H} : mj_Rn d mj_m54 35 ls st M = mq_k2 d mj_m54 ls M (mj_br (.ifnull 26) 35 st) := mj_R2 (r := (.ifnull 26, 3, 0, 0, 0)) rfl rfl
theorem s54_38 {d : Nat} {ls : mj_L} {st : List Value} {M : mj_H} : mj_Rn d mj_m54 38 ls st M = mq_k0 d mj_m54 39 ls M (mj_lda (mj_lk ls 0) st) := mj_R0 (r := (.aload_n 0, 1, 0, 0, 0)) rfl rfl
theorem s54_39 {d : Nat} {ls : mj_L} {st : List Value} {M : mj_H} : mj_Rn d mj_m54 39 ls st M = mq_k0 d mj_m54 42 ls M (mq_gf 8 2 st M) := (mj_R3 (r := (.getfield 25, 3, 8, 2, 16486)) rfl rfl).trans (congrArg (mq_k0 d mj_m54 42 ls M) mq_gf_eq)
theorem s54_42 {d : Nat} {ls : mj_L} {st : List Value} {M : mj_H} : mj_Rn d mj_m54 42 ls st M = mq_k0 d mj_m54 43 ls M (mj_ldi (mj_lk ls 3) st) := mj_R0 (r := (.iload_n 3, 1, 0, 0, 0)) rfl rfl
theorem s54_43 {d : Nat} {ls : mj_L} {st : List Value} {M : mj_H} : mj_Rn d mj_m54 43 ls st M = mq_k0 d mj_m54 44 ls M (mq_al [1004, 1005, 1006, 1007, 1008, 1009] st M) := (mj_R3 (r := (.aaload, 1, 0, 0, 0)) rfl rfl).trans (congrArg (mq_k0 d mj_m54 44 ls M) mq_ala_eq)
theorem s54_44 {d : Nat} {ls : mj_L} {st : List Value} {M : mj_H} : mj_Rn d mj_m54 44 ls st M = mq_k0 d mj_m54 47 ls M (mq_gf 2 0 st M) := (mj_R3 (r := (.getfield 143, 3, 2, 0, 16423)) rfl rfl).trans (congrArg (mq_k0 d mj_m54 47 ls M) mq_gf_eq)
theorem s54_47 {d : Nat} {ls : mj_L} {st : List Value} {M : mj_H} : mj_Rn d mj_m54 47 ls st M = mq_k0 d mj_m54 48 ls M (mj_ldi (mj_lk ls 1) st) := mj_R0 (r := (.iload_n 1, 1, 0, 0, 0)) rfl rfl
theorem s54_48 {d : Nat} {ls : mj_L} {st : List Value} {M : mj_H} : mj_Rn d mj_m54 48 ls st M = mq_k2 d mj_m54 ls M (mj_br (.if_icmp .ne 13) 48 st) := mj_R2 (r := (.if_icmp .ne 13, 3, 0, 0, 0)) rfl rfl
theorem s54_51 {d : Nat} {ls : mj_L} {st : List Value} {M : mj_H} : mj_Rn d mj_m54 51 ls st M = mq_k0 d mj_m54 52 ls M (mj_lda (mj_lk ls 0) st) := mj_R0 (r := (.aload_n 0, 1, 0, 0, 0)) rfl rfl
theorem s54_52 {d : Nat} {ls : mj_L} {st : List Value} {M : mj_H} : mj_Rn d mj_m54 52 ls st M = mq_k0 d mj_m54 55 ls M (mq_gf 8 2 st M) := (mj_R3 (r := (.getfield 25, 3, 8, 2, 16486)) rfl rfl).trans (congrArg (mq_k0 d mj_m54 55 ls M) mq_gf_eq)
theorem s54_55 {d : Nat} {ls : mj_L} {st : List Value} {M : mj_H} : mj_Rn d mj_m54 55 ls st M = mq_k0 d mj_m54 56 ls M (mj_ldi (mj_lk ls 3) st) := mj_R0 (r := (.iload_n 3, 1, 0, 0, 0)) rfl rfl
theorem s54_56 {d : Nat} {ls : mj_L} {st : List Value} {M : mj_H} : mj_Rn d mj_m54 56 ls st M = mq_k0 d mj_m54 57 ls M (mq_al [1004, 1005, 1006, 1007, 1008, 1009] st M) := (mj_R3 (r := (.aaload, 1, 0, 0, 0)) rfl rfl).trans (congrArg (mq_k0 d mj_m54 57 ls M) mq_ala_eq)
theorem s54_57 {d : Nat} {ls : mj_L} {st : List Value} {M : mj_H} : mj_Rn d mj_m54 57 ls st M = mq_k0 d mj_m54 58 ls M (mj_ldi (mj_lk ls 2) st) := mj_R0 (r := (.iload_n 2, 1, 0, 0, 0)) rfl rfl
theorem s54_58 {d : Nat} {ls : mj_L} {st : List Value} {M : mj_H} : mj_Rn d mj_m54 58 ls st M = mq_k4 d mj_m54 61 ls (mq_pf 2 5 0 st M) := (mj_R4 (r := (.putfield 146, 3, 2, 5, 16451)) rfl rfl).trans (congrArg (mq_k4 d mj_m54 61 ls) (mq_pf_eq rfl rfl))
theorem s54_61 {d : Nat} {ls : mj_L} {st : List Value} {M : mj_H} : mj_Rn d mj_m54 61 ls st M = mq_k1 d mj_m54 64 M (mj_lo 4 (.iinc 3 1) ls st) := mj_R1 (r := (.iinc 3 1, 3, 0, 0, 0)) rfl rfl
theorem s54_64 {d : Nat} {ls : mj_L} {st : List Value} {M : mj_H} : mj_Rn d mj_m54 64 ls st M = mj_Rn d mj_m54 12 ls st M := mj_R2 (r := (.goto (-52), 3, 0, 0, 0)) rfl rfl
theorem s54_67 {d : Nat} {ls : mj_L} {st : List Value} {M : mj_H} : mj_Rn d mj_m54 67 ls st M = mq_k6 M (mj_re none (.return_) st) := mj_R6 (r := (.return_, 1, 0, 0, 0)) rfl rfl
/- 55 PasskeyHouse$Store.learnCredential(II)V -/
theorem s55_0 {d : Nat} {ls : mj_L} {st : List Value} {M : mj_H} : mj_Rn d mj_m55 0 ls st M = mq_k0 d mj_m55 1 ls M (mj_lda (mj_lk ls 0) st) := mj_R0 (r := (.aload_n 0, 1, 0, 0, 0)) rfl rfl
theorem s55_1 {d : Nat} {ls : mj_L} {st : List Value} {M : mj_H} : mj_Rn d mj_m55 1 ls st M = mq_k0 d mj_m55 4 ls M (mq_gf 8 0 st M) := (mj_R3 (r := (.getfield 16, 3, 8, 0, 16480)) rfl rfl).trans (congrArg (mq_k0 d mj_m55 4 ls M) mq_gf_eq)
theorem s55_4 {d : Nat} {ls : mj_L} {st : List Value} {M : mj_H} : mj_Rn d mj_m55 4 ls st M = mq_k0 d mj_m55 5 ls M (mj_ldi (mj_lk ls 1) st) := mj_R0 (r := (.iload_n 1, 1, 0, 0, 0)) rfl rfl
theorem s55_5 {d : Nat} {ls : mj_L} {st : List Value} {M : mj_H} : mj_Rn d mj_m55 5 ls st M = mj_Rn d mj_m55 6 ls (.int 4 :: st) M := mj_R0 (r := (.iconst 4, 1, 0, 0, 0)) rfl rfl
theorem s55_6 {d : Nat} {ls : mj_L} {st : List Value} {M : mj_H} : mj_Rn d mj_m55 6 ls st M = mq_k0 d mj_m55 7 ls M (mj_pu .iadd ls st) := mj_R0 (r := (.iadd, 1, 0, 0, 0)) rfl rfl
theorem s55_7 {d : Nat} {ls : mj_L} {st : List Value} {M : mj_H} : mj_Rn d mj_m55 7 ls st M = mj_Rn d mj_m55 8 ls (.int 4 :: st) M := mj_R0 (r := (.iconst 4, 1, 0, 0, 0)) rfl rfl
theorem s55_8 {d : Nat} {ls : mj_L} {st : List Value} {M : mj_H} : mj_Rn (d + 1) mj_m55 8 ls st M = mq_k5a (d + 1) mj_m55 11 ls M 49 (mq_cb 0 2 1 st M) := mj_R5e (r := (.invokevirtual 105, 3, 0, 49, 12311)) (z := mj_m49) rfl rfl (by decide) (by decide) rfl
theorem s55_11 {d : Nat} {ls : mj_L} {st : List Value} {M : mj_H} : mj_Rn d mj_m55 11 ls st M = mq_k0 d mj_m55 12 ls M (mj_pu .l2i ls st) := mj_R0 (r := (.l2i, 1, 0, 0, 0)) rfl rfl
theorem s55_12 {d : Nat} {ls : mj_L} {st : List Value} {M : mj_H} : mj_Rn d mj_m55 12 ls st M = mq_k1 d mj_m55 13 M (mj_lo 8 (.istore 3) ls st) := (mj_R1 (r := (.istore_n 3, 1, 0, 0, 0)) rfl rfl).trans (congrArg (mq_k1 d mj_m55 13 M) (mq_sti (k := 3)))
theorem s55_13 {d : Nat} {ls : mj_L} {st : List Value} {M : mj_H} : mj_Rn d mj_m55 13 ls st M = mq_k0 d mj_m55 14 ls M (mj_lda (mj_lk ls 0) st) := mj_R0 (r := (.aload_n 0, 1, 0, 0, 0)) rfl rfl
theorem s55_14 {d : Nat} {ls : mj_L} {st : List Value} {M : mj_H} : mj_Rn d mj_m55 14 ls st M = mq_k0 d mj_m55 17 ls M (mq_gf 8 0 st M) := (mj_R3 (r := (.getfield 16, 3, 8, 0, 16480)) rfl rfl).trans (congrArg (mq_k0 d mj_m55 17 ls M) mq_gf_eq)
theorem s55_17 {d : Nat} {ls : mj_L} {st : List Value} {M : mj_H} : mj_Rn d mj_m55 17 ls st M = mq_k0 d mj_m55 18 ls M (mj_ldi (mj_lk ls 1) st) := mj_R0 (r := (.iload_n 1, 1, 0, 0, 0)) rfl rfl
theorem s55_18 {d : Nat} {ls : mj_L} {st : List Value} {M : mj_H} : mj_Rn d mj_m55 18 ls st M = mj_Rn d mj_m55 20 ls (.int 12 :: st) M := mj_R0 (r := (.bipush 12, 2, 0, 0, 0)) rfl rfl
theorem s55_20 {d : Nat} {ls : mj_L} {st : List Value} {M : mj_H} : mj_Rn d mj_m55 20 ls st M = mq_k0 d mj_m55 21 ls M (mj_pu .iadd ls st) := mj_R0 (r := (.iadd, 1, 0, 0, 0)) rfl rfl
theorem s55_21 {d : Nat} {ls : mj_L} {st : List Value} {M : mj_H} : mj_Rn d mj_m55 21 ls st M = mq_k0 d mj_m55 22 ls M (mj_ldi (mj_lk ls 2) st) := mj_R0 (r := (.iload_n 2, 1, 0, 0, 0)) rfl rfl
theorem s55_22 {d : Nat} {ls : mj_L} {st : List Value} {M : mj_H} : mj_Rn (d + 1) mj_m55 22 ls st M = mq_k5a (d + 1) mj_m55 25 ls M 49 (mq_cb 0 2 1 st M) := mj_R5e (r := (.invokevirtual 105, 3, 0, 49, 12311)) (z := mj_m49) rfl rfl (by decide) (by decide) rfl
theorem s55_25 {d : Nat} {ls : mj_L} {st : List Value} {M : mj_H} : mj_Rn d mj_m55 25 ls st M = mq_k1 d mj_m55 27 M (mj_lo 8 (.lstore 4) ls st) := mj_R1 (r := (.lstore 4, 2, 0, 0, 0)) rfl rfl
theorem s55_27 {d : Nat} {ls : mj_L} {st : List Value} {M : mj_H} : mj_Rn d mj_m55 27 ls st M = mq_k0 d mj_m55 28 ls M (mj_lda (mj_lk ls 0) st) := mj_R0 (r := (.aload_n 0, 1, 0, 0, 0)) rfl rfl
theorem s55_28 {d : Nat} {ls : mj_L} {st : List Value} {M : mj_H} : mj_Rn d mj_m55 28 ls st M = mq_k0 d mj_m55 29 ls M (mj_ldi (mj_lk ls 3) st) := mj_R0 (r := (.iload_n 3, 1, 0, 0, 0)) rfl rfl
theorem s55_29 {d : Nat} {ls : mj_L} {st : List Value} {M : mj_H} : mj_Rn d mj_m55 29 ls st M = mq_k0 d mj_m55 31 ls M (mj_ldl (mj_lk ls 4) st) := mj_R0 (r := (.lload 4, 2, 0, 0, 0)) rfl rfl
theorem s55_31 {d : Nat} {ls : mj_L} {st : List Value} {M : mj_H} : mj_Rn d mj_m55 31 ls st M = mq_k0 d mj_m55 32 ls M (mj_ldi (mj_lk ls 2) st) := mj_R0 (r := (.iload_n 2, 1, 0, 0, 0)) rfl rfl
theorem s55_32 {d : Nat} {ls : mj_L} {st : List Value} {M : mj_H} : mj_Rn (d + 1) mj_m55 32 ls st M = mq_k5a (d + 1) mj_m55 35 ls M 56 (mq_cb 0 3 8 st M) := mj_R5e (r := (.invokevirtual 147, 3, 0, 56, 12345)) (z := mj_m56) rfl rfl (by decide) (by decide) rfl
theorem s55_35 {d : Nat} {ls : mj_L} {st : List Value} {M : mj_H} : mj_Rn d mj_m55 35 ls st M = mq_k1 d mj_m55 37 M (mj_lo 8 (.istore 6) ls st) := mj_R1 (r := (.istore 6, 2, 0, 0, 0)) rfl rfl
theorem s55_37 {d : Nat} {ls : mj_L} {st : List Value} {M : mj_H} : mj_Rn d mj_m55 37 ls st M = mq_k0 d mj_m55 39 ls M (mj_ldi (mj_lk ls 6) st) := mj_R0 (r := (.iload 6, 2, 0, 0, 0)) rfl rfl
theorem s55_39 {d : Nat} {ls : mj_L} {st : List Value} {M : mj_H} : mj_Rn d mj_m55 39 ls st M = mq_k2 d mj_m55 ls M (mj_br (.ifCond .lt 23) 39 st) := mj_R2 (r := (.ifCond .lt 23, 3, 0, 0, 0)) rfl rfl
theorem s55_42 {d : Nat} {ls : mj_L} {st : List Value} {M : mj_H} : mj_Rn d mj_m55 42 ls st M = mq_k0 d mj_m55 44 ls M (mj_ldi (mj_lk ls 6) st) := mj_R0 (r := (.iload 6, 2, 0, 0, 0)) rfl rfl
theorem s55_44 {d : Nat} {ls : mj_L} {st : List Value} {M : mj_H} : mj_Rn d mj_m55 44 ls st M = mq_k0 d mj_m55 45 ls M (mj_lda (mj_lk ls 0) st) := mj_R0 (r := (.aload_n 0, 1, 0, 0, 0)) rfl rfl
theorem s55_45 {d : Nat} {ls : mj_L} {st : List Value} {M : mj_H} : mj_Rn d mj_m55 45 ls st M = mq_k0 d mj_m55 48 ls M (mq_gf 8 2 st M) := (mj_R3 (r := (.getfield 25, 3, 8, 2, 16486)) rfl rfl).trans (congrArg (mq_k0 d mj_m55 48 ls M) mq_gf_eq)
theorem s55_48 {d : Nat} {ls : mj_L} {st : List Value} {M : mj_H} : mj_Rn d mj_m55 48 ls st M = mq_k0 d mj_m55 49 ls M (mq_len st M) := (mj_R3 (r := (.arraylength, 1, 0, 0, 0)) rfl rfl).trans (congrArg (mq_k0 d mj_m55 49 ls M) mq_len_eq)
theorem s55_49 {d : Nat} {ls : mj_L} {st : List Value} {M : mj_H} : mj_Rn d mj_m55 49 ls st M = mq_k2 d mj_m55 ls M (mj_br (.if_icmp .ge 13) 49 st) := mj_R2 (r := (.if_icmp .ge 13, 3, 0, 0, 0)) rfl rfl
theorem s55_52 {d : Nat} {ls : mj_L} {st : List Value} {M : mj_H} : mj_Rn d mj_m55 52 ls st M = mq_k0 d mj_m55 53 ls M (mj_lda (mj_lk ls 0) st) := mj_R0 (r := (.aload_n 0, 1, 0, 0, 0)) rfl rfl
theorem s55_53 {d : Nat} {ls : mj_L} {st : List Value} {M : mj_H} : mj_Rn d mj_m55 53 ls st M = mq_k0 d mj_m55 56 ls M (mq_gf 8 2 st M) := (mj_R3 (r := (.getfield 25, 3, 8, 2, 16486)) rfl rfl).trans (congrArg (mq_k0 d mj_m55 56 ls M) mq_gf_eq)
theorem s55_56 {d : Nat} {ls : mj_L} {st : List Value} {M : mj_H} : mj_Rn d mj_m55 56 ls st M = mq_k0 d mj_m55 58 ls M (mj_ldi (mj_lk ls 6) st) := mj_R0 (r := (.iload 6, 2, 0, 0, 0)) rfl rfl
theorem s55_58 {d : Nat} {ls : mj_L} {st : List Value} {M : mj_H} : mj_Rn d mj_m55 58 ls st M = mq_k0 d mj_m55 59 ls M (mq_al [1004, 1005, 1006, 1007, 1008, 1009] st M) := (mj_R3 (r := (.aaload, 1, 0, 0, 0)) rfl rfl).trans (congrArg (mq_k0 d mj_m55 59 ls M) mq_ala_eq)
theorem s55_59 {d : Nat} {ls : mj_L} {st : List Value} {M : mj_H} : mj_Rn d mj_m55 59 ls st M = mq_k2 d mj_m55 ls M (mj_br (.ifnonnull 4) 59 st) := mj_R2 (r := (.ifnonnull 4, 3, 0, 0, 0)) rfl rfl
theorem s55_62 {d : Nat} {ls : mj_L} {st : List Value} {M : mj_H} : mj_Rn d mj_m55 62 ls st M = mq_k6 M (mj_re none (.return_) st) := mj_R6 (r := (.return_, 1, 0, 0, 0)) rfl rfl
theorem s55_63 {d : Nat} {ls : mj_L} {st : List Value} {M : mj_H} : mj_Rn d mj_m55 63 ls st M = mq_k0 d mj_m55 64 ls M (mj_lda (mj_lk ls 0) st) := mj_R0 (r := (.aload_n 0, 1, 0, 0, 0)) rfl rfl
theorem s55_64 {d : Nat} {ls : mj_L} {st : List Value} {M : mj_H} : mj_Rn d mj_m55 64 ls st M = mq_k0 d mj_m55 67 ls M (mq_gf 8 2 st M) := (mj_R3 (r := (.getfield 25, 3, 8, 2, 16486)) rfl rfl).trans (congrArg (mq_k0 d mj_m55 67 ls M) mq_gf_eq)
theorem s55_67 {d : Nat} {ls : mj_L} {st : List Value} {M : mj_H} : mj_Rn d mj_m55 67 ls st M = mq_k0 d mj_m55 69 ls M (mj_ldi (mj_lk ls 6) st) := mj_R0 (r := (.iload 6, 2, 0, 0, 0)) rfl rfl
theorem s55_69 {d : Nat} {ls : mj_L} {st : List Value} {M : mj_H} : mj_Rn d mj_m55 69 ls st M = mq_k0 d mj_m55 70 ls M (mq_al [1004, 1005, 1006, 1007, 1008, 1009] st M) := (mj_R3 (r := (.aaload, 1, 0, 0, 0)) rfl rfl).trans (congrArg (mq_k0 d mj_m55 70 ls M) mq_ala_eq)
theorem s55_70 {d : Nat} {ls : mj_L} {st : List Value} {M : mj_H} : mj_Rn d mj_m55 70 ls st M = mq_k1 d mj_m55 72 M (mj_lo 8 (.astore 7) ls st) := mj_R1 (r := (.astore 7, 2, 0, 0, 0)) rfl rfl
theorem s55_72 {d : Nat} {ls : mj_L} {st : List Value} {M : mj_H} : mj_Rn d mj_m55 72 ls st M = mq_k0 d mj_m55 74 ls M (mj_lda (mj_lk ls 7) st) := mj_R0 (r := (.aload 7, 2, 0, 0, 0)) rfl rfl
theorem s55_74 {d : Nat} {ls : mj_L} {st : List Value} {M : mj_H} : mj_Rn d mj_m55 74 ls st M = mq_k0 d mj_m55 75 ls M (mj_lda (mj_lk ls 0) st) := mj_R0 (r := (.aload_n 0, 1, 0, 0, 0)) rfl rfl
theorem s55_75 {d : Nat} {ls : mj_L} {st : List Value} {M : mj_H} : mj_Rn d mj_m55 75 ls st M = mq_k0 d mj_m55 78 ls M (mq_gf 8 0 st M) := (mj_R3 (r := (.getfield 16, 3, 8, 0, 16480)) rfl rfl).trans (congrArg (mq_k0 d mj_m55 78 ls M) mq_gf_eq)
theorem s55_78 {d : Nat} {ls : mj_L} {st : List Value} {M : mj_H} : mj_Rn d mj_m55 78 ls st M = mq_k0 d mj_m55 79 ls M (mj_ldi (mj_lk ls 1) st) := mj_R0 (r := (.iload_n 1, 1, 0, 0, 0)) rfl rfl
theorem s55_79 {d : Nat} {ls : mj_L} {st : List Value} {M : mj_H} : mj_Rn d mj_m55 79 ls st M = mj_Rn d mj_m55 80 ls (.int 4 :: st) M := mj_R0 (r := (.iconst 4, 1, 0, 0, 0)) rfl rfl
theorem s55_80 {d : Nat} {ls : mj_L} {st : List Value} {M : mj_H} : mj_Rn (d + 1) mj_m55 80 ls st M = mq_k5a (d + 1) mj_m55 83 ls M 49 (mq_cb 0 2 1 st M) := mj_R5e (r := (.invokevirtual 105, 3, 0, 49, 12311)) (z := mj_m49) rfl rfl (by decide) (by decide) rfl
theorem s55_83 {d : Nat} {ls : mj_L} {st : List Value} {M : mj_H} : mj_Rn d mj_m55 83 ls st M = mq_k0 d mj_m55 84 ls M (mj_pu .l2i ls st) := mj_R0 (r := (.l2i, 1, 0, 0, 0)) rfl rfl
theorem s55_84 {d : Nat} {ls : mj_L} {st : List Value} {M : mj_H} : mj_Rn d mj_m55 84 ls st M = mq_k4 d mj_m55 87 ls (mq_pf 2 0 0 st M) := (mj_R4 (r := (.putfield 143, 3, 2, 0, 16423)) rfl rfl).trans (congrArg (mq_k4 d mj_m55 87 ls) (mq_pf_eq rfl rfl))
theorem s55_87 {d : Nat} {ls : mj_L} {st : List Value} {M : mj_H} : mj_Rn d mj_m55 87 ls st M = mq_k0 d mj_m55 89 ls M (mj_lda (mj_lk ls 7) st) := mj_R0 (r := (.aload 7, 2, 0, 0, 0)) rfl rfl
theorem s55_89 {d : Nat} {ls : mj_L} {st : List Value} {M : mj_H} : mj_Rn d mj_m55 89 ls st M = mq_k0 d mj_m55 90 ls M (mj_ldi (mj_lk ls 3) st) := mj_R0 (r := (.iload_n 3, 1, 0, 0, 0)) rfl rfl
theorem s55_90 {d : Nat} {ls : mj_L} {st : List Value} {M : mj_H} : mj_Rn d mj_m55 90 ls st M = mq_k4 d mj_m55 93 ls (mq_pf 2 1 0 st M) := (mj_R4 (r := (.putfield 151, 3, 2, 1, 16429)) rfl rfl).trans (congrArg (mq_k4 d mj_m55 93 ls) (mq_pf_eq rfl rfl))
theorem s55_93 {d : Nat} {ls : mj_L} {st : List Value} {M : mj_H} : mj_Rn d mj_m55 93 ls st M = mq_k0 d mj_m55 95 ls M (mj_lda (mj_lk ls 7) st) := mj_R0 (r := (.aload 7, 2, 0, 0, 0)) rfl rfl
theorem s55_95 {d : Nat} {ls : mj_L} {st : List Value} {M : mj_H} : mj_Rn d mj_m55 95 ls st M = mq_k0 d mj_m55 96 ls M (mj_lda (mj_lk ls 0) st) := mj_R0 (r := (.aload_n 0, 1, 0, 0, 0)) rfl rfl
theorem s55_96 {d : Nat} {ls : mj_L} {st : List Value} {M : mj_H} : mj_Rn d mj_m55 96 ls st M = mq_k0 d mj_m55 99 ls M (mq_gf 8 0 st M) := (mj_R3 (r := (.getfield 16, 3, 8, 0, 16480)) rfl rfl).trans (congrArg (mq_k0 d mj_m55 99 ls M) mq_gf_eq)
theorem s55_99 {d : Nat} {ls : mj_L} {st : List Value} {M : mj_H} : mj_Rn d mj_m55 99 ls st M = mq_k0 d mj_m55 100 ls M (mj_ldi (mj_lk ls 1) st) := mj_R0 (r := (.iload_n 1, 1, 0, 0, 0)) rfl rfl
theorem s55_100 {d : Nat} {ls : mj_L} {st : List Value} {M : mj_H} : mj_Rn d mj_m55 100 ls st M = mj_Rn d mj_m55 102 ls (.int 8 :: st) M := mj_R0 (r := (.bipush 8, 2, 0, 0, 0)) rfl rfl
theorem s55_102 {d : Nat} {ls : mj_L} {st : List Value} {M : mj_H} : mj_Rn d mj_m55 102 ls st M = mq_k0 d mj_m55 103 ls M (mj_pu .iadd ls st) := mj_R0 (r := (.iadd, 1, 0, 0, 0)) rfl rfl
theorem s55_103 {d : Nat} {ls : mj_L} {st : List Value} {M : mj_H} : mj_Rn d mj_m55 103 ls st M = mj_Rn d mj_m55 104 ls (.int 4 :: st) M := mj_R0 (r := (.iconst 4, 1, 0, 0, 0)) rfl rfl
theorem s55_104 {d : Nat} {ls : mj_L} {st : List Value} {M : mj_H} : mj_Rn (d + 1) mj_m55 104 ls st M = mq_k5a (d + 1) mj_m55 107 ls M 49 (mq_cb 0 2 1 st M) := mj_R5e (r := (.invokevirtual 105, 3, 0, 49, 12311)) (z := mj_m49) rfl rfl (by decide) (by decide) rfl
theorem s55_107 {d : Nat} {ls : mj_L} {st : List Value} {M : mj_H} : mj_Rn d mj_m55 107 ls st M = mq_k0 d mj_m55 108 ls M (mj_pu .l2i ls st) := mj_R0 (r := (.l2i, 1, 0, 0, 0)) rfl rfl
theorem s55_108 {d : Nat} {ls : mj_L} {st : List Value} {M : mj_H} : mj_Rn d mj_m55 108 ls st M = mq_k4 d mj_m55 111 ls (mq_pf 2 2 0 st M) := (mj_R4 (r := (.putfield 154, 3, 2, 2, 16433)) rfl rfl).trans (congrArg (mq_k4 d mj_m55 111 ls) (mq_pf_eq rfl rfl))
theorem s55_111 {d : Nat} {ls : mj_L} {st : List Value} {M : mj_H} : mj_Rn d mj_m55 111 ls st M = mq_k0 d mj_m55 113 ls M (mj_lda (mj_lk ls 7) st) := mj_R0 (r := (.aload 7, 2, 0, 0, 0)) rfl rfl
theorem s55_113 {d : Nat} {ls : mj_L} {st : List Value} {M : mj_H} : mj_Rn d mj_m55 113 ls st M = mq_k0 d mj_m55 115 ls M (mj_ldl (mj_lk ls 4) st) := mj_R0 (r := (.lload 4, 2, 0, 0, 0)) rfl rfl
theorem s55_115 {d : Nat} {ls : mj_L} {st : List Value} {M : mj_H} : mj_Rn d mj_m55 115 ls st M = mq_k4 d mj_m55 118 ls (mq_pf 2 3 1 st M) := (mj_R4 (r := (.putfield 157, 3, 2, 3, 16439)) rfl rfl).trans (congrArg (mq_k4 d mj_m55 118 ls) (mq_pf_eq rfl rfl))
theorem s55_118 {d : Nat} {ls : mj_L} {st : List Value} {M : mj_H} : mj_Rn d mj_m55 118 ls st M = mq_k0 d mj_m55 120 ls M (mj_lda (mj_lk ls 7) st) := mj_R0 (r := (.aload 7, 2, 0, 0, 0)) rfl rfl
theorem s55_120 {d : Nat} {ls : mj_L} {st : List Value} {M : mj_H} : mj_Rn d mj_m55 120 ls st M = mq_k0 d mj_m55 121 ls M (mj_ldi (mj_lk ls 2) st) := mj_R0 (r := (.iload_n 2, 1, 0, 0, 0)) rfl rfl
theorem s55_121 {d : Nat} {ls : mj_L} {st : List Value} {M : mj_H} : mj_Rn d mj_m55 121 ls st M = mq_k4 d mj_m55 124 ls (mq_pf 2 4 0 st M) := (mj_R4 (r := (.putfield 161, 3, 2, 4, 16445)) rfl rfl).trans (congrArg (mq_k4 d mj_m55 124 ls) (mq_pf_eq rfl rfl))
theorem s55_124 {d : Nat} {ls : mj_L} {st : List Value} {M : mj_H} : mj_Rn d mj_m55 124 ls st M = mq_k0 d mj_m55 126 ls M (mj_lda (mj_lk ls 7) st) := mj_R0 (r := (.aload 7, 2, 0, 0, 0)) rfl rfl
theorem s55_126 {d : Nat} {ls : mj_L} {st : List Value} {M : mj_H} : mj_Rn d mj_m55 126 ls st M = mj_Rn d mj_m55 127 ls (.int 0 :: st) M := mj_R0 (r := (.iconst 0, 1, 0, 0, 0)) rfl rfl
theorem s55_127 {d : Nat} {ls : mj_L} {st : List Value} {M : mj_H} : mj_Rn d mj_m55 127 ls st M = mq_k4 d mj_m55 130 ls (mq_pf 2 5 0 st M) := (mj_R4 (r := (.putfield 146, 3, 2, 5, 16451)) rfl rfl).trans (congrArg (mq_k4 d mj_m55 130 ls) (mq_pf_eq rfl rfl))
theorem s55_130 {d : Nat} {ls : mj_L} {st : List Value} {M : mj_H} : mj_Rn d mj_m55 130 ls st M = mq_k0 d mj_m55 131 ls M (mj_lda (mj_lk ls 0) st) := mj_R0 (r := (.aload_n 0, 1, 0, 0, 0)) rfl rfl
theorem s55_131 {d : Nat} {ls : mj_L} {st : List Value} {M : mj_H} : mj_Rn d mj_m55 131 ls st M = mq_k0 d mj_m55 132 ls M (mj_lda (mj_lk ls 0) st) := mj_R0 (r := (.aload_n 0, 1, 0, 0, 0)) rfl rfl
theorem s55_132 {d : Nat} {ls : mj_L} {st : List Value} {M : mj_H} : mj_Rn d mj_m55 132 ls st M = mq_k0 d mj_m55 135 ls M (mq_gf 8 14 st M) := (mj_R3 (r := (.getfield 124, 3, 8, 14, 16526)) rfl rfl).trans (congrArg (mq_k0 d mj_m55 135 ls M) mq_gf_eq)
theorem s55_135 {d : Nat} {ls : mj_L} {st : List Value} {M : mj_H} : mj_Rn d mj_m55 135 ls st M = mq_k0 d mj_m55 137 ls M (mj_ldi (mj_lk ls 6) st) := mj_R0 (r := (.iload 6, 2, 0, 0, 0)) rfl rfl
theorem s55_137 {d : Nat} {ls : mj_L} {st : List Value} {M : mj_H} : mj_Rn d mj_m55 137 ls st M = mj_Rn d mj_m55 138 ls (.int 1 :: st) M := mj_R0 (r := (.iconst 1, 1, 0, 0, 0)) rfl rfl
theorem s55_138 {d : Nat} {ls : mj_L} {st : List Value} {M : mj_H} : mj_Rn d mj_m55 138 ls st M = mq_k0 d mj_m55 139 ls M (mj_pu .iadd ls st) := mj_R0 (r := (.iadd, 1, 0, 0, 0)) rfl rfl
theorem s55_139 {d : Nat} {ls : mj_L} {st : List Value} {M : mj_H} : mj_Rn (d + 1) mj_m55 139 ls st M = mq_k5a (d + 1) mj_m55 142 ls M 3 (mq_cb 2 2 999 st M) := mj_R5e (r := (.invokestatic 76, 3, 2, 3, 12315)) (z := mj_m3) rfl rfl (by decide) (by decide) rfl
theorem s55_142 {d : Nat} {ls : mj_L} {st : List Value} {M : mj_H} : mj_Rn d mj_m55 142 ls st M = mq_k4 d mj_m55 145 ls (mq_pf 8 14 0 st M) := (mj_R4 (r := (.putfield 124, 3, 8, 14, 16526)) rfl rfl).trans (congrArg (mq_k4 d mj_m55 145 ls) (mq_pf_eq rfl rfl))
theorem s55_145 {d : Nat} {ls : mj_L} {st : List Value} {M : mj_H} : mj_Rn d mj_m55 145 ls st M = mq_k6 M (mj_re none (.return_) st) := mj_R6 (r := (.return_, 1, 0, 0, 0)) rfl rfl
/- 56 PasskeyHouse$Store.placeOf(IJI)I -/
theorem s56_0 {d : Nat} {ls : mj_L} {st : List Value} {M : mj_H} : mj_Rn d mj_m56 0 ls st M = mj_Rn d mj_m56 1 ls (.int 0 :: st) M := mj_R0 (r := (.iconst 0, 1, 0, 0, 0)) rfl rfl
theorem s56_1 {d : Nat} {ls : mj_L} {st : List Value} {M : mj_H} : mj_Rn d mj_m56 1 ls st M = mq_k1 d mj_m56 3 M (mj_lo 7 (.istore 5) ls st) := mj_R1 (r := (.istore 5, 2, 0, 0, 0)) rfl rfl
theorem s56_3 {d : Nat} {ls : mj_L} {st : List Value} {M : mj_H} : mj_Rn d mj_m56 3 ls st M = mq_k0 d mj_m56 5 ls M (mj_ldi (mj_lk ls 5) st) := mj_R0 (r := (.iload 5, 2, 0, 0, 0)) rfl rfl
theorem s56_5 {d : Nat} {ls : mj_L} {st : List Value} {M : mj_H} : mj_Rn d mj_m56 5 ls st M = mq_k0 d mj_m56 6 ls M (mj_lda (mj_lk ls 0) st) := mj_R0 (r := (.aload_n 0, 1, 0, 0, 0)) rfl rfl
theorem s56_6 {d : Nat} {ls : mj_L} {st : List Value} {M : mj_H} : mj_Rn d mj_m56 6 ls st M = mq_k0 d mj_m56 9 ls M (mq_gf 8 14 st M) := (mj_R3 (r := (.getfield 124, 3, 8, 14, 16526)) rfl rfl).trans (congrArg (mq_k0 d mj_m56 9 ls M) mq_gf_eq)
theorem s56_9 {d : Nat} {ls : mj_L} {st : List Value} {M : mj_H} : mj_Rn d mj_m56 9 ls st M = mq_k2 d mj_m56 ls M (mj_br (.if_icmp .ge 65) 9 st) := mj_R2 (r := (.if_icmp .ge 65, 3, 0, 0, 0)) rfl rfl
theorem s56_12 {d : Nat} {ls : mj_L} {st : List Value} {M : mj_H} : mj_Rn d mj_m56 12 ls st M = mq_k0 d mj_m56 14 ls M (mj_ldi (mj_lk ls 5) st) := mj_R0 (r := (.iload 5, 2, 0, 0, 0)) rfl rfl
theorem s56_14 {d : Nat} {ls : mj_L} {st : List Value} {M : mj_H} : mj_Rn d mj_m56 14 ls st M = mq_k0 d mj_m56 15 ls M (mj_lda (mj_lk ls 0) st) := mj_R0 (r := (.aload_n 0, 1, 0, 0, 0)) rfl rfl
theorem s56_15 {d : Nat} {ls : mj_L} {st : List Value} {M : mj_H} : mj_Rn d mj_m56 15 ls st M = mq_k0 d mj_m56 18 ls M (mq_gf 8 2 st M) := (mj_R3 (r := (.getfield 25, 3, 8, 2, 16486)) rfl rfl).trans (congrArg (mq_k0 d mj_m56 18 ls M) mq_gf_eq)
theorem s56_18 {d : Nat} {ls : mj_L} {st : List Value} {M : mj_H} : mj_Rn d mj_m56 18 ls st M = mq_k0 d mj_m56 19 ls M (mq_len st M) := (mj_R3 (r := (.arraylength, 1, 0, 0, 0)) rfl rfl).trans (congrArg (mq_k0 d mj_m56 19 ls M) mq_len_eq)
theorem s56_19 {d : Nat} {ls : mj_L} {st : List Value} {M : mj_H} : mj_Rn d mj_m56 19 ls st M = mq_k2 d mj_m56 ls M (mj_br (.if_icmp .ge 55) 19 st) := mj_R2 (r := (.if_icmp .ge 55, 3, 0, 0, 0)) rfl rfl
theorem s56_22 {d : Nat} {ls : mj_L} {st : List Value} {M : mj_H} : mj_Rn d mj_m56 22 ls st M = mq_k0 d mj_m56 23 ls M (mj_lda (mj_lk ls 0) st) := mj_R0 (r := (.aload_n 0, 1, 0, 0, 0)) rfl rfl
theorem s56_23 {d : Nat} {ls : mj_L} {st : List Value} {M : mj_H} : mj_Rn d mj_m56 23 ls st M = mq_k0 d mj_m56 26 ls M (mq_gf 8 2 st M) := (mj_R3 (r := (.getfield 25, 3, 8, 2, 16486)) rfl rfl).trans (congrArg (mq_k0 d mj_m56 26 ls M) mq_gf_eq)
theorem s56_26 {d : Nat} {ls : mj_L} {st : List Value} {M : mj_H} : mj_Rn d mj_m56 26 ls st M = mq_k0 d mj_m56 28 ls M (mj_ldi (mj_lk ls 5) st) := mj_R0 (r := (.iload 5, 2, 0, 0, 0)) rfl rfl
theorem s56_28 {d : Nat} {ls : mj_L} {st : List Value} {M : mj_H} : mj_Rn d mj_m56 28 ls st M = mq_k0 d mj_m56 29 ls M (mq_al [1004, 1005, 1006, 1007, 1008, 1009] st M) := (mj_R3 (r := (.aaload, 1, 0, 0, 0)) rfl rfl).trans (congrArg (mq_k0 d mj_m56 29 ls M) mq_ala_eq)
theorem s56_29 {d : Nat} {ls : mj_L} {st : List Value} {M : mj_H} : mj_Rn d mj_m56 29 ls st M = mq_k1 d mj_m56 31 M (mj_lo 7 (.astore 6) ls st) := mj_R1 (r := (.astore 6, 2, 0, 0, 0)) rfl rfl
theorem s56_31 {d : Nat} {ls : mj_L} {st : List Value} {M : mj_H} : mj_Rn d mj_m56 31 ls st M = mq_k0 d mj_m56 33 ls M (mj_lda (mj_lk ls 6) st) := mj_R0 (r := (.aload 6, 2, 0, 0, 0)) rfl rfl
theorem s56_33 {d : Nat} {ls : mj_L} {st : List Value} {M : mj_H} : mj_Rn d mj_m56 33 ls st M = mq_k2 d mj_m56 ls M (mj_br (.ifnull 35) 33 st) := mj_R2 (r := (.ifnull 35, 3, 0, 0, 0)) rfl rfl
theorem s56_36 {d : Nat} {ls : mj_L} {st : List Value} {M : mj_H} : mj_Rn d mj_m56 36 ls st M = mq_k0 d mj_m56 38 ls M (mj_lda (mj_lk ls 6) st) := mj_R0 (r := (.aload 6, 2, 0, 0, 0)) rfl rfl
theorem s56_38 {d : Nat} {ls : mj_L} {st : List Value} {M : mj_H} : mj_Rn d mj_m56 38 ls st M = mq_k0 d mj_m56 41 ls M (mq_gf 2 1 st M) := (mj_R3 (r := (.getfield 151, 3, 2, 1, 16429)) rfl rfl).trans (congrArg (mq_k0 d mj_m56 41 ls M) mq_gf_eq)
theorem s56_41 {d : Nat} {ls : mj_L} {st : List Value} {M : mj_H} : mj_Rn d mj_m56 41 ls st M = mq_k0 d mj_m56 42 ls M (mj_ldi (mj_lk ls 1) st) := mj_R0 (r := (.iload_n 1, 1, 0, 0, 0)) rfl rfl
theorem s56_42 {d : Nat} {ls : mj_L} {st : List Value} {M : mj_H} : mj_Rn d mj_m56 42 ls st M = mq_k2 d mj_m56 ls M (mj_br (.if_icmp .ne 26) 42 st) := mj_R2 (r := (.if_icmp .ne 26, 3, 0, 0, 0)) rfl rfl
theorem s56_45 {d : Nat} {ls : mj_L} {st : List Value} {M : mj_H} : mj_Rn d mj_m56 45 ls st M = mq_k0 d mj_m56 47 ls M (mj_lda (mj_lk ls 6) st) := mj_R0 (r := (.aload 6, 2, 0, 0, 0)) rfl rfl
theorem s56_47 {d : Nat} {ls : mj_L} {st : List Value} {M : mj_H} : mj_Rn d mj_m56 47 ls st M = mq_k0 d mj_m56 50 ls M (mq_gf 2 3 st M) := (mj_R3 (r := (.getfield 157, 3, 2, 3, 16439)) rfl rfl).trans (congrArg (mq_k0 d mj_m56 50 ls M) mq_gf_eq)
theorem s56_50 {d : Nat} {ls : mj_L} {st : List Value} {M : mj_H} : mj_Rn d mj_m56 50 ls st M = mq_k0 d mj_m56 51 ls M (mj_ldl (mj_lk ls 2) st) := mj_R0 (r := (.lload_n 2, 1, 0, 0, 0)) rfl rfl
theorem s56_51 {d : Nat} {ls : mj_L} {st : List Value} {M : mj_H} : mj_Rn d mj_m56 51 ls st M = mq_k0 d mj_m56 52 ls M (mj_pu .lcmp ls st) := mj_R0 (r := (.lcmp, 1, 0, 0, 0)) rfl rfl
theorem s56_52 {d : Nat} {ls : mj_L} {st : List Value} {M : mj_H} : mj_Rn d mj_m56 52 ls st M = mq_k2 d mj_m56 ls M (mj_br (.ifCond .ne 16) 52 st) := mj_R2 (r := (.ifCond .ne 16, 3, 0, 0, 0)) rfl rfl
theorem s56_55 {d : Nat} {ls : mj_L} {st : List Value} {M : mj_H} : mj_Rn d mj_m56 55 ls st M = mq_k0 d mj_m56 57 ls M (mj_lda (mj_lk ls 6) st) := mj_R0 (r := (.aload 6, 2, 0, 0, 0)) rfl rfl
theorem s56_57 {d : Nat} {ls : mj_L} {st : List Value} {M : mj_H} : mj_Rn d mj_m56 57 ls st M = mq_k0 d mj_m56 60 ls M (mq_gf 2 4 st M) := (mj_R3 (r := (.getfield 161, 3, 2, 4, 16445)) rfl rfl).trans (congrArg (mq_k0 d mj_m56 60 ls M) mq_gf_eq)
theorem s56_60 {d : Nat} {ls : mj_L} {st : List Value} {M : mj_H} : mj_Rn d mj_m56 60 ls st M = mq_k0 d mj_m56 62 ls M (mj_ldi (mj_lk ls 4) st) := mj_R0 (r := (.iload 4, 2, 0, 0, 0)) rfl rfl
theorem s56_62 {d : Nat} {ls : mj_L} {st : List Value} {M : mj_H} : mj_Rn d mj_m56 62 ls st M = mq_k2 d mj_m56 ls M (mj_br (.if_icmp .ne 6) 62 st) := mj_R2 (r := (.if_icmp .ne 6, 3, 0, 0, 0)) rfl rfl
theorem s56_65 {d : Nat} {ls : mj_L} {st : List Value} {M : mj_H} : mj_Rn d mj_m56 65 ls st M = mq_k0 d mj_m56 67 ls M (mj_ldi (mj_lk ls 5) st) := mj_R0 (r := (.iload 5, 2, 0, 0, 0)) rfl rfl
theorem s56_67 {d : Nat} {ls : mj_L} {st : List Value} {M : mj_H} : mj_Rn d mj_m56 67 ls st M = mq_k6 M (mj_re (some .int) (.ireturn) st) := mj_R6 (r := (.ireturn, 1, 0, 0, 0)) rfl rfl
theorem s56_68 {d : Nat} {ls : mj_L} {st : List Value} {M : mj_H} : mj_Rn d mj_m56 68 ls st M = mq_k1 d mj_m56 71 M (mj_lo 7 (.iinc 5 1) ls st) := mj_R1 (r := (.iinc 5 1, 3, 0, 0, 0)) rfl rfl
theorem s56_71 {d : Nat} {ls : mj_L} {st : List Value} {M : mj_H} : mj_Rn d mj_m56 71 ls st M = mj_Rn d mj_m56 3 ls st M := mj_R2 (r := (.goto (-68), 3, 0, 0, 0)) rfl rfl
theorem s56_74 {d : Nat} {ls : mj_L} {st : List Value} {M : mj_H} : mj_Rn d mj_m56 74 ls st M = mq_k0 d mj_m56 75 ls M (mj_lda (mj_lk ls 0) st) := mj_R0 (r := (.aload_n 0, 1, 0, 0, 0)) rfl rfl
theorem s56_75 {d : Nat} {ls : mj_L} {st : List Value} {M : mj_H} : mj_Rn d mj_m56 75 ls st M = mq_k0 d mj_m56 78 ls M (mq_gf 8 14 st M) := (mj_R3 (r := (.getfield 124, 3, 8, 14, 16526)) rfl rfl).trans (congrArg (mq_k0 d mj_m56 78 ls M) mq_gf_eq)
theorem s56_78 {d : Nat} {ls : mj_L} {st : List Value} {M : mj_H} : mj_Rn d mj_m56 78 ls st M = mq_k6 M (mj_re (some .int) (.ireturn) st) := mj_R6 (r := (.ireturn, 1, 0, 0, 0)) rfl rfl
theorem c52 {d : Nat} {a0 : Nat} {x1 : Int32} {M : mj_H} : mj_V (d + 1) 52 [.ref a0, .int x1] M = mj_Rn d mj_m52 0 [(0, .ref a0), (1, .int x1)] [] M := mj_V_go rfl (Nat.le_of_ble_eq_true rfl)
theorem c54 {d : Nat} {a0 : Nat} {x1 : Int32} {x2 : Int32} {M : mj_H} : mj_V (d + 1) 54 [.ref a0, .int x1, .int x2] M = mj_Rn d mj_m54 0 [(0, .ref a0), (1, .int x1), (2, .int x2)] [] M := mj_V_go rfl (Nat.le_of_ble_eq_true rfl)
theorem c55 {d : Nat} {a0 : Nat} {x1 : Int32} {x2 : Int32} {M : mj_H} : mj_V (d + 1) 55 [.ref a0, .int x1, .int x2] M = mj_Rn d mj_m55 0 [(0, .ref a0), (1, .int x1), (2, .int x2)] [] M := mj_V_go rfl (Nat.le_of_ble_eq_true rfl)
theorem c56 {d : Nat} {a0 : Nat} {x1 : Int32} {x2 : Int64} {x3 : Int32} {M : mj_H} : mj_V (d + 1) 56 [.ref a0, .int x1, .long x2, .int x3] M = mj_Rn d mj_m56 0 [(0, .ref a0), (1, .int x1), (2, .long x2), (4, .int x3)] [] M := mj_V_go rfl (Nat.le_of_ble_eq_true rfl)
theorem ks.cred {M : mj_H} {κ i : Nat} {s : Fl} {r : List Int32} {c : Cr} (h : ks M κ s r) (hi : i < s.2.2.2.2.2.2.2.2.2.2.2.length) : ks (M.set (κ + 7 + i) (cc c)) κ ((s.1, (s.2.1, (s.2.2.1, (s.2.2.2.1, (s.2.2.2.2.1, (s.2.2.2.2.2.1, (s.2.2.2.2.2.2.1, ((s.2.2.2.2.2.2.2.1, (s.2.2.2.2.2.2.2.2.1, (s.2.2.2.2.2.2.2.2.2.1, (s.2.2.2.2.2.2.2.2.2.2.1, s.2.2.2.2.2.2.2.2.2.2.2.set i c)))) : St)))))))) : Fl) r := by
  have h8 := h.l8
  obtain ⟨c0, hc0⟩ := h.cx i (by omega)
  have hl := mq_lt hc0
  have hlo := h.lo
  have e : ∀ a, a ≠ κ + 7 + i → (M.set (κ + 7 + i) (cc c))[a]? = M[a]? := fun a ha => List.getElem?_set_ne (fun z => ha z.symm)
  refine (ks_mk_ h.lo ?_ (h.ce.fr (e _ (by omega)) (e _ (by omega))) (h.rb.fr (e _ (by omega)) (e _ (by omega))) ((e _ (by omega)).trans h.ca) ?_ ?_ (by simpa using h.l8) ((e _ (by omega)).trans h.s1) ((e _ (by omega)).trans h.s2))
  · rw [e _ (by omega), h.ob]; simp [so]
  · intro j c' hj
    rw [List.getElem?_set] at hj
    by_cases hij : i = j
    · subst hij
      simp [hi] at hj
      rw [← hj, List.getElem?_set_self hl]
    · simp [hij] at hj
      rw [e _ (by omega)]
      exact h.cr j c' hj
  · intro j hj
    by_cases hij : i = j
    · subst hij
      exact ⟨c, List.getElem?_set_self hl⟩
    · obtain ⟨c', hc'⟩ := h.cx j hj
      exact ⟨c', (e _ (by omega)).trans hc'⟩
/-- one more stands -/
theorem ks.more {M : mj_H} {κ : Nat} {s : Fl} {r : List Int32} {c : Cr} (h : ks M κ s r) (hi : s.2.2.2.2.2.2.2.2.2.2.2.length < 8) : ks ((M.set (κ + 7 + s.2.2.2.2.2.2.2.2.2.2.2.length) (cc c)).set (κ + 1) (so κ ((s.1, (s.2.1, (s.2.2.1, (s.2.2.2.1, (s.2.2.2.2.1, (s.2.2.2.2.2.1, (s.2.2.2.2.2.2.1, ((s.2.2.2.2.2.2.2.1, (s.2.2.2.2.2.2.2.2.1, (s.2.2.2.2.2.2.2.2.2.1, (s.2.2.2.2.2.2.2.2.2.2.1, s.2.2.2.2.2.2.2.2.2.2.2 ++ [c])))) : St)))))))) : Fl))) κ ((s.1, (s.2.1, (s.2.2.1, (s.2.2.2.1, (s.2.2.2.2.1, (s.2.2.2.2.2.1, (s.2.2.2.2.2.2.1, ((s.2.2.2.2.2.2.2.1, (s.2.2.2.2.2.2.2.2.1, (s.2.2.2.2.2.2.2.2.2.1, (s.2.2.2.2.2.2.2.2.2.2.1, s.2.2.2.2.2.2.2.2.2.2.2 ++ [c])))) : St)))))))) : Fl) r := by
  obtain ⟨c0, hc0⟩ := h.cx s.2.2.2.2.2.2.2.2.2.2.2.length hi
  have hl := mq_lt hc0
  have hl1 := mq_lt h.ob
  have hlo := h.lo
  have e : ∀ a, a ≠ κ + 7 + s.2.2.2.2.2.2.2.2.2.2.2.length → a ≠ κ + 1 → ((M.set (κ + 7 + s.2.2.2.2.2.2.2.2.2.2.2.length) (cc c)).set (κ + 1) (so κ ((s.1, (s.2.1, (s.2.2.1, (s.2.2.2.1, (s.2.2.2.2.1, (s.2.2.2.2.2.1, (s.2.2.2.2.2.2.1, ((s.2.2.2.2.2.2.2.1, (s.2.2.2.2.2.2.2.2.1, (s.2.2.2.2.2.2.2.2.2.1, (s.2.2.2.2.2.2.2.2.2.2.1, s.2.2.2.2.2.2.2.2.2.2.2 ++ [c])))) : St)))))))) : Fl)))[a]? = M[a]? := fun a ha hb => by rw [List.getElem?_set_ne (fun z => hb z.symm), List.getElem?_set_ne (fun z => ha z.symm)]
  have e2 : ((M.set (κ + 7 + s.2.2.2.2.2.2.2.2.2.2.2.length) (cc c)).set (κ + 1) (so κ ((s.1, (s.2.1, (s.2.2.1, (s.2.2.2.1, (s.2.2.2.2.1, (s.2.2.2.2.2.1, (s.2.2.2.2.2.2.1, ((s.2.2.2.2.2.2.2.1, (s.2.2.2.2.2.2.2.2.1, (s.2.2.2.2.2.2.2.2.2.1, (s.2.2.2.2.2.2.2.2.2.2.1, s.2.2.2.2.2.2.2.2.2.2.2 ++ [c])))) : St)))))))) : Fl)))[κ + 7 + s.2.2.2.2.2.2.2.2.2.2.2.length]? = some (cc c) := by rw [List.getElem?_set_ne (by omega), List.getElem?_set_self hl]
  refine (ks_mk_ h.lo (List.getElem?_set_self (by simpa using hl1)) (h.ce.fr (e _ (by omega) (by omega)) (e _ (by omega) (by omega))) (h.rb.fr (e _ (by omega) (by omega)) (e _ (by omega) (by omega))) ((e _ (by omega) (by omega)).trans h.ca) ?_ ?_ (by simp; omega) ((e _ (by omega) (by omega)).trans h.s1) ((e _ (by omega) (by omega)).trans h.s2))
  · intro j c' hj
    rw [List.getElem?_append] at hj
    split at hj
    · next hlt => rw [e _ (by omega) (by omega)]; exact h.cr j c' hj
    · next hge =>
      have hj0 : j = s.2.2.2.2.2.2.2.2.2.2.2.length := by
        have := (List.getElem?_eq_some_iff.mp hj).1
        simp at this; omega
      subst hj0
      simp at hj
      rw [← hj]; exact e2
  · intro j hj
    by_cases hij : s.2.2.2.2.2.2.2.2.2.2.2.length = j
    · subst hij; exact ⟨c, e2⟩
    · obtain ⟨c', hc'⟩ := h.cx j hj
      exact ⟨c', (e _ (by omega) (by omega)).trans hc'⟩
def cntf (id n : Int32) (c : Cr) : Cr := if c.1 = id then ((c.1, (c.2.1, (c.2.2.1, (c.2.2.2.1, n)))) : Cr) else c
theorem l_count {d κ : Nat} {id n : Int32} {r : List Int32} {L : List Cr} : ∀ (m i : Nat) (s : Fl) (M : mj_H), i + m = L.length → s.2.2.2.2.2.2.2.2.2.2.2 = (L.take i).map (cntf id n) ++ L.drop i → ks M κ s r → ∃ M', mj_Rn d mj_m54 12 [(3, .int (nI i)), (0, .ref (κ + 1)), (1, .int id), (2, .int n)] [] M = some (none, M') ∧ ks M' κ ((s.1, (s.2.1, (s.2.2.1, (s.2.2.2.1, (s.2.2.2.2.1, (s.2.2.2.2.2.1, (s.2.2.2.2.2.2.1, ((s.2.2.2.2.2.2.2.1, (s.2.2.2.2.2.2.2.2.1, (s.2.2.2.2.2.2.2.2.2.1, (s.2.2.2.2.2.2.2.2.2.2.1, L.map (cntf id n))))) : St)))))))) : Fl) r ∧ kf κ M M' := by
  intro m
  induction m with
  | zero =>
    intro i s M hi hcr h
    have hob := h.ob
    unfold so at hob
    rw [List.take_of_length_le (by omega), List.drop_eq_nil_of_le (by omega), List.append_nil] at hcr
    have hl : s.2.2.2.2.2.2.2.2.2.2.2.length = L.length := by rw [hcr]; simp
    have h8 := h.l8
    refine ⟨M, ?_, by rw [← hcr]; exact h, kf.rf⟩
    rw [hl] at hob h8
    simp (disch := (first | omega | decide)) [s54_0, s54_1, s54_4, s54_5, s54_6, s54_9, s54_10, s54_11, s54_12, s54_13, s54_14, s54_17, s54_20, s54_21, s54_22, s54_25, s54_26, s54_29, s54_30, s54_33, s54_34, s54_35, s54_38, s54_39, s54_42, s54_43, s54_44, s54_47, s54_48, s54_51, s54_52, s54_55, s54_56, s54_57, s54_58, s54_61, s54_64, s54_67, mq_k0s, mq_k1s, mq_k2s, mq_k4s, mq_k5s, mq_k5n, mq_k5as, mq_k6s, mj_pu, mj_lo, mj_br, mj_hr, mj_hw, mq_gf, mq_len, mq_al, mq_pf, mq_ok, mj_re, mq_lkm, mq_lkn, mj_ldi, mj_ldl, mj_lda, mj_ii, mj_ll, mj_li, mj_i1, ms_1, ms_2, f1_n, f1_i, f1_r, f1_u, f1_l, f2_n, f2_i, f2_r, f2_u, f2_l, mj_tg, mj_c1, mj_c2, mj_ar, mj_aw, mq_cb, mq_oi, mj_rm, Value.category, -getElem?_pos, List.getElem?_cons_zero, decide_eq_true, decide_eq_false, nl_lt, nl_le, ln_lt, ln_le, nl_eq, ln_eq, nl_add, ln_add, nl_sub, ln_mul, nI_sub, nI_mul, nI_add, nI_lt_iff, nI_le_iff, nI_inj, nI_num, mq_ix, nI_1, nl_mul, nl_div, hob]
  | succ m ih =>
    intro i s M hi hcr h
    have hob := h.ob
    unfold so at hob
    have hl : s.2.2.2.2.2.2.2.2.2.2.2.length = L.length := by rw [hcr]; simp; omega
    have h8 := h.l8
    have hiL : i < L.length := by omega
    have hci : s.2.2.2.2.2.2.2.2.2.2.2[i]? = some L[i] := by
      rw [hcr, List.getElem?_append_right (by simp; omega), List.length_map, List.length_take, Nat.min_eq_left (by omega), Nat.sub_self, List.getElem?_drop, Nat.add_zero, List.getElem?_eq_getElem hiL]
    have hcc := h.cr i _ hci
    have hcc0 := hcc
    unfold cc at hcc
    have ha : M[κ + 6]? = some (1007, kl κ) := h.ca
    have e1 := kl_at (κ := κ) (show i < 8 by omega)
    have e2 := kl_len (κ := κ)
    have hx : s.2.2.2.2.2.2.2.2.2.2.2.set i (cntf id n L[i]) = (L.take (i + 1)).map (cntf id n) ++ L.drop (i + 1) := by
      rw [hcr, List.set_append_right _ _ (by simp; omega), List.length_map, List.length_take, Nat.min_eq_left (by omega), Nat.sub_self, List.drop_eq_getElem_cons hiL, List.set_cons_zero, List.take_succ_eq_append_getElem hiL, List.map_append, List.append_assoc]
      rfl
    generalize kl κ = zs at *
    rw [hl] at hob
    by_cases hid : L[i].1 = id
    · have ef : cntf id n L[i] = (((L[i]).1, ((L[i]).2.1, ((L[i]).2.2.1, ((L[i]).2.2.2.1, n)))) : Cr) := by simp [cntf, hid]
      have k1 := h.cred (c := cntf id n L[i]) (i := i) (by omega)
      rw [hx] at k1
      obtain ⟨M3, p3, k3, f3⟩ := ih (i + 1) _ _ (by omega) rfl k1
      refine ⟨M3, ?_, k3, (kf.st (by omega)).tr f3⟩
      rw [s54_12]
      have hlo := h.lo
      have hh : ¬ κ + 7 + i < 25 := by omega
      rw [ef] at p3
      unfold cc at p3
      dsimp only at p3
      rw [hid] at hcc p3
      simp (disch := (first | omega | decide)) [s54_0, s54_1, s54_4, s54_5, s54_6, s54_9, s54_10, s54_11, s54_13, s54_14, s54_17, s54_20, s54_21, s54_22, s54_25, s54_26, s54_29, s54_30, s54_33, s54_34, s54_35, s54_38, s54_39, s54_42, s54_43, s54_44, s54_47, s54_48, s54_51, s54_52, s54_55, s54_56, s54_57, s54_58, s54_61, s54_64, s54_67, mq_k0s, mq_k1s, mq_k2s, mq_k4s, mq_k5s, mq_k5n, mq_k5as, mq_k6s, mj_pu, mj_lo, mj_br, mj_hr, mj_hw, mq_gf, mq_len, mq_al, mq_pf, mq_ok, mj_re, mq_lkm, mq_lkn, mj_ldi, mj_ldl, mj_lda, mj_ii, mj_ll, mj_li, mj_i1, ms_1, ms_2, f1_n, f1_i, f1_r, f1_u, f1_l, f2_n, f2_i, f2_r, f2_u, f2_l, mj_tg, mj_c1, mj_c2, mj_ar, mj_aw, mq_cb, mq_oi, mj_rm, Value.category, -getElem?_pos, List.getElem?_cons_zero, decide_eq_true, decide_eq_false, nl_lt, nl_le, ln_lt, ln_le, nl_eq, ln_eq, nl_add, ln_add, nl_sub, ln_mul, nI_sub, nI_mul, nI_add, nI_lt_iff, nI_le_iff, nI_inj, nI_num, mq_ix, nI_1, nl_mul, nl_div, hob, ha, e1, e2, hcc, narrow, mj_E, hh]
      refine mq_wk ?_ p3
      simp [mq_sub, mj_lk]
    · have ef : cntf id n L[i] = L[i] := by simp [cntf, hid]
      have hs : s.2.2.2.2.2.2.2.2.2.2.2.set i (cntf id n L[i]) = s.2.2.2.2.2.2.2.2.2.2.2 := by
        rw [ef]
        obtain ⟨hq, he⟩ := List.getElem?_eq_some_iff.mp hci
        rw [← he, List.set_getElem_self]
      rw [hs] at hx
      obtain ⟨M3, p3, k3, f3⟩ := ih (i + 1) s M (by omega) hx h
      refine ⟨M3, ?_, k3, f3⟩
      rw [s54_12]
      simp (disch := (first | omega | decide)) [s54_0, s54_1, s54_4, s54_5, s54_6, s54_9, s54_10, s54_11, s54_13, s54_14, s54_17, s54_20, s54_21, s54_22, s54_25, s54_26, s54_29, s54_30, s54_33, s54_34, s54_35, s54_38, s54_39, s54_42, s54_43, s54_44, s54_47, s54_48, s54_51, s54_52, s54_55, s54_56, s54_57, s54_58, s54_61, s54_64, s54_67, mq_k0s, mq_k1s, mq_k2s, mq_k4s, mq_k5s, mq_k5n, mq_k5as, mq_k6s, mj_pu, mj_lo, mj_br, mj_hr, mj_hw, mq_gf, mq_len, mq_al, mq_pf, mq_ok, mj_re, mq_lkm, mq_lkn, mj_ldi, mj_ldl, mj_lda, mj_ii, mj_ll, mj_li, mj_i1, ms_1, ms_2, f1_n, f1_i, f1_r, f1_u, f1_l, f2_n, f2_i, f2_r, f2_u, f2_l, mj_tg, mj_c1, mj_c2, mj_ar, mj_aw, mq_cb, mq_oi, mj_rm, Value.category, -getElem?_pos, List.getElem?_cons_zero, decide_eq_true, decide_eq_false, nl_lt, nl_le, ln_lt, ln_le, nl_eq, ln_eq, nl_add, ln_add, nl_sub, ln_mul, nI_sub, nI_mul, nI_add, nI_lt_iff, nI_le_iff, nI_inj, nI_num, mq_ix, nI_1, nl_mul, nl_div, hob, ha, e1, e2, hcc, hid]
      refine mq_wk ?_ p3
      simp [mq_sub, mj_lk]
theorem st_lcount {d κ : Nat} {id n : Int32} {s : Fl} {r : List Int32} {M : mj_H} (h : ks M κ s r) : ∃ M', mj_V (d + 1) 54 [.ref (κ + 1), .int id, .int n] M = some (none, M') ∧ ks M' κ ((s.1, (s.2.1, (s.2.2.1, (s.2.2.2.1, (s.2.2.2.2.1, (s.2.2.2.2.2.1, (s.2.2.2.2.2.2.1, fs_count s.2.2.2.2.2.2.2 id n))))))) : Fl) r ∧ kf κ M M' := by
  have hob := h.ob
  unfold so at hob
  unfold fs_count
  by_cases h0 : id = 0
  · subst h0
    have k1 := h.set (s' := ((s.1, (s.2.1, (s.2.2.1, (s.2.2.2.1, (s.2.2.2.2.1, (s.2.2.2.2.2.1, (s.2.2.2.2.2.2.1, ((s.2.2.2.2.2.2.2.1, (s.2.2.2.2.2.2.2.2.1, (s.2.2.2.2.2.2.2.2.2.1, (n, s.2.2.2.2.2.2.2.2.2.2.2)))) : St)))))))) : Fl)) rfl rfl
    have hlo := h.lo
    have hl := mq_lt h.ob
    have hh : ¬ κ + 1 < 25 := by omega
    refine ⟨_, ?_, by simpa using k1, kf.st (by omega)⟩
    simp (disch := (first | omega | decide)) [c54, s54_0, s54_1, s54_4, s54_5, s54_6, s54_9, s54_10, s54_11, s54_13, s54_14, s54_17, s54_20, s54_21, s54_22, s54_25, s54_26, s54_29, s54_30, s54_33, s54_34, s54_35, s54_38, s54_39, s54_42, s54_43, s54_44, s54_47, s54_48, s54_51, s54_52, s54_55, s54_56, s54_57, s54_58, s54_61, s54_64, s54_67, mq_k0s, mq_k1s, mq_k2s, mq_k4s, mq_k5s, mq_k5n, mq_k5as, mq_k6s, mj_pu, mj_lo, mj_br, mj_hr, mj_hw, mq_gf, mq_len, mq_al, mq_pf, mq_ok, mj_re, mq_lkm, mq_lkn, mj_ldi, mj_ldl, mj_lda, mj_ii, mj_ll, mj_li, mj_i1, ms_1, ms_2, f1_n, f1_i, f1_r, f1_u, f1_l, f2_n, f2_i, f2_r, f2_u, f2_l, mj_tg, mj_c1, mj_c2, mj_ar, mj_aw, mq_cb, mq_oi, mj_rm, Value.category, -getElem?_pos, List.getElem?_cons_zero, decide_eq_true, decide_eq_false, nl_lt, nl_le, ln_lt, ln_le, nl_eq, ln_eq, nl_add, ln_add, nl_sub, ln_mul, nI_sub, nI_mul, nI_add, nI_lt_iff, nI_le_iff, nI_inj, nI_num, mq_ix, nI_1, nl_mul, nl_div, hob, narrow, mj_E, hl, hh, so]
  · obtain ⟨M1, p1, k1, f1⟩ := l_count (d := d) (id := id) (n := n) (L := s.2.2.2.2.2.2.2.2.2.2.2) s.2.2.2.2.2.2.2.2.2.2.2.length 0 s M (by omega) (by simp) h
    refine ⟨M1, ?_, by rw [if_neg h0]; exact k1, f1⟩
    simp (disch := (first | omega | decide)) [c54, s54_0, s54_1, s54_4, s54_5, s54_6, s54_9, s54_10, s54_11, s54_13, s54_14, s54_17, s54_20, s54_21, s54_22, s54_25, s54_26, s54_29, s54_30, s54_33, s54_34, s54_35, s54_38, s54_39, s54_42, s54_43, s54_44, s54_47, s54_48, s54_51, s54_52, s54_55, s54_56, s54_57, s54_58, s54_61, s54_64, s54_67, mq_k0s, mq_k1s, mq_k2s, mq_k4s, mq_k5s, mq_k5n, mq_k5as, mq_k6s, mj_pu, mj_lo, mj_br, mj_hr, mj_hw, mq_gf, mq_len, mq_al, mq_pf, mq_ok, mj_re, mq_lkm, mq_lkn, mj_ldi, mj_ldl, mj_lda, mj_ii, mj_ll, mj_li, mj_i1, ms_1, ms_2, f1_n, f1_i, f1_r, f1_u, f1_l, f2_n, f2_i, f2_r, f2_u, f2_l, mj_tg, mj_c1, mj_c2, mj_ar, mj_aw, mq_cb, mq_oi, mj_rm, Value.category, -getElem?_pos, List.getElem?_cons_zero, decide_eq_true, decide_eq_false, nl_lt, nl_le, ln_lt, ln_le, nl_eq, ln_eq, nl_add, ln_add, nl_sub, ln_mul, nI_sub, nI_mul, nI_add, nI_lt_iff, nI_le_iff, nI_inj, nI_num, mq_ix, nI_1, nl_mul, nl_div, h0]
    exact p1
theorem l_place {d κ : Nat} {party : Int32} {u : List Int32} {s : Fl} {r : List Int32} {M : mj_H} (h : ks M κ s r) (hu : okU s.2.2.2.2.2.2.2.2.2.2.2) (hul : u.length ≤ 8) (hub : ∀ v ∈ u, v &&& 255 = v) : ∀ (m i : Nat), i + m = s.2.2.2.2.2.2.2.2.2.2.2.length → mj_Rn d mj_m56 3 [(5, .int (nI i)), (0, .ref (κ + 1)), (1, .int party), (2, .long (bt_lo u)), (4, .int (nI u.length))] [] M = some (some (.int (nI (i + fs_pl (s.2.2.2.2.2.2.2.2.2.2.2.drop i) party u))), M) := by
  have hob := h.ob
  unfold so at hob
  have h8 := h.l8
  have ha : M[κ + 6]? = some (1007, kl κ) := h.ca
  have e2 := kl_len (κ := κ)
  intro m
  induction m with
  | zero =>
    intro i hi
    rw [List.drop_eq_nil_of_le (by omega)]
    have : fs_pl [] party u = 0 := rfl
    rw [this, show i + 0 = s.2.2.2.2.2.2.2.2.2.2.2.length by omega]
    simp (disch := (first | omega | decide)) [s56_0, s56_1, s56_3, s56_5, s56_6, s56_9, s56_12, s56_14, s56_15, s56_18, s56_19, s56_22, s56_23, s56_26, s56_28, s56_29, s56_31, s56_33, s56_36, s56_38, s56_41, s56_42, s56_45, s56_47, s56_50, s56_51, s56_52, s56_55, s56_57, s56_60, s56_62, s56_65, s56_67, s56_68, s56_71, s56_74, s56_75, s56_78, mq_k0s, mq_k1s, mq_k2s, mq_k4s, mq_k5s, mq_k5n, mq_k5as, mq_k6s, mj_pu, mj_lo, mj_br, mj_hr, mj_hw, mq_gf, mq_len, mq_al, mq_pf, mq_ok, mj_re, mq_lkm, mq_lkn, mj_ldi, mj_ldl, mj_lda, mj_ii, mj_ll, mj_li, mj_i1, ms_1, ms_2, f1_n, f1_i, f1_r, f1_u, f1_l, f2_n, f2_i, f2_r, f2_u, f2_l, mj_tg, mj_c1, mj_c2, mj_ar, mj_aw, mq_cb, mq_oi, mj_rm, Value.category, -getElem?_pos, List.getElem?_cons_zero, decide_eq_true, decide_eq_false, nl_lt, nl_le, ln_lt, ln_le, nl_eq, ln_eq, nl_add, ln_add, nl_sub, ln_mul, nI_sub, nI_mul, nI_add, nI_lt_iff, nI_le_iff, nI_inj, nI_num, mq_ix, nI_1, nl_mul, nl_div, hob, narrow]
  | succ m ih =>
    intro i hi
    have hiL : i < s.2.2.2.2.2.2.2.2.2.2.2.length := by omega
    have hcc := h.cr i _ (List.getElem?_eq_getElem hiL)
    have hus := hu _ (List.getElem_mem hiL)
    have e1 := kl_at (κ := κ) (show i < 8 by omega)
    have ep : fs_pl (s.2.2.2.2.2.2.2.2.2.2.2.drop i) party u = if s.2.2.2.2.2.2.2.2.2.2.2[i].2.1 = party ∧ s.2.2.2.2.2.2.2.2.2.2.2[i].2.2.2.1 = u then 0 else fs_pl (s.2.2.2.2.2.2.2.2.2.2.2.drop (i + 1)) party u + 1 := by
      rw [List.drop_eq_getElem_cons hiL]
      unfold fs_pl
      rw [List.findIdx_cons]
      by_cases hq : s.2.2.2.2.2.2.2.2.2.2.2[i].2.1 = party ∧ s.2.2.2.2.2.2.2.2.2.2.2[i].2.2.2.1 = u <;> simp [hq]
    rw [ep]
    generalize s.2.2.2.2.2.2.2.2.2.2.2[i] = c at *
    unfold cc at hcc
    have r1 := ih (i + 1) (by omega)
    generalize kl κ = zs at *
    rw [s56_3]
    by_cases q1 : c.2.1 = party
    · by_cases q2 : bt_lo c.2.2.2.1 = bt_lo u
      · by_cases q3 : c.2.2.2.1.length = u.length
        · have q4 : c.2.2.2.1 = u := bt_lo_inj hus.2 hub hus.1 q3 q2
          rw [if_pos ⟨q1, q4⟩]
          simp (disch := (first | omega | decide)) [s56_0, s56_1, s56_5, s56_6, s56_9, s56_12, s56_14, s56_15, s56_18, s56_19, s56_22, s56_23, s56_26, s56_28, s56_29, s56_31, s56_33, s56_36, s56_38, s56_41, s56_42, s56_45, s56_47, s56_50, s56_51, s56_52, s56_55, s56_57, s56_60, s56_62, s56_65, s56_67, s56_68, s56_71, s56_74, s56_75, s56_78, mq_k0s, mq_k1s, mq_k2s, mq_k4s, mq_k5s, mq_k5n, mq_k5as, mq_k6s, mj_pu, mj_lo, mj_br, mj_hr, mj_hw, mq_gf, mq_len, mq_al, mq_pf, mq_ok, mj_re, mq_lkm, mq_lkn, mj_ldi, mj_ldl, mj_lda, mj_ii, mj_ll, mj_li, mj_i1, ms_1, ms_2, f1_n, f1_i, f1_r, f1_u, f1_l, f2_n, f2_i, f2_r, f2_u, f2_l, mj_tg, mj_c1, mj_c2, mj_ar, mj_aw, mq_cb, mq_oi, mj_rm, Value.category, -getElem?_pos, List.getElem?_cons_zero, decide_eq_true, decide_eq_false, nl_lt, nl_le, ln_lt, ln_le, nl_eq, ln_eq, nl_add, ln_add, nl_sub, ln_mul, nI_sub, nI_mul, nI_add, nI_lt_iff, nI_le_iff, nI_inj, nI_num, mq_ix, nI_1, nl_mul, nl_div, nL_lt, nL_le, nL_eq, nL_l, nL_i, nLl_lt, nLl_le, nLl_eq, lnL_lt, lnL_le, lg_cmp_ge, lg_cmp_le, lg_cmp_gt, lg_cmp_lt, lg_cmp_eq, hob, ha, e1, e2, hcc, q1, q2, q3, narrow]
        · rw [if_neg (fun z => q3 (by rw [z.2]))]
          simp (disch := (first | omega | decide)) [s56_0, s56_1, s56_5, s56_6, s56_9, s56_12, s56_14, s56_15, s56_18, s56_19, s56_22, s56_23, s56_26, s56_28, s56_29, s56_31, s56_33, s56_36, s56_38, s56_41, s56_42, s56_45, s56_47, s56_50, s56_51, s56_52, s56_55, s56_57, s56_60, s56_62, s56_65, s56_67, s56_68, s56_71, s56_74, s56_75, s56_78, mq_k0s, mq_k1s, mq_k2s, mq_k4s, mq_k5s, mq_k5n, mq_k5as, mq_k6s, mj_pu, mj_lo, mj_br, mj_hr, mj_hw, mq_gf, mq_len, mq_al, mq_pf, mq_ok, mj_re, mq_lkm, mq_lkn, mj_ldi, mj_ldl, mj_lda, mj_ii, mj_ll, mj_li, mj_i1, ms_1, ms_2, f1_n, f1_i, f1_r, f1_u, f1_l, f2_n, f2_i, f2_r, f2_u, f2_l, mj_tg, mj_c1, mj_c2, mj_ar, mj_aw, mq_cb, mq_oi, mj_rm, Value.category, -getElem?_pos, List.getElem?_cons_zero, decide_eq_true, decide_eq_false, nl_lt, nl_le, ln_lt, ln_le, nl_eq, ln_eq, nl_add, ln_add, nl_sub, ln_mul, nI_sub, nI_mul, nI_add, nI_lt_iff, nI_le_iff, nI_inj, nI_num, mq_ix, nI_1, nl_mul, nl_div, nL_lt, nL_le, nL_eq, nL_l, nL_i, nLl_lt, nLl_le, nLl_eq, lnL_lt, lnL_le, lg_cmp_ge, lg_cmp_le, lg_cmp_gt, lg_cmp_lt, lg_cmp_eq, hob, ha, e1, e2, hcc, q1, q2, q3]
          refine mq_wk ?_ (by rw [show i + (fs_pl (s.2.2.2.2.2.2.2.2.2.2.2.drop (i + 1)) party u + 1) = i + 1 + fs_pl (s.2.2.2.2.2.2.2.2.2.2.2.drop (i + 1)) party u by omega]; exact r1)
          simp [mq_sub, mj_lk]
      · rw [if_neg (fun z => q2 (by rw [z.2]))]
        simp (disch := (first | omega | decide)) [s56_0, s56_1, s56_5, s56_6, s56_9, s56_12, s56_14, s56_15, s56_18, s56_19, s56_22, s56_23, s56_26, s56_28, s56_29, s56_31, s56_33, s56_36, s56_38, s56_41, s56_42, s56_45, s56_47, s56_50, s56_51, s56_52, s56_55, s56_57, s56_60, s56_62, s56_65, s56_67, s56_68, s56_71, s56_74, s56_75, s56_78, mq_k0s, mq_k1s, mq_k2s, mq_k4s, mq_k5s, mq_k5n, mq_k5as, mq_k6s, mj_pu, mj_lo, mj_br, mj_hr, mj_hw, mq_gf, mq_len, mq_al, mq_pf, mq_ok, mj_re, mq_lkm, mq_lkn, mj_ldi, mj_ldl, mj_lda, mj_ii, mj_ll, mj_li, mj_i1, ms_1, ms_2, f1_n, f1_i, f1_r, f1_u, f1_l, f2_n, f2_i, f2_r, f2_u, f2_l, mj_tg, mj_c1, mj_c2, mj_ar, mj_aw, mq_cb, mq_oi, mj_rm, Value.category, -getElem?_pos, List.getElem?_cons_zero, decide_eq_true, decide_eq_false, nl_lt, nl_le, ln_lt, ln_le, nl_eq, ln_eq, nl_add, ln_add, nl_sub, ln_mul, nI_sub, nI_mul, nI_add, nI_lt_iff, nI_le_iff, nI_inj, nI_num, mq_ix, nI_1, nl_mul, nl_div, nL_lt, nL_le, nL_eq, nL_l, nL_i, nLl_lt, nLl_le, nLl_eq, lnL_lt, lnL_le, lg_cmp_ge, lg_cmp_le, lg_cmp_gt, lg_cmp_lt, lg_cmp_eq, hob, ha, e1, e2, hcc, q1, q2]
        refine mq_wk ?_ (by rw [show i + (fs_pl (s.2.2.2.2.2.2.2.2.2.2.2.drop (i + 1)) party u + 1) = i + 1 + fs_pl (s.2.2.2.2.2.2.2.2.2.2.2.drop (i + 1)) party u by omega]; exact r1)
        simp [mq_sub, mj_lk]
    · rw [if_neg (fun z => q1 z.1)]
      simp (disch := (first | omega | decide)) [s56_0, s56_1, s56_5, s56_6, s56_9, s56_12, s56_14, s56_15, s56_18, s56_19, s56_22, s56_23, s56_26, s56_28, s56_29, s56_31, s56_33, s56_36, s56_38, s56_41, s56_42, s56_45, s56_47, s56_50, s56_51, s56_52, s56_55, s56_57, s56_60, s56_62, s56_65, s56_67, s56_68, s56_71, s56_74, s56_75, s56_78, mq_k0s, mq_k1s, mq_k2s, mq_k4s, mq_k5s, mq_k5n, mq_k5as, mq_k6s, mj_pu, mj_lo, mj_br, mj_hr, mj_hw, mq_gf, mq_len, mq_al, mq_pf, mq_ok, mj_re, mq_lkm, mq_lkn, mj_ldi, mj_ldl, mj_lda, mj_ii, mj_ll, mj_li, mj_i1, ms_1, ms_2, f1_n, f1_i, f1_r, f1_u, f1_l, f2_n, f2_i, f2_r, f2_u, f2_l, mj_tg, mj_c1, mj_c2, mj_ar, mj_aw, mq_cb, mq_oi, mj_rm, Value.category, -getElem?_pos, List.getElem?_cons_zero, decide_eq_true, decide_eq_false, nl_lt, nl_le, ln_lt, ln_le, nl_eq, ln_eq, nl_add, ln_add, nl_sub, ln_mul, nI_sub, nI_mul, nI_add, nI_lt_iff, nI_le_iff, nI_inj, nI_num, mq_ix, nI_1, nl_mul, nl_div, nL_lt, nL_le, nL_eq, nL_l, nL_i, nLl_lt, nLl_le, nLl_eq, lnL_lt, lnL_le, lg_cmp_ge, lg_cmp_le, lg_cmp_gt, lg_cmp_lt, lg_cmp_eq, hob, ha, e1, e2, hcc, q1]
      refine mq_wk ?_ (by rw [show i + (fs_pl (s.2.2.2.2.2.2.2.2.2.2.2.drop (i + 1)) party u + 1) = i + 1 + fs_pl (s.2.2.2.2.2.2.2.2.2.2.2.drop (i + 1)) party u by omega]; exact r1)
      simp [mq_sub, mj_lk]
theorem st_place {d κ : Nat} {party : Int32} {u : List Int32} {s : Fl} {r : List Int32} {M : mj_H} (h : ks M κ s r) (hu : okU s.2.2.2.2.2.2.2.2.2.2.2) (hul : u.length ≤ 8) (hub : ∀ v ∈ u, v &&& 255 = v) : mj_V (d + 1) 56 [.ref (κ + 1), .int party, .long (bt_lo u), .int (nI u.length)] M = some (some (.int (nI (fs_pl s.2.2.2.2.2.2.2.2.2.2.2 party u))), M) := by
  have r1 := l_place (d := d) (party := party) h hu hul hub s.2.2.2.2.2.2.2.2.2.2.2.length 0 (by omega)
  rw [Nat.zero_add, List.drop_zero] at r1
  simp (disch := (first | omega | decide)) [c56, s56_0, s56_1, s56_5, s56_6, s56_9, s56_12, s56_14, s56_15, s56_18, s56_19, s56_22, s56_23, s56_26, s56_28, s56_29, s56_31, s56_33, s56_36, s56_38, s56_41, s56_42, s56_45, s56_47, s56_50, s56_51, s56_52, s56_55, s56_57, s56_60, s56_62, s56_65, s56_67, s56_68, s56_71, s56_74, s56_75, s56_78, mq_k0s, mq_k1s, mq_k2s, mq_k4s, mq_k5s, mq_k5n, mq_k5as, mq_k6s, mj_pu, mj_lo, mj_br, mj_hr, mj_hw, mq_gf, mq_len, mq_al, mq_pf, mq_ok, mj_re, mq_lkm, mq_lkn, mj_ldi, mj_ldl, mj_lda, mj_ii, mj_ll, mj_li, mj_i1, ms_1, ms_2, f1_n, f1_i, f1_r, f1_u, f1_l, f2_n, f2_i, f2_r, f2_u, f2_l, mj_tg, mj_c1, mj_c2, mj_ar, mj_aw, mq_cb, mq_oi, mj_rm, Value.category, -getElem?_pos, List.getElem?_cons_zero, decide_eq_true, decide_eq_false, nl_lt, nl_le, ln_lt, ln_le, nl_eq, ln_eq, nl_add, ln_add, nl_sub, ln_mul, nI_sub, nI_mul, nI_add, nI_lt_iff, nI_le_iff, nI_inj, nI_num, mq_ix, nI_1, nl_mul, nl_div]
  exact r1
end
