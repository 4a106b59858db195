/- 9s.hk -/
section
set_option maxRecDepth 512
/-! Class: the house: judging, accounts and logins. -/
/- 222 PasskeyHouse$Party.whyNoAccount(LPasskeyHouse$Terms;LPasskeyHouse$Bytes;LPasskeyHouse$Offer;)I -/
theorem s222_0 {d : Nat} {ls : mj_L} {st : List Value} {M : mj_H} : mj_Rn d mj_m222 0 ls st M = mj_Rn d mj_m222 2 ls (.int 6 :: st) M := mj_R0 (r := (.bipush 6, 2, 0, 0, 0)) rfl rfl
theorem s222_2 {d : Nat} {ls : mj_L} {st : List Value} {M : mj_H} : mj_Rn d mj_m222 2 ls st M = mq_k0 d mj_m222 3 ls M (mj_lda (mj_lk ls 0) st) := mj_R0 (r := (.aload_n 0, 1, 0, 0, 0)) rfl rfl
theorem s222_3 {d : Nat} {ls : mj_L} {st : List Value} {M : mj_H} : mj_Rn d mj_m222 3 ls st M = mq_k0 d mj_m222 6 ls M (mq_gf 7 0 st M) := (mj_R3 (r := (.getfield 14, 3, 7, 0, 49358)) rfl rfl).trans (congrArg (mq_k0 d mj_m222 6 ls M) mq_gf_eq)
theorem s222_6 {d : Nat} {ls : mj_L} {st : List Value} {M : mj_H} : mj_Rn (d + 1) mj_m222 6 ls st M = mq_k5a (d + 1) mj_m222 9 ls M 9 (mq_cb 0 0 1 st M) := mj_R5e (r := (.invokevirtual 80, 3, 0, 9, 24743)) (z := mj_m9) rfl rfl (by decide) (by decide) rfl
theorem s222_9 {d : Nat} {ls : mj_L} {st : List Value} {M : mj_H} : mj_Rn d mj_m222 9 ls st M = mq_k0 d mj_m222 10 ls M (mj_pu .iadd ls st) := mj_R0 (r := (.iadd, 1, 0, 0, 0)) rfl rfl
theorem s222_10 {d : Nat} {ls : mj_L} {st : List Value} {M : mj_H} : mj_Rn d mj_m222 10 ls st M = mq_k1 d mj_m222 12 M (mj_lo 10 (.istore 4) ls st) := mj_R1 (r := (.istore 4, 2, 0, 0, 0)) rfl rfl
theorem s222_12 {d : Nat} {ls : mj_L} {st : List Value} {M : mj_H} : mj_Rn d mj_m222 12 ls st M = mq_k0 d mj_m222 14 ls M (mj_ldi (mj_lk ls 4) st) := mj_R0 (r := (.iload 4, 2, 0, 0, 0)) rfl rfl
theorem s222_14 {d : Nat} {ls : mj_L} {st : List Value} {M : mj_H} : mj_Rn d mj_m222 14 ls st M = mj_Rn d mj_m222 15 ls (.int 5 :: st) M := mj_R0 (r := (.iconst 5, 1, 0, 0, 0)) rfl rfl
theorem s222_15 {d : Nat} {ls : mj_L} {st : List Value} {M : mj_H} : mj_Rn d mj_m222 15 ls st M = mq_k0 d mj_m222 16 ls M (mj_pu .iadd ls st) := mj_R0 (r := (.iadd, 1, 0, 0, 0)) rfl rfl
theorem s222_16 {d : Nat} {ls : mj_L} {st : List Value} {M : mj_H} : mj_Rn d mj_m222 16 ls st M = mq_k1 d mj_m222 18 M (mj_lo 10 (.istore 5) ls st) := mj_R1 (r := (.istore 5, 2, 0, 0, 0)) rfl rfl
theorem s222_18 {d : Nat} {ls : mj_L} {st : List Value} {M : mj_H} : mj_Rn d mj_m222 18 ls st M = mq_k0 d mj_m222 19 ls M (mj_lda (mj_lk ls 2) st) := mj_R0 (r := (.aload_n 2, 1, 0, 0, 0)) rfl rfl
theorem s222_19 {d : Nat} {ls : mj_L} {st : List Value} {M : mj_H} : mj_Rn d mj_m222 19 ls st M = mq_k0 d mj_m222 21 ls M (mj_ldi (mj_lk ls 4) st) := mj_R0 (r := (.iload 4, 2, 0, 0, 0)) rfl rfl
theorem s222_21 {d : Nat} {ls : mj_L} {st : List Value} {M : mj_H} : mj_Rn d mj_m222 21 ls st M = mj_Rn d mj_m222 22 ls (.int 4 :: st) M := mj_R0 (r := (.iconst 4, 1, 0, 0, 0)) rfl rfl
theorem s222_22 {d : Nat} {ls : mj_L} {st : List Value} {M : mj_H} : mj_Rn d mj_m222 22 ls st M = mq_k0 d mj_m222 23 ls M (mj_pu .iadd ls st) := mj_R0 (r := (.iadd, 1, 0, 0, 0)) rfl rfl
theorem s222_23 {d : Nat} {ls : mj_L} {st : List Value} {M : mj_H} : mj_Rn (d + 1) mj_m222 23 ls st M = mq_k5a (d + 1) mj_m222 26 ls M 14 (mq_cb 0 1 1 st M) := mj_R5e (r := (.invokevirtual 73, 3, 0, 14, 24732)) (z := mj_m14) rfl rfl (by decide) (by decide) rfl
theorem s222_26 {d : Nat} {ls : mj_L} {st : List Value} {M : mj_H} : mj_Rn d mj_m222 26 ls st M = mj_Rn d mj_m222 28 ls (.int 17 :: st) M := mj_R0 (r := (.bipush 17, 2, 0, 0, 0)) rfl rfl
theorem s222_28 {d : Nat} {ls : mj_L} {st : List Value} {M : mj_H} : mj_Rn d mj_m222 28 ls st M = mq_k2 d mj_m222 ls M (mj_br (.if_icmp .eq 5) 28 st) := mj_R2 (r := (.if_icmp .eq 5, 3, 0, 0, 0)) rfl rfl
theorem s222_31 {d : Nat} {ls : mj_L} {st : List Value} {M : mj_H} : mj_Rn d mj_m222 31 ls st M = mj_Rn d mj_m222 32 ls (.int 4 :: st) M := mj_R0 (r := (.iconst 4, 1, 0, 0, 0)) rfl rfl
theorem s222_32 {d : Nat} {ls : mj_L} {st : List Value} {M : mj_H} : mj_Rn d mj_m222 32 ls st M = mq_k6 M (mj_re (some .int) (.ireturn) st) := mj_R6 (r := (.ireturn, 1, 0, 0, 0)) rfl rfl
theorem s222_33 {d : Nat} {ls : mj_L} {st : List Value} {M : mj_H} : mj_Rn d mj_m222 33 ls st M = mq_k0 d mj_m222 34 ls M (mj_lda (mj_lk ls 0) st) := mj_R0 (r := (.aload_n 0, 1, 0, 0, 0)) rfl rfl
theorem s222_34 {d : Nat} {ls : mj_L} {st : List Value} {M : mj_H} : mj_Rn d mj_m222 34 ls st M = mq_k0 d mj_m222 35 ls M (mj_lda (mj_lk ls 1) st) := mj_R0 (r := (.aload_n 1, 1, 0, 0, 0)) rfl rfl
theorem s222_35 {d : Nat} {ls : mj_L} {st : List Value} {M : mj_H} : mj_Rn d mj_m222 35 ls st M = mq_k0 d mj_m222 36 ls M (mj_lda (mj_lk ls 2) st) := mj_R0 (r := (.aload_n 2, 1, 0, 0, 0)) rfl rfl
theorem s222_36 {d : Nat} {ls : mj_L} {st : List Value} {M : mj_H} : mj_Rn d mj_m222 36 ls st M = mq_k0 d mj_m222 38 ls M (mj_ldi (mj_lk ls 5) st) := mj_R0 (r := (.iload 5, 2, 0, 0, 0)) rfl rfl
theorem s222_38 {d : Nat} {ls : mj_L} {st : List Value} {M : mj_H} : mj_Rn d mj_m222 38 ls st M = mj_Rn d mj_m222 40 ls (.int 65 :: st) M := mj_R0 (r := (.bipush 65, 2, 0, 0, 0)) rfl rfl
theorem s222_40 {d : Nat} {ls : mj_L} {st : List Value} {M : mj_H} : mj_Rn d mj_m222 40 ls st M = mq_k0 d mj_m222 41 ls M (mj_lda (mj_lk ls 3) st) := mj_R0 (r := (.aload_n 3, 1, 0, 0, 0)) rfl rfl
theorem s222_41 {d : Nat} {ls : mj_L} {st : List Value} {M : mj_H} : mj_Rn d mj_m222 41 ls st M = mq_k0 d mj_m222 44 ls M (mq_gf 6 4 st M) := (mj_R3 (r := (.getfield 107, 3, 6, 4, 49267)) rfl rfl).trans (congrArg (mq_k0 d mj_m222 44 ls M) mq_gf_eq)
theorem s222_44 {d : Nat} {ls : mj_L} {st : List Value} {M : mj_H} : mj_Rn (d + 1) mj_m222 44 ls st M = mq_k5a (d + 1) mj_m222 47 ls M 223 (mq_cb 0 5 7 st M) := mj_R5e (r := (.invokevirtual 111, 3, 0, 223, 24749)) (z := mj_m223) rfl rfl (by decide) (by decide) rfl
theorem s222_47 {d : Nat} {ls : mj_L} {st : List Value} {M : mj_H} : mj_Rn d mj_m222 47 ls st M = mq_k1 d mj_m222 49 M (mj_lo 10 (.istore 6) ls st) := mj_R1 (r := (.istore 6, 2, 0, 0, 0)) rfl rfl
theorem s222_49 {d : Nat} {ls : mj_L} {st : List Value} {M : mj_H} : mj_Rn d mj_m222 49 ls st M = mq_k0 d mj_m222 51 ls M (mj_ldi (mj_lk ls 6) st) := mj_R0 (r := (.iload 6, 2, 0, 0, 0)) rfl rfl
theorem s222_51 {d : Nat} {ls : mj_L} {st : List Value} {M : mj_H} : mj_Rn d mj_m222 51 ls st M = mq_k2 d mj_m222 ls M (mj_br (.ifCond .eq 6) 51 st) := mj_R2 (r := (.ifCond .eq 6, 3, 0, 0, 0)) rfl rfl
theorem s222_54 {d : Nat} {ls : mj_L} {st : List Value} {M : mj_H} : mj_Rn d mj_m222 54 ls st M = mq_k0 d mj_m222 56 ls M (mj_ldi (mj_lk ls 6) st) := mj_R0 (r := (.iload 6, 2, 0, 0, 0)) rfl rfl
theorem s222_56 {d : Nat} {ls : mj_L} {st : List Value} {M : mj_H} : mj_Rn d mj_m222 56 ls st M = mq_k6 M (mj_re (some .int) (.ireturn) st) := mj_R6 (r := (.ireturn, 1, 0, 0, 0)) rfl rfl
theorem s222_57 {d : Nat} {ls : mj_L} {st : List Value} {M : mj_H} : mj_Rn d mj_m222 57 ls st M = mq_k0 d mj_m222 58 ls M (mj_lda (mj_lk ls 2) st) := mj_R0 (r := (.aload_n 2, 1, 0, 0, 0)) rfl rfl
theorem s222_58 {d : Nat} {ls : mj_L} {st : List Value} {M : mj_H} : mj_Rn d mj_m222 58 ls st M = mq_k0 d mj_m222 60 ls M (mj_ldi (mj_lk ls 4) st) := mj_R0 (r := (.iload 4, 2, 0, 0, 0)) rfl rfl
theorem s222_60 {d : Nat} {ls : mj_L} {st : List Value} {M : mj_H} : mj_Rn (d + 1) mj_m222 60 ls st M = mq_k5a (d + 1) mj_m222 63 ls M 53 (mq_cb 0 1 1 st M) := mj_R5e (r := (.invokevirtual 69, 3, 0, 53, 24733)) (z := mj_m53) rfl rfl (by decide) (by decide) rfl
theorem s222_63 {d : Nat} {ls : mj_L} {st : List Value} {M : mj_H} : mj_Rn d mj_m222 63 ls st M = mq_k1 d mj_m222 65 M (mj_lo 10 (.istore 7) ls st) := mj_R1 (r := (.istore 7, 2, 0, 0, 0)) rfl rfl
theorem s222_65 {d : Nat} {ls : mj_L} {st : List Value} {M : mj_H} : mj_Rn d mj_m222 65 ls st M = mq_k0 d mj_m222 66 ls M (mj_lda (mj_lk ls 1) st) := mj_R0 (r := (.aload_n 1, 1, 0, 0, 0)) rfl rfl
theorem s222_66 {d : Nat} {ls : mj_L} {st : List Value} {M : mj_H} : mj_Rn d mj_m222 66 ls st M = mq_k0 d mj_m222 67 ls M (mj_lda (mj_lk ls 2) st) := mj_R0 (r := (.aload_n 2, 1, 0, 0, 0)) rfl rfl
theorem s222_67 {d : Nat} {ls : mj_L} {st : List Value} {M : mj_H} : mj_Rn d mj_m222 67 ls st M = mq_k0 d mj_m222 69 ls M (mj_ldi (mj_lk ls 5) st) := mj_R0 (r := (.iload 5, 2, 0, 0, 0)) rfl rfl
theorem s222_69 {d : Nat} {ls : mj_L} {st : List Value} {M : mj_H} : mj_Rn d mj_m222 69 ls st M = mj_Rn d mj_m222 71 ls (.int 13 :: st) M := mj_R0 (r := (.bipush 13, 2, 0, 0, 0)) rfl rfl
theorem s222_71 {d : Nat} {ls : mj_L} {st : List Value} {M : mj_H} : mj_Rn d mj_m222 71 ls st M = mq_k0 d mj_m222 72 ls M (mj_pu .iadd ls st) := mj_R0 (r := (.iadd, 1, 0, 0, 0)) rfl rfl
theorem s222_72 {d : Nat} {ls : mj_L} {st : List Value} {M : mj_H} : mj_Rn (d + 1) mj_m222 72 ls st M = mq_k5a (d + 1) mj_m222 75 ls M 53 (mq_cb 0 1 1 st M) := mj_R5e (r := (.invokevirtual 69, 3, 0, 53, 24733)) (z := mj_m53) rfl rfl (by decide) (by decide) rfl
theorem s222_75 {d : Nat} {ls : mj_L} {st : List Value} {M : mj_H} : mj_Rn (d + 1) mj_m222 75 ls st M = mq_k5a (d + 1) mj_m222 78 ls M 145 (mq_cb 0 1 9 st M) := mj_R5e (r := (.invokevirtual 115, 3, 0, 145, 24756)) (z := mj_m145) rfl rfl (by decide) (by decide) rfl
theorem s222_78 {d : Nat} {ls : mj_L} {st : List Value} {M : mj_H} : mj_Rn d mj_m222 78 ls st M = mq_k1 d mj_m222 80 M (mj_lo 10 (.istore 8) ls st) := mj_R1 (r := (.istore 8, 2, 0, 0, 0)) rfl rfl
theorem s222_80 {d : Nat} {ls : mj_L} {st : List Value} {M : mj_H} : mj_Rn d mj_m222 80 ls st M = mq_k0 d mj_m222 82 ls M (mj_ldi (mj_lk ls 8) st) := mj_R0 (r := (.iload 8, 2, 0, 0, 0)) rfl rfl
theorem s222_82 {d : Nat} {ls : mj_L} {st : List Value} {M : mj_H} : mj_Rn d mj_m222 82 ls st M = mq_k2 d mj_m222 ls M (mj_br (.ifCond .eq 32) 82 st) := mj_R2 (r := (.ifCond .eq 32, 3, 0, 0, 0)) rfl rfl
theorem s222_85 {d : Nat} {ls : mj_L} {st : List Value} {M : mj_H} : mj_Rn d mj_m222 85 ls st M = mq_k0 d mj_m222 86 ls M (mj_lda (mj_lk ls 2) st) := mj_R0 (r := (.aload_n 2, 1, 0, 0, 0)) rfl rfl
theorem s222_86 {d : Nat} {ls : mj_L} {st : List Value} {M : mj_H} : mj_Rn d mj_m222 86 ls st M = mq_k0 d mj_m222 88 ls M (mj_ldi (mj_lk ls 5) st) := mj_R0 (r := (.iload 5, 2, 0, 0, 0)) rfl rfl
theorem s222_88 {d : Nat} {ls : mj_L} {st : List Value} {M : mj_H} : mj_Rn d mj_m222 88 ls st M = mj_Rn d mj_m222 90 ls (.int 9 :: st) M := mj_R0 (r := (.bipush 9, 2, 0, 0, 0)) rfl rfl
theorem s222_90 {d : Nat} {ls : mj_L} {st : List Value} {M : mj_H} : mj_Rn d mj_m222 90 ls st M = mq_k0 d mj_m222 91 ls M (mj_pu .iadd ls st) := mj_R0 (r := (.iadd, 1, 0, 0, 0)) rfl rfl
theorem s222_91 {d : Nat} {ls : mj_L} {st : List Value} {M : mj_H} : mj_Rn (d + 1) mj_m222 91 ls st M = mq_k5a (d + 1) mj_m222 94 ls M 53 (mq_cb 0 1 1 st M) := mj_R5e (r := (.invokevirtual 69, 3, 0, 53, 24733)) (z := mj_m53) rfl rfl (by decide) (by decide) rfl
theorem s222_94 {d : Nat} {ls : mj_L} {st : List Value} {M : mj_H} : mj_Rn d mj_m222 94 ls st M = mq_k0 d mj_m222 96 ls M (mj_ldi (mj_lk ls 7) st) := mj_R0 (r := (.iload 7, 2, 0, 0, 0)) rfl rfl
theorem s222_96 {d : Nat} {ls : mj_L} {st : List Value} {M : mj_H} : mj_Rn d mj_m222 96 ls st M = mq_k2 d mj_m222 ls M (mj_br (.if_icmp .ne 18) 96 st) := mj_R2 (r := (.if_icmp .ne 18, 3, 0, 0, 0)) rfl rfl
theorem s222_99 {d : Nat} {ls : mj_L} {st : List Value} {M : mj_H} : mj_Rn d mj_m222 99 ls st M = mq_k0 d mj_m222 100 ls M (mj_lda (mj_lk ls 0) st) := mj_R0 (r := (.aload_n 0, 1, 0, 0, 0)) rfl rfl
theorem s222_100 {d : Nat} {ls : mj_L} {st : List Value} {M : mj_H} : mj_Rn d mj_m222 100 ls st M = mq_k0 d mj_m222 101 ls M (mj_lda (mj_lk ls 1) st) := mj_R0 (r := (.aload_n 1, 1, 0, 0, 0)) rfl rfl
theorem s222_101 {d : Nat} {ls : mj_L} {st : List Value} {M : mj_H} : mj_Rn d mj_m222 101 ls st M = mq_k0 d mj_m222 102 ls M (mj_lda (mj_lk ls 2) st) := mj_R0 (r := (.aload_n 2, 1, 0, 0, 0)) rfl rfl
theorem s222_102 {d : Nat} {ls : mj_L} {st : List Value} {M : mj_H} : mj_Rn d mj_m222 102 ls st M = mq_k0 d mj_m222 104 ls M (mj_ldi (mj_lk ls 5) st) := mj_R0 (r := (.iload 5, 2, 0, 0, 0)) rfl rfl
theorem s222_104 {d : Nat} {ls : mj_L} {st : List Value} {M : mj_H} : mj_Rn d mj_m222 104 ls st M = mq_k0 d mj_m222 106 ls M (mj_ldi (mj_lk ls 8) st) := mj_R0 (r := (.iload 8, 2, 0, 0, 0)) rfl rfl
theorem s222_106 {d : Nat} {ls : mj_L} {st : List Value} {M : mj_H} : mj_Rn d mj_m222 106 ls st M = mj_Rn d mj_m222 108 ls (.int 17 :: st) M := mj_R0 (r := (.bipush 17, 2, 0, 0, 0)) rfl rfl
theorem s222_108 {d : Nat} {ls : mj_L} {st : List Value} {M : mj_H} : mj_Rn (d + 1) mj_m222 108 ls st M = mq_k5a (d + 1) mj_m222 111 ls M 224 (mq_cb 0 5 7 st M) := mj_R5e (r := (.invokevirtual 120, 3, 0, 224, 24757)) (z := mj_m224) rfl rfl (by decide) (by decide) rfl
theorem s222_111 {d : Nat} {ls : mj_L} {st : List Value} {M : mj_H} : mj_Rn d mj_m222 111 ls st M = mq_k2 d mj_m222 ls M (mj_br (.ifCond .ne 6) 111 st) := mj_R2 (r := (.ifCond .ne 6, 3, 0, 0, 0)) rfl rfl
theorem s222_114 {d : Nat} {ls : mj_L} {st : List Value} {M : mj_H} : mj_Rn d mj_m222 114 ls st M = mj_Rn d mj_m222 116 ls (.int 8 :: st) M := mj_R0 (r := (.bipush 8, 2, 0, 0, 0)) rfl rfl
theorem s222_116 {d : Nat} {ls : mj_L} {st : List Value} {M : mj_H} : mj_Rn d mj_m222 116 ls st M = mq_k6 M (mj_re (some .int) (.ireturn) st) := mj_R6 (r := (.ireturn, 1, 0, 0, 0)) rfl rfl
theorem s222_117 {d : Nat} {ls : mj_L} {st : List Value} {M : mj_H} : mj_Rn d mj_m222 117 ls st M = mq_k0 d mj_m222 118 ls M (mj_lda (mj_lk ls 0) st) := mj_R0 (r := (.aload_n 0, 1, 0, 0, 0)) rfl rfl
theorem s222_118 {d : Nat} {ls : mj_L} {st : List Value} {M : mj_H} : mj_Rn d mj_m222 118 ls st M = mq_k0 d mj_m222 120 ls M (mj_ldi (mj_lk ls 7) st) := mj_R0 (r := (.iload 7, 2, 0, 0, 0)) rfl rfl
theorem s222_120 {d : Nat} {ls : mj_L} {st : List Value} {M : mj_H} : mj_Rn (d + 1) mj_m222 120 ls st M = mq_k5a (d + 1) mj_m222 123 ls M 225 (mq_cb 0 1 7 st M) := mj_R5e (r := (.invokevirtual 124, 3, 0, 225, 24763)) (z := mj_m225) rfl rfl (by decide) (by decide) rfl
theorem s222_123 {d : Nat} {ls : mj_L} {st : List Value} {M : mj_H} : mj_Rn d mj_m222 123 ls st M = mq_k2 d mj_m222 ls M (mj_br (.ifnull 6) 123 st) := mj_R2 (r := (.ifnull 6, 3, 0, 0, 0)) rfl rfl
theorem s222_126 {d : Nat} {ls : mj_L} {st : List Value} {M : mj_H} : mj_Rn d mj_m222 126 ls st M = mj_Rn d mj_m222 128 ls (.int 9 :: st) M := mj_R0 (r := (.bipush 9, 2, 0, 0, 0)) rfl rfl
theorem s222_128 {d : Nat} {ls : mj_L} {st : List Value} {M : mj_H} : mj_Rn d mj_m222 128 ls st M = mq_k6 M (mj_re (some .int) (.ireturn) st) := mj_R6 (r := (.ireturn, 1, 0, 0, 0)) rfl rfl
theorem s222_129 {d : Nat} {ls : mj_L} {st : List Value} {M : mj_H} : mj_Rn d mj_m222 129 ls st M = mq_k0 d mj_m222 130 ls M (mj_lda (mj_lk ls 0) st) := mj_R0 (r := (.aload_n 0, 1, 0, 0, 0)) rfl rfl
theorem s222_130 {d : Nat} {ls : mj_L} {st : List Value} {M : mj_H} : mj_Rn d mj_m222 130 ls st M = mq_k0 d mj_m222 133 ls M (mq_gf 7 5 st M) := (mj_R3 (r := (.getfield 37, 3, 7, 5, 49374)) rfl rfl).trans (congrArg (mq_k0 d mj_m222 133 ls M) mq_gf_eq)
theorem s222_133 {d : Nat} {ls : mj_L} {st : List Value} {M : mj_H} : mj_Rn d mj_m222 133 ls st M = mq_k0 d mj_m222 134 ls M (mj_lda (mj_lk ls 0) st) := mj_R0 (r := (.aload_n 0, 1, 0, 0, 0)) rfl rfl
theorem s222_134 {d : Nat} {ls : mj_L} {st : List Value} {M : mj_H} : mj_Rn d mj_m222 134 ls st M = mq_k0 d mj_m222 137 ls M (mq_gf 7 3 st M) := (mj_R3 (r := (.getfield 32, 3, 7, 3, 49368)) rfl rfl).trans (congrArg (mq_k0 d mj_m222 137 ls M) mq_gf_eq)
theorem s222_137 {d : Nat} {ls : mj_L} {st : List Value} {M : mj_H} : mj_Rn d mj_m222 137 ls st M = mq_k0 d mj_m222 138 ls M (mq_len st M) := (mj_R3 (r := (.arraylength, 1, 0, 0, 0)) rfl rfl).trans (congrArg (mq_k0 d mj_m222 138 ls M) mq_len_eq)
theorem s222_138 {d : Nat} {ls : mj_L} {st : List Value} {M : mj_H} : mj_Rn d mj_m222 138 ls st M = mq_k2 d mj_m222 ls M (mj_br (.if_icmp .lt 6) 138 st) := mj_R2 (r := (.if_icmp .lt 6, 3, 0, 0, 0)) rfl rfl
theorem s222_141 {d : Nat} {ls : mj_L} {st : List Value} {M : mj_H} : mj_Rn d mj_m222 141 ls st M = mj_Rn d mj_m222 143 ls (.int 10 :: st) M := mj_R0 (r := (.bipush 10, 2, 0, 0, 0)) rfl rfl
theorem s222_143 {d : Nat} {ls : mj_L} {st : List Value} {M : mj_H} : mj_Rn d mj_m222 143 ls st M = mq_k6 M (mj_re (some .int) (.ireturn) st) := mj_R6 (r := (.ireturn, 1, 0, 0, 0)) rfl rfl
theorem s222_144 {d : Nat} {ls : mj_L} {st : List Value} {M : mj_H} : mj_Rn d mj_m222 144 ls st M = mq_k0 d mj_m222 145 ls M (mj_lda (mj_lk ls 0) st) := mj_R0 (r := (.aload_n 0, 1, 0, 0, 0)) rfl rfl
theorem s222_145 {d : Nat} {ls : mj_L} {st : List Value} {M : mj_H} : mj_Rn d mj_m222 145 ls st M = mq_k0 d mj_m222 146 ls M (mj_pu .dup ls st) := mj_R0 (r := (.dup, 1, 0, 0, 0)) rfl rfl
theorem s222_146 {d : Nat} {ls : mj_L} {st : List Value} {M : mj_H} : mj_Rn d mj_m222 146 ls st M = mq_k0 d mj_m222 149 ls M (mq_gf 7 5 st M) := (mj_R3 (r := (.getfield 37, 3, 7, 5, 49374)) rfl rfl).trans (congrArg (mq_k0 d mj_m222 149 ls M) mq_gf_eq)
theorem s222_149 {d : Nat} {ls : mj_L} {st : List Value} {M : mj_H} : mj_Rn d mj_m222 149 ls st M = mj_Rn d mj_m222 150 ls (.int 1 :: st) M := mj_R0 (r := (.iconst 1, 1, 0, 0, 0)) rfl rfl
theorem s222_150 {d : Nat} {ls : mj_L} {st : List Value} {M : mj_H} : mj_Rn d mj_m222 150 ls st M = mq_k0 d mj_m222 151 ls M (mj_pu .iadd ls st) := mj_R0 (r := (.iadd, 1, 0, 0, 0)) rfl rfl
theorem s222_151 {d : Nat} {ls : mj_L} {st : List Value} {M : mj_H} : mj_Rn d mj_m222 151 ls st M = mq_k4 d mj_m222 154 ls (mq_pf 7 5 0 st M) := (mj_R4 (r := (.putfield 37, 3, 7, 5, 49374)) rfl rfl).trans (congrArg (mq_k4 d mj_m222 154 ls) (mq_pf_eq rfl rfl))
theorem s222_154 {d : Nat} {ls : mj_L} {st : List Value} {M : mj_H} : mj_Rn d mj_m222 154 ls st M = mq_k0 d mj_m222 155 ls M (mj_lda (mj_lk ls 0) st) := mj_R0 (r := (.aload_n 0, 1, 0, 0, 0)) rfl rfl
theorem s222_155 {d : Nat} {ls : mj_L} {st : List Value} {M : mj_H} : mj_Rn d mj_m222 155 ls st M = mq_k0 d mj_m222 156 ls M (mj_lda (mj_lk ls 0) st) := mj_R0 (r := (.aload_n 0, 1, 0, 0, 0)) rfl rfl
theorem s222_156 {d : Nat} {ls : mj_L} {st : List Value} {M : mj_H} : mj_Rn d mj_m222 156 ls st M = mq_k0 d mj_m222 159 ls M (mq_gf 7 5 st M) := (mj_R3 (r := (.getfield 37, 3, 7, 5, 49374)) rfl rfl).trans (congrArg (mq_k0 d mj_m222 159 ls M) mq_gf_eq)
theorem s222_159 {d : Nat} {ls : mj_L} {st : List Value} {M : mj_H} : mj_Rn d mj_m222 159 ls st M = mj_Rn d mj_m222 160 ls (.int 1 :: st) M := mj_R0 (r := (.iconst 1, 1, 0, 0, 0)) rfl rfl
theorem s222_160 {d : Nat} {ls : mj_L} {st : List Value} {M : mj_H} : mj_Rn d mj_m222 160 ls st M = mq_k0 d mj_m222 161 ls M (mj_pu .isub ls st) := mj_R0 (r := (.isub, 1, 0, 0, 0)) rfl rfl
theorem s222_161 {d : Nat} {ls : mj_L} {st : List Value} {M : mj_H} : mj_Rn (d + 1) mj_m222 161 ls st M = mq_k5a (d + 1) mj_m222 164 ls M 200 (mq_cb 0 1 7 st M) := mj_R5e (r := (.invokevirtual 41, 3, 0, 200, 20702)) (z := mj_m200) rfl rfl (by decide) (by decide) rfl
theorem s222_164 {d : Nat} {ls : mj_L} {st : List Value} {M : mj_H} : mj_Rn d mj_m222 164 ls st M = mq_k1 d mj_m222 166 M (mj_lo 10 (.astore 9) ls st) := mj_R1 (r := (.astore 9, 2, 0, 0, 0)) rfl rfl
theorem s222_166 {d : Nat} {ls : mj_L} {st : List Value} {M : mj_H} : mj_Rn d mj_m222 166 ls st M = mq_k0 d mj_m222 168 ls M (mj_lda (mj_lk ls 9) st) := mj_R0 (r := (.aload 9, 2, 0, 0, 0)) rfl rfl
theorem s222_168 {d : Nat} {ls : mj_L} {st : List Value} {M : mj_H} : mj_Rn d mj_m222 168 ls st M = mq_k2 d mj_m222 ls M (mj_br (.ifnull 61) 168 st) := mj_R2 (r := (.ifnull 61, 3, 0, 0, 0)) rfl rfl
theorem s222_171 {d : Nat} {ls : mj_L} {st : List Value} {M : mj_H} : mj_Rn d mj_m222 171 ls st M = mq_k0 d mj_m222 173 ls M (mj_lda (mj_lk ls 9) st) := mj_R0 (r := (.aload 9, 2, 0, 0, 0)) rfl rfl
theorem s222_173 {d : Nat} {ls : mj_L} {st : List Value} {M : mj_H} : mj_Rn d mj_m222 173 ls st M = mq_k0 d mj_m222 175 ls M (mj_ldi (mj_lk ls 7) st) := mj_R0 (r := (.iload 7, 2, 0, 0, 0)) rfl rfl
theorem s222_175 {d : Nat} {ls : mj_L} {st : List Value} {M : mj_H} : mj_Rn d mj_m222 175 ls st M = mq_k4 d mj_m222 178 ls (mq_pf 0 0 0 st M) := (mj_R4 (r := (.putfield 127, 3, 0, 0, 49309)) rfl rfl).trans (congrArg (mq_k4 d mj_m222 178 ls) (mq_pf_eq rfl rfl))
theorem s222_178 {d : Nat} {ls : mj_L} {st : List Value} {M : mj_H} : mj_Rn d mj_m222 178 ls st M = mq_k0 d mj_m222 180 ls M (mj_lda (mj_lk ls 9) st) := mj_R0 (r := (.aload 9, 2, 0, 0, 0)) rfl rfl
theorem s222_180 {d : Nat} {ls : mj_L} {st : List Value} {M : mj_H} : mj_Rn d mj_m222 180 ls st M = mq_k0 d mj_m222 181 ls M (mj_lda (mj_lk ls 2) st) := mj_R0 (r := (.aload_n 2, 1, 0, 0, 0)) rfl rfl
theorem s222_181 {d : Nat} {ls : mj_L} {st : List Value} {M : mj_H} : mj_Rn d mj_m222 181 ls st M = mq_k0 d mj_m222 183 ls M (mj_ldi (mj_lk ls 5) st) := mj_R0 (r := (.iload 5, 2, 0, 0, 0)) rfl rfl
theorem s222_183 {d : Nat} {ls : mj_L} {st : List Value} {M : mj_H} : mj_Rn d mj_m222 183 ls st M = mj_Rn d mj_m222 185 ls (.int 13 :: st) M := mj_R0 (r := (.bipush 13, 2, 0, 0, 0)) rfl rfl
theorem s222_185 {d : Nat} {ls : mj_L} {st : List Value} {M : mj_H} : mj_Rn d mj_m222 185 ls st M = mq_k0 d mj_m222 186 ls M (mj_pu .iadd ls st) := mj_R0 (r := (.iadd, 1, 0, 0, 0)) rfl rfl
theorem s222_186 {d : Nat} {ls : mj_L} {st : List Value} {M : mj_H} : mj_Rn (d + 1) mj_m222 186 ls st M = mq_k5a (d + 1) mj_m222 189 ls M 53 (mq_cb 0 1 1 st M) := mj_R5e (r := (.invokevirtual 69, 3, 0, 53, 24733)) (z := mj_m53) rfl rfl (by decide) (by decide) rfl
theorem s222_189 {d : Nat} {ls : mj_L} {st : List Value} {M : mj_H} : mj_Rn d mj_m222 189 ls st M = mq_k4 d mj_m222 192 ls (mq_pf 0 1 0 st M) := (mj_R4 (r := (.putfield 130, 3, 0, 1, 49315)) rfl rfl).trans (congrArg (mq_k4 d mj_m222 192 ls) (mq_pf_eq rfl rfl))
theorem s222_192 {d : Nat} {ls : mj_L} {st : List Value} {M : mj_H} : mj_Rn d mj_m222 192 ls st M = mq_k0 d mj_m222 194 ls M (mj_lda (mj_lk ls 9) st) := mj_R0 (r := (.aload 9, 2, 0, 0, 0)) rfl rfl
theorem s222_194 {d : Nat} {ls : mj_L} {st : List Value} {M : mj_H} : mj_Rn d mj_m222 194 ls st M = mq_k0 d mj_m222 195 ls M (mj_lda (mj_lk ls 2) st) := mj_R0 (r := (.aload_n 2, 1, 0, 0, 0)) rfl rfl
theorem s222_195 {d : Nat} {ls : mj_L} {st : List Value} {M : mj_H} : mj_Rn d mj_m222 195 ls st M = mq_k0 d mj_m222 197 ls M (mj_ldi (mj_lk ls 5) st) := mj_R0 (r := (.iload 5, 2, 0, 0, 0)) rfl rfl
theorem s222_197 {d : Nat} {ls : mj_L} {st : List Value} {M : mj_H} : mj_Rn d mj_m222 197 ls st M = mj_Rn d mj_m222 198 ls (.int 5 :: st) M := mj_R0 (r := (.iconst 5, 1, 0, 0, 0)) rfl rfl
theorem s222_198 {d : Nat} {ls : mj_L} {st : List Value} {M : mj_H} : mj_Rn d mj_m222 198 ls st M = mq_k0 d mj_m222 199 ls M (mj_pu .iadd ls st) := mj_R0 (r := (.iadd, 1, 0, 0, 0)) rfl rfl
theorem s222_199 {d : Nat} {ls : mj_L} {st : List Value} {M : mj_H} : mj_Rn (d + 1) mj_m222 199 ls st M = mq_k5a (d + 1) mj_m222 202 ls M 53 (mq_cb 0 1 1 st M) := mj_R5e (r := (.invokevirtual 69, 3, 0, 53, 24733)) (z := mj_m53) rfl rfl (by decide) (by decide) rfl
theorem s222_202 {d : Nat} {ls : mj_L} {st : List Value} {M : mj_H} : mj_Rn d mj_m222 202 ls st M = mq_k4 d mj_m222 205 ls (mq_pf 0 2 0 st M) := (mj_R4 (r := (.putfield 133, 3, 0, 2, 49319)) rfl rfl).trans (congrArg (mq_k4 d mj_m222 205 ls) (mq_pf_eq rfl rfl))
theorem s222_205 {d : Nat} {ls : mj_L} {st : List Value} {M : mj_H} : mj_Rn d mj_m222 205 ls st M = mq_k0 d mj_m222 207 ls M (mj_lda (mj_lk ls 9) st) := mj_R0 (r := (.aload 9, 2, 0, 0, 0)) rfl rfl
theorem s222_207 {d : Nat} {ls : mj_L} {st : List Value} {M : mj_H} : mj_Rn d mj_m222 207 ls st M = mj_Rn d mj_m222 208 ls (.int 0 :: st) M := mj_R0 (r := (.iconst 0, 1, 0, 0, 0)) rfl rfl
theorem s222_208 {d : Nat} {ls : mj_L} {st : List Value} {M : mj_H} : mj_Rn d mj_m222 208 ls st M = mq_k4 d mj_m222 211 ls (mq_pf 0 3 0 st M) := (mj_R4 (r := (.putfield 136, 3, 0, 3, 49323)) rfl rfl).trans (congrArg (mq_k4 d mj_m222 211 ls) (mq_pf_eq rfl rfl))
theorem s222_211 {d : Nat} {ls : mj_L} {st : List Value} {M : mj_H} : mj_Rn d mj_m222 211 ls st M = mq_k0 d mj_m222 213 ls M (mj_lda (mj_lk ls 9) st) := mj_R0 (r := (.aload 9, 2, 0, 0, 0)) rfl rfl
theorem s222_213 {d : Nat} {ls : mj_L} {st : List Value} {M : mj_H} : mj_Rn d mj_m222 213 ls st M = mq_k0 d mj_m222 214 ls M (mj_lda (mj_lk ls 3) st) := mj_R0 (r := (.aload_n 3, 1, 0, 0, 0)) rfl rfl
theorem s222_214 {d : Nat} {ls : mj_L} {st : List Value} {M : mj_H} : mj_Rn d mj_m222 214 ls st M = mq_k0 d mj_m222 217 ls M (mq_gf 6 1 st M) := (mj_R3 (r := (.getfield 139, 3, 6, 1, 49255)) rfl rfl).trans (congrArg (mq_k0 d mj_m222 217 ls M) mq_gf_eq)
theorem s222_217 {d : Nat} {ls : mj_L} {st : List Value} {M : mj_H} : mj_Rn d mj_m222 217 ls st M = mq_k4 d mj_m222 220 ls (mq_pf 0 4 1 st M) := (mj_R4 (r := (.putfield 143, 3, 0, 4, 49327)) rfl rfl).trans (congrArg (mq_k4 d mj_m222 220 ls) (mq_pf_eq rfl rfl))
theorem s222_220 {d : Nat} {ls : mj_L} {st : List Value} {M : mj_H} : mj_Rn d mj_m222 220 ls st M = mq_k0 d mj_m222 222 ls M (mj_lda (mj_lk ls 9) st) := mj_R0 (r := (.aload 9, 2, 0, 0, 0)) rfl rfl
theorem s222_222 {d : Nat} {ls : mj_L} {st : List Value} {M : mj_H} : mj_Rn d mj_m222 222 ls st M = mq_k0 d mj_m222 223 ls M (mj_lda (mj_lk ls 3) st) := mj_R0 (r := (.aload_n 3, 1, 0, 0, 0)) rfl rfl
theorem s222_223 {d : Nat} {ls : mj_L} {st : List Value} {M : mj_H} : mj_Rn d mj_m222 223 ls st M = mq_k0 d mj_m222 226 ls M (mq_gf 6 2 st M) := (mj_R3 (r := (.getfield 144, 3, 6, 2, 49259)) rfl rfl).trans (congrArg (mq_k0 d mj_m222 226 ls M) mq_gf_eq)
theorem s222_226 {d : Nat} {ls : mj_L} {st : List Value} {M : mj_H} : mj_Rn d mj_m222 226 ls st M = mq_k4 d mj_m222 229 ls (mq_pf 0 5 0 st M) := (mj_R4 (r := (.putfield 147, 3, 0, 5, 49331)) rfl rfl).trans (congrArg (mq_k4 d mj_m222 229 ls) (mq_pf_eq rfl rfl))
theorem s222_229 {d : Nat} {ls : mj_L} {st : List Value} {M : mj_H} : mj_Rn d mj_m222 229 ls st M = mj_Rn d mj_m222 230 ls (.int 0 :: st) M := mj_R0 (r := (.iconst 0, 1, 0, 0, 0)) rfl rfl
theorem s222_230 {d : Nat} {ls : mj_L} {st : List Value} {M : mj_H} : mj_Rn d mj_m222 230 ls st M = mq_k6 M (mj_re (some .int) (.ireturn) st) := mj_R6 (r := (.ireturn, 1, 0, 0, 0)) rfl rfl
theorem c222 {d : Nat} {a0 : Nat} {a1 : Nat} {a2 : Nat} {a3 : Nat} {M : mj_H} : mj_V (d + 1) 222 [.ref a0, .ref a1, .ref a2, .ref a3] M = mj_Rn d mj_m222 0 [(0, .ref a0), (1, .ref a1), (2, .ref a2), (3, .ref a3)] [] M := mj_V_go rfl (Nat.le_of_ble_eq_true rfl)
theorem uN_w4a (t : List Int32) (h8 : ∀ v ∈ t, v &&& 255 = v) {q : Nat} (hq : q + 4 ≤ t.length) : uN (w4a t q) = bn ((t.drop q).take 4) := by
  unfold w4a w4
  have h := bn_lt _ (sl_by h8 q 4)
  rw [sl_len (by omega)] at h
  rw [uN_nI, Nat.mod_eq_of_lt h]
section HZ
variable {M M' : mj_H} {H H' : Ho} {κs πs : List Nat} {row row' ms : List Int32} {d : Nat} {i l : Int32} {π : Nat} {p : Pa} {u t : List Int32} {A : Nat → Prop} {T : Tm}
theorem j_sg (t0 : tx A M T row) (h : pz M π p) (hb : bb M 26 27 400 t) (hPA : ∀ c, (π ≤ c ∧ c ≤ π + 18) ∨ c = 26 ∨ c = 27 → A c) {q size : Nat} (hq : q + size + 4 ≤ t.length) (h5 : 5 ≤ t.length) (hsz : size ≤ 20) (secret : Int32) : ∃ M' row', mj_V (d + 3) 224 [.ref π, .ref 30, .ref 26, .int (nI q), .int secret, .int (nI size)] M = some (some (.int (on1 (!decide (tm_ix T.1 (7 :: (t.take 5 ++ p.1)) = 0) && kn_as T (6 :: secret :: ((t.drop q).take size ++ b4 (nI (tm_ix T.1 (7 :: (t.take 5 ++ p.1)))))) (w4a t (q + size))))), M') ∧ tx A M' T row' ∧ fx (na A) M M' := by
  have hbl := hb.len
  have hol := h.og.len
  have hfew := t0.few
  obtain ⟨M1, p1, t1, f1⟩ := tx_begin (d := d) t0 7
  have s1 : ∀ c, A c → M1[c]? = M[c]? := fun c hc => f1.same c (t0.lo c hc) (fun n => n hc)
  have hb1 := hb.fr (s1 26 (hPA _ (by omega))) (s1 27 (hPA _ (by omega)))
  obtain ⟨M2, p2, t2, f2⟩ := tx_addBytes (d := d) (q := 0) (n := 5) t1 hb1 (hPA _ (by omega)) (hPA _ (by omega)) (by omega) (by simp)
  have s2 : ∀ c, A c → M2[c]? = M[c]? := fun c hc => (f2.same c (t1.lo c hc) (fun n => n hc)).trans (s1 c hc)
  have h2 := h.fr (fun c hc => s2 c (hPA c (Or.inl hc)))
  have v2 := v_size (d := d + 1) h2.og
  have g2 := h2.og.2.2.2.2.2.1
  have xp2 := h2.ob
  obtain ⟨M3, p3, t3, f3⟩ := tx_addBytes (d := d) (q := 0) (n := p.1.length) t2 h2.og (hPA _ (by omega)) (hPA _ (by omega)) (by omega) (by simp; omega)
  have s3 : ∀ c, A c → M3[c]? = M[c]? := fun c hc => (f3.same c (t2.lo c hc) (fun n => n hc)).trans (s2 c hc)
  have e3 : [7] ++ (t.drop 0).take 5 ++ (p.1.drop 0).take p.1.length = 7 :: (t.take 5 ++ p.1) := by simp
  rw [e3] at t3
  have v3 := tx_known (d := d) t3
  have hix := tm_ix_le T.1 (7 :: (t.take 5 ++ p.1))
  obtain ⟨P0, E0, O0, x30⟩ := t0.ob
  obtain ⟨P1, E1, O1, x31⟩ := t1.ob
  obtain ⟨P2, E2, O2, x32⟩ := t2.ob
  obtain ⟨P3, E3, O3, x33⟩ := t3.ob
  have o1 := hb1.2.2.2.2.2.1
  rw [nI_0] at p2 p3
  rw [show nI 5 = 5 from rfl] at p2
  generalize tm_ix T.1 (7 :: (t.take 5 ++ p.1)) = X at *
  by_cases c1 : X = 0
  · subst c1
    rw [nI_0] at v3
    refine ⟨M3, _, ?_, t3, (f1.trs f2).trs f3⟩
    simp (disch := (first | omega | decide)) [c224, s224_0, s224_1, s224_3, s224_6, s224_7, s224_8, s224_9, s224_10, s224_13, s224_14, s224_15, s224_18, s224_19, s224_20, s224_23, s224_26, s224_29, s224_30, s224_33, s224_35, s224_37, s224_40, s224_41, s224_42, s224_43, s224_45, s224_48, s224_49, s224_51, s224_54, s224_55, s224_56, s224_57, s224_59, s224_62, s224_63, s224_65, s224_68, s224_69, s224_72, s224_74, s224_76, s224_79, s224_81, s224_82, s224_83, s224_85, s224_86, s224_89, s224_92, s224_93, s224_96, s224_97, mq_k0s, mq_k1s, mq_k2s, mq_k4s, mq_k5s, mq_k5n, mq_k5as, mq_k6s, mj_pu, mj_lo, mj_br, mj_hr, mj_hw, mq_gf, mq_len, mq_al, mq_pf, mq_ok, mj_re, mq_lkm, mq_lkn, mj_ldi, mj_ldl, mj_lda, mj_ii, mj_ll, mj_li, mj_i1, ms_1, ms_2, f1_n, f1_i, f1_r, f1_u, f1_l, f2_n, f2_i, f2_r, f2_u, f2_l, mj_tg, mj_c1, mj_c2, mj_ar, mj_aw, mq_cb, mq_oi, mj_rm, Value.category, -getElem?_pos, List.getElem?_cons_zero, decide_eq_true, decide_eq_false, nl_lt, nl_le, ln_lt, ln_le, nl_eq, ln_eq, nl_add, ln_add, nl_sub, ln_mul, nI_sub, nI_mul, nI_add, nI_lt_iff, nI_le_iff, nI_inj, nI_num, mq_ix, nI_1, nl_mul, nl_div, x30, p1, x31, o1, p2, x32, xp2, g2, v2, p3, x33, v3, on1, narrow_b0]
  · obtain ⟨M4, p4, t4, f4⟩ := tx_begin (d := d) t3 6
    obtain ⟨M5, p5, t5, f5⟩ := tx_add (d := d + 1) t4 (by simp) secret
    have s5 : ∀ c, A c → M5[c]? = M[c]? := fun c hc => ((f5.same c (t4.lo c hc) (fun n => n hc)).trans (f4.same c (t3.lo c hc) (fun n => n hc))).trans (s3 c hc)
    have hb5 := hb.fr (s5 26 (hPA _ (by omega))) (s5 27 (hPA _ (by omega)))
    obtain ⟨M6, p6, t6, f6⟩ := tx_addBytes (d := d) (q := q) (n := size) t5 hb5 (hPA _ (by omega)) (hPA _ (by omega)) (by omega) (by simp; omega)
    obtain ⟨M7, p7, t7, f7⟩ := tx_addFour (d := d) t6 (by simp; omega) (nI X)
    rw [b4_4] at t7
    have s7 : ∀ c, A c → M7[c]? = M[c]? := fun c hc => ((f7.same c (t6.lo c hc) (fun n => n hc)).trans (f6.same c (t5.lo c hc) (fun n => n hc))).trans (s5 c hc)
    have hb7 := hb.fr (s7 26 (hPA _ (by omega))) (s7 27 (hPA _ (by omega)))
    have e7 : [6] ++ [secret] ++ (t.drop q).take size ++ b4 (nI X) = 6 :: secret :: ((t.drop q).take size ++ b4 (nI X)) := by simp
    rw [e7] at t7
    have v7 := tx_known (d := d) t7
    have w7 := j_four (d := d) hb7 (q := q + size) (by omega)
    have o7 := hb7.2.2.2.2.2.1
    have o5 := hb5.2.2.2.2.2.1
    obtain ⟨P4, E4, O4, x34⟩ := t4.ob
    obtain ⟨P5, E5, O5, x35⟩ := t5.ob
    obtain ⟨P6, E6, O6, x36⟩ := t6.ob
    obtain ⟨P7, E7, O7, x37⟩ := t7.ob
    refine ⟨M7, _, ?_, t7, (((((f1.trs f2).trs f3).trs f4).trs f5).trs f6).trs f7⟩
    have hix2 := tm_ix_le T.1 (6 :: secret :: ((t.drop q).take size ++ b4 (nI X)))
    unfold kn_as
    generalize tm_ix T.1 (6 :: secret :: ((t.drop q).take size ++ b4 (nI X))) = Y at *
    by_cases c2 : Y = 0
    · subst c2
      rw [nI_0] at v7
      simp (disch := (first | omega | decide)) [c224, s224_0, s224_1, s224_3, s224_6, s224_7, s224_8, s224_9, s224_10, s224_13, s224_14, s224_15, s224_18, s224_19, s224_20, s224_23, s224_26, s224_29, s224_30, s224_33, s224_35, s224_37, s224_40, s224_41, s224_42, s224_43, s224_45, s224_48, s224_49, s224_51, s224_54, s224_55, s224_56, s224_57, s224_59, s224_62, s224_63, s224_65, s224_68, s224_69, s224_72, s224_74, s224_76, s224_79, s224_81, s224_82, s224_83, s224_85, s224_86, s224_89, s224_92, s224_93, s224_96, s224_97, mq_k0s, mq_k1s, mq_k2s, mq_k4s, mq_k5s, mq_k5n, mq_k5as, mq_k6s, mj_pu, mj_lo, mj_br, mj_hr, mj_hw, mq_gf, mq_len, mq_al, mq_pf, mq_ok, mj_re, mq_lkm, mq_lkn, mj_ldi, mj_ldl, mj_lda, mj_ii, mj_ll, mj_li, mj_i1, ms_1, ms_2, f1_n, f1_i, f1_r, f1_u, f1_l, f2_n, f2_i, f2_r, f2_u, f2_l, mj_tg, mj_c1, mj_c2, mj_ar, mj_aw, mq_cb, mq_oi, mj_rm, Value.category, -getElem?_pos, List.getElem?_cons_zero, decide_eq_true, decide_eq_false, nl_lt, nl_le, ln_lt, ln_le, nl_eq, ln_eq, nl_add, ln_add, nl_sub, ln_mul, nI_sub, nI_mul, nI_add, nI_lt_iff, nI_le_iff, nI_inj, nI_num, mq_ix, nI_1, nl_mul, nl_div, x30, p1, x31, o1, p2, x32, xp2, g2, v2, p3, x33, v3, c1, p4, x34, p5, x35, o5, p6, x36, p7, x37, v7, on1, narrow_b0]
    · generalize w4a t (q + size) = W at *
      by_cases c3 : nI Y = W
      · subst c3
        simp (disch := (first | omega | decide)) [c224, s224_0, s224_1, s224_3, s224_6, s224_7, s224_8, s224_9, s224_10, s224_13, s224_14, s224_15, s224_18, s224_19, s224_20, s224_23, s224_26, s224_29, s224_30, s224_33, s224_35, s224_37, s224_40, s224_41, s224_42, s224_43, s224_45, s224_48, s224_49, s224_51, s224_54, s224_55, s224_56, s224_57, s224_59, s224_62, s224_63, s224_65, s224_68, s224_69, s224_72, s224_74, s224_76, s224_79, s224_81, s224_82, s224_83, s224_85, s224_86, s224_89, s224_92, s224_93, s224_96, s224_97, mq_k0s, mq_k1s, mq_k2s, mq_k4s, mq_k5s, mq_k5n, mq_k5as, mq_k6s, mj_pu, mj_lo, mj_br, mj_hr, mj_hw, mq_gf, mq_len, mq_al, mq_pf, mq_ok, mj_re, mq_lkm, mq_lkn, mj_ldi, mj_ldl, mj_lda, mj_ii, mj_ll, mj_li, mj_i1, ms_1, ms_2, f1_n, f1_i, f1_r, f1_u, f1_l, f2_n, f2_i, f2_r, f2_u, f2_l, mj_tg, mj_c1, mj_c2, mj_ar, mj_aw, mq_cb, mq_oi, mj_rm, Value.category, -getElem?_pos, List.getElem?_cons_zero, decide_eq_true, decide_eq_false, nl_lt, nl_le, ln_lt, ln_le, nl_eq, ln_eq, nl_add, ln_add, nl_sub, ln_mul, nI_sub, nI_mul, nI_add, nI_lt_iff, nI_le_iff, nI_inj, nI_num, mq_ix, nI_1, nl_mul, nl_div, x30, p1, x31, o1, p2, x32, xp2, g2, v2, p3, x33, v3, c1, p4, x34, p5, x35, o5, p6, x36, p7, x37, v7, c2, o7, w7, on1, narrow_b1]
      · simp (disch := (first | omega | decide)) [c224, s224_0, s224_1, s224_3, s224_6, s224_7, s224_8, s224_9, s224_10, s224_13, s224_14, s224_15, s224_18, s224_19, s224_20, s224_23, s224_26, s224_29, s224_30, s224_33, s224_35, s224_37, s224_40, s224_41, s224_42, s224_43, s224_45, s224_48, s224_49, s224_51, s224_54, s224_55, s224_56, s224_57, s224_59, s224_62, s224_63, s224_65, s224_68, s224_69, s224_72, s224_74, s224_76, s224_79, s224_81, s224_82, s224_83, s224_85, s224_86, s224_89, s224_92, s224_93, s224_96, s224_97, mq_k0s, mq_k1s, mq_k2s, mq_k4s, mq_k5s, mq_k5n, mq_k5as, mq_k6s, mj_pu, mj_lo, mj_br, mj_hr, mj_hw, mq_gf, mq_len, mq_al, mq_pf, mq_ok, mj_re, mq_lkm, mq_lkn, mj_ldi, mj_ldl, mj_lda, mj_ii, mj_ll, mj_li, mj_i1, ms_1, ms_2, f1_n, f1_i, f1_r, f1_u, f1_l, f2_n, f2_i, f2_r, f2_u, f2_l, mj_tg, mj_c1, mj_c2, mj_ar, mj_aw, mq_cb, mq_oi, mj_rm, Value.category, -getElem?_pos, List.getElem?_cons_zero, decide_eq_true, decide_eq_false, nl_lt, nl_le, ln_lt, ln_le, nl_eq, ln_eq, nl_add, ln_add, nl_sub, ln_mul, nI_sub, nI_mul, nI_add, nI_lt_iff, nI_le_iff, nI_inj, nI_num, mq_ix, nI_1, nl_mul, nl_div, x30, p1, x31, o1, p2, x32, xp2, g2, v2, p3, x33, v3, c1, p4, x34, p5, x35, o5, p6, x36, p7, x37, v7, c2, o7, w7, c3, on1, narrow_b0]
/-- cells that a call of terms leaves -/
theorem hz.cells (z : hz M H κs πs row) (f : fx (na (hA κs πs)) M M') : ∀ c, hA κs πs c → M'[c]? = M[c]? := fun c hc => f.same c (z.lt hc) (fun n => n hc)
/-- one account more -/
theorem pz.acc1 (h : pz M π p) {a : Ac} (h8 : p.2.2.2.1.length < 8) : pz ((M.set π (po π ((p.1, (p.2.1, (p.2.2.1, (p.2.2.2.1 ++ [a], (p.2.2.2.2.1, p.2.2.2.2.2))))) : Pa))).set (π + 11 + p.2.2.2.1.length) (acc a)) π ((p.1, (p.2.1, (p.2.2.1, (p.2.2.2.1 ++ [a], (p.2.2.2.2.1, p.2.2.2.2.2))))) : Pa) := by
  have hlo := h.lo
  have hxl : π + 11 + p.2.2.2.1.length < M.length := by
    obtain ⟨_, _, _, _, _, _, q⟩ := h.ax p.2.2.2.1.length h8
    exact mq_lt q
  have e : ∀ c, c ≠ π → c ≠ π + 11 + p.2.2.2.1.length → ((M.set π (po π ((p.1, (p.2.1, (p.2.2.1, (p.2.2.2.1 ++ [a], (p.2.2.2.2.1, p.2.2.2.2.2))))) : Pa))).set (π + 11 + p.2.2.2.1.length) (acc a))[c]? = M[c]? := fun c h1 h2 => by
    rw [List.getElem?_set_ne (fun z => h2 z.symm), List.getElem?_set_ne (fun z => h1 z.symm)]
  obtain ⟨ol, o1, o2, o3, o4, o5, o6⟩ := h.oa
  refine (pz_mk_ (by rw [List.getElem?_set_ne (by omega)]; exact List.getElem?_set_self (mq_lt h.ob)) (h.og.fr (e _ (by omega) (by omega)) (e _ (by omega) (by omega))) (h.nm.fr (e _ (by omega) (by omega)) (e _ (by omega) (by omega))) (⟨ol, o1, (e _ (by omega) (by omega)).trans o2, o3, o4, ?_, ?_⟩) ((e _ (by omega) (by omega)).trans h.aa) ?_ ?_ h.l4 (by simp; omega) h.lo)
  · intro i o x q1 q2
    have := o3 x (List.mem_of_getElem? q2)
    exact (e _ (by omega) (by omega)).trans (o5 i o x q1 q2)
  · intro x hx
    have := o3 x hx
    obtain ⟨a, b, c, d, f, q⟩ := o6 x hx
    exact ⟨a, b, c, d, f, (e _ (by omega) (by omega)).trans q⟩
  · intro i b hi
    by_cases hil : i = p.2.2.2.1.length
    · subst hil
      simp at hi
      subst hi
      exact List.getElem?_set_self (by simpa using hxl)
    · have hl2 : i < p.2.2.2.1.length := by
        have := (List.getElem?_eq_some_iff.mp hi).1
        simp at this
        omega
      rw [List.getElem?_append_left hl2] at hi
      exact (e _ (by omega) (by omega)).trans (h.ac i b hi)
  · intro i hi
    by_cases hil : i = p.2.2.2.1.length
    · subst hil
      exact ⟨_, _, _, _, _, _, List.getElem?_set_self (by simpa using hxl)⟩
    · obtain ⟨a, b, c, d, f, g, q⟩ := h.ax i hi
      exact ⟨a, b, c, d, f, g, (e _ (by omega) (by omega)).trans q⟩
theorem h_noAcc (z : hz M H κs πs row) {j x : Nat} {o : Of} (hp : H.2.2.2.2[j]? = some p) (hπ : πs[j]? = some π) (hx : M[x]? = some (oc o)) (hxr : π ≤ x ∧ x ≤ π + 18) (hxn : x ≠ π ∧ ¬ (π + 11 ≤ x)) (hlen : 15 + p.1.length + cbB H.1 (10 + p.1.length) ≤ H.1.length) : ∃ M' row', mj_V (d + 4) 222 [.ref π, .ref 30, .ref 26, .ref x] M = some (some (.int (jd_make H.2.1 p o H.1).1), M') ∧ hz M' (H.pt j (jd_make H.2.1 p o H.1).2) κs πs row' ∧ hf M M' := by
  have h := z.py j p π hp hπ
  have hm := List.mem_of_getElem? hπ
  have hlo := h.lo
  have hol := h.og.len
  have htl := z.tp.len
  have xp := h.ob
  have g0 := h.og.2.2.2.2.2.1
  have o0 := z.tp.2.2.2.2.2.1
  have v0 := v_size (d := d + 2) h.og
  have same : H.pt j p = H := by
    unfold Ho.pt
    have : H.2.2.2.2.set j p = H.2.2.2.2 := by
      apply List.ext_getElem?
      intro n
      by_cases hn : j = n
      · subst hn; rw [List.getElem?_set_self (List.getElem?_eq_some_iff.mp hp).1, hp]
      · rw [List.getElem?_set_ne hn]
    rw [this]
  generalize ht : H.1 = t at *
  have hbt : bb M 26 27 400 t := by rw [← ht]; exact z.tp
  have hB : ∀ q, cbB t q < 256 := ms_by hbt.2.2.2.2.1
  have v1 := j_byteAt (d := d + 2) hbt (q := 10 + p.1.length) (by omega)
  generalize hn : p.1.length = n at *
  have e1 : 6 + n + 4 = 10 + n := by omega
  unfold jd_make
  rw [hn]
  have hB1 := hB (10 + n)
  by_cases c1 : cbB t (10 + n) = 17; rotate_left
  · rw [if_pos c1, same]
    refine ⟨M, row, ?_, z, hf.rf⟩
    simp (disch := (first | omega | decide)) [c222, s222_0, s222_2, s222_3, s222_6, s222_9, s222_10, s222_12, s222_14, s222_15, s222_16, s222_18, s222_19, s222_21, s222_22, s222_23, s222_26, s222_28, s222_31, s222_32, s222_33, s222_34, s222_35, s222_36, s222_38, s222_40, s222_41, s222_44, s222_47, s222_49, s222_51, s222_54, s222_56, s222_57, s222_58, s222_60, s222_63, s222_65, s222_66, s222_67, s222_69, s222_71, s222_72, s222_75, s222_78, s222_80, s222_82, s222_85, s222_86, s222_88, s222_90, s222_91, s222_94, s222_96, s222_99, s222_100, s222_101, s222_102, s222_104, s222_106, s222_108, s222_111, s222_114, s222_116, s222_117, s222_118, s222_120, s222_123, s222_126, s222_128, s222_129, s222_130, s222_133, s222_134, s222_137, s222_138, s222_141, s222_143, s222_144, s222_145, s222_146, s222_149, s222_150, s222_151, s222_154, s222_155, s222_156, s222_159, s222_160, s222_161, s222_164, s222_166, s222_168, s222_171, s222_173, s222_175, s222_178, s222_180, s222_181, s222_183, s222_185, s222_186, s222_189, s222_192, s222_194, s222_195, s222_197, s222_198, s222_199, s222_202, s222_205, s222_207, s222_208, s222_211, s222_213, s222_214, s222_217, s222_220, s222_222, s222_223, s222_226, s222_229, s222_230, mq_k0s, mq_k1s, mq_k2s, mq_k4s, mq_k5s, mq_k5n, mq_k5as, mq_k6s, mj_pu, mj_lo, mj_br, mj_hr, mj_hw, mq_gf, mq_len, mq_al, mq_pf, mq_ok, mj_re, mq_lkm, mq_lkn, mj_ldi, mj_ldl, mj_lda, mj_ii, mj_ll, mj_li, mj_i1, ms_1, ms_2, f1_n, f1_i, f1_r, f1_u, f1_l, f2_n, f2_i, f2_r, f2_u, f2_l, mj_tg, mj_c1, mj_c2, mj_ar, mj_aw, mq_cb, mq_oi, mj_rm, Value.category, -getElem?_pos, List.getElem?_cons_zero, decide_eq_true, decide_eq_false, nl_lt, nl_le, ln_lt, ln_le, nl_eq, ln_eq, nl_add, ln_add, nl_sub, ln_mul, nI_sub, nI_mul, nI_add, nI_lt_iff, nI_le_iff, nI_inj, nI_num, mq_ix, nI_1, nl_mul, nl_div, xp, g0, v0, o0, e1, v1, c1, narrow]
  rw [if_neg (by simp [c1])]
  rw [c1] at v1 hlen
  have hPA : ∀ c, (π ≤ c ∧ c ≤ π + 18) ∨ c = 26 ∨ c = 27 → hA κs πs c := by
    intro c hc
    rcases hc with hc | rfl | rfl
    · exact Or.inr (Or.inr (Or.inr ⟨π, hm, hc⟩))
    · unfold hA; omega
    · unfold hA; omega
  obtain ⟨M1, row1, p1, t1, f1⟩ := j_df (d := d) z.t h hbt hPA (q := 11 + n) (by omega) 65 o.2.2.2
  have ejd : (if tm_ix H.2.1.1 (7 :: p.2.1) = 0 ∨ w4a t (11 + n) ≠ nI (tm_ix H.2.1.1 (7 :: p.2.1)) then (5 : Int32) else if nI (cbB t (11 + n + 4)) &&& 65 ≠ 65 then 6 else if o.2.2.2 = true ∧ nI (cbB t (11 + n + 4)) &&& 4 = 0 then 7 else 0) = jd_data H.2.1 p o t 65 := by
    unfold jd_data; rw [hn, show 11 + n + 4 = 15 + n by omega]
  rw [ejd] at p1
  obtain ⟨z1, g1⟩ := z.tb t1 f1
  have s1 := z.cells f1
  have hx' : M[x]? = some (6, [.int o.1, .long (bt_lo o.2.1), .int (nI o.2.1.length), .int (if o.2.2.1 then 2 else 1), .int (if o.2.2.2 then 1 else 0)]) := hx
  have e2 : 6 + n + 5 = 11 + n := by omega
  have eon : (if o.2.2.2 = true then (1 : Int32) else 0) = on1 o.2.2.2 := by cases o.2.2.2 <;> rfl
  rw [eon] at hx'
  generalize jd_data H.2.1 p o t 65 = JD at *
  by_cases c2 : JD = 0; rotate_left
  · rw [if_pos c2, same]
    refine ⟨M1, row1, ?_, z1, g1⟩
    simp (disch := (first | omega | decide)) [c222, s222_0, s222_2, s222_3, s222_6, s222_9, s222_10, s222_12, s222_14, s222_15, s222_16, s222_18, s222_19, s222_21, s222_22, s222_23, s222_26, s222_28, s222_31, s222_32, s222_33, s222_34, s222_35, s222_36, s222_38, s222_40, s222_41, s222_44, s222_47, s222_49, s222_51, s222_54, s222_56, s222_57, s222_58, s222_60, s222_63, s222_65, s222_66, s222_67, s222_69, s222_71, s222_72, s222_75, s222_78, s222_80, s222_82, s222_85, s222_86, s222_88, s222_90, s222_91, s222_94, s222_96, s222_99, s222_100, s222_101, s222_102, s222_104, s222_106, s222_108, s222_111, s222_114, s222_116, s222_117, s222_118, s222_120, s222_123, s222_126, s222_128, s222_129, s222_130, s222_133, s222_134, s222_137, s222_138, s222_141, s222_143, s222_144, s222_145, s222_146, s222_149, s222_150, s222_151, s222_154, s222_155, s222_156, s222_159, s222_160, s222_161, s222_164, s222_166, s222_168, s222_171, s222_173, s222_175, s222_178, s222_180, s222_181, s222_183, s222_185, s222_186, s222_189, s222_192, s222_194, s222_195, s222_197, s222_198, s222_199, s222_202, s222_205, s222_207, s222_208, s222_211, s222_213, s222_214, s222_217, s222_220, s222_222, s222_223, s222_226, s222_229, s222_230, mq_k0s, mq_k1s, mq_k2s, mq_k4s, mq_k5s, mq_k5n, mq_k5as, mq_k6s, mj_pu, mj_lo, mj_br, mj_hr, mj_hw, mq_gf, mq_len, mq_al, mq_pf, mq_ok, mj_re, mq_lkm, mq_lkn, mj_ldi, mj_ldl, mj_lda, mj_ii, mj_ll, mj_li, mj_i1, ms_1, ms_2, f1_n, f1_i, f1_r, f1_u, f1_l, f2_n, f2_i, f2_r, f2_u, f2_l, mj_tg, mj_c1, mj_c2, mj_ar, mj_aw, mq_cb, mq_oi, mj_rm, Value.category, -getElem?_pos, List.getElem?_cons_zero, decide_eq_true, decide_eq_false, nl_lt, nl_le, ln_lt, ln_le, nl_eq, ln_eq, nl_add, ln_add, nl_sub, ln_mul, nI_sub, nI_mul, nI_add, nI_lt_iff, nI_le_iff, nI_inj, nI_num, mq_ix, nI_1, nl_mul, nl_div, xp, g0, v0, o0, e1, v1, e2, hx', p1, c2, narrow]
  rw [if_neg (by simp [c2])]
  subst c2
  have hb1 : bb M1 26 27 400 t := hbt.fr (s1 26 (hPA _ (by omega))) (s1 27 (hPA _ (by omega)))
  have o1 := hb1.2.2.2.2.2.1
  have h1 := h.fr (fun c hc => s1 c (hPA c (Or.inl hc)))
  have xp1 := h1.ob
  have w1 := j_four (d := d + 1) hb1 (q := 6 + n) (by omega)
  have w2 := j_four (d := d + 1) hb1 (q := 24 + n) (by omega)
  have w3 := j_four (d := d + 1) hb1 (q := 20 + n) (by omega)
  have w4 := tx_secretOf (d := d) t1 (w4a t (24 + n))
  obtain ⟨P1, E1, O1, x31⟩ := t1.ob
  have e3 : 11 + n + 13 = 24 + n := by omega
  have e4 : 11 + n + 9 = 20 + n := by omega
  have e5 : 11 + n + 5 = 16 + n := by omega
  generalize hID : w4a t (6 + n) = ID at *
  generalize hPB : w4a t (24 + n) = PB at *
  by_cases c3 : tm_sec H.2.1.1 PB = 0
  · rw [if_pos (Or.inl c3), same]
    refine ⟨M1, row1, ?_, z1, g1⟩
    simp (disch := (first | omega | decide)) [c222, s222_0, s222_2, s222_3, s222_6, s222_9, s222_10, s222_12, s222_14, s222_15, s222_16, s222_18, s222_19, s222_21, s222_22, s222_23, s222_26, s222_28, s222_31, s222_32, s222_33, s222_34, s222_35, s222_36, s222_38, s222_40, s222_41, s222_44, s222_47, s222_49, s222_51, s222_54, s222_56, s222_57, s222_58, s222_60, s222_63, s222_65, s222_66, s222_67, s222_69, s222_71, s222_72, s222_75, s222_78, s222_80, s222_82, s222_85, s222_86, s222_88, s222_90, s222_91, s222_94, s222_96, s222_99, s222_100, s222_101, s222_102, s222_104, s222_106, s222_108, s222_111, s222_114, s222_116, s222_117, s222_118, s222_120, s222_123, s222_126, s222_128, s222_129, s222_130, s222_133, s222_134, s222_137, s222_138, s222_141, s222_143, s222_144, s222_145, s222_146, s222_149, s222_150, s222_151, s222_154, s222_155, s222_156, s222_159, s222_160, s222_161, s222_164, s222_166, s222_168, s222_171, s222_173, s222_175, s222_178, s222_180, s222_181, s222_183, s222_185, s222_186, s222_189, s222_192, s222_194, s222_195, s222_197, s222_198, s222_199, s222_202, s222_205, s222_207, s222_208, s222_211, s222_213, s222_214, s222_217, s222_220, s222_222, s222_223, s222_226, s222_229, s222_230, mq_k0s, mq_k1s, mq_k2s, mq_k4s, mq_k5s, mq_k5n, mq_k5as, mq_k6s, mj_pu, mj_lo, mj_br, mj_hr, mj_hw, mq_gf, mq_len, mq_al, mq_pf, mq_ok, mj_re, mq_lkm, mq_lkn, mj_ldi, mj_ldl, mj_lda, mj_ii, mj_ll, mj_li, mj_i1, ms_1, ms_2, f1_n, f1_i, f1_r, f1_u, f1_l, f2_n, f2_i, f2_r, f2_u, f2_l, mj_tg, mj_c1, mj_c2, mj_ar, mj_aw, mq_cb, mq_oi, mj_rm, Value.category, -getElem?_pos, List.getElem?_cons_zero, decide_eq_true, decide_eq_false, nl_lt, nl_le, ln_lt, ln_le, nl_eq, ln_eq, nl_add, ln_add, nl_sub, ln_mul, nI_sub, nI_mul, nI_add, nI_lt_iff, nI_le_iff, nI_inj, nI_num, mq_ix, nI_1, nl_mul, nl_div, xp, g0, v0, o0, e1, v1, e2, hx', p1, o1, w1, e3, w2, x31, w4, c3, narrow]
  by_cases c4 : w4a t (20 + n) = ID; rotate_left
  · rw [if_pos (Or.inr (Or.inl c4)), same]
    refine ⟨M1, row1, ?_, z1, g1⟩
    simp (disch := (first | omega | decide)) [c222, s222_0, s222_2, s222_3, s222_6, s222_9, s222_10, s222_12, s222_14, s222_15, s222_16, s222_18, s222_19, s222_21, s222_22, s222_23, s222_26, s222_28, s222_31, s222_32, s222_33, s222_34, s222_35, s222_36, s222_38, s222_40, s222_41, s222_44, s222_47, s222_49, s222_51, s222_54, s222_56, s222_57, s222_58, s222_60, s222_63, s222_65, s222_66, s222_67, s222_69, s222_71, s222_72, s222_75, s222_78, s222_80, s222_82, s222_85, s222_86, s222_88, s222_90, s222_91, s222_94, s222_96, s222_99, s222_100, s222_101, s222_102, s222_104, s222_106, s222_108, s222_111, s222_114, s222_116, s222_117, s222_118, s222_120, s222_123, s222_126, s222_128, s222_129, s222_130, s222_133, s222_134, s222_137, s222_138, s222_141, s222_143, s222_144, s222_145, s222_146, s222_149, s222_150, s222_151, s222_154, s222_155, s222_156, s222_159, s222_160, s222_161, s222_164, s222_166, s222_168, s222_171, s222_173, s222_175, s222_178, s222_180, s222_181, s222_183, s222_185, s222_186, s222_189, s222_192, s222_194, s222_195, s222_197, s222_198, s222_199, s222_202, s222_205, s222_207, s222_208, s222_211, s222_213, s222_214, s222_217, s222_220, s222_222, s222_223, s222_226, s222_229, s222_230, mq_k0s, mq_k1s, mq_k2s, mq_k4s, mq_k5s, mq_k5n, mq_k5as, mq_k6s, mj_pu, mj_lo, mj_br, mj_hr, mj_hw, mq_gf, mq_len, mq_al, mq_pf, mq_ok, mj_re, mq_lkm, mq_lkn, mj_ldi, mj_ldl, mj_lda, mj_ii, mj_ll, mj_li, mj_i1, ms_1, ms_2, f1_n, f1_i, f1_r, f1_u, f1_l, f2_n, f2_i, f2_r, f2_u, f2_l, mj_tg, mj_c1, mj_c2, mj_ar, mj_aw, mq_cb, mq_oi, mj_rm, Value.category, -getElem?_pos, List.getElem?_cons_zero, decide_eq_true, decide_eq_false, nl_lt, nl_le, ln_lt, ln_le, nl_eq, ln_eq, nl_add, ln_add, nl_sub, ln_mul, nI_sub, nI_mul, nI_add, nI_lt_iff, nI_le_iff, nI_inj, nI_num, mq_ix, nI_1, nl_mul, nl_div, xp, g0, v0, o0, e1, v1, e2, hx', p1, o1, w1, e3, w2, x31, w4, c3, e4, w3, c4, narrow]
  obtain ⟨M2, row2, p2, t2, f2⟩ := j_sg (d := d) t1 h1 hb1 hPA (q := 11 + n) (size := 17) (by omega) (by omega) (by omega) (tm_sec H.2.1.1 PB)
  have ejs : (!decide (tm_ix H.2.1.1 (7 :: (t.take 5 ++ p.1)) = 0) && kn_as H.2.1 (6 :: tm_sec H.2.1.1 PB :: ((t.drop (11 + n)).take 17 ++ b4 (nI (tm_ix H.2.1.1 (7 :: (t.take 5 ++ p.1)))))) (w4a t (11 + n + 17))) = jd_sig H.2.1 p t (tm_sec H.2.1.1 PB) 17 := by unfold jd_sig; rw [hn]
  rw [ejs] at p2
  obtain ⟨z2, g2⟩ := z1.tb t2 f2
  have s2 : ∀ c, hA κs πs c → M2[c]? = M[c]? := fun c hc => (f2.same c (t1.lo c hc) (fun n => n hc)).trans (s1 c hc)
  have h2 := h.fr (fun c hc => s2 c (hPA c (Or.inl hc)))
  have xp2 := h2.ob
  rw [show nI 17 = 17 from rfl] at p2
  cases c5 : jd_sig H.2.1 p t (tm_sec H.2.1.1 PB) 17 with
  | false =>
    rw [if_pos (Or.inr (Or.inr rfl)), same]
    rw [c5, on1_f] at p2
    refine ⟨M2, row2, ?_, z2, g1.tr g2⟩
    simp (disch := (first | omega | decide)) [c222, s222_0, s222_2, s222_3, s222_6, s222_9, s222_10, s222_12, s222_14, s222_15, s222_16, s222_18, s222_19, s222_21, s222_22, s222_23, s222_26, s222_28, s222_31, s222_32, s222_33, s222_34, s222_35, s222_36, s222_38, s222_40, s222_41, s222_44, s222_47, s222_49, s222_51, s222_54, s222_56, s222_57, s222_58, s222_60, s222_63, s222_65, s222_66, s222_67, s222_69, s222_71, s222_72, s222_75, s222_78, s222_80, s222_82, s222_85, s222_86, s222_88, s222_90, s222_91, s222_94, s222_96, s222_99, s222_100, s222_101, s222_102, s222_104, s222_106, s222_108, s222_111, s222_114, s222_116, s222_117, s222_118, s222_120, s222_123, s222_126, s222_128, s222_129, s222_130, s222_133, s222_134, s222_137, s222_138, s222_141, s222_143, s222_144, s222_145, s222_146, s222_149, s222_150, s222_151, s222_154, s222_155, s222_156, s222_159, s222_160, s222_161, s222_164, s222_166, s222_168, s222_171, s222_173, s222_175, s222_178, s222_180, s222_181, s222_183, s222_185, s222_186, s222_189, s222_192, s222_194, s222_195, s222_197, s222_198, s222_199, s222_202, s222_205, s222_207, s222_208, s222_211, s222_213, s222_214, s222_217, s222_220, s222_222, s222_223, s222_226, s222_229, s222_230, mq_k0s, mq_k1s, mq_k2s, mq_k4s, mq_k5s, mq_k5n, mq_k5as, mq_k6s, mj_pu, mj_lo, mj_br, mj_hr, mj_hw, mq_gf, mq_len, mq_al, mq_pf, mq_ok, mj_re, mq_lkm, mq_lkn, mj_ldi, mj_ldl, mj_lda, mj_ii, mj_ll, mj_li, mj_i1, ms_1, ms_2, f1_n, f1_i, f1_r, f1_u, f1_l, f2_n, f2_i, f2_r, f2_u, f2_l, mj_tg, mj_c1, mj_c2, mj_ar, mj_aw, mq_cb, mq_oi, mj_rm, Value.category, -getElem?_pos, List.getElem?_cons_zero, decide_eq_true, decide_eq_false, nl_lt, nl_le, ln_lt, ln_le, nl_eq, ln_eq, nl_add, ln_add, nl_sub, ln_mul, nI_sub, nI_mul, nI_add, nI_lt_iff, nI_le_iff, nI_inj, nI_num, mq_ix, nI_1, nl_mul, nl_div, xp, g0, v0, o0, e1, v1, e2, hx', p1, o1, w1, e3, w2, x31, w4, c3, e4, w3, c4, xp1, p2, narrow]
  | true =>
  rw [c5, on1_t] at p2
  rw [if_neg (by simp [c3, c4])]
  have v2 := j_with (d := d + 1) h2 ID
  have hany : p.2.2.2.1.any (fun a => decide (a.1 = ID)) = (p.2.2.2.1.findIdx? (fun a => decide (a.1 = ID))).isSome := by
    rw [List.findIdx?_isSome]
  rw [hany]
  cases c6 : p.2.2.2.1.findIdx? (fun a => decide (a.1 = ID)) with
  | some k =>
    rw [c6] at v2
    dsimp only at v2
    rw [if_pos (show (some k).isSome = true from rfl), same]
    refine ⟨M2, row2, ?_, z2, g1.tr g2⟩
    simp (disch := (first | omega | decide)) [c222, s222_0, s222_2, s222_3, s222_6, s222_9, s222_10, s222_12, s222_14, s222_15, s222_16, s222_18, s222_19, s222_21, s222_22, s222_23, s222_26, s222_28, s222_31, s222_32, s222_33, s222_34, s222_35, s222_36, s222_38, s222_40, s222_41, s222_44, s222_47, s222_49, s222_51, s222_54, s222_56, s222_57, s222_58, s222_60, s222_63, s222_65, s222_66, s222_67, s222_69, s222_71, s222_72, s222_75, s222_78, s222_80, s222_82, s222_85, s222_86, s222_88, s222_90, s222_91, s222_94, s222_96, s222_99, s222_100, s222_101, s222_102, s222_104, s222_106, s222_108, s222_111, s222_114, s222_116, s222_117, s222_118, s222_120, s222_123, s222_126, s222_128, s222_129, s222_130, s222_133, s222_134, s222_137, s222_138, s222_141, s222_143, s222_144, s222_145, s222_146, s222_149, s222_150, s222_151, s222_154, s222_155, s222_156, s222_159, s222_160, s222_161, s222_164, s222_166, s222_168, s222_171, s222_173, s222_175, s222_178, s222_180, s222_181, s222_183, s222_185, s222_186, s222_189, s222_192, s222_194, s222_195, s222_197, s222_198, s222_199, s222_202, s222_205, s222_207, s222_208, s222_211, s222_213, s222_214, s222_217, s222_220, s222_222, s222_223, s222_226, s222_229, s222_230, mq_k0s, mq_k1s, mq_k2s, mq_k4s, mq_k5s, mq_k5n, mq_k5as, mq_k6s, mj_pu, mj_lo, mj_br, mj_hr, mj_hw, mq_gf, mq_len, mq_al, mq_pf, mq_ok, mj_re, mq_lkm, mq_lkn, mj_ldi, mj_ldl, mj_lda, mj_ii, mj_ll, mj_li, mj_i1, ms_1, ms_2, f1_n, f1_i, f1_r, f1_u, f1_l, f2_n, f2_i, f2_r, f2_u, f2_l, mj_tg, mj_c1, mj_c2, mj_ar, mj_aw, mq_cb, mq_oi, mj_rm, Value.category, -getElem?_pos, List.getElem?_cons_zero, decide_eq_true, decide_eq_false, nl_lt, nl_le, ln_lt, ln_le, nl_eq, ln_eq, nl_add, ln_add, nl_sub, ln_mul, nI_sub, nI_mul, nI_add, nI_lt_iff, nI_le_iff, nI_inj, nI_num, mq_ix, nI_1, nl_mul, nl_div, xp, g0, v0, o0, e1, v1, e2, hx', p1, o1, w1, e3, w2, x31, w4, c3, e4, w3, c4, xp1, p2, xp2, v2, narrow]
  | none =>
  rw [c6] at v2
  dsimp only at v2
  rw [if_neg (by simp)]
  have l8 := h.l8
  by_cases c7 : 8 ≤ p.2.2.2.1.length
  · rw [if_pos c7, same]
    refine ⟨M2, row2, ?_, z2, g1.tr g2⟩
    have aa2 := h2.aa
    simp (disch := (first | omega | decide)) [c222, s222_0, s222_2, s222_3, s222_6, s222_9, s222_10, s222_12, s222_14, s222_15, s222_16, s222_18, s222_19, s222_21, s222_22, s222_23, s222_26, s222_28, s222_31, s222_32, s222_33, s222_34, s222_35, s222_36, s222_38, s222_40, s222_41, s222_44, s222_47, s222_49, s222_51, s222_54, s222_56, s222_57, s222_58, s222_60, s222_63, s222_65, s222_66, s222_67, s222_69, s222_71, s222_72, s222_75, s222_78, s222_80, s222_82, s222_85, s222_86, s222_88, s222_90, s222_91, s222_94, s222_96, s222_99, s222_100, s222_101, s222_102, s222_104, s222_106, s222_108, s222_111, s222_114, s222_116, s222_117, s222_118, s222_120, s222_123, s222_126, s222_128, s222_129, s222_130, s222_133, s222_134, s222_137, s222_138, s222_141, s222_143, s222_144, s222_145, s222_146, s222_149, s222_150, s222_151, s222_154, s222_155, s222_156, s222_159, s222_160, s222_161, s222_164, s222_166, s222_168, s222_171, s222_173, s222_175, s222_178, s222_180, s222_181, s222_183, s222_185, s222_186, s222_189, s222_192, s222_194, s222_195, s222_197, s222_198, s222_199, s222_202, s222_205, s222_207, s222_208, s222_211, s222_213, s222_214, s222_217, s222_220, s222_222, s222_223, s222_226, s222_229, s222_230, mq_k0s, mq_k1s, mq_k2s, mq_k4s, mq_k5s, mq_k5n, mq_k5as, mq_k6s, mj_pu, mj_lo, mj_br, mj_hr, mj_hw, mq_gf, mq_len, mq_al, mq_pf, mq_ok, mj_re, mq_lkm, mq_lkn, mj_ldi, mj_ldl, mj_lda, mj_ii, mj_ll, mj_li, mj_i1, ms_1, ms_2, f1_n, f1_i, f1_r, f1_u, f1_l, f2_n, f2_i, f2_r, f2_u, f2_l, mj_tg, mj_c1, mj_c2, mj_ar, mj_aw, mq_cb, mq_oi, mj_rm, Value.category, -getElem?_pos, List.getElem?_cons_zero, decide_eq_true, decide_eq_false, nl_lt, nl_le, ln_lt, ln_le, nl_eq, ln_eq, nl_add, ln_add, nl_sub, ln_mul, nI_sub, nI_mul, nI_add, nI_lt_iff, nI_le_iff, nI_inj, nI_num, mq_ix, nI_1, nl_mul, nl_div, xp, g0, v0, o0, e1, v1, e2, hx', p1, o1, w1, e3, w2, x31, w4, c3, e4, w3, c4, xp1, p2, xp2, v2, aa2, c7, narrow]
  rw [if_neg c7]
  -- a new account
  have c7' : p.2.2.2.1.length < 8 := by omega
  obtain ⟨a1, a2, a3, a4, a5, a6, ha⟩ := h2.ax p.2.2.2.1.length c7'
  have lp := mq_lt h2.ob
  have la := mq_lt ha
  have hz' := h2.acc1 (a := ((ID, (PB, (w4a t (16 + n), (0, o.2.1)))) : Ac)) c7'
  obtain ⟨q1, hq1⟩ : ∃ q1 : mj_C, q1 = (7, [.ref (π + 1), .ref (π + 3), .ref (π + 5), .ref (π + 10), .int (nI p.2.2.1.length), .int (nI (p.2.2.2.1.length + 1)), .int p.2.2.2.2.1, .int p.2.2.2.2.2]) := ⟨_, rfl⟩
  have epo : po π ((p.1, (p.2.1, (p.2.2.1, (p.2.2.2.1 ++ [((ID, (PB, (w4a t (16 + n), (0, o.2.1)))) : Ac)], (p.2.2.2.2.1, p.2.2.2.2.2))))) : Pa) = q1 := by simp [po, hq1]
  rw [epo] at hz'
  generalize hA1 : π + 11 + p.2.2.2.1.length = a at *
  have har : π + 11 ≤ a ∧ a ≤ π + 18 := by omega
  have hgr : mj_gr M2 ((M2.set π q1).set a (acc ((ID, (PB, (w4a t (16 + n), (0, o.2.1)))) : Ac))) := by
    have gA : mj_gr M2 (M2.set π q1) := mj_gr.set h2.ob (by rw [hq1]) (by rw [hq1]; rfl)
    have hap : (M2.set π q1)[a]? = some (0, [.int a1, .int a2, .int a3, .int a4, .long a5, .int a6]) := (List.getElem?_set_ne (by omega)).trans ha
    have gB : mj_gr (M2.set π q1) ((M2.set π q1).set a (acc ((ID, (PB, (w4a t (16 + n), (0, o.2.1)))) : Ac))) := mj_gr.set hap rfl rfl
    exact gA.tr gB
  obtain ⟨z3, g3⟩ := z2.pback hp hπ hz' (by simp) (fun c hc => by rw [List.getElem?_set_ne (by omega), List.getElem?_set_ne (by omega)]) hgr
  refine ⟨_, row2, ?_, z3, (g1.tr g2).tr g3⟩
  have hb2 : bb M2 26 27 400 t := hbt.fr (s2 26 (hPA _ (by omega))) (s2 27 (hPA _ (by omega)))
  have fourN : ∀ (q : Nat) (cell : mj_C), q + 4 ≤ t.length → mj_V (d + 3) 53 [.ref 26, .int (nI q)] ((M2.set π q1).set a cell) = some (some (.int (w4a t q)), (M2.set π q1).set a cell) := by
    intro q cell hq
    refine j_four (d := d + 1) (hb2.fr ?_ ?_) hq
    · rw [List.getElem?_set_ne (by omega), List.getElem?_set_ne (by omega)]
    · rw [List.getElem?_set_ne (by omega), List.getElem?_set_ne (by omega)]
  have f24 := fun cell => fourN (24 + n) cell (by omega)
  have f16 := fun cell => fourN (16 + n) cell (by omega)
  rw [hPB] at f24
  have v200 : mj_V (d + 3) 200 [.ref π, .int (nI p.2.2.2.1.length)] (M2.set π q1) = some (some (.ref a), M2.set π q1) := by
    obtain ⟨zs, z1, z2', z3'⟩ := h2.arr (show p.2.2.2.1.length < 8 by omega)
    rw [hA1] at z3'
    have hla : p.2.2.2.1.length < p.2.2.2.1.length + 1 := by omega
    simp (disch := (first | omega | decide)) [c200, s200_0, s200_1, s200_4, s200_5, s200_6, s200_9, s200_12, s200_13, s200_14, s200_17, s200_18, s200_21, s200_22, s200_25, s200_26, s200_29, s200_30, s200_31, mq_k0s, mq_k1s, mq_k2s, mq_k4s, mq_k5s, mq_k5n, mq_k5as, mq_k6s, mj_pu, mj_lo, mj_br, mj_hr, mj_hw, mq_gf, mq_len, mq_al, mq_pf, mq_ok, mj_re, mq_lkm, mq_lkn, mj_ldi, mj_ldl, mj_lda, mj_ii, mj_ll, mj_li, mj_i1, ms_1, ms_2, f1_n, f1_i, f1_r, f1_u, f1_l, f2_n, f2_i, f2_r, f2_u, f2_l, mj_tg, mj_c1, mj_c2, mj_ar, mj_aw, mq_cb, mq_oi, mj_rm, Value.category, -getElem?_pos, List.getElem?_cons_zero, decide_eq_true, decide_eq_false, nl_lt, nl_le, ln_lt, ln_le, nl_eq, ln_eq, nl_add, ln_add, nl_sub, ln_mul, nI_sub, nI_mul, nI_add, nI_lt_iff, nI_le_iff, nI_inj, nI_num, mq_ix, nI_1, nl_mul, nl_div, List.getElem?_set, lp, hq1, z1, z2', z3', hla, narrow]
  have hx2 : M2[x]? = some (6, [.int o.1, .long (bt_lo o.2.1), .int (nI o.2.1.length), .int (if o.2.2.1 then 2 else 1), .int (on1 o.2.2.2)]) := by rw [s2 x (hPA x (Or.inl hxr))]; exact hx'
  have hh : ¬ π < 25 := by omega
  have hha : ¬ a < 25 := by omega
  have hne1 : π ≠ a := by omega
  have hne2 : ¬ π = x := fun e => hxn.1 e.symm
  have hne3 : ¬ a = x := fun e => hxn.2 (by omega)
  have o26 : M2[26]? = some (1, [.ref 27, .int (nI t.length)]) := hb2.2.2.2.2.2.1
  have ne26 : ¬ π = 26 ∧ ¬ a = 26 := by omega
  have aa2 := h2.aa
  have ne10 : ¬ a = π + 10 := by omega
  subst hq1
  simp (disch := (first | omega | decide)) [c222, s222_0, s222_2, s222_3, s222_6, s222_9, s222_10, s222_12, s222_14, s222_15, s222_16, s222_18, s222_19, s222_21, s222_22, s222_23, s222_26, s222_28, s222_31, s222_32, s222_33, s222_34, s222_35, s222_36, s222_38, s222_40, s222_41, s222_44, s222_47, s222_49, s222_51, s222_54, s222_56, s222_57, s222_58, s222_60, s222_63, s222_65, s222_66, s222_67, s222_69, s222_71, s222_72, s222_75, s222_78, s222_80, s222_82, s222_85, s222_86, s222_88, s222_90, s222_91, s222_94, s222_96, s222_99, s222_100, s222_101, s222_102, s222_104, s222_106, s222_108, s222_111, s222_114, s222_116, s222_117, s222_118, s222_120, s222_123, s222_126, s222_128, s222_129, s222_130, s222_133, s222_134, s222_137, s222_138, s222_141, s222_143, s222_144, s222_145, s222_146, s222_149, s222_150, s222_151, s222_154, s222_155, s222_156, s222_159, s222_160, s222_161, s222_164, s222_166, s222_168, s222_171, s222_173, s222_175, s222_178, s222_180, s222_181, s222_183, s222_185, s222_186, s222_189, s222_192, s222_194, s222_195, s222_197, s222_198, s222_199, s222_202, s222_205, s222_207, s222_208, s222_211, s222_213, s222_214, s222_217, s222_220, s222_222, s222_223, s222_226, s222_229, s222_230, mq_k0s, mq_k1s, mq_k2s, mq_k4s, mq_k5s, mq_k5n, mq_k5as, mq_k6s, mj_pu, mj_lo, mj_br, mj_hr, mj_hw, mq_gf, mq_len, mq_al, mq_pf, mq_ok, mj_re, mq_lkm, mq_lkn, mj_ldi, mj_ldl, mj_lda, mj_ii, mj_ll, mj_li, mj_i1, ms_1, ms_2, f1_n, f1_i, f1_r, f1_u, f1_l, f2_n, f2_i, f2_r, f2_u, f2_l, mj_tg, mj_c1, mj_c2, mj_ar, mj_aw, mq_cb, mq_oi, mj_rm, Value.category, -getElem?_pos, List.getElem?_cons_zero, decide_eq_true, decide_eq_false, nl_lt, nl_le, ln_lt, ln_le, nl_eq, ln_eq, nl_add, ln_add, nl_sub, ln_mul, nI_sub, nI_mul, nI_add, nI_lt_iff, nI_le_iff, nI_inj, nI_num, mq_ix, nI_1, nl_mul, nl_div, xp, g0, v0, o0, e1, v1, e2, hx', p1, o1, w1, e3, w2, x31, w4, c3, e4, w3, c4, xp1, p2, xp2, v2, aa2, c7, c7', narrow, mj_E, hh, lp, List.getElem?_set, v200, hha, la, ha, hne1, f24, o26, ne26, e5, f16, hx2, hne2, hne3, acc]
end HZ
end
/- 9t.hl -/
section
set_option maxRecDepth 512
/-! Class: the house: logins, verdicts. -/
/- 226 PasskeyHouse$Party.whyNoLogin(LPasskeyHouse$Terms;LPasskeyHouse$Bytes;LPasskeyHouse$Offer;)I -/
theorem s226_0 {d : Nat} {ls : mj_L} {st : List Value} {M : mj_H} : mj_Rn d mj_m226 0 ls st M = mj_Rn d mj_m226 2 ls (.int 6 :: st) M := mj_R0 (r := (.bipush 6, 2, 0, 0, 0)) rfl rfl
theorem s226_2 {d : Nat} {ls : mj_L} {st : List Value} {M : mj_H} : mj_Rn d mj_m226 2 ls st M = mq_k0 d mj_m226 3 ls M (mj_lda (mj_lk ls 0) st) := mj_R0 (r := (.aload_n 0, 1, 0, 0, 0)) rfl rfl
theorem s226_3 {d : Nat} {ls : mj_L} {st : List Value} {M : mj_H} : mj_Rn d mj_m226 3 ls st M = mq_k0 d mj_m226 6 ls M (mq_gf 7 0 st M) := (mj_R3 (r := (.getfield 14, 3, 7, 0, 49358)) rfl rfl).trans (congrArg (mq_k0 d mj_m226 6 ls M) mq_gf_eq)
theorem s226_6 {d : Nat} {ls : mj_L} {st : List Value} {M : mj_H} : mj_Rn (d + 1) mj_m226 6 ls st M = mq_k5a (d + 1) mj_m226 9 ls M 9 (mq_cb 0 0 1 st M) := mj_R5e (r := (.invokevirtual 80, 3, 0, 9, 24743)) (z := mj_m9) rfl rfl (by decide) (by decide) rfl
theorem s226_9 {d : Nat} {ls : mj_L} {st : List Value} {M : mj_H} : mj_Rn d mj_m226 9 ls st M = mq_k0 d mj_m226 10 ls M (mj_pu .iadd ls st) := mj_R0 (r := (.iadd, 1, 0, 0, 0)) rfl rfl
theorem s226_10 {d : Nat} {ls : mj_L} {st : List Value} {M : mj_H} : mj_Rn d mj_m226 10 ls st M = mq_k1 d mj_m226 12 M (mj_lo 12 (.istore 4) ls st) := mj_R1 (r := (.istore 4, 2, 0, 0, 0)) rfl rfl
theorem s226_12 {d : Nat} {ls : mj_L} {st : List Value} {M : mj_H} : mj_Rn d mj_m226 12 ls st M = mq_k0 d mj_m226 14 ls M (mj_ldi (mj_lk ls 4) st) := mj_R0 (r := (.iload 4, 2, 0, 0, 0)) rfl rfl
theorem s226_14 {d : Nat} {ls : mj_L} {st : List Value} {M : mj_H} : mj_Rn d mj_m226 14 ls st M = mj_Rn d mj_m226 15 ls (.int 5 :: st) M := mj_R0 (r := (.iconst 5, 1, 0, 0, 0)) rfl rfl
theorem s226_15 {d : Nat} {ls : mj_L} {st : List Value} {M : mj_H} : mj_Rn d mj_m226 15 ls st M = mq_k0 d mj_m226 16 ls M (mj_pu .iadd ls st) := mj_R0 (r := (.iadd, 1, 0, 0, 0)) rfl rfl
theorem s226_16 {d : Nat} {ls : mj_L} {st : List Value} {M : mj_H} : mj_Rn d mj_m226 16 ls st M = mq_k1 d mj_m226 18 M (mj_lo 12 (.istore 5) ls st) := mj_R1 (r := (.istore 5, 2, 0, 0, 0)) rfl rfl
theorem s226_18 {d : Nat} {ls : mj_L} {st : List Value} {M : mj_H} : mj_Rn d mj_m226 18 ls st M = mq_k0 d mj_m226 19 ls M (mj_lda (mj_lk ls 2) st) := mj_R0 (r := (.aload_n 2, 1, 0, 0, 0)) rfl rfl
theorem s226_19 {d : Nat} {ls : mj_L} {st : List Value} {M : mj_H} : mj_Rn d mj_m226 19 ls st M = mq_k0 d mj_m226 21 ls M (mj_ldi (mj_lk ls 4) st) := mj_R0 (r := (.iload 4, 2, 0, 0, 0)) rfl rfl
theorem s226_21 {d : Nat} {ls : mj_L} {st : List Value} {M : mj_H} : mj_Rn d mj_m226 21 ls st M = mj_Rn d mj_m226 22 ls (.int 4 :: st) M := mj_R0 (r := (.iconst 4, 1, 0, 0, 0)) rfl rfl
theorem s226_22 {d : Nat} {ls : mj_L} {st : List Value} {M : mj_H} : mj_Rn d mj_m226 22 ls st M = mq_k0 d mj_m226 23 ls M (mj_pu .iadd ls st) := mj_R0 (r := (.iadd, 1, 0, 0, 0)) rfl rfl
theorem s226_23 {d : Nat} {ls : mj_L} {st : List Value} {M : mj_H} : mj_Rn (d + 1) mj_m226 23 ls st M = mq_k5a (d + 1) mj_m226 26 ls M 14 (mq_cb 0 1 1 st M) := mj_R5e (r := (.invokevirtual 73, 3, 0, 14, 24732)) (z := mj_m14) rfl rfl (by decide) (by decide) rfl
theorem s226_26 {d : Nat} {ls : mj_L} {st : List Value} {M : mj_H} : mj_Rn d mj_m226 26 ls st M = mj_Rn d mj_m226 28 ls (.int 9 :: st) M := mj_R0 (r := (.bipush 9, 2, 0, 0, 0)) rfl rfl
theorem s226_28 {d : Nat} {ls : mj_L} {st : List Value} {M : mj_H} : mj_Rn d mj_m226 28 ls st M = mq_k2 d mj_m226 ls M (mj_br (.if_icmp .eq 5) 28 st) := mj_R2 (r := (.if_icmp .eq 5, 3, 0, 0, 0)) rfl rfl
theorem s226_31 {d : Nat} {ls : mj_L} {st : List Value} {M : mj_H} : mj_Rn d mj_m226 31 ls st M = mj_Rn d mj_m226 32 ls (.int 4 :: st) M := mj_R0 (r := (.iconst 4, 1, 0, 0, 0)) rfl rfl
theorem s226_32 {d : Nat} {ls : mj_L} {st : List Value} {M : mj_H} : mj_Rn d mj_m226 32 ls st M = mq_k6 M (mj_re (some .int) (.ireturn) st) := mj_R6 (r := (.ireturn, 1, 0, 0, 0)) rfl rfl
theorem s226_33 {d : Nat} {ls : mj_L} {st : List Value} {M : mj_H} : mj_Rn d mj_m226 33 ls st M = mq_k0 d mj_m226 34 ls M (mj_lda (mj_lk ls 0) st) := mj_R0 (r := (.aload_n 0, 1, 0, 0, 0)) rfl rfl
theorem s226_34 {d : Nat} {ls : mj_L} {st : List Value} {M : mj_H} : mj_Rn d mj_m226 34 ls st M = mq_k0 d mj_m226 35 ls M (mj_lda (mj_lk ls 1) st) := mj_R0 (r := (.aload_n 1, 1, 0, 0, 0)) rfl rfl
theorem s226_35 {d : Nat} {ls : mj_L} {st : List Value} {M : mj_H} : mj_Rn d mj_m226 35 ls st M = mq_k0 d mj_m226 36 ls M (mj_lda (mj_lk ls 2) st) := mj_R0 (r := (.aload_n 2, 1, 0, 0, 0)) rfl rfl
theorem s226_36 {d : Nat} {ls : mj_L} {st : List Value} {M : mj_H} : mj_Rn d mj_m226 36 ls st M = mq_k0 d mj_m226 38 ls M (mj_ldi (mj_lk ls 5) st) := mj_R0 (r := (.iload 5, 2, 0, 0, 0)) rfl rfl
theorem s226_38 {d : Nat} {ls : mj_L} {st : List Value} {M : mj_H} : mj_Rn d mj_m226 38 ls st M = mj_Rn d mj_m226 39 ls (.int 1 :: st) M := mj_R0 (r := (.iconst 1, 1, 0, 0, 0)) rfl rfl
theorem s226_39 {d : Nat} {ls : mj_L} {st : List Value} {M : mj_H} : mj_Rn d mj_m226 39 ls st M = mq_k0 d mj_m226 40 ls M (mj_lda (mj_lk ls 3) st) := mj_R0 (r := (.aload_n 3, 1, 0, 0, 0)) rfl rfl
theorem s226_40 {d : Nat} {ls : mj_L} {st : List Value} {M : mj_H} : mj_Rn d mj_m226 40 ls st M = mq_k0 d mj_m226 43 ls M (mq_gf 6 4 st M) := (mj_R3 (r := (.getfield 107, 3, 6, 4, 49267)) rfl rfl).trans (congrArg (mq_k0 d mj_m226 43 ls M) mq_gf_eq)
theorem s226_43 {d : Nat} {ls : mj_L} {st : List Value} {M : mj_H} : mj_Rn (d + 1) mj_m226 43 ls st M = mq_k5a (d + 1) mj_m226 46 ls M 223 (mq_cb 0 5 7 st M) := mj_R5e (r := (.invokevirtual 111, 3, 0, 223, 24749)) (z := mj_m223) rfl rfl (by decide) (by decide) rfl
theorem s226_46 {d : Nat} {ls : mj_L} {st : List Value} {M : mj_H} : mj_Rn d mj_m226 46 ls st M = mq_k1 d mj_m226 48 M (mj_lo 12 (.istore 6) ls st) := mj_R1 (r := (.istore 6, 2, 0, 0, 0)) rfl rfl
theorem s226_48 {d : Nat} {ls : mj_L} {st : List Value} {M : mj_H} : mj_Rn d mj_m226 48 ls st M = mq_k0 d mj_m226 50 ls M (mj_ldi (mj_lk ls 6) st) := mj_R0 (r := (.iload 6, 2, 0, 0, 0)) rfl rfl
theorem s226_50 {d : Nat} {ls : mj_L} {st : List Value} {M : mj_H} : mj_Rn d mj_m226 50 ls st M = mq_k2 d mj_m226 ls M (mj_br (.ifCond .eq 6) 50 st) := mj_R2 (r := (.ifCond .eq 6, 3, 0, 0, 0)) rfl rfl
theorem s226_53 {d : Nat} {ls : mj_L} {st : List Value} {M : mj_H} : mj_Rn d mj_m226 53 ls st M = mq_k0 d mj_m226 55 ls M (mj_ldi (mj_lk ls 6) st) := mj_R0 (r := (.iload 6, 2, 0, 0, 0)) rfl rfl
theorem s226_55 {d : Nat} {ls : mj_L} {st : List Value} {M : mj_H} : mj_Rn d mj_m226 55 ls st M = mq_k6 M (mj_re (some .int) (.ireturn) st) := mj_R6 (r := (.ireturn, 1, 0, 0, 0)) rfl rfl
theorem s226_56 {d : Nat} {ls : mj_L} {st : List Value} {M : mj_H} : mj_Rn d mj_m226 56 ls st M = mq_k0 d mj_m226 57 ls M (mj_lda (mj_lk ls 0) st) := mj_R0 (r := (.aload_n 0, 1, 0, 0, 0)) rfl rfl
theorem s226_57 {d : Nat} {ls : mj_L} {st : List Value} {M : mj_H} : mj_Rn d mj_m226 57 ls st M = mq_k0 d mj_m226 58 ls M (mj_lda (mj_lk ls 2) st) := mj_R0 (r := (.aload_n 2, 1, 0, 0, 0)) rfl rfl
theorem s226_58 {d : Nat} {ls : mj_L} {st : List Value} {M : mj_H} : mj_Rn d mj_m226 58 ls st M = mq_k0 d mj_m226 60 ls M (mj_ldi (mj_lk ls 4) st) := mj_R0 (r := (.iload 4, 2, 0, 0, 0)) rfl rfl
theorem s226_60 {d : Nat} {ls : mj_L} {st : List Value} {M : mj_H} : mj_Rn (d + 1) mj_m226 60 ls st M = mq_k5a (d + 1) mj_m226 63 ls M 53 (mq_cb 0 1 1 st M) := mj_R5e (r := (.invokevirtual 69, 3, 0, 53, 24733)) (z := mj_m53) rfl rfl (by decide) (by decide) rfl
theorem s226_63 {d : Nat} {ls : mj_L} {st : List Value} {M : mj_H} : mj_Rn (d + 1) mj_m226 63 ls st M = mq_k5a (d + 1) mj_m226 66 ls M 225 (mq_cb 0 1 7 st M) := mj_R5e (r := (.invokevirtual 124, 3, 0, 225, 24763)) (z := mj_m225) rfl rfl (by decide) (by decide) rfl
theorem s226_66 {d : Nat} {ls : mj_L} {st : List Value} {M : mj_H} : mj_Rn d mj_m226 66 ls st M = mq_k1 d mj_m226 68 M (mj_lo 12 (.astore 7) ls st) := mj_R1 (r := (.astore 7, 2, 0, 0, 0)) rfl rfl
theorem s226_68 {d : Nat} {ls : mj_L} {st : List Value} {M : mj_H} : mj_Rn d mj_m226 68 ls st M = mq_k0 d mj_m226 70 ls M (mj_lda (mj_lk ls 7) st) := mj_R0 (r := (.aload 7, 2, 0, 0, 0)) rfl rfl
theorem s226_70 {d : Nat} {ls : mj_L} {st : List Value} {M : mj_H} : mj_Rn d mj_m226 70 ls st M = mq_k2 d mj_m226 ls M (mj_br (.ifnull 19) 70 st) := mj_R2 (r := (.ifnull 19, 3, 0, 0, 0)) rfl rfl
theorem s226_73 {d : Nat} {ls : mj_L} {st : List Value} {M : mj_H} : mj_Rn d mj_m226 73 ls st M = mq_k0 d mj_m226 75 ls M (mj_lda (mj_lk ls 7) st) := mj_R0 (r := (.aload 7, 2, 0, 0, 0)) rfl rfl
theorem s226_75 {d : Nat} {ls : mj_L} {st : List Value} {M : mj_H} : mj_Rn d mj_m226 75 ls st M = mq_k0 d mj_m226 76 ls M (mj_lda (mj_lk ls 3) st) := mj_R0 (r := (.aload_n 3, 1, 0, 0, 0)) rfl rfl
theorem s226_76 {d : Nat} {ls : mj_L} {st : List Value} {M : mj_H} : mj_Rn d mj_m226 76 ls st M = mq_k0 d mj_m226 79 ls M (mq_gf 6 1 st M) := (mj_R3 (r := (.getfield 139, 3, 6, 1, 49255)) rfl rfl).trans (congrArg (mq_k0 d mj_m226 79 ls M) mq_gf_eq)
theorem s226_79 {d : Nat} {ls : mj_L} {st : List Value} {M : mj_H} : mj_Rn d mj_m226 79 ls st M = mq_k0 d mj_m226 80 ls M (mj_lda (mj_lk ls 3) st) := mj_R0 (r := (.aload_n 3, 1, 0, 0, 0)) rfl rfl
theorem s226_80 {d : Nat} {ls : mj_L} {st : List Value} {M : mj_H} : mj_Rn d mj_m226 80 ls st M = mq_k0 d mj_m226 83 ls M (mq_gf 6 2 st M) := (mj_R3 (r := (.getfield 144, 3, 6, 2, 49259)) rfl rfl).trans (congrArg (mq_k0 d mj_m226 83 ls M) mq_gf_eq)
theorem s226_83 {d : Nat} {ls : mj_L} {st : List Value} {M : mj_H} : mj_Rn (d + 1) mj_m226 83 ls st M = mq_k5a (d + 1) mj_m226 86 ls M 201 (mq_cb 0 2 0 st M) := mj_R5e (r := (.invokevirtual 45, 3, 0, 201, 20706)) (z := mj_m201) rfl rfl (by decide) (by decide) rfl
theorem s226_86 {d : Nat} {ls : mj_L} {st : List Value} {M : mj_H} : mj_Rn d mj_m226 86 ls st M = mq_k2 d mj_m226 ls M (mj_br (.ifCond .ne 6) 86 st) := mj_R2 (r := (.ifCond .ne 6, 3, 0, 0, 0)) rfl rfl
theorem s226_89 {d : Nat} {ls : mj_L} {st : List Value} {M : mj_H} : mj_Rn d mj_m226 89 ls st M = mj_Rn d mj_m226 91 ls (.int 11 :: st) M := mj_R0 (r := (.bipush 11, 2, 0, 0, 0)) rfl rfl
theorem s226_91 {d : Nat} {ls : mj_L} {st : List Value} {M : mj_H} : mj_Rn d mj_m226 91 ls st M = mq_k6 M (mj_re (some .int) (.ireturn) st) := mj_R6 (r := (.ireturn, 1, 0, 0, 0)) rfl rfl
theorem s226_92 {d : Nat} {ls : mj_L} {st : List Value} {M : mj_H} : mj_Rn d mj_m226 92 ls st M = mq_k0 d mj_m226 93 ls M (mj_lda (mj_lk ls 0) st) := mj_R0 (r := (.aload_n 0, 1, 0, 0, 0)) rfl rfl
theorem s226_93 {d : Nat} {ls : mj_L} {st : List Value} {M : mj_H} : mj_Rn d mj_m226 93 ls st M = mq_k0 d mj_m226 94 ls M (mj_lda (mj_lk ls 1) st) := mj_R0 (r := (.aload_n 1, 1, 0, 0, 0)) rfl rfl
theorem s226_94 {d : Nat} {ls : mj_L} {st : List Value} {M : mj_H} : mj_Rn d mj_m226 94 ls st M = mq_k0 d mj_m226 95 ls M (mj_lda (mj_lk ls 2) st) := mj_R0 (r := (.aload_n 2, 1, 0, 0, 0)) rfl rfl
theorem s226_95 {d : Nat} {ls : mj_L} {st : List Value} {M : mj_H} : mj_Rn d mj_m226 95 ls st M = mq_k0 d mj_m226 97 ls M (mj_ldi (mj_lk ls 5) st) := mj_R0 (r := (.iload 5, 2, 0, 0, 0)) rfl rfl
theorem s226_97 {d : Nat} {ls : mj_L} {st : List Value} {M : mj_H} : mj_Rn d mj_m226 97 ls st M = mq_k0 d mj_m226 98 ls M (mj_lda (mj_lk ls 1) st) := mj_R0 (r := (.aload_n 1, 1, 0, 0, 0)) rfl rfl
theorem s226_98 {d : Nat} {ls : mj_L} {st : List Value} {M : mj_H} : mj_Rn d mj_m226 98 ls st M = mq_k0 d mj_m226 100 ls M (mj_lda (mj_lk ls 7) st) := mj_R0 (r := (.aload 7, 2, 0, 0, 0)) rfl rfl
theorem s226_100 {d : Nat} {ls : mj_L} {st : List Value} {M : mj_H} : mj_Rn d mj_m226 100 ls st M = mq_k0 d mj_m226 103 ls M (mq_gf 0 1 st M) := (mj_R3 (r := (.getfield 130, 3, 0, 1, 49315)) rfl rfl).trans (congrArg (mq_k0 d mj_m226 103 ls M) mq_gf_eq)
theorem s226_103 {d : Nat} {ls : mj_L} {st : List Value} {M : mj_H} : mj_Rn (d + 1) mj_m226 103 ls st M = mq_k5a (d + 1) mj_m226 106 ls M 145 (mq_cb 0 1 9 st M) := mj_R5e (r := (.invokevirtual 115, 3, 0, 145, 24756)) (z := mj_m145) rfl rfl (by decide) (by decide) rfl
theorem s226_106 {d : Nat} {ls : mj_L} {st : List Value} {M : mj_H} : mj_Rn d mj_m226 106 ls st M = mj_Rn d mj_m226 108 ls (.int 9 :: st) M := mj_R0 (r := (.bipush 9, 2, 0, 0, 0)) rfl rfl
theorem s226_108 {d : Nat} {ls : mj_L} {st : List Value} {M : mj_H} : mj_Rn (d + 1) mj_m226 108 ls st M = mq_k5a (d + 1) mj_m226 111 ls M 224 (mq_cb 0 5 7 st M) := mj_R5e (r := (.invokevirtual 120, 3, 0, 224, 24757)) (z := mj_m224) rfl rfl (by decide) (by decide) rfl
theorem s226_111 {d : Nat} {ls : mj_L} {st : List Value} {M : mj_H} : mj_Rn d mj_m226 111 ls st M = mq_k2 d mj_m226 ls M (mj_br (.ifCond .ne 6) 111 st) := mj_R2 (r := (.ifCond .ne 6, 3, 0, 0, 0)) rfl rfl
theorem s226_114 {d : Nat} {ls : mj_L} {st : List Value} {M : mj_H} : mj_Rn d mj_m226 114 ls st M = mj_Rn d mj_m226 116 ls (.int 8 :: st) M := mj_R0 (r := (.bipush 8, 2, 0, 0, 0)) rfl rfl
theorem s226_116 {d : Nat} {ls : mj_L} {st : List Value} {M : mj_H} : mj_Rn d mj_m226 116 ls st M = mq_k6 M (mj_re (some .int) (.ireturn) st) := mj_R6 (r := (.ireturn, 1, 0, 0, 0)) rfl rfl
theorem s226_117 {d : Nat} {ls : mj_L} {st : List Value} {M : mj_H} : mj_Rn d mj_m226 117 ls st M = mq_k0 d mj_m226 118 ls M (mj_lda (mj_lk ls 2) st) := mj_R0 (r := (.aload_n 2, 1, 0, 0, 0)) rfl rfl
theorem s226_118 {d : Nat} {ls : mj_L} {st : List Value} {M : mj_H} : mj_Rn d mj_m226 118 ls st M = mq_k0 d mj_m226 120 ls M (mj_ldi (mj_lk ls 5) st) := mj_R0 (r := (.iload 5, 2, 0, 0, 0)) rfl rfl
theorem s226_120 {d : Nat} {ls : mj_L} {st : List Value} {M : mj_H} : mj_Rn d mj_m226 120 ls st M = mj_Rn d mj_m226 121 ls (.int 5 :: st) M := mj_R0 (r := (.iconst 5, 1, 0, 0, 0)) rfl rfl
theorem s226_121 {d : Nat} {ls : mj_L} {st : List Value} {M : mj_H} : mj_Rn d mj_m226 121 ls st M = mq_k0 d mj_m226 122 ls M (mj_pu .iadd ls st) := mj_R0 (r := (.iadd, 1, 0, 0, 0)) rfl rfl
theorem s226_122 {d : Nat} {ls : mj_L} {st : List Value} {M : mj_H} : mj_Rn d mj_m226 122 ls st M = mj_Rn d mj_m226 123 ls (.int 4 :: st) M := mj_R0 (r := (.iconst 4, 1, 0, 0, 0)) rfl rfl
theorem s226_123 {d : Nat} {ls : mj_L} {st : List Value} {M : mj_H} : mj_Rn (d + 1) mj_m226 123 ls st M = mq_k5a (d + 1) mj_m226 126 ls M 49 (mq_cb 0 2 1 st M) := mj_R5e (r := (.invokevirtual 148, 3, 0, 49, 24771)) (z := mj_m49) rfl rfl (by decide) (by decide) rfl
theorem s226_126 {d : Nat} {ls : mj_L} {st : List Value} {M : mj_H} : mj_Rn d mj_m226 126 ls st M = mq_k1 d mj_m226 128 M (mj_lo 12 (.lstore 8) ls st) := mj_R1 (r := (.lstore 8, 2, 0, 0, 0)) rfl rfl
theorem s226_128 {d : Nat} {ls : mj_L} {st : List Value} {M : mj_H} : mj_Rn d mj_m226 128 ls st M = mq_k0 d mj_m226 130 ls M (mj_lda (mj_lk ls 7) st) := mj_R0 (r := (.aload 7, 2, 0, 0, 0)) rfl rfl
theorem s226_130 {d : Nat} {ls : mj_L} {st : List Value} {M : mj_H} : mj_Rn d mj_m226 130 ls st M = mq_k0 d mj_m226 133 ls M (mq_gf 0 2 st M) := (mj_R3 (r := (.getfield 133, 3, 0, 2, 49319)) rfl rfl).trans (congrArg (mq_k0 d mj_m226 133 ls M) mq_gf_eq)
theorem s226_133 {d : Nat} {ls : mj_L} {st : List Value} {M : mj_H} : mj_Rn d mj_m226 133 ls st M = mq_k0 d mj_m226 134 ls M (mj_pu .i2l ls st) := mj_R0 (r := (.i2l, 1, 0, 0, 0)) rfl rfl
theorem s226_134 {d : Nat} {ls : mj_L} {st : List Value} {M : mj_H} : mj_Rn d mj_m226 134 ls st M = mj_Rn d mj_m226 137 ls (.long 4294967295 :: st) M := mj_R3 (r := (.ldc2_w 152, 3, 1, 19, 24772)) rfl rfl
theorem s226_137 {d : Nat} {ls : mj_L} {st : List Value} {M : mj_H} : mj_Rn d mj_m226 137 ls st M = mq_k0 d mj_m226 138 ls M (mj_pu .land ls st) := mj_R0 (r := (.land, 1, 0, 0, 0)) rfl rfl
theorem s226_138 {d : Nat} {ls : mj_L} {st : List Value} {M : mj_H} : mj_Rn d mj_m226 138 ls st M = mq_k1 d mj_m226 140 M (mj_lo 12 (.lstore 10) ls st) := mj_R1 (r := (.lstore 10, 2, 0, 0, 0)) rfl rfl
theorem s226_140 {d : Nat} {ls : mj_L} {st : List Value} {M : mj_H} : mj_Rn d mj_m226 140 ls st M = mq_k0 d mj_m226 142 ls M (mj_ldl (mj_lk ls 8) st) := mj_R0 (r := (.lload 8, 2, 0, 0, 0)) rfl rfl
theorem s226_142 {d : Nat} {ls : mj_L} {st : List Value} {M : mj_H} : mj_Rn d mj_m226 142 ls st M = mq_k0 d mj_m226 144 ls M (mj_ldl (mj_lk ls 10) st) := mj_R0 (r := (.lload 10, 2, 0, 0, 0)) rfl rfl
theorem s226_144 {d : Nat} {ls : mj_L} {st : List Value} {M : mj_H} : mj_Rn d mj_m226 144 ls st M = mq_k0 d mj_m226 145 ls M (mj_pu .lcmp ls st) := mj_R0 (r := (.lcmp, 1, 0, 0, 0)) rfl rfl
theorem s226_145 {d : Nat} {ls : mj_L} {st : List Value} {M : mj_H} : mj_Rn d mj_m226 145 ls st M = mq_k2 d mj_m226 ls M (mj_br (.ifCond .gt 20) 145 st) := mj_R2 (r := (.ifCond .gt 20, 3, 0, 0, 0)) rfl rfl
theorem s226_148 {d : Nat} {ls : mj_L} {st : List Value} {M : mj_H} : mj_Rn d mj_m226 148 ls st M = mq_k0 d mj_m226 150 ls M (mj_ldl (mj_lk ls 8) st) := mj_R0 (r := (.lload 8, 2, 0, 0, 0)) rfl rfl
theorem s226_150 {d : Nat} {ls : mj_L} {st : List Value} {M : mj_H} : mj_Rn d mj_m226 150 ls st M = mj_Rn d mj_m226 151 ls (.long 0 :: st) M := mj_R0 (r := (.lconst 0, 1, 0, 0, 0)) rfl rfl
theorem s226_151 {d : Nat} {ls : mj_L} {st : List Value} {M : mj_H} : mj_Rn d mj_m226 151 ls st M = mq_k0 d mj_m226 152 ls M (mj_pu .lcmp ls st) := mj_R0 (r := (.lcmp, 1, 0, 0, 0)) rfl rfl
theorem s226_152 {d : Nat} {ls : mj_L} {st : List Value} {M : mj_H} : mj_Rn d mj_m226 152 ls st M = mq_k2 d mj_m226 ls M (mj_br (.ifCond .ne 10) 152 st) := mj_R2 (r := (.ifCond .ne 10, 3, 0, 0, 0)) rfl rfl
theorem s226_155 {d : Nat} {ls : mj_L} {st : List Value} {M : mj_H} : mj_Rn d mj_m226 155 ls st M = mq_k0 d mj_m226 157 ls M (mj_ldl (mj_lk ls 10) st) := mj_R0 (r := (.lload 10, 2, 0, 0, 0)) rfl rfl
theorem s226_157 {d : Nat} {ls : mj_L} {st : List Value} {M : mj_H} : mj_Rn d mj_m226 157 ls st M = mj_Rn d mj_m226 158 ls (.long 0 :: st) M := mj_R0 (r := (.lconst 0, 1, 0, 0, 0)) rfl rfl
theorem s226_158 {d : Nat} {ls : mj_L} {st : List Value} {M : mj_H} : mj_Rn d mj_m226 158 ls st M = mq_k0 d mj_m226 159 ls M (mj_pu .lcmp ls st) := mj_R0 (r := (.lcmp, 1, 0, 0, 0)) rfl rfl
theorem s226_159 {d : Nat} {ls : mj_L} {st : List Value} {M : mj_H} : mj_Rn d mj_m226 159 ls st M = mq_k2 d mj_m226 ls M (mj_br (.ifCond .eq 6) 159 st) := mj_R2 (r := (.ifCond .eq 6, 3, 0, 0, 0)) rfl rfl
theorem s226_162 {d : Nat} {ls : mj_L} {st : List Value} {M : mj_H} : mj_Rn d mj_m226 162 ls st M = mj_Rn d mj_m226 164 ls (.int 12 :: st) M := mj_R0 (r := (.bipush 12, 2, 0, 0, 0)) rfl rfl
theorem s226_164 {d : Nat} {ls : mj_L} {st : List Value} {M : mj_H} : mj_Rn d mj_m226 164 ls st M = mq_k6 M (mj_re (some .int) (.ireturn) st) := mj_R6 (r := (.ireturn, 1, 0, 0, 0)) rfl rfl
theorem s226_165 {d : Nat} {ls : mj_L} {st : List Value} {M : mj_H} : mj_Rn d mj_m226 165 ls st M = mq_k0 d mj_m226 167 ls M (mj_lda (mj_lk ls 7) st) := mj_R0 (r := (.aload 7, 2, 0, 0, 0)) rfl rfl
theorem s226_167 {d : Nat} {ls : mj_L} {st : List Value} {M : mj_H} : mj_Rn d mj_m226 167 ls st M = mq_k0 d mj_m226 169 ls M (mj_ldl (mj_lk ls 8) st) := mj_R0 (r := (.lload 8, 2, 0, 0, 0)) rfl rfl
theorem s226_169 {d : Nat} {ls : mj_L} {st : List Value} {M : mj_H} : mj_Rn d mj_m226 169 ls st M = mq_k0 d mj_m226 170 ls M (mj_pu .l2i ls st) := mj_R0 (r := (.l2i, 1, 0, 0, 0)) rfl rfl
theorem s226_170 {d : Nat} {ls : mj_L} {st : List Value} {M : mj_H} : mj_Rn d mj_m226 170 ls st M = mq_k4 d mj_m226 173 ls (mq_pf 0 2 0 st M) := (mj_R4 (r := (.putfield 133, 3, 0, 2, 49319)) rfl rfl).trans (congrArg (mq_k4 d mj_m226 173 ls) (mq_pf_eq rfl rfl))
theorem s226_173 {d : Nat} {ls : mj_L} {st : List Value} {M : mj_H} : mj_Rn d mj_m226 173 ls st M = mq_k0 d mj_m226 175 ls M (mj_lda (mj_lk ls 7) st) := mj_R0 (r := (.aload 7, 2, 0, 0, 0)) rfl rfl
theorem s226_175 {d : Nat} {ls : mj_L} {st : List Value} {M : mj_H} : mj_Rn d mj_m226 175 ls st M = mq_k0 d mj_m226 176 ls M (mj_pu .dup ls st) := mj_R0 (r := (.dup, 1, 0, 0, 0)) rfl rfl
theorem s226_176 {d : Nat} {ls : mj_L} {st : List Value} {M : mj_H} : mj_Rn d mj_m226 176 ls st M = mq_k0 d mj_m226 179 ls M (mq_gf 0 3 st M) := (mj_R3 (r := (.getfield 136, 3, 0, 3, 49323)) rfl rfl).trans (congrArg (mq_k0 d mj_m226 179 ls M) mq_gf_eq)
theorem s226_179 {d : Nat} {ls : mj_L} {st : List Value} {M : mj_H} : mj_Rn d mj_m226 179 ls st M = mj_Rn d mj_m226 180 ls (.int 1 :: st) M := mj_R0 (r := (.iconst 1, 1, 0, 0, 0)) rfl rfl
theorem s226_180 {d : Nat} {ls : mj_L} {st : List Value} {M : mj_H} : mj_Rn d mj_m226 180 ls st M = mq_k0 d mj_m226 181 ls M (mj_pu .iadd ls st) := mj_R0 (r := (.iadd, 1, 0, 0, 0)) rfl rfl
theorem s226_181 {d : Nat} {ls : mj_L} {st : List Value} {M : mj_H} : mj_Rn d mj_m226 181 ls st M = mq_k4 d mj_m226 184 ls (mq_pf 0 3 0 st M) := (mj_R4 (r := (.putfield 136, 3, 0, 3, 49323)) rfl rfl).trans (congrArg (mq_k4 d mj_m226 184 ls) (mq_pf_eq rfl rfl))
theorem s226_184 {d : Nat} {ls : mj_L} {st : List Value} {M : mj_H} : mj_Rn d mj_m226 184 ls st M = mj_Rn d mj_m226 185 ls (.int 0 :: st) M := mj_R0 (r := (.iconst 0, 1, 0, 0, 0)) rfl rfl
theorem s226_185 {d : Nat} {ls : mj_L} {st : List Value} {M : mj_H} : mj_Rn d mj_m226 185 ls st M = mq_k6 M (mj_re (some .int) (.ireturn) st) := mj_R6 (r := (.ireturn, 1, 0, 0, 0)) rfl rfl
/- 218 PasskeyHouse$Party.whyNot(LPasskeyHouse$Terms;LPasskeyHouse$Bytes;I)I -/
theorem s218_0 {d : Nat} {ls : mj_L} {st : List Value} {M : mj_H} : mj_Rn d mj_m218 0 ls st M = mq_k0 d mj_m218 1 ls M (mj_lda (mj_lk ls 2) st) := mj_R0 (r := (.aload_n 2, 1, 0, 0, 0)) rfl rfl
theorem s218_1 {d : Nat} {ls : mj_L} {st : List Value} {M : mj_H} : mj_Rn d mj_m218 1 ls st M = mq_k0 d mj_m218 2 ls M (mj_ldi (mj_lk ls 3) st) := mj_R0 (r := (.iload_n 3, 1, 0, 0, 0)) rfl rfl
theorem s218_2 {d : Nat} {ls : mj_L} {st : List Value} {M : mj_H} : mj_Rn (d + 1) mj_m218 2 ls st M = mq_k5a (d + 1) mj_m218 5 ls M 219 (mq_cb 2 2 7 st M) := mj_R5e (r := (.invokestatic 65, 3, 2, 219, 24729)) (z := mj_m219) rfl rfl (by decide) (by decide) rfl
theorem s218_5 {d : Nat} {ls : mj_L} {st : List Value} {M : mj_H} : mj_Rn d mj_m218 5 ls st M = mq_k2 d mj_m218 ls M (mj_br (.ifCond .ne 5) 5 st) := mj_R2 (r := (.ifCond .ne 5, 3, 0, 0, 0)) rfl rfl
theorem s218_8 {d : Nat} {ls : mj_L} {st : List Value} {M : mj_H} : mj_Rn d mj_m218 8 ls st M = mj_Rn d mj_m218 9 ls (.int 1 :: st) M := mj_R0 (r := (.iconst 1, 1, 0, 0, 0)) rfl rfl
theorem s218_9 {d : Nat} {ls : mj_L} {st : List Value} {M : mj_H} : mj_Rn d mj_m218 9 ls st M = mq_k6 M (mj_re (some .int) (.ireturn) st) := mj_R6 (r := (.ireturn, 1, 0, 0, 0)) rfl rfl
theorem s218_10 {d : Nat} {ls : mj_L} {st : List Value} {M : mj_H} : mj_Rn d mj_m218 10 ls st M = mq_k0 d mj_m218 11 ls M (mj_lda (mj_lk ls 0) st) := mj_R0 (r := (.aload_n 0, 1, 0, 0, 0)) rfl rfl
theorem s218_11 {d : Nat} {ls : mj_L} {st : List Value} {M : mj_H} : mj_Rn d mj_m218 11 ls st M = mq_k0 d mj_m218 12 ls M (mj_lda (mj_lk ls 2) st) := mj_R0 (r := (.aload_n 2, 1, 0, 0, 0)) rfl rfl
theorem s218_12 {d : Nat} {ls : mj_L} {st : List Value} {M : mj_H} : mj_Rn d mj_m218 12 ls st M = mj_Rn d mj_m218 13 ls (.int 1 :: st) M := mj_R0 (r := (.iconst 1, 1, 0, 0, 0)) rfl rfl
theorem s218_13 {d : Nat} {ls : mj_L} {st : List Value} {M : mj_H} : mj_Rn (d + 1) mj_m218 13 ls st M = mq_k5a (d + 1) mj_m218 16 ls M 53 (mq_cb 0 1 1 st M) := mj_R5e (r := (.invokevirtual 69, 3, 0, 53, 24733)) (z := mj_m53) rfl rfl (by decide) (by decide) rfl
theorem s218_16 {d : Nat} {ls : mj_L} {st : List Value} {M : mj_H} : mj_Rn d mj_m218 16 ls st M = mq_k0 d mj_m218 17 ls M (mj_lda (mj_lk ls 2) st) := mj_R0 (r := (.aload_n 2, 1, 0, 0, 0)) rfl rfl
theorem s218_17 {d : Nat} {ls : mj_L} {st : List Value} {M : mj_H} : mj_Rn d mj_m218 17 ls st M = mj_Rn d mj_m218 18 ls (.int 0 :: st) M := mj_R0 (r := (.iconst 0, 1, 0, 0, 0)) rfl rfl
theorem s218_18 {d : Nat} {ls : mj_L} {st : List Value} {M : mj_H} : mj_Rn (d + 1) mj_m218 18 ls st M = mq_k5a (d + 1) mj_m218 21 ls M 14 (mq_cb 0 1 1 st M) := mj_R5e (r := (.invokevirtual 73, 3, 0, 14, 24732)) (z := mj_m14) rfl rfl (by decide) (by decide) rfl
theorem s218_21 {d : Nat} {ls : mj_L} {st : List Value} {M : mj_H} : mj_Rn (d + 1) mj_m218 21 ls st M = mq_k5a (d + 1) mj_m218 24 ls M 220 (mq_cb 0 2 7 st M) := mj_R5e (r := (.invokevirtual 76, 3, 0, 220, 24734)) (z := mj_m220) rfl rfl (by decide) (by decide) rfl
theorem s218_24 {d : Nat} {ls : mj_L} {st : List Value} {M : mj_H} : mj_Rn d mj_m218 24 ls st M = mq_k1 d mj_m218 26 M (mj_lo 6 (.astore 4) ls st) := mj_R1 (r := (.astore 4, 2, 0, 0, 0)) rfl rfl
theorem s218_26 {d : Nat} {ls : mj_L} {st : List Value} {M : mj_H} : mj_Rn d mj_m218 26 ls st M = mq_k0 d mj_m218 28 ls M (mj_lda (mj_lk ls 4) st) := mj_R0 (r := (.aload 4, 2, 0, 0, 0)) rfl rfl
theorem s218_28 {d : Nat} {ls : mj_L} {st : List Value} {M : mj_H} : mj_Rn d mj_m218 28 ls st M = mq_k2 d mj_m218 ls M (mj_br (.ifnonnull 5) 28 st) := mj_R2 (r := (.ifnonnull 5, 3, 0, 0, 0)) rfl rfl
theorem s218_31 {d : Nat} {ls : mj_L} {st : List Value} {M : mj_H} : mj_Rn d mj_m218 31 ls st M = mj_Rn d mj_m218 32 ls (.int 2 :: st) M := mj_R0 (r := (.iconst 2, 1, 0, 0, 0)) rfl rfl
theorem s218_32 {d : Nat} {ls : mj_L} {st : List Value} {M : mj_H} : mj_Rn d mj_m218 32 ls st M = mq_k6 M (mj_re (some .int) (.ireturn) st) := mj_R6 (r := (.ireturn, 1, 0, 0, 0)) rfl rfl
theorem s218_33 {d : Nat} {ls : mj_L} {st : List Value} {M : mj_H} : mj_Rn d mj_m218 33 ls st M = mq_k0 d mj_m218 34 ls M (mj_lda (mj_lk ls 2) st) := mj_R0 (r := (.aload_n 2, 1, 0, 0, 0)) rfl rfl
theorem s218_34 {d : Nat} {ls : mj_L} {st : List Value} {M : mj_H} : mj_Rn d mj_m218 34 ls st M = mj_Rn d mj_m218 35 ls (.int 5 :: st) M := mj_R0 (r := (.iconst 5, 1, 0, 0, 0)) rfl rfl
theorem s218_35 {d : Nat} {ls : mj_L} {st : List Value} {M : mj_H} : mj_Rn (d + 1) mj_m218 35 ls st M = mq_k5a (d + 1) mj_m218 38 ls M 14 (mq_cb 0 1 1 st M) := mj_R5e (r := (.invokevirtual 73, 3, 0, 14, 24732)) (z := mj_m14) rfl rfl (by decide) (by decide) rfl
theorem s218_38 {d : Nat} {ls : mj_L} {st : List Value} {M : mj_H} : mj_Rn d mj_m218 38 ls st M = mq_k1 d mj_m218 40 M (mj_lo 6 (.istore 5) ls st) := mj_R1 (r := (.istore 5, 2, 0, 0, 0)) rfl rfl
theorem s218_40 {d : Nat} {ls : mj_L} {st : List Value} {M : mj_H} : mj_Rn d mj_m218 40 ls st M = mq_k0 d mj_m218 42 ls M (mj_ldi (mj_lk ls 5) st) := mj_R0 (r := (.iload 5, 2, 0, 0, 0)) rfl rfl
theorem s218_42 {d : Nat} {ls : mj_L} {st : List Value} {M : mj_H} : mj_Rn d mj_m218 42 ls st M = mq_k0 d mj_m218 43 ls M (mj_lda (mj_lk ls 0) st) := mj_R0 (r := (.aload_n 0, 1, 0, 0, 0)) rfl rfl
theorem s218_43 {d : Nat} {ls : mj_L} {st : List Value} {M : mj_H} : mj_Rn d mj_m218 43 ls st M = mq_k0 d mj_m218 46 ls M (mq_gf 7 0 st M) := (mj_R3 (r := (.getfield 14, 3, 7, 0, 49358)) rfl rfl).trans (congrArg (mq_k0 d mj_m218 46 ls M) mq_gf_eq)
theorem s218_46 {d : Nat} {ls : mj_L} {st : List Value} {M : mj_H} : mj_Rn (d + 1) mj_m218 46 ls st M = mq_k5a (d + 1) mj_m218 49 ls M 9 (mq_cb 0 0 1 st M) := mj_R5e (r := (.invokevirtual 80, 3, 0, 9, 24743)) (z := mj_m9) rfl rfl (by decide) (by decide) rfl
theorem s218_49 {d : Nat} {ls : mj_L} {st : List Value} {M : mj_H} : mj_Rn d mj_m218 49 ls st M = mq_k2 d mj_m218 ls M (mj_br (.if_icmp .ne 19) 49 st) := mj_R2 (r := (.if_icmp .ne 19, 3, 0, 0, 0)) rfl rfl
theorem s218_52 {d : Nat} {ls : mj_L} {st : List Value} {M : mj_H} : mj_Rn d mj_m218 52 ls st M = mq_k0 d mj_m218 53 ls M (mj_lda (mj_lk ls 2) st) := mj_R0 (r := (.aload_n 2, 1, 0, 0, 0)) rfl rfl
theorem s218_53 {d : Nat} {ls : mj_L} {st : List Value} {M : mj_H} : mj_Rn d mj_m218 53 ls st M = mj_Rn d mj_m218 55 ls (.int 6 :: st) M := mj_R0 (r := (.bipush 6, 2, 0, 0, 0)) rfl rfl
theorem s218_55 {d : Nat} {ls : mj_L} {st : List Value} {M : mj_H} : mj_Rn d mj_m218 55 ls st M = mq_k0 d mj_m218 56 ls M (mj_lda (mj_lk ls 0) st) := mj_R0 (r := (.aload_n 0, 1, 0, 0, 0)) rfl rfl
theorem s218_56 {d : Nat} {ls : mj_L} {st : List Value} {M : mj_H} : mj_Rn d mj_m218 56 ls st M = mq_k0 d mj_m218 59 ls M (mq_gf 7 0 st M) := (mj_R3 (r := (.getfield 14, 3, 7, 0, 49358)) rfl rfl).trans (congrArg (mq_k0 d mj_m218 59 ls M) mq_gf_eq)
theorem s218_59 {d : Nat} {ls : mj_L} {st : List Value} {M : mj_H} : mj_Rn d mj_m218 59 ls st M = mj_Rn d mj_m218 60 ls (.int 0 :: st) M := mj_R0 (r := (.iconst 0, 1, 0, 0, 0)) rfl rfl
theorem s218_60 {d : Nat} {ls : mj_L} {st : List Value} {M : mj_H} : mj_Rn d mj_m218 60 ls st M = mq_k0 d mj_m218 62 ls M (mj_ldi (mj_lk ls 5) st) := mj_R0 (r := (.iload 5, 2, 0, 0, 0)) rfl rfl
theorem s218_62 {d : Nat} {ls : mj_L} {st : List Value} {M : mj_H} : mj_Rn (d + 1) mj_m218 62 ls st M = mq_k5a (d + 1) mj_m218 65 ls M 193 (mq_cb 0 4 1 st M) := mj_R5e (r := (.invokevirtual 84, 3, 0, 193, 24744)) (z := mj_m193) rfl rfl (by decide) (by decide) rfl
theorem s218_65 {d : Nat} {ls : mj_L} {st : List Value} {M : mj_H} : mj_Rn d mj_m218 65 ls st M = mq_k2 d mj_m218 ls M (mj_br (.ifCond .ne 5) 65 st) := mj_R2 (r := (.ifCond .ne 5, 3, 0, 0, 0)) rfl rfl
theorem s218_68 {d : Nat} {ls : mj_L} {st : List Value} {M : mj_H} : mj_Rn d mj_m218 68 ls st M = mj_Rn d mj_m218 69 ls (.int 3 :: st) M := mj_R0 (r := (.iconst 3, 1, 0, 0, 0)) rfl rfl
theorem s218_69 {d : Nat} {ls : mj_L} {st : List Value} {M : mj_H} : mj_Rn d mj_m218 69 ls st M = mq_k6 M (mj_re (some .int) (.ireturn) st) := mj_R6 (r := (.ireturn, 1, 0, 0, 0)) rfl rfl
theorem s218_70 {d : Nat} {ls : mj_L} {st : List Value} {M : mj_H} : mj_Rn d mj_m218 70 ls st M = mq_k0 d mj_m218 72 ls M (mj_lda (mj_lk ls 4) st) := mj_R0 (r := (.aload 4, 2, 0, 0, 0)) rfl rfl
theorem s218_72 {d : Nat} {ls : mj_L} {st : List Value} {M : mj_H} : mj_Rn d mj_m218 72 ls st M = mq_k0 d mj_m218 75 ls M (mq_gf 6 3 st M) := (mj_R3 (r := (.getfield 88, 3, 6, 3, 49263)) rfl rfl).trans (congrArg (mq_k0 d mj_m218 75 ls M) mq_gf_eq)
theorem s218_75 {d : Nat} {ls : mj_L} {st : List Value} {M : mj_H} : mj_Rn d mj_m218 75 ls st M = mj_Rn d mj_m218 76 ls (.int 1 :: st) M := mj_R0 (r := (.iconst 1, 1, 0, 0, 0)) rfl rfl
theorem s218_76 {d : Nat} {ls : mj_L} {st : List Value} {M : mj_H} : mj_Rn d mj_m218 76 ls st M = mq_k2 d mj_m218 ls M (mj_br (.if_icmp .ne 14) 76 st) := mj_R2 (r := (.if_icmp .ne 14, 3, 0, 0, 0)) rfl rfl
theorem s218_79 {d : Nat} {ls : mj_L} {st : List Value} {M : mj_H} : mj_Rn d mj_m218 79 ls st M = mq_k0 d mj_m218 80 ls M (mj_lda (mj_lk ls 0) st) := mj_R0 (r := (.aload_n 0, 1, 0, 0, 0)) rfl rfl
theorem s218_80 {d : Nat} {ls : mj_L} {st : List Value} {M : mj_H} : mj_Rn d mj_m218 80 ls st M = mq_k0 d mj_m218 81 ls M (mj_lda (mj_lk ls 1) st) := mj_R0 (r := (.aload_n 1, 1, 0, 0, 0)) rfl rfl
theorem s218_81 {d : Nat} {ls : mj_L} {st : List Value} {M : mj_H} : mj_Rn d mj_m218 81 ls st M = mq_k0 d mj_m218 82 ls M (mj_lda (mj_lk ls 2) st) := mj_R0 (r := (.aload_n 2, 1, 0, 0, 0)) rfl rfl
theorem s218_82 {d : Nat} {ls : mj_L} {st : List Value} {M : mj_H} : mj_Rn d mj_m218 82 ls st M = mq_k0 d mj_m218 84 ls M (mj_lda (mj_lk ls 4) st) := mj_R0 (r := (.aload 4, 2, 0, 0, 0)) rfl rfl
theorem s218_84 {d : Nat} {ls : mj_L} {st : List Value} {M : mj_H} : mj_Rn (d + 1) mj_m218 84 ls st M = mq_k5a (d + 1) mj_m218 87 ls M 222 (mq_cb 0 3 7 st M) := mj_R5e (r := (.invokevirtual 91, 3, 0, 222, 24745)) (z := mj_m222) rfl rfl (by decide) (by decide) rfl
theorem s218_87 {d : Nat} {ls : mj_L} {st : List Value} {M : mj_H} : mj_Rn d mj_m218 87 ls st M = mj_Rn d mj_m218 98 ls st M := mj_R2 (r := (.goto 11, 3, 0, 0, 0)) rfl rfl
theorem s218_90 {d : Nat} {ls : mj_L} {st : List Value} {M : mj_H} : mj_Rn d mj_m218 90 ls st M = mq_k0 d mj_m218 91 ls M (mj_lda (mj_lk ls 0) st) := mj_R0 (r := (.aload_n 0, 1, 0, 0, 0)) rfl rfl
theorem s218_91 {d : Nat} {ls : mj_L} {st : List Value} {M : mj_H} : mj_Rn d mj_m218 91 ls st M = mq_k0 d mj_m218 92 ls M (mj_lda (mj_lk ls 1) st) := mj_R0 (r := (.aload_n 1, 1, 0, 0, 0)) rfl rfl
theorem s218_92 {d : Nat} {ls : mj_L} {st : List Value} {M : mj_H} : mj_Rn d mj_m218 92 ls st M = mq_k0 d mj_m218 93 ls M (mj_lda (mj_lk ls 2) st) := mj_R0 (r := (.aload_n 2, 1, 0, 0, 0)) rfl rfl
theorem s218_93 {d : Nat} {ls : mj_L} {st : List Value} {M : mj_H} : mj_Rn d mj_m218 93 ls st M = mq_k0 d mj_m218 95 ls M (mj_lda (mj_lk ls 4) st) := mj_R0 (r := (.aload 4, 2, 0, 0, 0)) rfl rfl
theorem s218_95 {d : Nat} {ls : mj_L} {st : List Value} {M : mj_H} : mj_Rn (d + 1) mj_m218 95 ls st M = mq_k5a (d + 1) mj_m218 98 ls M 226 (mq_cb 0 3 7 st M) := mj_R5e (r := (.invokevirtual 95, 3, 0, 226, 24767)) (z := mj_m226) rfl rfl (by decide) (by decide) rfl
theorem s218_98 {d : Nat} {ls : mj_L} {st : List Value} {M : mj_H} : mj_Rn d mj_m218 98 ls st M = mq_k6 M (mj_re (some .int) (.ireturn) st) := mj_R6 (r := (.ireturn, 1, 0, 0, 0)) rfl rfl
/- 217 PasskeyHouse$Party.verdict(LPasskeyHouse$Terms;LPasskeyHouse$Bytes;I)I -/
theorem s217_0 {d : Nat} {ls : mj_L} {st : List Value} {M : mj_H} : mj_Rn d mj_m217 0 ls st M = mq_k0 d mj_m217 1 ls M (mj_lda (mj_lk ls 0) st) := mj_R0 (r := (.aload_n 0, 1, 0, 0, 0)) rfl rfl
theorem s217_1 {d : Nat} {ls : mj_L} {st : List Value} {M : mj_H} : mj_Rn d mj_m217 1 ls st M = mq_k0 d mj_m217 2 ls M (mj_lda (mj_lk ls 1) st) := mj_R0 (r := (.aload_n 1, 1, 0, 0, 0)) rfl rfl
theorem s217_2 {d : Nat} {ls : mj_L} {st : List Value} {M : mj_H} : mj_Rn d mj_m217 2 ls st M = mq_k0 d mj_m217 3 ls M (mj_lda (mj_lk ls 2) st) := mj_R0 (r := (.aload_n 2, 1, 0, 0, 0)) rfl rfl
theorem s217_3 {d : Nat} {ls : mj_L} {st : List Value} {M : mj_H} : mj_Rn d mj_m217 3 ls st M = mq_k0 d mj_m217 4 ls M (mj_ldi (mj_lk ls 3) st) := mj_R0 (r := (.iload_n 3, 1, 0, 0, 0)) rfl rfl
theorem s217_4 {d : Nat} {ls : mj_L} {st : List Value} {M : mj_H} : mj_Rn (d + 1) mj_m217 4 ls st M = mq_k5a (d + 1) mj_m217 7 ls M 218 (mq_cb 0 3 7 st M) := mj_R5e (r := (.invokevirtual 61, 3, 0, 218, 24725)) (z := mj_m218) rfl rfl (by decide) (by decide) rfl
theorem s217_7 {d : Nat} {ls : mj_L} {st : List Value} {M : mj_H} : mj_Rn d mj_m217 7 ls st M = mq_k1 d mj_m217 9 M (mj_lo 5 (.istore 4) ls st) := mj_R1 (r := (.istore 4, 2, 0, 0, 0)) rfl rfl
theorem s217_9 {d : Nat} {ls : mj_L} {st : List Value} {M : mj_H} : mj_Rn d mj_m217 9 ls st M = mq_k0 d mj_m217 11 ls M (mj_ldi (mj_lk ls 4) st) := mj_R0 (r := (.iload 4, 2, 0, 0, 0)) rfl rfl
theorem s217_11 {d : Nat} {ls : mj_L} {st : List Value} {M : mj_H} : mj_Rn d mj_m217 11 ls st M = mq_k2 d mj_m217 ls M (mj_br (.ifCond .ne 16) 11 st) := mj_R2 (r := (.ifCond .ne 16, 3, 0, 0, 0)) rfl rfl
theorem s217_14 {d : Nat} {ls : mj_L} {st : List Value} {M : mj_H} : mj_Rn d mj_m217 14 ls st M = mq_k0 d mj_m217 15 ls M (mj_lda (mj_lk ls 0) st) := mj_R0 (r := (.aload_n 0, 1, 0, 0, 0)) rfl rfl
theorem s217_15 {d : Nat} {ls : mj_L} {st : List Value} {M : mj_H} : mj_Rn d mj_m217 15 ls st M = mq_k0 d mj_m217 16 ls M (mj_pu .dup ls st) := mj_R0 (r := (.dup, 1, 0, 0, 0)) rfl rfl
theorem s217_16 {d : Nat} {ls : mj_L} {st : List Value} {M : mj_H} : mj_Rn d mj_m217 16 ls st M = mq_k0 d mj_m217 19 ls M (mq_gf 7 6 st M) := (mj_R3 (r := (.getfield 52, 3, 7, 6, 49378)) rfl rfl).trans (congrArg (mq_k0 d mj_m217 19 ls M) mq_gf_eq)
theorem s217_19 {d : Nat} {ls : mj_L} {st : List Value} {M : mj_H} : mj_Rn d mj_m217 19 ls st M = mj_Rn d mj_m217 20 ls (.int 1 :: st) M := mj_R0 (r := (.iconst 1, 1, 0, 0, 0)) rfl rfl
theorem s217_20 {d : Nat} {ls : mj_L} {st : List Value} {M : mj_H} : mj_Rn d mj_m217 20 ls st M = mq_k0 d mj_m217 21 ls M (mj_pu .iadd ls st) := mj_R0 (r := (.iadd, 1, 0, 0, 0)) rfl rfl
theorem s217_21 {d : Nat} {ls : mj_L} {st : List Value} {M : mj_H} : mj_Rn d mj_m217 21 ls st M = mq_k4 d mj_m217 24 ls (mq_pf 7 6 0 st M) := (mj_R4 (r := (.putfield 52, 3, 7, 6, 49378)) rfl rfl).trans (congrArg (mq_k4 d mj_m217 24 ls) (mq_pf_eq rfl rfl))
theorem s217_24 {d : Nat} {ls : mj_L} {st : List Value} {M : mj_H} : mj_Rn d mj_m217 24 ls st M = mj_Rn d mj_m217 37 ls st M := mj_R2 (r := (.goto 13, 3, 0, 0, 0)) rfl rfl
theorem s217_27 {d : Nat} {ls : mj_L} {st : List Value} {M : mj_H} : mj_Rn d mj_m217 27 ls st M = mq_k0 d mj_m217 28 ls M (mj_lda (mj_lk ls 0) st) := mj_R0 (r := (.aload_n 0, 1, 0, 0, 0)) rfl rfl
theorem s217_28 {d : Nat} {ls : mj_L} {st : List Value} {M : mj_H} : mj_Rn d mj_m217 28 ls st M = mq_k0 d mj_m217 29 ls M (mj_pu .dup ls st) := mj_R0 (r := (.dup, 1, 0, 0, 0)) rfl rfl
theorem s217_29 {d : Nat} {ls : mj_L} {st : List Value} {M : mj_H} : mj_Rn d mj_m217 29 ls st M = mq_k0 d mj_m217 32 ls M (mq_gf 7 7 st M) := (mj_R3 (r := (.getfield 55, 3, 7, 7, 49380)) rfl rfl).trans (congrArg (mq_k0 d mj_m217 32 ls M) mq_gf_eq)
theorem s217_32 {d : Nat} {ls : mj_L} {st : List Value} {M : mj_H} : mj_Rn d mj_m217 32 ls st M = mj_Rn d mj_m217 33 ls (.int 1 :: st) M := mj_R0 (r := (.iconst 1, 1, 0, 0, 0)) rfl rfl
theorem s217_33 {d : Nat} {ls : mj_L} {st : List Value} {M : mj_H} : mj_Rn d mj_m217 33 ls st M = mq_k0 d mj_m217 34 ls M (mj_pu .iadd ls st) := mj_R0 (r := (.iadd, 1, 0, 0, 0)) rfl rfl
theorem s217_34 {d : Nat} {ls : mj_L} {st : List Value} {M : mj_H} : mj_Rn d mj_m217 34 ls st M = mq_k4 d mj_m217 37 ls (mq_pf 7 7 0 st M) := (mj_R4 (r := (.putfield 55, 3, 7, 7, 49380)) rfl rfl).trans (congrArg (mq_k4 d mj_m217 37 ls) (mq_pf_eq rfl rfl))
theorem s217_37 {d : Nat} {ls : mj_L} {st : List Value} {M : mj_H} : mj_Rn d mj_m217 37 ls st M = mq_k0 d mj_m217 39 ls M (mj_ldi (mj_lk ls 4) st) := mj_R0 (r := (.iload 4, 2, 0, 0, 0)) rfl rfl
theorem s217_39 {d : Nat} {ls : mj_L} {st : List Value} {M : mj_H} : mj_Rn d mj_m217 39 ls st M = mq_k6 M (mj_re (some .int) (.ireturn) st) := mj_R6 (r := (.ireturn, 1, 0, 0, 0)) rfl rfl
/- 216 PasskeyHouse.judge(II)I -/
theorem s216_0 {d : Nat} {ls : mj_L} {st : List Value} {M : mj_H} : mj_Rn d mj_m216 0 ls st M = mq_k0 d mj_m216 1 ls M (mj_lda (mj_lk ls 0) st) := mj_R0 (r := (.aload_n 0, 1, 0, 0, 0)) rfl rfl
theorem s216_1 {d : Nat} {ls : mj_L} {st : List Value} {M : mj_H} : mj_Rn d mj_m216 1 ls st M = mq_k0 d mj_m216 2 ls M (mj_ldi (mj_lk ls 1) st) := mj_R0 (r := (.iload_n 1, 1, 0, 0, 0)) rfl rfl
theorem s216_2 {d : Nat} {ls : mj_L} {st : List Value} {M : mj_H} : mj_Rn (d + 1) mj_m216 2 ls st M = mq_k5a (d + 1) mj_m216 5 ls M 191 (mq_cb 0 1 10 st M) := mj_R5e (r := (.invokevirtual 238, 3, 0, 191, 20668)) (z := mj_m191) rfl rfl (by decide) (by decide) rfl
theorem s216_5 {d : Nat} {ls : mj_L} {st : List Value} {M : mj_H} : mj_Rn d mj_m216 5 ls st M = mq_k1 d mj_m216 6 M (mj_lo 5 (.astore 3) ls st) := (mj_R1 (r := (.astore_n 3, 1, 0, 0, 0)) rfl rfl).trans (congrArg (mq_k1 d mj_m216 6 M) (mq_sta (k := 3)))
theorem s216_6 {d : Nat} {ls : mj_L} {st : List Value} {M : mj_H} : mj_Rn d mj_m216 6 ls st M = mq_k0 d mj_m216 7 ls M (mj_lda (mj_lk ls 0) st) := mj_R0 (r := (.aload_n 0, 1, 0, 0, 0)) rfl rfl
theorem s216_7 {d : Nat} {ls : mj_L} {st : List Value} {M : mj_H} : mj_Rn d mj_m216 7 ls st M = mq_k0 d mj_m216 8 ls M (mj_ldi (mj_lk ls 2) st) := mj_R0 (r := (.iload_n 2, 1, 0, 0, 0)) rfl rfl
theorem s216_8 {d : Nat} {ls : mj_L} {st : List Value} {M : mj_H} : mj_Rn (d + 1) mj_m216 8 ls st M = mq_k5a (d + 1) mj_m216 11 ls M 76 (mq_cb 0 1 10 st M) := mj_R5e (r := (.invokevirtual 115, 3, 0, 76, 12425)) (z := mj_m76) rfl rfl (by decide) (by decide) rfl
theorem s216_11 {d : Nat} {ls : mj_L} {st : List Value} {M : mj_H} : mj_Rn d mj_m216 11 ls st M = mq_k1 d mj_m216 13 M (mj_lo 5 (.istore 4) ls st) := mj_R1 (r := (.istore 4, 2, 0, 0, 0)) rfl rfl
theorem s216_13 {d : Nat} {ls : mj_L} {st : List Value} {M : mj_H} : mj_Rn d mj_m216 13 ls st M = mq_k0 d mj_m216 14 ls M (mj_lda (mj_lk ls 3) st) := mj_R0 (r := (.aload_n 3, 1, 0, 0, 0)) rfl rfl
theorem s216_14 {d : Nat} {ls : mj_L} {st : List Value} {M : mj_H} : mj_Rn d mj_m216 14 ls st M = mq_k2 d mj_m216 ls M (mj_br (.ifnull 9) 14 st) := mj_R2 (r := (.ifnull 9, 3, 0, 0, 0)) rfl rfl
theorem s216_17 {d : Nat} {ls : mj_L} {st : List Value} {M : mj_H} : mj_Rn d mj_m216 17 ls st M = mq_k0 d mj_m216 19 ls M (mj_ldi (mj_lk ls 4) st) := mj_R0 (r := (.iload 4, 2, 0, 0, 0)) rfl rfl
theorem s216_19 {d : Nat} {ls : mj_L} {st : List Value} {M : mj_H} : mj_Rn d mj_m216 19 ls st M = mj_Rn d mj_m216 20 ls (.int (-1) :: st) M := mj_R0 (r := (.iconst (-1), 1, 0, 0, 0)) rfl rfl
theorem s216_20 {d : Nat} {ls : mj_L} {st : List Value} {M : mj_H} : mj_Rn d mj_m216 20 ls st M = mq_k2 d mj_m216 ls M (mj_br (.if_icmp .ne 7) 20 st) := mj_R2 (r := (.if_icmp .ne 7, 3, 0, 0, 0)) rfl rfl
theorem s216_23 {d : Nat} {ls : mj_L} {st : List Value} {M : mj_H} : mj_Rn d mj_m216 23 ls st M = mj_Rn d mj_m216 24 ls (.int (-1) :: st) M := mj_R0 (r := (.iconst (-1), 1, 0, 0, 0)) rfl rfl
theorem s216_24 {d : Nat} {ls : mj_L} {st : List Value} {M : mj_H} : mj_Rn d mj_m216 24 ls st M = mj_Rn d mj_m216 41 ls st M := mj_R2 (r := (.goto 17, 3, 0, 0, 0)) rfl rfl
theorem s216_27 {d : Nat} {ls : mj_L} {st : List Value} {M : mj_H} : mj_Rn d mj_m216 27 ls st M = mq_k0 d mj_m216 28 ls M (mj_lda (mj_lk ls 3) st) := mj_R0 (r := (.aload_n 3, 1, 0, 0, 0)) rfl rfl
theorem s216_28 {d : Nat} {ls : mj_L} {st : List Value} {M : mj_H} : mj_Rn d mj_m216 28 ls st M = mq_k0 d mj_m216 29 ls M (mj_lda (mj_lk ls 0) st) := mj_R0 (r := (.aload_n 0, 1, 0, 0, 0)) rfl rfl
theorem s216_29 {d : Nat} {ls : mj_L} {st : List Value} {M : mj_H} : mj_Rn d mj_m216 29 ls st M = mq_k0 d mj_m216 32 ls M (mq_gf 10 2 st M) := (mj_R3 (r := (.getfield 24, 3, 10, 2, 8490)) rfl rfl).trans (congrArg (mq_k0 d mj_m216 32 ls M) mq_gf_eq)
theorem s216_32 {d : Nat} {ls : mj_L} {st : List Value} {M : mj_H} : mj_Rn d mj_m216 32 ls st M = mq_k0 d mj_m216 33 ls M (mj_lda (mj_lk ls 0) st) := mj_R0 (r := (.aload_n 0, 1, 0, 0, 0)) rfl rfl
theorem s216_33 {d : Nat} {ls : mj_L} {st : List Value} {M : mj_H} : mj_Rn d mj_m216 33 ls st M = mq_k0 d mj_m216 36 ls M (mq_gf 10 0 st M) := (mj_R3 (r := (.getfield 14, 3, 10, 0, 8486)) rfl rfl).trans (congrArg (mq_k0 d mj_m216 36 ls M) mq_gf_eq)
theorem s216_36 {d : Nat} {ls : mj_L} {st : List Value} {M : mj_H} : mj_Rn d mj_m216 36 ls st M = mq_k0 d mj_m216 38 ls M (mj_ldi (mj_lk ls 4) st) := mj_R0 (r := (.iload 4, 2, 0, 0, 0)) rfl rfl
theorem s216_38 {d : Nat} {ls : mj_L} {st : List Value} {M : mj_H} : mj_Rn (d + 1) mj_m216 38 ls st M = mq_k5a (d + 1) mj_m216 41 ls M 217 (mq_cb 0 3 7 st M) := mj_R5e (r := (.invokevirtual 325, 3, 0, 217, 24721)) (z := mj_m217) rfl rfl (by decide) (by decide) rfl
theorem s216_41 {d : Nat} {ls : mj_L} {st : List Value} {M : mj_H} : mj_Rn d mj_m216 41 ls st M = mq_k6 M (mj_re (some .int) (.ireturn) st) := mj_R6 (r := (.ireturn, 1, 0, 0, 0)) rfl rfl
theorem c226 {d : Nat} {a0 : Nat} {a1 : Nat} {a2 : Nat} {a3 : Nat} {M : mj_H} : mj_V (d + 1) 226 [.ref a0, .ref a1, .ref a2, .ref a3] M = mj_Rn d mj_m226 0 [(0, .ref a0), (1, .ref a1), (2, .ref a2), (3, .ref a3)] [] M := mj_V_go rfl (Nat.le_of_ble_eq_true rfl)
theorem c218 {d : Nat} {a0 : Nat} {a1 : Nat} {a2 : Nat} {x3 : Int32} {M : mj_H} : mj_V (d + 1) 218 [.ref a0, .ref a1, .ref a2, .int x3] M = mj_Rn d mj_m218 0 [(0, .ref a0), (1, .ref a1), (2, .ref a2), (3, .int x3)] [] M := mj_V_go rfl (Nat.le_of_ble_eq_true rfl)
theorem c217 {d : Nat} {a0 : Nat} {a1 : Nat} {a2 : Nat} {x3 : Int32} {M : mj_H} : mj_V (d + 1) 217 [.ref a0, .ref a1, .ref a2, .int x3] M = mj_Rn d mj_m217 0 [(0, .ref a0), (1, .ref a1), (2, .ref a2), (3, .int x3)] [] M := mj_V_go rfl (Nat.le_of_ble_eq_true rfl)
theorem c216 {d : Nat} {a0 : Nat} {x1 : Int32} {x2 : Int32} {M : mj_H} : mj_V (d + 1) 216 [.ref a0, .int x1, .int x2] M = mj_Rn d mj_m216 0 [(0, .ref a0), (1, .int x1), (2, .int x2)] [] M := mj_V_go rfl (Nat.le_of_ble_eq_true rfl)
theorem msk (v : Int32) : v.toInt64 &&& 4294967295 = nL (uN v) := by
  apply uL_inj
  rw [show (4294967295 : Int64) = nL (2 ^ 32 - 1) from rfl, uL_and _ (by omega), uL_toInt64, uL_nL, Nat.mod_eq_of_lt (by have := uN_lt v; omega)]
section HZ
variable {M M' : mj_H} {H H' : Ho} {κs πs : List Nat} {row row' ms : List Int32} {d : Nat} {i l : Int32} {π : Nat} {p : Pa} {u t : List Int32} {A : Nat → Prop} {T : Tm}
theorem pt_same {j : Nat} (hp : H.2.2.2.2[j]? = some p) : H.pt j p = H := by
  unfold Ho.pt
  have : H.2.2.2.2.set j p = H.2.2.2.2 := by
    apply List.ext_getElem?
    intro n
    by_cases hn : j = n
    · subst hn; rw [List.getElem?_set_self (List.getElem?_eq_some_iff.mp hp).1, hp]
    · rw [List.getElem?_set_ne hn]
  rw [this]
/-- an account's numbers change -/
theorem pz.accs (h : pz M π p) {k : Nat} {a : Ac} (hk : k < p.2.2.2.1.length) : pz (M.set (π + 11 + k) (acc a)) π ((p.1, (p.2.1, (p.2.2.1, (p.2.2.2.1.set k a, (p.2.2.2.2.1, p.2.2.2.2.2))))) : Pa) := by
  have hlo := h.lo
  have l8 := h.l8
  have hcc := h.ac k _ (List.getElem?_eq_getElem hk)
  have e : ∀ c, c ≠ π + 11 + k → (M.set (π + 11 + k) (acc a))[c]? = M[c]? := fun c h1 => List.getElem?_set_ne (fun z => h1 z.symm)
  obtain ⟨ol, o1, o2, o3, o4, o5, o6⟩ := h.oa
  refine (pz_mk_ (by rw [e _ (by omega)]; simpa using h.ob) (h.og.fr (e _ (by omega)) (e _ (by omega))) (h.nm.fr (e _ (by omega)) (e _ (by omega))) (⟨ol, o1, (e _ (by omega)).trans o2, o3, o4, ?_, ?_⟩) ((e _ (by omega)).trans h.aa) ?_ ?_ h.l4 (by simpa using h.l8) h.lo)
  · intro i o x q1 q2
    have := o3 x (List.mem_of_getElem? q2)
    exact (e _ (by omega)).trans (o5 i o x q1 q2)
  · intro x hx
    have := o3 x hx
    obtain ⟨a, b, c, d, f, q⟩ := o6 x hx
    exact ⟨a, b, c, d, f, (e _ (by omega)).trans q⟩
  · intro i b hi
    by_cases hik : k = i
    · subst hik
      dsimp only at hi
      rw [List.getElem?_set_self hk] at hi
      cases hi
      exact List.getElem?_set_self (mq_lt hcc)
    · dsimp only at hi
      rw [List.getElem?_set_ne hik] at hi
      exact (e _ (by omega)).trans (h.ac i b hi)
  · intro i hi
    by_cases hik : k = i
    · subst hik
      exact ⟨_, _, _, _, _, _, List.getElem?_set_self (mq_lt hcc)⟩
    · obtain ⟨a, b, c, d, f, g, q⟩ := h.ax i hi
      exact ⟨a, b, c, d, f, g, (e _ (by omega)).trans q⟩
def okO (o : Of) : Prop := o.2.1.length ≤ 8 ∧ ∀ v ∈ o.2.1, v &&& 255 = v
theorem h_noLog (z : hz M H κs πs row) {j x : Nat} {o : Of} (hp : H.2.2.2.2[j]? = some p) (hπ : πs[j]? = some π) (hx : M[x]? = some (oc o)) (hxr : π ≤ x ∧ x ≤ π + 18) (hoA : okA p) (hoO : okO o) (hlen : 15 + p.1.length + cbB H.1 (10 + p.1.length) ≤ H.1.length) : ∃ M' row', mj_V (d + 4) 226 [.ref π, .ref 30, .ref 26, .ref x] M = some (some (.int (jd_get H.2.1 p o H.1).1), M') ∧ hz M' (H.pt j (jd_get H.2.1 p o H.1).2) κs πs row' ∧ hf M M' := by
  have h := z.py j p π hp hπ
  have hm := List.mem_of_getElem? hπ
  have hlo := h.lo
  have hol := h.og.len
  have htl := z.tp.len
  have xp := h.ob
  have g0 := h.og.2.2.2.2.2.1
  have o0 := z.tp.2.2.2.2.2.1
  have v0 := v_size (d := d + 2) h.og
  have same := pt_same hp
  generalize ht : H.1 = t at *
  have hbt : bb M 26 27 400 t := by rw [← ht]; exact z.tp
  have h8t := hbt.2.2.2.2.1
  have hB : ∀ q, cbB t q < 256 := ms_by h8t
  have v1 := j_byteAt (d := d + 2) hbt (q := 10 + p.1.length) (by omega)
  generalize hn : p.1.length = n at *
  have e1 : 6 + n + 4 = 10 + n := by omega
  unfold jd_get
  rw [hn]
  have hB1 := hB (10 + n)
  by_cases c1 : cbB t (10 + n) = 9; rotate_left
  · rw [if_pos c1, same]
    refine ⟨M, row, ?_, z, hf.rf⟩
    simp (disch := (first | omega | decide)) [c226, s226_0, s226_2, s226_3, s226_6, s226_9, s226_10, s226_12, s226_14, s226_15, s226_16, s226_18, s226_19, s226_21, s226_22, s226_23, s226_26, s226_28, s226_31, s226_32, s226_33, s226_34, s226_35, s226_36, s226_38, s226_39, s226_40, s226_43, s226_46, s226_48, s226_50, s226_53, s226_55, s226_56, s226_57, s226_58, s226_60, s226_63, s226_66, s226_68, s226_70, s226_73, s226_75, s226_76, s226_79, s226_80, s226_83, s226_86, s226_89, s226_91, s226_92, s226_93, s226_94, s226_95, s226_97, s226_98, s226_100, s226_103, s226_106, s226_108, s226_111, s226_114, s226_116, s226_117, s226_118, s226_120, s226_121, s226_122, s226_123, s226_126, s226_128, s226_130, s226_133, s226_134, s226_137, s226_138, s226_140, s226_142, s226_144, s226_145, s226_148, s226_150, s226_151, s226_152, s226_155, s226_157, s226_158, s226_159, s226_162, s226_164, s226_165, s226_167, s226_169, s226_170, s226_173, s226_175, s226_176, s226_179, s226_180, s226_181, s226_184, s226_185, mq_k0s, mq_k1s, mq_k2s, mq_k4s, mq_k5s, mq_k5n, mq_k5as, mq_k6s, mj_pu, mj_lo, mj_br, mj_hr, mj_hw, mq_gf, mq_len, mq_al, mq_pf, mq_ok, mj_re, mq_lkm, mq_lkn, mj_ldi, mj_ldl, mj_lda, mj_ii, mj_ll, mj_li, mj_i1, ms_1, ms_2, f1_n, f1_i, f1_r, f1_u, f1_l, f2_n, f2_i, f2_r, f2_u, f2_l, mj_tg, mj_c1, mj_c2, mj_ar, mj_aw, mq_cb, mq_oi, mj_rm, Value.category, -getElem?_pos, List.getElem?_cons_zero, decide_eq_true, decide_eq_false, nl_lt, nl_le, ln_lt, ln_le, nl_eq, ln_eq, nl_add, ln_add, nl_sub, ln_mul, nI_sub, nI_mul, nI_add, nI_lt_iff, nI_le_iff, nI_inj, nI_num, mq_ix, nI_1, nl_mul, nl_div, xp, g0, v0, o0, e1, v1, c1, narrow]
  rw [if_neg (by simp [c1])]
  rw [c1] at v1 hlen
  have hPA : ∀ c, (π ≤ c ∧ c ≤ π + 18) ∨ c = 26 ∨ c = 27 → hA κs πs c := by
    intro c hc
    rcases hc with hc | rfl | rfl
    · exact Or.inr (Or.inr (Or.inr ⟨π, hm, hc⟩))
    · unfold hA; omega
    · unfold hA; omega
  obtain ⟨M1, row1, p1, t1, f1⟩ := j_df (d := d) z.t h hbt hPA (q := 11 + n) (by omega) 1 o.2.2.2
  have ejd : (if tm_ix H.2.1.1 (7 :: p.2.1) = 0 ∨ w4a t (11 + n) ≠ nI (tm_ix H.2.1.1 (7 :: p.2.1)) then (5 : Int32) else if nI (cbB t (11 + n + 4)) &&& 1 ≠ 1 then 6 else if o.2.2.2 = true ∧ nI (cbB t (11 + n + 4)) &&& 4 = 0 then 7 else 0) = jd_data H.2.1 p o t 1 := by
    unfold jd_data; rw [hn, show 11 + n + 4 = 15 + n by omega]
  rw [ejd] at p1
  obtain ⟨z1, g1⟩ := z.tb t1 f1
  have s1 := z.cells f1
  have hx' : M[x]? = some (6, [.int o.1, .long (bt_lo o.2.1), .int (nI o.2.1.length), .int (if o.2.2.1 then 2 else 1), .int (if o.2.2.2 then 1 else 0)]) := hx
  have e2 : 6 + n + 5 = 11 + n := by omega
  have eon : (if o.2.2.2 = true then (1 : Int32) else 0) = on1 o.2.2.2 := by cases o.2.2.2 <;> rfl
  rw [eon] at hx'
  generalize jd_data H.2.1 p o t 1 = JD at *
  by_cases c2 : JD = 0; rotate_left
  · rw [if_pos c2, same]
    refine ⟨M1, row1, ?_, z1, g1⟩
    simp (disch := (first | omega | decide)) [c226, s226_0, s226_2, s226_3, s226_6, s226_9, s226_10, s226_12, s226_14, s226_15, s226_16, s226_18, s226_19, s226_21, s226_22, s226_23, s226_26, s226_28, s226_31, s226_32, s226_33, s226_34, s226_35, s226_36, s226_38, s226_39, s226_40, s226_43, s226_46, s226_48, s226_50, s226_53, s226_55, s226_56, s226_57, s226_58, s226_60, s226_63, s226_66, s226_68, s226_70, s226_73, s226_75, s226_76, s226_79, s226_80, s226_83, s226_86, s226_89, s226_91, s226_92, s226_93, s226_94, s226_95, s226_97, s226_98, s226_100, s226_103, s226_106, s226_108, s226_111, s226_114, s226_116, s226_117, s226_118, s226_120, s226_121, s226_122, s226_123, s226_126, s226_128, s226_130, s226_133, s226_134, s226_137, s226_138, s226_140, s226_142, s226_144, s226_145, s226_148, s226_150, s226_151, s226_152, s226_155, s226_157, s226_158, s226_159, s226_162, s226_164, s226_165, s226_167, s226_169, s226_170, s226_173, s226_175, s226_176, s226_179, s226_180, s226_181, s226_184, s226_185, mq_k0s, mq_k1s, mq_k2s, mq_k4s, mq_k5s, mq_k5n, mq_k5as, mq_k6s, mj_pu, mj_lo, mj_br, mj_hr, mj_hw, mq_gf, mq_len, mq_al, mq_pf, mq_ok, mj_re, mq_lkm, mq_lkn, mj_ldi, mj_ldl, mj_lda, mj_ii, mj_ll, mj_li, mj_i1, ms_1, ms_2, f1_n, f1_i, f1_r, f1_u, f1_l, f2_n, f2_i, f2_r, f2_u, f2_l, mj_tg, mj_c1, mj_c2, mj_ar, mj_aw, mq_cb, mq_oi, mj_rm, Value.category, -getElem?_pos, List.getElem?_cons_zero, decide_eq_true, decide_eq_false, nl_lt, nl_le, ln_lt, ln_le, nl_eq, ln_eq, nl_add, ln_add, nl_sub, ln_mul, nI_sub, nI_mul, nI_add, nI_lt_iff, nI_le_iff, nI_inj, nI_num, mq_ix, nI_1, nl_mul, nl_div, xp, g0, v0, o0, e1, v1, e2, hx', p1, c2, narrow]
  rw [if_neg (by simp [c2])]
  subst c2
  have hb1 : bb M1 26 27 400 t := hbt.fr (s1 26 (hPA _ (by omega))) (s1 27 (hPA _ (by omega)))
  have o1 := hb1.2.2.2.2.2.1
  have h1 := h.fr (fun c hc => s1 c (hPA c (Or.inl hc)))
  have xp1 := h1.ob
  have w1 := j_four (d := d + 1) hb1 (q := 6 + n) (by omega)
  generalize hID : w4a t (6 + n) = ID at *
  have v2 := j_with (d := d + 1) h1 ID
  cases c3 : p.2.2.2.1.findIdx? (fun a => decide (a.1 = ID)) with
  | none =>
    rw [c3] at v2
    dsimp only at v2
    dsimp only
    rw [same]
    refine ⟨M1, row1, ?_, z1, g1⟩
    simp (disch := (first | omega | decide)) [c226, s226_0, s226_2, s226_3, s226_6, s226_9, s226_10, s226_12, s226_14, s226_15, s226_16, s226_18, s226_19, s226_21, s226_22, s226_23, s226_26, s226_28, s226_31, s226_32, s226_33, s226_34, s226_35, s226_36, s226_38, s226_39, s226_40, s226_43, s226_46, s226_48, s226_50, s226_53, s226_55, s226_56, s226_57, s226_58, s226_60, s226_63, s226_66, s226_68, s226_70, s226_73, s226_75, s226_76, s226_79, s226_80, s226_83, s226_86, s226_89, s226_91, s226_92, s226_93, s226_94, s226_95, s226_97, s226_98, s226_100, s226_103, s226_106, s226_108, s226_111, s226_114, s226_116, s226_117, s226_118, s226_120, s226_121, s226_122, s226_123, s226_126, s226_128, s226_130, s226_133, s226_134, s226_137, s226_138, s226_140, s226_142, s226_144, s226_145, s226_148, s226_150, s226_151, s226_152, s226_155, s226_157, s226_158, s226_159, s226_162, s226_164, s226_165, s226_167, s226_169, s226_170, s226_173, s226_175, s226_176, s226_179, s226_180, s226_181, s226_184, s226_185, mq_k0s, mq_k1s, mq_k2s, mq_k4s, mq_k5s, mq_k5n, mq_k5as, mq_k6s, mj_pu, mj_lo, mj_br, mj_hr, mj_hw, mq_gf, mq_len, mq_al, mq_pf, mq_ok, mj_re, mq_lkm, mq_lkn, mj_ldi, mj_ldl, mj_lda, mj_ii, mj_ll, mj_li, mj_i1, ms_1, ms_2, f1_n, f1_i, f1_r, f1_u, f1_l, f2_n, f2_i, f2_r, f2_u, f2_l, mj_tg, mj_c1, mj_c2, mj_ar, mj_aw, mq_cb, mq_oi, mj_rm, Value.category, -getElem?_pos, List.getElem?_cons_zero, decide_eq_true, decide_eq_false, nl_lt, nl_le, ln_lt, ln_le, nl_eq, ln_eq, nl_add, ln_add, nl_sub, ln_mul, nI_sub, nI_mul, nI_add, nI_lt_iff, nI_le_iff, nI_inj, nI_num, mq_ix, nI_1, nl_mul, nl_div, xp, g0, v0, o0, e1, v1, e2, hx', p1, o1, w1, xp1, v2, narrow]
  | some k =>
  rw [c3] at v2
  dsimp only at v2
  have hk := (List.findIdx?_eq_some_iff_getElem.mp c3).1
  have l8 := h.l8
  have hgk := List.getElem?_eq_getElem hk
  have hca := h1.ac k _ hgk
  have hua := hoA _ (List.getElem_mem hk)
  have hacc := h1.accs (a := (((p.2.2.2.1[k]).1, ((p.2.2.2.1[k]).2.1, (w4a t (16 + n), (p.2.2.2.1[k].2.2.2.1 + 1, (p.2.2.2.1[k]).2.2.2.2)))) : Ac)) hk
  dsimp only
  rw [hgk]
  dsimp only
  generalize p.2.2.2.1[k] = a at *
  have v3 := j_isOf (d := d + 2) hca hua hoO.2 hoO.1
  have hx1 : M1[x]? = some (6, [.int o.1, .long (bt_lo o.2.1), .int (nI o.2.1.length), .int (if o.2.2.1 then 2 else 1), .int (on1 o.2.2.2)]) := by rw [s1 x (hPA x (Or.inl hxr))]; exact hx'
  have hca' : M1[π + 11 + k]? = some (0, [.int a.1, .int a.2.1, .int a.2.2.1, .int a.2.2.2.1, .long (bt_lo a.2.2.2.2), .int (nI a.2.2.2.2.length)]) := hca
  by_cases c4 : a.2.2.2.2 = o.2.1; rotate_left
  · rw [if_pos c4, same]
    simp only [c4, decide_false, on1_f] at v3
    refine ⟨M1, row1, ?_, z1, g1⟩
    simp (disch := (first | omega | decide)) [c226, s226_0, s226_2, s226_3, s226_6, s226_9, s226_10, s226_12, s226_14, s226_15, s226_16, s226_18, s226_19, s226_21, s226_22, s226_23, s226_26, s226_28, s226_31, s226_32, s226_33, s226_34, s226_35, s226_36, s226_38, s226_39, s226_40, s226_43, s226_46, s226_48, s226_50, s226_53, s226_55, s226_56, s226_57, s226_58, s226_60, s226_63, s226_66, s226_68, s226_70, s226_73, s226_75, s226_76, s226_79, s226_80, s226_83, s226_86, s226_89, s226_91, s226_92, s226_93, s226_94, s226_95, s226_97, s226_98, s226_100, s226_103, s226_106, s226_108, s226_111, s226_114, s226_116, s226_117, s226_118, s226_120, s226_121, s226_122, s226_123, s226_126, s226_128, s226_130, s226_133, s226_134, s226_137, s226_138, s226_140, s226_142, s226_144, s226_145, s226_148, s226_150, s226_151, s226_152, s226_155, s226_157, s226_158, s226_159, s226_162, s226_164, s226_165, s226_167, s226_169, s226_170, s226_173, s226_175, s226_176, s226_179, s226_180, s226_181, s226_184, s226_185, mq_k0s, mq_k1s, mq_k2s, mq_k4s, mq_k5s, mq_k5n, mq_k5as, mq_k6s, mj_pu, mj_lo, mj_br, mj_hr, mj_hw, mq_gf, mq_len, mq_al, mq_pf, mq_ok, mj_re, mq_lkm, mq_lkn, mj_ldi, mj_ldl, mj_lda, mj_ii, mj_ll, mj_li, mj_i1, ms_1, ms_2, f1_n, f1_i, f1_r, f1_u, f1_l, f2_n, f2_i, f2_r, f2_u, f2_l, mj_tg, mj_c1, mj_c2, mj_ar, mj_aw, mq_cb, mq_oi, mj_rm, Value.category, -getElem?_pos, List.getElem?_cons_zero, decide_eq_true, decide_eq_false, nl_lt, nl_le, ln_lt, ln_le, nl_eq, ln_eq, nl_add, ln_add, nl_sub, ln_mul, nI_sub, nI_mul, nI_add, nI_lt_iff, nI_le_iff, nI_inj, nI_num, mq_ix, nI_1, nl_mul, nl_div, xp, g0, v0, o0, e1, v1, e2, hx', p1, o1, w1, xp1, v2, hx1, hca', v3, narrow]
  rw [if_neg (by simp [c4])]
  simp only [c4, decide_true, on1_t] at v3
  have w4 := tx_secretOf (d := d) t1 a.2.1
  obtain ⟨P1, E1, O1, x31⟩ := t1.ob
  obtain ⟨M2, row2, p2, t2, f2⟩ := j_sg (d := d) t1 h1 hb1 hPA (q := 11 + n) (size := 9) (by omega) (by omega) (by omega) (tm_sec H.2.1.1 a.2.1)
  have ejs : (!decide (tm_ix H.2.1.1 (7 :: (t.take 5 ++ p.1)) = 0) && kn_as H.2.1 (6 :: tm_sec H.2.1.1 a.2.1 :: ((t.drop (11 + n)).take 9 ++ b4 (nI (tm_ix H.2.1.1 (7 :: (t.take 5 ++ p.1)))))) (w4a t (11 + n + 9))) = jd_sig H.2.1 p t (tm_sec H.2.1.1 a.2.1) 9 := by unfold jd_sig; rw [hn]
  rw [ejs] at p2
  obtain ⟨z2, g2⟩ := z1.tb t2 f2
  have s2 : ∀ c, hA κs πs c → M2[c]? = M[c]? := fun c hc => (f2.same c (t1.lo c hc) (fun n => n hc)).trans (s1 c hc)
  have s12 : ∀ c, hA κs πs c → M2[c]? = M1[c]? := fun c hc => f2.same c (t1.lo c hc) (fun n => n hc)
  rw [show nI 9 = 9 from rfl] at p2
  cases c5 : jd_sig H.2.1 p t (tm_sec H.2.1.1 a.2.1) 9 with
  | false =>
    rw [if_pos rfl, same]
    rw [c5, on1_f] at p2
    refine ⟨M2, row2, ?_, z2, g1.tr g2⟩
    simp (disch := (first | omega | decide)) [c226, s226_0, s226_2, s226_3, s226_6, s226_9, s226_10, s226_12, s226_14, s226_15, s226_16, s226_18, s226_19, s226_21, s226_22, s226_23, s226_26, s226_28, s226_31, s226_32, s226_33, s226_34, s226_35, s226_36, s226_38, s226_39, s226_40, s226_43, s226_46, s226_48, s226_50, s226_53, s226_55, s226_56, s226_57, s226_58, s226_60, s226_63, s226_66, s226_68, s226_70, s226_73, s226_75, s226_76, s226_79, s226_80, s226_83, s226_86, s226_89, s226_91, s226_92, s226_93, s226_94, s226_95, s226_97, s226_98, s226_100, s226_103, s226_106, s226_108, s226_111, s226_114, s226_116, s226_117, s226_118, s226_120, s226_121, s226_122, s226_123, s226_126, s226_128, s226_130, s226_133, s226_134, s226_137, s226_138, s226_140, s226_142, s226_144, s226_145, s226_148, s226_150, s226_151, s226_152, s226_155, s226_157, s226_158, s226_159, s226_162, s226_164, s226_165, s226_167, s226_169, s226_170, s226_173, s226_175, s226_176, s226_179, s226_180, s226_181, s226_184, s226_185, mq_k0s, mq_k1s, mq_k2s, mq_k4s, mq_k5s, mq_k5n, mq_k5as, mq_k6s, mj_pu, mj_lo, mj_br, mj_hr, mj_hw, mq_gf, mq_len, mq_al, mq_pf, mq_ok, mj_re, mq_lkm, mq_lkn, mj_ldi, mj_ldl, mj_lda, mj_ii, mj_ll, mj_li, mj_i1, ms_1, ms_2, f1_n, f1_i, f1_r, f1_u, f1_l, f2_n, f2_i, f2_r, f2_u, f2_l, mj_tg, mj_c1, mj_c2, mj_ar, mj_aw, mq_cb, mq_oi, mj_rm, Value.category, -getElem?_pos, List.getElem?_cons_zero, decide_eq_true, decide_eq_false, nl_lt, nl_le, ln_lt, ln_le, nl_eq, ln_eq, nl_add, ln_add, nl_sub, ln_mul, nI_sub, nI_mul, nI_add, nI_lt_iff, nI_le_iff, nI_inj, nI_num, mq_ix, nI_1, nl_mul, nl_div, xp, g0, v0, o0, e1, v1, e2, hx', p1, o1, w1, xp1, v2, hx1, hca', v3, x31, w4, p2, narrow]
  | true =>
  rw [c5, on1_t] at p2
  rw [if_neg (by simp)]
  have hb2 : bb M2 26 27 400 t := hbt.fr (s2 26 (hPA _ (by omega))) (s2 27 (hPA _ (by omega)))
  have o2 := hb2.2.2.2.2.2.1
  obtain ⟨W, v5, hW⟩ := v_low (d := d + 2) hb2 (p := 16 + n) (n := 4) (by omega)
  have hW := hW (by omega)
  have h8s : ∀ v ∈ (t.drop (16 + n)).take 4, v &&& 255 = v := sl_by h8t _ _
  have hl4 : ((t.drop (16 + n)).take 4).length = 4 := sl_len (by omega)
  rw [bt_lo_nat _ h8s (by omega)] at hW
  have hWn : W = nL (uN (w4a t (16 + n))) := by rw [hW, uN_w4a t h8t (by omega)]; rfl
  subst hWn
  have hWi : (nL (uN (w4a t (16 + n)))).toInt32 = w4a t (16 + n) := by rw [nL_i, nI_uN]
  have hca2 : M2[π + 11 + k]? = some (0, [.int a.1, .int a.2.1, .int a.2.2.1, .int a.2.2.2.1, .long (bt_lo a.2.2.2.2), .int (nI a.2.2.2.2.length)]) := (s12 _ (hPA _ (Or.inl (by omega)))).trans hca'
  have hmsk := msk a.2.2.1
  have e5 : 11 + n + 5 = 16 + n := by omega
  rw [show nI 4 = 4 from rfl] at v5
  generalize hC : w4a t (16 + n) = C at *
  have hCl := uN_lt C
  have hal := uN_lt a.2.2.1
  have hC0 : (C = 0) ↔ uN C = 0 := ⟨fun e => by rw [e]; rfl, fun e => uN_inj (by rw [e]; rfl)⟩
  have ha0 : (a.2.2.1 = 0) ↔ uN a.2.2.1 = 0 := ⟨fun e => by rw [e]; rfl, fun e => uN_inj (by rw [e]; rfl)⟩
  simp only [hC0, ha0]
  by_cases c6 : uN C ≤ uN a.2.2.1
  · by_cases c7 : uN C = 0
    · by_cases c8 : uN a.2.2.1 = 0
      · rw [if_neg (by simp [c7, c8])]
        have hac2 := hacc.fr (M' := M2.set (π + 11 + k) (acc ((a.1, (a.2.1, (C, (a.2.2.2.1 + 1, a.2.2.2.2)))) : Ac))) (fun c hc => by
          by_cases hck : c = π + 11 + k
          · subst hck; rw [List.getElem?_set_self (mq_lt hca2), List.getElem?_set_self (mq_lt hca')]
          · rw [List.getElem?_set_ne (fun q => hck q.symm), List.getElem?_set_ne (fun q => hck q.symm)]; exact s12 c (hPA c (Or.inl hc)))
        have hgr : mj_gr M2 (M2.set (π + 11 + k) (acc ((a.1, (a.2.1, (C, (a.2.2.2.1 + 1, a.2.2.2.2)))) : Ac))) := mj_gr.set hca2 rfl rfl
        obtain ⟨z3, g3⟩ := z2.pback hp hπ hac2 (by simp) (fun c hc => List.getElem?_set_ne (by omega)) hgr
        refine ⟨_, row2, ?_, z3, (g1.tr g2).tr g3⟩
        have hha : ¬ π + 11 + k < 25 := by omega
        have la := mq_lt hca2
        rw [c7] at v5 hWi
        rw [c8] at hmsk
        simp (disch := (first | omega | decide)) [c226, s226_0, s226_2, s226_3, s226_6, s226_9, s226_10, s226_12, s226_14, s226_15, s226_16, s226_18, s226_19, s226_21, s226_22, s226_23, s226_26, s226_28, s226_31, s226_32, s226_33, s226_34, s226_35, s226_36, s226_38, s226_39, s226_40, s226_43, s226_46, s226_48, s226_50, s226_53, s226_55, s226_56, s226_57, s226_58, s226_60, s226_63, s226_66, s226_68, s226_70, s226_73, s226_75, s226_76, s226_79, s226_80, s226_83, s226_86, s226_89, s226_91, s226_92, s226_93, s226_94, s226_95, s226_97, s226_98, s226_100, s226_103, s226_106, s226_108, s226_111, s226_114, s226_116, s226_117, s226_118, s226_120, s226_121, s226_122, s226_123, s226_126, s226_128, s226_130, s226_133, s226_134, s226_137, s226_138, s226_140, s226_142, s226_144, s226_145, s226_148, s226_150, s226_151, s226_152, s226_155, s226_157, s226_158, s226_159, s226_162, s226_164, s226_165, s226_167, s226_169, s226_170, s226_173, s226_175, s226_176, s226_179, s226_180, s226_181, s226_184, s226_185, mq_k0s, mq_k1s, mq_k2s, mq_k4s, mq_k5s, mq_k5n, mq_k5as, mq_k6s, mj_pu, mj_lo, mj_br, mj_hr, mj_hw, mq_gf, mq_len, mq_al, mq_pf, mq_ok, mj_re, mq_lkm, mq_lkn, mj_ldi, mj_ldl, mj_lda, mj_ii, mj_ll, mj_li, mj_i1, ms_1, ms_2, f1_n, f1_i, f1_r, f1_u, f1_l, f2_n, f2_i, f2_r, f2_u, f2_l, mj_tg, mj_c1, mj_c2, mj_ar, mj_aw, mq_cb, mq_oi, mj_rm, Value.category, -getElem?_pos, List.getElem?_cons_zero, decide_eq_true, decide_eq_false, nl_lt, nl_le, ln_lt, ln_le, nl_eq, ln_eq, nl_add, ln_add, nl_sub, ln_mul, nI_sub, nI_mul, nI_add, nI_lt_iff, nI_le_iff, nI_inj, nI_num, mq_ix, nI_1, nl_mul, nl_div, nL_lt, nL_le, nL_eq, nL_l, nL_i, nLl_lt, nLl_le, nLl_eq, lnL_lt, lnL_le, lg_cmp_ge, lg_cmp_le, lg_cmp_gt, lg_cmp_lt, lg_cmp_eq, xp, g0, v0, o0, e1, v1, e2, hx', p1, o1, w1, xp1, v2, hx1, hca', v3, x31, w4, p2, o2, e5, v5, hca2, hmsk, narrow, mj_E, hha, la, List.getElem?_set, hWi, acc]
      · rw [if_pos ⟨c6, by simp [c7, c8]⟩, same]
        refine ⟨M2, row2, ?_, z2, g1.tr g2⟩
        rw [c7] at v5
        simp (disch := (first | omega | decide)) [c226, s226_0, s226_2, s226_3, s226_6, s226_9, s226_10, s226_12, s226_14, s226_15, s226_16, s226_18, s226_19, s226_21, s226_22, s226_23, s226_26, s226_28, s226_31, s226_32, s226_33, s226_34, s226_35, s226_36, s226_38, s226_39, s226_40, s226_43, s226_46, s226_48, s226_50, s226_53, s226_55, s226_56, s226_57, s226_58, s226_60, s226_63, s226_66, s226_68, s226_70, s226_73, s226_75, s226_76, s226_79, s226_80, s226_83, s226_86, s226_89, s226_91, s226_92, s226_93, s226_94, s226_95, s226_97, s226_98, s226_100, s226_103, s226_106, s226_108, s226_111, s226_114, s226_116, s226_117, s226_118, s226_120, s226_121, s226_122, s226_123, s226_126, s226_128, s226_130, s226_133, s226_134, s226_137, s226_138, s226_140, s226_142, s226_144, s226_145, s226_148, s226_150, s226_151, s226_152, s226_155, s226_157, s226_158, s226_159, s226_162, s226_164, s226_165, s226_167, s226_169, s226_170, s226_173, s226_175, s226_176, s226_179, s226_180, s226_181, s226_184, s226_185, mq_k0s, mq_k1s, mq_k2s, mq_k4s, mq_k5s, mq_k5n, mq_k5as, mq_k6s, mj_pu, mj_lo, mj_br, mj_hr, mj_hw, mq_gf, mq_len, mq_al, mq_pf, mq_ok, mj_re, mq_lkm, mq_lkn, mj_ldi, mj_ldl, mj_lda, mj_ii, mj_ll, mj_li, mj_i1, ms_1, ms_2, f1_n, f1_i, f1_r, f1_u, f1_l, f2_n, f2_i, f2_r, f2_u, f2_l, mj_tg, mj_c1, mj_c2, mj_ar, mj_aw, mq_cb, mq_oi, mj_rm, Value.category, -getElem?_pos, List.getElem?_cons_zero, decide_eq_true, decide_eq_false, nl_lt, nl_le, ln_lt, ln_le, nl_eq, ln_eq, nl_add, ln_add, nl_sub, ln_mul, nI_sub, nI_mul, nI_add, nI_lt_iff, nI_le_iff, nI_inj, nI_num, mq_ix, nI_1, nl_mul, nl_div, nL_lt, nL_le, nL_eq, nL_l, nL_i, nLl_lt, nLl_le, nLl_eq, lnL_lt, lnL_le, lg_cmp_ge, lg_cmp_le, lg_cmp_gt, lg_cmp_lt, lg_cmp_eq, xp, g0, v0, o0, e1, v1, e2, hx', p1, o1, w1, xp1, v2, hx1, hca', v3, x31, w4, p2, o2, e5, v5, hca2, hmsk, c8, narrow]
    · rw [if_pos ⟨c6, by simp [c7]⟩, same]
      refine ⟨M2, row2, ?_, z2, g1.tr g2⟩
      simp (disch := (first | omega | decide)) [c226, s226_0, s226_2, s226_3, s226_6, s226_9, s226_10, s226_12, s226_14, s226_15, s226_16, s226_18, s226_19, s226_21, s226_22, s226_23, s226_26, s226_28, s226_31, s226_32, s226_33, s226_34, s226_35, s226_36, s226_38, s226_39, s226_40, s226_43, s226_46, s226_48, s226_50, s226_53, s226_55, s226_56, s226_57, s226_58, s226_60, s226_63, s226_66, s226_68, s226_70, s226_73, s226_75, s226_76, s226_79, s226_80, s226_83, s226_86, s226_89, s226_91, s226_92, s226_93, s226_94, s226_95, s226_97, s226_98, s226_100, s226_103, s226_106, s226_108, s226_111, s226_114, s226_116, s226_117, s226_118, s226_120, s226_121, s226_122, s226_123, s226_126, s226_128, s226_130, s226_133, s226_134, s226_137, s226_138, s226_140, s226_142, s226_144, s226_145, s226_148, s226_150, s226_151, s226_152, s226_155, s226_157, s226_158, s226_159, s226_162, s226_164, s226_165, s226_167, s226_169, s226_170, s226_173, s226_175, s226_176, s226_179, s226_180, s226_181, s226_184, s226_185, mq_k0s, mq_k1s, mq_k2s, mq_k4s, mq_k5s, mq_k5n, mq_k5as, mq_k6s, mj_pu, mj_lo, mj_br, mj_hr, mj_hw, mq_gf, mq_len, mq_al, mq_pf, mq_ok, mj_re, mq_lkm, mq_lkn, mj_ldi, mj_ldl, mj_lda, mj_ii, mj_ll, mj_li, mj_i1, ms_1, ms_2, f1_n, f1_i, f1_r, f1_u, f1_l, f2_n, f2_i, f2_r, f2_u, f2_l, mj_tg, mj_c1, mj_c2, mj_ar, mj_aw, mq_cb, mq_oi, mj_rm, Value.category, -getElem?_pos, List.getElem?_cons_zero, decide_eq_true, decide_eq_false, nl_lt, nl_le, ln_lt, ln_le, nl_eq, ln_eq, nl_add, ln_add, nl_sub, ln_mul, nI_sub, nI_mul, nI_add, nI_lt_iff, nI_le_iff, nI_inj, nI_num, mq_ix, nI_1, nl_mul, nl_div, nL_lt, nL_le, nL_eq, nL_l, nL_i, nLl_lt, nLl_le, nLl_eq, lnL_lt, lnL_le, lg_cmp_ge, lg_cmp_le, lg_cmp_gt, lg_cmp_lt, lg_cmp_eq, xp, g0, v0, o0, e1, v1, e2, hx', p1, o1, w1, xp1, v2, hx1, hca', v3, x31, w4, p2, o2, e5, v5, hca2, hmsk, c6, c7, narrow]
  · rw [if_neg (fun q => c6 q.1)]
    have hac2 := hacc.fr (M' := M2.set (π + 11 + k) (acc ((a.1, (a.2.1, (C, (a.2.2.2.1 + 1, a.2.2.2.2)))) : Ac))) (fun c hc => by
      by_cases hck : c = π + 11 + k
      · subst hck; rw [List.getElem?_set_self (mq_lt hca2), List.getElem?_set_self (mq_lt hca')]
      · rw [List.getElem?_set_ne (fun q => hck q.symm), List.getElem?_set_ne (fun q => hck q.symm)]; exact s12 c (hPA c (Or.inl hc)))
    have hgr : mj_gr M2 (M2.set (π + 11 + k) (acc ((a.1, (a.2.1, (C, (a.2.2.2.1 + 1, a.2.2.2.2)))) : Ac))) := mj_gr.set hca2 rfl rfl
    obtain ⟨z3, g3⟩ := z2.pback hp hπ hac2 (by simp) (fun c hc => List.getElem?_set_ne (by omega)) hgr
    refine ⟨_, row2, ?_, z3, (g1.tr g2).tr g3⟩
    have hha : ¬ π + 11 + k < 25 := by omega
    have la := mq_lt hca2
    have c6' : uN a.2.2.1 < uN C := by omega
    simp (disch := (first | omega | decide)) [c226, s226_0, s226_2, s226_3, s226_6, s226_9, s226_10, s226_12, s226_14, s226_15, s226_16, s226_18, s226_19, s226_21, s226_22, s226_23, s226_26, s226_28, s226_31, s226_32, s226_33, s226_34, s226_35, s226_36, s226_38, s226_39, s226_40, s226_43, s226_46, s226_48, s226_50, s226_53, s226_55, s226_56, s226_57, s226_58, s226_60, s226_63, s226_66, s226_68, s226_70, s226_73, s226_75, s226_76, s226_79, s226_80, s226_83, s226_86, s226_89, s226_91, s226_92, s226_93, s226_94, s226_95, s226_97, s226_98, s226_100, s226_103, s226_106, s226_108, s226_111, s226_114, s226_116, s226_117, s226_118, s226_120, s226_121, s226_122, s226_123, s226_126, s226_128, s226_130, s226_133, s226_134, s226_137, s226_138, s226_140, s226_142, s226_144, s226_145, s226_148, s226_150, s226_151, s226_152, s226_155, s226_157, s226_158, s226_159, s226_162, s226_164, s226_165, s226_167, s226_169, s226_170, s226_173, s226_175, s226_176, s226_179, s226_180, s226_181, s226_184, s226_185, mq_k0s, mq_k1s, mq_k2s, mq_k4s, mq_k5s, mq_k5n, mq_k5as, mq_k6s, mj_pu, mj_lo, mj_br, mj_hr, mj_hw, mq_gf, mq_len, mq_al, mq_pf, mq_ok, mj_re, mq_lkm, mq_lkn, mj_ldi, mj_ldl, mj_lda, mj_ii, mj_ll, mj_li, mj_i1, ms_1, ms_2, f1_n, f1_i, f1_r, f1_u, f1_l, f2_n, f2_i, f2_r, f2_u, f2_l, mj_tg, mj_c1, mj_c2, mj_ar, mj_aw, mq_cb, mq_oi, mj_rm, Value.category, -getElem?_pos, List.getElem?_cons_zero, decide_eq_true, decide_eq_false, nl_lt, nl_le, ln_lt, ln_le, nl_eq, ln_eq, nl_add, ln_add, nl_sub, ln_mul, nI_sub, nI_mul, nI_add, nI_lt_iff, nI_le_iff, nI_inj, nI_num, mq_ix, nI_1, nl_mul, nl_div, nL_lt, nL_le, nL_eq, nL_l, nL_i, nLl_lt, nLl_le, nLl_eq, lnL_lt, lnL_le, lg_cmp_ge, lg_cmp_le, lg_cmp_gt, lg_cmp_lt, lg_cmp_eq, xp, g0, v0, o0, e1, v1, e2, hx', p1, o1, w1, xp1, v2, hx1, hca', v3, x31, w4, p2, o2, e5, v5, hca2, hmsk, c6, c6', narrow, mj_E, hha, la, List.getElem?_set, hWi, acc]
end HZ
end
/- 9u.hm -/
section
set_option maxRecDepth 512
/-! Class: the house: judge. -/
section HZ
variable {M M' : mj_H} {H H' : Ho} {κs πs : List Nat} {row row' ms : List Int32} {d : Nat} {i l : Int32} {π : Nat} {p : Pa} {u t : List Int32} {A : Nat → Prop} {T : Tm}
def okP (p : Pa) : Prop := okA p ∧ ∀ o ∈ p.2.2.1, okO o
theorem h_why (z : hz M H κs πs row) {j size : Nat} (hp : H.2.2.2.2[j]? = some p) (hπ : πs[j]? = some π) (ho : okP p) (hsz : size ≤ H.1.length) : ∃ M' row', mj_V (d + 5) 218 [.ref π, .ref 30, .ref 26, .int (nI size)] M = some (some (.int (jd H.2.1 p H.1 size).1), M') ∧ hz M' (H.pt j (jd H.2.1 p H.1 size).2) κs πs row' ∧ hf M M' := by
  have h := z.py j p π hp hπ
  have htl := z.tp.len
  have o0 := z.tp.2.2.2.2.2.1
  have h8t := z.tp.2.2.2.2.1
  have xp := h.ob
  have v0 := j_isr (d := d + 2) z.tp hsz
  have hB : ∀ q, cbB H.1 q < 256 := ms_by h8t
  unfold jd
  by_cases hok : jd_ok H.1 size; rotate_left
  · rw [if_pos hok, pt_same hp]
    simp only [decide_eq_false hok, on1_f] at v0
    refine ⟨M, row, ?_, z, hf.rf⟩
    simp (disch := (first | omega | decide)) [c218, s218_0, s218_1, s218_2, s218_5, s218_8, s218_9, s218_10, s218_11, s218_12, s218_13, s218_16, s218_17, s218_18, s218_21, s218_24, s218_26, s218_28, s218_31, s218_32, s218_33, s218_34, s218_35, s218_38, s218_40, s218_42, s218_43, s218_46, s218_49, s218_52, s218_53, s218_55, s218_56, s218_59, s218_60, s218_62, s218_65, s218_68, s218_69, s218_70, s218_72, s218_75, s218_76, s218_79, s218_80, s218_81, s218_82, s218_84, s218_87, s218_90, s218_91, s218_92, s218_93, s218_95, s218_98, mq_k0s, mq_k1s, mq_k2s, mq_k4s, mq_k5s, mq_k5n, mq_k5as, mq_k6s, mj_pu, mj_lo, mj_br, mj_hr, mj_hw, mq_gf, mq_len, mq_al, mq_pf, mq_ok, mj_re, mq_lkm, mq_lkn, mj_ldi, mj_ldl, mj_lda, mj_ii, mj_ll, mj_li, mj_i1, ms_1, ms_2, f1_n, f1_i, f1_r, f1_u, f1_l, f2_n, f2_i, f2_r, f2_u, f2_l, mj_tg, mj_c1, mj_c2, mj_ar, mj_aw, mq_cb, mq_oi, mj_rm, Value.category, -getElem?_pos, List.getElem?_cons_zero, decide_eq_true, decide_eq_false, nl_lt, nl_le, ln_lt, ln_le, nl_eq, ln_eq, nl_add, ln_add, nl_sub, ln_mul, nI_sub, nI_mul, nI_add, nI_lt_iff, nI_le_iff, nI_inj, nI_num, mq_ix, nI_1, nl_mul, nl_div, v0, narrow]
  rw [if_neg (by simpa using hok)]
  simp only [decide_eq_true hok, on1_t] at v0
  obtain ⟨k1, k2, k3⟩ := id hok
  have w1 := j_four (d := d + 2) z.tp (q := 1) (by omega)
  have w2 := j_byteAt (d := d + 3) z.tp (q := 0) (by omega)
  rw [nI_0] at w2
  have hkd : ∀ o : Of, ((if o.2.2.1 = true then (2 : Int32) else 1) = nI (cbB H.1 0)) ↔ o.2.2.1 = decide (cbB H.1 0 = 2) := by
    intro o
    rcases k2 with k | k <;> (rw [k]; cases o.2.2.1 <;> decide)
  have hjd : jd_of p H.1 = p.2.2.1.findIdx? (ofF (w4a H.1 1) (decide (cbB H.1 0 = 2))) := rfl
  rw [hjd]
  rw [show nI 1 = 1 from rfl] at w1
  rcases h_takeO (d := d + 1) z hp hπ (w4a H.1 1) (nI (cbB H.1 0)) (decide (cbB H.1 0 = 2)) hkd with ⟨hn, p1⟩ | ⟨k, o, x, M1, hn, hok2, p1, z1, g1, hx, hxr⟩
  · rw [hn]
    dsimp only
    rw [pt_same hp]
    refine ⟨M, row, ?_, z, hf.rf⟩
    simp (disch := (first | omega | decide)) [c218, s218_0, s218_1, s218_2, s218_5, s218_8, s218_9, s218_10, s218_11, s218_12, s218_13, s218_16, s218_17, s218_18, s218_21, s218_24, s218_26, s218_28, s218_31, s218_32, s218_33, s218_34, s218_35, s218_38, s218_40, s218_42, s218_43, s218_46, s218_49, s218_52, s218_53, s218_55, s218_56, s218_59, s218_60, s218_62, s218_65, s218_68, s218_69, s218_70, s218_72, s218_75, s218_76, s218_79, s218_80, s218_81, s218_82, s218_84, s218_87, s218_90, s218_91, s218_92, s218_93, s218_95, s218_98, mq_k0s, mq_k1s, mq_k2s, mq_k4s, mq_k5s, mq_k5n, mq_k5as, mq_k6s, mj_pu, mj_lo, mj_br, mj_hr, mj_hw, mq_gf, mq_len, mq_al, mq_pf, mq_ok, mj_re, mq_lkm, mq_lkn, mj_ldi, mj_ldl, mj_lda, mj_ii, mj_ll, mj_li, mj_i1, ms_1, ms_2, f1_n, f1_i, f1_r, f1_u, f1_l, f2_n, f2_i, f2_r, f2_u, f2_l, mj_tg, mj_c1, mj_c2, mj_ar, mj_aw, mq_cb, mq_oi, mj_rm, Value.category, -getElem?_pos, List.getElem?_cons_zero, decide_eq_true, decide_eq_false, nl_lt, nl_le, ln_lt, ln_le, nl_eq, ln_eq, nl_add, ln_add, nl_sub, ln_mul, nI_sub, nI_mul, nI_add, nI_lt_iff, nI_le_iff, nI_inj, nI_num, mq_ix, nI_1, nl_mul, nl_div, v0, o0, w1, w2, xp, p1, narrow]
  have hxr1 := hxr.1
  have hxr2 := hxr.2
  have hX1 : π ≤ x ∧ x ≤ π + 18 := by omega
  have hX2 : x ≠ π ∧ ¬ (π + 11 ≤ x) := by omega
  rw [hn]
  dsimp only
  rw [hok2]
  dsimp only
  have hpl := (List.getElem?_eq_some_iff.mp hp).1
  have hp1 : (H.pt j ((p.1, (p.2.1, (p.2.2.1.eraseIdx k, (p.2.2.2.1, (p.2.2.2.2.1, p.2.2.2.2.2))))) : Pa)).2.2.2.2[j]? = some ((p.1, (p.2.1, (p.2.2.1.eraseIdx k, (p.2.2.2.1, (p.2.2.2.2.1, p.2.2.2.2.2))))) : Pa) := List.getElem?_set_self hpl
  have h1 := z1.py j _ π hp1 hπ
  have xp1 := h1.ob
  have g2 := h1.og.2.2.2.2.2.1
  have v2 := v_size (d := d + 3) h1.og
  have o1 := z1.tp.2.2.2.2.2.1
  have hol := h1.og.len
  have w5 := j_byteAt (d := d + 3) z1.tp (q := 5) (by show 5 < H.1.length; omega)
  rw [show nI 5 = 5 from rfl] at w5
  dsimp only [Ho.pt] at w5 hol v2 g2 xp1
  have hB5 := hB 5
  have hB10 := hB (10 + cbB H.1 5)
  unfold jd_met
  by_cases c1 : cbB H.1 5 = p.1.length; rotate_left
  · have hne : (H.1.drop 6).take (cbB H.1 5) ≠ p.1 := by
      intro e
      have := congrArg List.length e
      rw [sl_len (by omega)] at this
      exact c1 this
    rw [if_pos hne]
    refine ⟨M1, row, ?_, z1, g1⟩
    simp (disch := (first | omega | decide)) [c218, s218_0, s218_1, s218_2, s218_5, s218_8, s218_9, s218_10, s218_11, s218_12, s218_13, s218_16, s218_17, s218_18, s218_21, s218_24, s218_26, s218_28, s218_31, s218_32, s218_33, s218_34, s218_35, s218_38, s218_40, s218_42, s218_43, s218_46, s218_49, s218_52, s218_53, s218_55, s218_56, s218_59, s218_60, s218_62, s218_65, s218_68, s218_69, s218_70, s218_72, s218_75, s218_76, s218_79, s218_80, s218_81, s218_82, s218_84, s218_87, s218_90, s218_91, s218_92, s218_93, s218_95, s218_98, mq_k0s, mq_k1s, mq_k2s, mq_k4s, mq_k5s, mq_k5n, mq_k5as, mq_k6s, mj_pu, mj_lo, mj_br, mj_hr, mj_hw, mq_gf, mq_len, mq_al, mq_pf, mq_ok, mj_re, mq_lkm, mq_lkn, mj_ldi, mj_ldl, mj_lda, mj_ii, mj_ll, mj_li, mj_i1, ms_1, ms_2, f1_n, f1_i, f1_r, f1_u, f1_l, f2_n, f2_i, f2_r, f2_u, f2_l, mj_tg, mj_c1, mj_c2, mj_ar, mj_aw, mq_cb, mq_oi, mj_rm, Value.category, -getElem?_pos, List.getElem?_cons_zero, decide_eq_true, decide_eq_false, nl_lt, nl_le, ln_lt, ln_le, nl_eq, ln_eq, nl_add, ln_add, nl_sub, ln_mul, nI_sub, nI_mul, nI_add, nI_lt_iff, nI_le_iff, nI_inj, nI_num, mq_ix, nI_1, nl_mul, nl_div, v0, o0, w1, w2, xp, p1, o1, w5, xp1, g2, v2, c1, narrow]
  have hbT : bb M1 26 27 400 H.1 := z1.tp
  have hbO : bb M1 (π + 1) (π + 2) 40 p.1 := h1.og
  have vm := v_matches (d := d + 2) hbT hbO (p := 6) (q := 0) (n := cbB H.1 5) (by omega) (by omega)
  rw [bt_mt_eq h8t _ 6 0 (by omega) (by omega), List.drop_zero, c1, List.take_of_length_le (Nat.le_refl _), nI_0] at vm
  rw [c1]
  rw [show nI 6 = 6 from rfl] at vm
  by_cases c2 : (H.1.drop 6).take p.1.length = p.1; rotate_left
  · rw [if_pos c2]
    simp only [c2, decide_false] at vm
    refine ⟨M1, row, ?_, z1, g1⟩
    simp (disch := (first | omega | decide)) [c218, s218_0, s218_1, s218_2, s218_5, s218_8, s218_9, s218_10, s218_11, s218_12, s218_13, s218_16, s218_17, s218_18, s218_21, s218_24, s218_26, s218_28, s218_31, s218_32, s218_33, s218_34, s218_35, s218_38, s218_40, s218_42, s218_43, s218_46, s218_49, s218_52, s218_53, s218_55, s218_56, s218_59, s218_60, s218_62, s218_65, s218_68, s218_69, s218_70, s218_72, s218_75, s218_76, s218_79, s218_80, s218_81, s218_82, s218_84, s218_87, s218_90, s218_91, s218_92, s218_93, s218_95, s218_98, mq_k0s, mq_k1s, mq_k2s, mq_k4s, mq_k5s, mq_k5n, mq_k5as, mq_k6s, mj_pu, mj_lo, mj_br, mj_hr, mj_hw, mq_gf, mq_len, mq_al, mq_pf, mq_ok, mj_re, mq_lkm, mq_lkn, mj_ldi, mj_ldl, mj_lda, mj_ii, mj_ll, mj_li, mj_i1, ms_1, ms_2, f1_n, f1_i, f1_r, f1_u, f1_l, f2_n, f2_i, f2_r, f2_u, f2_l, mj_tg, mj_c1, mj_c2, mj_ar, mj_aw, mq_cb, mq_oi, mj_rm, Value.category, -getElem?_pos, List.getElem?_cons_zero, decide_eq_true, decide_eq_false, nl_lt, nl_le, ln_lt, ln_le, nl_eq, ln_eq, nl_add, ln_add, nl_sub, ln_mul, nI_sub, nI_mul, nI_add, nI_lt_iff, nI_le_iff, nI_inj, nI_num, mq_ix, nI_1, nl_mul, nl_div, v0, o0, w1, w2, xp, p1, o1, w5, xp1, g2, v2, c1, vm, narrow]
  rw [if_neg (by simp [c2])]
  simp only [c2, decide_true, if_true] at vm
  have hx' : M1[x]? = some (6, [.int o.1, .long (bt_lo o.2.1), .int (nI o.2.1.length), .int (if o.2.2.1 then 2 else 1), .int (if o.2.2.2 then 1 else 0)]) := hx
  have hlen : 15 + p.1.length + cbB H.1 (10 + p.1.length) ≤ H.1.length := by rw [← c1]; omega
  have hpt2 : ∀ q, (H.pt j ((p.1, (p.2.1, (p.2.2.1.eraseIdx k, (p.2.2.2.1, (p.2.2.2.2.1, p.2.2.2.2.2))))) : Pa)).pt j q = H.pt j q := by intro q; unfold Ho.pt; simp
  obtain ⟨u30, x31⟩ := z1.o30
  cases hg : o.2.2.1 with
  | true =>
    rw [if_pos rfl]
    obtain ⟨M2, row2, p2, z2, g3⟩ := h_noLog (d := d) z1 hp1 hπ hx hX1 ho.1 (ho.2 o (List.mem_of_getElem? hok2)) hlen
    rw [hpt2] at z2
    refine ⟨M2, row2, ?_, z2, g1.tr g3⟩
    rw [hg, if_pos rfl] at hx'
    dsimp only [Ho.pt] at p2
    simp (disch := (first | omega | decide)) [c218, s218_0, s218_1, s218_2, s218_5, s218_8, s218_9, s218_10, s218_11, s218_12, s218_13, s218_16, s218_17, s218_18, s218_21, s218_24, s218_26, s218_28, s218_31, s218_32, s218_33, s218_34, s218_35, s218_38, s218_40, s218_42, s218_43, s218_46, s218_49, s218_52, s218_53, s218_55, s218_56, s218_59, s218_60, s218_62, s218_65, s218_68, s218_69, s218_70, s218_72, s218_75, s218_76, s218_79, s218_80, s218_81, s218_82, s218_84, s218_87, s218_90, s218_91, s218_92, s218_93, s218_95, s218_98, mq_k0s, mq_k1s, mq_k2s, mq_k4s, mq_k5s, mq_k5n, mq_k5as, mq_k6s, mj_pu, mj_lo, mj_br, mj_hr, mj_hw, mq_gf, mq_len, mq_al, mq_pf, mq_ok, mj_re, mq_lkm, mq_lkn, mj_ldi, mj_ldl, mj_lda, mj_ii, mj_ll, mj_li, mj_i1, ms_1, ms_2, f1_n, f1_i, f1_r, f1_u, f1_l, f2_n, f2_i, f2_r, f2_u, f2_l, mj_tg, mj_c1, mj_c2, mj_ar, mj_aw, mq_cb, mq_oi, mj_rm, Value.category, -getElem?_pos, List.getElem?_cons_zero, decide_eq_true, decide_eq_false, nl_lt, nl_le, ln_lt, ln_le, nl_eq, ln_eq, nl_add, ln_add, nl_sub, ln_mul, nI_sub, nI_mul, nI_add, nI_lt_iff, nI_le_iff, nI_inj, nI_num, mq_ix, nI_1, nl_mul, nl_div, v0, o0, w1, w2, xp, p1, o1, w5, xp1, g2, v2, c1, vm, hx', p2, narrow]
  | false =>
    rw [if_neg (by simp)]
    obtain ⟨M2, row2, p2, z2, g3⟩ := h_noAcc (d := d) z1 hp1 hπ hx hX1 hX2 hlen
    rw [hpt2] at z2
    refine ⟨M2, row2, ?_, z2, g1.tr g3⟩
    rw [hg, if_neg (by simp)] at hx'
    dsimp only [Ho.pt] at p2
    simp (disch := (first | omega | decide)) [c218, s218_0, s218_1, s218_2, s218_5, s218_8, s218_9, s218_10, s218_11, s218_12, s218_13, s218_16, s218_17, s218_18, s218_21, s218_24, s218_26, s218_28, s218_31, s218_32, s218_33, s218_34, s218_35, s218_38, s218_40, s218_42, s218_43, s218_46, s218_49, s218_52, s218_53, s218_55, s218_56, s218_59, s218_60, s218_62, s218_65, s218_68, s218_69, s218_70, s218_72, s218_75, s218_76, s218_79, s218_80, s218_81, s218_82, s218_84, s218_87, s218_90, s218_91, s218_92, s218_93, s218_95, s218_98, mq_k0s, mq_k1s, mq_k2s, mq_k4s, mq_k5s, mq_k5n, mq_k5as, mq_k6s, mj_pu, mj_lo, mj_br, mj_hr, mj_hw, mq_gf, mq_len, mq_al, mq_pf, mq_ok, mj_re, mq_lkm, mq_lkn, mj_ldi, mj_ldl, mj_lda, mj_ii, mj_ll, mj_li, mj_i1, ms_1, ms_2, f1_n, f1_i, f1_r, f1_u, f1_l, f2_n, f2_i, f2_r, f2_u, f2_l, mj_tg, mj_c1, mj_c2, mj_ar, mj_aw, mq_cb, mq_oi, mj_rm, Value.category, -getElem?_pos, List.getElem?_cons_zero, decide_eq_true, decide_eq_false, nl_lt, nl_le, ln_lt, ln_le, nl_eq, ln_eq, nl_add, ln_add, nl_sub, ln_mul, nI_sub, nI_mul, nI_add, nI_lt_iff, nI_le_iff, nI_inj, nI_num, mq_ix, nI_1, nl_mul, nl_div, v0, o0, w1, w2, xp, p1, o1, w5, xp1, g2, v2, c1, vm, hx', p2, narrow]
theorem h_verd (z : hz M H κs πs row) {j size : Nat} (hp : H.2.2.2.2[j]? = some p) (hπ : πs[j]? = some π) (ho : okP p) (hsz : size ≤ H.1.length) : ∃ M' row', mj_V (d + 6) 217 [.ref π, .ref 30, .ref 26, .int (nI size)] M = some (some (.int (jd H.2.1 p H.1 size).1), M') ∧ hz M' (H.pt j (jd_cnt (jd H.2.1 p H.1 size))) κs πs row' ∧ hf M M' := by
  obtain ⟨M1, row1, p1, z1, g1⟩ := h_why (d := d) z hp hπ ho hsz
  have xp := (z.py j p π hp hπ).ob
  have hlo := (z.py j p π hp hπ).lo
  have hh : ¬ π < 25 := by omega
  have hpl := (List.getElem?_eq_some_iff.mp hp).1
  generalize jd H.2.1 p H.1 size = q at *
  have hp1 : (H.pt j q.2).2.2.2.2[j]? = some q.2 := List.getElem?_set_self hpl
  have h1 := z1.py j _ π hp1 hπ
  have xp1 := h1.ob
  have l1 := mq_lt xp1
  have hz' := h1.upd (p' := jd_cnt q) (by unfold jd_cnt; split <;> rfl) (by unfold jd_cnt; split <;> rfl) (by intro i o h; unfold jd_cnt at h; split at h <;> exact h) (by unfold jd_cnt; split <;> rfl) (by unfold jd_cnt; split <;> exact h1.l4)
  obtain ⟨z2, g2⟩ := z1.pback hp1 hπ hz' (by simp) (fun c hc => List.getElem?_set_ne (by omega)) (mj_gr.set xp1 rfl rfl)
  have hpt2 : (H.pt j q.2).pt j (jd_cnt q) = H.pt j (jd_cnt q) := by unfold Ho.pt; simp
  rw [hpt2] at z2
  refine ⟨_, row1, ?_, z2, g1.tr g2⟩
  by_cases c1 : q.1 = 0
  · simp (disch := (first | omega | decide)) [c217, s217_0, s217_1, s217_2, s217_3, s217_4, s217_7, s217_9, s217_11, s217_14, s217_15, s217_16, s217_19, s217_20, s217_21, s217_24, s217_27, s217_28, s217_29, s217_32, s217_33, s217_34, s217_37, s217_39, mq_k0s, mq_k1s, mq_k2s, mq_k4s, mq_k5s, mq_k5n, mq_k5as, mq_k6s, mj_pu, mj_lo, mj_br, mj_hr, mj_hw, mq_gf, mq_len, mq_al, mq_pf, mq_ok, mj_re, mq_lkm, mq_lkn, mj_ldi, mj_ldl, mj_lda, mj_ii, mj_ll, mj_li, mj_i1, ms_1, ms_2, f1_n, f1_i, f1_r, f1_u, f1_l, f2_n, f2_i, f2_r, f2_u, f2_l, mj_tg, mj_c1, mj_c2, mj_ar, mj_aw, mq_cb, mq_oi, mj_rm, Value.category, -getElem?_pos, List.getElem?_cons_zero, decide_eq_true, decide_eq_false, nl_lt, nl_le, ln_lt, ln_le, nl_eq, ln_eq, nl_add, ln_add, nl_sub, ln_mul, nI_sub, nI_mul, nI_add, nI_lt_iff, nI_le_iff, nI_inj, nI_num, mq_ix, nI_1, nl_mul, nl_div, xp, p1, c1, xp1, narrow, mj_E, hh, l1, po, jd_cnt]
  · simp (disch := (first | omega | decide)) [c217, s217_0, s217_1, s217_2, s217_3, s217_4, s217_7, s217_9, s217_11, s217_14, s217_15, s217_16, s217_19, s217_20, s217_21, s217_24, s217_27, s217_28, s217_29, s217_32, s217_33, s217_34, s217_37, s217_39, mq_k0s, mq_k1s, mq_k2s, mq_k4s, mq_k5s, mq_k5n, mq_k5as, mq_k6s, mj_pu, mj_lo, mj_br, mj_hr, mj_hw, mq_gf, mq_len, mq_al, mq_pf, mq_ok, mj_re, mq_lkm, mq_lkn, mj_ldi, mj_ldl, mj_lda, mj_ii, mj_ll, mj_li, mj_i1, ms_1, ms_2, f1_n, f1_i, f1_r, f1_u, f1_l, f2_n, f2_i, f2_r, f2_u, f2_l, mj_tg, mj_c1, mj_c2, mj_ar, mj_aw, mq_cb, mq_oi, mj_rm, Value.category, -getElem?_pos, List.getElem?_cons_zero, decide_eq_true, decide_eq_false, nl_lt, nl_le, ln_lt, ln_le, nl_eq, ln_eq, nl_add, ln_add, nl_sub, ln_mul, nI_sub, nI_mul, nI_add, nI_lt_iff, nI_le_iff, nI_inj, nI_num, mq_ix, nI_1, nl_mul, nl_div, xp, p1, c1, xp1, narrow, mj_E, hh, l1, po, jd_cnt]
theorem h_judge (z : hz M H κs πs row) (n : Int32) (hoP : ∀ p ∈ H.2.2.2.2, okP p) : ∃ M' row', mj_V (d + 7) 216 [.ref 25, .int i, .int n] M = some (some (.int (ho_judge H i n).1), M') ∧ hz M' (ho_judge H i n).2 κs πs row' ∧ hf M M' := by
  have x0 := z.ob
  obtain ⟨w0, hm⟩ := h_tp (d := d + 4) z n
  unfold ho_judge
  cases hix : ix i H.2.2.2.2.length with
  | none =>
    have v0 := h_parN (d := d + 5) z hix
    refine ⟨M, row, ?_, z, hf.rf⟩
    simp (disch := (first | omega | decide)) [c216, s216_0, s216_1, s216_2, s216_5, s216_6, s216_7, s216_8, s216_11, s216_13, s216_14, s216_17, s216_19, s216_20, s216_23, s216_24, s216_27, s216_28, s216_29, s216_32, s216_33, s216_36, s216_38, s216_41, mq_k0s, mq_k1s, mq_k2s, mq_k4s, mq_k5s, mq_k5n, mq_k5as, mq_k6s, mj_pu, mj_lo, mj_br, mj_hr, mj_hw, mq_gf, mq_len, mq_al, mq_pf, mq_ok, mj_re, mq_lkm, mq_lkn, mj_ldi, mj_ldl, mj_lda, mj_ii, mj_ll, mj_li, mj_i1, ms_1, ms_2, f1_n, f1_i, f1_r, f1_u, f1_l, f2_n, f2_i, f2_r, f2_u, f2_l, mj_tg, mj_c1, mj_c2, mj_ar, mj_aw, mq_cb, mq_oi, mj_rm, Value.category, -getElem?_pos, List.getElem?_cons_zero, decide_eq_true, decide_eq_false, nl_lt, nl_le, ln_lt, ln_le, nl_eq, ln_eq, nl_add, ln_add, nl_sub, ln_mul, nI_sub, nI_mul, nI_add, nI_lt_iff, nI_le_iff, nI_inj, nI_num, mq_ix, nI_1, nl_mul, nl_div, x0, v0, w0, narrow]
  | some j =>
    obtain ⟨rfl, hj, -⟩ := ix_some hix
    have hp := List.getElem?_eq_getElem hj
    obtain ⟨π, hπ, hpz⟩ := z.pzz hp
    have v0 := h_parS (d := d + 5) z hπ
    have ho := hoP _ (List.getElem_mem hj)
    generalize H.2.2.2.2[j] = p at *
    have xp := hpz.ob
    cases htp : tp H n with
    | none =>
      rw [htp] at w0
      refine ⟨M, row, ?_, z, hf.rf⟩
      simp (disch := (first | omega | decide)) [c216, s216_0, s216_1, s216_2, s216_5, s216_6, s216_7, s216_8, s216_11, s216_13, s216_14, s216_17, s216_19, s216_20, s216_23, s216_24, s216_27, s216_28, s216_29, s216_32, s216_33, s216_36, s216_38, s216_41, mq_k0s, mq_k1s, mq_k2s, mq_k4s, mq_k5s, mq_k5n, mq_k5as, mq_k6s, mj_pu, mj_lo, mj_br, mj_hr, mj_hw, mq_gf, mq_len, mq_al, mq_pf, mq_ok, mj_re, mq_lkm, mq_lkn, mj_ldi, mj_ldl, mj_lda, mj_ii, mj_ll, mj_li, mj_i1, ms_1, ms_2, f1_n, f1_i, f1_r, f1_u, f1_l, f2_n, f2_i, f2_r, f2_u, f2_l, mj_tg, mj_c1, mj_c2, mj_ar, mj_aw, mq_cb, mq_oi, mj_rm, Value.category, -getElem?_pos, List.getElem?_cons_zero, decide_eq_true, decide_eq_false, nl_lt, nl_le, ln_lt, ln_le, nl_eq, ln_eq, nl_add, ln_add, nl_sub, ln_mul, nI_sub, nI_mul, nI_add, nI_lt_iff, nI_le_iff, nI_inj, nI_num, mq_ix, nI_1, nl_mul, nl_div, x0, v0, w0, narrow]
    | some m =>
      rw [htp] at w0
      have hm := hm m htp
      have htl := z.tp.len
      dsimp only
      rw [hp]
      dsimp only
      obtain ⟨M1, row1, p1, z1, g1⟩ := h_verd (d := d) z hp hπ ho hm
      refine ⟨M1, row1, ?_, z1, g1⟩
      simp (disch := (first | omega | decide)) [c216, s216_0, s216_1, s216_2, s216_5, s216_6, s216_7, s216_8, s216_11, s216_13, s216_14, s216_17, s216_19, s216_20, s216_23, s216_24, s216_27, s216_28, s216_29, s216_32, s216_33, s216_36, s216_38, s216_41, mq_k0s, mq_k1s, mq_k2s, mq_k4s, mq_k5s, mq_k5n, mq_k5as, mq_k6s, mj_pu, mj_lo, mj_br, mj_hr, mj_hw, mq_gf, mq_len, mq_al, mq_pf, mq_ok, mj_re, mq_lkm, mq_lkn, mj_ldi, mj_ldl, mj_lda, mj_ii, mj_ll, mj_li, mj_i1, ms_1, ms_2, f1_n, f1_i, f1_r, f1_u, f1_l, f2_n, f2_i, f2_r, f2_u, f2_l, mj_tg, mj_c1, mj_c2, mj_ar, mj_aw, mq_cb, mq_oi, mj_rm, Value.category, -getElem?_pos, List.getElem?_cons_zero, decide_eq_true, decide_eq_false, nl_lt, nl_le, ln_lt, ln_le, nl_eq, ln_eq, nl_add, ln_add, nl_sub, ln_mul, nI_sub, nI_mul, nI_add, nI_lt_iff, nI_le_iff, nI_inj, nI_num, mq_ix, nI_1, nl_mul, nl_div, x0, v0, w0, nI_m1, xp, p1, narrow]
end HZ
end
/- a0.new1 -/
section
set_option maxRecDepth 512
/-! Class: constructors. -/
/- 2 PasskeyHouse$Bytes.<init>(I)V -/
theorem s2_0 {d : Nat} {ls : mj_L} {st : List Value} {M : mj_H} : mj_Rn d mj_m2 0 ls st M = mq_k0 d mj_m2 1 ls M (mj_lda (mj_lk ls 0) st) := mj_R0 (r := (.aload_n 0, 1, 0, 0, 0)) rfl rfl
theorem s2_1 {d : Nat} {ls : mj_L} {st : List Value} {M : mj_H} : mj_Rn (d + 1) mj_m2 1 ls st M = mq_k0 (d + 1) mj_m2 4 ls M (mq_oi st) := mj_R5oe (r := (.invokespecial 3, 3, 6, 0, 4129)) rfl rfl rfl
theorem s2_4 {d : Nat} {ls : mj_L} {st : List Value} {M : mj_H} : mj_Rn d mj_m2 4 ls st M = mq_k0 d mj_m2 5 ls M (mj_lda (mj_lk ls 0) st) := mj_R0 (r := (.aload_n 0, 1, 0, 0, 0)) rfl rfl
theorem s2_5 {d : Nat} {ls : mj_L} {st : List Value} {M : mj_H} : mj_Rn d mj_m2 5 ls st M = mq_k0 d mj_m2 6 ls M (mj_ldi (mj_lk ls 1) st) := mj_R0 (r := (.iload_n 1, 1, 0, 0, 0)) rfl rfl
theorem s2_6 {d : Nat} {ls : mj_L} {st : List Value} {M : mj_H} : mj_Rn d mj_m2 6 ls st M = mj_Rn d mj_m2 7 ls (.int 0 :: st) M := mj_R0 (r := (.iconst 0, 1, 0, 0, 0)) rfl rfl
theorem s2_7 {d : Nat} {ls : mj_L} {st : List Value} {M : mj_H} : mj_Rn (d + 1) mj_m2 7 ls st M = mq_k5a (d + 1) mj_m2 10 ls M 3 (mq_cb 2 2 999 st M) := mj_R5e (r := (.invokestatic 9, 3, 2, 3, 4130)) (z := mj_m3) rfl rfl (by decide) (by decide) rfl
theorem s2_10 {d : Nat} {ls : mj_L} {st : List Value} {M : mj_H} : mj_Rn d mj_m2 10 ls st M = mq_k4 d mj_m2 12 ls (mj_hw (.newarray .int, 2, 1000, 0, 4140) st M) := mj_R4 (r := (.newarray .int, 2, 1000, 0, 4140)) rfl rfl
theorem s2_12 {d : Nat} {ls : mj_L} {st : List Value} {M : mj_H} : mj_Rn d mj_m2 12 ls st M = mq_k4 d mj_m2 15 ls (mq_pf 1 0 2 st M) := (mj_R4 (r := (.putfield 15, 3, 1, 0, 8266)) rfl rfl).trans (congrArg (mq_k4 d mj_m2 15 ls) (mq_pf_eq rfl rfl))
theorem s2_15 {d : Nat} {ls : mj_L} {st : List Value} {M : mj_H} : mj_Rn d mj_m2 15 ls st M = mq_k0 d mj_m2 16 ls M (mj_lda (mj_lk ls 0) st) := mj_R0 (r := (.aload_n 0, 1, 0, 0, 0)) rfl rfl
theorem s2_16 {d : Nat} {ls : mj_L} {st : List Value} {M : mj_H} : mj_Rn d mj_m2 16 ls st M = mj_Rn d mj_m2 17 ls (.int 0 :: st) M := mj_R0 (r := (.iconst 0, 1, 0, 0, 0)) rfl rfl
theorem s2_17 {d : Nat} {ls : mj_L} {st : List Value} {M : mj_H} : mj_Rn d mj_m2 17 ls st M = mq_k4 d mj_m2 20 ls (mq_pf 1 1 0 st M) := (mj_R4 (r := (.putfield 21, 3, 1, 1, 8268)) rfl rfl).trans (congrArg (mq_k4 d mj_m2 20 ls) (mq_pf_eq rfl rfl))
theorem s2_20 {d : Nat} {ls : mj_L} {st : List Value} {M : mj_H} : mj_Rn d mj_m2 20 ls st M = mq_k6 M (mj_re none (.return_) st) := mj_R6 (r := (.return_, 1, 0, 0, 0)) rfl rfl
/- 24 PasskeyHouse$Store.<init>()V -/
theorem s24_0 {d : Nat} {ls : mj_L} {st : List Value} {M : mj_H} : mj_Rn d mj_m24 0 ls st M = mq_k0 d mj_m24 1 ls M (mj_lda (mj_lk ls 0) st) := mj_R0 (r := (.aload_n 0, 1, 0, 0, 0)) rfl rfl
theorem s24_1 {d : Nat} {ls : mj_L} {st : List Value} {M : mj_H} : mj_Rn (d + 1) mj_m24 1 ls st M = mq_k0 (d + 1) mj_m24 4 ls M (mq_oi st) := mj_R5oe (r := (.invokespecial 3, 3, 6, 0, 8200)) rfl rfl rfl
theorem s24_4 {d : Nat} {ls : mj_L} {st : List Value} {M : mj_H} : mj_Rn d mj_m24 4 ls st M = mq_k0 d mj_m24 5 ls M (mj_lda (mj_lk ls 0) st) := mj_R0 (r := (.aload_n 0, 1, 0, 0, 0)) rfl rfl
theorem s24_5 {d : Nat} {ls : mj_L} {st : List Value} {M : mj_H} : mj_Rn d mj_m24 5 ls st M = mq_k4 d mj_m24 8 ls (mj_hw (.new 9, 3, 1, 0, 8201) st M) := mj_R4 (r := (.new 9, 3, 1, 0, 8201)) rfl rfl
theorem s24_8 {d : Nat} {ls : mj_L} {st : List Value} {M : mj_H} : mj_Rn d mj_m24 8 ls st M = mq_k0 d mj_m24 9 ls M (mj_pu .dup ls st) := mj_R0 (r := (.dup, 1, 0, 0, 0)) rfl rfl
theorem s24_9 {d : Nat} {ls : mj_L} {st : List Value} {M : mj_H} : mj_Rn d mj_m24 9 ls st M = mj_Rn d mj_m24 12 ls (.int 512 :: st) M := mj_R0 (r := (.sipush 512, 3, 0, 0, 0)) rfl rfl
theorem s24_12 {d : Nat} {ls : mj_L} {st : List Value} {M : mj_H} : mj_Rn (d + 1) mj_m24 12 ls st M = mq_k5a (d + 1) mj_m24 15 ls M 2 (mq_cb 4 1 1 st M) := mj_R5e (r := (.invokespecial 13, 3, 4, 2, 8202)) (z := mj_m2) rfl rfl (by decide) (by decide) rfl
theorem s24_15 {d : Nat} {ls : mj_L} {st : List Value} {M : mj_H} : mj_Rn d mj_m24 15 ls st M = mq_k4 d mj_m24 18 ls (mq_pf 8 0 2 st M) := (mj_R4 (r := (.putfield 16, 3, 8, 0, 16480)) rfl rfl).trans (congrArg (mq_k4 d mj_m24 18 ls) (mq_pf_eq rfl rfl))
theorem s24_18 {d : Nat} {ls : mj_L} {st : List Value} {M : mj_H} : mj_Rn d mj_m24 18 ls st M = mq_k0 d mj_m24 19 ls M (mj_lda (mj_lk ls 0) st) := mj_R0 (r := (.aload_n 0, 1, 0, 0, 0)) rfl rfl
theorem s24_19 {d : Nat} {ls : mj_L} {st : List Value} {M : mj_H} : mj_Rn d mj_m24 19 ls st M = mq_k4 d mj_m24 22 ls (mj_hw (.new 9, 3, 1, 0, 8201) st M) := mj_R4 (r := (.new 9, 3, 1, 0, 8201)) rfl rfl
theorem s24_22 {d : Nat} {ls : mj_L} {st : List Value} {M : mj_H} : mj_Rn d mj_m24 22 ls st M = mq_k0 d mj_m24 23 ls M (mj_pu .dup ls st) := mj_R0 (r := (.dup, 1, 0, 0, 0)) rfl rfl
theorem s24_23 {d : Nat} {ls : mj_L} {st : List Value} {M : mj_H} : mj_Rn d mj_m24 23 ls st M = mj_Rn d mj_m24 25 ls (.int 24 :: st) M := mj_R0 (r := (.bipush 24, 2, 0, 0, 0)) rfl rfl
theorem s24_25 {d : Nat} {ls : mj_L} {st : List Value} {M : mj_H} : mj_Rn (d + 1) mj_m24 25 ls st M = mq_k5a (d + 1) mj_m24 28 ls M 2 (mq_cb 4 1 1 st M) := mj_R5e (r := (.invokespecial 13, 3, 4, 2, 8202)) (z := mj_m2) rfl rfl (by decide) (by decide) rfl
theorem s24_28 {d : Nat} {ls : mj_L} {st : List Value} {M : mj_H} : mj_Rn d mj_m24 28 ls st M = mq_k4 d mj_m24 31 ls (mq_pf 8 1 2 st M) := (mj_R4 (r := (.putfield 20, 3, 8, 1, 16484)) rfl rfl).trans (congrArg (mq_k4 d mj_m24 31 ls) (mq_pf_eq rfl rfl))
theorem s24_31 {d : Nat} {ls : mj_L} {st : List Value} {M : mj_H} : mj_Rn d mj_m24 31 ls st M = mq_k0 d mj_m24 32 ls M (mj_lda (mj_lk ls 0) st) := mj_R0 (r := (.aload_n 0, 1, 0, 0, 0)) rfl rfl
theorem s24_32 {d : Nat} {ls : mj_L} {st : List Value} {M : mj_H} : mj_Rn d mj_m24 32 ls st M = mj_Rn d mj_m24 34 ls (.int 8 :: st) M := mj_R0 (r := (.bipush 8, 2, 0, 0, 0)) rfl rfl
theorem s24_34 {d : Nat} {ls : mj_L} {st : List Value} {M : mj_H} : mj_Rn d mj_m24 34 ls st M = mq_k4 d mj_m24 37 ls (mj_hw (.anewarray 23, 3, 1007, 0, 8203) st M) := mj_R4 (r := (.anewarray 23, 3, 1007, 0, 8203)) rfl rfl
theorem s24_37 {d : Nat} {ls : mj_L} {st : List Value} {M : mj_H} : mj_Rn d mj_m24 37 ls st M = mq_k4 d mj_m24 40 ls (mq_pf 8 2 2 st M) := (mj_R4 (r := (.putfield 25, 3, 8, 2, 16486)) rfl rfl).trans (congrArg (mq_k4 d mj_m24 40 ls) (mq_pf_eq rfl rfl))
theorem s24_40 {d : Nat} {ls : mj_L} {st : List Value} {M : mj_H} : mj_Rn d mj_m24 40 ls st M = mj_Rn d mj_m24 41 ls (.int 0 :: st) M := mj_R0 (r := (.iconst 0, 1, 0, 0, 0)) rfl rfl
theorem s24_41 {d : Nat} {ls : mj_L} {st : List Value} {M : mj_H} : mj_Rn d mj_m24 41 ls st M = mq_k1 d mj_m24 42 M (mj_lo 2 (.istore 1) ls st) := (mj_R1 (r := (.istore_n 1, 1, 0, 0, 0)) rfl rfl).trans (congrArg (mq_k1 d mj_m24 42 M) (mq_sti (k := 1)))
theorem s24_42 {d : Nat} {ls : mj_L} {st : List Value} {M : mj_H} : mj_Rn d mj_m24 42 ls st M = mq_k0 d mj_m24 43 ls M (mj_ldi (mj_lk ls 1) st) := mj_R0 (r := (.iload_n 1, 1, 0, 0, 0)) rfl rfl
theorem s24_43 {d : Nat} {ls : mj_L} {st : List Value} {M : mj_H} : mj_Rn d mj_m24 43 ls st M = mq_k0 d mj_m24 44 ls M (mj_lda (mj_lk ls 0) st) := mj_R0 (r := (.aload_n 0, 1, 0, 0, 0)) rfl rfl
theorem s24_44 {d : Nat} {ls : mj_L} {st : List Value} {M : mj_H} : mj_Rn d mj_m24 44 ls st M = mq_k0 d mj_m24 47 ls M (mq_gf 8 2 st M) := (mj_R3 (r := (.getfield 25, 3, 8, 2, 16486)) rfl rfl).trans (congrArg (mq_k0 d mj_m24 47 ls M) mq_gf_eq)
theorem s24_47 {d : Nat} {ls : mj_L} {st : List Value} {M : mj_H} : mj_Rn d mj_m24 47 ls st M = mq_k0 d mj_m24 48 ls M (mq_len st M) := (mj_R3 (r := (.arraylength, 1, 0, 0, 0)) rfl rfl).trans (congrArg (mq_k0 d mj_m24 48 ls M) mq_len_eq)
theorem s24_48 {d : Nat} {ls : mj_L} {st : List Value} {M : mj_H} : mj_Rn d mj_m24 48 ls st M = mq_k2 d mj_m24 ls M (mj_br (.if_icmp .ge 22) 48 st) := mj_R2 (r := (.if_icmp .ge 22, 3, 0, 0, 0)) rfl rfl
theorem s24_51 {d : Nat} {ls : mj_L} {st : List Value} {M : mj_H} : mj_Rn d mj_m24 51 ls st M = mq_k0 d mj_m24 52 ls M (mj_lda (mj_lk ls 0) st) := mj_R0 (r := (.aload_n 0, 1, 0, 0, 0)) rfl rfl
theorem s24_52 {d : Nat} {ls : mj_L} {st : List Value} {M : mj_H} : mj_Rn d mj_m24 52 ls st M = mq_k0 d mj_m24 55 ls M (mq_gf 8 2 st M) := (mj_R3 (r := (.getfield 25, 3, 8, 2, 16486)) rfl rfl).trans (congrArg (mq_k0 d mj_m24 55 ls M) mq_gf_eq)
theorem s24_55 {d : Nat} {ls : mj_L} {st : List Value} {M : mj_H} : mj_Rn d mj_m24 55 ls st M = mq_k0 d mj_m24 56 ls M (mj_ldi (mj_lk ls 1) st) := mj_R0 (r := (.iload_n 1, 1, 0, 0, 0)) rfl rfl
theorem s24_56 {d : Nat} {ls : mj_L} {st : List Value} {M : mj_H} : mj_Rn d mj_m24 56 ls st M = mq_k4 d mj_m24 59 ls (mj_hw (.new 23, 3, 2, 0, 8203) st M) := mj_R4 (r := (.new 23, 3, 2, 0, 8203)) rfl rfl
theorem s24_59 {d : Nat} {ls : mj_L} {st : List Value} {M : mj_H} : mj_Rn d mj_m24 59 ls st M = mq_k0 d mj_m24 60 ls M (mj_pu .dup ls st) := mj_R0 (r := (.dup, 1, 0, 0, 0)) rfl rfl
theorem s24_60 {d : Nat} {ls : mj_L} {st : List Value} {M : mj_H} : mj_Rn (d + 1) mj_m24 60 ls st M = mq_k5a (d + 1) mj_m24 63 ls M 25 (mq_cb 5 0 2 st M) := mj_R5e (r := (.invokespecial 29, 3, 5, 25, 8206)) (z := mj_m25) rfl rfl (by decide) (by decide) rfl
theorem s24_63 {d : Nat} {ls : mj_L} {st : List Value} {M : mj_H} : mj_Rn d mj_m24 63 ls st M = mq_k4 d mj_m24 64 ls (mj_hw (.aastore, 1, 0, 0, 0) st M) := mj_R4 (r := (.aastore, 1, 0, 0, 0)) rfl rfl
theorem s24_64 {d : Nat} {ls : mj_L} {st : List Value} {M : mj_H} : mj_Rn d mj_m24 64 ls st M = mq_k1 d mj_m24 67 M (mj_lo 2 (.iinc 1 1) ls st) := mj_R1 (r := (.iinc 1 1, 3, 0, 0, 0)) rfl rfl
theorem s24_67 {d : Nat} {ls : mj_L} {st : List Value} {M : mj_H} : mj_Rn d mj_m24 67 ls st M = mj_Rn d mj_m24 42 ls st M := mj_R2 (r := (.goto (-25), 3, 0, 0, 0)) rfl rfl
theorem s24_70 {d : Nat} {ls : mj_L} {st : List Value} {M : mj_H} : mj_Rn d mj_m24 70 ls st M = mq_k0 d mj_m24 71 ls M (mj_lda (mj_lk ls 0) st) := mj_R0 (r := (.aload_n 0, 1, 0, 0, 0)) rfl rfl
theorem s24_71 {d : Nat} {ls : mj_L} {st : List Value} {M : mj_H} : mj_Rn d mj_m24 71 ls st M = mq_k4 d mj_m24 74 ls (mj_hw (.new 23, 3, 2, 0, 8203) st M) := mj_R4 (r := (.new 23, 3, 2, 0, 8203)) rfl rfl
theorem s24_74 {d : Nat} {ls : mj_L} {st : List Value} {M : mj_H} : mj_Rn d mj_m24 74 ls st M = mq_k0 d mj_m24 75 ls M (mj_pu .dup ls st) := mj_R0 (r := (.dup, 1, 0, 0, 0)) rfl rfl
theorem s24_75 {d : Nat} {ls : mj_L} {st : List Value} {M : mj_H} : mj_Rn (d + 1) mj_m24 75 ls st M = mq_k5a (d + 1) mj_m24 78 ls M 25 (mq_cb 5 0 2 st M) := mj_R5e (r := (.invokespecial 29, 3, 5, 25, 8206)) (z := mj_m25) rfl rfl (by decide) (by decide) rfl
theorem s24_78 {d : Nat} {ls : mj_L} {st : List Value} {M : mj_H} : mj_Rn d mj_m24 78 ls st M = mq_k4 d mj_m24 81 ls (mq_pf 8 3 2 st M) := (mj_R4 (r := (.putfield 30, 3, 8, 3, 16488)) rfl rfl).trans (congrArg (mq_k4 d mj_m24 81 ls) (mq_pf_eq rfl rfl))
theorem s24_81 {d : Nat} {ls : mj_L} {st : List Value} {M : mj_H} : mj_Rn d mj_m24 81 ls st M = mq_k0 d mj_m24 82 ls M (mj_lda (mj_lk ls 0) st) := mj_R0 (r := (.aload_n 0, 1, 0, 0, 0)) rfl rfl
theorem s24_82 {d : Nat} {ls : mj_L} {st : List Value} {M : mj_H} : mj_Rn d mj_m24 82 ls st M = mj_Rn d mj_m24 83 ls (.int 0 :: st) M := mj_R0 (r := (.iconst 0, 1, 0, 0, 0)) rfl rfl
theorem s24_83 {d : Nat} {ls : mj_L} {st : List Value} {M : mj_H} : mj_Rn d mj_m24 83 ls st M = mq_k4 d mj_m24 86 ls (mq_pf 8 4 3 st M) := (mj_R4 (r := (.putfield 34, 3, 8, 4, 16492)) rfl rfl).trans (congrArg (mq_k4 d mj_m24 86 ls) (mq_pf_eq rfl rfl))
theorem s24_86 {d : Nat} {ls : mj_L} {st : List Value} {M : mj_H} : mj_Rn d mj_m24 86 ls st M = mq_k0 d mj_m24 87 ls M (mj_lda (mj_lk ls 0) st) := mj_R0 (r := (.aload_n 0, 1, 0, 0, 0)) rfl rfl
theorem s24_87 {d : Nat} {ls : mj_L} {st : List Value} {M : mj_H} : mj_Rn d mj_m24 87 ls st M = mj_Rn d mj_m24 88 ls (.int 0 :: st) M := mj_R0 (r := (.iconst 0, 1, 0, 0, 0)) rfl rfl
theorem s24_88 {d : Nat} {ls : mj_L} {st : List Value} {M : mj_H} : mj_Rn d mj_m24 88 ls st M = mq_k4 d mj_m24 91 ls (mq_pf 8 5 0 st M) := (mj_R4 (r := (.putfield 38, 3, 8, 5, 16496)) rfl rfl).trans (congrArg (mq_k4 d mj_m24 91 ls) (mq_pf_eq rfl rfl))
theorem s24_91 {d : Nat} {ls : mj_L} {st : List Value} {M : mj_H} : mj_Rn d mj_m24 91 ls st M = mq_k0 d mj_m24 92 ls M (mj_lda (mj_lk ls 0) st) := mj_R0 (r := (.aload_n 0, 1, 0, 0, 0)) rfl rfl
theorem s24_92 {d : Nat} {ls : mj_L} {st : List Value} {M : mj_H} : mj_Rn d mj_m24 92 ls st M = mj_Rn d mj_m24 93 ls (.int (-1) :: st) M := mj_R0 (r := (.iconst (-1), 1, 0, 0, 0)) rfl rfl
theorem s24_93 {d : Nat} {ls : mj_L} {st : List Value} {M : mj_H} : mj_Rn d mj_m24 93 ls st M = mq_k4 d mj_m24 96 ls (mq_pf 8 6 0 st M) := (mj_R4 (r := (.putfield 42, 3, 8, 6, 16500)) rfl rfl).trans (congrArg (mq_k4 d mj_m24 96 ls) (mq_pf_eq rfl rfl))
theorem s24_96 {d : Nat} {ls : mj_L} {st : List Value} {M : mj_H} : mj_Rn d mj_m24 96 ls st M = mq_k6 M (mj_re none (.return_) st) := mj_R6 (r := (.return_, 1, 0, 0, 0)) rfl rfl
/- 25 PasskeyHouse$Credential.<init>()V -/
theorem s25_0 {d : Nat} {ls : mj_L} {st : List Value} {M : mj_H} : mj_Rn d mj_m25 0 ls st M = mq_k0 d mj_m25 1 ls M (mj_lda (mj_lk ls 0) st) := mj_R0 (r := (.aload_n 0, 1, 0, 0, 0)) rfl rfl
theorem s25_1 {d : Nat} {ls : mj_L} {st : List Value} {M : mj_H} : mj_Rn (d + 1) mj_m25 1 ls st M = mq_k0 (d + 1) mj_m25 4 ls M (mq_oi st) := mj_R5oe (r := (.invokespecial 3, 3, 6, 0, 8209)) rfl rfl rfl
theorem s25_4 {d : Nat} {ls : mj_L} {st : List Value} {M : mj_H} : mj_Rn d mj_m25 4 ls st M = mq_k6 M (mj_re none (.return_) st) := mj_R6 (r := (.return_, 1, 0, 0, 0)) rfl rfl
/- 23 PasskeyHouse$Key.<init>(LPasskeyHouse$Terms;LPasskeyHouse$Items;)V -/
theorem s23_0 {d : Nat} {ls : mj_L} {st : List Value} {M : mj_H} : mj_Rn d mj_m23 0 ls st M = mq_k0 d mj_m23 1 ls M (mj_lda (mj_lk ls 0) st) := mj_R0 (r := (.aload_n 0, 1, 0, 0, 0)) rfl rfl
theorem s23_1 {d : Nat} {ls : mj_L} {st : List Value} {M : mj_H} : mj_Rn (d + 1) mj_m23 1 ls st M = mq_k0 (d + 1) mj_m23 4 ls M (mq_oi st) := mj_R5oe (r := (.invokespecial 3, 3, 6, 0, 8194)) rfl rfl rfl
theorem s23_4 {d : Nat} {ls : mj_L} {st : List Value} {M : mj_H} : mj_Rn d mj_m23 4 ls st M = mq_k0 d mj_m23 5 ls M (mj_lda (mj_lk ls 0) st) := mj_R0 (r := (.aload_n 0, 1, 0, 0, 0)) rfl rfl
theorem s23_5 {d : Nat} {ls : mj_L} {st : List Value} {M : mj_H} : mj_Rn d mj_m23 5 ls st M = mq_k0 d mj_m23 6 ls M (mj_lda (mj_lk ls 1) st) := mj_R0 (r := (.aload_n 1, 1, 0, 0, 0)) rfl rfl
theorem s23_6 {d : Nat} {ls : mj_L} {st : List Value} {M : mj_H} : mj_Rn d mj_m23 6 ls st M = mq_k4 d mj_m23 9 ls (mq_pf 5 0 2 st M) := (mj_R4 (r := (.putfield 9, 3, 5, 0, 16596)) rfl rfl).trans (congrArg (mq_k4 d mj_m23 9 ls) (mq_pf_eq rfl rfl))
theorem s23_9 {d : Nat} {ls : mj_L} {st : List Value} {M : mj_H} : mj_Rn d mj_m23 9 ls st M = mq_k0 d mj_m23 10 ls M (mj_lda (mj_lk ls 0) st) := mj_R0 (r := (.aload_n 0, 1, 0, 0, 0)) rfl rfl
theorem s23_10 {d : Nat} {ls : mj_L} {st : List Value} {M : mj_H} : mj_Rn d mj_m23 10 ls st M = mq_k0 d mj_m23 11 ls M (mj_lda (mj_lk ls 2) st) := mj_R0 (r := (.aload_n 2, 1, 0, 0, 0)) rfl rfl
theorem s23_11 {d : Nat} {ls : mj_L} {st : List Value} {M : mj_H} : mj_Rn d mj_m23 11 ls st M = mq_k4 d mj_m23 14 ls (mq_pf 5 1 2 st M) := (mj_R4 (r := (.putfield 15, 3, 5, 1, 16598)) rfl rfl).trans (congrArg (mq_k4 d mj_m23 14 ls) (mq_pf_eq rfl rfl))
theorem s23_14 {d : Nat} {ls : mj_L} {st : List Value} {M : mj_H} : mj_Rn d mj_m23 14 ls st M = mq_k0 d mj_m23 15 ls M (mj_lda (mj_lk ls 0) st) := mj_R0 (r := (.aload_n 0, 1, 0, 0, 0)) rfl rfl
theorem s23_15 {d : Nat} {ls : mj_L} {st : List Value} {M : mj_H} : mj_Rn d mj_m23 15 ls st M = mq_k4 d mj_m23 18 ls (mj_hw (.new 19, 3, 8, 0, 8195) st M) := mj_R4 (r := (.new 19, 3, 8, 0, 8195)) rfl rfl
theorem s23_18 {d : Nat} {ls : mj_L} {st : List Value} {M : mj_H} : mj_Rn d mj_m23 18 ls st M = mq_k0 d mj_m23 19 ls M (mj_pu .dup ls st) := mj_R0 (r := (.dup, 1, 0, 0, 0)) rfl rfl
theorem s23_19 {d : Nat} {ls : mj_L} {st : List Value} {M : mj_H} : mj_Rn (d + 1) mj_m23 19 ls st M = mq_k5a (d + 1) mj_m23 22 ls M 24 (mq_cb 4 0 8 st M) := mj_R5e (r := (.invokespecial 21, 3, 4, 24, 8197)) (z := mj_m24) rfl rfl (by decide) (by decide) rfl
theorem s23_22 {d : Nat} {ls : mj_L} {st : List Value} {M : mj_H} : mj_Rn d mj_m23 22 ls st M = mq_k4 d mj_m23 25 ls (mq_pf 5 2 2 st M) := (mj_R4 (r := (.putfield 22, 3, 5, 2, 16600)) rfl rfl).trans (congrArg (mq_k4 d mj_m23 25 ls) (mq_pf_eq rfl rfl))
theorem s23_25 {d : Nat} {ls : mj_L} {st : List Value} {M : mj_H} : mj_Rn d mj_m23 25 ls st M = mq_k0 d mj_m23 26 ls M (mj_lda (mj_lk ls 0) st) := mj_R0 (r := (.aload_n 0, 1, 0, 0, 0)) rfl rfl
theorem s23_26 {d : Nat} {ls : mj_L} {st : List Value} {M : mj_H} : mj_Rn d mj_m23 26 ls st M = mq_k4 d mj_m23 29 ls (mj_hw (.new 26, 3, 1, 0, 8296) st M) := mj_R4 (r := (.new 26, 3, 1, 0, 8296)) rfl rfl
theorem s23_29 {d : Nat} {ls : mj_L} {st : List Value} {M : mj_H} : mj_Rn d mj_m23 29 ls st M = mq_k0 d mj_m23 30 ls M (mj_pu .dup ls st) := mj_R0 (r := (.dup, 1, 0, 0, 0)) rfl rfl
theorem s23_30 {d : Nat} {ls : mj_L} {st : List Value} {M : mj_H} : mj_Rn d mj_m23 30 ls st M = mj_Rn d mj_m23 33 ls (.int 400 :: st) M := mj_R0 (r := (.sipush 400, 3, 0, 0, 0)) rfl rfl
theorem s23_33 {d : Nat} {ls : mj_L} {st : List Value} {M : mj_H} : mj_Rn (d + 1) mj_m23 33 ls st M = mq_k5a (d + 1) mj_m23 36 ls M 2 (mq_cb 4 1 1 st M) := mj_R5e (r := (.invokespecial 28, 3, 4, 2, 8297)) (z := mj_m2) rfl rfl (by decide) (by decide) rfl
theorem s23_36 {d : Nat} {ls : mj_L} {st : List Value} {M : mj_H} : mj_Rn d mj_m23 36 ls st M = mq_k4 d mj_m23 39 ls (mq_pf 5 3 2 st M) := (mj_R4 (r := (.putfield 31, 3, 5, 3, 16604)) rfl rfl).trans (congrArg (mq_k4 d mj_m23 39 ls) (mq_pf_eq rfl rfl))
theorem s23_39 {d : Nat} {ls : mj_L} {st : List Value} {M : mj_H} : mj_Rn d mj_m23 39 ls st M = mq_k0 d mj_m23 40 ls M (mj_lda (mj_lk ls 0) st) := mj_R0 (r := (.aload_n 0, 1, 0, 0, 0)) rfl rfl
theorem s23_40 {d : Nat} {ls : mj_L} {st : List Value} {M : mj_H} : mj_Rn d mj_m23 40 ls st M = mq_k4 d mj_m23 43 ls (mj_hw (.new 26, 3, 1, 0, 8296) st M) := mj_R4 (r := (.new 26, 3, 1, 0, 8296)) rfl rfl
theorem s23_43 {d : Nat} {ls : mj_L} {st : List Value} {M : mj_H} : mj_Rn d mj_m23 43 ls st M = mq_k0 d mj_m23 44 ls M (mj_pu .dup ls st) := mj_R0 (r := (.dup, 1, 0, 0, 0)) rfl rfl
theorem s23_44 {d : Nat} {ls : mj_L} {st : List Value} {M : mj_H} : mj_Rn d mj_m23 44 ls st M = mj_Rn d mj_m23 46 ls (.int 17 :: st) M := mj_R0 (r := (.bipush 17, 2, 0, 0, 0)) rfl rfl
theorem s23_46 {d : Nat} {ls : mj_L} {st : List Value} {M : mj_H} : mj_Rn (d + 1) mj_m23 46 ls st M = mq_k5a (d + 1) mj_m23 49 ls M 2 (mq_cb 4 1 1 st M) := mj_R5e (r := (.invokespecial 28, 3, 4, 2, 8297)) (z := mj_m2) rfl rfl (by decide) (by decide) rfl
theorem s23_49 {d : Nat} {ls : mj_L} {st : List Value} {M : mj_H} : mj_Rn d mj_m23 49 ls st M = mq_k4 d mj_m23 52 ls (mq_pf 5 4 2 st M) := (mj_R4 (r := (.putfield 35, 3, 5, 4, 16608)) rfl rfl).trans (congrArg (mq_k4 d mj_m23 52 ls) (mq_pf_eq rfl rfl))
theorem s23_52 {d : Nat} {ls : mj_L} {st : List Value} {M : mj_H} : mj_Rn d mj_m23 52 ls st M = mq_k6 M (mj_re none (.return_) st) := mj_R6 (r := (.return_, 1, 0, 0, 0)) rfl rfl
theorem c2 {d : Nat} {a0 : Nat} {x1 : Int32} {M : mj_H} : mj_V (d + 1) 2 [.ref a0, .int x1] M = mj_Rn d mj_m2 0 [(0, .ref a0), (1, .int x1)] [] M := mj_V_go rfl (Nat.le_of_ble_eq_true rfl)
theorem c24 {d : Nat} {a0 : Nat} {M : mj_H} : mj_V (d + 1) 24 [.ref a0] M = mj_Rn d mj_m24 0 [(0, .ref a0)] [] M := mj_V_go rfl (Nat.le_of_ble_eq_true rfl)
theorem c25 {d : Nat} {a0 : Nat} {M : mj_H} : mj_V (d + 1) 25 [.ref a0] M = mj_Rn d mj_m25 0 [(0, .ref a0)] [] M := mj_V_go rfl (Nat.le_of_ble_eq_true rfl)
theorem c23 {d : Nat} {a0 : Nat} {a1 : Nat} {a2 : Nat} {M : mj_H} : mj_V (d + 1) 23 [.ref a0, .ref a1, .ref a2] M = mj_Rn d mj_m23 0 [(0, .ref a0), (1, .ref a1), (2, .ref a2)] [] M := mj_V_go rfl (Nat.le_of_ble_eq_true rfl)
theorem ty_1 : mj_ty[1]? = some [.array .int, .int] := rfl
theorem df_1 : (mj_ty[1]?).map (·.map defaultValue) = some [.null, .int 0] := rfl
section NW
variable {d : Nat} {N P : mj_H}
theorem i_bytes {a n : Nat} (ha : N[a]? = some (1, [.null, .int 0])) (hE : mj_E ≤ a) (hn : n ≤ 1000) : mj_V (d + 2) 2 [.ref a, .int (nI n)] N = some (none, N.set a (1, [.ref N.length, .int 0]) ++ [(1000, List.replicate n (.int 0))]) := by
  have v0 := j_max (d := d) (x := nI n) (y := 0) (M := N)
  have n0 : ¬ nI n < 0 := nI_pos (by omega)
  rw [if_neg n0] at v0
  have hE' : ¬ a < 25 := by unfold mj_E at hE; omega
  have hcl : (nI n).toNatClampNeg = n := nI_clamp (by omega)
  have hl := mq_lt ha
  have h8 : n * 8 ≤ 536870912 := by omega
  have e0 : (N ++ [(1000, List.replicate n (Value.int 0))])[a]? = some (1, [.null, .int 0]) := by rw [List.getElem?_append_left hl]; exact ha
  have e1 : (N.set a (1, [.ref N.length, .int 0]) ++ [(1000, List.replicate n (Value.int 0))])[a]? = some (1, [.ref N.length, .int 0]) := by
    rw [List.getElem?_append_left (by simpa using hl), List.getElem?_set_self hl]
  have l0 : a < (N ++ [(1000, List.replicate n (Value.int 0))]).length := by simp; omega
  simp (disch := (first | omega | decide)) [c2, s2_0, s2_1, s2_4, s2_5, s2_6, s2_7, s2_10, s2_12, s2_15, s2_16, s2_17, s2_20, mq_k0s, mq_k1s, mq_k2s, mq_k4s, mq_k5s, mq_k5n, mq_k5as, mq_k6s, mj_pu, mj_lo, mj_br, mj_hr, mj_hw, mq_gf, mq_len, mq_al, mq_pf, mq_ok, mj_re, mq_lkm, mq_lkn, mj_ldi, mj_ldl, mj_lda, mj_ii, mj_ll, mj_li, mj_i1, ms_1, ms_2, f1_n, f1_i, f1_r, f1_u, f1_l, f2_n, f2_i, f2_r, f2_u, f2_l, mj_tg, mj_c1, mj_c2, mj_ar, mj_aw, mq_cb, mq_oi, mj_rm, Value.category, -getElem?_pos, List.getElem?_cons_zero, decide_eq_true, decide_eq_false, nl_lt, nl_le, ln_lt, ln_le, nl_eq, ln_eq, nl_add, ln_add, nl_sub, ln_mul, nI_sub, nI_mul, nI_add, nI_lt_iff, nI_le_iff, nI_inj, nI_num, mq_ix, nI_1, nl_mul, nl_div, v0, n0, hcl, h8, aty_i, e0, e1, l0, hl, mj_E, hE', narrow, List.getElem?_set]
  rw [List.set_append_left _ _ (by simpa using hl), List.set_set]
theorem i_cred {a : Nat} : mj_V (d + 2) 25 [.ref a] N = some (none, N) := by
  simp (disch := (first | omega | decide)) [c25, s25_0, s25_1, s25_4, mq_k0s, mq_k1s, mq_k2s, mq_k4s, mq_k5s, mq_k5n, mq_k5as, mq_k6s, mj_pu, mj_lo, mj_br, mj_hr, mj_hw, mq_gf, mq_len, mq_al, mq_pf, mq_ok, mj_re, mq_lkm, mq_lkn, mj_ldi, mj_ldl, mj_lda, mj_ii, mj_ll, mj_li, mj_i1, ms_1, ms_2, f1_n, f1_i, f1_r, f1_u, f1_l, f2_n, f2_i, f2_r, f2_u, f2_l, mj_tg, mj_c1, mj_c2, mj_ar, mj_aw, mq_cb, mq_oi, mj_rm, Value.category, -getElem?_pos, List.getElem?_cons_zero, decide_eq_true, decide_eq_false, nl_lt, nl_le, ln_lt, ln_le, nl_eq, ln_eq, nl_add, ln_add, nl_sub, ln_mul, nI_sub, nI_mul, nI_add, nI_lt_iff, nI_le_iff, nI_inj, nI_num, mq_ix, nI_1, nl_mul, nl_div]
theorem mx8_0 : mj_ix 0 8 = some 0 := rfl
theorem mx8_1 : mj_ix 1 8 = some 1 := rfl
theorem mx8_2 : mj_ix 2 8 = some 2 := rfl
theorem mx8_3 : mj_ix 3 8 = some 3 := rfl
theorem mx8_4 : mj_ix 4 8 = some 4 := rfl
theorem mx8_5 : mj_ix 5 8 = some 5 := rfl
theorem mx8_6 : mj_ix 6 8 = some 6 := rfl
theorem mx8_7 : mj_ix 7 8 = some 7 := rfl
theorem mx4_0 : mj_ix 0 4 = some 0 := rfl
theorem mx4_1 : mj_ix 1 4 = some 1 := rfl
theorem mx4_2 : mj_ix 2 4 = some 2 := rfl
theorem mx4_3 : mj_ix 3 4 = some 3 := rfl
theorem ty_2 : mj_ty[2]? = some [.int, .int, .int, .long, .int, .int] := rfl
def d8 : mj_C := (8, [.null, .null, .null, .null, .int 0, .int 0, .int 0, .int 0, .int 0, .int 0, .int 0, .int 0, .int 0, .int 0, .int 0])
def z0 (n : Nat) : mj_C := (1000, List.replicate n (.int 0))
def c0 : mj_C := (2, [.int 0, .int 0, .int 0, .long 0, .int 0, .int 0])
def s8 (a : Nat) (r c k m : Value) (l : Int32) : mj_C := (8, [.ref (a + 1), r, c, k, .int 0, .int 0, .int l, .int 0, .int 0, .int 0, .int 0, .int 0, .int 0, .int 0, .int 0])
theorem ap_at (X : mj_H) (k : Nat) : (P ++ X)[P.length + k]? = X[k]? := by
  rw [List.getElem?_append_right (by omega)]
  congr 1
  omega
theorem ap_set (X : mj_H) (k : Nat) (q : mj_C) : (P ++ X).set (P.length + k) q = P ++ X.set k q := by
  rw [List.set_append_right _ _ (by omega)]
  congr 2
  omega
theorem ap_len (X : mj_H) : (P ++ X).length = P.length + X.length := List.length_append
/-- a row of bytes is made behind all cells -/
theorem i_bytesA {X : mj_H} {k n : Nat} (hP : 25 ≤ P.length) (hk : X[k]? = some (1, [.null, .int 0])) (hn : n ≤ 1000) : mj_V (d + 2) 2 [.ref (P.length + k), .int (nI n)] (P ++ X) = some (none, P ++ (X.set k (1, [.ref (P.length + X.length), .int 0]) ++ [z0 n])) := by
  have h := i_bytes (d := d) (N := P ++ X) (a := P.length + k) (n := n) (by rw [ap_at]; exact hk) (by unfold mj_E; omega) hn
  rw [ap_set, ap_len, List.append_assoc] at h
  exact h
def sblk (a : Nat) : mj_H := [(8, [.ref (a + 1), .ref (a + 3), .ref (a + 5), .ref (a + 14), .int 0, .int 0, .int (-1), .int 0, .int 0, .int 0, .int 0, .int 0, .int 0, .int 0, .int 0]), (1, [.ref (a + 2), .int 0]), z0 512, (1, [.ref (a + 4), .int 0]), z0 24, (1007, [.ref (a + 6), .ref (a + 7), .ref (a + 8), .ref (a + 9), .ref (a + 10), .ref (a + 11), .ref (a + 12), .ref (a + 13)]), c0, c0, c0, c0, c0, c0, c0, c0, c0]
theorem i_store (hP : 25 ≤ P.length) : mj_V (d + 3) 24 [.ref P.length] (P ++ [d8]) = some (none, P ++ sblk P.length) := by
  have hh : ¬ P.length < 25 := by omega
  have g0 : ∀ (q : mj_C) (X : mj_H), (P ++ q :: X)[P.length]? = some q := fun q X => by rw [List.getElem?_append_right (Nat.le_refl _)]; simp
  have g1 : ∀ (q r : mj_C) (X : mj_H), (P ++ q :: X).set P.length r = P ++ r :: X := fun q r X => by rw [List.set_append_right _ _ (Nat.le_refl _)]; simp
  have gk : ∀ (X : mj_H) (k : Nat), (P ++ X)[P.length + k]? = X[k]? := fun X k => ap_at X k
  have gs : ∀ (X : mj_H) (k : Nat) (q : mj_C), (P ++ X).set (P.length + k) q = P ++ X.set k q := fun X k q => ap_set X k q
  have b1 := i_bytesA (d := d) (P := P) (X := [d8, (1, [.null, .int 0])]) (k := 1) (n := 512) hP rfl (by omega)
  have b2 := i_bytesA (d := d) (P := P) (X := [(8, [.ref (P.length + 1), .null, .null, .null, .int 0, .int 0, .int 0, .int 0, .int 0, .int 0, .int 0, .int 0, .int 0, .int 0, .int 0]), (1, [.ref (P.length + 2), .int 0]), z0 512, (1, [.null, .int 0])]) (k := 3) (n := 24) hP rfl (by omega)
  rw [show nI 512 = 512 from rfl] at b1
  rw [show nI 24 = 24 from rfl] at b2
  have cr := fun (a : Nat) (N : mj_H) => i_cred (d := d) (a := a) (N := N)
  have hk : ∀ k, ¬ P.length + k < 25 := fun k => by omega
  simp only [List.set_cons_succ, List.set_cons_zero, List.length_cons, List.length_nil, List.cons_append, List.nil_append, d8] at b1 b2
  have l5 : 5 ≤ P.length := by omega
  have l6 : 6 ≤ P.length := by omega
  have l7 : 7 ≤ P.length := by omega
  have l8 : 8 ≤ P.length := by omega
  have l9 : 9 ≤ P.length := by omega
  have l10 : 10 ≤ P.length := by omega
  have l11 : 11 ≤ P.length := by omega
  have l12 : 12 ≤ P.length := by omega
  have l13 : 13 ≤ P.length := by omega
  have l14 : 14 ≤ P.length := by omega
  have l15 : 15 ≤ P.length := by omega
  have l16 : 16 ≤ P.length := by omega
  have l17 : 17 ≤ P.length := by omega
  have l18 : 18 ≤ P.length := by omega
  have l19 : 19 ≤ P.length := by omega
  have l20 : 20 ≤ P.length := by omega
  have a8 : (8 : Int32).toNatClampNeg = 8 := rfl
  simp (disch := (first | omega | decide)) [c24, s24_0, s24_1, s24_4, s24_5, s24_8, s24_9, s24_12, s24_15, s24_18, s24_19, s24_22, s24_23, s24_25, s24_28, s24_31, s24_32, s24_34, s24_37, s24_40, s24_41, s24_42, s24_43, s24_44, s24_47, s24_48, s24_51, s24_52, s24_55, s24_56, s24_59, s24_60, s24_63, s24_64, s24_67, s24_70, s24_71, s24_74, s24_75, s24_78, s24_81, s24_82, s24_83, s24_86, s24_87, s24_88, s24_91, s24_92, s24_93, s24_96, mq_k0s, mq_k1s, mq_k2s, mq_k4s, mq_k5s, mq_k5n, mq_k5as, mq_k6s, mj_pu, mj_lo, mj_br, mj_hr, mj_hw, mq_gf, mq_len, mq_al, mq_pf, mq_ok, mj_re, mq_lkm, mq_lkn, mj_ldi, mj_ldl, mj_lda, mj_ii, mj_ll, mj_li, mj_i1, ms_1, ms_2, f1_n, f1_i, f1_r, f1_u, f1_l, f2_n, f2_i, f2_r, f2_u, f2_l, mj_tg, mj_c1, mj_c2, mj_ar, mj_aw, mq_cb, mq_oi, mj_rm, Value.category, -getElem?_pos, List.getElem?_cons_zero, decide_eq_true, decide_eq_false, nl_lt, nl_le, ln_lt, ln_le, nl_eq, ln_eq, nl_add, ln_add, nl_sub, ln_mul, nI_sub, nI_mul, nI_add, nI_lt_iff, nI_le_iff, nI_inj, nI_num, mq_ix, nI_1, nl_mul, nl_div, g0, g1, hh, mj_E, ty_1, ty_2, aty_i, defaultValue, narrow, narrow_b0, d8, b1, b2, cr, gk, gs, hk, a8, cl_len, ty7, sblk, c0, l5, l6, l7, l8, l9, l10, l11, l12, l13, l14, l15, l16, l17, l18, l19, l20, mx8_0, mx8_1, mx8_2, mx8_3, mx8_4, mx8_5, mx8_6, mx8_7]
end NW
end
/- a1.new2 -/
section
set_option maxRecDepth 512
/-! Class: constructors of keys and parties. -/
/- 211 PasskeyHouse$Party.<init>()V -/
theorem s211_0 {d : Nat} {ls : mj_L} {st : List Value} {M : mj_H} : mj_Rn d mj_m211 0 ls st M = mq_k0 d mj_m211 1 ls M (mj_lda (mj_lk ls 0) st) := mj_R0 (r := (.aload_n 0, 1, 0, 0, 0)) rfl rfl
theorem s211_1 {d : Nat} {ls : mj_L} {st : List Value} {M : mj_H} : mj_Rn (d + 1) mj_m211 1 ls st M = mq_k0 (d + 1) mj_m211 4 ls M (mq_oi st) := mj_R5oe (r := (.invokespecial 3, 3, 6, 0, 24615)) rfl rfl rfl
theorem s211_4 {d : Nat} {ls : mj_L} {st : List Value} {M : mj_H} : mj_Rn d mj_m211 4 ls st M = mq_k0 d mj_m211 5 ls M (mj_lda (mj_lk ls 0) st) := mj_R0 (r := (.aload_n 0, 1, 0, 0, 0)) rfl rfl
theorem s211_5 {d : Nat} {ls : mj_L} {st : List Value} {M : mj_H} : mj_Rn d mj_m211 5 ls st M = mq_k4 d mj_m211 8 ls (mj_hw (.new 9, 3, 1, 0, 24616) st M) := mj_R4 (r := (.new 9, 3, 1, 0, 24616)) rfl rfl
theorem s211_8 {d : Nat} {ls : mj_L} {st : List Value} {M : mj_H} : mj_Rn d mj_m211 8 ls st M = mq_k0 d mj_m211 9 ls M (mj_pu .dup ls st) := mj_R0 (r := (.dup, 1, 0, 0, 0)) rfl rfl
theorem s211_9 {d : Nat} {ls : mj_L} {st : List Value} {M : mj_H} : mj_Rn d mj_m211 9 ls st M = mj_Rn d mj_m211 11 ls (.int 40 :: st) M := mj_R0 (r := (.bipush 40, 2, 0, 0, 0)) rfl rfl
theorem s211_11 {d : Nat} {ls : mj_L} {st : List Value} {M : mj_H} : mj_Rn (d + 1) mj_m211 11 ls st M = mq_k5a (d + 1) mj_m211 14 ls M 2 (mq_cb 4 1 1 st M) := mj_R5e (r := (.invokespecial 11, 3, 4, 2, 24617)) (z := mj_m2) rfl rfl (by decide) (by decide) rfl
theorem s211_14 {d : Nat} {ls : mj_L} {st : List Value} {M : mj_H} : mj_Rn d mj_m211 14 ls st M = mq_k4 d mj_m211 17 ls (mq_pf 7 0 2 st M) := (mj_R4 (r := (.putfield 14, 3, 7, 0, 49358)) rfl rfl).trans (congrArg (mq_k4 d mj_m211 17 ls) (mq_pf_eq rfl rfl))
theorem s211_17 {d : Nat} {ls : mj_L} {st : List Value} {M : mj_H} : mj_Rn d mj_m211 17 ls st M = mq_k0 d mj_m211 18 ls M (mj_lda (mj_lk ls 0) st) := mj_R0 (r := (.aload_n 0, 1, 0, 0, 0)) rfl rfl
theorem s211_18 {d : Nat} {ls : mj_L} {st : List Value} {M : mj_H} : mj_Rn d mj_m211 18 ls st M = mq_k4 d mj_m211 21 ls (mj_hw (.new 9, 3, 1, 0, 24616) st M) := mj_R4 (r := (.new 9, 3, 1, 0, 24616)) rfl rfl
theorem s211_21 {d : Nat} {ls : mj_L} {st : List Value} {M : mj_H} : mj_Rn d mj_m211 21 ls st M = mq_k0 d mj_m211 22 ls M (mj_pu .dup ls st) := mj_R0 (r := (.dup, 1, 0, 0, 0)) rfl rfl
theorem s211_22 {d : Nat} {ls : mj_L} {st : List Value} {M : mj_H} : mj_Rn d mj_m211 22 ls st M = mj_Rn d mj_m211 24 ls (.int 24 :: st) M := mj_R0 (r := (.bipush 24, 2, 0, 0, 0)) rfl rfl
theorem s211_24 {d : Nat} {ls : mj_L} {st : List Value} {M : mj_H} : mj_Rn (d + 1) mj_m211 24 ls st M = mq_k5a (d + 1) mj_m211 27 ls M 2 (mq_cb 4 1 1 st M) := mj_R5e (r := (.invokespecial 11, 3, 4, 2, 24617)) (z := mj_m2) rfl rfl (by decide) (by decide) rfl
theorem s211_27 {d : Nat} {ls : mj_L} {st : List Value} {M : mj_H} : mj_Rn d mj_m211 27 ls st M = mq_k4 d mj_m211 30 ls (mq_pf 7 1 2 st M) := (mj_R4 (r := (.putfield 20, 3, 7, 1, 49362)) rfl rfl).trans (congrArg (mq_k4 d mj_m211 30 ls) (mq_pf_eq rfl rfl))
theorem s211_30 {d : Nat} {ls : mj_L} {st : List Value} {M : mj_H} : mj_Rn d mj_m211 30 ls st M = mq_k0 d mj_m211 31 ls M (mj_lda (mj_lk ls 0) st) := mj_R0 (r := (.aload_n 0, 1, 0, 0, 0)) rfl rfl
theorem s211_31 {d : Nat} {ls : mj_L} {st : List Value} {M : mj_H} : mj_Rn d mj_m211 31 ls st M = mj_Rn d mj_m211 32 ls (.int 4 :: st) M := mj_R0 (r := (.iconst 4, 1, 0, 0, 0)) rfl rfl
theorem s211_32 {d : Nat} {ls : mj_L} {st : List Value} {M : mj_H} : mj_Rn d mj_m211 32 ls st M = mq_k4 d mj_m211 35 ls (mj_hw (.anewarray 23, 3, 1008, 0, 24618) st M) := mj_R4 (r := (.anewarray 23, 3, 1008, 0, 24618)) rfl rfl
theorem s211_35 {d : Nat} {ls : mj_L} {st : List Value} {M : mj_H} : mj_Rn d mj_m211 35 ls st M = mq_k4 d mj_m211 38 ls (mq_pf 7 2 2 st M) := (mj_R4 (r := (.putfield 25, 3, 7, 2, 49366)) rfl rfl).trans (congrArg (mq_k4 d mj_m211 38 ls) (mq_pf_eq rfl rfl))
theorem s211_38 {d : Nat} {ls : mj_L} {st : List Value} {M : mj_H} : mj_Rn d mj_m211 38 ls st M = mj_Rn d mj_m211 39 ls (.int 0 :: st) M := mj_R0 (r := (.iconst 0, 1, 0, 0, 0)) rfl rfl
theorem s211_39 {d : Nat} {ls : mj_L} {st : List Value} {M : mj_H} : mj_Rn d mj_m211 39 ls st M = mq_k1 d mj_m211 40 M (mj_lo 2 (.istore 1) ls st) := (mj_R1 (r := (.istore_n 1, 1, 0, 0, 0)) rfl rfl).trans (congrArg (mq_k1 d mj_m211 40 M) (mq_sti (k := 1)))
theorem s211_40 {d : Nat} {ls : mj_L} {st : List Value} {M : mj_H} : mj_Rn d mj_m211 40 ls st M = mq_k0 d mj_m211 41 ls M (mj_ldi (mj_lk ls 1) st) := mj_R0 (r := (.iload_n 1, 1, 0, 0, 0)) rfl rfl
theorem s211_41 {d : Nat} {ls : mj_L} {st : List Value} {M : mj_H} : mj_Rn d mj_m211 41 ls st M = mq_k0 d mj_m211 42 ls M (mj_lda (mj_lk ls 0) st) := mj_R0 (r := (.aload_n 0, 1, 0, 0, 0)) rfl rfl
theorem s211_42 {d : Nat} {ls : mj_L} {st : List Value} {M : mj_H} : mj_Rn d mj_m211 42 ls st M = mq_k0 d mj_m211 45 ls M (mq_gf 7 2 st M) := (mj_R3 (r := (.getfield 25, 3, 7, 2, 49366)) rfl rfl).trans (congrArg (mq_k0 d mj_m211 45 ls M) mq_gf_eq)
theorem s211_45 {d : Nat} {ls : mj_L} {st : List Value} {M : mj_H} : mj_Rn d mj_m211 45 ls st M = mq_k0 d mj_m211 46 ls M (mq_len st M) := (mj_R3 (r := (.arraylength, 1, 0, 0, 0)) rfl rfl).trans (congrArg (mq_k0 d mj_m211 46 ls M) mq_len_eq)
theorem s211_46 {d : Nat} {ls : mj_L} {st : List Value} {M : mj_H} : mj_Rn d mj_m211 46 ls st M = mq_k2 d mj_m211 ls M (mj_br (.if_icmp .ge 22) 46 st) := mj_R2 (r := (.if_icmp .ge 22, 3, 0, 0, 0)) rfl rfl
theorem s211_49 {d : Nat} {ls : mj_L} {st : List Value} {M : mj_H} : mj_Rn d mj_m211 49 ls st M = mq_k0 d mj_m211 50 ls M (mj_lda (mj_lk ls 0) st) := mj_R0 (r := (.aload_n 0, 1, 0, 0, 0)) rfl rfl
theorem s211_50 {d : Nat} {ls : mj_L} {st : List Value} {M : mj_H} : mj_Rn d mj_m211 50 ls st M = mq_k0 d mj_m211 53 ls M (mq_gf 7 2 st M) := (mj_R3 (r := (.getfield 25, 3, 7, 2, 49366)) rfl rfl).trans (congrArg (mq_k0 d mj_m211 53 ls M) mq_gf_eq)
theorem s211_53 {d : Nat} {ls : mj_L} {st : List Value} {M : mj_H} : mj_Rn d mj_m211 53 ls st M = mq_k0 d mj_m211 54 ls M (mj_ldi (mj_lk ls 1) st) := mj_R0 (r := (.iload_n 1, 1, 0, 0, 0)) rfl rfl
theorem s211_54 {d : Nat} {ls : mj_L} {st : List Value} {M : mj_H} : mj_Rn d mj_m211 54 ls st M = mq_k4 d mj_m211 57 ls (mj_hw (.new 23, 3, 6, 0, 24618) st M) := mj_R4 (r := (.new 23, 3, 6, 0, 24618)) rfl rfl
theorem s211_57 {d : Nat} {ls : mj_L} {st : List Value} {M : mj_H} : mj_Rn d mj_m211 57 ls st M = mq_k0 d mj_m211 58 ls M (mj_pu .dup ls st) := mj_R0 (r := (.dup, 1, 0, 0, 0)) rfl rfl
theorem s211_58 {d : Nat} {ls : mj_L} {st : List Value} {M : mj_H} : mj_Rn (d + 1) mj_m211 58 ls st M = mq_k5a (d + 1) mj_m211 61 ls M 212 (mq_cb 5 0 6 st M) := mj_R5e (r := (.invokespecial 29, 3, 5, 212, 24621)) (z := mj_m212) rfl rfl (by decide) (by decide) rfl
theorem s211_61 {d : Nat} {ls : mj_L} {st : List Value} {M : mj_H} : mj_Rn d mj_m211 61 ls st M = mq_k4 d mj_m211 62 ls (mj_hw (.aastore, 1, 0, 0, 0) st M) := mj_R4 (r := (.aastore, 1, 0, 0, 0)) rfl rfl
theorem s211_62 {d : Nat} {ls : mj_L} {st : List Value} {M : mj_H} : mj_Rn d mj_m211 62 ls st M = mq_k1 d mj_m211 65 M (mj_lo 2 (.iinc 1 1) ls st) := mj_R1 (r := (.iinc 1 1, 3, 0, 0, 0)) rfl rfl
theorem s211_65 {d : Nat} {ls : mj_L} {st : List Value} {M : mj_H} : mj_Rn d mj_m211 65 ls st M = mj_Rn d mj_m211 40 ls st M := mj_R2 (r := (.goto (-25), 3, 0, 0, 0)) rfl rfl
theorem s211_68 {d : Nat} {ls : mj_L} {st : List Value} {M : mj_H} : mj_Rn d mj_m211 68 ls st M = mq_k0 d mj_m211 69 ls M (mj_lda (mj_lk ls 0) st) := mj_R0 (r := (.aload_n 0, 1, 0, 0, 0)) rfl rfl
theorem s211_69 {d : Nat} {ls : mj_L} {st : List Value} {M : mj_H} : mj_Rn d mj_m211 69 ls st M = mj_Rn d mj_m211 71 ls (.int 8 :: st) M := mj_R0 (r := (.bipush 8, 2, 0, 0, 0)) rfl rfl
theorem s211_71 {d : Nat} {ls : mj_L} {st : List Value} {M : mj_H} : mj_Rn d mj_m211 71 ls st M = mq_k4 d mj_m211 74 ls (mj_hw (.anewarray 30, 3, 1009, 0, 24646) st M) := mj_R4 (r := (.anewarray 30, 3, 1009, 0, 24646)) rfl rfl
theorem s211_74 {d : Nat} {ls : mj_L} {st : List Value} {M : mj_H} : mj_Rn d mj_m211 74 ls st M = mq_k4 d mj_m211 77 ls (mq_pf 7 3 2 st M) := (mj_R4 (r := (.putfield 32, 3, 7, 3, 49368)) rfl rfl).trans (congrArg (mq_k4 d mj_m211 77 ls) (mq_pf_eq rfl rfl))
theorem s211_77 {d : Nat} {ls : mj_L} {st : List Value} {M : mj_H} : mj_Rn d mj_m211 77 ls st M = mj_Rn d mj_m211 78 ls (.int 0 :: st) M := mj_R0 (r := (.iconst 0, 1, 0, 0, 0)) rfl rfl
theorem s211_78 {d : Nat} {ls : mj_L} {st : List Value} {M : mj_H} : mj_Rn d mj_m211 78 ls st M = mq_k1 d mj_m211 79 M (mj_lo 2 (.istore 1) ls st) := (mj_R1 (r := (.istore_n 1, 1, 0, 0, 0)) rfl rfl).trans (congrArg (mq_k1 d mj_m211 79 M) (mq_sti (k := 1)))
theorem s211_79 {d : Nat} {ls : mj_L} {st : List Value} {M : mj_H} : mj_Rn d mj_m211 79 ls st M = mq_k0 d mj_m211 80 ls M (mj_ldi (mj_lk ls 1) st) := mj_R0 (r := (.iload_n 1, 1, 0, 0, 0)) rfl rfl
theorem s211_80 {d : Nat} {ls : mj_L} {st : List Value} {M : mj_H} : mj_Rn d mj_m211 80 ls st M = mq_k0 d mj_m211 81 ls M (mj_lda (mj_lk ls 0) st) := mj_R0 (r := (.aload_n 0, 1, 0, 0, 0)) rfl rfl
theorem s211_81 {d : Nat} {ls : mj_L} {st : List Value} {M : mj_H} : mj_Rn d mj_m211 81 ls st M = mq_k0 d mj_m211 84 ls M (mq_gf 7 3 st M) := (mj_R3 (r := (.getfield 32, 3, 7, 3, 49368)) rfl rfl).trans (congrArg (mq_k0 d mj_m211 84 ls M) mq_gf_eq)
theorem s211_84 {d : Nat} {ls : mj_L} {st : List Value} {M : mj_H} : mj_Rn d mj_m211 84 ls st M = mq_k0 d mj_m211 85 ls M (mq_len st M) := (mj_R3 (r := (.arraylength, 1, 0, 0, 0)) rfl rfl).trans (congrArg (mq_k0 d mj_m211 85 ls M) mq_len_eq)
theorem s211_85 {d : Nat} {ls : mj_L} {st : List Value} {M : mj_H} : mj_Rn d mj_m211 85 ls st M = mq_k2 d mj_m211 ls M (mj_br (.if_icmp .ge 22) 85 st) := mj_R2 (r := (.if_icmp .ge 22, 3, 0, 0, 0)) rfl rfl
theorem s211_88 {d : Nat} {ls : mj_L} {st : List Value} {M : mj_H} : mj_Rn d mj_m211 88 ls st M = mq_k0 d mj_m211 89 ls M (mj_lda (mj_lk ls 0) st) := mj_R0 (r := (.aload_n 0, 1, 0, 0, 0)) rfl rfl
theorem s211_89 {d : Nat} {ls : mj_L} {st : List Value} {M : mj_H} : mj_Rn d mj_m211 89 ls st M = mq_k0 d mj_m211 92 ls M (mq_gf 7 3 st M) := (mj_R3 (r := (.getfield 32, 3, 7, 3, 49368)) rfl rfl).trans (congrArg (mq_k0 d mj_m211 92 ls M) mq_gf_eq)
theorem s211_92 {d : Nat} {ls : mj_L} {st : List Value} {M : mj_H} : mj_Rn d mj_m211 92 ls st M = mq_k0 d mj_m211 93 ls M (mj_ldi (mj_lk ls 1) st) := mj_R0 (r := (.iload_n 1, 1, 0, 0, 0)) rfl rfl
theorem s211_93 {d : Nat} {ls : mj_L} {st : List Value} {M : mj_H} : mj_Rn d mj_m211 93 ls st M = mq_k4 d mj_m211 96 ls (mj_hw (.new 30, 3, 0, 0, 24646) st M) := mj_R4 (r := (.new 30, 3, 0, 0, 24646)) rfl rfl
theorem s211_96 {d : Nat} {ls : mj_L} {st : List Value} {M : mj_H} : mj_Rn d mj_m211 96 ls st M = mq_k0 d mj_m211 97 ls M (mj_pu .dup ls st) := mj_R0 (r := (.dup, 1, 0, 0, 0)) rfl rfl
theorem s211_97 {d : Nat} {ls : mj_L} {st : List Value} {M : mj_H} : mj_Rn (d + 1) mj_m211 97 ls st M = mq_k5a (d + 1) mj_m211 100 ls M 213 (mq_cb 5 0 0 st M) := mj_R5e (r := (.invokespecial 36, 3, 5, 213, 24649)) (z := mj_m213) rfl rfl (by decide) (by decide) rfl
theorem s211_100 {d : Nat} {ls : mj_L} {st : List Value} {M : mj_H} : mj_Rn d mj_m211 100 ls st M = mq_k4 d mj_m211 101 ls (mj_hw (.aastore, 1, 0, 0, 0) st M) := mj_R4 (r := (.aastore, 1, 0, 0, 0)) rfl rfl
theorem s211_101 {d : Nat} {ls : mj_L} {st : List Value} {M : mj_H} : mj_Rn d mj_m211 101 ls st M = mq_k1 d mj_m211 104 M (mj_lo 2 (.iinc 1 1) ls st) := mj_R1 (r := (.iinc 1 1, 3, 0, 0, 0)) rfl rfl
theorem s211_104 {d : Nat} {ls : mj_L} {st : List Value} {M : mj_H} : mj_Rn d mj_m211 104 ls st M = mj_Rn d mj_m211 79 ls st M := mj_R2 (r := (.goto (-25), 3, 0, 0, 0)) rfl rfl
theorem s211_107 {d : Nat} {ls : mj_L} {st : List Value} {M : mj_H} : mj_Rn d mj_m211 107 ls st M = mq_k6 M (mj_re none (.return_) st) := mj_R6 (r := (.return_, 1, 0, 0, 0)) rfl rfl
/- 212 PasskeyHouse$Offer.<init>()V -/
theorem s212_0 {d : Nat} {ls : mj_L} {st : List Value} {M : mj_H} : mj_Rn d mj_m212 0 ls st M = mq_k0 d mj_m212 1 ls M (mj_lda (mj_lk ls 0) st) := mj_R0 (r := (.aload_n 0, 1, 0, 0, 0)) rfl rfl
theorem s212_1 {d : Nat} {ls : mj_L} {st : List Value} {M : mj_H} : mj_Rn (d + 1) mj_m212 1 ls st M = mq_k0 (d + 1) mj_m212 4 ls M (mq_oi st) := mj_R5oe (r := (.invokespecial 1, 3, 6, 0, 24624)) rfl rfl rfl
theorem s212_4 {d : Nat} {ls : mj_L} {st : List Value} {M : mj_H} : mj_Rn d mj_m212 4 ls st M = mq_k6 M (mj_re none (.return_) st) := mj_R6 (r := (.return_, 1, 0, 0, 0)) rfl rfl
/- 213 PasskeyHouse$Account.<init>()V -/
theorem s213_0 {d : Nat} {ls : mj_L} {st : List Value} {M : mj_H} : mj_Rn d mj_m213 0 ls st M = mq_k0 d mj_m213 1 ls M (mj_lda (mj_lk ls 0) st) := mj_R0 (r := (.aload_n 0, 1, 0, 0, 0)) rfl rfl
theorem s213_1 {d : Nat} {ls : mj_L} {st : List Value} {M : mj_H} : mj_Rn (d + 1) mj_m213 1 ls st M = mq_k0 (d + 1) mj_m213 4 ls M (mq_oi st) := mj_R5oe (r := (.invokespecial 3, 3, 6, 0, 24652)) rfl rfl rfl
theorem s213_4 {d : Nat} {ls : mj_L} {st : List Value} {M : mj_H} : mj_Rn d mj_m213 4 ls st M = mq_k6 M (mj_re none (.return_) st) := mj_R6 (r := (.return_, 1, 0, 0, 0)) rfl rfl
theorem c211 {d : Nat} {a0 : Nat} {M : mj_H} : mj_V (d + 1) 211 [.ref a0] M = mj_Rn d mj_m211 0 [(0, .ref a0)] [] M := mj_V_go rfl (Nat.le_of_ble_eq_true rfl)
theorem c212 {d : Nat} {a0 : Nat} {M : mj_H} : mj_V (d + 1) 212 [.ref a0] M = mj_Rn d mj_m212 0 [(0, .ref a0)] [] M := mj_V_go rfl (Nat.le_of_ble_eq_true rfl)
theorem c213 {d : Nat} {a0 : Nat} {M : mj_H} : mj_V (d + 1) 213 [.ref a0] M = mj_Rn d mj_m213 0 [(0, .ref a0)] [] M := mj_V_go rfl (Nat.le_of_ble_eq_true rfl)
section NW
variable {d : Nat} {N P : mj_H}
def d5 : mj_C := (5, [.null, .null, .null, .null, .null, .int 0, .int 0, .int 0, .int 0, .int 0, .int 0, .int 0, .int 0, .int 0, .int 0, .int 0])
def kblk (κ : Nat) : mj_H := (5, [.ref 30, .ref 36, .ref (κ + 1), .ref (κ + 16), .ref (κ + 18), .int 0, .int 0, .int 0, .int 0, .int 0, .int 0, .int 0, .int 0, .int 0, .int 0, .int 0]) :: (sblk (κ + 1) ++ [(1, [.ref (κ + 17), .int 0]), z0 400, (1, [.ref (κ + 19), .int 0]), z0 17])
theorem sblk_len (a : Nat) : (sblk a).length = 15 := rfl
theorem kblk_len (a : Nat) : (kblk a).length = 20 := rfl
theorem n_key (hP : 25 ≤ P.length) : mj_V (d + 4) 23 [.ref P.length, .ref 30, .ref 36] (P ++ [d5]) = some (none, P ++ kblk P.length) := by
  have hh : ¬ P.length < 25 := by omega
  have g0 : ∀ (q : mj_C) (X : mj_H), (P ++ q :: X)[P.length]? = some q := fun q X => by rw [List.getElem?_append_right (Nat.le_refl _)]; simp
  have g1 : ∀ (q r : mj_C) (X : mj_H), (P ++ q :: X).set P.length r = P ++ r :: X := fun q r X => by rw [List.set_append_right _ _ (Nat.le_refl _)]; simp
  have s1 := i_store (d := d) (P := P ++ [(5, [.ref 30, .ref 36, .null, .null, .null, .int 0, .int 0, .int 0, .int 0, .int 0, .int 0, .int 0, .int 0, .int 0, .int 0, .int 0])]) (by simp; omega)
  simp only [List.length_append, List.length_cons, List.length_nil, List.append_assoc, List.cons_append, List.nil_append, Nat.zero_add, d8] at s1
  have sl := sblk_len (P.length + 1)
  generalize hS : sblk (P.length + 1) = S at *
  let kc (a b : Value) : mj_C := (5, [.ref 30, .ref 36, .ref (P.length + 1), a, b, .int 0, .int 0, .int 0, .int 0, .int 0, .int 0, .int 0, .int 0, .int 0, .int 0, .int 0])
  have b1 := i_bytesA (d := d + 1) (P := P) (X := kc .null .null :: (S ++ [(1, [.null, .int 0])])) (k := 16) (n := 400) hP (by rw [List.getElem?_cons_succ, List.getElem?_append_right (by omega), sl]; rfl) (by omega)
  have e1 : (kc .null .null :: (S ++ [((1, [.null, .int 0]) : mj_C)])).set 16 (1, [.ref (P.length + (kc .null .null :: (S ++ [((1, [.null, .int 0]) : mj_C)])).length), .int 0]) = kc .null .null :: (S ++ [(1, [.ref (P.length + 17), .int 0])]) := by
    rw [List.set_cons_succ, List.set_append_right _ _ (by omega), sl]
    simp [sl]
  rw [e1] at b1
  have b2 := i_bytesA (d := d + 1) (P := P) (X := kc (.ref (P.length + 16)) .null :: (S ++ [(1, [.ref (P.length + 17), .int 0]), z0 400, (1, [.null, .int 0])])) (k := 18) (n := 17) hP (by rw [List.getElem?_cons_succ, List.getElem?_append_right (by omega), sl]; rfl) (by omega)
  have e2 : (kc (.ref (P.length + 16)) .null :: (S ++ [(1, [.ref (P.length + 17), .int 0]), z0 400, ((1, [.null, .int 0]) : mj_C)])).set 18 (1, [.ref (P.length + (kc (.ref (P.length + 16)) .null :: (S ++ [(1, [.ref (P.length + 17), .int 0]), z0 400, ((1, [.null, .int 0]) : mj_C)])).length), .int 0]) = kc (.ref (P.length + 16)) .null :: (S ++ [(1, [.ref (P.length + 17), .int 0]), z0 400, (1, [.ref (P.length + 19), .int 0])]) := by
    rw [List.set_cons_succ, List.set_append_right _ _ (by omega), sl]
    simp [sl]
  rw [e2] at b2
  rw [show nI 400 = 400 from rfl] at b1
  rw [show nI 17 = 17 from rfl] at b2
  simp only [kc, List.cons_append, List.nil_append, List.append_assoc] at b1 b2
  simp (disch := (first | omega | decide)) [c23, s23_0, s23_1, s23_4, s23_5, s23_6, s23_9, s23_10, s23_11, s23_14, s23_15, s23_18, s23_19, s23_22, s23_25, s23_26, s23_29, s23_30, s23_33, s23_36, s23_39, s23_40, s23_43, s23_44, s23_46, s23_49, s23_52, mq_k0s, mq_k1s, mq_k2s, mq_k4s, mq_k5s, mq_k5n, mq_k5as, mq_k6s, mj_pu, mj_lo, mj_br, mj_hr, mj_hw, mq_gf, mq_len, mq_al, mq_pf, mq_ok, mj_re, mq_lkm, mq_lkn, mj_ldi, mj_ldl, mj_lda, mj_ii, mj_ll, mj_li, mj_i1, ms_1, ms_2, f1_n, f1_i, f1_r, f1_u, f1_l, f2_n, f2_i, f2_r, f2_u, f2_l, mj_tg, mj_c1, mj_c2, mj_ar, mj_aw, mq_cb, mq_oi, mj_rm, Value.category, -getElem?_pos, List.getElem?_cons_zero, decide_eq_true, decide_eq_false, nl_lt, nl_le, ln_lt, ln_le, nl_eq, ln_eq, nl_add, ln_add, nl_sub, ln_mul, nI_sub, nI_mul, nI_add, nI_lt_iff, nI_le_iff, nI_inj, nI_num, mq_ix, nI_1, nl_mul, nl_div, g0, g1, hh, mj_E, ty_1, show mj_ty[8]? = some [(.object "PasskeyHouse$Bytes"), (.object "PasskeyHouse$Bytes"), (.array (.object "PasskeyHouse$Credential")), (.object "PasskeyHouse$Credential"), .boolean, .int, .int, .int, .int, .int, .int, .int, .int, .int, .int] from rfl, defaultValue, narrow, d5, s1, sl, b1, b2, kblk, hS, d8]
def d7 : mj_C := (7, [.null, .null, .null, .null, .int 0, .int 0, .int 0, .int 0])
def o0c : mj_C := (6, [.int 0, .long 0, .int 0, .int 0, .int 0])
def a0c : mj_C := (0, [.int 0, .int 0, .int 0, .int 0, .long 0, .int 0])
def pblk (π : Nat) : mj_H := [(7, [.ref (π + 1), .ref (π + 3), .ref (π + 5), .ref (π + 10), .int 0, .int 0, .int 0, .int 0]), (1, [.ref (π + 2), .int 0]), z0 40, (1, [.ref (π + 4), .int 0]), z0 24, (1008, [.ref (π + 6), .ref (π + 7), .ref (π + 8), .ref (π + 9)]), o0c, o0c, o0c, o0c, (1009, [.ref (π + 11), .ref (π + 12), .ref (π + 13), .ref (π + 14), .ref (π + 15), .ref (π + 16), .ref (π + 17), .ref (π + 18)]), a0c, a0c, a0c, a0c, a0c, a0c, a0c, a0c]
theorem i_offer {a : Nat} : mj_V (d + 2) 212 [.ref a] N = some (none, N) := by
  simp (disch := (first | omega | decide)) [c212, s212_0, s212_1, s212_4, mq_k0s, mq_k1s, mq_k2s, mq_k4s, mq_k5s, mq_k5n, mq_k5as, mq_k6s, mj_pu, mj_lo, mj_br, mj_hr, mj_hw, mq_gf, mq_len, mq_al, mq_pf, mq_ok, mj_re, mq_lkm, mq_lkn, mj_ldi, mj_ldl, mj_lda, mj_ii, mj_ll, mj_li, mj_i1, ms_1, ms_2, f1_n, f1_i, f1_r, f1_u, f1_l, f2_n, f2_i, f2_r, f2_u, f2_l, mj_tg, mj_c1, mj_c2, mj_ar, mj_aw, mq_cb, mq_oi, mj_rm, Value.category, -getElem?_pos, List.getElem?_cons_zero, decide_eq_true, decide_eq_false, nl_lt, nl_le, ln_lt, ln_le, nl_eq, ln_eq, nl_add, ln_add, nl_sub, ln_mul, nI_sub, nI_mul, nI_add, nI_lt_iff, nI_le_iff, nI_inj, nI_num, mq_ix, nI_1, nl_mul, nl_div]
theorem i_acc {a : Nat} : mj_V (d + 2) 213 [.ref a] N = some (none, N) := by
  simp (disch := (first | omega | decide)) [c213, s213_0, s213_1, s213_4, mq_k0s, mq_k1s, mq_k2s, mq_k4s, mq_k5s, mq_k5n, mq_k5as, mq_k6s, mj_pu, mj_lo, mj_br, mj_hr, mj_hw, mq_gf, mq_len, mq_al, mq_pf, mq_ok, mj_re, mq_lkm, mq_lkn, mj_ldi, mj_ldl, mj_lda, mj_ii, mj_ll, mj_li, mj_i1, ms_1, ms_2, f1_n, f1_i, f1_r, f1_u, f1_l, f2_n, f2_i, f2_r, f2_u, f2_l, mj_tg, mj_c1, mj_c2, mj_ar, mj_aw, mq_cb, mq_oi, mj_rm, Value.category, -getElem?_pos, List.getElem?_cons_zero, decide_eq_true, decide_eq_false, nl_lt, nl_le, ln_lt, ln_le, nl_eq, ln_eq, nl_add, ln_add, nl_sub, ln_mul, nI_sub, nI_mul, nI_add, nI_lt_iff, nI_le_iff, nI_inj, nI_num, mq_ix, nI_1, nl_mul, nl_div]
theorem i_party (hP : 25 ≤ P.length) : mj_V (d + 3) 211 [.ref P.length] (P ++ [d7]) = some (none, P ++ pblk P.length) := by
  have hh : ¬ P.length < 25 := by omega
  have g0 : ∀ (q : mj_C) (X : mj_H), (P ++ q :: X)[P.length]? = some q := fun q X => by rw [List.getElem?_append_right (Nat.le_refl _)]; simp
  have g1 : ∀ (q r : mj_C) (X : mj_H), (P ++ q :: X).set P.length r = P ++ r :: X := fun q r X => by rw [List.set_append_right _ _ (Nat.le_refl _)]; simp
  have gk : ∀ (X : mj_H) (k : Nat), (P ++ X)[P.length + k]? = X[k]? := fun X k => ap_at X k
  have gs : ∀ (X : mj_H) (k : Nat) (q : mj_C), (P ++ X).set (P.length + k) q = P ++ X.set k q := fun X k q => ap_set X k q
  have b1 := i_bytesA (d := d) (P := P) (X := [d7, (1, [.null, .int 0])]) (k := 1) (n := 40) hP rfl (by omega)
  have b2 := i_bytesA (d := d) (P := P) (X := [(7, [.ref (P.length + 1), .null, .null, .null, .int 0, .int 0, .int 0, .int 0]), (1, [.ref (P.length + 2), .int 0]), z0 40, (1, [.null, .int 0])]) (k := 3) (n := 24) hP rfl (by omega)
  rw [show nI 40 = 40 from rfl] at b1
  rw [show nI 24 = 24 from rfl] at b2
  have cr := fun (a : Nat) (N : mj_H) => i_offer (d := d) (a := a) (N := N)
  have ca := fun (a : Nat) (N : mj_H) => i_acc (d := d) (a := a) (N := N)
  have hk : ∀ k, ¬ P.length + k < 25 := fun k => by omega
  simp only [List.set_cons_succ, List.set_cons_zero, List.length_cons, List.length_nil, List.cons_append, List.nil_append, d7] at b1 b2
  have l1 : 1 ≤ P.length := by omega
  have l2 : 2 ≤ P.length := by omega
  have l3 : 3 ≤ P.length := by omega
  have l4 : 4 ≤ P.length := by omega
  have l5 : 5 ≤ P.length := by omega
  have l6 : 6 ≤ P.length := by omega
  have l7 : 7 ≤ P.length := by omega
  have l8 : 8 ≤ P.length := by omega
  have l9 : 9 ≤ P.length := by omega
  have l10 : 10 ≤ P.length := by omega
  have l11 : 11 ≤ P.length := by omega
  have l12 : 12 ≤ P.length := by omega
  have l13 : 13 ≤ P.length := by omega
  have l14 : 14 ≤ P.length := by omega
  have l15 : 15 ≤ P.length := by omega
  have l16 : 16 ≤ P.length := by omega
  have l17 : 17 ≤ P.length := by omega
  have l18 : 18 ≤ P.length := by omega
  have l19 : 19 ≤ P.length := by omega
  have l20 : 20 ≤ P.length := by omega
  have l21 : 21 ≤ P.length := by omega
  have l22 : 22 ≤ P.length := by omega
  have l23 : 23 ≤ P.length := by omega
  have l24 : 24 ≤ P.length := by omega
  have l25 : 25 ≤ P.length := by omega
  have a8 : (8 : Int32).toNatClampNeg = 8 := rfl
  have a4 : (4 : Int32).toNatClampNeg = 4 := rfl
  have t6 : mj_ty[6]? = some [.int, .long, .int, .int, .boolean] := rfl
  have t0 : mj_ty[0]? = some [.int, .int, .int, .int, .long, .int] := rfl
  simp (disch := (first | omega | decide)) [c211, s211_0, s211_1, s211_4, s211_5, s211_8, s211_9, s211_11, s211_14, s211_17, s211_18, s211_21, s211_22, s211_24, s211_27, s211_30, s211_31, s211_32, s211_35, s211_38, s211_39, s211_40, s211_41, s211_42, s211_45, s211_46, s211_49, s211_50, s211_53, s211_54, s211_57, s211_58, s211_61, s211_62, s211_65, s211_68, s211_69, s211_71, s211_74, s211_77, s211_78, s211_79, s211_80, s211_81, s211_84, s211_85, s211_88, s211_89, s211_92, s211_93, s211_96, s211_97, s211_100, s211_101, s211_104, s211_107, mq_k0s, mq_k1s, mq_k2s, mq_k4s, mq_k5s, mq_k5n, mq_k5as, mq_k6s, mj_pu, mj_lo, mj_br, mj_hr, mj_hw, mq_gf, mq_len, mq_al, mq_pf, mq_ok, mj_re, mq_lkm, mq_lkn, mj_ldi, mj_ldl, mj_lda, mj_ii, mj_ll, mj_li, mj_i1, ms_1, ms_2, f1_n, f1_i, f1_r, f1_u, f1_l, f2_n, f2_i, f2_r, f2_u, f2_l, mj_tg, mj_c1, mj_c2, mj_ar, mj_aw, mq_cb, mq_oi, mj_rm, Value.category, -getElem?_pos, List.getElem?_cons_zero, decide_eq_true, decide_eq_false, nl_lt, nl_le, ln_lt, ln_le, nl_eq, ln_eq, nl_add, ln_add, nl_sub, ln_mul, nI_sub, nI_mul, nI_add, nI_lt_iff, nI_le_iff, nI_inj, nI_num, mq_ix, nI_1, nl_mul, nl_div, g0, g1, hh, mj_E, ty_1, t6, t0, aty_i, defaultValue, narrow, narrow_b0, d7, b1, b2, cr, ca, gk, gs, hk, a8, a4, cl_len, ty8, ty9, pblk, o0c, a0c, l1, l2, l3, l4, l5, l6, l7, l8, l9, l10, l11, l12, l13, l14, l15, l16, l17, l18, l19, l20, l21, l22, l23, l24, l25, mx8_0, mx8_1, mx8_2, mx8_3, mx8_4, mx8_5, mx8_6, mx8_7, mx4_0, mx4_1, mx4_2, mx4_3]
end NW
end
/- a2.new3 -/
section
set_option maxRecDepth 512
/-! Class: the house: key and party. -/
/- 22 PasskeyHouse.key()I -/
theorem s22_0 {d : Nat} {ls : mj_L} {st : List Value} {M : mj_H} : mj_Rn d mj_m22 0 ls st M = mq_k0 d mj_m22 1 ls M (mj_lda (mj_lk ls 0) st) := mj_R0 (r := (.aload_n 0, 1, 0, 0, 0)) rfl rfl
theorem s22_1 {d : Nat} {ls : mj_L} {st : List Value} {M : mj_H} : mj_Rn d mj_m22 1 ls st M = mq_k0 d mj_m22 4 ls M (mq_gf 10 7 st M) := (mj_R3 (r := (.getfield 54, 3, 10, 7, 8500)) rfl rfl).trans (congrArg (mq_k0 d mj_m22 4 ls M) mq_gf_eq)
theorem s22_4 {d : Nat} {ls : mj_L} {st : List Value} {M : mj_H} : mj_Rn d mj_m22 4 ls st M = mq_k2 d mj_m22 ls M (mj_br (.ifCond .lt 15) 4 st) := mj_R2 (r := (.ifCond .lt 15, 3, 0, 0, 0)) rfl rfl
theorem s22_7 {d : Nat} {ls : mj_L} {st : List Value} {M : mj_H} : mj_Rn d mj_m22 7 ls st M = mq_k0 d mj_m22 8 ls M (mj_lda (mj_lk ls 0) st) := mj_R0 (r := (.aload_n 0, 1, 0, 0, 0)) rfl rfl
theorem s22_8 {d : Nat} {ls : mj_L} {st : List Value} {M : mj_H} : mj_Rn d mj_m22 8 ls st M = mq_k0 d mj_m22 11 ls M (mq_gf 10 7 st M) := (mj_R3 (r := (.getfield 54, 3, 10, 7, 8500)) rfl rfl).trans (congrArg (mq_k0 d mj_m22 11 ls M) mq_gf_eq)
theorem s22_11 {d : Nat} {ls : mj_L} {st : List Value} {M : mj_H} : mj_Rn d mj_m22 11 ls st M = mq_k0 d mj_m22 12 ls M (mj_lda (mj_lk ls 0) st) := mj_R0 (r := (.aload_n 0, 1, 0, 0, 0)) rfl rfl
theorem s22_12 {d : Nat} {ls : mj_L} {st : List Value} {M : mj_H} : mj_Rn d mj_m22 12 ls st M = mq_k0 d mj_m22 15 ls M (mq_gf 10 4 st M) := (mj_R3 (r := (.getfield 37, 3, 10, 4, 8494)) rfl rfl).trans (congrArg (mq_k0 d mj_m22 15 ls M) mq_gf_eq)
theorem s22_15 {d : Nat} {ls : mj_L} {st : List Value} {M : mj_H} : mj_Rn d mj_m22 15 ls st M = mq_k0 d mj_m22 16 ls M (mq_len st M) := (mj_R3 (r := (.arraylength, 1, 0, 0, 0)) rfl rfl).trans (congrArg (mq_k0 d mj_m22 16 ls M) mq_len_eq)
theorem s22_16 {d : Nat} {ls : mj_L} {st : List Value} {M : mj_H} : mj_Rn d mj_m22 16 ls st M = mq_k2 d mj_m22 ls M (mj_br (.if_icmp .lt 5) 16 st) := mj_R2 (r := (.if_icmp .lt 5, 3, 0, 0, 0)) rfl rfl
theorem s22_19 {d : Nat} {ls : mj_L} {st : List Value} {M : mj_H} : mj_Rn d mj_m22 19 ls st M = mj_Rn d mj_m22 20 ls (.int (-1) :: st) M := mj_R0 (r := (.iconst (-1), 1, 0, 0, 0)) rfl rfl
theorem s22_20 {d : Nat} {ls : mj_L} {st : List Value} {M : mj_H} : mj_Rn d mj_m22 20 ls st M = mq_k6 M (mj_re (some .int) (.ireturn) st) := mj_R6 (r := (.ireturn, 1, 0, 0, 0)) rfl rfl
theorem s22_21 {d : Nat} {ls : mj_L} {st : List Value} {M : mj_H} : mj_Rn d mj_m22 21 ls st M = mq_k4 d mj_m22 24 ls (mj_hw (.new 35, 3, 5, 0, 4209) st M) := mj_R4 (r := (.new 35, 3, 5, 0, 4209)) rfl rfl
theorem s22_24 {d : Nat} {ls : mj_L} {st : List Value} {M : mj_H} : mj_Rn d mj_m22 24 ls st M = mq_k0 d mj_m22 25 ls M (mj_pu .dup ls st) := mj_R0 (r := (.dup, 1, 0, 0, 0)) rfl rfl
theorem s22_25 {d : Nat} {ls : mj_L} {st : List Value} {M : mj_H} : mj_Rn d mj_m22 25 ls st M = mq_k0 d mj_m22 26 ls M (mj_lda (mj_lk ls 0) st) := mj_R0 (r := (.aload_n 0, 1, 0, 0, 0)) rfl rfl
theorem s22_26 {d : Nat} {ls : mj_L} {st : List Value} {M : mj_H} : mj_Rn d mj_m22 26 ls st M = mq_k0 d mj_m22 29 ls M (mq_gf 10 2 st M) := (mj_R3 (r := (.getfield 24, 3, 10, 2, 8490)) rfl rfl).trans (congrArg (mq_k0 d mj_m22 29 ls M) mq_gf_eq)
theorem s22_29 {d : Nat} {ls : mj_L} {st : List Value} {M : mj_H} : mj_Rn d mj_m22 29 ls st M = mq_k0 d mj_m22 30 ls M (mj_lda (mj_lk ls 0) st) := mj_R0 (r := (.aload_n 0, 1, 0, 0, 0)) rfl rfl
theorem s22_30 {d : Nat} {ls : mj_L} {st : List Value} {M : mj_H} : mj_Rn d mj_m22 30 ls st M = mq_k0 d mj_m22 33 ls M (mq_gf 10 3 st M) := (mj_R3 (r := (.getfield 31, 3, 10, 3, 8492)) rfl rfl).trans (congrArg (mq_k0 d mj_m22 33 ls M) mq_gf_eq)
theorem s22_33 {d : Nat} {ls : mj_L} {st : List Value} {M : mj_H} : mj_Rn (d + 1) mj_m22 33 ls st M = mq_k5a (d + 1) mj_m22 36 ls M 23 (mq_cb 4 2 5 st M) := mj_R5e (r := (.invokespecial 91, 3, 4, 23, 4335)) (z := mj_m23) rfl rfl (by decide) (by decide) rfl
theorem s22_36 {d : Nat} {ls : mj_L} {st : List Value} {M : mj_H} : mj_Rn d mj_m22 36 ls st M = mq_k1 d mj_m22 37 M (mj_lo 2 (.astore 1) ls st) := (mj_R1 (r := (.astore_n 1, 1, 0, 0, 0)) rfl rfl).trans (congrArg (mq_k1 d mj_m22 37 M) (mq_sta (k := 1)))
theorem s22_37 {d : Nat} {ls : mj_L} {st : List Value} {M : mj_H} : mj_Rn d mj_m22 37 ls st M = mq_k0 d mj_m22 38 ls M (mj_lda (mj_lk ls 1) st) := mj_R0 (r := (.aload_n 1, 1, 0, 0, 0)) rfl rfl
theorem s22_38 {d : Nat} {ls : mj_L} {st : List Value} {M : mj_H} : mj_Rn (d + 1) mj_m22 38 ls st M = mq_k5a (d + 1) mj_m22 41 ls M 26 (mq_cb 0 0 5 st M) := mj_R5e (r := (.invokevirtual 94, 3, 0, 26, 8349)) (z := mj_m26) rfl rfl (by decide) (by decide) rfl
theorem s22_41 {d : Nat} {ls : mj_L} {st : List Value} {M : mj_H} : mj_Rn d mj_m22 41 ls st M = mq_k0 d mj_m22 42 ls M (mj_lda (mj_lk ls 0) st) := mj_R0 (r := (.aload_n 0, 1, 0, 0, 0)) rfl rfl
theorem s22_42 {d : Nat} {ls : mj_L} {st : List Value} {M : mj_H} : mj_Rn d mj_m22 42 ls st M = mq_k0 d mj_m22 45 ls M (mq_gf 10 4 st M) := (mj_R3 (r := (.getfield 37, 3, 10, 4, 8494)) rfl rfl).trans (congrArg (mq_k0 d mj_m22 45 ls M) mq_gf_eq)
theorem s22_45 {d : Nat} {ls : mj_L} {st : List Value} {M : mj_H} : mj_Rn d mj_m22 45 ls st M = mq_k0 d mj_m22 46 ls M (mj_lda (mj_lk ls 0) st) := mj_R0 (r := (.aload_n 0, 1, 0, 0, 0)) rfl rfl
theorem s22_46 {d : Nat} {ls : mj_L} {st : List Value} {M : mj_H} : mj_Rn d mj_m22 46 ls st M = mq_k0 d mj_m22 49 ls M (mq_gf 10 7 st M) := (mj_R3 (r := (.getfield 54, 3, 10, 7, 8500)) rfl rfl).trans (congrArg (mq_k0 d mj_m22 49 ls M) mq_gf_eq)
theorem s22_49 {d : Nat} {ls : mj_L} {st : List Value} {M : mj_H} : mj_Rn d mj_m22 49 ls st M = mq_k0 d mj_m22 50 ls M (mj_lda (mj_lk ls 1) st) := mj_R0 (r := (.aload_n 1, 1, 0, 0, 0)) rfl rfl
theorem s22_50 {d : Nat} {ls : mj_L} {st : List Value} {M : mj_H} : mj_Rn d mj_m22 50 ls st M = mq_k4 d mj_m22 51 ls (mj_hw (.aastore, 1, 0, 0, 0) st M) := mj_R4 (r := (.aastore, 1, 0, 0, 0)) rfl rfl
theorem s22_51 {d : Nat} {ls : mj_L} {st : List Value} {M : mj_H} : mj_Rn d mj_m22 51 ls st M = mq_k0 d mj_m22 52 ls M (mj_lda (mj_lk ls 0) st) := mj_R0 (r := (.aload_n 0, 1, 0, 0, 0)) rfl rfl
theorem s22_52 {d : Nat} {ls : mj_L} {st : List Value} {M : mj_H} : mj_Rn d mj_m22 52 ls st M = mq_k0 d mj_m22 53 ls M (mj_pu .dup ls st) := mj_R0 (r := (.dup, 1, 0, 0, 0)) rfl rfl
theorem s22_53 {d : Nat} {ls : mj_L} {st : List Value} {M : mj_H} : mj_Rn d mj_m22 53 ls st M = mq_k0 d mj_m22 56 ls M (mq_gf 10 7 st M) := (mj_R3 (r := (.getfield 54, 3, 10, 7, 8500)) rfl rfl).trans (congrArg (mq_k0 d mj_m22 56 ls M) mq_gf_eq)
theorem s22_56 {d : Nat} {ls : mj_L} {st : List Value} {M : mj_H} : mj_Rn d mj_m22 56 ls st M = mj_Rn d mj_m22 57 ls (.int 1 :: st) M := mj_R0 (r := (.iconst 1, 1, 0, 0, 0)) rfl rfl
theorem s22_57 {d : Nat} {ls : mj_L} {st : List Value} {M : mj_H} : mj_Rn d mj_m22 57 ls st M = mq_k0 d mj_m22 58 ls M (mj_pu .iadd ls st) := mj_R0 (r := (.iadd, 1, 0, 0, 0)) rfl rfl
theorem s22_58 {d : Nat} {ls : mj_L} {st : List Value} {M : mj_H} : mj_Rn d mj_m22 58 ls st M = mq_k4 d mj_m22 61 ls (mq_pf 10 7 0 st M) := (mj_R4 (r := (.putfield 54, 3, 10, 7, 8500)) rfl rfl).trans (congrArg (mq_k4 d mj_m22 61 ls) (mq_pf_eq rfl rfl))
theorem s22_61 {d : Nat} {ls : mj_L} {st : List Value} {M : mj_H} : mj_Rn d mj_m22 61 ls st M = mq_k0 d mj_m22 62 ls M (mj_lda (mj_lk ls 0) st) := mj_R0 (r := (.aload_n 0, 1, 0, 0, 0)) rfl rfl
theorem s22_62 {d : Nat} {ls : mj_L} {st : List Value} {M : mj_H} : mj_Rn d mj_m22 62 ls st M = mq_k0 d mj_m22 65 ls M (mq_gf 10 7 st M) := (mj_R3 (r := (.getfield 54, 3, 10, 7, 8500)) rfl rfl).trans (congrArg (mq_k0 d mj_m22 65 ls M) mq_gf_eq)
theorem s22_65 {d : Nat} {ls : mj_L} {st : List Value} {M : mj_H} : mj_Rn d mj_m22 65 ls st M = mj_Rn d mj_m22 66 ls (.int 1 :: st) M := mj_R0 (r := (.iconst 1, 1, 0, 0, 0)) rfl rfl
theorem s22_66 {d : Nat} {ls : mj_L} {st : List Value} {M : mj_H} : mj_Rn d mj_m22 66 ls st M = mq_k0 d mj_m22 67 ls M (mj_pu .isub ls st) := mj_R0 (r := (.isub, 1, 0, 0, 0)) rfl rfl
theorem s22_67 {d : Nat} {ls : mj_L} {st : List Value} {M : mj_H} : mj_Rn d mj_m22 67 ls st M = mq_k6 M (mj_re (some .int) (.ireturn) st) := mj_R6 (r := (.ireturn, 1, 0, 0, 0)) rfl rfl
/- 210 PasskeyHouse.party(II)I -/
theorem s210_0 {d : Nat} {ls : mj_L} {st : List Value} {M : mj_H} : mj_Rn d mj_m210 0 ls st M = mq_k0 d mj_m210 1 ls M (mj_lda (mj_lk ls 0) st) := mj_R0 (r := (.aload_n 0, 1, 0, 0, 0)) rfl rfl
theorem s210_1 {d : Nat} {ls : mj_L} {st : List Value} {M : mj_H} : mj_Rn d mj_m210 1 ls st M = mq_k0 d mj_m210 4 ls M (mq_gf 10 8 st M) := (mj_R3 (r := (.getfield 58, 3, 10, 8, 8502)) rfl rfl).trans (congrArg (mq_k0 d mj_m210 4 ls M) mq_gf_eq)
theorem s210_4 {d : Nat} {ls : mj_L} {st : List Value} {M : mj_H} : mj_Rn d mj_m210 4 ls st M = mq_k2 d mj_m210 ls M (mj_br (.ifCond .lt 35) 4 st) := mj_R2 (r := (.ifCond .lt 35, 3, 0, 0, 0)) rfl rfl
theorem s210_7 {d : Nat} {ls : mj_L} {st : List Value} {M : mj_H} : mj_Rn d mj_m210 7 ls st M = mq_k0 d mj_m210 8 ls M (mj_lda (mj_lk ls 0) st) := mj_R0 (r := (.aload_n 0, 1, 0, 0, 0)) rfl rfl
theorem s210_8 {d : Nat} {ls : mj_L} {st : List Value} {M : mj_H} : mj_Rn d mj_m210 8 ls st M = mq_k0 d mj_m210 11 ls M (mq_gf 10 8 st M) := (mj_R3 (r := (.getfield 58, 3, 10, 8, 8502)) rfl rfl).trans (congrArg (mq_k0 d mj_m210 11 ls M) mq_gf_eq)
theorem s210_11 {d : Nat} {ls : mj_L} {st : List Value} {M : mj_H} : mj_Rn d mj_m210 11 ls st M = mq_k0 d mj_m210 12 ls M (mj_lda (mj_lk ls 0) st) := mj_R0 (r := (.aload_n 0, 1, 0, 0, 0)) rfl rfl
theorem s210_12 {d : Nat} {ls : mj_L} {st : List Value} {M : mj_H} : mj_Rn d mj_m210 12 ls st M = mq_k0 d mj_m210 15 ls M (mq_gf 10 6 st M) := (mj_R3 (r := (.getfield 50, 3, 10, 6, 8498)) rfl rfl).trans (congrArg (mq_k0 d mj_m210 15 ls M) mq_gf_eq)
theorem s210_15 {d : Nat} {ls : mj_L} {st : List Value} {M : mj_H} : mj_Rn d mj_m210 15 ls st M = mq_k0 d mj_m210 16 ls M (mq_len st M) := (mj_R3 (r := (.arraylength, 1, 0, 0, 0)) rfl rfl).trans (congrArg (mq_k0 d mj_m210 16 ls M) mq_len_eq)
theorem s210_16 {d : Nat} {ls : mj_L} {st : List Value} {M : mj_H} : mj_Rn d mj_m210 16 ls st M = mq_k2 d mj_m210 ls M (mj_br (.if_icmp .ge 23) 16 st) := mj_R2 (r := (.if_icmp .ge 23, 3, 0, 0, 0)) rfl rfl
theorem s210_19 {d : Nat} {ls : mj_L} {st : List Value} {M : mj_H} : mj_Rn d mj_m210 19 ls st M = mq_k0 d mj_m210 20 ls M (mj_ldi (mj_lk ls 1) st) := mj_R0 (r := (.iload_n 1, 1, 0, 0, 0)) rfl rfl
theorem s210_20 {d : Nat} {ls : mj_L} {st : List Value} {M : mj_H} : mj_Rn d mj_m210 20 ls st M = mj_Rn d mj_m210 21 ls (.int 1 :: st) M := mj_R0 (r := (.iconst 1, 1, 0, 0, 0)) rfl rfl
theorem s210_21 {d : Nat} {ls : mj_L} {st : List Value} {M : mj_H} : mj_Rn d mj_m210 21 ls st M = mj_Rn d mj_m210 23 ls (.int 40 :: st) M := mj_R0 (r := (.bipush 40, 2, 0, 0, 0)) rfl rfl
theorem s210_23 {d : Nat} {ls : mj_L} {st : List Value} {M : mj_H} : mj_Rn (d + 1) mj_m210 23 ls st M = mq_k5a (d + 1) mj_m210 26 ls M 8 (mq_cb 2 3 10 st M) := mj_R5e (r := (.invokestatic 61, 3, 2, 8, 4275)) (z := mj_m8) rfl rfl (by decide) (by decide) rfl
theorem s210_26 {d : Nat} {ls : mj_L} {st : List Value} {M : mj_H} : mj_Rn d mj_m210 26 ls st M = mq_k2 d mj_m210 ls M (mj_br (.ifCond .eq 13) 26 st) := mj_R2 (r := (.ifCond .eq 13, 3, 0, 0, 0)) rfl rfl
theorem s210_29 {d : Nat} {ls : mj_L} {st : List Value} {M : mj_H} : mj_Rn d mj_m210 29 ls st M = mq_k0 d mj_m210 30 ls M (mj_ldi (mj_lk ls 2) st) := mj_R0 (r := (.iload_n 2, 1, 0, 0, 0)) rfl rfl
theorem s210_30 {d : Nat} {ls : mj_L} {st : List Value} {M : mj_H} : mj_Rn d mj_m210 30 ls st M = mj_Rn d mj_m210 31 ls (.int 1 :: st) M := mj_R0 (r := (.iconst 1, 1, 0, 0, 0)) rfl rfl
theorem s210_31 {d : Nat} {ls : mj_L} {st : List Value} {M : mj_H} : mj_Rn d mj_m210 31 ls st M = mj_Rn d mj_m210 33 ls (.int 24 :: st) M := mj_R0 (r := (.bipush 24, 2, 0, 0, 0)) rfl rfl
theorem s210_33 {d : Nat} {ls : mj_L} {st : List Value} {M : mj_H} : mj_Rn (d + 1) mj_m210 33 ls st M = mq_k5a (d + 1) mj_m210 36 ls M 8 (mq_cb 2 3 10 st M) := mj_R5e (r := (.invokestatic 61, 3, 2, 8, 4275)) (z := mj_m8) rfl rfl (by decide) (by decide) rfl
theorem s210_36 {d : Nat} {ls : mj_L} {st : List Value} {M : mj_H} : mj_Rn d mj_m210 36 ls st M = mq_k2 d mj_m210 ls M (mj_br (.ifCond .ne 5) 36 st) := mj_R2 (r := (.ifCond .ne 5, 3, 0, 0, 0)) rfl rfl
theorem s210_39 {d : Nat} {ls : mj_L} {st : List Value} {M : mj_H} : mj_Rn d mj_m210 39 ls st M = mj_Rn d mj_m210 40 ls (.int (-1) :: st) M := mj_R0 (r := (.iconst (-1), 1, 0, 0, 0)) rfl rfl
theorem s210_40 {d : Nat} {ls : mj_L} {st : List Value} {M : mj_H} : mj_Rn d mj_m210 40 ls st M = mq_k6 M (mj_re (some .int) (.ireturn) st) := mj_R6 (r := (.ireturn, 1, 0, 0, 0)) rfl rfl
theorem s210_41 {d : Nat} {ls : mj_L} {st : List Value} {M : mj_H} : mj_Rn d mj_m210 41 ls st M = mq_k0 d mj_m210 42 ls M (mj_ldi (mj_lk ls 1) st) := mj_R0 (r := (.iload_n 1, 1, 0, 0, 0)) rfl rfl
theorem s210_42 {d : Nat} {ls : mj_L} {st : List Value} {M : mj_H} : mj_Rn d mj_m210 42 ls st M = mq_k0 d mj_m210 43 ls M (mj_ldi (mj_lk ls 2) st) := mj_R0 (r := (.iload_n 2, 1, 0, 0, 0)) rfl rfl
theorem s210_43 {d : Nat} {ls : mj_L} {st : List Value} {M : mj_H} : mj_Rn d mj_m210 43 ls st M = mq_k0 d mj_m210 44 ls M (mj_pu .iadd ls st) := mj_R0 (r := (.iadd, 1, 0, 0, 0)) rfl rfl
theorem s210_44 {d : Nat} {ls : mj_L} {st : List Value} {M : mj_H} : mj_Rn d mj_m210 44 ls st M = mq_k0 d mj_m210 45 ls M (mj_lda (mj_lk ls 0) st) := mj_R0 (r := (.aload_n 0, 1, 0, 0, 0)) rfl rfl
theorem s210_45 {d : Nat} {ls : mj_L} {st : List Value} {M : mj_H} : mj_Rn d mj_m210 45 ls st M = mq_k0 d mj_m210 48 ls M (mq_gf 10 0 st M) := (mj_R3 (r := (.getfield 14, 3, 10, 0, 8486)) rfl rfl).trans (congrArg (mq_k0 d mj_m210 48 ls M) mq_gf_eq)
theorem s210_48 {d : Nat} {ls : mj_L} {st : List Value} {M : mj_H} : mj_Rn (d + 1) mj_m210 48 ls st M = mq_k5a (d + 1) mj_m210 51 ls M 9 (mq_cb 0 0 1 st M) := mj_R5e (r := (.invokevirtual 65, 3, 0, 9, 4278)) (z := mj_m9) rfl rfl (by decide) (by decide) rfl
theorem s210_51 {d : Nat} {ls : mj_L} {st : List Value} {M : mj_H} : mj_Rn d mj_m210 51 ls st M = mq_k2 d mj_m210 ls M (mj_br (.if_icmp .gt 21) 51 st) := mj_R2 (r := (.if_icmp .gt 21, 3, 0, 0, 0)) rfl rfl
theorem s210_54 {d : Nat} {ls : mj_L} {st : List Value} {M : mj_H} : mj_Rn d mj_m210 54 ls st M = mq_k0 d mj_m210 55 ls M (mj_lda (mj_lk ls 0) st) := mj_R0 (r := (.aload_n 0, 1, 0, 0, 0)) rfl rfl
theorem s210_55 {d : Nat} {ls : mj_L} {st : List Value} {M : mj_H} : mj_Rn d mj_m210 55 ls st M = mq_k0 d mj_m210 58 ls M (mq_gf 10 0 st M) := (mj_R3 (r := (.getfield 14, 3, 10, 0, 8486)) rfl rfl).trans (congrArg (mq_k0 d mj_m210 58 ls M) mq_gf_eq)
theorem s210_58 {d : Nat} {ls : mj_L} {st : List Value} {M : mj_H} : mj_Rn d mj_m210 58 ls st M = mj_Rn d mj_m210 59 ls (.int 0 :: st) M := mj_R0 (r := (.iconst 0, 1, 0, 0, 0)) rfl rfl
theorem s210_59 {d : Nat} {ls : mj_L} {st : List Value} {M : mj_H} : mj_Rn d mj_m210 59 ls st M = mq_k0 d mj_m210 60 ls M (mj_ldi (mj_lk ls 1) st) := mj_R0 (r := (.iload_n 1, 1, 0, 0, 0)) rfl rfl
theorem s210_60 {d : Nat} {ls : mj_L} {st : List Value} {M : mj_H} : mj_Rn d mj_m210 60 ls st M = mq_k0 d mj_m210 61 ls M (mj_lda (mj_lk ls 0) st) := mj_R0 (r := (.aload_n 0, 1, 0, 0, 0)) rfl rfl
theorem s210_61 {d : Nat} {ls : mj_L} {st : List Value} {M : mj_H} : mj_Rn d mj_m210 61 ls st M = mq_k0 d mj_m210 64 ls M (mq_gf 10 0 st M) := (mj_R3 (r := (.getfield 14, 3, 10, 0, 8486)) rfl rfl).trans (congrArg (mq_k0 d mj_m210 64 ls M) mq_gf_eq)
theorem s210_64 {d : Nat} {ls : mj_L} {st : List Value} {M : mj_H} : mj_Rn d mj_m210 64 ls st M = mq_k0 d mj_m210 65 ls M (mj_ldi (mj_lk ls 1) st) := mj_R0 (r := (.iload_n 1, 1, 0, 0, 0)) rfl rfl
theorem s210_65 {d : Nat} {ls : mj_L} {st : List Value} {M : mj_H} : mj_Rn d mj_m210 65 ls st M = mq_k0 d mj_m210 66 ls M (mj_ldi (mj_lk ls 2) st) := mj_R0 (r := (.iload_n 2, 1, 0, 0, 0)) rfl rfl
theorem s210_66 {d : Nat} {ls : mj_L} {st : List Value} {M : mj_H} : mj_Rn (d + 1) mj_m210 66 ls st M = mq_k5a (d + 1) mj_m210 69 ls M 192 (mq_cb 2 6 10 st M) := mj_R5e (r := (.invokestatic 234, 3, 2, 192, 20672)) (z := mj_m192) rfl rfl (by decide) (by decide) rfl
theorem s210_69 {d : Nat} {ls : mj_L} {st : List Value} {M : mj_H} : mj_Rn d mj_m210 69 ls st M = mq_k2 d mj_m210 ls M (mj_br (.ifCond .ne 5) 69 st) := mj_R2 (r := (.ifCond .ne 5, 3, 0, 0, 0)) rfl rfl
theorem s210_72 {d : Nat} {ls : mj_L} {st : List Value} {M : mj_H} : mj_Rn d mj_m210 72 ls st M = mj_Rn d mj_m210 73 ls (.int (-1) :: st) M := mj_R0 (r := (.iconst (-1), 1, 0, 0, 0)) rfl rfl
theorem s210_73 {d : Nat} {ls : mj_L} {st : List Value} {M : mj_H} : mj_Rn d mj_m210 73 ls st M = mq_k6 M (mj_re (some .int) (.ireturn) st) := mj_R6 (r := (.ireturn, 1, 0, 0, 0)) rfl rfl
theorem s210_74 {d : Nat} {ls : mj_L} {st : List Value} {M : mj_H} : mj_Rn d mj_m210 74 ls st M = mq_k4 d mj_m210 77 ls (mj_hw (.new 48, 3, 7, 0, 4241) st M) := mj_R4 (r := (.new 48, 3, 7, 0, 4241)) rfl rfl
theorem s210_77 {d : Nat} {ls : mj_L} {st : List Value} {M : mj_H} : mj_Rn d mj_m210 77 ls st M = mq_k0 d mj_m210 78 ls M (mj_pu .dup ls st) := mj_R0 (r := (.dup, 1, 0, 0, 0)) rfl rfl
theorem s210_78 {d : Nat} {ls : mj_L} {st : List Value} {M : mj_H} : mj_Rn (d + 1) mj_m210 78 ls st M = mq_k5a (d + 1) mj_m210 81 ls M 211 (mq_cb 4 0 7 st M) := mj_R5e (r := (.invokespecial 293, 3, 4, 211, 24612)) (z := mj_m211) rfl rfl (by decide) (by decide) rfl
theorem s210_81 {d : Nat} {ls : mj_L} {st : List Value} {M : mj_H} : mj_Rn d mj_m210 81 ls st M = mq_k1 d mj_m210 82 M (mj_lo 4 (.astore 3) ls st) := (mj_R1 (r := (.astore_n 3, 1, 0, 0, 0)) rfl rfl).trans (congrArg (mq_k1 d mj_m210 82 M) (mq_sta (k := 3)))
theorem s210_82 {d : Nat} {ls : mj_L} {st : List Value} {M : mj_H} : mj_Rn d mj_m210 82 ls st M = mq_k0 d mj_m210 83 ls M (mj_lda (mj_lk ls 3) st) := mj_R0 (r := (.aload_n 3, 1, 0, 0, 0)) rfl rfl
theorem s210_83 {d : Nat} {ls : mj_L} {st : List Value} {M : mj_H} : mj_Rn d mj_m210 83 ls st M = mq_k0 d mj_m210 86 ls M (mq_gf 7 0 st M) := (mj_R3 (r := (.getfield 294, 3, 7, 0, 49361)) rfl rfl).trans (congrArg (mq_k0 d mj_m210 86 ls M) mq_gf_eq)
theorem s210_86 {d : Nat} {ls : mj_L} {st : List Value} {M : mj_H} : mj_Rn d mj_m210 86 ls st M = mq_k0 d mj_m210 87 ls M (mj_lda (mj_lk ls 0) st) := mj_R0 (r := (.aload_n 0, 1, 0, 0, 0)) rfl rfl
theorem s210_87 {d : Nat} {ls : mj_L} {st : List Value} {M : mj_H} : mj_Rn d mj_m210 87 ls st M = mq_k0 d mj_m210 90 ls M (mq_gf 10 0 st M) := (mj_R3 (r := (.getfield 14, 3, 10, 0, 8486)) rfl rfl).trans (congrArg (mq_k0 d mj_m210 90 ls M) mq_gf_eq)
theorem s210_90 {d : Nat} {ls : mj_L} {st : List Value} {M : mj_H} : mj_Rn d mj_m210 90 ls st M = mj_Rn d mj_m210 91 ls (.int 0 :: st) M := mj_R0 (r := (.iconst 0, 1, 0, 0, 0)) rfl rfl
theorem s210_91 {d : Nat} {ls : mj_L} {st : List Value} {M : mj_H} : mj_Rn d mj_m210 91 ls st M = mq_k0 d mj_m210 92 ls M (mj_ldi (mj_lk ls 1) st) := mj_R0 (r := (.iload_n 1, 1, 0, 0, 0)) rfl rfl
theorem s210_92 {d : Nat} {ls : mj_L} {st : List Value} {M : mj_H} : mj_Rn (d + 1) mj_m210 92 ls st M = mq_k5a (d + 1) mj_m210 95 ls M 77 (mq_cb 0 3 1 st M) := mj_R5e (r := (.invokevirtual 118, 3, 0, 77, 12429)) (z := mj_m77) rfl rfl (by decide) (by decide) rfl
theorem s210_95 {d : Nat} {ls : mj_L} {st : List Value} {M : mj_H} : mj_Rn d mj_m210 95 ls st M = mq_k0 d mj_m210 96 ls M (mj_lda (mj_lk ls 3) st) := mj_R0 (r := (.aload_n 3, 1, 0, 0, 0)) rfl rfl
theorem s210_96 {d : Nat} {ls : mj_L} {st : List Value} {M : mj_H} : mj_Rn d mj_m210 96 ls st M = mq_k0 d mj_m210 99 ls M (mq_gf 7 1 st M) := (mj_R3 (r := (.getfield 297, 3, 7, 1, 49365)) rfl rfl).trans (congrArg (mq_k0 d mj_m210 99 ls M) mq_gf_eq)
theorem s210_99 {d : Nat} {ls : mj_L} {st : List Value} {M : mj_H} : mj_Rn d mj_m210 99 ls st M = mq_k0 d mj_m210 100 ls M (mj_lda (mj_lk ls 0) st) := mj_R0 (r := (.aload_n 0, 1, 0, 0, 0)) rfl rfl
theorem s210_100 {d : Nat} {ls : mj_L} {st : List Value} {M : mj_H} : mj_Rn d mj_m210 100 ls st M = mq_k0 d mj_m210 103 ls M (mq_gf 10 0 st M) := (mj_R3 (r := (.getfield 14, 3, 10, 0, 8486)) rfl rfl).trans (congrArg (mq_k0 d mj_m210 103 ls M) mq_gf_eq)
theorem s210_103 {d : Nat} {ls : mj_L} {st : List Value} {M : mj_H} : mj_Rn d mj_m210 103 ls st M = mq_k0 d mj_m210 104 ls M (mj_ldi (mj_lk ls 1) st) := mj_R0 (r := (.iload_n 1, 1, 0, 0, 0)) rfl rfl
theorem s210_104 {d : Nat} {ls : mj_L} {st : List Value} {M : mj_H} : mj_Rn d mj_m210 104 ls st M = mq_k0 d mj_m210 105 ls M (mj_ldi (mj_lk ls 2) st) := mj_R0 (r := (.iload_n 2, 1, 0, 0, 0)) rfl rfl
theorem s210_105 {d : Nat} {ls : mj_L} {st : List Value} {M : mj_H} : mj_Rn (d + 1) mj_m210 105 ls st M = mq_k5a (d + 1) mj_m210 108 ls M 77 (mq_cb 0 3 1 st M) := mj_R5e (r := (.invokevirtual 118, 3, 0, 77, 12429)) (z := mj_m77) rfl rfl (by decide) (by decide) rfl
theorem s210_108 {d : Nat} {ls : mj_L} {st : List Value} {M : mj_H} : mj_Rn d mj_m210 108 ls st M = mq_k0 d mj_m210 109 ls M (mj_lda (mj_lk ls 0) st) := mj_R0 (r := (.aload_n 0, 1, 0, 0, 0)) rfl rfl
theorem s210_109 {d : Nat} {ls : mj_L} {st : List Value} {M : mj_H} : mj_Rn d mj_m210 109 ls st M = mq_k0 d mj_m210 112 ls M (mq_gf 10 6 st M) := (mj_R3 (r := (.getfield 50, 3, 10, 6, 8498)) rfl rfl).trans (congrArg (mq_k0 d mj_m210 112 ls M) mq_gf_eq)
theorem s210_112 {d : Nat} {ls : mj_L} {st : List Value} {M : mj_H} : mj_Rn d mj_m210 112 ls st M = mq_k0 d mj_m210 113 ls M (mj_lda (mj_lk ls 0) st) := mj_R0 (r := (.aload_n 0, 1, 0, 0, 0)) rfl rfl
theorem s210_113 {d : Nat} {ls : mj_L} {st : List Value} {M : mj_H} : mj_Rn d mj_m210 113 ls st M = mq_k0 d mj_m210 116 ls M (mq_gf 10 8 st M) := (mj_R3 (r := (.getfield 58, 3, 10, 8, 8502)) rfl rfl).trans (congrArg (mq_k0 d mj_m210 116 ls M) mq_gf_eq)
theorem s210_116 {d : Nat} {ls : mj_L} {st : List Value} {M : mj_H} : mj_Rn d mj_m210 116 ls st M = mq_k0 d mj_m210 117 ls M (mj_lda (mj_lk ls 3) st) := mj_R0 (r := (.aload_n 3, 1, 0, 0, 0)) rfl rfl
theorem s210_117 {d : Nat} {ls : mj_L} {st : List Value} {M : mj_H} : mj_Rn d mj_m210 117 ls st M = mq_k4 d mj_m210 118 ls (mj_hw (.aastore, 1, 0, 0, 0) st M) := mj_R4 (r := (.aastore, 1, 0, 0, 0)) rfl rfl
theorem s210_118 {d : Nat} {ls : mj_L} {st : List Value} {M : mj_H} : mj_Rn d mj_m210 118 ls st M = mq_k0 d mj_m210 119 ls M (mj_lda (mj_lk ls 0) st) := mj_R0 (r := (.aload_n 0, 1, 0, 0, 0)) rfl rfl
theorem s210_119 {d : Nat} {ls : mj_L} {st : List Value} {M : mj_H} : mj_Rn d mj_m210 119 ls st M = mq_k0 d mj_m210 120 ls M (mj_pu .dup ls st) := mj_R0 (r := (.dup, 1, 0, 0, 0)) rfl rfl
theorem s210_120 {d : Nat} {ls : mj_L} {st : List Value} {M : mj_H} : mj_Rn d mj_m210 120 ls st M = mq_k0 d mj_m210 123 ls M (mq_gf 10 8 st M) := (mj_R3 (r := (.getfield 58, 3, 10, 8, 8502)) rfl rfl).trans (congrArg (mq_k0 d mj_m210 123 ls M) mq_gf_eq)
theorem s210_123 {d : Nat} {ls : mj_L} {st : List Value} {M : mj_H} : mj_Rn d mj_m210 123 ls st M = mj_Rn d mj_m210 124 ls (.int 1 :: st) M := mj_R0 (r := (.iconst 1, 1, 0, 0, 0)) rfl rfl
theorem s210_124 {d : Nat} {ls : mj_L} {st : List Value} {M : mj_H} : mj_Rn d mj_m210 124 ls st M = mq_k0 d mj_m210 125 ls M (mj_pu .iadd ls st) := mj_R0 (r := (.iadd, 1, 0, 0, 0)) rfl rfl
theorem s210_125 {d : Nat} {ls : mj_L} {st : List Value} {M : mj_H} : mj_Rn d mj_m210 125 ls st M = mq_k4 d mj_m210 128 ls (mq_pf 10 8 0 st M) := (mj_R4 (r := (.putfield 58, 3, 10, 8, 8502)) rfl rfl).trans (congrArg (mq_k4 d mj_m210 128 ls) (mq_pf_eq rfl rfl))
theorem s210_128 {d : Nat} {ls : mj_L} {st : List Value} {M : mj_H} : mj_Rn d mj_m210 128 ls st M = mq_k0 d mj_m210 129 ls M (mj_lda (mj_lk ls 0) st) := mj_R0 (r := (.aload_n 0, 1, 0, 0, 0)) rfl rfl
theorem s210_129 {d : Nat} {ls : mj_L} {st : List Value} {M : mj_H} : mj_Rn d mj_m210 129 ls st M = mq_k0 d mj_m210 132 ls M (mq_gf 10 8 st M) := (mj_R3 (r := (.getfield 58, 3, 10, 8, 8502)) rfl rfl).trans (congrArg (mq_k0 d mj_m210 132 ls M) mq_gf_eq)
theorem s210_132 {d : Nat} {ls : mj_L} {st : List Value} {M : mj_H} : mj_Rn d mj_m210 132 ls st M = mj_Rn d mj_m210 133 ls (.int 1 :: st) M := mj_R0 (r := (.iconst 1, 1, 0, 0, 0)) rfl rfl
theorem s210_133 {d : Nat} {ls : mj_L} {st : List Value} {M : mj_H} : mj_Rn d mj_m210 133 ls st M = mq_k0 d mj_m210 134 ls M (mj_pu .isub ls st) := mj_R0 (r := (.isub, 1, 0, 0, 0)) rfl rfl
theorem s210_134 {d : Nat} {ls : mj_L} {st : List Value} {M : mj_H} : mj_Rn d mj_m210 134 ls st M = mq_k6 M (mj_re (some .int) (.ireturn) st) := mj_R6 (r := (.ireturn, 1, 0, 0, 0)) rfl rfl
theorem c22 {d : Nat} {a0 : Nat} {M : mj_H} : mj_V (d + 1) 22 [.ref a0] M = mj_Rn d mj_m22 0 [(0, .ref a0)] [] M := mj_V_go rfl (Nat.le_of_ble_eq_true rfl)
theorem c210 {d : Nat} {a0 : Nat} {x1 : Int32} {x2 : Int32} {M : mj_H} : mj_V (d + 1) 210 [.ref a0, .int x1, .int x2] M = mj_Rn d mj_m210 0 [(0, .ref a0), (1, .int x1), (2, .int x2)] [] M := mj_V_go rfl (Nat.le_of_ble_eq_true rfl)
section NW
variable {M M' : mj_H} {H H' : Ho} {κs πs : List Nat} {row row' ms : List Int32} {d : Nat} {T : Tm}
/-- cells are added, and belong to us -/
theorem tx.ext {A A' : Nat → Prop} {X : mj_H} (h : tx A M T row) (hA : ∀ c, A' c ↔ A c ∨ (M.length ≤ c ∧ c < M.length + X.length)) : tx A' (M ++ X) T row := by
  obtain ⟨⟨p, e, o, ht, hp, he, ho⟩, a0, a4, a5, hlo⟩ := h
  have l30 := mq_lt ht.ob
  obtain ⟨g, hg, -⟩ := ht.tbl.po
  obtain ⟨E, hE, -⟩ := ht.tbl.en
  obtain ⟨O, hO, -⟩ := ht.tbl.ol
  obtain ⟨L, hL, -⟩ := ht.tbl.la
  obtain ⟨r, hr, -⟩ := ht.rw
  have lp := mq_lt hg
  have le := mq_lt hE
  have lo := mq_lt hO
  have l34 := mq_lt hL
  have l35 := mq_lt hr
  have n : ∀ c, c < M.length → ¬ A c → ¬ A' c := fun c h1 h2 h3 => by
    rcases (hA c).mp h3 with h | h
    · exact h2 h
    · omega
  have e : ∀ c, c < M.length → (M ++ X)[c]? = M[c]? := fun c hc => List.getElem?_append_left hc
  refine (tx_mk_ (⟨p, _, _, ht.fr (e _ l30) (e _ lp) (e _ le) (e _ lo) (e _ l34) (e _ l35), n _ lp hp, n _ le he, n _ lo ho⟩) (n _ l30 a0) (n _ l34 a4) (n _ l35 a5) (fun c hc => ?_))
  rw [List.length_append]
  rcases (hA c).mp hc with h | h
  · have := hlo c h; omega
  · omega
theorem zz_app {X : mj_H} (h : mj_p30 M) : mj_zz (M ++ X) = mj_zz M := by
  obtain ⟨t, p, e, r, h1, h2, h3⟩ := h
  refine mj_zz_eq (mj_gr.app X) ?_ (fun t' p' e' r' h' => ?_)
  · rw [List.getElem?_append_left (mq_lt h1)]
  · rw [h1] at h'
    cases h'
    exact ⟨h2, h3⟩
theorem z0_len (n : Nat) : (z0 n).2.length = n := by simp [z0]
theorem mj_sl_kb (κ : Nat) : mj_sl (kblk κ) ≤ 1200 := by
  unfold mj_sl kblk sblk
  simp only [List.map_cons, List.map_append, List.cons_append, List.nil_append, List.map_nil, z0_len, List.sum_cons, List.sum_nil, List.length_cons, List.length_nil, c0]
  omega
theorem mj_sl_pb (κ : Nat) : mj_sl (pblk κ) ≤ 250 := by
  unfold mj_sl pblk
  simp only [List.map_cons, List.map_append, List.cons_append, List.nil_append, List.map_nil, z0_len, List.sum_cons, List.sum_nil, List.length_cons, List.length_nil, o0c, a0c]
  omega
theorem bb_z0 {a b n : Nat} (ha : 25 ≤ a) (hb : 25 ≤ b) (hab : a ≠ b) (hn : n ≤ 1000) (h1 : M[a]? = some (1, [.ref b, .int 0])) (h2 : M[b]? = some (z0 n)) : bb M a b n [] := by
  refine ⟨ha, hb, hab, by omega, by simp, by rw [h1]; rfl, List.replicate n 0, ?_, by simp⟩
  rw [h2]
  simp [z0]
/-- a key's cells are made -/
theorem hz.kmade (z : hz M H κs πs row) : kz (hA (κs ++ [M.length]) πs) M.length (M ++ kblk M.length) ky_zero H.2.1 row := by
  have h146 : 146 ≤ M.length := by
    have := z.lt (show hA κs πs 145 by unfold hA; omega)
    omega
  have hAx : ∀ c, hA (κs ++ [M.length]) πs c ↔ hA κs πs c ∨ (M.length ≤ c ∧ c < M.length + (kblk M.length).length) := by
    intro c
    rw [kblk_len]
    unfold hA
    constructor
    · rintro (h | h | ⟨κ, hκ, h⟩ | h)
      · exact Or.inl (Or.inl h)
      · exact Or.inl (Or.inr (Or.inl h))
      · rcases List.mem_append.mp hκ with hκ | hκ
        · exact Or.inl (Or.inr (Or.inr (Or.inl ⟨κ, hκ, h⟩)))
        · simp at hκ; subst hκ; exact Or.inr (by omega)
      · exact Or.inl (Or.inr (Or.inr (Or.inr h)))
    · rintro ((h | h | ⟨κ, hκ, h⟩ | h) | h)
      · exact Or.inl h
      · exact Or.inr (Or.inl h)
      · exact Or.inr (Or.inr (Or.inl ⟨κ, by simp [hκ], h⟩))
      · exact Or.inr (Or.inr (Or.inr h))
      · exact Or.inr (Or.inr (Or.inl ⟨M.length, by simp, by omega⟩))
  have t' := z.t.ext (X := kblk M.length) hAx
  have at_ : ∀ k, (M ++ kblk M.length)[M.length + k]? = (kblk M.length)[k]? := fun k => ap_at _ k
  have at0 : (M ++ kblk M.length)[M.length]? = (kblk M.length)[0]? := at_ 0
  have old : ∀ c, c < M.length → (M ++ kblk M.length)[c]? = M[c]? := fun c hc => List.getElem?_append_left hc
  have ks' : ks (M ++ kblk M.length) M.length ky_zero.1.1.1.1 [] := by
    refine (ks_mk_ (by omega) (by rw [at_]; rfl) (bb_z0 (by omega) (by omega) (by omega) (by omega) (by rw [at_]; rfl) (by rw [at_]; rfl)) (bb_z0 (by omega) (by omega) (by omega) (by omega) (by rw [at_]; rfl) (by rw [at_]; rfl)) (by rw [at_]; rfl) ?_ ?_ (by decide) (by rw [old 1 (by omega)]; exact z.s1) (by rw [old 2 (by omega)]; exact z.s2))
    · intro i c hi; cases hi
    · intro i hi
      refine ⟨((0, (0, (0, ([], 0)))) : Cr), ?_⟩
      rw [show M.length + 7 + i = M.length + (7 + i) by omega, at_]
      rcases (show i = 0 ∨ i = 1 ∨ i = 2 ∨ i = 3 ∨ i = 4 ∨ i = 5 ∨ i = 6 ∨ i = 7 by omega) with rfl | rfl | rfl | rfl | rfl | rfl | rfl | rfl <;> rfl
  refine (kz_mk_ t' (by rw [at0]; rfl) (⟨[], ks'⟩) (by rw [at_]; rfl) (bb_z0 (by omega) (by omega) (by omega) (by omega) (by rw [at_]; rfl) (by rw [at_]; rfl)) (bb_z0 (by omega) (by omega) (by omega) (by omega) (by rw [at_]; rfl) (by rw [at_]; rfl)) h146 ?_ ?_)
  · intro c hc
    rcases hc with hc | hc | hc
    · exact Or.inl hc
    · exact Or.inr (Or.inl (by omega))
    · exact Or.inr (Or.inr (Or.inl ⟨M.length, by simp, hc⟩))
  · intro i hi
    exact (z.str i hi).fr (old _ (by omega)) (old _ (by omega))
theorem h_key (z : hz M H κs πs row) (hl : H.2.1.1.length < 1000) (hw : fsW (ky_born H.2.1).1.1.1.1) : ∃ M' κs' row', mj_V (d + 8) 22 [.ref 25] M = some (some (.int (ho_key H).1), M') ∧ hz M' (ho_key H).2 κs' πs row' ∧ hf M M' := by
  have x0 := z.ob
  have x1 := z.ka
  have k3 := z.k3
  have kl := z.kl
  have e1 : (κs.map Value.ref ++ nulls (3 - κs.length)).length = 3 := by simp [nulls]; omega
  unfold ho_key
  by_cases h3 : 3 ≤ H.2.2.1.length
  · rw [if_pos h3]
    refine ⟨M, κs, row, ?_, z, hf.rf⟩
    generalize κs.map Value.ref ++ nulls (3 - κs.length) = zs at *
    simp (disch := (first | omega | decide)) [c22, s22_0, s22_1, s22_4, s22_7, s22_8, s22_11, s22_12, s22_15, s22_16, s22_19, s22_20, s22_21, s22_24, s22_25, s22_26, s22_29, s22_30, s22_33, s22_36, s22_37, s22_38, s22_41, s22_42, s22_45, s22_46, s22_49, s22_50, s22_51, s22_52, s22_53, s22_56, s22_57, s22_58, s22_61, s22_62, s22_65, s22_66, s22_67, mq_k0s, mq_k1s, mq_k2s, mq_k4s, mq_k5s, mq_k5n, mq_k5as, mq_k6s, mj_pu, mj_lo, mj_br, mj_hr, mj_hw, mq_gf, mq_len, mq_al, mq_pf, mq_ok, mj_re, mq_lkm, mq_lkn, mj_ldi, mj_ldl, mj_lda, mj_ii, mj_ll, mj_li, mj_i1, ms_1, ms_2, f1_n, f1_i, f1_r, f1_u, f1_l, f2_n, f2_i, f2_r, f2_u, f2_l, mj_tg, mj_c1, mj_c2, mj_ar, mj_aw, mq_cb, mq_oi, mj_rm, Value.category, -getElem?_pos, List.getElem?_cons_zero, decide_eq_true, decide_eq_false, nl_lt, nl_le, ln_lt, ln_le, nl_eq, ln_eq, nl_add, ln_add, nl_sub, ln_mul, nI_sub, nI_mul, nI_add, nI_lt_iff, nI_le_iff, nI_inj, nI_num, mq_ix, nI_1, nl_mul, nl_div, x0, x1, e1, h3, narrow]
  rw [if_neg h3]
  have h146 : 146 ≤ M.length := by
    have := z.lt (show hA κs πs 145 by unfold hA; omega)
    omega
  have n1 := n_key (d := d + 3) (P := M) (by omega)
  have zk := z.kmade
  obtain ⟨M2, row2, p2, z2, f2⟩ := ky_begin (d := d) zk hl hw
  change mj_V (d + 7) 26 [.ref M.length] (M ++ kblk M.length) = some (none, M2) at p2
  change kz (hA (κs ++ [M.length]) πs) M.length M2 (ky_wake (ky_born H.2.1) (tm_fresh H.2.1)).1 (ky_wake (ky_born H.2.1) (tm_fresh H.2.1)).2 row2 at z2
  generalize hK : (ky_wake (ky_born H.2.1) (tm_fresh H.2.1)).1 = K at *
  generalize hT2 : (ky_wake (ky_born H.2.1) (tm_fresh H.2.1)).2 = T2 at *
  have hold : ∀ c, hA κs πs c → M2[c]? = M[c]? := by
    intro c hc
    have hlt := z.lt hc
    rw [f2.same c (by rw [List.length_append]; omega) ?_, List.getElem?_append_left hlt]
    intro q
    rcases q with q | q
    · refine q ?_
      rcases hc with h | h | ⟨κ, hκ, h⟩ | h
      · exact Or.inl h
      · exact Or.inr (Or.inl h)
      · exact Or.inr (Or.inr (Or.inl ⟨κ, by simp [hκ], h⟩))
      · exact Or.inr (Or.inr (Or.inr h))
    · omega
  have hM2l : M.length + 20 ≤ M2.length := by
    have := f2.gr.len
    rw [List.length_append, kblk_len] at this
    exact this
  have o25 : M2[25]? = some (10, [.ref 26, .ref 28, .ref 30, .ref 36, .ref 44, .ref 45, .ref 66, .int (nI H.2.2.1.length), .int (nI H.2.2.2.2.length)]) := by rw [hold 25 (by unfold hA; omega)]; exact x0
  have o44 : M2[44]? = some (1004, κs.map Value.ref ++ nulls (3 - κs.length)) := by rw [hold 44 (by unfold hA; omega)]; exact x1
  have eset : (κs.map Value.ref ++ nulls (3 - κs.length)).set H.2.2.1.length (.ref M.length) = (κs ++ [M.length]).map Value.ref ++ nulls (3 - (κs ++ [M.length]).length) := by
    rw [← kl]
    rw [List.set_append_right _ _ (by simp)]
    rw [show 3 - κs.length = (3 - (κs ++ [M.length]).length) + 1 by simp; omega]
    simp [nulls, List.replicate_succ]
  let M3 := (M2.set 44 (1004, (κs ++ [M.length]).map Value.ref ++ nulls (3 - (κs ++ [M.length]).length))).set 25 (10, [.ref 26, .ref 28, .ref 30, .ref 36, .ref 44, .ref 45, .ref 66, .int (nI (H.2.2.1.length + 1)), .int (nI H.2.2.2.2.length)])
  have e3 : ∀ c, c ≠ 25 → c ≠ 44 → M3[c]? = M2[c]? := fun c h1 h2 => by
    show ((M2.set 44 _).set 25 _)[c]? = _
    rw [List.getElem?_set_ne (fun q => h1 q.symm), List.getElem?_set_ne (fun q => h2 q.symm)]
  have hold3 : ∀ c, hA κs πs c → c ≠ 25 → c ≠ 44 → M3[c]? = M[c]? := fun c hc h1 h2 => (e3 c h1 h2).trans (hold c hc)
  have g3 : mj_gr M2 M3 := by
    have gA : mj_gr M2 (M2.set 44 (1004, (κs ++ [M.length]).map Value.ref ++ nulls (3 - (κs ++ [M.length]).length))) := mj_gr.set o44 rfl (by simp [nulls]; omega)
    have hap : (M2.set 44 (1004, (κs ++ [M.length]).map Value.ref ++ nulls (3 - (κs ++ [M.length]).length)))[25]? = M2[25]? := List.getElem?_set_ne (by omega)
    exact gA.tr (mj_gr.set (hap.trans o25) rfl rfl)
  have l3 : M3.length = M2.length := by show ((M2.set 44 _).set 25 _).length = _; simp
  have zz3 : mj_zz M3 = mj_zz M2 := mj_zz_eq g3 (e3 30 (by omega) (by omega)) z2.t.p30.pe
  have zz1 : mj_zz (M ++ kblk M.length) = mj_zz M := zz_app z.t.p30
  have sl3 := g3.sl
  rw [List.drop_eq_nil_of_le (by omega)] at sl3
  have sl1 := mj_sl_app M (kblk M.length)
  have slk := mj_sl_kb M.length
  have rm2 := f2.room
  have rc2 := f2.cells
  have rs0 := z.rs
  have rc0 := z.rc
  rw [List.length_append, kblk_len] at rc2
  have hbk := z.bk
  have hbp := z.bp
  have hin : ∀ κ ∈ κs, κ + 19 < M.length := fun κ hκ => z.lt (Or.inr (Or.inr (Or.inl ⟨κ, hκ, by omega⟩)))
  have hinp : ∀ π ∈ πs, π + 18 < M.length := fun π hπ => z.lt (Or.inr (Or.inr (Or.inr ⟨π, hπ, by omega⟩)))
  obtain ⟨mm, hmm⟩ := z.ms
  obtain ⟨src, c, p, S', V, HH, E, N, hu⟩ := z.it
  have t3 : tx (hA (κs ++ [M.length]) πs) M3 T2 row2 := z2.t.fr (by omega) (fun c _ hc => e3 c (fun q => hc (by rw [q]; unfold hA; omega)) (fun q => hc (by rw [q]; unfold hA; omega)))
  have hin0 : sl3 = sl3 := rfl
  simp only [mj_sl, List.map_nil, List.sum_nil] at sl3
  refine ⟨M3, κs ++ [M.length], row2, ?_, (hz_mk_ t3 ?_ ?_ ?_ ?_ ?_ ?_ ?_ ?_ ?_ ?_ z.hl ?_ z.pl ?_ z.p4 ?_ ?_ ?_ ?_ z.dp ?_ ?_ z.bp ?_ ?_), ?_⟩
  · have e2 : (κs.map Value.ref ++ nulls (3 - κs.length)).length = 3 := e1
    have hr : M2[M.length]? = some (ko M.length K) := z2.ob
    unfold ko at hr
    have ix3 : mj_ix (nI H.2.2.1.length) 3 = some H.2.2.1.length := mq_ix (by omega) (by decide)
    have ty5' : mj_ty[5]? = some [(.object "PasskeyHouse$Terms"), (.object "PasskeyHouse$Items"), (.object "PasskeyHouse$Store"), (.object "PasskeyHouse$Bytes"), (.object "PasskeyHouse$Bytes"), .int, .int, .int, .int, .int, .int, .boolean, .int, .int, .int, .int] := rfl
    have nx0 : (M ++ [d5])[25]? = some (10, [.ref 26, .ref 28, .ref 30, .ref 36, .ref 44, .ref 45, .ref 66, .int (nI H.2.2.1.length), .int (nI H.2.2.2.2.length)]) := by rw [List.getElem?_append_left (by omega)]; exact x0
    have nk : (M ++ kblk M.length)[M.length]? = some (5, [.ref 30, .ref 36, .ref (M.length + 1), .ref (M.length + 16), .ref (M.length + 18), .int 0, .int 0, .int 0, .int 0, .int 0, .int 0, .int 0, .int 0, .int 0, .int 0, .int 0]) := ap_at (P := M) _ 0
    have l25 : 25 ≤ M.length := by omega
    have l44 : 44 < M2.length := by omega
    have l25' : 25 < M2.length := by omega
    show _ = some (_, (M2.set 44 _).set 25 _)
    rw [← eset]
    generalize κs.map Value.ref ++ nulls (3 - κs.length) = zs at *
    unfold d5 at n1 nx0
    simp (disch := (first | omega | decide)) [c22, s22_0, s22_1, s22_4, s22_7, s22_8, s22_11, s22_12, s22_15, s22_16, s22_19, s22_20, s22_21, s22_24, s22_25, s22_26, s22_29, s22_30, s22_33, s22_36, s22_37, s22_38, s22_41, s22_42, s22_45, s22_46, s22_49, s22_50, s22_51, s22_52, s22_53, s22_56, s22_57, s22_58, s22_61, s22_62, s22_65, s22_66, s22_67, mq_k0s, mq_k1s, mq_k2s, mq_k4s, mq_k5s, mq_k5n, mq_k5as, mq_k6s, mj_pu, mj_lo, mj_br, mj_hr, mj_hw, mq_gf, mq_len, mq_al, mq_pf, mq_ok, mj_re, mq_lkm, mq_lkn, mj_ldi, mj_ldl, mj_lda, mj_ii, mj_ll, mj_li, mj_i1, ms_1, ms_2, f1_n, f1_i, f1_r, f1_u, f1_l, f2_n, f2_i, f2_r, f2_u, f2_l, mj_tg, mj_c1, mj_c2, mj_ar, mj_aw, mq_cb, mq_oi, mj_rm, Value.category, -getElem?_pos, List.getElem?_cons_zero, decide_eq_true, decide_eq_false, nl_lt, nl_le, ln_lt, ln_le, nl_eq, ln_eq, nl_add, ln_add, nl_sub, ln_mul, nI_sub, nI_mul, nI_add, nI_lt_iff, nI_le_iff, nI_inj, nI_num, mq_ix, nI_1, nl_mul, nl_div, x0, x1, e1, h3, ty5', defaultValue, nx0, n1, nk, p2, o25, o44, hr, mj_E, l25, cl_len, ty4, ix3, narrow, List.getElem?_set, l44, l25']
  · show ((M2.set 44 _).set 25 _)[25]? = _
    rw [List.getElem?_set_self (by simp; omega)]
    simp
  · exact z.tp.fr (hold3 _ (by unfold hA; omega) (by omega) (by omega)) (hold3 _ (by unfold hA; omega) (by omega) (by omega))
  · exact ⟨mm, hmm.fr (hold3 _ (by unfold hA; omega) (by omega) (by omega)) (hold3 _ (by unfold hA; omega) (by omega) (by omega))⟩
  · exact ⟨src, c, p, S', V, HH, E, N, hu.fr (fun a h1 h2 => hold3 a (by unfold hA; omega) (by omega) (by omega))⟩
  · show ((M2.set 44 _).set 25 _)[44]? = _
    rw [List.getElem?_set_ne (by omega), List.getElem?_set_self (by omega)]
  · rw [hold3 45 (by unfold hA; omega) (by omega) (by omega)]; exact z.ha
  · rw [hold3 66 (by unfold hA; omega) (by omega) (by omega)]; exact z.pa
  · intro i h hi
    have hil : i < H.2.2.2.1.length := (List.getElem?_eq_some_iff.mp hi).1
    have := z.hl
    exact (z.hd i h hi).fr (fun c hc => hold3 c (by unfold hA; omega) (by omega) (by omega))
  · intro i k κ h1 h2
    by_cases hi : i < κs.length
    · rw [List.getElem?_append_left (by omega)] at h1
      rw [List.getElem?_append_left hi] at h2
      have hm := List.mem_of_getElem? h2
      have := hbk κ hm
      refine (z.ky i k κ h1 h2).fr (fun c hc => ?_)
      rcases hc with hc | rfl | rfl
      · exact hold3 c (Or.inr (Or.inr (Or.inl ⟨κ, hm, hc⟩))) (by omega) (by omega)
      · exact hold3 1 (by unfold hA; omega) (by omega) (by omega)
      · exact hold3 2 (by unfold hA; omega) (by omega) (by omega)
    · have hi2 : i = κs.length := by
        have := (List.getElem?_eq_some_iff.mp h2).1
        simp at this
        omega
      subst hi2
      rw [kl] at h1
      simp at h1 h2
      subst h1
      subst h2
      have hb : kb M2 M.length K := (kb_mk_ z2.ob z2.st z2.cm z2.re z2.da z2.lo)
      exact hb.fr (fun c hc => e3 c (by omega) (by omega))
  · intro i q π h1 h2
    have hm := List.mem_of_getElem? h2
    have := hbp π hm
    exact (z.py i q π h1 h2).fr (fun c hc => hold3 c (Or.inr (Or.inr (Or.inr ⟨π, hm, hc⟩))) (by omega) (by omega))
  · simp [kl]
  · simp; omega
  · intro i hi
    exact (z.str i hi).fr (hold3 _ (by unfold hA; omega) (by omega) (by omega)) (hold3 _ (by unfold hA; omega) (by omega) (by omega))
  · rw [hold3 1 (by unfold hA; omega) (by omega) (by omega)]; exact z.s1
  · rw [hold3 2 (by unfold hA; omega) (by omega) (by omega)]; exact z.s2
  · intro i j a b h1 h2 hij
    by_cases hi : i < κs.length
    · rw [List.getElem?_append_left hi] at h1
      by_cases hj : j < κs.length
      · rw [List.getElem?_append_left hj] at h2
        exact z.dk i j a b h1 h2 hij
      · have := hin a (List.mem_of_getElem? h1)
        have hb : b = M.length := by
          rw [List.getElem?_append_right (by omega)] at h2
          have hl := (List.getElem?_eq_some_iff.mp h2).1
          simp at hl
          rw [hl] at h2
          simp at h2
          exact h2.symm
        omega
    · have ha : a = M.length := by
        rw [List.getElem?_append_right (by omega)] at h1
        have hl := (List.getElem?_eq_some_iff.mp h1).1
        simp at hl
        rw [hl] at h1
        simp at h1
        exact h1.symm
      by_cases hj : j < κs.length
      · rw [List.getElem?_append_left hj] at h2
        have := hin b (List.mem_of_getElem? h2)
        omega
      · have e1 := (List.getElem?_eq_some_iff.mp h1).1
        have e2 := (List.getElem?_eq_some_iff.mp h2).1
        simp at e1 e2
        omega
  · intro a ha b hb
    rcases List.mem_append.mp ha with ha | ha
    · exact z.dx a ha b hb
    · simp at ha
      subst ha
      have := hinp b hb
      omega
  · intro κ hκ
    rcases List.mem_append.mp hκ with h | h
    · exact hbk κ h
    · simp at h; omega
  · rw [List.length_append, List.length_singleton]
    have e : mj_sl M3 = mj_sl M2 := by simp only [mj_sl]; omega
    omega
  · rw [List.length_append, List.length_singleton]
    omega
  · exact ⟨by omega, fun c h1 h2 => hold3 c (by unfold hA; omega) (by omega) (by omega)⟩
end NW
end
