/- df.mresp -/
section
set_option maxRecDepth 512
/-! The model: entries of accounts, a response on the tape. -/
/- 365 PasskeyHouseModel.tellEntries(IIJII)V -/
theorem s365_0 {d : Nat} {ls : mj_L} {st : List Value} {M : mj_H} : mj_Rn d mj_m365 0 ls st M = mq_k0 d mj_m365 1 ls M (mj_lda (mj_lk ls 0) st) := mj_R0 (r := (.aload_n 0, 1, 0, 0, 0)) rfl rfl
theorem s365_1 {d : Nat} {ls : mj_L} {st : List Value} {M : mj_H} : mj_Rn d mj_m365 1 ls st M = mq_k0 d mj_m365 2 ls M (mj_ldi (mj_lk ls 1) st) := mj_R0 (r := (.iload_n 1, 1, 0, 0, 0)) rfl rfl
theorem s365_2 {d : Nat} {ls : mj_L} {st : List Value} {M : mj_H} : mj_Rn (d + 1) mj_m365 2 ls st M = mq_k5a (d + 1) mj_m365 5 ls M 279 (mq_cb 0 1 11 st M) := mj_R5e (r := (.invokevirtual 440, 3, 0, 279, 32967)) (z := mj_m279) rfl rfl (by decide) (by decide) rfl
theorem s365_5 {d : Nat} {ls : mj_L} {st : List Value} {M : mj_H} : mj_Rn d mj_m365 5 ls st M = mq_k0 d mj_m365 6 ls M (mj_lda (mj_lk ls 0) st) := mj_R0 (r := (.aload_n 0, 1, 0, 0, 0)) rfl rfl
theorem s365_6 {d : Nat} {ls : mj_L} {st : List Value} {M : mj_H} : mj_Rn d mj_m365 6 ls st M = mj_Rn d mj_m365 7 ls (.int 4 :: st) M := mj_R0 (r := (.iconst 4, 1, 0, 0, 0)) rfl rfl
theorem s365_7 {d : Nat} {ls : mj_L} {st : List Value} {M : mj_H} : mj_Rn d mj_m365 7 ls st M = mq_k0 d mj_m365 9 ls M (mj_ldi (mj_lk ls 6) st) := mj_R0 (r := (.iload 6, 2, 0, 0, 0)) rfl rfl
theorem s365_9 {d : Nat} {ls : mj_L} {st : List Value} {M : mj_H} : mj_Rn (d + 1) mj_m365 9 ls st M = mq_k5a (d + 1) mj_m365 12 ls M 281 (mq_cb 0 2 11 st M) := mj_R5e (r := (.invokevirtual 443, 3, 0, 281, 32975)) (z := mj_m281) rfl rfl (by decide) (by decide) rfl
theorem s365_12 {d : Nat} {ls : mj_L} {st : List Value} {M : mj_H} : mj_Rn d mj_m365 12 ls st M = mj_Rn d mj_m365 13 ls (.int 0 :: st) M := mj_R0 (r := (.iconst 0, 1, 0, 0, 0)) rfl rfl
theorem s365_13 {d : Nat} {ls : mj_L} {st : List Value} {M : mj_H} : mj_Rn d mj_m365 13 ls st M = mq_k1 d mj_m365 15 M (mj_lo 9 (.istore 7) ls st) := mj_R1 (r := (.istore 7, 2, 0, 0, 0)) rfl rfl
theorem s365_15 {d : Nat} {ls : mj_L} {st : List Value} {M : mj_H} : mj_Rn d mj_m365 15 ls st M = mq_k0 d mj_m365 17 ls M (mj_ldi (mj_lk ls 7) st) := mj_R0 (r := (.iload 7, 2, 0, 0, 0)) rfl rfl
theorem s365_17 {d : Nat} {ls : mj_L} {st : List Value} {M : mj_H} : mj_Rn d mj_m365 17 ls st M = mq_k0 d mj_m365 18 ls M (mj_lda (mj_lk ls 0) st) := mj_R0 (r := (.aload_n 0, 1, 0, 0, 0)) rfl rfl
theorem s365_18 {d : Nat} {ls : mj_L} {st : List Value} {M : mj_H} : mj_Rn d mj_m365 18 ls st M = mq_k0 d mj_m365 21 ls M (mq_gf 11 79 st M) := (mj_R3 (r := (.getfield 218, 3, 11, 79, 57466)) rfl rfl).trans (congrArg (mq_k0 d mj_m365 21 ls M) mq_gf_eq)
theorem s365_21 {d : Nat} {ls : mj_L} {st : List Value} {M : mj_H} : mj_Rn d mj_m365 21 ls st M = mq_k0 d mj_m365 22 ls M (mj_ldi (mj_lk ls 2) st) := mj_R0 (r := (.iload_n 2, 1, 0, 0, 0)) rfl rfl
theorem s365_22 {d : Nat} {ls : mj_L} {st : List Value} {M : mj_H} : mj_Rn d mj_m365 22 ls st M = mq_k0 d mj_m365 23 ls M (mq_al [1000] st M) := (mj_R3 (r := (.iaload, 1, 0, 0, 0)) rfl rfl).trans (congrArg (mq_k0 d mj_m365 23 ls M) mq_ali_eq)
theorem s365_23 {d : Nat} {ls : mj_L} {st : List Value} {M : mj_H} : mj_Rn d mj_m365 23 ls st M = mq_k2 d mj_m365 ls M (mj_br (.if_icmp .ge 88) 23 st) := mj_R2 (r := (.if_icmp .ge 88, 3, 0, 0, 0)) rfl rfl
theorem s365_26 {d : Nat} {ls : mj_L} {st : List Value} {M : mj_H} : mj_Rn d mj_m365 26 ls st M = mj_Rn d mj_m365 28 ls (.int 8 :: st) M := mj_R0 (r := (.bipush 8, 2, 0, 0, 0)) rfl rfl
theorem s365_28 {d : Nat} {ls : mj_L} {st : List Value} {M : mj_H} : mj_Rn d mj_m365 28 ls st M = mq_k0 d mj_m365 29 ls M (mj_ldi (mj_lk ls 2) st) := mj_R0 (r := (.iload_n 2, 1, 0, 0, 0)) rfl rfl
theorem s365_29 {d : Nat} {ls : mj_L} {st : List Value} {M : mj_H} : mj_Rn d mj_m365 29 ls st M = mq_k0 d mj_m365 30 ls M (mj_pu .imul ls st) := mj_R0 (r := (.imul, 1, 0, 0, 0)) rfl rfl
theorem s365_30 {d : Nat} {ls : mj_L} {st : List Value} {M : mj_H} : mj_Rn d mj_m365 30 ls st M = mq_k0 d mj_m365 32 ls M (mj_ldi (mj_lk ls 7) st) := mj_R0 (r := (.iload 7, 2, 0, 0, 0)) rfl rfl
theorem s365_32 {d : Nat} {ls : mj_L} {st : List Value} {M : mj_H} : mj_Rn d mj_m365 32 ls st M = mq_k0 d mj_m365 33 ls M (mj_pu .iadd ls st) := mj_R0 (r := (.iadd, 1, 0, 0, 0)) rfl rfl
theorem s365_33 {d : Nat} {ls : mj_L} {st : List Value} {M : mj_H} : mj_Rn d mj_m365 33 ls st M = mq_k1 d mj_m365 35 M (mj_lo 9 (.istore 8) ls st) := mj_R1 (r := (.istore 8, 2, 0, 0, 0)) rfl rfl
theorem s365_35 {d : Nat} {ls : mj_L} {st : List Value} {M : mj_H} : mj_Rn d mj_m365 35 ls st M = mq_k0 d mj_m365 36 ls M (mj_lda (mj_lk ls 0) st) := mj_R0 (r := (.aload_n 0, 1, 0, 0, 0)) rfl rfl
theorem s365_36 {d : Nat} {ls : mj_L} {st : List Value} {M : mj_H} : mj_Rn d mj_m365 36 ls st M = mq_k0 d mj_m365 37 ls M (mj_lda (mj_lk ls 0) st) := mj_R0 (r := (.aload_n 0, 1, 0, 0, 0)) rfl rfl
theorem s365_37 {d : Nat} {ls : mj_L} {st : List Value} {M : mj_H} : mj_Rn d mj_m365 37 ls st M = mq_k0 d mj_m365 40 ls M (mq_gf 11 84 st M) := (mj_R3 (r := (.getfield 233, 3, 11, 84, 57476)) rfl rfl).trans (congrArg (mq_k0 d mj_m365 40 ls M) mq_gf_eq)
theorem s365_40 {d : Nat} {ls : mj_L} {st : List Value} {M : mj_H} : mj_Rn d mj_m365 40 ls st M = mj_Rn d mj_m365 42 ls (.int 8 :: st) M := mj_R0 (r := (.bipush 8, 2, 0, 0, 0)) rfl rfl
theorem s365_42 {d : Nat} {ls : mj_L} {st : List Value} {M : mj_H} : mj_Rn d mj_m365 42 ls st M = mq_k0 d mj_m365 44 ls M (mj_ldi (mj_lk ls 8) st) := mj_R0 (r := (.iload 8, 2, 0, 0, 0)) rfl rfl
theorem s365_44 {d : Nat} {ls : mj_L} {st : List Value} {M : mj_H} : mj_Rn d mj_m365 44 ls st M = mq_k0 d mj_m365 45 ls M (mj_pu .imul ls st) := mj_R0 (r := (.imul, 1, 0, 0, 0)) rfl rfl
theorem s365_45 {d : Nat} {ls : mj_L} {st : List Value} {M : mj_H} : mj_Rn d mj_m365 45 ls st M = mq_k0 d mj_m365 46 ls M (mj_lda (mj_lk ls 0) st) := mj_R0 (r := (.aload_n 0, 1, 0, 0, 0)) rfl rfl
theorem s365_46 {d : Nat} {ls : mj_L} {st : List Value} {M : mj_H} : mj_Rn d mj_m365 46 ls st M = mq_k0 d mj_m365 49 ls M (mq_gf 11 85 st M) := (mj_R3 (r := (.getfield 236, 3, 11, 85, 57478)) rfl rfl).trans (congrArg (mq_k0 d mj_m365 49 ls M) mq_gf_eq)
theorem s365_49 {d : Nat} {ls : mj_L} {st : List Value} {M : mj_H} : mj_Rn d mj_m365 49 ls st M = mq_k0 d mj_m365 51 ls M (mj_ldi (mj_lk ls 8) st) := mj_R0 (r := (.iload 8, 2, 0, 0, 0)) rfl rfl
theorem s365_51 {d : Nat} {ls : mj_L} {st : List Value} {M : mj_H} : mj_Rn d mj_m365 51 ls st M = mq_k0 d mj_m365 52 ls M (mq_al [1000] st M) := (mj_R3 (r := (.iaload, 1, 0, 0, 0)) rfl rfl).trans (congrArg (mq_k0 d mj_m365 52 ls M) mq_ali_eq)
theorem s365_52 {d : Nat} {ls : mj_L} {st : List Value} {M : mj_H} : mj_Rn d mj_m365 52 ls st M = mq_k0 d mj_m365 53 ls M (mj_ldl (mj_lk ls 3) st) := mj_R0 (r := (.lload_n 3, 1, 0, 0, 0)) rfl rfl
theorem s365_53 {d : Nat} {ls : mj_L} {st : List Value} {M : mj_H} : mj_Rn d mj_m365 53 ls st M = mq_k0 d mj_m365 55 ls M (mj_ldi (mj_lk ls 5) st) := mj_R0 (r := (.iload 5, 2, 0, 0, 0)) rfl rfl
theorem s365_55 {d : Nat} {ls : mj_L} {st : List Value} {M : mj_H} : mj_Rn (d + 1) mj_m365 55 ls st M = mq_k5a (d + 1) mj_m365 58 ls M 363 (mq_cb 0 5 11 st M) := mj_R5e (r := (.invokevirtual 623, 3, 0, 363, 41020)) (z := mj_m363) rfl rfl (by decide) (by decide) rfl
theorem s365_58 {d : Nat} {ls : mj_L} {st : List Value} {M : mj_H} : mj_Rn d mj_m365 58 ls st M = mq_k2 d mj_m365 ls M (mj_br (.ifCond .eq 47) 58 st) := mj_R2 (r := (.ifCond .eq 47, 3, 0, 0, 0)) rfl rfl
theorem s365_61 {d : Nat} {ls : mj_L} {st : List Value} {M : mj_H} : mj_Rn d mj_m365 61 ls st M = mq_k0 d mj_m365 62 ls M (mj_lda (mj_lk ls 0) st) := mj_R0 (r := (.aload_n 0, 1, 0, 0, 0)) rfl rfl
theorem s365_62 {d : Nat} {ls : mj_L} {st : List Value} {M : mj_H} : mj_Rn d mj_m365 62 ls st M = mj_Rn d mj_m365 65 ls (.int 162 :: st) M := mj_R0 (r := (.sipush 162, 3, 0, 0, 0)) rfl rfl
theorem s365_65 {d : Nat} {ls : mj_L} {st : List Value} {M : mj_H} : mj_Rn (d + 1) mj_m365 65 ls st M = mq_k5a (d + 1) mj_m365 68 ls M 279 (mq_cb 0 1 11 st M) := mj_R5e (r := (.invokevirtual 440, 3, 0, 279, 32967)) (z := mj_m279) rfl rfl (by decide) (by decide) rfl
theorem s365_68 {d : Nat} {ls : mj_L} {st : List Value} {M : mj_H} : mj_Rn d mj_m365 68 ls st M = mq_k0 d mj_m365 69 ls M (mj_lda (mj_lk ls 0) st) := mj_R0 (r := (.aload_n 0, 1, 0, 0, 0)) rfl rfl
theorem s365_69 {d : Nat} {ls : mj_L} {st : List Value} {M : mj_H} : mj_Rn d mj_m365 69 ls st M = mj_Rn d mj_m365 72 ls (.int 26980 :: st) M := mj_R0 (r := (.sipush 26980, 3, 0, 0, 0)) rfl rfl
theorem s365_72 {d : Nat} {ls : mj_L} {st : List Value} {M : mj_H} : mj_Rn (d + 1) mj_m365 72 ls st M = mq_k5a (d + 1) mj_m365 75 ls M 282 (mq_cb 0 1 11 st M) := mj_R5e (r := (.invokevirtual 519, 3, 0, 282, 32979)) (z := mj_m282) rfl rfl (by decide) (by decide) rfl
theorem s365_75 {d : Nat} {ls : mj_L} {st : List Value} {M : mj_H} : mj_Rn d mj_m365 75 ls st M = mq_k0 d mj_m365 76 ls M (mj_lda (mj_lk ls 0) st) := mj_R0 (r := (.aload_n 0, 1, 0, 0, 0)) rfl rfl
theorem s365_76 {d : Nat} {ls : mj_L} {st : List Value} {M : mj_H} : mj_Rn d mj_m365 76 ls st M = mq_k0 d mj_m365 77 ls M (mj_lda (mj_lk ls 0) st) := mj_R0 (r := (.aload_n 0, 1, 0, 0, 0)) rfl rfl
theorem s365_77 {d : Nat} {ls : mj_L} {st : List Value} {M : mj_H} : mj_Rn d mj_m365 77 ls st M = mq_k0 d mj_m365 80 ls M (mq_gf 11 80 st M) := (mj_R3 (r := (.getfield 221, 3, 11, 80, 57468)) rfl rfl).trans (congrArg (mq_k0 d mj_m365 80 ls M) mq_gf_eq)
theorem s365_80 {d : Nat} {ls : mj_L} {st : List Value} {M : mj_H} : mj_Rn d mj_m365 80 ls st M = mq_k0 d mj_m365 82 ls M (mj_ldi (mj_lk ls 8) st) := mj_R0 (r := (.iload 8, 2, 0, 0, 0)) rfl rfl
theorem s365_82 {d : Nat} {ls : mj_L} {st : List Value} {M : mj_H} : mj_Rn d mj_m365 82 ls st M = mq_k0 d mj_m365 83 ls M (mq_al [1000] st M) := (mj_R3 (r := (.iaload, 1, 0, 0, 0)) rfl rfl).trans (congrArg (mq_k0 d mj_m365 83 ls M) mq_ali_eq)
theorem s365_83 {d : Nat} {ls : mj_L} {st : List Value} {M : mj_H} : mj_Rn (d + 1) mj_m365 83 ls st M = mq_k5a (d + 1) mj_m365 86 ls M 291 (mq_cb 0 1 11 st M) := mj_R5e (r := (.invokevirtual 522, 3, 0, 291, 36871)) (z := mj_m291) rfl rfl (by decide) (by decide) rfl
theorem s365_86 {d : Nat} {ls : mj_L} {st : List Value} {M : mj_H} : mj_Rn d mj_m365 86 ls st M = mq_k0 d mj_m365 87 ls M (mj_lda (mj_lk ls 0) st) := mj_R0 (r := (.aload_n 0, 1, 0, 0, 0)) rfl rfl
theorem s365_87 {d : Nat} {ls : mj_L} {st : List Value} {M : mj_H} : mj_Rn d mj_m365 87 ls st M = mj_Rn d mj_m365 90 ls (.int 1954115685 :: st) M := mj_R3 (r := (.ldc_w 426, 3, 0, 24, 36875)) rfl rfl
theorem s365_90 {d : Nat} {ls : mj_L} {st : List Value} {M : mj_H} : mj_Rn (d + 1) mj_m365 90 ls st M = mq_k5a (d + 1) mj_m365 93 ls M 282 (mq_cb 0 1 11 st M) := mj_R5e (r := (.invokevirtual 519, 3, 0, 282, 32979)) (z := mj_m282) rfl rfl (by decide) (by decide) rfl
theorem s365_93 {d : Nat} {ls : mj_L} {st : List Value} {M : mj_H} : mj_Rn d mj_m365 93 ls st M = mq_k0 d mj_m365 94 ls M (mj_lda (mj_lk ls 0) st) := mj_R0 (r := (.aload_n 0, 1, 0, 0, 0)) rfl rfl
theorem s365_94 {d : Nat} {ls : mj_L} {st : List Value} {M : mj_H} : mj_Rn d mj_m365 94 ls st M = mj_Rn d mj_m365 95 ls (.int 3 :: st) M := mj_R0 (r := (.iconst 3, 1, 0, 0, 0)) rfl rfl
theorem s365_95 {d : Nat} {ls : mj_L} {st : List Value} {M : mj_H} : mj_Rn d mj_m365 95 ls st M = mq_k0 d mj_m365 96 ls M (mj_lda (mj_lk ls 0) st) := mj_R0 (r := (.aload_n 0, 1, 0, 0, 0)) rfl rfl
theorem s365_96 {d : Nat} {ls : mj_L} {st : List Value} {M : mj_H} : mj_Rn d mj_m365 96 ls st M = mq_k0 d mj_m365 99 ls M (mq_gf 11 52 st M) := (mj_R3 (r := (.getfield 143, 3, 11, 52, 57412)) rfl rfl).trans (congrArg (mq_k0 d mj_m365 99 ls M) mq_gf_eq)
theorem s365_99 {d : Nat} {ls : mj_L} {st : List Value} {M : mj_H} : mj_Rn d mj_m365 99 ls st M = mj_Rn d mj_m365 100 ls (.int 0 :: st) M := mj_R0 (r := (.iconst 0, 1, 0, 0, 0)) rfl rfl
theorem s365_100 {d : Nat} {ls : mj_L} {st : List Value} {M : mj_H} : mj_Rn d mj_m365 100 ls st M = mj_Rn d mj_m365 102 ls (.int 10 :: st) M := mj_R0 (r := (.bipush 10, 2, 0, 0, 0)) rfl rfl
theorem s365_102 {d : Nat} {ls : mj_L} {st : List Value} {M : mj_H} : mj_Rn (d + 1) mj_m365 102 ls st M = mq_k5a (d + 1) mj_m365 105 ls M 280 (mq_cb 0 4 11 st M) := mj_R5e (r := (.invokevirtual 515, 3, 0, 280, 32971)) (z := mj_m280) rfl rfl (by decide) (by decide) rfl
theorem s365_105 {d : Nat} {ls : mj_L} {st : List Value} {M : mj_H} : mj_Rn d mj_m365 105 ls st M = mq_k1 d mj_m365 108 M (mj_lo 9 (.iinc 7 1) ls st) := mj_R1 (r := (.iinc 7 1, 3, 0, 0, 0)) rfl rfl
theorem s365_108 {d : Nat} {ls : mj_L} {st : List Value} {M : mj_H} : mj_Rn d mj_m365 108 ls st M = mj_Rn d mj_m365 15 ls st M := mj_R2 (r := (.goto (-93), 3, 0, 0, 0)) rfl rfl
theorem s365_111 {d : Nat} {ls : mj_L} {st : List Value} {M : mj_H} : mj_Rn d mj_m365 111 ls st M = mq_k6 M (mj_re none (.return_) st) := mj_R6 (r := (.return_, 1, 0, 0, 0)) rfl rfl
/- 366 PasskeyHouseModel.respond(IIIIIII)V -/
theorem s366_0 {d : Nat} {ls : mj_L} {st : List Value} {M : mj_H} : mj_Rn d mj_m366 0 ls st M = mj_Rn d mj_m366 3 ls (.int 400 :: st) M := mj_R0 (r := (.sipush 400, 3, 0, 0, 0)) rfl rfl
theorem s366_3 {d : Nat} {ls : mj_L} {st : List Value} {M : mj_H} : mj_Rn d mj_m366 3 ls st M = mq_k0 d mj_m366 4 ls M (mj_ldi (mj_lk ls 2) st) := mj_R0 (r := (.iload_n 2, 1, 0, 0, 0)) rfl rfl
theorem s366_4 {d : Nat} {ls : mj_L} {st : List Value} {M : mj_H} : mj_Rn d mj_m366 4 ls st M = mq_k0 d mj_m366 5 ls M (mj_pu .imul ls st) := mj_R0 (r := (.imul, 1, 0, 0, 0)) rfl rfl
theorem s366_5 {d : Nat} {ls : mj_L} {st : List Value} {M : mj_H} : mj_Rn d mj_m366 5 ls st M = mq_k1 d mj_m366 7 M (mj_lo 10 (.istore 8) ls st) := mj_R1 (r := (.istore 8, 2, 0, 0, 0)) rfl rfl
theorem s366_7 {d : Nat} {ls : mj_L} {st : List Value} {M : mj_H} : mj_Rn d mj_m366 7 ls st M = mq_k0 d mj_m366 8 ls M (mj_lda (mj_lk ls 0) st) := mj_R0 (r := (.aload_n 0, 1, 0, 0, 0)) rfl rfl
theorem s366_8 {d : Nat} {ls : mj_L} {st : List Value} {M : mj_H} : mj_Rn d mj_m366 8 ls st M = mq_k0 d mj_m366 11 ls M (mq_gf 11 10 st M) := (mj_R3 (r := (.getfield 27, 3, 11, 10, 49616)) rfl rfl).trans (congrArg (mq_k0 d mj_m366 11 ls M) mq_gf_eq)
theorem s366_11 {d : Nat} {ls : mj_L} {st : List Value} {M : mj_H} : mj_Rn d mj_m366 11 ls st M = mj_Rn d mj_m366 12 ls (.int 0 :: st) M := mj_R0 (r := (.iconst 0, 1, 0, 0, 0)) rfl rfl
theorem s366_12 {d : Nat} {ls : mj_L} {st : List Value} {M : mj_H} : mj_Rn d mj_m366 12 ls st M = mq_k0 d mj_m366 13 ls M (mj_ldi (mj_lk ls 3) st) := mj_R0 (r := (.iload_n 3, 1, 0, 0, 0)) rfl rfl
theorem s366_13 {d : Nat} {ls : mj_L} {st : List Value} {M : mj_H} : mj_Rn d mj_m366 13 ls st M = mq_k4 d mj_m366 14 ls (mj_hw (.iastore, 1, 0, 0, 0) st M) := mj_R4 (r := (.iastore, 1, 0, 0, 0)) rfl rfl
theorem s366_14 {d : Nat} {ls : mj_L} {st : List Value} {M : mj_H} : mj_Rn d mj_m366 14 ls st M = mq_k0 d mj_m366 15 ls M (mj_lda (mj_lk ls 0) st) := mj_R0 (r := (.aload_n 0, 1, 0, 0, 0)) rfl rfl
theorem s366_15 {d : Nat} {ls : mj_L} {st : List Value} {M : mj_H} : mj_Rn d mj_m366 15 ls st M = mq_k0 d mj_m366 18 ls M (mq_gf 11 10 st M) := (mj_R3 (r := (.getfield 27, 3, 11, 10, 49616)) rfl rfl).trans (congrArg (mq_k0 d mj_m366 18 ls M) mq_gf_eq)
theorem s366_18 {d : Nat} {ls : mj_L} {st : List Value} {M : mj_H} : mj_Rn d mj_m366 18 ls st M = mj_Rn d mj_m366 19 ls (.int 1 :: st) M := mj_R0 (r := (.iconst 1, 1, 0, 0, 0)) rfl rfl
theorem s366_19 {d : Nat} {ls : mj_L} {st : List Value} {M : mj_H} : mj_Rn d mj_m366 19 ls st M = mq_k0 d mj_m366 21 ls M (mj_ldi (mj_lk ls 4) st) := mj_R0 (r := (.iload 4, 2, 0, 0, 0)) rfl rfl
theorem s366_21 {d : Nat} {ls : mj_L} {st : List Value} {M : mj_H} : mj_Rn (d + 1) mj_m366 21 ls st M = mq_k5a (d + 1) mj_m366 24 ls M 250 (mq_cb 2 3 11 st M) := mj_R5e (r := (.invokestatic 320, 3, 2, 250, 32854)) (z := mj_m250) rfl rfl (by decide) (by decide) rfl
theorem s366_24 {d : Nat} {ls : mj_L} {st : List Value} {M : mj_H} : mj_Rn d mj_m366 24 ls st M = mq_k1 d mj_m366 26 M (mj_lo 10 (.istore 9) ls st) := mj_R1 (r := (.istore 9, 2, 0, 0, 0)) rfl rfl
theorem s366_26 {d : Nat} {ls : mj_L} {st : List Value} {M : mj_H} : mj_Rn d mj_m366 26 ls st M = mq_k0 d mj_m366 27 ls M (mj_lda (mj_lk ls 0) st) := mj_R0 (r := (.aload_n 0, 1, 0, 0, 0)) rfl rfl
theorem s366_27 {d : Nat} {ls : mj_L} {st : List Value} {M : mj_H} : mj_Rn d mj_m366 27 ls st M = mq_k0 d mj_m366 30 ls M (mq_gf 11 10 st M) := (mj_R3 (r := (.getfield 27, 3, 11, 10, 49616)) rfl rfl).trans (congrArg (mq_k0 d mj_m366 30 ls M) mq_gf_eq)
theorem s366_30 {d : Nat} {ls : mj_L} {st : List Value} {M : mj_H} : mj_Rn d mj_m366 30 ls st M = mq_k0 d mj_m366 32 ls M (mj_ldi (mj_lk ls 9) st) := mj_R0 (r := (.iload 9, 2, 0, 0, 0)) rfl rfl
theorem s366_32 {d : Nat} {ls : mj_L} {st : List Value} {M : mj_H} : mj_Rn d mj_m366 32 ls st M = mq_k0 d mj_m366 33 ls M (mj_lda (mj_lk ls 0) st) := mj_R0 (r := (.aload_n 0, 1, 0, 0, 0)) rfl rfl
theorem s366_33 {d : Nat} {ls : mj_L} {st : List Value} {M : mj_H} : mj_Rn d mj_m366 33 ls st M = mq_k0 d mj_m366 36 ls M (mq_gf 11 67 st M) := (mj_R3 (r := (.getfield 185, 3, 11, 67, 57442)) rfl rfl).trans (congrArg (mq_k0 d mj_m366 36 ls M) mq_gf_eq)
theorem s366_36 {d : Nat} {ls : mj_L} {st : List Value} {M : mj_H} : mj_Rn d mj_m366 36 ls st M = mq_k0 d mj_m366 37 ls M (mj_ldi (mj_lk ls 1) st) := mj_R0 (r := (.iload_n 1, 1, 0, 0, 0)) rfl rfl
theorem s366_37 {d : Nat} {ls : mj_L} {st : List Value} {M : mj_H} : mj_Rn d mj_m366 37 ls st M = mq_k0 d mj_m366 38 ls M (mq_al [1000] st M) := (mj_R3 (r := (.iaload, 1, 0, 0, 0)) rfl rfl).trans (congrArg (mq_k0 d mj_m366 38 ls M) mq_ali_eq)
theorem s366_38 {d : Nat} {ls : mj_L} {st : List Value} {M : mj_H} : mj_Rn d mj_m366 38 ls st M = mq_k4 d mj_m366 39 ls (mj_hw (.iastore, 1, 0, 0, 0) st M) := mj_R4 (r := (.iastore, 1, 0, 0, 0)) rfl rfl
theorem s366_39 {d : Nat} {ls : mj_L} {st : List Value} {M : mj_H} : mj_Rn d mj_m366 39 ls st M = mq_k0 d mj_m366 40 ls M (mj_lda (mj_lk ls 0) st) := mj_R0 (r := (.aload_n 0, 1, 0, 0, 0)) rfl rfl
theorem s366_40 {d : Nat} {ls : mj_L} {st : List Value} {M : mj_H} : mj_Rn d mj_m366 40 ls st M = mq_k0 d mj_m366 43 ls M (mq_gf 11 66 st M) := (mj_R3 (r := (.getfield 182, 3, 11, 66, 57440)) rfl rfl).trans (congrArg (mq_k0 d mj_m366 43 ls M) mq_gf_eq)
theorem s366_43 {d : Nat} {ls : mj_L} {st : List Value} {M : mj_H} : mj_Rn d mj_m366 43 ls st M = mj_Rn d mj_m366 45 ls (.int 40 :: st) M := mj_R0 (r := (.bipush 40, 2, 0, 0, 0)) rfl rfl
theorem s366_45 {d : Nat} {ls : mj_L} {st : List Value} {M : mj_H} : mj_Rn d mj_m366 45 ls st M = mq_k0 d mj_m366 46 ls M (mj_ldi (mj_lk ls 1) st) := mj_R0 (r := (.iload_n 1, 1, 0, 0, 0)) rfl rfl
theorem s366_46 {d : Nat} {ls : mj_L} {st : List Value} {M : mj_H} : mj_Rn d mj_m366 46 ls st M = mq_k0 d mj_m366 47 ls M (mj_pu .imul ls st) := mj_R0 (r := (.imul, 1, 0, 0, 0)) rfl rfl
theorem s366_47 {d : Nat} {ls : mj_L} {st : List Value} {M : mj_H} : mj_Rn d mj_m366 47 ls st M = mq_k0 d mj_m366 48 ls M (mj_lda (mj_lk ls 0) st) := mj_R0 (r := (.aload_n 0, 1, 0, 0, 0)) rfl rfl
theorem s366_48 {d : Nat} {ls : mj_L} {st : List Value} {M : mj_H} : mj_Rn d mj_m366 48 ls st M = mq_k0 d mj_m366 51 ls M (mq_gf 11 10 st M) := (mj_R3 (r := (.getfield 27, 3, 11, 10, 49616)) rfl rfl).trans (congrArg (mq_k0 d mj_m366 51 ls M) mq_gf_eq)
theorem s366_51 {d : Nat} {ls : mj_L} {st : List Value} {M : mj_H} : mj_Rn d mj_m366 51 ls st M = mq_k0 d mj_m366 53 ls M (mj_ldi (mj_lk ls 9) st) := mj_R0 (r := (.iload 9, 2, 0, 0, 0)) rfl rfl
theorem s366_53 {d : Nat} {ls : mj_L} {st : List Value} {M : mj_H} : mj_Rn d mj_m366 53 ls st M = mj_Rn d mj_m366 54 ls (.int 1 :: st) M := mj_R0 (r := (.iconst 1, 1, 0, 0, 0)) rfl rfl
theorem s366_54 {d : Nat} {ls : mj_L} {st : List Value} {M : mj_H} : mj_Rn d mj_m366 54 ls st M = mq_k0 d mj_m366 55 ls M (mj_pu .iadd ls st) := mj_R0 (r := (.iadd, 1, 0, 0, 0)) rfl rfl
theorem s366_55 {d : Nat} {ls : mj_L} {st : List Value} {M : mj_H} : mj_Rn d mj_m366 55 ls st M = mq_k0 d mj_m366 56 ls M (mj_lda (mj_lk ls 0) st) := mj_R0 (r := (.aload_n 0, 1, 0, 0, 0)) rfl rfl
theorem s366_56 {d : Nat} {ls : mj_L} {st : List Value} {M : mj_H} : mj_Rn d mj_m366 56 ls st M = mq_k0 d mj_m366 59 ls M (mq_gf 11 67 st M) := (mj_R3 (r := (.getfield 185, 3, 11, 67, 57442)) rfl rfl).trans (congrArg (mq_k0 d mj_m366 59 ls M) mq_gf_eq)
theorem s366_59 {d : Nat} {ls : mj_L} {st : List Value} {M : mj_H} : mj_Rn d mj_m366 59 ls st M = mq_k0 d mj_m366 60 ls M (mj_ldi (mj_lk ls 1) st) := mj_R0 (r := (.iload_n 1, 1, 0, 0, 0)) rfl rfl
theorem s366_60 {d : Nat} {ls : mj_L} {st : List Value} {M : mj_H} : mj_Rn d mj_m366 60 ls st M = mq_k0 d mj_m366 61 ls M (mq_al [1000] st M) := (mj_R3 (r := (.iaload, 1, 0, 0, 0)) rfl rfl).trans (congrArg (mq_k0 d mj_m366 61 ls M) mq_ali_eq)
theorem s366_61 {d : Nat} {ls : mj_L} {st : List Value} {M : mj_H} : mj_Rn (d + 1) mj_m366 61 ls st M = mq_k4 (d + 1) mj_m366 64 ls (mq_cpr st M) := mj_R5ce (r := (.invokestatic 248, 3, 7, 0, 32847)) rfl rfl rfl
theorem s366_64 {d : Nat} {ls : mj_L} {st : List Value} {M : mj_H} : mj_Rn d mj_m366 64 ls st M = mq_k0 d mj_m366 66 ls M (mj_ldi (mj_lk ls 9) st) := mj_R0 (r := (.iload 9, 2, 0, 0, 0)) rfl rfl
theorem s366_66 {d : Nat} {ls : mj_L} {st : List Value} {M : mj_H} : mj_Rn d mj_m366 66 ls st M = mj_Rn d mj_m366 67 ls (.int 1 :: st) M := mj_R0 (r := (.iconst 1, 1, 0, 0, 0)) rfl rfl
theorem s366_67 {d : Nat} {ls : mj_L} {st : List Value} {M : mj_H} : mj_Rn d mj_m366 67 ls st M = mq_k0 d mj_m366 68 ls M (mj_lda (mj_lk ls 0) st) := mj_R0 (r := (.aload_n 0, 1, 0, 0, 0)) rfl rfl
theorem s366_68 {d : Nat} {ls : mj_L} {st : List Value} {M : mj_H} : mj_Rn d mj_m366 68 ls st M = mq_k0 d mj_m366 71 ls M (mq_gf 11 67 st M) := (mj_R3 (r := (.getfield 185, 3, 11, 67, 57442)) rfl rfl).trans (congrArg (mq_k0 d mj_m366 71 ls M) mq_gf_eq)
theorem s366_71 {d : Nat} {ls : mj_L} {st : List Value} {M : mj_H} : mj_Rn d mj_m366 71 ls st M = mq_k0 d mj_m366 72 ls M (mj_ldi (mj_lk ls 1) st) := mj_R0 (r := (.iload_n 1, 1, 0, 0, 0)) rfl rfl
theorem s366_72 {d : Nat} {ls : mj_L} {st : List Value} {M : mj_H} : mj_Rn d mj_m366 72 ls st M = mq_k0 d mj_m366 73 ls M (mq_al [1000] st M) := (mj_R3 (r := (.iaload, 1, 0, 0, 0)) rfl rfl).trans (congrArg (mq_k0 d mj_m366 73 ls M) mq_ali_eq)
theorem s366_73 {d : Nat} {ls : mj_L} {st : List Value} {M : mj_H} : mj_Rn d mj_m366 73 ls st M = mq_k0 d mj_m366 74 ls M (mj_pu .iadd ls st) := mj_R0 (r := (.iadd, 1, 0, 0, 0)) rfl rfl
theorem s366_74 {d : Nat} {ls : mj_L} {st : List Value} {M : mj_H} : mj_Rn d mj_m366 74 ls st M = mq_k0 d mj_m366 75 ls M (mj_pu .iadd ls st) := mj_R0 (r := (.iadd, 1, 0, 0, 0)) rfl rfl
theorem s366_75 {d : Nat} {ls : mj_L} {st : List Value} {M : mj_H} : mj_Rn d mj_m366 75 ls st M = mq_k1 d mj_m366 77 M (mj_lo 10 (.istore 9) ls st) := mj_R1 (r := (.istore 9, 2, 0, 0, 0)) rfl rfl
theorem s366_77 {d : Nat} {ls : mj_L} {st : List Value} {M : mj_H} : mj_Rn d mj_m366 77 ls st M = mq_k0 d mj_m366 78 ls M (mj_lda (mj_lk ls 0) st) := mj_R0 (r := (.aload_n 0, 1, 0, 0, 0)) rfl rfl
theorem s366_78 {d : Nat} {ls : mj_L} {st : List Value} {M : mj_H} : mj_Rn d mj_m366 78 ls st M = mq_k0 d mj_m366 81 ls M (mq_gf 11 53 st M) := (mj_R3 (r := (.getfield 146, 3, 11, 53, 57414)) rfl rfl).trans (congrArg (mq_k0 d mj_m366 81 ls M) mq_gf_eq)
theorem s366_81 {d : Nat} {ls : mj_L} {st : List Value} {M : mj_H} : mj_Rn d mj_m366 81 ls st M = mq_k0 d mj_m366 83 ls M (mj_ldi (mj_lk ls 8) st) := mj_R0 (r := (.iload 8, 2, 0, 0, 0)) rfl rfl
theorem s366_83 {d : Nat} {ls : mj_L} {st : List Value} {M : mj_H} : mj_Rn d mj_m366 83 ls st M = mq_k0 d mj_m366 85 ls M (mj_ldi (mj_lk ls 5) st) := mj_R0 (r := (.iload 5, 2, 0, 0, 0)) rfl rfl
theorem s366_85 {d : Nat} {ls : mj_L} {st : List Value} {M : mj_H} : mj_Rn d mj_m366 85 ls st M = mq_k0 d mj_m366 86 ls M (mj_pu .iadd ls st) := mj_R0 (r := (.iadd, 1, 0, 0, 0)) rfl rfl
theorem s366_86 {d : Nat} {ls : mj_L} {st : List Value} {M : mj_H} : mj_Rn d mj_m366 86 ls st M = mq_k0 d mj_m366 87 ls M (mj_lda (mj_lk ls 0) st) := mj_R0 (r := (.aload_n 0, 1, 0, 0, 0)) rfl rfl
theorem s366_87 {d : Nat} {ls : mj_L} {st : List Value} {M : mj_H} : mj_Rn d mj_m366 87 ls st M = mq_k0 d mj_m366 90 ls M (mq_gf 11 10 st M) := (mj_R3 (r := (.getfield 27, 3, 11, 10, 49616)) rfl rfl).trans (congrArg (mq_k0 d mj_m366 90 ls M) mq_gf_eq)
theorem s366_90 {d : Nat} {ls : mj_L} {st : List Value} {M : mj_H} : mj_Rn d mj_m366 90 ls st M = mq_k0 d mj_m366 92 ls M (mj_ldi (mj_lk ls 9) st) := mj_R0 (r := (.iload 9, 2, 0, 0, 0)) rfl rfl
theorem s366_92 {d : Nat} {ls : mj_L} {st : List Value} {M : mj_H} : mj_Rn d mj_m366 92 ls st M = mj_Rn d mj_m366 93 ls (.int 4 :: st) M := mj_R0 (r := (.iconst 4, 1, 0, 0, 0)) rfl rfl
theorem s366_93 {d : Nat} {ls : mj_L} {st : List Value} {M : mj_H} : mj_Rn (d + 1) mj_m366 93 ls st M = mq_k4 (d + 1) mj_m366 96 ls (mq_cpr st M) := mj_R5ce (r := (.invokestatic 248, 3, 7, 0, 32847)) rfl rfl rfl
theorem s366_96 {d : Nat} {ls : mj_L} {st : List Value} {M : mj_H} : mj_Rn d mj_m366 96 ls st M = mq_k0 d mj_m366 97 ls M (mj_lda (mj_lk ls 0) st) := mj_R0 (r := (.aload_n 0, 1, 0, 0, 0)) rfl rfl
theorem s366_97 {d : Nat} {ls : mj_L} {st : List Value} {M : mj_H} : mj_Rn d mj_m366 97 ls st M = mq_k0 d mj_m366 100 ls M (mq_gf 11 10 st M) := (mj_R3 (r := (.getfield 27, 3, 11, 10, 49616)) rfl rfl).trans (congrArg (mq_k0 d mj_m366 100 ls M) mq_gf_eq)
theorem s366_100 {d : Nat} {ls : mj_L} {st : List Value} {M : mj_H} : mj_Rn d mj_m366 100 ls st M = mq_k0 d mj_m366 102 ls M (mj_ldi (mj_lk ls 9) st) := mj_R0 (r := (.iload 9, 2, 0, 0, 0)) rfl rfl
theorem s366_102 {d : Nat} {ls : mj_L} {st : List Value} {M : mj_H} : mj_Rn d mj_m366 102 ls st M = mj_Rn d mj_m366 103 ls (.int 4 :: st) M := mj_R0 (r := (.iconst 4, 1, 0, 0, 0)) rfl rfl
theorem s366_103 {d : Nat} {ls : mj_L} {st : List Value} {M : mj_H} : mj_Rn d mj_m366 103 ls st M = mq_k0 d mj_m366 104 ls M (mj_pu .iadd ls st) := mj_R0 (r := (.iadd, 1, 0, 0, 0)) rfl rfl
theorem s366_104 {d : Nat} {ls : mj_L} {st : List Value} {M : mj_H} : mj_Rn d mj_m366 104 ls st M = mq_k0 d mj_m366 106 ls M (mj_ldi (mj_lk ls 7) st) := mj_R0 (r := (.iload 7, 2, 0, 0, 0)) rfl rfl
theorem s366_106 {d : Nat} {ls : mj_L} {st : List Value} {M : mj_H} : mj_Rn d mj_m366 106 ls st M = mq_k4 d mj_m366 107 ls (mj_hw (.iastore, 1, 0, 0, 0) st M) := mj_R4 (r := (.iastore, 1, 0, 0, 0)) rfl rfl
theorem s366_107 {d : Nat} {ls : mj_L} {st : List Value} {M : mj_H} : mj_Rn d mj_m366 107 ls st M = mq_k0 d mj_m366 108 ls M (mj_lda (mj_lk ls 0) st) := mj_R0 (r := (.aload_n 0, 1, 0, 0, 0)) rfl rfl
theorem s366_108 {d : Nat} {ls : mj_L} {st : List Value} {M : mj_H} : mj_Rn d mj_m366 108 ls st M = mq_k0 d mj_m366 111 ls M (mq_gf 11 53 st M) := (mj_R3 (r := (.getfield 146, 3, 11, 53, 57414)) rfl rfl).trans (congrArg (mq_k0 d mj_m366 111 ls M) mq_gf_eq)
theorem s366_111 {d : Nat} {ls : mj_L} {st : List Value} {M : mj_H} : mj_Rn d mj_m366 111 ls st M = mq_k0 d mj_m366 113 ls M (mj_ldi (mj_lk ls 8) st) := mj_R0 (r := (.iload 8, 2, 0, 0, 0)) rfl rfl
theorem s366_113 {d : Nat} {ls : mj_L} {st : List Value} {M : mj_H} : mj_Rn d mj_m366 113 ls st M = mq_k0 d mj_m366 115 ls M (mj_ldi (mj_lk ls 6) st) := mj_R0 (r := (.iload 6, 2, 0, 0, 0)) rfl rfl
theorem s366_115 {d : Nat} {ls : mj_L} {st : List Value} {M : mj_H} : mj_Rn d mj_m366 115 ls st M = mq_k0 d mj_m366 116 ls M (mj_pu .iadd ls st) := mj_R0 (r := (.iadd, 1, 0, 0, 0)) rfl rfl
theorem s366_116 {d : Nat} {ls : mj_L} {st : List Value} {M : mj_H} : mj_Rn d mj_m366 116 ls st M = mq_k0 d mj_m366 117 ls M (mj_lda (mj_lk ls 0) st) := mj_R0 (r := (.aload_n 0, 1, 0, 0, 0)) rfl rfl
theorem s366_117 {d : Nat} {ls : mj_L} {st : List Value} {M : mj_H} : mj_Rn d mj_m366 117 ls st M = mq_k0 d mj_m366 120 ls M (mq_gf 11 10 st M) := (mj_R3 (r := (.getfield 27, 3, 11, 10, 49616)) rfl rfl).trans (congrArg (mq_k0 d mj_m366 120 ls M) mq_gf_eq)
theorem s366_120 {d : Nat} {ls : mj_L} {st : List Value} {M : mj_H} : mj_Rn d mj_m366 120 ls st M = mq_k0 d mj_m366 122 ls M (mj_ldi (mj_lk ls 9) st) := mj_R0 (r := (.iload 9, 2, 0, 0, 0)) rfl rfl
theorem s366_122 {d : Nat} {ls : mj_L} {st : List Value} {M : mj_H} : mj_Rn d mj_m366 122 ls st M = mj_Rn d mj_m366 123 ls (.int 5 :: st) M := mj_R0 (r := (.iconst 5, 1, 0, 0, 0)) rfl rfl
theorem s366_123 {d : Nat} {ls : mj_L} {st : List Value} {M : mj_H} : mj_Rn d mj_m366 123 ls st M = mq_k0 d mj_m366 124 ls M (mj_pu .iadd ls st) := mj_R0 (r := (.iadd, 1, 0, 0, 0)) rfl rfl
theorem s366_124 {d : Nat} {ls : mj_L} {st : List Value} {M : mj_H} : mj_Rn d mj_m366 124 ls st M = mq_k0 d mj_m366 126 ls M (mj_ldi (mj_lk ls 7) st) := mj_R0 (r := (.iload 7, 2, 0, 0, 0)) rfl rfl
theorem s366_126 {d : Nat} {ls : mj_L} {st : List Value} {M : mj_H} : mj_Rn (d + 1) mj_m366 126 ls st M = mq_k4 (d + 1) mj_m366 129 ls (mq_cpr st M) := mj_R5ce (r := (.invokestatic 248, 3, 7, 0, 32847)) rfl rfl rfl
theorem s366_129 {d : Nat} {ls : mj_L} {st : List Value} {M : mj_H} : mj_Rn d mj_m366 129 ls st M = mq_k0 d mj_m366 131 ls M (mj_ldi (mj_lk ls 9) st) := mj_R0 (r := (.iload 9, 2, 0, 0, 0)) rfl rfl
theorem s366_131 {d : Nat} {ls : mj_L} {st : List Value} {M : mj_H} : mj_Rn d mj_m366 131 ls st M = mj_Rn d mj_m366 132 ls (.int 5 :: st) M := mj_R0 (r := (.iconst 5, 1, 0, 0, 0)) rfl rfl
theorem s366_132 {d : Nat} {ls : mj_L} {st : List Value} {M : mj_H} : mj_Rn d mj_m366 132 ls st M = mq_k0 d mj_m366 134 ls M (mj_ldi (mj_lk ls 7) st) := mj_R0 (r := (.iload 7, 2, 0, 0, 0)) rfl rfl
theorem s366_134 {d : Nat} {ls : mj_L} {st : List Value} {M : mj_H} : mj_Rn d mj_m366 134 ls st M = mq_k0 d mj_m366 135 ls M (mj_pu .iadd ls st) := mj_R0 (r := (.iadd, 1, 0, 0, 0)) rfl rfl
theorem s366_135 {d : Nat} {ls : mj_L} {st : List Value} {M : mj_H} : mj_Rn d mj_m366 135 ls st M = mq_k0 d mj_m366 136 ls M (mj_pu .iadd ls st) := mj_R0 (r := (.iadd, 1, 0, 0, 0)) rfl rfl
theorem s366_136 {d : Nat} {ls : mj_L} {st : List Value} {M : mj_H} : mj_Rn d mj_m366 136 ls st M = mq_k1 d mj_m366 138 M (mj_lo 10 (.istore 9) ls st) := mj_R1 (r := (.istore 9, 2, 0, 0, 0)) rfl rfl
theorem s366_138 {d : Nat} {ls : mj_L} {st : List Value} {M : mj_H} : mj_Rn d mj_m366 138 ls st M = mq_k0 d mj_m366 139 ls M (mj_lda (mj_lk ls 0) st) := mj_R0 (r := (.aload_n 0, 1, 0, 0, 0)) rfl rfl
theorem s366_139 {d : Nat} {ls : mj_L} {st : List Value} {M : mj_H} : mj_Rn d mj_m366 139 ls st M = mq_k0 d mj_m366 142 ls M (mq_gf 11 53 st M) := (mj_R3 (r := (.getfield 146, 3, 11, 53, 57414)) rfl rfl).trans (congrArg (mq_k0 d mj_m366 142 ls M) mq_gf_eq)
theorem s366_142 {d : Nat} {ls : mj_L} {st : List Value} {M : mj_H} : mj_Rn d mj_m366 142 ls st M = mq_k0 d mj_m366 144 ls M (mj_ldi (mj_lk ls 8) st) := mj_R0 (r := (.iload 8, 2, 0, 0, 0)) rfl rfl
theorem s366_144 {d : Nat} {ls : mj_L} {st : List Value} {M : mj_H} : mj_Rn d mj_m366 144 ls st M = mj_Rn d mj_m366 146 ls (.int 41 :: st) M := mj_R0 (r := (.bipush 41, 2, 0, 0, 0)) rfl rfl
theorem s366_146 {d : Nat} {ls : mj_L} {st : List Value} {M : mj_H} : mj_Rn d mj_m366 146 ls st M = mq_k0 d mj_m366 147 ls M (mj_pu .iadd ls st) := mj_R0 (r := (.iadd, 1, 0, 0, 0)) rfl rfl
theorem s366_147 {d : Nat} {ls : mj_L} {st : List Value} {M : mj_H} : mj_Rn d mj_m366 147 ls st M = mq_k0 d mj_m366 148 ls M (mj_lda (mj_lk ls 0) st) := mj_R0 (r := (.aload_n 0, 1, 0, 0, 0)) rfl rfl
theorem s366_148 {d : Nat} {ls : mj_L} {st : List Value} {M : mj_H} : mj_Rn d mj_m366 148 ls st M = mq_k0 d mj_m366 151 ls M (mq_gf 11 10 st M) := (mj_R3 (r := (.getfield 27, 3, 11, 10, 49616)) rfl rfl).trans (congrArg (mq_k0 d mj_m366 151 ls M) mq_gf_eq)
theorem s366_151 {d : Nat} {ls : mj_L} {st : List Value} {M : mj_H} : mj_Rn d mj_m366 151 ls st M = mq_k0 d mj_m366 153 ls M (mj_ldi (mj_lk ls 9) st) := mj_R0 (r := (.iload 9, 2, 0, 0, 0)) rfl rfl
theorem s366_153 {d : Nat} {ls : mj_L} {st : List Value} {M : mj_H} : mj_Rn d mj_m366 153 ls st M = mj_Rn d mj_m366 154 ls (.int 4 :: st) M := mj_R0 (r := (.iconst 4, 1, 0, 0, 0)) rfl rfl
theorem s366_154 {d : Nat} {ls : mj_L} {st : List Value} {M : mj_H} : mj_Rn (d + 1) mj_m366 154 ls st M = mq_k4 (d + 1) mj_m366 157 ls (mq_cpr st M) := mj_R5ce (r := (.invokestatic 248, 3, 7, 0, 32847)) rfl rfl rfl
theorem s366_157 {d : Nat} {ls : mj_L} {st : List Value} {M : mj_H} : mj_Rn d mj_m366 157 ls st M = mq_k0 d mj_m366 158 ls M (mj_lda (mj_lk ls 0) st) := mj_R0 (r := (.aload_n 0, 1, 0, 0, 0)) rfl rfl
theorem s366_158 {d : Nat} {ls : mj_L} {st : List Value} {M : mj_H} : mj_Rn d mj_m366 158 ls st M = mq_k0 d mj_m366 160 ls M (mj_ldi (mj_lk ls 9) st) := mj_R0 (r := (.iload 9, 2, 0, 0, 0)) rfl rfl
theorem s366_160 {d : Nat} {ls : mj_L} {st : List Value} {M : mj_H} : mj_Rn d mj_m366 160 ls st M = mj_Rn d mj_m366 161 ls (.int 4 :: st) M := mj_R0 (r := (.iconst 4, 1, 0, 0, 0)) rfl rfl
theorem s366_161 {d : Nat} {ls : mj_L} {st : List Value} {M : mj_H} : mj_Rn d mj_m366 161 ls st M = mq_k0 d mj_m366 162 ls M (mj_pu .iadd ls st) := mj_R0 (r := (.iadd, 1, 0, 0, 0)) rfl rfl
theorem s366_162 {d : Nat} {ls : mj_L} {st : List Value} {M : mj_H} : mj_Rn d mj_m366 162 ls st M = mq_k4 d mj_m366 165 ls (mq_pf 11 11 0 st M) := (mj_R4 (r := (.putfield 303, 3, 11, 11, 49618)) rfl rfl).trans (congrArg (mq_k4 d mj_m366 165 ls) (mq_pf_eq rfl rfl))
theorem s366_165 {d : Nat} {ls : mj_L} {st : List Value} {M : mj_H} : mj_Rn d mj_m366 165 ls st M = mq_k6 M (mj_re none (.return_) st) := mj_R6 (r := (.return_, 1, 0, 0, 0)) rfl rfl
theorem c365 {d : Nat} {a0 : Nat} {x1 : Int32} {x2 : Int32} {x3 : Int64} {x4 : Int32} {x5 : Int32} {M : mj_H} : mj_V (d + 1) 365 [.ref a0, .int x1, .int x2, .long x3, .int x4, .int x5] M = mj_Rn d mj_m365 0 [(0, .ref a0), (1, .int x1), (2, .int x2), (3, .long x3), (5, .int x4), (6, .int x5)] [] M := mj_V_go rfl (Nat.le_of_ble_eq_true rfl)
theorem c366 {d : Nat} {a0 : Nat} {x1 : Int32} {x2 : Int32} {x3 : Int32} {x4 : Int32} {x5 : Int32} {x6 : Int32} {x7 : Int32} {M : mj_H} : mj_V (d + 1) 366 [.ref a0, .int x1, .int x2, .int x3, .int x4, .int x5, .int x6, .int x7] M = mj_Rn d mj_m366 0 [(0, .ref a0), (1, .int x1), (2, .int x2), (3, .int x3), (4, .int x4), (5, .int x5), (6, .int x6), (7, .int x7)] [] M := mj_V_go rfl (Nat.le_of_ble_eq_true rfl)
theorem tq.app {cap : Nat} {l t s : List Int32} {p : Nat} (h : tq cap l t) (hp : p = t.length) (hs : t.length + s.length ≤ cap) : tq cap (spl l p s) (t ++ s) := by
  subst hp
  obtain ⟨g, h1, h2⟩ := h
  refine ⟨g.drop s.length, ?_, ?_⟩
  · unfold spl
    rw [h1, List.take_left' rfl, List.drop_append, List.drop_eq_nil_of_le (by omega)]
    simp [S_cb_mmade4_0, S_bx_mcan1_0, S_b8_mkey_1, S_b8_mkey_0, S_b1_mterm_0, S_b1_copy_0, S_b0_mod_7, S_b0_mod_6, S_b0_mod_5, S_b0_mod_3, S_b0_mod_2, S_b0_mod_1, S_b0_mod_0, S_cb_mmade4_1h, S_bx_mcan1_1h, S_b0_mod_4h]
  · rw [spl_len (by omega), h2]
theorem tq.snoc' {cap : Nat} {l t : List Int32} {p : Nat} (h : tq cap l t) (hp : p = t.length) (hi : t.length < cap) (v : Int32) : tq cap (l.set p v) (t ++ [v]) := by
  subst hp
  exact h.snoc hi v
theorem mcpy_4 {p q b : Nat} {M : mj_H} {f g : List Int32} (h1 : q + 4 ≤ f.length) (h2 : p + 4 ≤ g.length) (h3 : f.length < 2 ^ 31) (h4 : g.length < 2 ^ 31) : mcpy 4 (nI p) b (nI q) M (some (1000, vi f)) (some (1000, vi g)) = some ([], M.set b (1000, vi (cpy g p f q 4))) := mcpy_ok (n := 4) h1 h2 h3 h4
theorem ace_len (c : Ac) : (acEnt c).length = 25 := by simp [S_cb_mmade4_0, S_bx_mcan1_0, S_b8_mkey_1, S_b8_mkey_0, S_b1_mterm_0, S_b1_copy_0, S_b0_mod_7, S_b0_mod_6, S_b0_mod_5, S_b0_mod_3, S_b0_mod_2, S_b0_mod_1, S_b0_mod_0, S_cb_mmade4_1h, S_bx_mcan1_1h, S_b0_mod_4h, acEnt, b4_len]
theorem acl_len : ∀ (l : List Ac), (l.flatMap acEnt).length = 25 * l.length := by
  intro l
  induction l with
  | nil => rfl
  | cons a l ih => rw [List.flatMap_cons, List.length_append, ace_len, ih, List.length_cons]; omega
section
variable {d : Nat} {B : Bs} {x : Fx} {y : Sy} {H : Ho} {M : mj_H} {T : Tm} {D O : List Int32} {j : Nat}
theorem l_entries (z : mz x y H) {p : Pa} (hp : H.2.2.2.2[j]? = some p) {m : Nat} (hm : m ≤ 8) (w : Int64) {mem ent : Int32} : ∀ (r i : Nat) (v8 : List (Nat × Value)) (O : List Int32) (y' : Sy), i + r = p.2.2.2.1.length → (v8 = [] ∨ ∃ v, v8 = [(8, Value.int v)]) → yz y' T D O → O.length + 25 * r + 2 ≤ 640 →
    ∃ y2, mj_Rn (d + 3) mj_m365 15 (v8 ++ [(7, .int (nI i)), (0, .ref 67), (1, .int mem), (2, .int (nI j)), (3, .long w), (5, .int (nI m)), (6, .int ent)]) [] (mm B x y') = some (none, mm B x y2) ∧ yz y2 T D (O ++ ((p.2.2.2.1.drop i).filter (fun a => decide (a.2.2.2.2 = bt_low w m))).flatMap acEnt) ∧ y2.no = y'.no := by
  have hM := z.h.ps j p hp
  have l1 := z.h.l.accounts
  have l2 := z.h.l.accLong
  have l3 := z.h.l.accId
  have h4 := z.h.n4
  have h8 := hM.ac8
  have hac := hM.ac
  have hj : j < H.2.2.2.2.length := by
    rcases Nat.lt_or_ge j H.2.2.2.2.length with z | z
    · exact z
    · rw [List.getElem?_eq_none z] at hp; cases hp
  intro r
  induction r with
  | zero =>
    intro i v8 O y' hi hv hy hl
    rw [List.drop_eq_nil_of_le (by omega), List.filter_nil, List.flatMap_nil, List.append_nil]
    refine ⟨y', ?_, hy, rfl⟩
    rcases hv with rfl | ⟨v, rfl⟩ <;> simp (disch := (first | omega | decide)) [S_cb_mmade4_0, S_bx_mcan1_0, S_b8_mkey_1, S_b8_mkey_0, S_b1_mterm_0, S_b1_copy_0, S_b0_mod_7, S_b0_mod_6, S_b0_mod_5, S_b0_mod_3, S_b0_mod_2, S_b0_mod_1, S_b0_mod_0, S_cb_mmade4_1h, S_bx_mcan1_1h, S_b0_mod_4h, s365_0, s365_1, s365_2, s365_5, s365_6, s365_7, s365_9, s365_12, s365_13, s365_15, s365_17, s365_18, s365_21, s365_22, s365_23, s365_26, s365_28, s365_29, s365_30, s365_32, s365_33, s365_35, s365_36, s365_37, s365_40, s365_42, s365_44, s365_45, s365_46, s365_49, s365_51, s365_52, s365_53, s365_55, s365_58, s365_61, s365_62, s365_65, s365_68, s365_69, s365_72, s365_75, s365_76, s365_77, s365_80, s365_82, s365_83, s365_86, s365_87, s365_90, s365_93, s365_94, s365_95, s365_96, s365_99, s365_100, s365_102, s365_105, s365_108, s365_111, mq_k0s, mq_k1s, mq_k2s, mq_k4s, mq_k5s, mq_k5n, mq_k5as, mq_k6s, mj_pu, mj_lo, mj_br, mj_hr, mj_hw, mq_gf, mq_len, mq_al, mq_pf, mq_ok, mj_re, mq_lkm, mq_lkn, mj_ldi, mj_ldl, mj_lda, mj_ii, mj_ll, mj_li, mj_i1, ms_1, ms_2, f1_n, f1_i, f1_r, f1_u, f1_l, f2_n, f2_i, f2_r, f2_u, f2_l, mj_tg, mj_c1, mj_c2, mj_ar, mj_aw, mq_cb, mq_oi, mj_rm, Value.category, -getElem?_pos, List.getElem?_cons_zero, decide_eq_true, decide_eq_false, nl_lt, nl_le, ln_lt, ln_le, nl_eq, ln_eq, nl_add, ln_add, nl_sub, ln_mul, nI_sub, nI_mul, nI_add, nI_lt_iff, nI_le_iff, nI_inj, nI_num, mq_ix, nI_1, nl_mul, nl_div, l1, hac, show p.2.2.2.1.length ≤ i by omega]
  | succ r ih =>
    intro i v8 O y' hi hv hy hl
    have hil : i < p.2.2.2.1.length := by omega
    obtain ⟨a, ha⟩ : ∃ a, p.2.2.2.1[i]? = some a := ⟨_, List.getElem?_eq_getElem hil⟩
    have hd : p.2.2.2.1.drop i = a :: p.2.2.2.1.drop (i + 1) := by
      rw [List.drop_eq_getElem_cons hil]
      rw [List.getElem?_eq_getElem hil] at ha
      rw [Option.some.inj ha]
    have aM := hM.as i a ha
    have hln := aM.ln
    have hid := aM.id
    have ru := acUser (d := d + 2) (B := B) z hp ha hm w y'
    rw [hd, List.filter_cons]
    by_cases e : a.2.2.2.2 = bt_low w m
    · rw [decide_eq_true e] at ru ⊢
      simp only [on1, if_true] at ru
      rw [if_pos rfl, List.flatMap_cons]
      obtain ⟨y1, p1, u1, f1⟩ := q_tell (d := d + 2) (B := B) (x := x) hy (by omega) 162
      obtain ⟨y2, p2, u2, f2⟩ := q_tellName (d := d + 1) (B := B) (x := x) u1 (by simp [S_cb_mmade4_0, S_bx_mcan1_0, S_b8_mkey_1, S_b8_mkey_0, S_b1_mterm_0, S_b1_copy_0, S_b0_mod_7, S_b0_mod_6, S_b0_mod_5, S_b0_mod_3, S_b0_mod_2, S_b0_mod_1, S_b0_mod_0, S_cb_mmade4_1h, S_bx_mcan1_1h, S_b0_mod_4h]; omega) 26980
      rw [nm_id] at u2
      obtain ⟨y3, p3, u3, f3⟩ := q_tellInt (d := d + 1) (B := B) (x := x) u2 (by simp [S_cb_mmade4_0, S_bx_mcan1_0, S_b8_mkey_1, S_b8_mkey_0, S_b1_mterm_0, S_b1_copy_0, S_b0_mod_7, S_b0_mod_6, S_b0_mod_5, S_b0_mod_3, S_b0_mod_2, S_b0_mod_1, S_b0_mod_0, S_cb_mmade4_1h, S_bx_mcan1_1h, S_b0_mod_4h]; omega) a.1
      obtain ⟨y4, p4, u4, f4⟩ := q_tellName (d := d + 1) (B := B) (x := x) u3 (by simp [S_cb_mmade4_0, S_bx_mcan1_0, S_b8_mkey_1, S_b8_mkey_0, S_b1_mterm_0, S_b1_copy_0, S_b0_mod_7, S_b0_mod_6, S_b0_mod_5, S_b0_mod_3, S_b0_mod_2, S_b0_mod_1, S_b0_mod_0, S_cb_mmade4_1h, S_bx_mcan1_1h, S_b0_mod_4h, b4_len]; omega) 1954115685
      rw [nm_type] at u4
      obtain ⟨y5, p5, u5, f5⟩ := q_tellPk (d := d) (B := B) (x := x) u4 (by simp [S_cb_mmade4_0, S_bx_mcan1_0, S_b8_mkey_1, S_b8_mkey_0, S_b1_mterm_0, S_b1_copy_0, S_b0_mod_7, S_b0_mod_6, S_b0_mod_5, S_b0_mod_3, S_b0_mod_2, S_b0_mod_1, S_b0_mod_0, S_cb_mmade4_1h, S_bx_mcan1_1h, S_b0_mod_4h, b4_len]; omega)
      have eO : O ++ [162] ++ [98, 105, 100] ++ 68 :: b4 a.1 ++ [100, 116, 121, 112, 101] ++ [106, 112, 117, 98, 108, 105, 99, 45, 107, 101, 121] = O ++ acEnt a := by simp [S_cb_mmade4_0, S_bx_mcan1_0, S_b8_mkey_1, S_b8_mkey_0, S_b1_mterm_0, S_b1_copy_0, S_b0_mod_7, S_b0_mod_6, S_b0_mod_5, S_b0_mod_3, S_b0_mod_2, S_b0_mod_1, S_b0_mod_0, S_cb_mmade4_1h, S_bx_mcan1_1h, S_b0_mod_4h, acEnt]
      rw [eO] at u5
      obtain ⟨y6, r6, u6, f6⟩ := ih (i + 1) [(8, .int (nI (8 * j + i)))] _ y5 (by omega) (Or.inr ⟨_, rfl⟩) u5 (by rw [List.length_append, ace_len]; omega)
      refine ⟨y6, ?_, by rw [← List.append_assoc]; exact u6, by rw [f6, f5, f4, f3, f2, f1]⟩
      simp only [List.cons_append, List.nil_append] at r6
      clear ih u1 u2 u3 u4 u5 u6
      rcases hv with rfl | ⟨v, rfl⟩
      · simp only [List.nil_append]
        rw [s365_15]
        simp (disch := (first | omega | decide)) [S_cb_mmade4_0, S_bx_mcan1_0, S_b8_mkey_1, S_b8_mkey_0, S_b1_mterm_0, S_b1_copy_0, S_b0_mod_7, S_b0_mod_6, S_b0_mod_5, S_b0_mod_3, S_b0_mod_2, S_b0_mod_1, S_b0_mod_0, S_cb_mmade4_1h, S_bx_mcan1_1h, S_b0_mod_4h, s365_0, s365_1, s365_2, s365_5, s365_6, s365_7, s365_9, s365_12, s365_13, s365_17, s365_18, s365_21, s365_22, s365_23, s365_26, s365_28, s365_29, s365_30, s365_32, s365_33, s365_35, s365_36, s365_37, s365_40, s365_42, s365_44, s365_45, s365_46, s365_49, s365_51, s365_52, s365_53, s365_55, s365_58, s365_61, s365_62, s365_65, s365_68, s365_69, s365_72, s365_75, s365_76, s365_77, s365_80, s365_82, s365_83, s365_86, s365_87, s365_90, s365_93, s365_94, s365_95, s365_96, s365_99, s365_100, s365_102, s365_105, s365_108, s365_111, mq_k0s, mq_k1s, mq_k2s, mq_k4s, mq_k5s, mq_k5n, mq_k5as, mq_k6s, mj_pu, mj_lo, mj_br, mj_hr, mj_hw, mq_gf, mq_len, mq_al, mq_pf, mq_ok, mj_re, mq_lkm, mq_lkn, mj_ldi, mj_ldl, mj_lda, mj_ii, mj_ll, mj_li, mj_i1, ms_1, ms_2, f1_n, f1_i, f1_r, f1_u, f1_l, f2_n, f2_i, f2_r, f2_u, f2_l, mj_tg, mj_c1, mj_c2, mj_ar, mj_aw, mq_cb, mq_oi, mj_rm, Value.category, -getElem?_pos, List.getElem?_cons_zero, decide_eq_true, decide_eq_false, nl_lt, nl_le, ln_lt, ln_le, nl_eq, ln_eq, nl_add, ln_add, nl_sub, ln_mul, nI_sub, nI_mul, nI_add, nI_lt_iff, nI_le_iff, nI_inj, nI_num, mq_ix, nI_1, nl_mul, nl_div, l1, l2, l3, hac, show ¬ p.2.2.2.1.length ≤ i by omega, hln, hid, ru, p1, p2, p3, p4, p5]
        refine mq_wk ?_ r6
        simp [S_cb_mmade4_0, S_bx_mcan1_0, S_b8_mkey_1, S_b8_mkey_0, S_b1_mterm_0, S_b1_copy_0, S_b0_mod_7, S_b0_mod_6, S_b0_mod_5, S_b0_mod_3, S_b0_mod_2, S_b0_mod_1, S_b0_mod_0, S_cb_mmade4_1h, S_bx_mcan1_1h, S_b0_mod_4h, mq_sub, mj_lk]
      · simp only [List.cons_append, List.nil_append]
        rw [s365_15]
        simp (disch := (first | omega | decide)) [S_cb_mmade4_0, S_bx_mcan1_0, S_b8_mkey_1, S_b8_mkey_0, S_b1_mterm_0, S_b1_copy_0, S_b0_mod_7, S_b0_mod_6, S_b0_mod_5, S_b0_mod_3, S_b0_mod_2, S_b0_mod_1, S_b0_mod_0, S_cb_mmade4_1h, S_bx_mcan1_1h, S_b0_mod_4h, s365_0, s365_1, s365_2, s365_5, s365_6, s365_7, s365_9, s365_12, s365_13, s365_17, s365_18, s365_21, s365_22, s365_23, s365_26, s365_28, s365_29, s365_30, s365_32, s365_33, s365_35, s365_36, s365_37, s365_40, s365_42, s365_44, s365_45, s365_46, s365_49, s365_51, s365_52, s365_53, s365_55, s365_58, s365_61, s365_62, s365_65, s365_68, s365_69, s365_72, s365_75, s365_76, s365_77, s365_80, s365_82, s365_83, s365_86, s365_87, s365_90, s365_93, s365_94, s365_95, s365_96, s365_99, s365_100, s365_102, s365_105, s365_108, s365_111, mq_k0s, mq_k1s, mq_k2s, mq_k4s, mq_k5s, mq_k5n, mq_k5as, mq_k6s, mj_pu, mj_lo, mj_br, mj_hr, mj_hw, mq_gf, mq_len, mq_al, mq_pf, mq_ok, mj_re, mq_lkm, mq_lkn, mj_ldi, mj_ldl, mj_lda, mj_ii, mj_ll, mj_li, mj_i1, ms_1, ms_2, f1_n, f1_i, f1_r, f1_u, f1_l, f2_n, f2_i, f2_r, f2_u, f2_l, mj_tg, mj_c1, mj_c2, mj_ar, mj_aw, mq_cb, mq_oi, mj_rm, Value.category, -getElem?_pos, List.getElem?_cons_zero, decide_eq_true, decide_eq_false, nl_lt, nl_le, ln_lt, ln_le, nl_eq, ln_eq, nl_add, ln_add, nl_sub, ln_mul, nI_sub, nI_mul, nI_add, nI_lt_iff, nI_le_iff, nI_inj, nI_num, mq_ix, nI_1, nl_mul, nl_div, l1, l2, l3, hac, show ¬ p.2.2.2.1.length ≤ i by omega, hln, hid, ru, p1, p2, p3, p4, p5]
        refine mq_wk ?_ r6
        simp [S_cb_mmade4_0, S_bx_mcan1_0, S_b8_mkey_1, S_b8_mkey_0, S_b1_mterm_0, S_b1_copy_0, S_b0_mod_7, S_b0_mod_6, S_b0_mod_5, S_b0_mod_3, S_b0_mod_2, S_b0_mod_1, S_b0_mod_0, S_cb_mmade4_1h, S_bx_mcan1_1h, S_b0_mod_4h, mq_sub, mj_lk]
    · rw [decide_eq_false e] at ru ⊢
      simp only [on1, Bool.false_eq_true, if_false] at ru
      rw [if_neg (by decide)]
      obtain ⟨y6, r6, u6, f6⟩ := ih (i + 1) [(8, .int (nI (8 * j + i)))] _ y' (by omega) (Or.inr ⟨_, rfl⟩) hy (by omega)
      refine ⟨y6, ?_, u6, f6⟩
      simp only [List.cons_append, List.nil_append] at r6
      clear ih u6
      rcases hv with rfl | ⟨v, rfl⟩
      · simp only [List.nil_append]
        rw [s365_15]
        simp (disch := (first | omega | decide)) [S_cb_mmade4_0, S_bx_mcan1_0, S_b8_mkey_1, S_b8_mkey_0, S_b1_mterm_0, S_b1_copy_0, S_b0_mod_7, S_b0_mod_6, S_b0_mod_5, S_b0_mod_3, S_b0_mod_2, S_b0_mod_1, S_b0_mod_0, S_cb_mmade4_1h, S_bx_mcan1_1h, S_b0_mod_4h, s365_0, s365_1, s365_2, s365_5, s365_6, s365_7, s365_9, s365_12, s365_13, s365_17, s365_18, s365_21, s365_22, s365_23, s365_26, s365_28, s365_29, s365_30, s365_32, s365_33, s365_35, s365_36, s365_37, s365_40, s365_42, s365_44, s365_45, s365_46, s365_49, s365_51, s365_52, s365_53, s365_55, s365_58, s365_61, s365_62, s365_65, s365_68, s365_69, s365_72, s365_75, s365_76, s365_77, s365_80, s365_82, s365_83, s365_86, s365_87, s365_90, s365_93, s365_94, s365_95, s365_96, s365_99, s365_100, s365_102, s365_105, s365_108, s365_111, mq_k0s, mq_k1s, mq_k2s, mq_k4s, mq_k5s, mq_k5n, mq_k5as, mq_k6s, mj_pu, mj_lo, mj_br, mj_hr, mj_hw, mq_gf, mq_len, mq_al, mq_pf, mq_ok, mj_re, mq_lkm, mq_lkn, mj_ldi, mj_ldl, mj_lda, mj_ii, mj_ll, mj_li, mj_i1, ms_1, ms_2, f1_n, f1_i, f1_r, f1_u, f1_l, f2_n, f2_i, f2_r, f2_u, f2_l, mj_tg, mj_c1, mj_c2, mj_ar, mj_aw, mq_cb, mq_oi, mj_rm, Value.category, -getElem?_pos, List.getElem?_cons_zero, decide_eq_true, decide_eq_false, nl_lt, nl_le, ln_lt, ln_le, nl_eq, ln_eq, nl_add, ln_add, nl_sub, ln_mul, nI_sub, nI_mul, nI_add, nI_lt_iff, nI_le_iff, nI_inj, nI_num, mq_ix, nI_1, nl_mul, nl_div, l1, l2, l3, hac, show ¬ p.2.2.2.1.length ≤ i by omega, hln, ru]
        refine mq_wk ?_ r6
        simp [S_cb_mmade4_0, S_bx_mcan1_0, S_b8_mkey_1, S_b8_mkey_0, S_b1_mterm_0, S_b1_copy_0, S_b0_mod_7, S_b0_mod_6, S_b0_mod_5, S_b0_mod_3, S_b0_mod_2, S_b0_mod_1, S_b0_mod_0, S_cb_mmade4_1h, S_bx_mcan1_1h, S_b0_mod_4h, mq_sub, mj_lk]
      · simp only [List.cons_append, List.nil_append]
        rw [s365_15]
        simp (disch := (first | omega | decide)) [S_cb_mmade4_0, S_bx_mcan1_0, S_b8_mkey_1, S_b8_mkey_0, S_b1_mterm_0, S_b1_copy_0, S_b0_mod_7, S_b0_mod_6, S_b0_mod_5, S_b0_mod_3, S_b0_mod_2, S_b0_mod_1, S_b0_mod_0, S_cb_mmade4_1h, S_bx_mcan1_1h, S_b0_mod_4h, s365_0, s365_1, s365_2, s365_5, s365_6, s365_7, s365_9, s365_12, s365_13, s365_17, s365_18, s365_21, s365_22, s365_23, s365_26, s365_28, s365_29, s365_30, s365_32, s365_33, s365_35, s365_36, s365_37, s365_40, s365_42, s365_44, s365_45, s365_46, s365_49, s365_51, s365_52, s365_53, s365_55, s365_58, s365_61, s365_62, s365_65, s365_68, s365_69, s365_72, s365_75, s365_76, s365_77, s365_80, s365_82, s365_83, s365_86, s365_87, s365_90, s365_93, s365_94, s365_95, s365_96, s365_99, s365_100, s365_102, s365_105, s365_108, s365_111, mq_k0s, mq_k1s, mq_k2s, mq_k4s, mq_k5s, mq_k5n, mq_k5as, mq_k6s, mj_pu, mj_lo, mj_br, mj_hr, mj_hw, mq_gf, mq_len, mq_al, mq_pf, mq_ok, mj_re, mq_lkm, mq_lkn, mj_ldi, mj_ldl, mj_lda, mj_ii, mj_ll, mj_li, mj_i1, ms_1, ms_2, f1_n, f1_i, f1_r, f1_u, f1_l, f2_n, f2_i, f2_r, f2_u, f2_l, mj_tg, mj_c1, mj_c2, mj_ar, mj_aw, mq_cb, mq_oi, mj_rm, Value.category, -getElem?_pos, List.getElem?_cons_zero, decide_eq_true, decide_eq_false, nl_lt, nl_le, ln_lt, ln_le, nl_eq, ln_eq, nl_add, ln_add, nl_sub, ln_mul, nI_sub, nI_mul, nI_add, nI_lt_iff, nI_le_iff, nI_inj, nI_num, mq_ix, nI_1, nl_mul, nl_div, l1, l2, l3, hac, show ¬ p.2.2.2.1.length ≤ i by omega, hln, ru]
        refine mq_wk ?_ r6
        simp [S_cb_mmade4_0, S_bx_mcan1_0, S_b8_mkey_1, S_b8_mkey_0, S_b1_mterm_0, S_b1_copy_0, S_b0_mod_7, S_b0_mod_6, S_b0_mod_5, S_b0_mod_3, S_b0_mod_2, S_b0_mod_1, S_b0_mod_0, S_cb_mmade4_1h, S_bx_mcan1_1h, S_b0_mod_4h, mq_sub, mj_lk]
/-- entries, told -/
theorem q_tellEntries (z : mz x y H) {i : Int32} {m : Nat} (hm : m ≤ 8) (w : Int64) (mem : Int32) (hne : acOf (pOf H i) (bt_low w m) ≠ []) (hy : yz y T D O) (hl : O.length + 210 ≤ 640) : ∃ y', mj_V (d + 4) 365 [.ref 67, .int mem, .int i, .long w, .int (nI m), .int (nI (acOf (pOf H i) (bt_low w m)).length)] (mm B x y) = some (none, mm B x y') ∧ yz y' T D (O ++ acMsg mem (acOf (pOf H i) (bt_low w m))) ∧ y'.no = y.no := by
  unfold pOf at hne ⊢
  cases hi : ix i H.2.2.2.2.length with
  | none => rw [hi] at hne; exact absurd rfl hne
  | some j =>
    obtain ⟨q, hq, rfl⟩ := party_at hi
    rw [hi] at hne
    simp only [Option.bind_some, hq] at hne ⊢
    have hM := z.h.ps j q hq
    have h8 := hM.ac8
    have hf : (acOf (some q) (bt_low w m)).length ≤ 8 := Nat.le_trans (List.length_filter_le ..) h8
    obtain ⟨y1, p1, u1, f1⟩ := q_tell (d := d + 2) (B := B) (x := x) hy (by omega) mem
    obtain ⟨y2, p2, u2, f2⟩ := q_tellHead (d := d + 1) (B := B) (x := x) u1 (by simp [S_cb_mmade4_0, S_bx_mcan1_0, S_b8_mkey_1, S_b8_mkey_0, S_b1_mterm_0, S_b1_copy_0, S_b0_mod_7, S_b0_mod_6, S_b0_mod_5, S_b0_mod_3, S_b0_mod_2, S_b0_mod_1, S_b0_mod_0, S_cb_mmade4_1h, S_bx_mcan1_1h, S_b0_mod_4h]; omega) (s := 4) (by decide) (k := (acOf (some q) (bt_low w m)).length) (by omega)
    have hb : (bt_hd 4 (nI (acOf (some q) (bt_low w m)).length)).length ≤ 2 := by
      unfold bt_hd
      rw [show (256 : Int32) = nI 256 from rfl]
      rw [if_pos (nI_lt (show (acOf (some q) (bt_low w m)).length < 256 by omega) (by omega))]
      split <;> simp [S_cb_mmade4_0, S_bx_mcan1_0, S_b8_mkey_1, S_b8_mkey_0, S_b1_mterm_0, S_b1_copy_0, S_b0_mod_7, S_b0_mod_6, S_b0_mod_5, S_b0_mod_3, S_b0_mod_2, S_b0_mod_1, S_b0_mod_0, S_cb_mmade4_1h, S_bx_mcan1_1h, S_b0_mod_4h]
    obtain ⟨y3, p3, u3, f3⟩ := l_entries (d := d) (B := B) z hq hm w (mem := mem) (ent := nI (acOf (some q) (bt_low w m)).length) q.2.2.2.1.length 0 [] _ y2 (by omega) (Or.inl rfl) u2 (by rw [List.length_append, List.length_append]; simp [S_cb_mmade4_0, S_bx_mcan1_0, S_b8_mkey_1, S_b8_mkey_0, S_b1_mterm_0, S_b1_copy_0, S_b0_mod_7, S_b0_mod_6, S_b0_mod_5, S_b0_mod_3, S_b0_mod_2, S_b0_mod_1, S_b0_mod_0, S_cb_mmade4_1h, S_bx_mcan1_1h, S_b0_mod_4h]; omega)
    rw [List.nil_append, nI_0] at p3
    rw [List.drop_zero] at u3
    have e : O ++ [mem] ++ bt_hd 4 (nI (acOf (some q) (bt_low w m)).length) ++ (q.2.2.2.1.filter (fun a => decide (a.2.2.2.2 = bt_low w m))).flatMap acEnt = O ++ acMsg mem (acOf (some q) (bt_low w m)) := by
      unfold acMsg
      rw [if_neg hne]
      simp only [List.append_assoc, List.cons_append, List.nil_append]
      rfl
    rw [e] at u3
    refine ⟨y3, ?_, u3, by rw [f3, f2, f1]⟩
    generalize nI (acOf (some q) (bt_low w m)).length = nl at *
    simp (disch := (first | omega | decide)) [S_cb_mmade4_0, S_bx_mcan1_0, S_b8_mkey_1, S_b8_mkey_0, S_b1_mterm_0, S_b1_copy_0, S_b0_mod_7, S_b0_mod_6, S_b0_mod_5, S_b0_mod_3, S_b0_mod_2, S_b0_mod_1, S_b0_mod_0, S_cb_mmade4_1h, S_bx_mcan1_1h, S_b0_mod_4h, c365, s365_0, s365_1, s365_2, s365_5, s365_6, s365_7, s365_9, s365_12, s365_13, s365_17, s365_18, s365_21, s365_22, s365_23, s365_26, s365_28, s365_29, s365_30, s365_32, s365_33, s365_35, s365_36, s365_37, s365_40, s365_42, s365_44, s365_45, s365_46, s365_49, s365_51, s365_52, s365_53, s365_55, s365_58, s365_61, s365_62, s365_65, s365_68, s365_69, s365_72, s365_75, s365_76, s365_77, s365_80, s365_82, s365_83, s365_86, s365_87, s365_90, s365_93, s365_94, s365_95, s365_96, s365_99, s365_100, s365_102, s365_105, s365_108, s365_111, mq_k0s, mq_k1s, mq_k2s, mq_k4s, mq_k5s, mq_k5n, mq_k5as, mq_k6s, mj_pu, mj_lo, mj_br, mj_hr, mj_hw, mq_gf, mq_len, mq_al, mq_pf, mq_ok, mj_re, mq_lkm, mq_lkn, mj_ldi, mj_ldl, mj_lda, mj_ii, mj_ll, mj_li, mj_i1, ms_1, ms_2, f1_n, f1_i, f1_r, f1_u, f1_l, f2_n, f2_i, f2_r, f2_u, f2_l, mj_tg, mj_c1, mj_c2, mj_ar, mj_aw, mq_cb, mq_oi, mj_rm, Value.category, -getElem?_pos, List.getElem?_cons_zero, decide_eq_true, decide_eq_false, nl_lt, nl_le, ln_lt, ln_le, nl_eq, ln_eq, nl_add, ln_add, nl_sub, ln_mul, nI_sub, nI_mul, nI_add, nI_lt_iff, nI_le_iff, nI_inj, nI_num, mq_ix, nI_1, nl_mul, nl_div, p1, p2]
    refine mq_wk ?_ p3
    simp [S_cb_mmade4_0, S_bx_mcan1_0, S_b8_mkey_1, S_b8_mkey_0, S_b1_mterm_0, S_b1_copy_0, S_b0_mod_7, S_b0_mod_6, S_b0_mod_5, S_b0_mod_3, S_b0_mod_2, S_b0_mod_1, S_b0_mod_0, S_cb_mmade4_1h, S_bx_mcan1_1h, S_b0_mod_4h, mq_sub, mj_lk]
/-- a slice of a key's answer -/
theorem ans_sl (z : mz x y H) {k : Ky} (hk : H.2.2.1[j]? = some k) {p n : Nat} (hp : p + n ≤ k.1.1.1.2.length) (hn : 0 < n) : (x.2.1.1.2.1.1.drop (400 * j + p)).take n = (k.1.1.1.2.drop p).take n ∧ k.1.1.1.2.length ≤ 400 := by
  obtain ⟨hj, m, e, R, hf⟩ := z.key hk
  have hx := z.k.k
  have hm := R.w
  have hal := hx.answers
  rcases R.a with ⟨h1, -⟩ | ⟨-, h2, -, h4⟩
  · rw [h1] at hp; simp [S_cb_mmade4_0, S_bx_mcan1_0, S_b8_mkey_1, S_b8_mkey_0, S_b1_mterm_0, S_b1_copy_0, S_b0_mod_7, S_b0_mod_6, S_b0_mod_5, S_b0_mod_3, S_b0_mod_2, S_b0_mod_1, S_b0_mod_0, S_cb_mmade4_1h, S_bx_mcan1_1h, S_b0_mod_4h] at hp; omega
  · refine ⟨?_, h2⟩
    apply List.ext_getElem?
    intro i
    rw [List.getElem?_take, List.getElem?_take]
    split
    · next hi =>
      rw [List.getElem?_drop, List.getElem?_drop]
      have e1 : x.2.1.1.2.1.1[400 * j + p + i]? = m.2.2.2.2[p + i]? := by
        rw [e, Nat.add_assoc]
        exact wkc_answers hx hj hm (by omega)
      rw [e1]
      have e2 : (m.2.2.2.2.take k.1.1.1.2.length)[p + i]? = m.2.2.2.2[p + i]? := by rw [List.getElem?_take, if_pos (by omega)]
      rw [← e2, h4]
    · rfl
theorem q_respond (z : mz x y H) {q : Hd} {k : Ky} {a b : Nat} (hh : H.2.2.2.1[a]? = some q) (ha : a < 4) (hk : H.2.2.1[b]? = some k) (kind c : Int32) {id data size : Nat} (h1 : id + 4 ≤ k.1.1.1.2.length) (h2 : data + size ≤ k.1.1.1.2.length) (h3 : 45 ≤ k.1.1.1.2.length) (hs : 0 < size) (hs2 : size ≤ 17) (hid : id ≤ 300) (hda : data ≤ 300) :
    ∃ x', mj_V (d + 2) 366 [.ref 67, .int (nI a), .int (nI b), .int kind, .int c, .int (nI id), .int (nI data), .int (nI size)] (mm B x y) = some (none, mm B x' y) ∧ mz x' y ((rsp kind c q.2.1 k.1.1.1.2 id data size, (H.2.1, (H.2.2.1, (H.2.2.2.1, H.2.2.2.2)))) : Ho) := by
  obtain ⟨s1, hr4⟩ := ans_sl z hk h1 (by omega)
  obtain ⟨s2, -⟩ := ans_sl z hk h2 hs
  obtain ⟨s3, -⟩ := ans_sl z hk (p := 41) (n := 4) (by omega) (by omega)
  obtain ⟨hb, -⟩ := z.key hk
  have hal := z.k.k.answers
  have hm := z.h.hs a q hh
  have l1 := z.h.l.pages
  have l3 := z.h.l.pageLong
  have htl : x.1.1.1.2.1.1.length = 400 := by obtain ⟨g, -, hl⟩ := z.t.1; exact hl
  have hpl := hm.pl
  have h40 := hm.p40
  have hsl : (x.2.1.2.1.2.2.drop (40 * a)).take q.2.1.length = q.2.1 := sub_eq hm.pg rfl
  have t0 : tq 400 x.1.1.1.2.1.1 [] := ⟨x.1.1.1.2.1.1, rfl, htl⟩
  have t1 := t0.snoc' (p := 0) rfl (by simp [S_cb_mmade4_0, S_bx_mcan1_0, S_b8_mkey_1, S_b8_mkey_0, S_b1_mterm_0, S_b1_copy_0, S_b0_mod_7, S_b0_mod_6, S_b0_mod_5, S_b0_mod_3, S_b0_mod_2, S_b0_mod_1, S_b0_mod_0, S_cb_mmade4_1h, S_bx_mcan1_1h, S_b0_mod_4h]) kind
  have t2 := t1.app (p := 1) (s := b4 c) rfl (by simp [S_cb_mmade4_0, S_bx_mcan1_0, S_b8_mkey_1, S_b8_mkey_0, S_b1_mterm_0, S_b1_copy_0, S_b0_mod_7, S_b0_mod_6, S_b0_mod_5, S_b0_mod_3, S_b0_mod_2, S_b0_mod_1, S_b0_mod_0, S_cb_mmade4_1h, S_bx_mcan1_1h, S_b0_mod_4h, b4_len])
  have t3 := t2.snoc' (p := 5) (by simp [S_cb_mmade4_0, S_bx_mcan1_0, S_b8_mkey_1, S_b8_mkey_0, S_b1_mterm_0, S_b1_copy_0, S_b0_mod_7, S_b0_mod_6, S_b0_mod_5, S_b0_mod_3, S_b0_mod_2, S_b0_mod_1, S_b0_mod_0, S_cb_mmade4_1h, S_bx_mcan1_1h, S_b0_mod_4h, b4_len]) (by simp [S_cb_mmade4_0, S_bx_mcan1_0, S_b8_mkey_1, S_b8_mkey_0, S_b1_mterm_0, S_b1_copy_0, S_b0_mod_7, S_b0_mod_6, S_b0_mod_5, S_b0_mod_3, S_b0_mod_2, S_b0_mod_1, S_b0_mod_0, S_cb_mmade4_1h, S_bx_mcan1_1h, S_b0_mod_4h, b4_len]) (nI q.2.1.length)
  have t4 := t3.app (p := 6) (s := q.2.1) (by simp [S_cb_mmade4_0, S_bx_mcan1_0, S_b8_mkey_1, S_b8_mkey_0, S_b1_mterm_0, S_b1_copy_0, S_b0_mod_7, S_b0_mod_6, S_b0_mod_5, S_b0_mod_3, S_b0_mod_2, S_b0_mod_1, S_b0_mod_0, S_cb_mmade4_1h, S_bx_mcan1_1h, S_b0_mod_4h, b4_len]) (by simp [S_cb_mmade4_0, S_bx_mcan1_0, S_b8_mkey_1, S_b8_mkey_0, S_b1_mterm_0, S_b1_copy_0, S_b0_mod_7, S_b0_mod_6, S_b0_mod_5, S_b0_mod_3, S_b0_mod_2, S_b0_mod_1, S_b0_mod_0, S_cb_mmade4_1h, S_bx_mcan1_1h, S_b0_mod_4h, b4_len]; omega)
  have e4 : spl (((spl (x.1.1.1.2.1.1.set 0 kind) 1 (b4 c)).set 5 (nI q.2.1.length))) 6 q.2.1 = cpy (((spl (x.1.1.1.2.1.1.set 0 kind) 1 (b4 c)).set 5 (nI q.2.1.length))) 6 x.2.1.2.1.2.2 (40 * a) q.2.1.length := by rw [cpy_spl (by omega), hsl]
  rw [e4] at t4
  have n5 : ((k.1.1.1.2.drop id).take 4).length = 4 := by rw [List.length_take, List.length_drop]; omega
  have n7 : ((k.1.1.1.2.drop data).take size).length = size := by rw [List.length_take, List.length_drop]; omega
  have n8 : ((k.1.1.1.2.drop 41).take 4).length = 4 := by rw [List.length_take, List.length_drop]; omega
  generalize hL4 : cpy (((spl (x.1.1.1.2.1.1.set 0 kind) 1 (b4 c)).set 5 (nI q.2.1.length))) 6 x.2.1.2.1.2.2 (40 * a) q.2.1.length = L4 at *
  have t5 := t4.app (p := 6 + q.2.1.length) (s := (k.1.1.1.2.drop id).take 4) (by simp [S_cb_mmade4_0, S_bx_mcan1_0, S_b8_mkey_1, S_b8_mkey_0, S_b1_mterm_0, S_b1_copy_0, S_b0_mod_7, S_b0_mod_6, S_b0_mod_5, S_b0_mod_3, S_b0_mod_2, S_b0_mod_1, S_b0_mod_0, S_cb_mmade4_1h, S_bx_mcan1_1h, S_b0_mod_4h, b4_len]; omega) (by rw [n5]; simp [S_cb_mmade4_0, S_bx_mcan1_0, S_b8_mkey_1, S_b8_mkey_0, S_b1_mterm_0, S_b1_copy_0, S_b0_mod_7, S_b0_mod_6, S_b0_mod_5, S_b0_mod_3, S_b0_mod_2, S_b0_mod_1, S_b0_mod_0, S_cb_mmade4_1h, S_bx_mcan1_1h, S_b0_mod_4h, b4_len]; omega)
  have e5 : spl L4 (6 + q.2.1.length) ((k.1.1.1.2.drop id).take 4) = cpy L4 (6 + q.2.1.length) x.2.1.1.2.1.1 (400 * b + id) 4 := by rw [cpy_spl (by omega), s1]
  rw [e5] at t5
  generalize hL5 : cpy L4 (6 + q.2.1.length) x.2.1.1.2.1.1 (400 * b + id) 4 = L5 at *
  generalize hR5 : (k.1.1.1.2.drop id).take 4 = R5 at *
  have t6 := t5.snoc' (p := 6 + q.2.1.length + 4) (by simp [S_cb_mmade4_0, S_bx_mcan1_0, S_b8_mkey_1, S_b8_mkey_0, S_b1_mterm_0, S_b1_copy_0, S_b0_mod_7, S_b0_mod_6, S_b0_mod_5, S_b0_mod_3, S_b0_mod_2, S_b0_mod_1, S_b0_mod_0, S_cb_mmade4_1h, S_bx_mcan1_1h, S_b0_mod_4h, b4_len, n5]; omega) (by simp [S_cb_mmade4_0, S_bx_mcan1_0, S_b8_mkey_1, S_b8_mkey_0, S_b1_mterm_0, S_b1_copy_0, S_b0_mod_7, S_b0_mod_6, S_b0_mod_5, S_b0_mod_3, S_b0_mod_2, S_b0_mod_1, S_b0_mod_0, S_cb_mmade4_1h, S_bx_mcan1_1h, S_b0_mod_4h, b4_len, n5]; omega) (nI size)
  have t7 := t6.app (p := 6 + q.2.1.length + 5) (s := (k.1.1.1.2.drop data).take size) (by simp [S_cb_mmade4_0, S_bx_mcan1_0, S_b8_mkey_1, S_b8_mkey_0, S_b1_mterm_0, S_b1_copy_0, S_b0_mod_7, S_b0_mod_6, S_b0_mod_5, S_b0_mod_3, S_b0_mod_2, S_b0_mod_1, S_b0_mod_0, S_cb_mmade4_1h, S_bx_mcan1_1h, S_b0_mod_4h, b4_len, n5]; omega) (by rw [n7]; simp [S_cb_mmade4_0, S_bx_mcan1_0, S_b8_mkey_1, S_b8_mkey_0, S_b1_mterm_0, S_b1_copy_0, S_b0_mod_7, S_b0_mod_6, S_b0_mod_5, S_b0_mod_3, S_b0_mod_2, S_b0_mod_1, S_b0_mod_0, S_cb_mmade4_1h, S_bx_mcan1_1h, S_b0_mod_4h, b4_len, n5]; omega)
  have e7 : spl (L5.set (6 + q.2.1.length + 4) (nI size)) (6 + q.2.1.length + 5) ((k.1.1.1.2.drop data).take size) = cpy (L5.set (6 + q.2.1.length + 4) (nI size)) (6 + q.2.1.length + 5) x.2.1.1.2.1.1 (400 * b + data) size := by rw [cpy_spl (by omega), s2]
  rw [e7] at t7
  generalize hL7 : cpy (L5.set (6 + q.2.1.length + 4) (nI size)) (6 + q.2.1.length + 5) x.2.1.1.2.1.1 (400 * b + data) size = L7 at *
  generalize hR7 : (k.1.1.1.2.drop data).take size = R7 at *
  have t8 := t7.app (p := 6 + q.2.1.length + (5 + size)) (s := (k.1.1.1.2.drop 41).take 4) (by simp [S_cb_mmade4_0, S_bx_mcan1_0, S_b8_mkey_1, S_b8_mkey_0, S_b1_mterm_0, S_b1_copy_0, S_b0_mod_7, S_b0_mod_6, S_b0_mod_5, S_b0_mod_3, S_b0_mod_2, S_b0_mod_1, S_b0_mod_0, S_cb_mmade4_1h, S_bx_mcan1_1h, S_b0_mod_4h, b4_len, n5, n7]; omega) (by rw [n8]; simp [S_cb_mmade4_0, S_bx_mcan1_0, S_b8_mkey_1, S_b8_mkey_0, S_b1_mterm_0, S_b1_copy_0, S_b0_mod_7, S_b0_mod_6, S_b0_mod_5, S_b0_mod_3, S_b0_mod_2, S_b0_mod_1, S_b0_mod_0, S_cb_mmade4_1h, S_bx_mcan1_1h, S_b0_mod_4h, b4_len, n5, n7]; omega)
  have e8 : spl L7 (6 + q.2.1.length + (5 + size)) ((k.1.1.1.2.drop 41).take 4) = cpy L7 (6 + q.2.1.length + (5 + size)) x.2.1.1.2.1.1 (400 * b + 41) 4 := by rw [cpy_spl (by omega), s3]
  rw [e8] at t8
  have er : [] ++ [kind] ++ b4 c ++ [nI q.2.1.length] ++ q.2.1 ++ R5 ++ [nI size] ++ R7 ++ (k.1.1.1.2.drop 41).take 4 = rsp kind c q.2.1 k.1.1.1.2 id data size := by
    subst hR5 hR7
    simp [S_cb_mmade4_0, S_bx_mcan1_0, S_b8_mkey_1, S_b8_mkey_0, S_b1_mterm_0, S_b1_copy_0, S_b0_mod_7, S_b0_mod_6, S_b0_mod_5, S_b0_mod_3, S_b0_mod_2, S_b0_mod_1, S_b0_mod_0, S_cb_mmade4_1h, S_bx_mcan1_1h, S_b0_mod_4h, rsp]
  rw [er] at t8
  have nr : (rsp kind c q.2.1 k.1.1.1.2 id data size).length = 6 + q.2.1.length + (5 + size) + 4 := by
    rw [← er]
    simp [S_cb_mmade4_0, S_bx_mcan1_0, S_b8_mkey_1, S_b8_mkey_0, S_b1_mterm_0, S_b1_copy_0, S_b0_mod_7, S_b0_mod_6, S_b0_mod_5, S_b0_mod_3, S_b0_mod_2, S_b0_mod_1, S_b0_mod_0, S_cb_mmade4_1h, S_bx_mcan1_1h, S_b0_mod_4h, b4_len, n5, n7, n8]
    omega
  have zt := z.wt t8
  rw [nr] at zt
  refine ⟨_, ?_, zt⟩
  have htl4 : L4.length = 400 := by obtain ⟨g, -, hl⟩ := t4; exact hl
  have htl5 : L5.length = 400 := by obtain ⟨g, -, hl⟩ := t5; exact hl
  have htl7 : L7.length = 400 := by obtain ⟨g, -, hl⟩ := t7; exact hl
  have htl2 : (spl (x.1.1.1.2.1.1.set 0 kind) 1 (b4 c)).length = 400 := by obtain ⟨g, -, hl⟩ := t2; exact hl
  have p2 := m_put (d := d) (a := 73) (p := 1) (M := mm B (((((((x.1.1.1.1.1.1, x.1.1.1.1.1.2), (x.1.1.1.1.2.1, x.1.1.1.1.2.2)), ((x.1.1.1.2.1.1.set 0 kind, x.1.1.1.2.1.2), (x.1.1.1.2.2.1, x.1.1.1.2.2.2))), (((x.1.1.2.1.1.1, x.1.1.2.1.1.2), (x.1.1.2.1.2.1, x.1.1.2.1.2.2)), ((x.1.1.2.2.1.1, x.1.1.2.2.1.2), (x.1.1.2.2.2.1, x.1.1.2.2.2.2)))), ((((x.1.2.1.1.1.1, x.1.2.1.1.1.2), (x.1.2.1.1.2.1, x.1.2.1.1.2.2)), ((x.1.2.1.2.1.1, x.1.2.1.2.1.2), (x.1.2.1.2.2.1, x.1.2.1.2.2.2))), (((x.1.2.2.1.1.1, x.1.2.2.1.1.2), (x.1.2.2.1.2.1, x.1.2.2.1.2.2)), ((x.1.2.2.2.1.1, x.1.2.2.2.1.2), (x.1.2.2.2.2.1, x.1.2.2.2.2.2))))), (((((x.2.1.1.1.1.1, x.2.1.1.1.1.2), (x.2.1.1.1.2.1, x.2.1.1.1.2.2)), ((x.2.1.1.2.1.1, x.2.1.1.2.1.2), (x.2.1.1.2.2.1, x.2.1.1.2.2.2))), (((x.2.1.2.1.1.1, x.2.1.2.1.1.2), (x.2.1.2.1.2.1, x.2.1.2.1.2.2)), ((x.2.1.2.2.1.1, x.2.1.2.2.1.2), (x.2.1.2.2.2.1, x.2.1.2.2.2.2)))), ((((x.2.2.1.1.1.1, x.2.2.1.1.1.2), (x.2.2.1.1.2.1, x.2.2.1.1.2.2)), ((x.2.2.1.2.1.1, x.2.2.1.2.1.2), (x.2.2.1.2.2.1, x.2.2.1.2.2.2))), (((x.2.2.2.1.1.1, x.2.2.2.1.1.2), (x.2.2.2.1.2.1, x.2.2.2.1.2.2)), ((x.2.2.2.2.1.1, x.2.2.2.2.1.2), (x.2.2.2.2.2.1, x.2.2.2.2.2.2)))))) : Fx) y) (l := x.1.1.1.2.1.1.set 0 kind) (by simp [S_cb_mmade4_0, S_bx_mcan1_0, S_b8_mkey_1, S_b8_mkey_0, S_b1_mterm_0, S_b1_copy_0, S_b0_mod_7, S_b0_mod_6, S_b0_mod_5, S_b0_mod_3, S_b0_mod_2, S_b0_mod_1, S_b0_mod_0, S_cb_mmade4_1h, S_bx_mcan1_1h, S_b0_mod_4h]) (by omega) (by rw [List.length_set]; omega) (by rw [List.length_set]; omega) c
  simp only [mm_s73] at p2
  rw [show nI 1 = (1 : Int32) from rfl, show nI (1 + 4) = (5 : Int32) from rfl] at p2
  generalize hL2 : spl (x.1.1.1.2.1.1.set 0 kind) 1 (b4 c) = L2 at *
  have a1 : 6 + q.2.1.length + 4 < 400 := by omega
  generalize hpg : q.2.1.length = pl at *
  have a2 : (5 : Int32) + (1 + nI pl) = nI (6 + pl) := by
    rw [show (1 : Int32) = nI 1 from rfl, nI_add, show (5 : Int32) = nI 5 from rfl, nI_add]
    congr 1
    omega
  have a3 : (5 : Int32) + 1 = nI 6 := rfl
  have hg5 : (5 : Nat) < L2.length := by omega
  have a4 : 5 + (1 + pl) = 6 + pl := by omega
  have hs2 : (L2.set 5 (nI pl)).length = 400 := by rw [List.length_set]; exact htl2
  have hs5 : (L5.set (6 + pl + 4) (nI size)).length = 400 := by rw [List.length_set]; exact htl5
  clear t0 t1 t2 t3 t4 t5 t6 t7 t8 zt er s1 s2 s3 z hm hsl e4 e5 e7 e8 nr hh hk
  simp (disch := (first | omega | decide)) [S_cb_mmade4_0, S_bx_mcan1_0, S_b8_mkey_1, S_b8_mkey_0, S_b1_mterm_0, S_b1_copy_0, S_b0_mod_7, S_b0_mod_6, S_b0_mod_5, S_b0_mod_3, S_b0_mod_2, S_b0_mod_1, S_b0_mod_0, S_cb_mmade4_1h, S_bx_mcan1_1h, S_b0_mod_4h, c366, s366_0, s366_3, s366_4, s366_5, s366_7, s366_8, s366_11, s366_12, s366_13, s366_14, s366_15, s366_18, s366_19, s366_21, s366_24, s366_26, s366_27, s366_30, s366_32, s366_33, s366_36, s366_37, s366_38, s366_39, s366_40, s366_43, s366_45, s366_46, s366_47, s366_48, s366_51, s366_53, s366_54, s366_55, s366_56, s366_59, s366_60, s366_61, s366_64, s366_66, s366_67, s366_68, s366_71, s366_72, s366_73, s366_74, s366_75, s366_77, s366_78, s366_81, s366_83, s366_85, s366_86, s366_87, s366_90, s366_92, s366_93, s366_96, s366_97, s366_100, s366_102, s366_103, s366_104, s366_106, s366_107, s366_108, s366_111, s366_113, s366_115, s366_116, s366_117, s366_120, s366_122, s366_123, s366_124, s366_126, s366_129, s366_131, s366_132, s366_134, s366_135, s366_136, s366_138, s366_139, s366_142, s366_144, s366_146, s366_147, s366_148, s366_151, s366_153, s366_154, s366_157, s366_158, s366_160, s366_161, s366_162, s366_165, mq_k0s, mq_k1s, mq_k2s, mq_k4s, mq_k5s, mq_k5n, mq_k5as, mq_k6s, mj_pu, mj_lo, mj_br, mj_hr, mj_hw, mq_gf, mq_len, mq_al, mq_pf, mq_ok, mj_re, mq_lkm, mq_lkn, mj_ldi, mj_ldl, mj_lda, mj_ii, mj_ll, mj_li, mj_i1, ms_1, ms_2, f1_n, f1_i, f1_r, f1_u, f1_l, f2_n, f2_i, f2_r, f2_u, f2_l, mj_tg, mj_c1, mj_c2, mj_ar, mj_aw, mq_cb, mq_oi, mj_rm, Value.category, -getElem?_pos, List.getElem?_cons_zero, decide_eq_true, decide_eq_false, nl_lt, nl_le, ln_lt, ln_le, nl_eq, ln_eq, nl_add, ln_add, nl_sub, ln_mul, nI_sub, nI_mul, nI_add, nI_lt_iff, nI_le_iff, nI_inj, nI_num, mq_ix, nI_1, nl_mul, nl_div, htl, p2, l1, l3, hal, hpl, htl2, htl4, htl5, htl7, a2, a3, a4, hL4, hL5, hL7, mcpy_4, Fx.wt]
end
end
