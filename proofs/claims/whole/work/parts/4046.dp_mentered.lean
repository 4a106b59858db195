/- dp.mentered -/
section
set_option maxRecDepth 512
/-! The model: a party lets in. -/
/- 377 PasskeyHouseModel.opened(IIII)I -/
theorem s377_0 {d : Nat} {ls : mj_L} {st : List Value} {M : mj_H} : mj_Rn d mj_m377 0 ls st M = mq_k0 d mj_m377 1 ls M (mj_lda (mj_lk ls 0) st) := mj_R0 (r := (.aload_n 0, 1, 0, 0, 0)) rfl rfl
theorem s377_1 {d : Nat} {ls : mj_L} {st : List Value} {M : mj_H} : mj_Rn d mj_m377 1 ls st M = mq_k0 d mj_m377 4 ls M (mq_gf 11 10 st M) := (mj_R3 (r := (.getfield 27, 3, 11, 10, 49616)) rfl rfl).trans (congrArg (mq_k0 d mj_m377 4 ls M) mq_gf_eq)
theorem s377_4 {d : Nat} {ls : mj_L} {st : List Value} {M : mj_H} : mj_Rn d mj_m377 4 ls st M = mq_k0 d mj_m377 5 ls M (mj_ldi (mj_lk ls 3) st) := mj_R0 (r := (.iload_n 3, 1, 0, 0, 0)) rfl rfl
theorem s377_5 {d : Nat} {ls : mj_L} {st : List Value} {M : mj_H} : mj_Rn d mj_m377 5 ls st M = mj_Rn d mj_m377 7 ls (.int 13 :: st) M := mj_R0 (r := (.bipush 13, 2, 0, 0, 0)) rfl rfl
theorem s377_7 {d : Nat} {ls : mj_L} {st : List Value} {M : mj_H} : mj_Rn d mj_m377 7 ls st M = mq_k0 d mj_m377 8 ls M (mj_pu .iadd ls st) := mj_R0 (r := (.iadd, 1, 0, 0, 0)) rfl rfl
theorem s377_8 {d : Nat} {ls : mj_L} {st : List Value} {M : mj_H} : mj_Rn (d + 1) mj_m377 8 ls st M = mq_k5a (d + 1) mj_m377 11 ls M 257 (mq_cb 2 2 11 st M) := mj_R5e (r := (.invokestatic 364, 3, 2, 257, 32881)) (z := mj_m257) rfl rfl (by decide) (by decide) rfl
theorem s377_11 {d : Nat} {ls : mj_L} {st : List Value} {M : mj_H} : mj_Rn d mj_m377 11 ls st M = mq_k1 d mj_m377 13 M (mj_lo 7 (.istore 5) ls st) := mj_R1 (r := (.istore 5, 2, 0, 0, 0)) rfl rfl
theorem s377_13 {d : Nat} {ls : mj_L} {st : List Value} {M : mj_H} : mj_Rn d mj_m377 13 ls st M = mq_k0 d mj_m377 14 ls M (mj_lda (mj_lk ls 0) st) := mj_R0 (r := (.aload_n 0, 1, 0, 0, 0)) rfl rfl
theorem s377_14 {d : Nat} {ls : mj_L} {st : List Value} {M : mj_H} : mj_Rn d mj_m377 14 ls st M = mq_k0 d mj_m377 16 ls M (mj_ldi (mj_lk ls 5) st) := mj_R0 (r := (.iload 5, 2, 0, 0, 0)) rfl rfl
theorem s377_16 {d : Nat} {ls : mj_L} {st : List Value} {M : mj_H} : mj_Rn d mj_m377 16 ls st M = mj_Rn d mj_m377 17 ls (.int 2 :: st) M := mj_R0 (r := (.iconst 2, 1, 0, 0, 0)) rfl rfl
theorem s377_17 {d : Nat} {ls : mj_L} {st : List Value} {M : mj_H} : mj_Rn (d + 1) mj_m377 17 ls st M = mq_k5a (d + 1) mj_m377 20 ls M 316 (mq_cb 0 2 11 st M) := mj_R5e (r := (.invokevirtual 451, 3, 0, 316, 36975)) (z := mj_m316) rfl rfl (by decide) (by decide) rfl
theorem s377_20 {d : Nat} {ls : mj_L} {st : List Value} {M : mj_H} : mj_Rn d mj_m377 20 ls st M = mq_k2 d mj_m377 ls M (mj_br (.ifCond .eq 32) 20 st) := mj_R2 (r := (.ifCond .eq 32, 3, 0, 0, 0)) rfl rfl
theorem s377_23 {d : Nat} {ls : mj_L} {st : List Value} {M : mj_H} : mj_Rn d mj_m377 23 ls st M = mq_k0 d mj_m377 24 ls M (mj_lda (mj_lk ls 0) st) := mj_R0 (r := (.aload_n 0, 1, 0, 0, 0)) rfl rfl
theorem s377_24 {d : Nat} {ls : mj_L} {st : List Value} {M : mj_H} : mj_Rn d mj_m377 24 ls st M = mq_k0 d mj_m377 27 ls M (mq_gf 11 10 st M) := (mj_R3 (r := (.getfield 27, 3, 11, 10, 49616)) rfl rfl).trans (congrArg (mq_k0 d mj_m377 27 ls M) mq_gf_eq)
theorem s377_27 {d : Nat} {ls : mj_L} {st : List Value} {M : mj_H} : mj_Rn d mj_m377 27 ls st M = mq_k0 d mj_m377 28 ls M (mj_ldi (mj_lk ls 3) st) := mj_R0 (r := (.iload_n 3, 1, 0, 0, 0)) rfl rfl
theorem s377_28 {d : Nat} {ls : mj_L} {st : List Value} {M : mj_H} : mj_Rn d mj_m377 28 ls st M = mj_Rn d mj_m377 30 ls (.int 9 :: st) M := mj_R0 (r := (.bipush 9, 2, 0, 0, 0)) rfl rfl
theorem s377_30 {d : Nat} {ls : mj_L} {st : List Value} {M : mj_H} : mj_Rn d mj_m377 30 ls st M = mq_k0 d mj_m377 31 ls M (mj_pu .iadd ls st) := mj_R0 (r := (.iadd, 1, 0, 0, 0)) rfl rfl
theorem s377_31 {d : Nat} {ls : mj_L} {st : List Value} {M : mj_H} : mj_Rn (d + 1) mj_m377 31 ls st M = mq_k5a (d + 1) mj_m377 34 ls M 257 (mq_cb 2 2 11 st M) := mj_R5e (r := (.invokestatic 364, 3, 2, 257, 32881)) (z := mj_m257) rfl rfl (by decide) (by decide) rfl
theorem s377_34 {d : Nat} {ls : mj_L} {st : List Value} {M : mj_H} : mj_Rn d mj_m377 34 ls st M = mq_k0 d mj_m377 35 ls M (mj_ldi (mj_lk ls 2) st) := mj_R0 (r := (.iload_n 2, 1, 0, 0, 0)) rfl rfl
theorem s377_35 {d : Nat} {ls : mj_L} {st : List Value} {M : mj_H} : mj_Rn d mj_m377 35 ls st M = mq_k2 d mj_m377 ls M (mj_br (.if_icmp .ne 17) 35 st) := mj_R2 (r := (.if_icmp .ne 17, 3, 0, 0, 0)) rfl rfl
theorem s377_38 {d : Nat} {ls : mj_L} {st : List Value} {M : mj_H} : mj_Rn d mj_m377 38 ls st M = mq_k0 d mj_m377 39 ls M (mj_lda (mj_lk ls 0) st) := mj_R0 (r := (.aload_n 0, 1, 0, 0, 0)) rfl rfl
theorem s377_39 {d : Nat} {ls : mj_L} {st : List Value} {M : mj_H} : mj_Rn d mj_m377 39 ls st M = mq_k0 d mj_m377 41 ls M (mj_ldi (mj_lk ls 4) st) := mj_R0 (r := (.iload 4, 2, 0, 0, 0)) rfl rfl
theorem s377_41 {d : Nat} {ls : mj_L} {st : List Value} {M : mj_H} : mj_Rn d mj_m377 41 ls st M = mq_k0 d mj_m377 43 ls M (mj_ldi (mj_lk ls 5) st) := mj_R0 (r := (.iload 5, 2, 0, 0, 0)) rfl rfl
theorem s377_43 {d : Nat} {ls : mj_L} {st : List Value} {M : mj_H} : mj_Rn d mj_m377 43 ls st M = mq_k0 d mj_m377 44 ls M (mj_ldi (mj_lk ls 3) st) := mj_R0 (r := (.iload_n 3, 1, 0, 0, 0)) rfl rfl
theorem s377_44 {d : Nat} {ls : mj_L} {st : List Value} {M : mj_H} : mj_Rn d mj_m377 44 ls st M = mj_Rn d mj_m377 46 ls (.int 17 :: st) M := mj_R0 (r := (.bipush 17, 2, 0, 0, 0)) rfl rfl
theorem s377_46 {d : Nat} {ls : mj_L} {st : List Value} {M : mj_H} : mj_Rn (d + 1) mj_m377 46 ls st M = mq_k5a (d + 1) mj_m377 49 ls M 376 (mq_cb 0 4 11 st M) := mj_R5e (r := (.invokevirtual 684, 3, 0, 376, 41072)) (z := mj_m376) rfl rfl (by decide) (by decide) rfl
theorem s377_49 {d : Nat} {ls : mj_L} {st : List Value} {M : mj_H} : mj_Rn d mj_m377 49 ls st M = mq_k2 d mj_m377 ls M (mj_br (.ifCond .ne 6) 49 st) := mj_R2 (r := (.ifCond .ne 6, 3, 0, 0, 0)) rfl rfl
theorem s377_52 {d : Nat} {ls : mj_L} {st : List Value} {M : mj_H} : mj_Rn d mj_m377 52 ls st M = mj_Rn d mj_m377 54 ls (.int 8 :: st) M := mj_R0 (r := (.bipush 8, 2, 0, 0, 0)) rfl rfl
theorem s377_54 {d : Nat} {ls : mj_L} {st : List Value} {M : mj_H} : mj_Rn d mj_m377 54 ls st M = mq_k6 M (mj_re (some .int) (.ireturn) st) := mj_R6 (r := (.ireturn, 1, 0, 0, 0)) rfl rfl
theorem s377_55 {d : Nat} {ls : mj_L} {st : List Value} {M : mj_H} : mj_Rn d mj_m377 55 ls st M = mj_Rn d mj_m377 56 ls (.int 0 :: st) M := mj_R0 (r := (.iconst 0, 1, 0, 0, 0)) rfl rfl
theorem s377_56 {d : Nat} {ls : mj_L} {st : List Value} {M : mj_H} : mj_Rn d mj_m377 56 ls st M = mq_k1 d mj_m377 58 M (mj_lo 7 (.istore 6) ls st) := mj_R1 (r := (.istore 6, 2, 0, 0, 0)) rfl rfl
theorem s377_58 {d : Nat} {ls : mj_L} {st : List Value} {M : mj_H} : mj_Rn d mj_m377 58 ls st M = mq_k0 d mj_m377 60 ls M (mj_ldi (mj_lk ls 6) st) := mj_R0 (r := (.iload 6, 2, 0, 0, 0)) rfl rfl
theorem s377_60 {d : Nat} {ls : mj_L} {st : List Value} {M : mj_H} : mj_Rn d mj_m377 60 ls st M = mq_k0 d mj_m377 61 ls M (mj_lda (mj_lk ls 0) st) := mj_R0 (r := (.aload_n 0, 1, 0, 0, 0)) rfl rfl
theorem s377_61 {d : Nat} {ls : mj_L} {st : List Value} {M : mj_H} : mj_Rn d mj_m377 61 ls st M = mq_k0 d mj_m377 64 ls M (mq_gf 11 79 st M) := (mj_R3 (r := (.getfield 218, 3, 11, 79, 57466)) rfl rfl).trans (congrArg (mq_k0 d mj_m377 64 ls M) mq_gf_eq)
theorem s377_64 {d : Nat} {ls : mj_L} {st : List Value} {M : mj_H} : mj_Rn d mj_m377 64 ls st M = mq_k0 d mj_m377 65 ls M (mj_ldi (mj_lk ls 1) st) := mj_R0 (r := (.iload_n 1, 1, 0, 0, 0)) rfl rfl
theorem s377_65 {d : Nat} {ls : mj_L} {st : List Value} {M : mj_H} : mj_Rn d mj_m377 65 ls st M = mq_k0 d mj_m377 66 ls M (mq_al [1000] st M) := (mj_R3 (r := (.iaload, 1, 0, 0, 0)) rfl rfl).trans (congrArg (mq_k0 d mj_m377 66 ls M) mq_ali_eq)
theorem s377_66 {d : Nat} {ls : mj_L} {st : List Value} {M : mj_H} : mj_Rn d mj_m377 66 ls st M = mq_k2 d mj_m377 ls M (mj_br (.if_icmp .ge 28) 66 st) := mj_R2 (r := (.if_icmp .ge 28, 3, 0, 0, 0)) rfl rfl
theorem s377_69 {d : Nat} {ls : mj_L} {st : List Value} {M : mj_H} : mj_Rn d mj_m377 69 ls st M = mq_k0 d mj_m377 70 ls M (mj_lda (mj_lk ls 0) st) := mj_R0 (r := (.aload_n 0, 1, 0, 0, 0)) rfl rfl
theorem s377_70 {d : Nat} {ls : mj_L} {st : List Value} {M : mj_H} : mj_Rn d mj_m377 70 ls st M = mq_k0 d mj_m377 73 ls M (mq_gf 11 80 st M) := (mj_R3 (r := (.getfield 221, 3, 11, 80, 57468)) rfl rfl).trans (congrArg (mq_k0 d mj_m377 73 ls M) mq_gf_eq)
theorem s377_73 {d : Nat} {ls : mj_L} {st : List Value} {M : mj_H} : mj_Rn d mj_m377 73 ls st M = mj_Rn d mj_m377 75 ls (.int 8 :: st) M := mj_R0 (r := (.bipush 8, 2, 0, 0, 0)) rfl rfl
theorem s377_75 {d : Nat} {ls : mj_L} {st : List Value} {M : mj_H} : mj_Rn d mj_m377 75 ls st M = mq_k0 d mj_m377 76 ls M (mj_ldi (mj_lk ls 1) st) := mj_R0 (r := (.iload_n 1, 1, 0, 0, 0)) rfl rfl
theorem s377_76 {d : Nat} {ls : mj_L} {st : List Value} {M : mj_H} : mj_Rn d mj_m377 76 ls st M = mq_k0 d mj_m377 77 ls M (mj_pu .imul ls st) := mj_R0 (r := (.imul, 1, 0, 0, 0)) rfl rfl
theorem s377_77 {d : Nat} {ls : mj_L} {st : List Value} {M : mj_H} : mj_Rn d mj_m377 77 ls st M = mq_k0 d mj_m377 79 ls M (mj_ldi (mj_lk ls 6) st) := mj_R0 (r := (.iload 6, 2, 0, 0, 0)) rfl rfl
theorem s377_79 {d : Nat} {ls : mj_L} {st : List Value} {M : mj_H} : mj_Rn d mj_m377 79 ls st M = mq_k0 d mj_m377 80 ls M (mj_pu .iadd ls st) := mj_R0 (r := (.iadd, 1, 0, 0, 0)) rfl rfl
theorem s377_80 {d : Nat} {ls : mj_L} {st : List Value} {M : mj_H} : mj_Rn d mj_m377 80 ls st M = mq_k0 d mj_m377 81 ls M (mq_al [1000] st M) := (mj_R3 (r := (.iaload, 1, 0, 0, 0)) rfl rfl).trans (congrArg (mq_k0 d mj_m377 81 ls M) mq_ali_eq)
theorem s377_81 {d : Nat} {ls : mj_L} {st : List Value} {M : mj_H} : mj_Rn d mj_m377 81 ls st M = mq_k0 d mj_m377 82 ls M (mj_ldi (mj_lk ls 2) st) := mj_R0 (r := (.iload_n 2, 1, 0, 0, 0)) rfl rfl
theorem s377_82 {d : Nat} {ls : mj_L} {st : List Value} {M : mj_H} : mj_Rn d mj_m377 82 ls st M = mq_k2 d mj_m377 ls M (mj_br (.if_icmp .ne 6) 82 st) := mj_R2 (r := (.if_icmp .ne 6, 3, 0, 0, 0)) rfl rfl
theorem s377_85 {d : Nat} {ls : mj_L} {st : List Value} {M : mj_H} : mj_Rn d mj_m377 85 ls st M = mj_Rn d mj_m377 87 ls (.int 9 :: st) M := mj_R0 (r := (.bipush 9, 2, 0, 0, 0)) rfl rfl
theorem s377_87 {d : Nat} {ls : mj_L} {st : List Value} {M : mj_H} : mj_Rn d mj_m377 87 ls st M = mq_k6 M (mj_re (some .int) (.ireturn) st) := mj_R6 (r := (.ireturn, 1, 0, 0, 0)) rfl rfl
theorem s377_88 {d : Nat} {ls : mj_L} {st : List Value} {M : mj_H} : mj_Rn d mj_m377 88 ls st M = mq_k1 d mj_m377 91 M (mj_lo 7 (.iinc 6 1) ls st) := mj_R1 (r := (.iinc 6 1, 3, 0, 0, 0)) rfl rfl
theorem s377_91 {d : Nat} {ls : mj_L} {st : List Value} {M : mj_H} : mj_Rn d mj_m377 91 ls st M = mj_Rn d mj_m377 58 ls st M := mj_R2 (r := (.goto (-33), 3, 0, 0, 0)) rfl rfl
theorem s377_94 {d : Nat} {ls : mj_L} {st : List Value} {M : mj_H} : mj_Rn d mj_m377 94 ls st M = mq_k0 d mj_m377 95 ls M (mj_lda (mj_lk ls 0) st) := mj_R0 (r := (.aload_n 0, 1, 0, 0, 0)) rfl rfl
theorem s377_95 {d : Nat} {ls : mj_L} {st : List Value} {M : mj_H} : mj_Rn d mj_m377 95 ls st M = mq_k0 d mj_m377 98 ls M (mq_gf 11 79 st M) := (mj_R3 (r := (.getfield 218, 3, 11, 79, 57466)) rfl rfl).trans (congrArg (mq_k0 d mj_m377 98 ls M) mq_gf_eq)
theorem s377_98 {d : Nat} {ls : mj_L} {st : List Value} {M : mj_H} : mj_Rn d mj_m377 98 ls st M = mq_k0 d mj_m377 99 ls M (mj_ldi (mj_lk ls 1) st) := mj_R0 (r := (.iload_n 1, 1, 0, 0, 0)) rfl rfl
theorem s377_99 {d : Nat} {ls : mj_L} {st : List Value} {M : mj_H} : mj_Rn d mj_m377 99 ls st M = mq_k0 d mj_m377 100 ls M (mq_al [1000] st M) := (mj_R3 (r := (.iaload, 1, 0, 0, 0)) rfl rfl).trans (congrArg (mq_k0 d mj_m377 100 ls M) mq_ali_eq)
theorem s377_100 {d : Nat} {ls : mj_L} {st : List Value} {M : mj_H} : mj_Rn d mj_m377 100 ls st M = mj_Rn d mj_m377 102 ls (.int 8 :: st) M := mj_R0 (r := (.bipush 8, 2, 0, 0, 0)) rfl rfl
theorem s377_102 {d : Nat} {ls : mj_L} {st : List Value} {M : mj_H} : mj_Rn d mj_m377 102 ls st M = mq_k2 d mj_m377 ls M (mj_br (.if_icmp .ne 6) 102 st) := mj_R2 (r := (.if_icmp .ne 6, 3, 0, 0, 0)) rfl rfl
theorem s377_105 {d : Nat} {ls : mj_L} {st : List Value} {M : mj_H} : mj_Rn d mj_m377 105 ls st M = mj_Rn d mj_m377 107 ls (.int 10 :: st) M := mj_R0 (r := (.bipush 10, 2, 0, 0, 0)) rfl rfl
theorem s377_107 {d : Nat} {ls : mj_L} {st : List Value} {M : mj_H} : mj_Rn d mj_m377 107 ls st M = mq_k6 M (mj_re (some .int) (.ireturn) st) := mj_R6 (r := (.ireturn, 1, 0, 0, 0)) rfl rfl
theorem s377_108 {d : Nat} {ls : mj_L} {st : List Value} {M : mj_H} : mj_Rn d mj_m377 108 ls st M = mj_Rn d mj_m377 110 ls (.int 8 :: st) M := mj_R0 (r := (.bipush 8, 2, 0, 0, 0)) rfl rfl
theorem s377_110 {d : Nat} {ls : mj_L} {st : List Value} {M : mj_H} : mj_Rn d mj_m377 110 ls st M = mq_k0 d mj_m377 111 ls M (mj_ldi (mj_lk ls 1) st) := mj_R0 (r := (.iload_n 1, 1, 0, 0, 0)) rfl rfl
theorem s377_111 {d : Nat} {ls : mj_L} {st : List Value} {M : mj_H} : mj_Rn d mj_m377 111 ls st M = mq_k0 d mj_m377 112 ls M (mj_pu .imul ls st) := mj_R0 (r := (.imul, 1, 0, 0, 0)) rfl rfl
theorem s377_112 {d : Nat} {ls : mj_L} {st : List Value} {M : mj_H} : mj_Rn d mj_m377 112 ls st M = mq_k0 d mj_m377 113 ls M (mj_lda (mj_lk ls 0) st) := mj_R0 (r := (.aload_n 0, 1, 0, 0, 0)) rfl rfl
theorem s377_113 {d : Nat} {ls : mj_L} {st : List Value} {M : mj_H} : mj_Rn d mj_m377 113 ls st M = mq_k0 d mj_m377 116 ls M (mq_gf 11 79 st M) := (mj_R3 (r := (.getfield 218, 3, 11, 79, 57466)) rfl rfl).trans (congrArg (mq_k0 d mj_m377 116 ls M) mq_gf_eq)
theorem s377_116 {d : Nat} {ls : mj_L} {st : List Value} {M : mj_H} : mj_Rn d mj_m377 116 ls st M = mq_k0 d mj_m377 117 ls M (mj_ldi (mj_lk ls 1) st) := mj_R0 (r := (.iload_n 1, 1, 0, 0, 0)) rfl rfl
theorem s377_117 {d : Nat} {ls : mj_L} {st : List Value} {M : mj_H} : mj_Rn d mj_m377 117 ls st M = mq_k0 d mj_m377 118 ls M (mq_al [1000] st M) := (mj_R3 (r := (.iaload, 1, 0, 0, 0)) rfl rfl).trans (congrArg (mq_k0 d mj_m377 118 ls M) mq_ali_eq)
theorem s377_118 {d : Nat} {ls : mj_L} {st : List Value} {M : mj_H} : mj_Rn d mj_m377 118 ls st M = mq_k0 d mj_m377 119 ls M (mj_pu .iadd ls st) := mj_R0 (r := (.iadd, 1, 0, 0, 0)) rfl rfl
theorem s377_119 {d : Nat} {ls : mj_L} {st : List Value} {M : mj_H} : mj_Rn d mj_m377 119 ls st M = mq_k1 d mj_m377 121 M (mj_lo 7 (.istore 6) ls st) := mj_R1 (r := (.istore 6, 2, 0, 0, 0)) rfl rfl
theorem s377_121 {d : Nat} {ls : mj_L} {st : List Value} {M : mj_H} : mj_Rn d mj_m377 121 ls st M = mq_k0 d mj_m377 122 ls M (mj_lda (mj_lk ls 0) st) := mj_R0 (r := (.aload_n 0, 1, 0, 0, 0)) rfl rfl
theorem s377_122 {d : Nat} {ls : mj_L} {st : List Value} {M : mj_H} : mj_Rn d mj_m377 122 ls st M = mq_k0 d mj_m377 125 ls M (mq_gf 11 79 st M) := (mj_R3 (r := (.getfield 218, 3, 11, 79, 57466)) rfl rfl).trans (congrArg (mq_k0 d mj_m377 125 ls M) mq_gf_eq)
theorem s377_125 {d : Nat} {ls : mj_L} {st : List Value} {M : mj_H} : mj_Rn d mj_m377 125 ls st M = mq_k0 d mj_m377 126 ls M (mj_ldi (mj_lk ls 1) st) := mj_R0 (r := (.iload_n 1, 1, 0, 0, 0)) rfl rfl
theorem s377_126 {d : Nat} {ls : mj_L} {st : List Value} {M : mj_H} : mj_Rn d mj_m377 126 ls st M = mq_k0 d mj_m377 127 ls M (mj_pu .dup2 ls st) := mj_R0 (r := (.dup2, 1, 0, 0, 0)) rfl rfl
theorem s377_127 {d : Nat} {ls : mj_L} {st : List Value} {M : mj_H} : mj_Rn d mj_m377 127 ls st M = mq_k0 d mj_m377 128 ls M (mq_al [1000] st M) := (mj_R3 (r := (.iaload, 1, 0, 0, 0)) rfl rfl).trans (congrArg (mq_k0 d mj_m377 128 ls M) mq_ali_eq)
theorem s377_128 {d : Nat} {ls : mj_L} {st : List Value} {M : mj_H} : mj_Rn d mj_m377 128 ls st M = mj_Rn d mj_m377 129 ls (.int 1 :: st) M := mj_R0 (r := (.iconst 1, 1, 0, 0, 0)) rfl rfl
theorem s377_129 {d : Nat} {ls : mj_L} {st : List Value} {M : mj_H} : mj_Rn d mj_m377 129 ls st M = mq_k0 d mj_m377 130 ls M (mj_pu .iadd ls st) := mj_R0 (r := (.iadd, 1, 0, 0, 0)) rfl rfl
theorem s377_130 {d : Nat} {ls : mj_L} {st : List Value} {M : mj_H} : mj_Rn d mj_m377 130 ls st M = mq_k4 d mj_m377 131 ls (mj_hw (.iastore, 1, 0, 0, 0) st M) := mj_R4 (r := (.iastore, 1, 0, 0, 0)) rfl rfl
theorem s377_131 {d : Nat} {ls : mj_L} {st : List Value} {M : mj_H} : mj_Rn d mj_m377 131 ls st M = mq_k0 d mj_m377 132 ls M (mj_lda (mj_lk ls 0) st) := mj_R0 (r := (.aload_n 0, 1, 0, 0, 0)) rfl rfl
theorem s377_132 {d : Nat} {ls : mj_L} {st : List Value} {M : mj_H} : mj_Rn d mj_m377 132 ls st M = mq_k0 d mj_m377 135 ls M (mq_gf 11 80 st M) := (mj_R3 (r := (.getfield 221, 3, 11, 80, 57468)) rfl rfl).trans (congrArg (mq_k0 d mj_m377 135 ls M) mq_gf_eq)
theorem s377_135 {d : Nat} {ls : mj_L} {st : List Value} {M : mj_H} : mj_Rn d mj_m377 135 ls st M = mq_k0 d mj_m377 137 ls M (mj_ldi (mj_lk ls 6) st) := mj_R0 (r := (.iload 6, 2, 0, 0, 0)) rfl rfl
theorem s377_137 {d : Nat} {ls : mj_L} {st : List Value} {M : mj_H} : mj_Rn d mj_m377 137 ls st M = mq_k0 d mj_m377 138 ls M (mj_ldi (mj_lk ls 2) st) := mj_R0 (r := (.iload_n 2, 1, 0, 0, 0)) rfl rfl
theorem s377_138 {d : Nat} {ls : mj_L} {st : List Value} {M : mj_H} : mj_Rn d mj_m377 138 ls st M = mq_k4 d mj_m377 139 ls (mj_hw (.iastore, 1, 0, 0, 0) st M) := mj_R4 (r := (.iastore, 1, 0, 0, 0)) rfl rfl
theorem s377_139 {d : Nat} {ls : mj_L} {st : List Value} {M : mj_H} : mj_Rn d mj_m377 139 ls st M = mq_k0 d mj_m377 140 ls M (mj_lda (mj_lk ls 0) st) := mj_R0 (r := (.aload_n 0, 1, 0, 0, 0)) rfl rfl
theorem s377_140 {d : Nat} {ls : mj_L} {st : List Value} {M : mj_H} : mj_Rn d mj_m377 140 ls st M = mq_k0 d mj_m377 143 ls M (mq_gf 11 81 st M) := (mj_R3 (r := (.getfield 224, 3, 11, 81, 57470)) rfl rfl).trans (congrArg (mq_k0 d mj_m377 143 ls M) mq_gf_eq)
theorem s377_143 {d : Nat} {ls : mj_L} {st : List Value} {M : mj_H} : mj_Rn d mj_m377 143 ls st M = mq_k0 d mj_m377 145 ls M (mj_ldi (mj_lk ls 6) st) := mj_R0 (r := (.iload 6, 2, 0, 0, 0)) rfl rfl
theorem s377_145 {d : Nat} {ls : mj_L} {st : List Value} {M : mj_H} : mj_Rn d mj_m377 145 ls st M = mq_k0 d mj_m377 147 ls M (mj_ldi (mj_lk ls 5) st) := mj_R0 (r := (.iload 5, 2, 0, 0, 0)) rfl rfl
theorem s377_147 {d : Nat} {ls : mj_L} {st : List Value} {M : mj_H} : mj_Rn d mj_m377 147 ls st M = mq_k4 d mj_m377 148 ls (mj_hw (.iastore, 1, 0, 0, 0) st M) := mj_R4 (r := (.iastore, 1, 0, 0, 0)) rfl rfl
theorem s377_148 {d : Nat} {ls : mj_L} {st : List Value} {M : mj_H} : mj_Rn d mj_m377 148 ls st M = mq_k0 d mj_m377 149 ls M (mj_lda (mj_lk ls 0) st) := mj_R0 (r := (.aload_n 0, 1, 0, 0, 0)) rfl rfl
theorem s377_149 {d : Nat} {ls : mj_L} {st : List Value} {M : mj_H} : mj_Rn d mj_m377 149 ls st M = mq_k0 d mj_m377 152 ls M (mq_gf 11 82 st M) := (mj_R3 (r := (.getfield 227, 3, 11, 82, 57472)) rfl rfl).trans (congrArg (mq_k0 d mj_m377 152 ls M) mq_gf_eq)
theorem s377_152 {d : Nat} {ls : mj_L} {st : List Value} {M : mj_H} : mj_Rn d mj_m377 152 ls st M = mq_k0 d mj_m377 154 ls M (mj_ldi (mj_lk ls 6) st) := mj_R0 (r := (.iload 6, 2, 0, 0, 0)) rfl rfl
theorem s377_154 {d : Nat} {ls : mj_L} {st : List Value} {M : mj_H} : mj_Rn d mj_m377 154 ls st M = mq_k0 d mj_m377 155 ls M (mj_lda (mj_lk ls 0) st) := mj_R0 (r := (.aload_n 0, 1, 0, 0, 0)) rfl rfl
theorem s377_155 {d : Nat} {ls : mj_L} {st : List Value} {M : mj_H} : mj_Rn d mj_m377 155 ls st M = mq_k0 d mj_m377 158 ls M (mq_gf 11 10 st M) := (mj_R3 (r := (.getfield 27, 3, 11, 10, 49616)) rfl rfl).trans (congrArg (mq_k0 d mj_m377 158 ls M) mq_gf_eq)
theorem s377_158 {d : Nat} {ls : mj_L} {st : List Value} {M : mj_H} : mj_Rn d mj_m377 158 ls st M = mq_k0 d mj_m377 159 ls M (mj_ldi (mj_lk ls 3) st) := mj_R0 (r := (.iload_n 3, 1, 0, 0, 0)) rfl rfl
theorem s377_159 {d : Nat} {ls : mj_L} {st : List Value} {M : mj_H} : mj_Rn d mj_m377 159 ls st M = mj_Rn d mj_m377 160 ls (.int 5 :: st) M := mj_R0 (r := (.iconst 5, 1, 0, 0, 0)) rfl rfl
theorem s377_160 {d : Nat} {ls : mj_L} {st : List Value} {M : mj_H} : mj_Rn d mj_m377 160 ls st M = mq_k0 d mj_m377 161 ls M (mj_pu .iadd ls st) := mj_R0 (r := (.iadd, 1, 0, 0, 0)) rfl rfl
theorem s377_161 {d : Nat} {ls : mj_L} {st : List Value} {M : mj_H} : mj_Rn (d + 1) mj_m377 161 ls st M = mq_k5a (d + 1) mj_m377 164 ls M 257 (mq_cb 2 2 11 st M) := mj_R5e (r := (.invokestatic 364, 3, 2, 257, 32881)) (z := mj_m257) rfl rfl (by decide) (by decide) rfl
theorem s377_164 {d : Nat} {ls : mj_L} {st : List Value} {M : mj_H} : mj_Rn d mj_m377 164 ls st M = mq_k4 d mj_m377 165 ls (mj_hw (.iastore, 1, 0, 0, 0) st M) := mj_R4 (r := (.iastore, 1, 0, 0, 0)) rfl rfl
theorem s377_165 {d : Nat} {ls : mj_L} {st : List Value} {M : mj_H} : mj_Rn d mj_m377 165 ls st M = mq_k0 d mj_m377 166 ls M (mj_lda (mj_lk ls 0) st) := mj_R0 (r := (.aload_n 0, 1, 0, 0, 0)) rfl rfl
theorem s377_166 {d : Nat} {ls : mj_L} {st : List Value} {M : mj_H} : mj_Rn d mj_m377 166 ls st M = mq_k0 d mj_m377 169 ls M (mq_gf 11 83 st M) := (mj_R3 (r := (.getfield 230, 3, 11, 83, 57474)) rfl rfl).trans (congrArg (mq_k0 d mj_m377 169 ls M) mq_gf_eq)
theorem s377_169 {d : Nat} {ls : mj_L} {st : List Value} {M : mj_H} : mj_Rn d mj_m377 169 ls st M = mq_k0 d mj_m377 171 ls M (mj_ldi (mj_lk ls 6) st) := mj_R0 (r := (.iload 6, 2, 0, 0, 0)) rfl rfl
theorem s377_171 {d : Nat} {ls : mj_L} {st : List Value} {M : mj_H} : mj_Rn d mj_m377 171 ls st M = mj_Rn d mj_m377 172 ls (.int 0 :: st) M := mj_R0 (r := (.iconst 0, 1, 0, 0, 0)) rfl rfl
theorem s377_172 {d : Nat} {ls : mj_L} {st : List Value} {M : mj_H} : mj_Rn d mj_m377 172 ls st M = mq_k4 d mj_m377 173 ls (mj_hw (.iastore, 1, 0, 0, 0) st M) := mj_R4 (r := (.iastore, 1, 0, 0, 0)) rfl rfl
theorem s377_173 {d : Nat} {ls : mj_L} {st : List Value} {M : mj_H} : mj_Rn d mj_m377 173 ls st M = mq_k0 d mj_m377 174 ls M (mj_lda (mj_lk ls 0) st) := mj_R0 (r := (.aload_n 0, 1, 0, 0, 0)) rfl rfl
theorem s377_174 {d : Nat} {ls : mj_L} {st : List Value} {M : mj_H} : mj_Rn d mj_m377 174 ls st M = mq_k0 d mj_m377 177 ls M (mq_gf 11 85 st M) := (mj_R3 (r := (.getfield 236, 3, 11, 85, 57478)) rfl rfl).trans (congrArg (mq_k0 d mj_m377 177 ls M) mq_gf_eq)
theorem s377_177 {d : Nat} {ls : mj_L} {st : List Value} {M : mj_H} : mj_Rn d mj_m377 177 ls st M = mq_k0 d mj_m377 179 ls M (mj_ldi (mj_lk ls 6) st) := mj_R0 (r := (.iload 6, 2, 0, 0, 0)) rfl rfl
theorem s377_179 {d : Nat} {ls : mj_L} {st : List Value} {M : mj_H} : mj_Rn d mj_m377 179 ls st M = mq_k0 d mj_m377 180 ls M (mj_lda (mj_lk ls 0) st) := mj_R0 (r := (.aload_n 0, 1, 0, 0, 0)) rfl rfl
theorem s377_180 {d : Nat} {ls : mj_L} {st : List Value} {M : mj_H} : mj_Rn d mj_m377 180 ls st M = mq_k0 d mj_m377 183 ls M (mq_gf 11 89 st M) := (mj_R3 (r := (.getfield 673, 3, 11, 89, 57486)) rfl rfl).trans (congrArg (mq_k0 d mj_m377 183 ls M) mq_gf_eq)
theorem s377_183 {d : Nat} {ls : mj_L} {st : List Value} {M : mj_H} : mj_Rn d mj_m377 183 ls st M = mq_k4 d mj_m377 184 ls (mj_hw (.iastore, 1, 0, 0, 0) st M) := mj_R4 (r := (.iastore, 1, 0, 0, 0)) rfl rfl
theorem s377_184 {d : Nat} {ls : mj_L} {st : List Value} {M : mj_H} : mj_Rn d mj_m377 184 ls st M = mq_k0 d mj_m377 185 ls M (mj_lda (mj_lk ls 0) st) := mj_R0 (r := (.aload_n 0, 1, 0, 0, 0)) rfl rfl
theorem s377_185 {d : Nat} {ls : mj_L} {st : List Value} {M : mj_H} : mj_Rn d mj_m377 185 ls st M = mq_k0 d mj_m377 188 ls M (mq_gf 11 88 st M) := (mj_R3 (r := (.getfield 245, 3, 11, 88, 57484)) rfl rfl).trans (congrArg (mq_k0 d mj_m377 188 ls M) mq_gf_eq)
theorem s377_188 {d : Nat} {ls : mj_L} {st : List Value} {M : mj_H} : mj_Rn d mj_m377 188 ls st M = mj_Rn d mj_m377 189 ls (.int 0 :: st) M := mj_R0 (r := (.iconst 0, 1, 0, 0, 0)) rfl rfl
theorem s377_189 {d : Nat} {ls : mj_L} {st : List Value} {M : mj_H} : mj_Rn d mj_m377 189 ls st M = mq_k0 d mj_m377 190 ls M (mj_lda (mj_lk ls 0) st) := mj_R0 (r := (.aload_n 0, 1, 0, 0, 0)) rfl rfl
theorem s377_190 {d : Nat} {ls : mj_L} {st : List Value} {M : mj_H} : mj_Rn d mj_m377 190 ls st M = mq_k0 d mj_m377 193 ls M (mq_gf 11 84 st M) := (mj_R3 (r := (.getfield 233, 3, 11, 84, 57476)) rfl rfl).trans (congrArg (mq_k0 d mj_m377 193 ls M) mq_gf_eq)
theorem s377_193 {d : Nat} {ls : mj_L} {st : List Value} {M : mj_H} : mj_Rn d mj_m377 193 ls st M = mj_Rn d mj_m377 195 ls (.int 8 :: st) M := mj_R0 (r := (.bipush 8, 2, 0, 0, 0)) rfl rfl
theorem s377_195 {d : Nat} {ls : mj_L} {st : List Value} {M : mj_H} : mj_Rn d mj_m377 195 ls st M = mq_k0 d mj_m377 197 ls M (mj_ldi (mj_lk ls 6) st) := mj_R0 (r := (.iload 6, 2, 0, 0, 0)) rfl rfl
theorem s377_197 {d : Nat} {ls : mj_L} {st : List Value} {M : mj_H} : mj_Rn d mj_m377 197 ls st M = mq_k0 d mj_m377 198 ls M (mj_pu .imul ls st) := mj_R0 (r := (.imul, 1, 0, 0, 0)) rfl rfl
theorem s377_198 {d : Nat} {ls : mj_L} {st : List Value} {M : mj_H} : mj_Rn d mj_m377 198 ls st M = mj_Rn d mj_m377 200 ls (.int 8 :: st) M := mj_R0 (r := (.bipush 8, 2, 0, 0, 0)) rfl rfl
theorem s377_200 {d : Nat} {ls : mj_L} {st : List Value} {M : mj_H} : mj_Rn (d + 1) mj_m377 200 ls st M = mq_k4 (d + 1) mj_m377 203 ls (mq_cpr st M) := mj_R5ce (r := (.invokestatic 248, 3, 7, 0, 32847)) rfl rfl rfl
theorem s377_203 {d : Nat} {ls : mj_L} {st : List Value} {M : mj_H} : mj_Rn d mj_m377 203 ls st M = mj_Rn d mj_m377 204 ls (.int 0 :: st) M := mj_R0 (r := (.iconst 0, 1, 0, 0, 0)) rfl rfl
theorem s377_204 {d : Nat} {ls : mj_L} {st : List Value} {M : mj_H} : mj_Rn d mj_m377 204 ls st M = mq_k6 M (mj_re (some .int) (.ireturn) st) := mj_R6 (r := (.ireturn, 1, 0, 0, 0)) rfl rfl
theorem c377 {d : Nat} {a0 : Nat} {x1 : Int32} {x2 : Int32} {x3 : Int32} {x4 : Int32} {M : mj_H} : mj_V (d + 1) 377 [.ref a0, .int x1, .int x2, .int x3, .int x4] M = mj_Rn d mj_m377 0 [(0, .ref a0), (1, .int x1), (2, .int x2), (3, .int x3), (4, .int x4)] [] M := mj_V_go rfl (Nat.le_of_ble_eq_true rfl)
/-- with ids of their own, the first with an id is the first with id and user -/
theorem ac_find {l : List Ac} (h : acD l) (id : Int32) (u : List Int32) : l.findIdx? (fun a => decide (a.1 = id ∧ a.2.2.2.2 = u)) = match l.findIdx? (fun a => decide (a.1 = id)) with
    | none => none
    | some j => match l[j]? with
      | none => none
      | some a => if a.2.2.2.2 = u then some j else none := by
  cases h1 : l.findIdx? (fun a => decide (a.1 = id)) with
  | none =>
    rw [List.findIdx?_eq_none_iff] at h1 ⊢
    intro a ha
    have := h1 a ha
    simp only [decide_eq_false_iff_not] at this ⊢
    exact fun w => this w.1
  | some j =>
    rw [List.findIdx?_eq_some_iff_getElem] at h1
    obtain ⟨hj, e1, e2⟩ := h1
    dsimp only
    rw [List.getElem?_eq_getElem hj]
    simp only [decide_eq_true_eq] at e1
    dsimp only
    by_cases hu : l[j].2.2.2.2 = u
    · rw [if_pos hu, List.findIdx?_eq_some_iff_getElem]
      refine ⟨hj, by simp [S_cb_mmade4_0, S_bx_mcan1_0, S_b8_mkey_1, S_b8_mkey_0, S_b1_mterm_0, S_b1_copy_0, S_b0_mod_7, S_b0_mod_6, S_b0_mod_5, S_b0_mod_3, S_b0_mod_2, S_b0_mod_1, S_b0_mod_0, S_cb_mmade4_1h, S_bx_mcan1_1h, S_b0_mod_4h, e1, hu], fun k hk => ?_⟩
      have := e2 k hk
      simp only [decide_eq_true_eq] at this ⊢
      exact fun w => this w.1
    · rw [if_neg hu, List.findIdx?_eq_none_iff]
      intro a ha
      simp only [decide_eq_false_iff_not]
      intro w
      obtain ⟨k, hk, rfl⟩ := List.getElem_of_mem ha
      have := h j k _ _ (List.getElem?_eq_getElem hj) (List.getElem?_eq_getElem hk) (by rw [e1, w.1])
      subst this
      exact hu w.2
section
variable {x : Fx} {y : Sy} {d : Nat} {B : Bs} {H : Ho} {T : Tm} {D O u : List Int32} {j : Nat} {p : Pa}
theorem l_entered (z : mz x y H) (hp : H.2.2.2.2[j]? = some p) (I : yi y u) {id sig : Int32} {data : Nat} : ∀ (r i : Nat), i + r = p.2.2.2.1.length → ∀ rr,
    mj_Rn (d + 1) mj_m374 50 [(5, .int (nI (8 * j + (i + (p.2.2.2.1.drop i).findIdx (fun a => decide (a.1 = id ∧ a.2.2.2.2 = u)))))), (6, .int (nI (8 * j + p.2.2.2.1.length))), (0, .ref 67), (1, .int (nI j)), (2, .int id), (3, .int (nI data)), (4, .int sig)] [] (mm B x y) = some rr →
    mj_Rn (d + 1) mj_m374 17 [(5, .int (nI (8 * j + i))), (6, .int (nI (8 * j + p.2.2.2.1.length))), (0, .ref 67), (1, .int (nI j)), (2, .int id), (3, .int (nI data)), (4, .int sig)] [] (mm B x y) = some rr := by
  have m := z.h.ps j p hp
  have hj := get_lt hp
  have h4 := z.h.n4
  have h8 := m.ac8
  have l1 := z.h.l.accId
  have l2 := z.h.l.accUser
  have l3 := z.h.l.accLong
  intro r
  induction r with
  | zero =>
    intro i hi rr h
    rw [List.drop_eq_nil_of_le (by omega), List.findIdx_nil, Nat.add_zero] at h
    simp (disch := (first | omega | decide)) [S_cb_mmade4_0, S_bx_mcan1_0, S_b8_mkey_1, S_b8_mkey_0, S_b1_mterm_0, S_b1_copy_0, S_b0_mod_7, S_b0_mod_6, S_b0_mod_5, S_b0_mod_3, S_b0_mod_2, S_b0_mod_1, S_b0_mod_0, S_cb_mmade4_1h, S_bx_mcan1_1h, S_b0_mod_4h, s374_0, s374_2, s374_3, s374_4, s374_6, s374_8, s374_9, s374_12, s374_13, s374_14, s374_15, s374_17, s374_19, s374_21, s374_24, s374_25, s374_28, s374_30, s374_31, s374_32, s374_35, s374_36, s374_38, s374_41, s374_44, s374_47, s374_52, s374_54, s374_57, s374_59, s374_60, s374_61, s374_63, s374_64, s374_67, s374_69, s374_70, s374_71, s374_73, s374_76, s374_79, s374_81, s374_82, s374_83, s374_86, s374_87, s374_88, s374_89, s374_92, s374_94, s374_96, s374_97, s374_100, s374_101, s374_102, s374_105, s374_107, s374_108, s374_109, s374_112, s374_113, s374_114, s374_117, s374_118, s374_121, s374_122, s374_124, s374_126, s374_129, s374_131, s374_134, s374_135, s374_138, s374_140, s374_141, s374_144, s374_146, s374_147, s374_148, s374_151, s374_153, s374_155, s374_156, s374_157, s374_160, s374_162, s374_163, s374_164, s374_165, s374_166, s374_167, s374_168, mq_k0s, mq_k1s, mq_k2s, mq_k4s, mq_k5s, mq_k5n, mq_k5as, mq_k6s, mj_pu, mj_lo, mj_br, mj_hr, mj_hw, mq_gf, mq_len, mq_al, mq_pf, mq_ok, mj_re, mq_lkm, mq_lkn, mj_ldi, mj_ldl, mj_lda, mj_ii, mj_ll, mj_li, mj_i1, ms_1, ms_2, f1_n, f1_i, f1_r, f1_u, f1_l, f2_n, f2_i, f2_r, f2_u, f2_l, mj_tg, mj_c1, mj_c2, mj_ar, mj_aw, mq_cb, mq_oi, mj_rm, Value.category, -getElem?_pos, List.getElem?_cons_zero, decide_eq_true, decide_eq_false, nl_lt, nl_le, ln_lt, ln_le, nl_eq, ln_eq, nl_add, ln_add, nl_sub, ln_mul, nI_sub, nI_mul, nI_add, nI_lt_iff, nI_le_iff, nI_inj, nI_num, mq_ix, nI_1, nl_mul, nl_div, show p.2.2.2.1.length ≤ i by omega]
    exact h
  | succ r ih =>
    intro i hi rr h
    have hil : i < p.2.2.2.1.length := by omega
    have ha : p.2.2.2.1[i]? = some p.2.2.2.1[i] := List.getElem?_eq_getElem hil
    have am := m.as i _ ha
    have a1 := am.id
    have ri := q_isIts (d := d) (B := B) I (A := 8 * j + i) (by omega) l2 l3 am
    rw [List.drop_eq_getElem_cons hil, List.findIdx_cons] at h
    generalize p.2.2.2.1[i] = a at *
    rw [s374_17]
    by_cases c1 : a.1 = id
    · by_cases c2 : a.2.2.2.2 = u
      · have e : decide (a.1 = id ∧ a.2.2.2.2 = u) = true := by simp [S_cb_mmade4_0, S_bx_mcan1_0, S_b8_mkey_1, S_b8_mkey_0, S_b1_mterm_0, S_b1_copy_0, S_b0_mod_7, S_b0_mod_6, S_b0_mod_5, S_b0_mod_3, S_b0_mod_2, S_b0_mod_1, S_b0_mod_0, S_cb_mmade4_1h, S_bx_mcan1_1h, S_b0_mod_4h, c1, c2]
        rw [e, cond_true, Nat.add_zero] at h
        rw [decide_eq_true c2] at ri
        simp only [on1, if_true] at ri
        subst c1
        simp (disch := (first | omega | decide)) [S_cb_mmade4_0, S_bx_mcan1_0, S_b8_mkey_1, S_b8_mkey_0, S_b1_mterm_0, S_b1_copy_0, S_b0_mod_7, S_b0_mod_6, S_b0_mod_5, S_b0_mod_3, S_b0_mod_2, S_b0_mod_1, S_b0_mod_0, S_cb_mmade4_1h, S_bx_mcan1_1h, S_b0_mod_4h, s374_0, s374_2, s374_3, s374_4, s374_6, s374_8, s374_9, s374_12, s374_13, s374_14, s374_15, s374_19, s374_21, s374_24, s374_25, s374_28, s374_30, s374_31, s374_32, s374_35, s374_36, s374_38, s374_41, s374_44, s374_47, s374_52, s374_54, s374_57, s374_59, s374_60, s374_61, s374_63, s374_64, s374_67, s374_69, s374_70, s374_71, s374_73, s374_76, s374_79, s374_81, s374_82, s374_83, s374_86, s374_87, s374_88, s374_89, s374_92, s374_94, s374_96, s374_97, s374_100, s374_101, s374_102, s374_105, s374_107, s374_108, s374_109, s374_112, s374_113, s374_114, s374_117, s374_118, s374_121, s374_122, s374_124, s374_126, s374_129, s374_131, s374_134, s374_135, s374_138, s374_140, s374_141, s374_144, s374_146, s374_147, s374_148, s374_151, s374_153, s374_155, s374_156, s374_157, s374_160, s374_162, s374_163, s374_164, s374_165, s374_166, s374_167, s374_168, mq_k0s, mq_k1s, mq_k2s, mq_k4s, mq_k5s, mq_k5n, mq_k5as, mq_k6s, mj_pu, mj_lo, mj_br, mj_hr, mj_hw, mq_gf, mq_len, mq_al, mq_pf, mq_ok, mj_re, mq_lkm, mq_lkn, mj_ldi, mj_ldl, mj_lda, mj_ii, mj_ll, mj_li, mj_i1, ms_1, ms_2, f1_n, f1_i, f1_r, f1_u, f1_l, f2_n, f2_i, f2_r, f2_u, f2_l, mj_tg, mj_c1, mj_c2, mj_ar, mj_aw, mq_cb, mq_oi, mj_rm, Value.category, -getElem?_pos, List.getElem?_cons_zero, decide_eq_true, decide_eq_false, nl_lt, nl_le, ln_lt, ln_le, nl_eq, ln_eq, nl_add, ln_add, nl_sub, ln_mul, nI_sub, nI_mul, nI_add, nI_lt_iff, nI_le_iff, nI_inj, nI_num, mq_ix, nI_1, nl_mul, nl_div, show ¬ p.2.2.2.1.length ≤ i by omega, l1, a1, ri]
        exact h
      · have e : decide (a.1 = id ∧ a.2.2.2.2 = u) = false := by simp [S_cb_mmade4_0, S_bx_mcan1_0, S_b8_mkey_1, S_b8_mkey_0, S_b1_mterm_0, S_b1_copy_0, S_b0_mod_7, S_b0_mod_6, S_b0_mod_5, S_b0_mod_3, S_b0_mod_2, S_b0_mod_1, S_b0_mod_0, S_cb_mmade4_1h, S_bx_mcan1_1h, S_b0_mod_4h, c2]
        rw [e, cond_false] at h
        rw [decide_eq_false c2] at ri
        simp only [on1, Bool.false_eq_true, if_false] at ri
        have r1 := ih (i + 1) (by omega) rr (by rw [show i + 1 + (p.2.2.2.1.drop (i + 1)).findIdx (fun a => decide (a.1 = id ∧ a.2.2.2.2 = u)) = i + ((p.2.2.2.1.drop (i + 1)).findIdx (fun a => decide (a.1 = id ∧ a.2.2.2.2 = u)) + 1) from by omega]; exact h)
        subst c1
        simp (disch := (first | omega | decide)) [S_cb_mmade4_0, S_bx_mcan1_0, S_b8_mkey_1, S_b8_mkey_0, S_b1_mterm_0, S_b1_copy_0, S_b0_mod_7, S_b0_mod_6, S_b0_mod_5, S_b0_mod_3, S_b0_mod_2, S_b0_mod_1, S_b0_mod_0, S_cb_mmade4_1h, S_bx_mcan1_1h, S_b0_mod_4h, s374_0, s374_2, s374_3, s374_4, s374_6, s374_8, s374_9, s374_12, s374_13, s374_14, s374_15, s374_19, s374_21, s374_24, s374_25, s374_28, s374_30, s374_31, s374_32, s374_35, s374_36, s374_38, s374_41, s374_44, s374_47, s374_52, s374_54, s374_57, s374_59, s374_60, s374_61, s374_63, s374_64, s374_67, s374_69, s374_70, s374_71, s374_73, s374_76, s374_79, s374_81, s374_82, s374_83, s374_86, s374_87, s374_88, s374_89, s374_92, s374_94, s374_96, s374_97, s374_100, s374_101, s374_102, s374_105, s374_107, s374_108, s374_109, s374_112, s374_113, s374_114, s374_117, s374_118, s374_121, s374_122, s374_124, s374_126, s374_129, s374_131, s374_134, s374_135, s374_138, s374_140, s374_141, s374_144, s374_146, s374_147, s374_148, s374_151, s374_153, s374_155, s374_156, s374_157, s374_160, s374_162, s374_163, s374_164, s374_165, s374_166, s374_167, s374_168, mq_k0s, mq_k1s, mq_k2s, mq_k4s, mq_k5s, mq_k5n, mq_k5as, mq_k6s, mj_pu, mj_lo, mj_br, mj_hr, mj_hw, mq_gf, mq_len, mq_al, mq_pf, mq_ok, mj_re, mq_lkm, mq_lkn, mj_ldi, mj_ldl, mj_lda, mj_ii, mj_ll, mj_li, mj_i1, ms_1, ms_2, f1_n, f1_i, f1_r, f1_u, f1_l, f2_n, f2_i, f2_r, f2_u, f2_l, mj_tg, mj_c1, mj_c2, mj_ar, mj_aw, mq_cb, mq_oi, mj_rm, Value.category, -getElem?_pos, List.getElem?_cons_zero, decide_eq_true, decide_eq_false, nl_lt, nl_le, ln_lt, ln_le, nl_eq, ln_eq, nl_add, ln_add, nl_sub, ln_mul, nI_sub, nI_mul, nI_add, nI_lt_iff, nI_le_iff, nI_inj, nI_num, mq_ix, nI_1, nl_mul, nl_div, show ¬ p.2.2.2.1.length ≤ i by omega, l1, a1, ri]
        exact r1
    · have e : decide (a.1 = id ∧ a.2.2.2.2 = u) = false := by simp [S_cb_mmade4_0, S_bx_mcan1_0, S_b8_mkey_1, S_b8_mkey_0, S_b1_mterm_0, S_b1_copy_0, S_b0_mod_7, S_b0_mod_6, S_b0_mod_5, S_b0_mod_3, S_b0_mod_2, S_b0_mod_1, S_b0_mod_0, S_cb_mmade4_1h, S_bx_mcan1_1h, S_b0_mod_4h, c1]
      rw [e, cond_false] at h
      have r1 := ih (i + 1) (by omega) rr (by rw [show i + 1 + (p.2.2.2.1.drop (i + 1)).findIdx (fun a => decide (a.1 = id ∧ a.2.2.2.2 = u)) = i + ((p.2.2.2.1.drop (i + 1)).findIdx (fun a => decide (a.1 = id ∧ a.2.2.2.2 = u)) + 1) from by omega]; exact h)
      simp (disch := (first | omega | decide)) [S_cb_mmade4_0, S_bx_mcan1_0, S_b8_mkey_1, S_b8_mkey_0, S_b1_mterm_0, S_b1_copy_0, S_b0_mod_7, S_b0_mod_6, S_b0_mod_5, S_b0_mod_3, S_b0_mod_2, S_b0_mod_1, S_b0_mod_0, S_cb_mmade4_1h, S_bx_mcan1_1h, S_b0_mod_4h, s374_0, s374_2, s374_3, s374_4, s374_6, s374_8, s374_9, s374_12, s374_13, s374_14, s374_15, s374_19, s374_21, s374_24, s374_25, s374_28, s374_30, s374_31, s374_32, s374_35, s374_36, s374_38, s374_41, s374_44, s374_47, s374_52, s374_54, s374_57, s374_59, s374_60, s374_61, s374_63, s374_64, s374_67, s374_69, s374_70, s374_71, s374_73, s374_76, s374_79, s374_81, s374_82, s374_83, s374_86, s374_87, s374_88, s374_89, s374_92, s374_94, s374_96, s374_97, s374_100, s374_101, s374_102, s374_105, s374_107, s374_108, s374_109, s374_112, s374_113, s374_114, s374_117, s374_118, s374_121, s374_122, s374_124, s374_126, s374_129, s374_131, s374_134, s374_135, s374_138, s374_140, s374_141, s374_144, s374_146, s374_147, s374_148, s374_151, s374_153, s374_155, s374_156, s374_157, s374_160, s374_162, s374_163, s374_164, s374_165, s374_166, s374_167, s374_168, mq_k0s, mq_k1s, mq_k2s, mq_k4s, mq_k5s, mq_k5n, mq_k5as, mq_k6s, mj_pu, mj_lo, mj_br, mj_hr, mj_hw, mq_gf, mq_len, mq_al, mq_pf, mq_ok, mj_re, mq_lkm, mq_lkn, mj_ldi, mj_ldl, mj_lda, mj_ii, mj_ll, mj_li, mj_i1, ms_1, ms_2, f1_n, f1_i, f1_r, f1_u, f1_l, f2_n, f2_i, f2_r, f2_u, f2_l, mj_tg, mj_c1, mj_c2, mj_ar, mj_aw, mq_cb, mq_oi, mj_rm, Value.category, -getElem?_pos, List.getElem?_cons_zero, decide_eq_true, decide_eq_false, nl_lt, nl_le, ln_lt, ln_le, nl_eq, ln_eq, nl_add, ln_add, nl_sub, ln_mul, nI_sub, nI_mul, nI_add, nI_lt_iff, nI_le_iff, nI_inj, nI_num, mq_ix, nI_1, nl_mul, nl_div, show ¬ p.2.2.2.1.length ≤ i by omega, l1, a1, c1]
      exact r1
theorem q_entered (z : mz x y H) (hp : H.2.2.2.2[j]? = some p) {o : Of} (I : yi y o.2.1) (hb : ∀ v ∈ H.1, v &&& 255 = v) (h8 : tk8 H.2.1) (h9 : tk9 H.2.1) (hD : acD p.2.2.2.1) (hpub : ∀ a ∈ p.2.2.2.1, bt_at (tm_row H.2.1.1 a.2.1) 0 = 2) (h5 : cbB H.1 5 = p.1.length) (hor : (H.1.drop 6).take p.1.length = p.1) (hl : 24 + p.1.length ≤ H.1.length) (c4 : cbB H.1 (10 + p.1.length) = 9) (cd : jd_data H.2.1 p o H.1 1 = 0) :
    ∃ x' y', mj_V (d + 4) 374 [.ref 67, .int (nI j), .int (w4a H.1 (6 + p.1.length)), .int (nI (11 + p.1.length)), .int (w4a H.1 (11 + p.1.length + 9))] (mm B x y) = some (some (.int (jd_get H.2.1 p o H.1).1), mm B x' y') ∧ mz x' y' (H.pt j (jd_get H.2.1 p o H.1).2) := by
  have m := z.h.ps j p hp
  have hj := get_lt hp
  have h4 := z.h.n4
  have ac8 := m.ac8
  have l0 := z.h.l.accounts
  have l1 := z.h.l.accPublic
  have l2 := z.h.l.accCount
  have l3 := z.h.l.logins
  have a0 := m.ac
  have same : mz x y (H.pt j p) := z.pt hp pO.rf rfl rfl ⟨rfl, rfl, rfl⟩ m z.y
  have sameY : ∀ {y'}, (∃ D O, yz y' H.2.1 D O) → mz x y' (H.pt j p) := fun h => z.pt hp pO.rf rfl rfl ⟨rfl, rfl, rfl⟩ m h
  have to50 : ∀ rr, mj_Rn (d + 3) mj_m374 50 [(5, .int (nI (8 * j + p.2.2.2.1.findIdx (fun a => decide (a.1 = w4a H.1 (6 + p.1.length) ∧ a.2.2.2.2 = o.2.1))))), (6, .int (nI (8 * j + p.2.2.2.1.length))), (0, .ref 67), (1, .int (nI j)), (2, .int (w4a H.1 (6 + p.1.length))), (3, .int (nI (11 + p.1.length))), (4, .int (w4a H.1 (11 + p.1.length + 9)))] [] (mm B x y) = some rr → mj_V (d + 4) 374 [.ref 67, .int (nI j), .int (w4a H.1 (6 + p.1.length)), .int (nI (11 + p.1.length)), .int (w4a H.1 (11 + p.1.length + 9))] (mm B x y) = some rr := by
    intro rr hr
    have r := l_entered (d := d + 2) (B := B) z hp I (id := w4a H.1 (6 + p.1.length)) (sig := w4a H.1 (11 + p.1.length + 9)) (data := 11 + p.1.length) p.2.2.2.1.length 0 (by omega) rr (by rw [List.drop_zero, Nat.zero_add]; exact hr)
    rw [Nat.add_zero] at r
    clear hr
    generalize w4a H.1 (6 + p.1.length) = id at *
    generalize w4a H.1 (11 + p.1.length + 9) = sig at *
    simp (disch := (first | omega | decide)) [S_cb_mmade4_0, S_bx_mcan1_0, S_b8_mkey_1, S_b8_mkey_0, S_b1_mterm_0, S_b1_copy_0, S_b0_mod_7, S_b0_mod_6, S_b0_mod_5, S_b0_mod_3, S_b0_mod_2, S_b0_mod_1, S_b0_mod_0, S_cb_mmade4_1h, S_bx_mcan1_1h, S_b0_mod_4h, c374, s374_0, s374_2, s374_3, s374_4, s374_6, s374_8, s374_9, s374_12, s374_13, s374_14, s374_15, s374_19, s374_21, s374_24, s374_25, s374_28, s374_30, s374_31, s374_32, s374_35, s374_36, s374_38, s374_41, s374_44, s374_47, s374_50, s374_52, s374_54, s374_57, s374_59, s374_60, s374_61, s374_63, s374_64, s374_67, s374_69, s374_70, s374_71, s374_73, s374_76, s374_79, s374_81, s374_82, s374_83, s374_86, s374_87, s374_88, s374_89, s374_92, s374_94, s374_96, s374_97, s374_100, s374_101, s374_102, s374_105, s374_107, s374_108, s374_109, s374_112, s374_113, s374_114, s374_117, s374_118, s374_121, s374_122, s374_124, s374_126, s374_129, s374_131, s374_134, s374_135, s374_138, s374_140, s374_141, s374_144, s374_146, s374_147, s374_148, s374_151, s374_153, s374_155, s374_156, s374_157, s374_160, s374_162, s374_163, s374_164, s374_165, s374_166, s374_167, s374_168, mq_k0s, mq_k1s, mq_k2s, mq_k4s, mq_k5s, mq_k5n, mq_k5as, mq_k6s, mj_pu, mj_lo, mj_br, mj_hr, mj_hw, mq_gf, mq_len, mq_al, mq_pf, mq_ok, mj_re, mq_lkm, mq_lkn, mj_ldi, mj_ldl, mj_lda, mj_ii, mj_ll, mj_li, mj_i1, ms_1, ms_2, f1_n, f1_i, f1_r, f1_u, f1_l, f2_n, f2_i, f2_r, f2_u, f2_l, mj_tg, mj_c1, mj_c2, mj_ar, mj_aw, mq_cb, mq_oi, mj_rm, Value.category, -getElem?_pos, List.getElem?_cons_zero, decide_eq_true, decide_eq_false, nl_lt, nl_le, ln_lt, ln_le, nl_eq, ln_eq, nl_add, ln_add, nl_sub, ln_mul, nI_sub, nI_mul, nI_add, nI_lt_iff, nI_le_iff, nI_inj, nI_num, mq_ix, nI_1, nl_mul, nl_div, l0, a0]
    refine mq_wk ?_ r
    simp [S_cb_mmade4_0, S_bx_mcan1_0, S_b8_mkey_1, S_b8_mkey_0, S_b1_mterm_0, S_b1_copy_0, S_b0_mod_7, S_b0_mod_6, S_b0_mod_5, S_b0_mod_3, S_b0_mod_2, S_b0_mod_1, S_b0_mod_0, S_cb_mmade4_1h, S_bx_mcan1_1h, S_b0_mod_4h, mq_sub, mj_lk]
  have hfind := ac_find hD (w4a H.1 (6 + p.1.length)) o.2.1
  unfold jd_get
  rw [if_neg (fun w => w c4), if_neg (fun w => w cd)]
  cases hf : p.2.2.2.1.findIdx? (fun a => decide (a.1 = w4a H.1 (6 + p.1.length) ∧ a.2.2.2.2 = o.2.1)) with
  | none =>
    have hF : p.2.2.2.1.findIdx (fun a => decide (a.1 = w4a H.1 (6 + p.1.length) ∧ a.2.2.2.2 = o.2.1)) = p.2.2.2.1.length := List.findIdx?_eq_none_iff_findIdx_eq.mp hf
    rw [hF] at to50
    rw [hf] at hfind
    have run : mj_V (d + 4) 374 [.ref 67, .int (nI j), .int (w4a H.1 (6 + p.1.length)), .int (nI (11 + p.1.length)), .int (w4a H.1 (11 + p.1.length + 9))] (mm B x y) = some (some (.int 11), mm B x y) := by
      refine to50 _ ?_
      generalize w4a H.1 (6 + p.1.length) = id at *
      generalize w4a H.1 (11 + p.1.length + 9) = sig at *
      simp (disch := (first | omega | decide)) [S_cb_mmade4_0, S_bx_mcan1_0, S_b8_mkey_1, S_b8_mkey_0, S_b1_mterm_0, S_b1_copy_0, S_b0_mod_7, S_b0_mod_6, S_b0_mod_5, S_b0_mod_3, S_b0_mod_2, S_b0_mod_1, S_b0_mod_0, S_cb_mmade4_1h, S_bx_mcan1_1h, S_b0_mod_4h, s374_0, s374_2, s374_3, s374_4, s374_6, s374_8, s374_9, s374_12, s374_13, s374_14, s374_15, s374_17, s374_19, s374_21, s374_24, s374_25, s374_28, s374_30, s374_31, s374_32, s374_35, s374_36, s374_38, s374_41, s374_44, s374_47, s374_50, s374_52, s374_54, s374_57, s374_59, s374_60, s374_61, s374_63, s374_64, s374_67, s374_69, s374_70, s374_71, s374_73, s374_76, s374_79, s374_81, s374_82, s374_83, s374_86, s374_87, s374_88, s374_89, s374_92, s374_94, s374_96, s374_97, s374_100, s374_101, s374_102, s374_105, s374_107, s374_108, s374_109, s374_112, s374_113, s374_114, s374_117, s374_118, s374_121, s374_122, s374_124, s374_126, s374_129, s374_131, s374_134, s374_135, s374_138, s374_140, s374_141, s374_144, s374_146, s374_147, s374_148, s374_151, s374_153, s374_155, s374_156, s374_157, s374_160, s374_162, s374_163, s374_164, s374_165, s374_166, s374_167, s374_168, mq_k0s, mq_k1s, mq_k2s, mq_k4s, mq_k5s, mq_k5n, mq_k5as, mq_k6s, mj_pu, mj_lo, mj_br, mj_hr, mj_hw, mq_gf, mq_len, mq_al, mq_pf, mq_ok, mj_re, mq_lkm, mq_lkn, mj_ldi, mj_ldl, mj_lda, mj_ii, mj_ll, mj_li, mj_i1, ms_1, ms_2, f1_n, f1_i, f1_r, f1_u, f1_l, f2_n, f2_i, f2_r, f2_u, f2_l, mj_tg, mj_c1, mj_c2, mj_ar, mj_aw, mq_cb, mq_oi, mj_rm, Value.category, -getElem?_pos, List.getElem?_cons_zero, decide_eq_true, decide_eq_false, nl_lt, nl_le, ln_lt, ln_le, nl_eq, ln_eq, nl_add, ln_add, nl_sub, ln_mul, nI_sub, nI_mul, nI_add, nI_lt_iff, nI_le_iff, nI_inj, nI_num, mq_ix, nI_1, nl_mul, nl_div, narrow]
    cases h1 : p.2.2.2.1.findIdx? (fun a => decide (a.1 = w4a H.1 (6 + p.1.length))) with
    | none => exact ⟨x, y, run, same⟩
    | some k =>
      dsimp only
      rw [h1] at hfind
      dsimp only at hfind
      cases h2 : p.2.2.2.1[k]? with
      | none => exact ⟨x, y, run, same⟩
      | some a =>
        rw [h2] at hfind
        dsimp only at hfind ⊢
        by_cases hu : a.2.2.2.2 = o.2.1
        · rw [if_pos hu] at hfind; cases hfind
        · rw [if_pos hu]
          exact ⟨x, y, run, same⟩
  | some k =>
    have hF := (List.findIdx?_eq_some_iff_findIdx_eq.mp hf).2
    have hkl := (List.findIdx?_eq_some_iff_findIdx_eq.mp hf).1
    rw [hF] at to50
    rw [hf] at hfind
    cases h1 : p.2.2.2.1.findIdx? (fun a => decide (a.1 = w4a H.1 (6 + p.1.length))) with
    | none => rw [h1] at hfind; cases hfind
    | some k' =>
      rw [h1] at hfind
      dsimp only at hfind ⊢
      cases h2 : p.2.2.2.1[k']? with
      | none => rw [h2] at hfind; cases hfind
      | some a =>
        rw [h2] at hfind
        dsimp only at hfind ⊢
        by_cases hu : a.2.2.2.2 = o.2.1
        · rw [if_pos hu] at hfind
          cases hfind
          rw [if_neg (fun w => w hu)]
          have am := m.as k a h2
          have b1 := am.pu
          have b2 := am.co
          have b3 := am.lo
          have hby := hpub a (List.mem_of_getElem? h2)
          obtain ⟨D, O, hy⟩ := z.y
          obtain ⟨y1, p1, ⟨D1, z1⟩, k1⟩ := q_isSigned (d := d) (B := B) z.t hb hy h8 h9 (fr := 11 + p.1.length) (n := 9) (sig := w4a H.1 (11 + p.1.length + 9)) hby (by omega) (by omega) (by omega) (by omega)
          rw [h5, hor] at p1
          have ejs : jd_sig H.2.1 p H.1 (tm_sec H.2.1.1 a.2.1) 9 = (!decide (tm_ix H.2.1.1 (7 :: (H.1.take 5 ++ p.1)) = 0) && kn_as H.2.1 (6 :: tm_sec H.2.1.1 a.2.1 :: ((H.1.drop (11 + p.1.length)).take 9 ++ b4 (nI (tm_ix H.2.1.1 (7 :: (H.1.take 5 ++ p.1)))))) (w4a H.1 (11 + p.1.length + 9))) := rfl
          rw [← ejs, show nI 9 = (9 : Int32) from rfl] at p1
          clear h1 hf ejs
          cases hs : jd_sig H.2.1 p H.1 (tm_sec H.2.1.1 a.2.1) 9 with
          | false =>
            rw [if_pos rfl]
            rw [hs] at p1
            simp only [on1, Bool.false_eq_true, if_false] at p1
            refine ⟨x, y1, to50 _ ?_, sameY ⟨_, _, z1⟩⟩
            clear to50
            generalize w4a H.1 (6 + p.1.length) = id at *
            generalize w4a H.1 (11 + p.1.length + 9) = sig at *
            simp (disch := (first | omega | decide)) [S_cb_mmade4_0, S_bx_mcan1_0, S_b8_mkey_1, S_b8_mkey_0, S_b1_mterm_0, S_b1_copy_0, S_b0_mod_7, S_b0_mod_6, S_b0_mod_5, S_b0_mod_3, S_b0_mod_2, S_b0_mod_1, S_b0_mod_0, S_cb_mmade4_1h, S_bx_mcan1_1h, S_b0_mod_4h, s374_0, s374_2, s374_3, s374_4, s374_6, s374_8, s374_9, s374_12, s374_13, s374_14, s374_15, s374_17, s374_19, s374_21, s374_24, s374_25, s374_28, s374_30, s374_31, s374_32, s374_35, s374_36, s374_38, s374_41, s374_44, s374_47, s374_50, s374_52, s374_54, s374_57, s374_59, s374_60, s374_61, s374_63, s374_64, s374_67, s374_69, s374_70, s374_71, s374_73, s374_76, s374_79, s374_81, s374_82, s374_83, s374_86, s374_87, s374_88, s374_89, s374_92, s374_94, s374_96, s374_97, s374_100, s374_101, s374_102, s374_105, s374_107, s374_108, s374_109, s374_112, s374_113, s374_114, s374_117, s374_118, s374_121, s374_122, s374_124, s374_126, s374_129, s374_131, s374_134, s374_135, s374_138, s374_140, s374_141, s374_144, s374_146, s374_147, s374_148, s374_151, s374_153, s374_155, s374_156, s374_157, s374_160, s374_162, s374_163, s374_164, s374_165, s374_166, s374_167, s374_168, mq_k0s, mq_k1s, mq_k2s, mq_k4s, mq_k5s, mq_k5n, mq_k5as, mq_k6s, mj_pu, mj_lo, mj_br, mj_hr, mj_hw, mq_gf, mq_len, mq_al, mq_pf, mq_ok, mj_re, mq_lkm, mq_lkn, mj_ldi, mj_ldl, mj_lda, mj_ii, mj_ll, mj_li, mj_i1, ms_1, ms_2, f1_n, f1_i, f1_r, f1_u, f1_l, f2_n, f2_i, f2_r, f2_u, f2_l, mj_tg, mj_c1, mj_c2, mj_ar, mj_aw, mq_cb, mq_oi, mj_rm, Value.category, -getElem?_pos, List.getElem?_cons_zero, decide_eq_true, decide_eq_false, nl_lt, nl_le, ln_lt, ln_le, nl_eq, ln_eq, nl_add, ln_add, nl_sub, ln_mul, nI_sub, nI_mul, nI_add, nI_lt_iff, nI_le_iff, nI_inj, nI_num, mq_ix, nI_1, nl_mul, nl_div, show ¬ k = p.2.2.2.1.length by omega, l1, b1, p1, narrow]
          | true =>
            rw [if_neg (by decide)]
            rw [hs] at p1
            simp only [on1, if_true] at p1
            have v5 := q_tapeInt (d := d + 2) (B := B) (y := y1) z.t hb (q := 16 + p.1.length) (by omega)
            have e5 : 11 + p.1.length + 5 = 16 + p.1.length := by omega
            have hmsk := msk a.2.2.1
            have to82 : ∀ rr, mj_Rn (d + 3) mj_m374 94 [(7, .int (w4a H.1 (16 + p.1.length))), (5, .int (nI (8 * j + k))), (6, .int (nI (8 * j + p.2.2.2.1.length))), (0, .ref 67), (1, .int (nI j)), (2, .int (w4a H.1 (6 + p.1.length))), (3, .int (nI (11 + p.1.length))), (4, .int (w4a H.1 (11 + p.1.length + 9)))] [] (mm B x y1) = some rr → mj_V (d + 4) 374 [.ref 67, .int (nI j), .int (w4a H.1 (6 + p.1.length)), .int (nI (11 + p.1.length)), .int (w4a H.1 (11 + p.1.length + 9))] (mm B x y) = some rr := by
              intro rr hr
              refine to50 _ ?_
              clear to50
              generalize w4a H.1 (6 + p.1.length) = id at *
              generalize w4a H.1 (11 + p.1.length + 9) = sig at *
              generalize w4a H.1 (16 + p.1.length) = C at *
              simp (disch := (first | omega | decide)) [S_cb_mmade4_0, S_bx_mcan1_0, S_b8_mkey_1, S_b8_mkey_0, S_b1_mterm_0, S_b1_copy_0, S_b0_mod_7, S_b0_mod_6, S_b0_mod_5, S_b0_mod_3, S_b0_mod_2, S_b0_mod_1, S_b0_mod_0, S_cb_mmade4_1h, S_bx_mcan1_1h, S_b0_mod_4h, s374_0, s374_2, s374_3, s374_4, s374_6, s374_8, s374_9, s374_12, s374_13, s374_14, s374_15, s374_17, s374_19, s374_21, s374_24, s374_25, s374_28, s374_30, s374_31, s374_32, s374_35, s374_36, s374_38, s374_41, s374_44, s374_47, s374_50, s374_52, s374_54, s374_57, s374_59, s374_60, s374_61, s374_63, s374_64, s374_67, s374_69, s374_70, s374_71, s374_73, s374_76, s374_79, s374_81, s374_82, s374_83, s374_86, s374_87, s374_88, s374_89, s374_92, s374_96, s374_97, s374_100, s374_101, s374_102, s374_105, s374_107, s374_108, s374_109, s374_112, s374_113, s374_114, s374_117, s374_118, s374_121, s374_122, s374_124, s374_126, s374_129, s374_131, s374_134, s374_135, s374_138, s374_140, s374_141, s374_144, s374_146, s374_147, s374_148, s374_151, s374_153, s374_155, s374_156, s374_157, s374_160, s374_162, s374_163, s374_164, s374_165, s374_166, s374_167, s374_168, mq_k0s, mq_k1s, mq_k2s, mq_k4s, mq_k5s, mq_k5n, mq_k5as, mq_k6s, mj_pu, mj_lo, mj_br, mj_hr, mj_hw, mq_gf, mq_len, mq_al, mq_pf, mq_ok, mj_re, mq_lkm, mq_lkn, mj_ldi, mj_ldl, mj_lda, mj_ii, mj_ll, mj_li, mj_i1, ms_1, ms_2, f1_n, f1_i, f1_r, f1_u, f1_l, f2_n, f2_i, f2_r, f2_u, f2_l, mj_tg, mj_c1, mj_c2, mj_ar, mj_aw, mq_cb, mq_oi, mj_rm, Value.category, -getElem?_pos, List.getElem?_cons_zero, decide_eq_true, decide_eq_false, nl_lt, nl_le, ln_lt, ln_le, nl_eq, ln_eq, nl_add, ln_add, nl_sub, ln_mul, nI_sub, nI_mul, nI_add, nI_lt_iff, nI_le_iff, nI_inj, nI_num, mq_ix, nI_1, nl_mul, nl_div, show ¬ k = p.2.2.2.1.length by omega, l1, b1, p1, e5, v5]
              refine mq_wk ?_ hr
              simp [S_cb_mmade4_0, S_bx_mcan1_0, S_b8_mkey_1, S_b8_mkey_0, S_b1_mterm_0, S_b1_copy_0, S_b0_mod_7, S_b0_mod_6, S_b0_mod_5, S_b0_mod_3, S_b0_mod_2, S_b0_mod_1, S_b0_mod_0, S_cb_mmade4_1h, S_bx_mcan1_1h, S_b0_mod_4h, mq_sub, mj_lk]
            have hkA : 8 * j + k < 32 := by omega
            have okR : mz (((((((x.1.1.1.1.1.1, x.1.1.1.1.1.2), (x.1.1.1.1.2.1, x.1.1.1.1.2.2)), ((x.1.1.1.2.1.1, x.1.1.1.2.1.2), (x.1.1.1.2.2.1, x.1.1.1.2.2.2))), (((x.1.1.2.1.1.1, x.1.1.2.1.1.2), (x.1.1.2.1.2.1, x.1.1.2.1.2.2)), ((x.1.1.2.2.1.1, x.1.1.2.2.1.2), (x.1.1.2.2.2.1, x.1.1.2.2.2.2)))), ((((x.1.2.1.1.1.1, x.1.2.1.1.1.2), (x.1.2.1.1.2.1, x.1.2.1.1.2.2)), ((x.1.2.1.2.1.1, x.1.2.1.2.1.2), (x.1.2.1.2.2.1, x.1.2.1.2.2.2))), (((x.1.2.2.1.1.1, x.1.2.2.1.1.2), (x.1.2.2.1.2.1, x.1.2.2.1.2.2)), ((x.1.2.2.2.1.1, x.1.2.2.2.1.2), (x.1.2.2.2.2.1, x.1.2.2.2.2.2))))), (((((x.2.1.1.1.1.1, x.2.1.1.1.1.2), (x.2.1.1.1.2.1, x.2.1.1.1.2.2)), ((x.2.1.1.2.1.1, x.2.1.1.2.1.2), (x.2.1.1.2.2.1, x.2.1.1.2.2.2))), (((x.2.1.2.1.1.1, x.2.1.2.1.1.2), (x.2.1.2.1.2.1, x.2.1.2.1.2.2)), ((x.2.1.2.2.1.1, x.2.1.2.2.1.2), (x.2.1.2.2.2.1, x.2.1.2.2.2.2)))), ((((x.2.2.1.1.1.1, x.2.2.1.1.1.2), (x.2.2.1.1.2.1, x.2.2.1.1.2.2)), ((x.2.2.1.2.1.1, x.2.2.1.2.1.2), (x.2.2.1.2.2.1, x.2.2.1.2.2.2))), (((x.2.2.2.1.1.1, x.2.2.2.1.1.2), (x.2.2.2.1.2.1.set (8 * j + k) (w4a H.1 (16 + p.1.length)), x.2.2.2.1.2.2.set (8 * j + k) (a.2.2.2.1 + 1))), ((x.2.2.2.2.1.1, x.2.2.2.2.1.2), (x.2.2.2.2.2.1, x.2.2.2.2.2.2)))))) : Fx) y1 (H.pt j ((p.1, (p.2.1, (p.2.2.1, (p.2.2.2.1.set k ((a.1, (a.2.1, (w4a H.1 (16 + p.1.length), (a.2.2.2.1 + 1, a.2.2.2.2)))) : Ac), (p.2.2.2.2.1, p.2.2.2.2.2))))) : Pa)) := by
              refine z.pt hp (pO_mk_ ((pO.rf : pO x x j)).h ((pO.rf : pO x x j)).originLong ((pO.rf : pO x x j)).nameLong ((pO.rf : pO x x j)).offers ((pO.rf : pO x x j)).accounts ((pO.rf : pO x x j)).took ((pO.rf : pO x x j)).others ((pO.rf : pO x x j)).origins ((pO.rf : pO x x j)).names ((pO.rf : pO x x j)).offerTerm ((pO.rf : pO x x j)).offerLong ((pO.rf : pO x x j)).offerGet ((pO.rf : pO x x j)).offerPin ((pO.rf : pO x x j)).offerUser ((pO.rf : pO x x j)).accId ((pO.rf : pO x x j)).accPublic (out.set (by omega)) (out.set (by omega)) ((pO.rf : pO x x j)).accLong ((pO.rf : pO x x j)).accUser) rfl rfl ⟨rfl, rfl, rfl⟩ ?_ ⟨_, _, z1⟩
              refine (pM_mk_ m.ol m.o40 m.og m.nl m.n24 m.nm m.of m.of4 (fun i o h => (m.os i o h).cg rfl rfl rfl rfl rfl) (?_) (?_) (?_) m.tk m.ot)
              · rw [List.length_set]; exact m.ac
              · rw [List.length_set]; exact m.ac8
              · intro i c hc
                by_cases hik : k = i
                · subst hik
                  rw [List.getElem?_set_self hkl] at hc
                  cases hc
                  exact (aM_mk_ am.id am.pu (List.getElem?_set_self (by omega)) (List.getElem?_set_self (by omega)) am.ln am.u8 am.us)
                · rw [List.getElem?_set_ne hik] at hc
                  have cm := m.as i c hc
                  have := get_lt hc
                  exact (aM_mk_ cm.id cm.pu ((List.getElem?_set_ne (by omega)).trans cm.co) ((List.getElem?_set_ne (by omega)).trans cm.lo) cm.ln cm.u8 cm.us)
            have hmC := msk (w4a H.1 (16 + p.1.length))
            clear to50 v5
            generalize hC : w4a H.1 (16 + p.1.length) = C at *
            have hCl := uN_lt C
            have hal := uN_lt a.2.2.1
            have hC0 : (C = 0) ↔ uN C = 0 := ⟨fun e => by rw [e]; rfl, fun e => uN_inj (by rw [e]; rfl)⟩
            have ha0 : (a.2.2.1 = 0) ↔ uN a.2.2.1 = 0 := ⟨fun e => by rw [e]; rfl, fun e => uN_inj (by rw [e]; rfl)⟩
            generalize w4a H.1 (6 + p.1.length) = id at *
            generalize w4a H.1 (11 + p.1.length + 9) = sig at *
            by_cases c6 : uN C ≤ uN a.2.2.1
            · by_cases c7 : C = 0
              · by_cases c8 : a.2.2.1 = 0
                · rw [if_neg (fun w => w.2 ⟨c7, c8⟩)]
                  refine ⟨_, y1, to82 _ ?_, okR⟩
                  clear to82 okR
                  rw [c8] at b2 hmsk
                  have hu0 : uN C = 0 := hC0.mp c7
                  have hz0 : uN (0 : Int32) = 0 := rfl
                  rw [hu0] at hmC
                  rw [hz0] at hmsk
                  simp (disch := (first | omega | decide)) [S_cb_mmade4_0, S_bx_mcan1_0, S_b8_mkey_1, S_b8_mkey_0, S_b1_mterm_0, S_b1_copy_0, S_b0_mod_7, S_b0_mod_6, S_b0_mod_5, S_b0_mod_3, S_b0_mod_2, S_b0_mod_1, S_b0_mod_0, S_cb_mmade4_1h, S_bx_mcan1_1h, S_b0_mod_4h, s374_0, s374_2, s374_3, s374_4, s374_6, s374_8, s374_9, s374_12, s374_13, s374_14, s374_15, s374_17, s374_19, s374_21, s374_24, s374_25, s374_28, s374_30, s374_31, s374_32, s374_35, s374_36, s374_38, s374_41, s374_44, s374_47, s374_50, s374_52, s374_54, s374_57, s374_59, s374_60, s374_61, s374_63, s374_64, s374_67, s374_69, s374_70, s374_71, s374_73, s374_76, s374_79, s374_81, s374_82, s374_83, s374_86, s374_87, s374_88, s374_89, s374_92, s374_94, s374_96, s374_97, s374_100, s374_101, s374_102, s374_105, s374_107, s374_108, s374_109, s374_112, s374_113, s374_114, s374_117, s374_118, s374_121, s374_122, s374_124, s374_126, s374_129, s374_131, s374_134, s374_135, s374_138, s374_140, s374_141, s374_144, s374_146, s374_147, s374_148, s374_151, s374_153, s374_155, s374_156, s374_157, s374_160, s374_162, s374_163, s374_164, s374_165, s374_166, s374_167, s374_168, mq_k0s, mq_k1s, mq_k2s, mq_k4s, mq_k5s, mq_k5n, mq_k5as, mq_k6s, mj_pu, mj_lo, mj_br, mj_hr, mj_hw, mq_gf, mq_len, mq_al, mq_pf, mq_ok, mj_re, mq_lkm, mq_lkn, mj_ldi, mj_ldl, mj_lda, mj_ii, mj_ll, mj_li, mj_i1, ms_1, ms_2, f1_n, f1_i, f1_r, f1_u, f1_l, f2_n, f2_i, f2_r, f2_u, f2_l, mj_tg, mj_c1, mj_c2, mj_ar, mj_aw, mq_cb, mq_oi, mj_rm, Value.category, -getElem?_pos, List.getElem?_cons_zero, decide_eq_true, decide_eq_false, nl_lt, nl_le, ln_lt, ln_le, nl_eq, ln_eq, nl_add, ln_add, nl_sub, ln_mul, nI_sub, nI_mul, nI_add, nI_lt_iff, nI_le_iff, nI_inj, nI_num, mq_ix, nI_1, nl_mul, nl_div, nL_lt, nL_le, nL_eq, nL_l, nL_i, nLl_lt, nLl_le, nLl_eq, lnL_lt, lnL_le, lg_cmp_ge, lg_cmp_le, lg_cmp_gt, lg_cmp_lt, lg_cmp_eq, l2, l3, b2, b3, hmC, hmsk, c7, narrow]
                · rw [if_pos ⟨c6, fun w => c8 w.2⟩]
                  refine ⟨x, y1, to82 _ ?_, sameY ⟨_, _, z1⟩⟩
                  clear to82 okR
                  simp (disch := (first | omega | decide)) [S_cb_mmade4_0, S_bx_mcan1_0, S_b8_mkey_1, S_b8_mkey_0, S_b1_mterm_0, S_b1_copy_0, S_b0_mod_7, S_b0_mod_6, S_b0_mod_5, S_b0_mod_3, S_b0_mod_2, S_b0_mod_1, S_b0_mod_0, S_cb_mmade4_1h, S_bx_mcan1_1h, S_b0_mod_4h, s374_0, s374_2, s374_3, s374_4, s374_6, s374_8, s374_9, s374_12, s374_13, s374_14, s374_15, s374_17, s374_19, s374_21, s374_24, s374_25, s374_28, s374_30, s374_31, s374_32, s374_35, s374_36, s374_38, s374_41, s374_44, s374_47, s374_50, s374_52, s374_54, s374_57, s374_59, s374_60, s374_61, s374_63, s374_64, s374_67, s374_69, s374_70, s374_71, s374_73, s374_76, s374_79, s374_81, s374_82, s374_83, s374_86, s374_87, s374_88, s374_89, s374_92, s374_94, s374_96, s374_97, s374_100, s374_101, s374_102, s374_105, s374_107, s374_108, s374_109, s374_112, s374_113, s374_114, s374_117, s374_118, s374_121, s374_122, s374_124, s374_126, s374_129, s374_131, s374_134, s374_135, s374_138, s374_140, s374_141, s374_144, s374_146, s374_147, s374_148, s374_151, s374_153, s374_155, s374_156, s374_157, s374_160, s374_162, s374_163, s374_164, s374_165, s374_166, s374_167, s374_168, mq_k0s, mq_k1s, mq_k2s, mq_k4s, mq_k5s, mq_k5n, mq_k5as, mq_k6s, mj_pu, mj_lo, mj_br, mj_hr, mj_hw, mq_gf, mq_len, mq_al, mq_pf, mq_ok, mj_re, mq_lkm, mq_lkn, mj_ldi, mj_ldl, mj_lda, mj_ii, mj_ll, mj_li, mj_i1, ms_1, ms_2, f1_n, f1_i, f1_r, f1_u, f1_l, f2_n, f2_i, f2_r, f2_u, f2_l, mj_tg, mj_c1, mj_c2, mj_ar, mj_aw, mq_cb, mq_oi, mj_rm, Value.category, -getElem?_pos, List.getElem?_cons_zero, decide_eq_true, decide_eq_false, nl_lt, nl_le, ln_lt, ln_le, nl_eq, ln_eq, nl_add, ln_add, nl_sub, ln_mul, nI_sub, nI_mul, nI_add, nI_lt_iff, nI_le_iff, nI_inj, nI_num, mq_ix, nI_1, nl_mul, nl_div, nL_lt, nL_le, nL_eq, nL_l, nL_i, nLl_lt, nLl_le, nLl_eq, lnL_lt, lnL_le, lg_cmp_ge, lg_cmp_le, lg_cmp_gt, lg_cmp_lt, lg_cmp_eq, l2, b2, hmC, hmsk, c6, c7, c8, narrow]
              · rw [if_pos ⟨c6, fun w => c7 w.1⟩]
                refine ⟨x, y1, to82 _ ?_, sameY ⟨_, _, z1⟩⟩
                clear to82 okR
                simp (disch := (first | omega | decide)) [S_cb_mmade4_0, S_bx_mcan1_0, S_b8_mkey_1, S_b8_mkey_0, S_b1_mterm_0, S_b1_copy_0, S_b0_mod_7, S_b0_mod_6, S_b0_mod_5, S_b0_mod_3, S_b0_mod_2, S_b0_mod_1, S_b0_mod_0, S_cb_mmade4_1h, S_bx_mcan1_1h, S_b0_mod_4h, s374_0, s374_2, s374_3, s374_4, s374_6, s374_8, s374_9, s374_12, s374_13, s374_14, s374_15, s374_17, s374_19, s374_21, s374_24, s374_25, s374_28, s374_30, s374_31, s374_32, s374_35, s374_36, s374_38, s374_41, s374_44, s374_47, s374_50, s374_52, s374_54, s374_57, s374_59, s374_60, s374_61, s374_63, s374_64, s374_67, s374_69, s374_70, s374_71, s374_73, s374_76, s374_79, s374_81, s374_82, s374_83, s374_86, s374_87, s374_88, s374_89, s374_92, s374_94, s374_96, s374_97, s374_100, s374_101, s374_102, s374_105, s374_107, s374_108, s374_109, s374_112, s374_113, s374_114, s374_117, s374_118, s374_121, s374_122, s374_124, s374_126, s374_129, s374_131, s374_134, s374_135, s374_138, s374_140, s374_141, s374_144, s374_146, s374_147, s374_148, s374_151, s374_153, s374_155, s374_156, s374_157, s374_160, s374_162, s374_163, s374_164, s374_165, s374_166, s374_167, s374_168, mq_k0s, mq_k1s, mq_k2s, mq_k4s, mq_k5s, mq_k5n, mq_k5as, mq_k6s, mj_pu, mj_lo, mj_br, mj_hr, mj_hw, mq_gf, mq_len, mq_al, mq_pf, mq_ok, mj_re, mq_lkm, mq_lkn, mj_ldi, mj_ldl, mj_lda, mj_ii, mj_ll, mj_li, mj_i1, ms_1, ms_2, f1_n, f1_i, f1_r, f1_u, f1_l, f2_n, f2_i, f2_r, f2_u, f2_l, mj_tg, mj_c1, mj_c2, mj_ar, mj_aw, mq_cb, mq_oi, mj_rm, Value.category, -getElem?_pos, List.getElem?_cons_zero, decide_eq_true, decide_eq_false, nl_lt, nl_le, ln_lt, ln_le, nl_eq, ln_eq, nl_add, ln_add, nl_sub, ln_mul, nI_sub, nI_mul, nI_add, nI_lt_iff, nI_le_iff, nI_inj, nI_num, mq_ix, nI_1, nl_mul, nl_div, nL_lt, nL_le, nL_eq, nL_l, nL_i, nLl_lt, nLl_le, nLl_eq, lnL_lt, lnL_le, lg_cmp_ge, lg_cmp_le, lg_cmp_gt, lg_cmp_lt, lg_cmp_eq, l2, b2, hmC, hmsk, c6, c7, narrow]
            · rw [if_neg (fun w => c6 w.1)]
              refine ⟨_, y1, to82 _ ?_, okR⟩
              clear to82 okR
              simp (disch := (first | omega | decide)) [S_cb_mmade4_0, S_bx_mcan1_0, S_b8_mkey_1, S_b8_mkey_0, S_b1_mterm_0, S_b1_copy_0, S_b0_mod_7, S_b0_mod_6, S_b0_mod_5, S_b0_mod_3, S_b0_mod_2, S_b0_mod_1, S_b0_mod_0, S_cb_mmade4_1h, S_bx_mcan1_1h, S_b0_mod_4h, s374_0, s374_2, s374_3, s374_4, s374_6, s374_8, s374_9, s374_12, s374_13, s374_14, s374_15, s374_17, s374_19, s374_21, s374_24, s374_25, s374_28, s374_30, s374_31, s374_32, s374_35, s374_36, s374_38, s374_41, s374_44, s374_47, s374_50, s374_52, s374_54, s374_57, s374_59, s374_60, s374_61, s374_63, s374_64, s374_67, s374_69, s374_70, s374_71, s374_73, s374_76, s374_79, s374_81, s374_82, s374_83, s374_86, s374_87, s374_88, s374_89, s374_92, s374_94, s374_96, s374_97, s374_100, s374_101, s374_102, s374_105, s374_107, s374_108, s374_109, s374_112, s374_113, s374_114, s374_117, s374_118, s374_121, s374_122, s374_124, s374_126, s374_129, s374_131, s374_134, s374_135, s374_138, s374_140, s374_141, s374_144, s374_146, s374_147, s374_148, s374_151, s374_153, s374_155, s374_156, s374_157, s374_160, s374_162, s374_163, s374_164, s374_165, s374_166, s374_167, s374_168, mq_k0s, mq_k1s, mq_k2s, mq_k4s, mq_k5s, mq_k5n, mq_k5as, mq_k6s, mj_pu, mj_lo, mj_br, mj_hr, mj_hw, mq_gf, mq_len, mq_al, mq_pf, mq_ok, mj_re, mq_lkm, mq_lkn, mj_ldi, mj_ldl, mj_lda, mj_ii, mj_ll, mj_li, mj_i1, ms_1, ms_2, f1_n, f1_i, f1_r, f1_u, f1_l, f2_n, f2_i, f2_r, f2_u, f2_l, mj_tg, mj_c1, mj_c2, mj_ar, mj_aw, mq_cb, mq_oi, mj_rm, Value.category, -getElem?_pos, List.getElem?_cons_zero, decide_eq_true, decide_eq_false, nl_lt, nl_le, ln_lt, ln_le, nl_eq, ln_eq, nl_add, ln_add, nl_sub, ln_mul, nI_sub, nI_mul, nI_add, nI_lt_iff, nI_le_iff, nI_inj, nI_num, mq_ix, nI_1, nl_mul, nl_div, nL_lt, nL_le, nL_eq, nL_l, nL_i, nLl_lt, nLl_le, nLl_eq, lnL_lt, lnL_le, lg_cmp_ge, lg_cmp_le, lg_cmp_gt, lg_cmp_lt, lg_cmp_eq, l2, l3, b2, b3, hmC, hmsk, c6, narrow]
        · rw [if_neg hu] at hfind; cases hfind
end
end
