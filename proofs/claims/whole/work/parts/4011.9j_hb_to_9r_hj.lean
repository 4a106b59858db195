/- 9j.hb -/
section
set_option maxRecDepth 512
/-! Class: the house: create. -/
/- 189 PasskeyHouse.create(IIIIJIII)I -/
theorem s189_0 {d : Nat} {ls : mj_L} {st : List Value} {M : mj_H} : mj_Rn d mj_m189 0 ls st M = mq_k0 d mj_m189 1 ls M (mj_lda (mj_lk ls 0) st) := mj_R0 (r := (.aload_n 0, 1, 0, 0, 0)) rfl rfl
theorem s189_1 {d : Nat} {ls : mj_L} {st : List Value} {M : mj_H} : mj_Rn d mj_m189 1 ls st M = mq_k0 d mj_m189 2 ls M (mj_ldi (mj_lk ls 1) st) := mj_R0 (r := (.iload_n 1, 1, 0, 0, 0)) rfl rfl
theorem s189_2 {d : Nat} {ls : mj_L} {st : List Value} {M : mj_H} : mj_Rn (d + 1) mj_m189 2 ls st M = mq_k5a (d + 1) mj_m189 5 ls M 168 (mq_cb 0 1 10 st M) := mj_R5e (r := (.invokevirtual 149, 3, 0, 168, 20562)) (z := mj_m168) rfl rfl (by decide) (by decide) rfl
theorem s189_5 {d : Nat} {ls : mj_L} {st : List Value} {M : mj_H} : mj_Rn d mj_m189 5 ls st M = mq_k1 d mj_m189 7 M (mj_lo 21 (.astore 10) ls st) := mj_R1 (r := (.astore 10, 2, 0, 0, 0)) rfl rfl
theorem s189_7 {d : Nat} {ls : mj_L} {st : List Value} {M : mj_H} : mj_Rn d mj_m189 7 ls st M = mq_k0 d mj_m189 8 ls M (mj_lda (mj_lk ls 0) st) := mj_R0 (r := (.aload_n 0, 1, 0, 0, 0)) rfl rfl
theorem s189_8 {d : Nat} {ls : mj_L} {st : List Value} {M : mj_H} : mj_Rn d mj_m189 8 ls st M = mq_k0 d mj_m189 9 ls M (mj_ldi (mj_lk ls 2) st) := mj_R0 (r := (.iload_n 2, 1, 0, 0, 0)) rfl rfl
theorem s189_9 {d : Nat} {ls : mj_L} {st : List Value} {M : mj_H} : mj_Rn (d + 1) mj_m189 9 ls st M = mq_k5a (d + 1) mj_m189 12 ls M 68 (mq_cb 0 1 10 st M) := mj_R5e (r := (.invokevirtual 97, 3, 0, 68, 12393)) (z := mj_m68) rfl rfl (by decide) (by decide) rfl
theorem s189_12 {d : Nat} {ls : mj_L} {st : List Value} {M : mj_H} : mj_Rn d mj_m189 12 ls st M = mq_k1 d mj_m189 14 M (mj_lo 21 (.astore 11) ls st) := mj_R1 (r := (.astore 11, 2, 0, 0, 0)) rfl rfl
theorem s189_14 {d : Nat} {ls : mj_L} {st : List Value} {M : mj_H} : mj_Rn d mj_m189 14 ls st M = mq_k0 d mj_m189 16 ls M (mj_lda (mj_lk ls 10) st) := mj_R0 (r := (.aload 10, 2, 0, 0, 0)) rfl rfl
theorem s189_16 {d : Nat} {ls : mj_L} {st : List Value} {M : mj_H} : mj_Rn d mj_m189 16 ls st M = mq_k2 d mj_m189 ls M (mj_br (.ifnull 32) 16 st) := mj_R2 (r := (.ifnull 32, 3, 0, 0, 0)) rfl rfl
theorem s189_19 {d : Nat} {ls : mj_L} {st : List Value} {M : mj_H} : mj_Rn d mj_m189 19 ls st M = mq_k0 d mj_m189 21 ls M (mj_lda (mj_lk ls 11) st) := mj_R0 (r := (.aload 11, 2, 0, 0, 0)) rfl rfl
theorem s189_21 {d : Nat} {ls : mj_L} {st : List Value} {M : mj_H} : mj_Rn d mj_m189 21 ls st M = mq_k2 d mj_m189 ls M (mj_br (.ifnull 27) 21 st) := mj_R2 (r := (.ifnull 27, 3, 0, 0, 0)) rfl rfl
theorem s189_24 {d : Nat} {ls : mj_L} {st : List Value} {M : mj_H} : mj_Rn d mj_m189 24 ls st M = mq_k0 d mj_m189 26 ls M (mj_ldi (mj_lk ls 9) st) := mj_R0 (r := (.iload 9, 2, 0, 0, 0)) rfl rfl
theorem s189_26 {d : Nat} {ls : mj_L} {st : List Value} {M : mj_H} : mj_Rn d mj_m189 26 ls st M = mj_Rn d mj_m189 27 ls (.int 0 :: st) M := mj_R0 (r := (.iconst 0, 1, 0, 0, 0)) rfl rfl
theorem s189_27 {d : Nat} {ls : mj_L} {st : List Value} {M : mj_H} : mj_Rn d mj_m189 27 ls st M = mj_Rn d mj_m189 29 ls (.int 7 :: st) M := mj_R0 (r := (.bipush 7, 2, 0, 0, 0)) rfl rfl
theorem s189_29 {d : Nat} {ls : mj_L} {st : List Value} {M : mj_H} : mj_Rn (d + 1) mj_m189 29 ls st M = mq_k5a (d + 1) mj_m189 32 ls M 8 (mq_cb 2 3 10 st M) := mj_R5e (r := (.invokestatic 61, 3, 2, 8, 4275)) (z := mj_m8) rfl rfl (by decide) (by decide) rfl
theorem s189_32 {d : Nat} {ls : mj_L} {st : List Value} {M : mj_H} : mj_Rn d mj_m189 32 ls st M = mq_k2 d mj_m189 ls M (mj_br (.ifCond .eq 16) 32 st) := mj_R2 (r := (.ifCond .eq 16, 3, 0, 0, 0)) rfl rfl
theorem s189_35 {d : Nat} {ls : mj_L} {st : List Value} {M : mj_H} : mj_Rn d mj_m189 35 ls st M = mq_k0 d mj_m189 36 ls M (mj_lda (mj_lk ls 0) st) := mj_R0 (r := (.aload_n 0, 1, 0, 0, 0)) rfl rfl
theorem s189_36 {d : Nat} {ls : mj_L} {st : List Value} {M : mj_H} : mj_Rn d mj_m189 36 ls st M = mq_k0 d mj_m189 38 ls M (mj_ldi (mj_lk ls 4) st) := mj_R0 (r := (.iload 4, 2, 0, 0, 0)) rfl rfl
theorem s189_38 {d : Nat} {ls : mj_L} {st : List Value} {M : mj_H} : mj_Rn d mj_m189 38 ls st M = mq_k0 d mj_m189 40 ls M (mj_ldi (mj_lk ls 7) st) := mj_R0 (r := (.iload 7, 2, 0, 0, 0)) rfl rfl
theorem s189_40 {d : Nat} {ls : mj_L} {st : List Value} {M : mj_H} : mj_Rn d mj_m189 40 ls st M = mq_k0 d mj_m189 42 ls M (mj_ldi (mj_lk ls 8) st) := mj_R0 (r := (.iload 8, 2, 0, 0, 0)) rfl rfl
theorem s189_42 {d : Nat} {ls : mj_L} {st : List Value} {M : mj_H} : mj_Rn (d + 1) mj_m189 42 ls st M = mq_k5a (d + 1) mj_m189 45 ls M 190 (mq_cb 0 3 10 st M) := mj_R5e (r := (.invokevirtual 231, 3, 0, 190, 20664)) (z := mj_m190) rfl rfl (by decide) (by decide) rfl
theorem s189_45 {d : Nat} {ls : mj_L} {st : List Value} {M : mj_H} : mj_Rn d mj_m189 45 ls st M = mq_k2 d mj_m189 ls M (mj_br (.ifCond .ne 5) 45 st) := mj_R2 (r := (.ifCond .ne 5, 3, 0, 0, 0)) rfl rfl
theorem s189_48 {d : Nat} {ls : mj_L} {st : List Value} {M : mj_H} : mj_Rn d mj_m189 48 ls st M = mj_Rn d mj_m189 49 ls (.int (-1) :: st) M := mj_R0 (r := (.iconst (-1), 1, 0, 0, 0)) rfl rfl
theorem s189_49 {d : Nat} {ls : mj_L} {st : List Value} {M : mj_H} : mj_Rn d mj_m189 49 ls st M = mq_k6 M (mj_re (some .int) (.ireturn) st) := mj_R6 (r := (.ireturn, 1, 0, 0, 0)) rfl rfl
theorem s189_50 {d : Nat} {ls : mj_L} {st : List Value} {M : mj_H} : mj_Rn d mj_m189 50 ls st M = mq_k0 d mj_m189 52 ls M (mj_lda (mj_lk ls 10) st) := mj_R0 (r := (.aload 10, 2, 0, 0, 0)) rfl rfl
theorem s189_52 {d : Nat} {ls : mj_L} {st : List Value} {M : mj_H} : mj_Rn d mj_m189 52 ls st M = mq_k0 d mj_m189 55 ls M (mq_gf 3 1 st M) := (mj_R3 (r := (.getfield 200, 3, 3, 1, 8447)) rfl rfl).trans (congrArg (mq_k0 d mj_m189 55 ls M) mq_gf_eq)
theorem s189_55 {d : Nat} {ls : mj_L} {st : List Value} {M : mj_H} : mj_Rn d mj_m189 55 ls st M = mj_Rn d mj_m189 56 ls (.int 0 :: st) M := mj_R0 (r := (.iconst 0, 1, 0, 0, 0)) rfl rfl
theorem s189_56 {d : Nat} {ls : mj_L} {st : List Value} {M : mj_H} : mj_Rn d mj_m189 56 ls st M = mq_k0 d mj_m189 58 ls M (mj_lda (mj_lk ls 10) st) := mj_R0 (r := (.aload 10, 2, 0, 0, 0)) rfl rfl
theorem s189_58 {d : Nat} {ls : mj_L} {st : List Value} {M : mj_H} : mj_Rn d mj_m189 58 ls st M = mq_k0 d mj_m189 61 ls M (mq_gf 3 1 st M) := (mj_R3 (r := (.getfield 200, 3, 3, 1, 8447)) rfl rfl).trans (congrArg (mq_k0 d mj_m189 61 ls M) mq_gf_eq)
theorem s189_61 {d : Nat} {ls : mj_L} {st : List Value} {M : mj_H} : mj_Rn (d + 1) mj_m189 61 ls st M = mq_k5a (d + 1) mj_m189 64 ls M 9 (mq_cb 0 0 1 st M) := mj_R5e (r := (.invokevirtual 65, 3, 0, 9, 4278)) (z := mj_m9) rfl rfl (by decide) (by decide) rfl
theorem s189_64 {d : Nat} {ls : mj_L} {st : List Value} {M : mj_H} : mj_Rn d mj_m189 64 ls st M = mq_k0 d mj_m189 65 ls M (mj_lda (mj_lk ls 0) st) := mj_R0 (r := (.aload_n 0, 1, 0, 0, 0)) rfl rfl
theorem s189_65 {d : Nat} {ls : mj_L} {st : List Value} {M : mj_H} : mj_Rn d mj_m189 65 ls st M = mq_k0 d mj_m189 68 ls M (mq_gf 10 0 st M) := (mj_R3 (r := (.getfield 14, 3, 10, 0, 8486)) rfl rfl).trans (congrArg (mq_k0 d mj_m189 68 ls M) mq_gf_eq)
theorem s189_68 {d : Nat} {ls : mj_L} {st : List Value} {M : mj_H} : mj_Rn d mj_m189 68 ls st M = mj_Rn d mj_m189 69 ls (.int 0 :: st) M := mj_R0 (r := (.iconst 0, 1, 0, 0, 0)) rfl rfl
theorem s189_69 {d : Nat} {ls : mj_L} {st : List Value} {M : mj_H} : mj_Rn d mj_m189 69 ls st M = mq_k0 d mj_m189 71 ls M (mj_ldi (mj_lk ls 8) st) := mj_R0 (r := (.iload 8, 2, 0, 0, 0)) rfl rfl
theorem s189_71 {d : Nat} {ls : mj_L} {st : List Value} {M : mj_H} : mj_Rn (d + 1) mj_m189 71 ls st M = mq_k5a (d + 1) mj_m189 74 ls M 192 (mq_cb 2 6 10 st M) := mj_R5e (r := (.invokestatic 234, 3, 2, 192, 20672)) (z := mj_m192) rfl rfl (by decide) (by decide) rfl
theorem s189_74 {d : Nat} {ls : mj_L} {st : List Value} {M : mj_H} : mj_Rn d mj_m189 74 ls st M = mq_k2 d mj_m189 ls M (mj_br (.ifCond .ne 6) 74 st) := mj_R2 (r := (.ifCond .ne 6, 3, 0, 0, 0)) rfl rfl
theorem s189_77 {d : Nat} {ls : mj_L} {st : List Value} {M : mj_H} : mj_Rn d mj_m189 77 ls st M = mj_Rn d mj_m189 79 ls (.int (-2) :: st) M := mj_R0 (r := (.bipush (-2), 2, 0, 0, 0)) rfl rfl
theorem s189_79 {d : Nat} {ls : mj_L} {st : List Value} {M : mj_H} : mj_Rn d mj_m189 79 ls st M = mq_k6 M (mj_re (some .int) (.ireturn) st) := mj_R6 (r := (.ireturn, 1, 0, 0, 0)) rfl rfl
theorem s189_80 {d : Nat} {ls : mj_L} {st : List Value} {M : mj_H} : mj_Rn d mj_m189 80 ls st M = mq_k0 d mj_m189 81 ls M (mj_lda (mj_lk ls 0) st) := mj_R0 (r := (.aload_n 0, 1, 0, 0, 0)) rfl rfl
theorem s189_81 {d : Nat} {ls : mj_L} {st : List Value} {M : mj_H} : mj_Rn d mj_m189 81 ls st M = mq_k0 d mj_m189 83 ls M (mj_ldi (mj_lk ls 4) st) := mj_R0 (r := (.iload 4, 2, 0, 0, 0)) rfl rfl
theorem s189_83 {d : Nat} {ls : mj_L} {st : List Value} {M : mj_H} : mj_Rn (d + 1) mj_m189 83 ls st M = mq_k5a (d + 1) mj_m189 86 ls M 191 (mq_cb 0 1 10 st M) := mj_R5e (r := (.invokevirtual 238, 3, 0, 191, 20668)) (z := mj_m191) rfl rfl (by decide) (by decide) rfl
theorem s189_86 {d : Nat} {ls : mj_L} {st : List Value} {M : mj_H} : mj_Rn d mj_m189 86 ls st M = mq_k1 d mj_m189 88 M (mj_lo 21 (.astore 12) ls st) := mj_R1 (r := (.astore 12, 2, 0, 0, 0)) rfl rfl
theorem s189_88 {d : Nat} {ls : mj_L} {st : List Value} {M : mj_H} : mj_Rn d mj_m189 88 ls st M = mq_k0 d mj_m189 89 ls M (mj_lda (mj_lk ls 0) st) := mj_R0 (r := (.aload_n 0, 1, 0, 0, 0)) rfl rfl
theorem s189_89 {d : Nat} {ls : mj_L} {st : List Value} {M : mj_H} : mj_Rn d mj_m189 89 ls st M = mq_k0 d mj_m189 90 ls M (mj_ldi (mj_lk ls 3) st) := mj_R0 (r := (.iload_n 3, 1, 0, 0, 0)) rfl rfl
theorem s189_90 {d : Nat} {ls : mj_L} {st : List Value} {M : mj_H} : mj_Rn d mj_m189 90 ls st M = mq_k0 d mj_m189 92 ls M (mj_lda (mj_lk ls 12) st) := mj_R0 (r := (.aload 12, 2, 0, 0, 0)) rfl rfl
theorem s189_92 {d : Nat} {ls : mj_L} {st : List Value} {M : mj_H} : mj_Rn (d + 1) mj_m189 92 ls st M = mq_k5a (d + 1) mj_m189 95 ls M 194 (mq_cb 0 2 10 st M) := mj_R5e (r := (.invokevirtual 242, 3, 0, 194, 20679)) (z := mj_m194) rfl rfl (by decide) (by decide) rfl
theorem s189_95 {d : Nat} {ls : mj_L} {st : List Value} {M : mj_H} : mj_Rn d mj_m189 95 ls st M = mq_k1 d mj_m189 97 M (mj_lo 21 (.istore 13) ls st) := mj_R1 (r := (.istore 13, 2, 0, 0, 0)) rfl rfl
theorem s189_97 {d : Nat} {ls : mj_L} {st : List Value} {M : mj_H} : mj_Rn d mj_m189 97 ls st M = mq_k0 d mj_m189 98 ls M (mj_lda (mj_lk ls 0) st) := mj_R0 (r := (.aload_n 0, 1, 0, 0, 0)) rfl rfl
theorem s189_98 {d : Nat} {ls : mj_L} {st : List Value} {M : mj_H} : mj_Rn d mj_m189 98 ls st M = mj_Rn d mj_m189 99 ls (.int 1 :: st) M := mj_R0 (r := (.iconst 1, 1, 0, 0, 0)) rfl rfl
theorem s189_99 {d : Nat} {ls : mj_L} {st : List Value} {M : mj_H} : mj_Rn d mj_m189 99 ls st M = mq_k0 d mj_m189 101 ls M (mj_ldi (mj_lk ls 13) st) := mj_R0 (r := (.iload 13, 2, 0, 0, 0)) rfl rfl
theorem s189_101 {d : Nat} {ls : mj_L} {st : List Value} {M : mj_H} : mj_Rn d mj_m189 101 ls st M = mq_k0 d mj_m189 103 ls M (mj_lda (mj_lk ls 10) st) := mj_R0 (r := (.aload 10, 2, 0, 0, 0)) rfl rfl
theorem s189_103 {d : Nat} {ls : mj_L} {st : List Value} {M : mj_H} : mj_Rn d mj_m189 103 ls st M = mq_k0 d mj_m189 106 ls M (mq_gf 3 1 st M) := (mj_R3 (r := (.getfield 200, 3, 3, 1, 8447)) rfl rfl).trans (congrArg (mq_k0 d mj_m189 106 ls M) mq_gf_eq)
theorem s189_106 {d : Nat} {ls : mj_L} {st : List Value} {M : mj_H} : mj_Rn (d + 1) mj_m189 106 ls st M = mq_k5a (d + 1) mj_m189 109 ls M 196 (mq_cb 0 3 10 st M) := mj_R5e (r := (.invokevirtual 246, 3, 0, 196, 20687)) (z := mj_m196) rfl rfl (by decide) (by decide) rfl
theorem s189_109 {d : Nat} {ls : mj_L} {st : List Value} {M : mj_H} : mj_Rn d mj_m189 109 ls st M = mq_k1 d mj_m189 111 M (mj_lo 21 (.istore 14) ls st) := mj_R1 (r := (.istore 14, 2, 0, 0, 0)) rfl rfl
theorem s189_111 {d : Nat} {ls : mj_L} {st : List Value} {M : mj_H} : mj_Rn d mj_m189 111 ls st M = mq_k0 d mj_m189 113 ls M (mj_ldi (mj_lk ls 9) st) := mj_R0 (r := (.iload 9, 2, 0, 0, 0)) rfl rfl
theorem s189_113 {d : Nat} {ls : mj_L} {st : List Value} {M : mj_H} : mj_Rn d mj_m189 113 ls st M = mj_Rn d mj_m189 114 ls (.int 2 :: st) M := mj_R0 (r := (.iconst 2, 1, 0, 0, 0)) rfl rfl
theorem s189_114 {d : Nat} {ls : mj_L} {st : List Value} {M : mj_H} : mj_Rn d mj_m189 114 ls st M = mq_k0 d mj_m189 115 ls M (mj_pu .iand ls st) := mj_R0 (r := (.iand, 1, 0, 0, 0)) rfl rfl
theorem s189_115 {d : Nat} {ls : mj_L} {st : List Value} {M : mj_H} : mj_Rn d mj_m189 115 ls st M = mq_k2 d mj_m189 ls M (mj_br (.ifCond .eq 25) 115 st) := mj_R2 (r := (.ifCond .eq 25, 3, 0, 0, 0)) rfl rfl
theorem s189_118 {d : Nat} {ls : mj_L} {st : List Value} {M : mj_H} : mj_Rn d mj_m189 118 ls st M = mq_k0 d mj_m189 120 ls M (mj_lda (mj_lk ls 10) st) := mj_R0 (r := (.aload 10, 2, 0, 0, 0)) rfl rfl
theorem s189_120 {d : Nat} {ls : mj_L} {st : List Value} {M : mj_H} : mj_Rn d mj_m189 120 ls st M = mq_k0 d mj_m189 123 ls M (mq_gf 3 4 st M) := (mj_R3 (r := (.getfield 250, 3, 3, 4, 8459)) rfl rfl).trans (congrArg (mq_k0 d mj_m189 123 ls M) mq_gf_eq)
theorem s189_123 {d : Nat} {ls : mj_L} {st : List Value} {M : mj_H} : mj_Rn d mj_m189 123 ls st M = mq_k2 d mj_m189 ls M (mj_br (.ifCond .eq 17) 123 st) := mj_R2 (r := (.ifCond .eq 17, 3, 0, 0, 0)) rfl rfl
theorem s189_126 {d : Nat} {ls : mj_L} {st : List Value} {M : mj_H} : mj_Rn d mj_m189 126 ls st M = mq_k0 d mj_m189 127 ls M (mj_lda (mj_lk ls 0) st) := mj_R0 (r := (.aload_n 0, 1, 0, 0, 0)) rfl rfl
theorem s189_127 {d : Nat} {ls : mj_L} {st : List Value} {M : mj_H} : mj_Rn d mj_m189 127 ls st M = mq_k0 d mj_m189 129 ls M (mj_lda (mj_lk ls 10) st) := mj_R0 (r := (.aload 10, 2, 0, 0, 0)) rfl rfl
theorem s189_129 {d : Nat} {ls : mj_L} {st : List Value} {M : mj_H} : mj_Rn d mj_m189 129 ls st M = mq_k0 d mj_m189 132 ls M (mq_gf 3 4 st M) := (mj_R3 (r := (.getfield 250, 3, 3, 4, 8459)) rfl rfl).trans (congrArg (mq_k0 d mj_m189 132 ls M) mq_gf_eq)
theorem s189_132 {d : Nat} {ls : mj_L} {st : List Value} {M : mj_H} : mj_Rn d mj_m189 132 ls st M = mq_k0 d mj_m189 134 ls M (mj_ldi (mj_lk ls 14) st) := mj_R0 (r := (.iload 14, 2, 0, 0, 0)) rfl rfl
theorem s189_134 {d : Nat} {ls : mj_L} {st : List Value} {M : mj_H} : mj_Rn (d + 1) mj_m189 134 ls st M = mq_k5a (d + 1) mj_m189 137 ls M 197 (mq_cb 0 2 10 st M) := mj_R5e (r := (.invokevirtual 253, 3, 0, 197, 20691)) (z := mj_m197) rfl rfl (by decide) (by decide) rfl
theorem s189_137 {d : Nat} {ls : mj_L} {st : List Value} {M : mj_H} : mj_Rn d mj_m189 137 ls st M = mj_Rn d mj_m189 141 ls st M := mj_R2 (r := (.goto 4, 3, 0, 0, 0)) rfl rfl
theorem s189_140 {d : Nat} {ls : mj_L} {st : List Value} {M : mj_H} : mj_Rn d mj_m189 140 ls st M = mj_Rn d mj_m189 141 ls (.int 0 :: st) M := mj_R0 (r := (.iconst 0, 1, 0, 0, 0)) rfl rfl
theorem s189_141 {d : Nat} {ls : mj_L} {st : List Value} {M : mj_H} : mj_Rn d mj_m189 141 ls st M = mq_k1 d mj_m189 143 M (mj_lo 21 (.istore 15) ls st) := mj_R1 (r := (.istore 15, 2, 0, 0, 0)) rfl rfl
theorem s189_143 {d : Nat} {ls : mj_L} {st : List Value} {M : mj_H} : mj_Rn d mj_m189 143 ls st M = mq_k0 d mj_m189 145 ls M (mj_ldl (mj_lk ls 5) st) := mj_R0 (r := (.lload 5, 2, 0, 0, 0)) rfl rfl
theorem s189_145 {d : Nat} {ls : mj_L} {st : List Value} {M : mj_H} : mj_Rn d mj_m189 145 ls st M = mq_k0 d mj_m189 147 ls M (mj_ldi (mj_lk ls 7) st) := mj_R0 (r := (.iload 7, 2, 0, 0, 0)) rfl rfl
theorem s189_147 {d : Nat} {ls : mj_L} {st : List Value} {M : mj_H} : mj_Rn (d + 1) mj_m189 147 ls st M = mq_k5a (d + 1) mj_m189 150 ls M 198 (mq_cb 2 2 10 st M) := mj_R5e (r := (.invokestatic 256, 3, 2, 198, 20695)) (z := mj_m198) rfl rfl (by decide) (by decide) rfl
theorem s189_150 {d : Nat} {ls : mj_L} {st : List Value} {M : mj_H} : mj_Rn d mj_m189 150 ls st M = mq_k1 d mj_m189 152 M (mj_lo 21 (.lstore 16) ls st) := mj_R1 (r := (.lstore 16, 2, 0, 0, 0)) rfl rfl
theorem s189_152 {d : Nat} {ls : mj_L} {st : List Value} {M : mj_H} : mj_Rn d mj_m189 152 ls st M = mq_k0 d mj_m189 154 ls M (mj_lda (mj_lk ls 12) st) := mj_R0 (r := (.aload 12, 2, 0, 0, 0)) rfl rfl
theorem s189_154 {d : Nat} {ls : mj_L} {st : List Value} {M : mj_H} : mj_Rn d mj_m189 154 ls st M = mq_k2 d mj_m189 ls M (mj_br (.ifnull 10) 154 st) := mj_R2 (r := (.ifnull 10, 3, 0, 0, 0)) rfl rfl
theorem s189_157 {d : Nat} {ls : mj_L} {st : List Value} {M : mj_H} : mj_Rn d mj_m189 157 ls st M = mq_k0 d mj_m189 159 ls M (mj_ldi (mj_lk ls 9) st) := mj_R0 (r := (.iload 9, 2, 0, 0, 0)) rfl rfl
theorem s189_159 {d : Nat} {ls : mj_L} {st : List Value} {M : mj_H} : mj_Rn d mj_m189 159 ls st M = mj_Rn d mj_m189 160 ls (.int 4 :: st) M := mj_R0 (r := (.iconst 4, 1, 0, 0, 0)) rfl rfl
theorem s189_160 {d : Nat} {ls : mj_L} {st : List Value} {M : mj_H} : mj_Rn d mj_m189 160 ls st M = mq_k0 d mj_m189 161 ls M (mj_pu .iand ls st) := mj_R0 (r := (.iand, 1, 0, 0, 0)) rfl rfl
theorem s189_161 {d : Nat} {ls : mj_L} {st : List Value} {M : mj_H} : mj_Rn d mj_m189 161 ls st M = mq_k2 d mj_m189 ls M (mj_br (.ifCond .eq 7) 161 st) := mj_R2 (r := (.ifCond .eq 7, 3, 0, 0, 0)) rfl rfl
theorem s189_164 {d : Nat} {ls : mj_L} {st : List Value} {M : mj_H} : mj_Rn d mj_m189 164 ls st M = mj_Rn d mj_m189 165 ls (.int 0 :: st) M := mj_R0 (r := (.iconst 0, 1, 0, 0, 0)) rfl rfl
theorem s189_165 {d : Nat} {ls : mj_L} {st : List Value} {M : mj_H} : mj_Rn d mj_m189 165 ls st M = mj_Rn d mj_m189 177 ls st M := mj_R2 (r := (.goto 12, 3, 0, 0, 0)) rfl rfl
theorem s189_168 {d : Nat} {ls : mj_L} {st : List Value} {M : mj_H} : mj_Rn d mj_m189 168 ls st M = mq_k0 d mj_m189 170 ls M (mj_lda (mj_lk ls 12) st) := mj_R0 (r := (.aload 12, 2, 0, 0, 0)) rfl rfl
theorem s189_170 {d : Nat} {ls : mj_L} {st : List Value} {M : mj_H} : mj_Rn d mj_m189 170 ls st M = mq_k0 d mj_m189 172 ls M (mj_ldl (mj_lk ls 16) st) := mj_R0 (r := (.lload 16, 2, 0, 0, 0)) rfl rfl
theorem s189_172 {d : Nat} {ls : mj_L} {st : List Value} {M : mj_H} : mj_Rn d mj_m189 172 ls st M = mq_k0 d mj_m189 174 ls M (mj_ldi (mj_lk ls 7) st) := mj_R0 (r := (.iload 7, 2, 0, 0, 0)) rfl rfl
theorem s189_174 {d : Nat} {ls : mj_L} {st : List Value} {M : mj_H} : mj_Rn (d + 1) mj_m189 174 ls st M = mq_k5a (d + 1) mj_m189 177 ls M 199 (mq_cb 0 2 7 st M) := mj_R5e (r := (.invokevirtual 260, 3, 0, 199, 20698)) (z := mj_m199) rfl rfl (by decide) (by decide) rfl
theorem s189_177 {d : Nat} {ls : mj_L} {st : List Value} {M : mj_H} : mj_Rn d mj_m189 177 ls st M = mq_k1 d mj_m189 179 M (mj_lo 21 (.istore 18) ls st) := mj_R1 (r := (.istore 18, 2, 0, 0, 0)) rfl rfl
theorem s189_179 {d : Nat} {ls : mj_L} {st : List Value} {M : mj_H} : mj_Rn d mj_m189 179 ls st M = mq_k0 d mj_m189 181 ls M (mj_ldi (mj_lk ls 18) st) := mj_R0 (r := (.iload 18, 2, 0, 0, 0)) rfl rfl
theorem s189_181 {d : Nat} {ls : mj_L} {st : List Value} {M : mj_H} : mj_Rn d mj_m189 181 ls st M = mq_k2 d mj_m189 ls M (mj_br (.ifCond .le 7) 181 st) := mj_R2 (r := (.ifCond .le 7, 3, 0, 0, 0)) rfl rfl
theorem s189_184 {d : Nat} {ls : mj_L} {st : List Value} {M : mj_H} : mj_Rn d mj_m189 184 ls st M = mj_Rn d mj_m189 185 ls (.int 1 :: st) M := mj_R0 (r := (.iconst 1, 1, 0, 0, 0)) rfl rfl
theorem s189_185 {d : Nat} {ls : mj_L} {st : List Value} {M : mj_H} : mj_Rn d mj_m189 185 ls st M = mj_Rn d mj_m189 189 ls st M := mj_R2 (r := (.goto 4, 3, 0, 0, 0)) rfl rfl
theorem s189_188 {d : Nat} {ls : mj_L} {st : List Value} {M : mj_H} : mj_Rn d mj_m189 188 ls st M = mj_Rn d mj_m189 189 ls (.int 0 :: st) M := mj_R0 (r := (.iconst 0, 1, 0, 0, 0)) rfl rfl
theorem s189_189 {d : Nat} {ls : mj_L} {st : List Value} {M : mj_H} : mj_Rn d mj_m189 189 ls st M = mq_k0 d mj_m189 191 ls M (mj_ldi (mj_lk ls 9) st) := mj_R0 (r := (.iload 9, 2, 0, 0, 0)) rfl rfl
theorem s189_191 {d : Nat} {ls : mj_L} {st : List Value} {M : mj_H} : mj_Rn d mj_m189 191 ls st M = mj_Rn d mj_m189 192 ls (.int 1 :: st) M := mj_R0 (r := (.iconst 1, 1, 0, 0, 0)) rfl rfl
theorem s189_192 {d : Nat} {ls : mj_L} {st : List Value} {M : mj_H} : mj_Rn d mj_m189 192 ls st M = mq_k0 d mj_m189 193 ls M (mj_pu .iand ls st) := mj_R0 (r := (.iand, 1, 0, 0, 0)) rfl rfl
theorem s189_193 {d : Nat} {ls : mj_L} {st : List Value} {M : mj_H} : mj_Rn d mj_m189 193 ls st M = mq_k0 d mj_m189 194 ls M (mj_pu .iadd ls st) := mj_R0 (r := (.iadd, 1, 0, 0, 0)) rfl rfl
theorem s189_194 {d : Nat} {ls : mj_L} {st : List Value} {M : mj_H} : mj_Rn d mj_m189 194 ls st M = mq_k0 d mj_m189 196 ls M (mj_ldi (mj_lk ls 15) st) := mj_R0 (r := (.iload 15, 2, 0, 0, 0)) rfl rfl
theorem s189_196 {d : Nat} {ls : mj_L} {st : List Value} {M : mj_H} : mj_Rn d mj_m189 196 ls st M = mq_k2 d mj_m189 ls M (mj_br (.ifCond .le 7) 196 st) := mj_R2 (r := (.ifCond .le 7, 3, 0, 0, 0)) rfl rfl
theorem s189_199 {d : Nat} {ls : mj_L} {st : List Value} {M : mj_H} : mj_Rn d mj_m189 199 ls st M = mj_Rn d mj_m189 200 ls (.int 2 :: st) M := mj_R0 (r := (.iconst 2, 1, 0, 0, 0)) rfl rfl
theorem s189_200 {d : Nat} {ls : mj_L} {st : List Value} {M : mj_H} : mj_Rn d mj_m189 200 ls st M = mj_Rn d mj_m189 204 ls st M := mj_R2 (r := (.goto 4, 3, 0, 0, 0)) rfl rfl
theorem s189_203 {d : Nat} {ls : mj_L} {st : List Value} {M : mj_H} : mj_Rn d mj_m189 203 ls st M = mj_Rn d mj_m189 204 ls (.int 0 :: st) M := mj_R0 (r := (.iconst 0, 1, 0, 0, 0)) rfl rfl
theorem s189_204 {d : Nat} {ls : mj_L} {st : List Value} {M : mj_H} : mj_Rn d mj_m189 204 ls st M = mq_k0 d mj_m189 205 ls M (mj_pu .iadd ls st) := mj_R0 (r := (.iadd, 1, 0, 0, 0)) rfl rfl
theorem s189_205 {d : Nat} {ls : mj_L} {st : List Value} {M : mj_H} : mj_Rn d mj_m189 205 ls st M = mq_k1 d mj_m189 207 M (mj_lo 21 (.istore 19) ls st) := mj_R1 (r := (.istore 19, 2, 0, 0, 0)) rfl rfl
theorem s189_207 {d : Nat} {ls : mj_L} {st : List Value} {M : mj_H} : mj_Rn d mj_m189 207 ls st M = mq_k0 d mj_m189 208 ls M (mj_lda (mj_lk ls 0) st) := mj_R0 (r := (.aload_n 0, 1, 0, 0, 0)) rfl rfl
theorem s189_208 {d : Nat} {ls : mj_L} {st : List Value} {M : mj_H} : mj_Rn d mj_m189 208 ls st M = mq_k0 d mj_m189 210 ls M (mj_ldi (mj_lk ls 14) st) := mj_R0 (r := (.iload 14, 2, 0, 0, 0)) rfl rfl
theorem s189_210 {d : Nat} {ls : mj_L} {st : List Value} {M : mj_H} : mj_Rn d mj_m189 210 ls st M = mq_k0 d mj_m189 212 ls M (mj_ldl (mj_lk ls 16) st) := mj_R0 (r := (.lload 16, 2, 0, 0, 0)) rfl rfl
theorem s189_212 {d : Nat} {ls : mj_L} {st : List Value} {M : mj_H} : mj_Rn d mj_m189 212 ls st M = mq_k0 d mj_m189 214 ls M (mj_ldi (mj_lk ls 7) st) := mj_R0 (r := (.iload 7, 2, 0, 0, 0)) rfl rfl
theorem s189_214 {d : Nat} {ls : mj_L} {st : List Value} {M : mj_H} : mj_Rn d mj_m189 214 ls st M = mq_k0 d mj_m189 216 ls M (mj_ldi (mj_lk ls 8) st) := mj_R0 (r := (.iload 8, 2, 0, 0, 0)) rfl rfl
theorem s189_216 {d : Nat} {ls : mj_L} {st : List Value} {M : mj_H} : mj_Rn d mj_m189 216 ls st M = mq_k0 d mj_m189 218 ls M (mj_ldi (mj_lk ls 19) st) := mj_R0 (r := (.iload 19, 2, 0, 0, 0)) rfl rfl
theorem s189_218 {d : Nat} {ls : mj_L} {st : List Value} {M : mj_H} : mj_Rn (d + 1) mj_m189 218 ls st M = mq_k5a (d + 1) mj_m189 221 ls M 202 (mq_cb 0 5 10 st M) := mj_R5e (r := (.invokevirtual 264, 3, 0, 202, 20710)) (z := mj_m202) rfl rfl (by decide) (by decide) rfl
theorem s189_221 {d : Nat} {ls : mj_L} {st : List Value} {M : mj_H} : mj_Rn d mj_m189 221 ls st M = mq_k0 d mj_m189 223 ls M (mj_ldi (mj_lk ls 18) st) := mj_R0 (r := (.iload 18, 2, 0, 0, 0)) rfl rfl
theorem s189_223 {d : Nat} {ls : mj_L} {st : List Value} {M : mj_H} : mj_Rn d mj_m189 223 ls st M = mq_k2 d mj_m189 ls M (mj_br (.ifCond .le 23) 223 st) := mj_R2 (r := (.ifCond .le 23, 3, 0, 0, 0)) rfl rfl
theorem s189_226 {d : Nat} {ls : mj_L} {st : List Value} {M : mj_H} : mj_Rn d mj_m189 226 ls st M = mq_k0 d mj_m189 227 ls M (mj_lda (mj_lk ls 0) st) := mj_R0 (r := (.aload_n 0, 1, 0, 0, 0)) rfl rfl
theorem s189_227 {d : Nat} {ls : mj_L} {st : List Value} {M : mj_H} : mj_Rn d mj_m189 227 ls st M = mq_k0 d mj_m189 230 ls M (mq_gf 10 1 st M) := (mj_R3 (r := (.getfield 18, 3, 10, 1, 8488)) rfl rfl).trans (congrArg (mq_k0 d mj_m189 230 ls M) mq_gf_eq)
theorem s189_230 {d : Nat} {ls : mj_L} {st : List Value} {M : mj_H} : mj_Rn d mj_m189 230 ls st M = mj_Rn d mj_m189 231 ls (.int 5 :: st) M := mj_R0 (r := (.iconst 5, 1, 0, 0, 0)) rfl rfl
theorem s189_231 {d : Nat} {ls : mj_L} {st : List Value} {M : mj_H} : mj_Rn (d + 1) mj_m189 231 ls st M = mq_k5a (d + 1) mj_m189 234 ls M 45 (mq_cb 0 1 1 st M) := mj_R5e (r := (.invokevirtual 190, 3, 0, 45, 20603)) (z := mj_m45) rfl rfl (by decide) (by decide) rfl
theorem s189_234 {d : Nat} {ls : mj_L} {st : List Value} {M : mj_H} : mj_Rn d mj_m189 234 ls st M = mq_k0 d mj_m189 235 ls M (mj_lda (mj_lk ls 0) st) := mj_R0 (r := (.aload_n 0, 1, 0, 0, 0)) rfl rfl
theorem s189_235 {d : Nat} {ls : mj_L} {st : List Value} {M : mj_H} : mj_Rn d mj_m189 235 ls st M = mq_k0 d mj_m189 237 ls M (mj_lda (mj_lk ls 12) st) := mj_R0 (r := (.aload 12, 2, 0, 0, 0)) rfl rfl
theorem s189_237 {d : Nat} {ls : mj_L} {st : List Value} {M : mj_H} : mj_Rn d mj_m189 237 ls st M = mq_k0 d mj_m189 239 ls M (mj_ldl (mj_lk ls 16) st) := mj_R0 (r := (.lload 16, 2, 0, 0, 0)) rfl rfl
theorem s189_239 {d : Nat} {ls : mj_L} {st : List Value} {M : mj_H} : mj_Rn d mj_m189 239 ls st M = mq_k0 d mj_m189 241 ls M (mj_ldi (mj_lk ls 7) st) := mj_R0 (r := (.iload 7, 2, 0, 0, 0)) rfl rfl
theorem s189_241 {d : Nat} {ls : mj_L} {st : List Value} {M : mj_H} : mj_Rn d mj_m189 241 ls st M = mq_k0 d mj_m189 243 ls M (mj_ldi (mj_lk ls 18) st) := mj_R0 (r := (.iload 18, 2, 0, 0, 0)) rfl rfl
theorem s189_243 {d : Nat} {ls : mj_L} {st : List Value} {M : mj_H} : mj_Rn (d + 1) mj_m189 243 ls st M = mq_k5a (d + 1) mj_m189 246 ls M 203 (mq_cb 0 4 10 st M) := mj_R5e (r := (.invokevirtual 268, 3, 0, 203, 20719)) (z := mj_m203) rfl rfl (by decide) (by decide) rfl
theorem s189_246 {d : Nat} {ls : mj_L} {st : List Value} {M : mj_H} : mj_Rn d mj_m189 246 ls st M = mq_k0 d mj_m189 248 ls M (mj_ldi (mj_lk ls 9) st) := mj_R0 (r := (.iload 9, 2, 0, 0, 0)) rfl rfl
theorem s189_248 {d : Nat} {ls : mj_L} {st : List Value} {M : mj_H} : mj_Rn d mj_m189 248 ls st M = mj_Rn d mj_m189 249 ls (.int 1 :: st) M := mj_R0 (r := (.iconst 1, 1, 0, 0, 0)) rfl rfl
theorem s189_249 {d : Nat} {ls : mj_L} {st : List Value} {M : mj_H} : mj_Rn d mj_m189 249 ls st M = mq_k0 d mj_m189 250 ls M (mj_pu .iand ls st) := mj_R0 (r := (.iand, 1, 0, 0, 0)) rfl rfl
theorem s189_250 {d : Nat} {ls : mj_L} {st : List Value} {M : mj_H} : mj_Rn d mj_m189 250 ls st M = mq_k2 d mj_m189 ls M (mj_br (.ifCond .eq 21) 250 st) := mj_R2 (r := (.ifCond .eq 21, 3, 0, 0, 0)) rfl rfl
theorem s189_253 {d : Nat} {ls : mj_L} {st : List Value} {M : mj_H} : mj_Rn d mj_m189 253 ls st M = mq_k0 d mj_m189 254 ls M (mj_lda (mj_lk ls 0) st) := mj_R0 (r := (.aload_n 0, 1, 0, 0, 0)) rfl rfl
theorem s189_254 {d : Nat} {ls : mj_L} {st : List Value} {M : mj_H} : mj_Rn d mj_m189 254 ls st M = mq_k0 d mj_m189 257 ls M (mq_gf 10 1 st M) := (mj_R3 (r := (.getfield 18, 3, 10, 1, 8488)) rfl rfl).trans (congrArg (mq_k0 d mj_m189 257 ls M) mq_gf_eq)
theorem s189_257 {d : Nat} {ls : mj_L} {st : List Value} {M : mj_H} : mj_Rn d mj_m189 257 ls st M = mj_Rn d mj_m189 259 ls (.int 7 :: st) M := mj_R0 (r := (.bipush 7, 2, 0, 0, 0)) rfl rfl
theorem s189_259 {d : Nat} {ls : mj_L} {st : List Value} {M : mj_H} : mj_Rn (d + 1) mj_m189 259 ls st M = mq_k5a (d + 1) mj_m189 262 ls M 45 (mq_cb 0 1 1 st M) := mj_R5e (r := (.invokevirtual 190, 3, 0, 45, 20603)) (z := mj_m45) rfl rfl (by decide) (by decide) rfl
theorem s189_262 {d : Nat} {ls : mj_L} {st : List Value} {M : mj_H} : mj_Rn d mj_m189 262 ls st M = mq_k0 d mj_m189 263 ls M (mj_lda (mj_lk ls 0) st) := mj_R0 (r := (.aload_n 0, 1, 0, 0, 0)) rfl rfl
theorem s189_263 {d : Nat} {ls : mj_L} {st : List Value} {M : mj_H} : mj_Rn d mj_m189 263 ls st M = mj_Rn d mj_m189 266 ls (.ref 9 :: st) M := mj_R3 (r := (.ldc_w 272, 3, 2, 10, 24581)) rfl rfl
theorem s189_266 {d : Nat} {ls : mj_L} {st : List Value} {M : mj_H} : mj_Rn d mj_m189 266 ls st M = mj_Rn d mj_m189 268 ls (.int 21 :: st) M := mj_R0 (r := (.bipush 21, 2, 0, 0, 0)) rfl rfl
theorem s189_268 {d : Nat} {ls : mj_L} {st : List Value} {M : mj_H} : mj_Rn (d + 1) mj_m189 268 ls st M = mq_k5a (d + 1) mj_m189 271 ls M 204 (mq_cb 0 2 10 st M) := mj_R5e (r := (.invokevirtual 274, 3, 0, 204, 24582)) (z := mj_m204) rfl rfl (by decide) (by decide) rfl
theorem s189_271 {d : Nat} {ls : mj_L} {st : List Value} {M : mj_H} : mj_Rn d mj_m189 271 ls st M = mq_k0 d mj_m189 273 ls M (mj_ldi (mj_lk ls 15) st) := mj_R0 (r := (.iload 15, 2, 0, 0, 0)) rfl rfl
theorem s189_273 {d : Nat} {ls : mj_L} {st : List Value} {M : mj_H} : mj_Rn d mj_m189 273 ls st M = mq_k2 d mj_m189 ls M (mj_br (.ifCond .le 11) 273 st) := mj_R2 (r := (.ifCond .le 11, 3, 0, 0, 0)) rfl rfl
theorem s189_276 {d : Nat} {ls : mj_L} {st : List Value} {M : mj_H} : mj_Rn d mj_m189 276 ls st M = mq_k0 d mj_m189 277 ls M (mj_lda (mj_lk ls 0) st) := mj_R0 (r := (.aload_n 0, 1, 0, 0, 0)) rfl rfl
theorem s189_277 {d : Nat} {ls : mj_L} {st : List Value} {M : mj_H} : mj_Rn d mj_m189 277 ls st M = mj_Rn d mj_m189 279 ls (.int 8 :: st) M := mj_R0 (r := (.bipush 8, 2, 0, 0, 0)) rfl rfl
theorem s189_279 {d : Nat} {ls : mj_L} {st : List Value} {M : mj_H} : mj_Rn d mj_m189 279 ls st M = mq_k0 d mj_m189 281 ls M (mj_ldi (mj_lk ls 15) st) := mj_R0 (r := (.iload 15, 2, 0, 0, 0)) rfl rfl
theorem s189_281 {d : Nat} {ls : mj_L} {st : List Value} {M : mj_H} : mj_Rn (d + 1) mj_m189 281 ls st M = mq_k5a (d + 1) mj_m189 284 ls M 205 (mq_cb 0 2 10 st M) := mj_R5e (r := (.invokevirtual 278, 3, 0, 205, 24586)) (z := mj_m205) rfl rfl (by decide) (by decide) rfl
theorem s189_284 {d : Nat} {ls : mj_L} {st : List Value} {M : mj_H} : mj_Rn d mj_m189 284 ls st M = mq_k0 d mj_m189 286 ls M (mj_lda (mj_lk ls 11) st) := mj_R0 (r := (.aload 11, 2, 0, 0, 0)) rfl rfl
theorem s189_286 {d : Nat} {ls : mj_L} {st : List Value} {M : mj_H} : mj_Rn d mj_m189 286 ls st M = mq_k0 d mj_m189 287 ls M (mj_lda (mj_lk ls 0) st) := mj_R0 (r := (.aload_n 0, 1, 0, 0, 0)) rfl rfl
theorem s189_287 {d : Nat} {ls : mj_L} {st : List Value} {M : mj_H} : mj_Rn d mj_m189 287 ls st M = mq_k0 d mj_m189 290 ls M (mq_gf 10 1 st M) := (mj_R3 (r := (.getfield 18, 3, 10, 1, 8488)) rfl rfl).trans (congrArg (mq_k0 d mj_m189 290 ls M) mq_gf_eq)
theorem s189_290 {d : Nat} {ls : mj_L} {st : List Value} {M : mj_H} : mj_Rn (d + 1) mj_m189 290 ls st M = mq_k5a (d + 1) mj_m189 293 ls M 78 (mq_cb 0 1 5 st M) := mj_R5e (r := (.invokevirtual 122, 3, 0, 78, 12435)) (z := mj_m78) rfl rfl (by decide) (by decide) rfl
theorem s189_293 {d : Nat} {ls : mj_L} {st : List Value} {M : mj_H} : mj_Rn d mj_m189 293 ls st M = mq_k1 d mj_m189 295 M (mj_lo 21 (.istore 20) ls st) := mj_R1 (r := (.istore 20, 2, 0, 0, 0)) rfl rfl
theorem s189_295 {d : Nat} {ls : mj_L} {st : List Value} {M : mj_H} : mj_Rn d mj_m189 295 ls st M = mq_k0 d mj_m189 297 ls M (mj_ldi (mj_lk ls 20) st) := mj_R0 (r := (.iload 20, 2, 0, 0, 0)) rfl rfl
theorem s189_297 {d : Nat} {ls : mj_L} {st : List Value} {M : mj_H} : mj_Rn d mj_m189 297 ls st M = mq_k2 d mj_m189 ls M (mj_br (.ifCond .ne 30) 297 st) := mj_R2 (r := (.ifCond .ne 30, 3, 0, 0, 0)) rfl rfl
theorem s189_300 {d : Nat} {ls : mj_L} {st : List Value} {M : mj_H} : mj_Rn d mj_m189 300 ls st M = mq_k0 d mj_m189 301 ls M (mj_lda (mj_lk ls 0) st) := mj_R0 (r := (.aload_n 0, 1, 0, 0, 0)) rfl rfl
theorem s189_301 {d : Nat} {ls : mj_L} {st : List Value} {M : mj_H} : mj_Rn d mj_m189 301 ls st M = mj_Rn d mj_m189 302 ls (.int 1 :: st) M := mj_R0 (r := (.iconst 1, 1, 0, 0, 0)) rfl rfl
theorem s189_302 {d : Nat} {ls : mj_L} {st : List Value} {M : mj_H} : mj_Rn d mj_m189 302 ls st M = mq_k0 d mj_m189 304 ls M (mj_ldi (mj_lk ls 13) st) := mj_R0 (r := (.iload 13, 2, 0, 0, 0)) rfl rfl
theorem s189_304 {d : Nat} {ls : mj_L} {st : List Value} {M : mj_H} : mj_Rn d mj_m189 304 ls st M = mq_k0 d mj_m189 306 ls M (mj_lda (mj_lk ls 10) st) := mj_R0 (r := (.aload 10, 2, 0, 0, 0)) rfl rfl
theorem s189_306 {d : Nat} {ls : mj_L} {st : List Value} {M : mj_H} : mj_Rn d mj_m189 306 ls st M = mq_k0 d mj_m189 309 ls M (mq_gf 3 1 st M) := (mj_R3 (r := (.getfield 200, 3, 3, 1, 8447)) rfl rfl).trans (congrArg (mq_k0 d mj_m189 309 ls M) mq_gf_eq)
theorem s189_309 {d : Nat} {ls : mj_L} {st : List Value} {M : mj_H} : mj_Rn (d + 1) mj_m189 309 ls st M = mq_k5a (d + 1) mj_m189 312 ls M 206 (mq_cb 0 3 10 st M) := mj_R5e (r := (.invokevirtual 281, 3, 0, 206, 24590)) (z := mj_m206) rfl rfl (by decide) (by decide) rfl
theorem s189_312 {d : Nat} {ls : mj_L} {st : List Value} {M : mj_H} : mj_Rn d mj_m189 312 ls st M = mq_k0 d mj_m189 313 ls M (mj_lda (mj_lk ls 0) st) := mj_R0 (r := (.aload_n 0, 1, 0, 0, 0)) rfl rfl
theorem s189_313 {d : Nat} {ls : mj_L} {st : List Value} {M : mj_H} : mj_Rn d mj_m189 313 ls st M = mq_k0 d mj_m189 315 ls M (mj_lda (mj_lk ls 11) st) := mj_R0 (r := (.aload 11, 2, 0, 0, 0)) rfl rfl
theorem s189_315 {d : Nat} {ls : mj_L} {st : List Value} {M : mj_H} : mj_Rn d mj_m189 315 ls st M = mq_k0 d mj_m189 318 ls M (mq_gf 5 3 st M) := (mj_R3 (r := (.getfield 126, 3, 5, 3, 16607)) rfl rfl).trans (congrArg (mq_k0 d mj_m189 318 ls M) mq_gf_eq)
theorem s189_318 {d : Nat} {ls : mj_L} {st : List Value} {M : mj_H} : mj_Rn d mj_m189 318 ls st M = mj_Rn d mj_m189 320 ls (.int 21 :: st) M := mj_R0 (r := (.bipush 21, 2, 0, 0, 0)) rfl rfl
theorem s189_320 {d : Nat} {ls : mj_L} {st : List Value} {M : mj_H} : mj_Rn d mj_m189 320 ls st M = mj_Rn d mj_m189 322 ls (.int 12 :: st) M := mj_R0 (r := (.bipush 12, 2, 0, 0, 0)) rfl rfl
theorem s189_322 {d : Nat} {ls : mj_L} {st : List Value} {M : mj_H} : mj_Rn d mj_m189 322 ls st M = mj_Rn d mj_m189 324 ls (.int 17 :: st) M := mj_R0 (r := (.bipush 17, 2, 0, 0, 0)) rfl rfl
theorem s189_324 {d : Nat} {ls : mj_L} {st : List Value} {M : mj_H} : mj_Rn (d + 1) mj_m189 324 ls st M = mq_k5a (d + 1) mj_m189 327 ls M 207 (mq_cb 0 4 10 st M) := mj_R5e (r := (.invokevirtual 285, 3, 0, 207, 24594)) (z := mj_m207) rfl rfl (by decide) (by decide) rfl
theorem s189_327 {d : Nat} {ls : mj_L} {st : List Value} {M : mj_H} : mj_Rn d mj_m189 327 ls st M = mq_k0 d mj_m189 329 ls M (mj_ldi (mj_lk ls 20) st) := mj_R0 (r := (.iload 20, 2, 0, 0, 0)) rfl rfl
theorem s189_329 {d : Nat} {ls : mj_L} {st : List Value} {M : mj_H} : mj_Rn d mj_m189 329 ls st M = mq_k6 M (mj_re (some .int) (.ireturn) st) := mj_R6 (r := (.ireturn, 1, 0, 0, 0)) rfl rfl
theorem c189 {d : Nat} {a0 : Nat} {x1 : Int32} {x2 : Int32} {x3 : Int32} {x4 : Int32} {x5 : Int64} {x6 : Int32} {x7 : Int32} {x8 : Int32} {M : mj_H} : mj_V (d + 1) 189 [.ref a0, .int x1, .int x2, .int x3, .int x4, .long x5, .int x6, .int x7, .int x8] M = mj_Rn d mj_m189 0 [(0, .ref a0), (1, .int x1), (2, .int x2), (3, .int x3), (4, .int x4), (5, .long x5), (7, .int x6), (8, .int x7), (9, .int x8)] [] M := mj_V_go rfl (Nat.le_of_ble_eq_true rfl)
theorem and1 (x : Int32) : x &&& 1 = 0 ∨ x &&& 1 = 1 := by
  obtain ⟨n, hn, he⟩ := tb_and (x := x) (k := 1) (by decide)
  rcases (show n = 0 ∨ n = 1 by omega) with rfl | rfl
  · exact Or.inl he
  · exact Or.inr he
/-- what a party gives to a message -/
def pv_ok (H : Ho) (πs : List Nat) (pv : Value) (po : Option Pa) : Prop := ((pv = .null ∧ po = none) ∨ ∃ (j π : Nat) (p : Pa), pv = .ref π ∧ po = some p ∧ H.2.2.2.2[j]? = some p ∧ πs[j]? = some π)
theorem pv_ok.h {H : Ho} {πs : List Nat} {pv : Value} {po : Option Pa} (hh_ : pv_ok H πs pv po) : (pv = .null ∧ po = none) ∨ ∃ (j π : Nat) (p : Pa), pv = .ref π ∧ po = some p ∧ H.2.2.2.2[j]? = some p ∧ πs[j]? = some π := hh_
theorem pv_ok_mk_ {H : Ho} {πs : List Nat} {pv : Value} {po : Option Pa} (f_0_ : (pv = .null ∧ po = none) ∨ ∃ (j π : Nat) (p : Pa), pv = .ref π ∧ po = some p ∧ H.2.2.2.2[j]? = some p ∧ πs[j]? = some π) : pv_ok H πs pv po := f_0_
section HZ
variable {M M' : mj_H} {H H' : Ho} {κs πs : List Nat} {row row' ms : List Int32} {d : Nat} {i l : Int32} {π : Nat} {p : Pa} {u : List Int32}
theorem cr_D {w19 hash c' how : Int32} {pv : Value} {κ ha mk : Nat} {LL : List Ac} (hmk : mk ≤ 1000) (z : hm M H κs πs row ms) (hms : ms.length ≤ 370) : ∃ M', hm M' H κs πs row (ms ++ mrkM (nI mk) 8 9) ∧ hf M M' ∧ ∀ q, mj_Rn (d + 12) mj_m189 284 [(19, .int w19), (18, .int (nI LL.length)), (16, .long (bt_lo u)), (15, .int (nI mk)), (14, .int hash), (13, .int c'), (12, pv), (11, .ref κ), (10, .ref ha), (0, .ref 25), (7, .int (nI u.length)), (9, .int how)] [] M' = some q → mj_Rn (d + 12) mj_m189 271 [(19, .int w19), (18, .int (nI LL.length)), (16, .long (bt_lo u)), (15, .int (nI mk)), (14, .int hash), (13, .int c'), (12, pv), (11, .ref κ), (10, .ref ha), (0, .ref 25), (7, .int (nI u.length)), (9, .int how)] [] M = some q := by
  obtain ⟨x0, y0⟩ := z.fa
  by_cases h0 : mk = 0
  · subst h0
    have e : mrkM (nI 0) 8 9 = [] := by unfold mrkM; rw [if_pos nI_0]
    rw [e, List.append_nil]
    refine ⟨M, z, hf.rf, fun q hq => ?_⟩
    rw [nI_0] at hq ⊢
    simp (disch := (first | omega | decide)) [s189_0, s189_1, s189_2, s189_5, s189_7, s189_8, s189_9, s189_12, s189_14, s189_16, s189_19, s189_21, s189_24, s189_26, s189_27, s189_29, s189_32, s189_35, s189_36, s189_38, s189_40, s189_42, s189_45, s189_48, s189_49, s189_50, s189_52, s189_55, s189_56, s189_58, s189_61, s189_64, s189_65, s189_68, s189_69, s189_71, s189_74, s189_77, s189_79, s189_80, s189_81, s189_83, s189_86, s189_88, s189_89, s189_90, s189_92, s189_95, s189_97, s189_98, s189_99, s189_101, s189_103, s189_106, s189_109, s189_111, s189_113, s189_114, s189_115, s189_118, s189_120, s189_123, s189_126, s189_127, s189_129, s189_132, s189_134, s189_137, s189_140, s189_141, s189_143, s189_145, s189_147, s189_150, s189_152, s189_154, s189_157, s189_159, s189_160, s189_161, s189_164, s189_165, s189_168, s189_170, s189_172, s189_174, s189_177, s189_179, s189_181, s189_184, s189_185, s189_188, s189_189, s189_191, s189_192, s189_193, s189_194, s189_196, s189_199, s189_200, s189_203, s189_204, s189_205, s189_207, s189_208, s189_210, s189_212, s189_214, s189_216, s189_218, s189_221, s189_223, s189_226, s189_227, s189_230, s189_231, s189_234, s189_235, s189_237, s189_239, s189_241, s189_243, s189_246, s189_248, s189_249, s189_250, s189_253, s189_254, s189_257, s189_259, s189_262, s189_263, s189_266, s189_268, s189_271, s189_273, s189_276, s189_277, s189_279, s189_281, s189_286, s189_287, s189_290, s189_293, s189_295, s189_297, s189_300, s189_301, s189_302, s189_304, s189_306, s189_309, s189_312, s189_313, s189_315, s189_318, s189_320, s189_322, s189_324, s189_327, s189_329, mq_k0s, mq_k1s, mq_k2s, mq_k4s, mq_k5s, mq_k5n, mq_k5as, mq_k6s, mj_pu, mj_lo, mj_br, mj_hr, mj_hw, mq_gf, mq_len, mq_al, mq_pf, mq_ok, mj_re, mq_lkm, mq_lkn, mj_ldi, mj_ldl, mj_lda, mj_ii, mj_ll, mj_li, mj_i1, ms_1, ms_2, f1_n, f1_i, f1_r, f1_u, f1_l, f2_n, f2_i, f2_r, f2_u, f2_l, mj_tg, mj_c1, mj_c2, mj_ar, mj_aw, mq_cb, mq_oi, mj_rm, Value.category, -getElem?_pos, List.getElem?_cons_zero, decide_eq_true, decide_eq_false, nl_lt, nl_le, ln_lt, ln_le, nl_eq, ln_eq, nl_add, ln_add, nl_sub, ln_mul, nI_sub, nI_mul, nI_add, nI_lt_iff, nI_le_iff, nI_inj, nI_num, mq_ix, nI_1, nl_mul, nl_div]
    exact hq
  · have hne : nI mk ≠ 0 := fun e => h0 ((nl_eq (a := mk) (n := 0) (by omega) rfl).mp e)
    have e : mrkM (nI mk) 8 9 = mbr 8 (nI mk) ++ [9, 1] := by unfold mrkM; rw [if_neg hne]
    rw [e]
    obtain ⟨M1, p1, z1, g1⟩ := h_pmk (d := d + 8) z 8 (Or.inr rfl) (nI mk) (by omega)
    refine ⟨M1, z1, g1, fun q hq => ?_⟩
    rw [show nI 8 = 8 from rfl] at p1
    have hp : ¬ mk ≤ 0 := by omega
    simp (disch := (first | omega | decide)) [s189_0, s189_1, s189_2, s189_5, s189_7, s189_8, s189_9, s189_12, s189_14, s189_16, s189_19, s189_21, s189_24, s189_26, s189_27, s189_29, s189_32, s189_35, s189_36, s189_38, s189_40, s189_42, s189_45, s189_48, s189_49, s189_50, s189_52, s189_55, s189_56, s189_58, s189_61, s189_64, s189_65, s189_68, s189_69, s189_71, s189_74, s189_77, s189_79, s189_80, s189_81, s189_83, s189_86, s189_88, s189_89, s189_90, s189_92, s189_95, s189_97, s189_98, s189_99, s189_101, s189_103, s189_106, s189_109, s189_111, s189_113, s189_114, s189_115, s189_118, s189_120, s189_123, s189_126, s189_127, s189_129, s189_132, s189_134, s189_137, s189_140, s189_141, s189_143, s189_145, s189_147, s189_150, s189_152, s189_154, s189_157, s189_159, s189_160, s189_161, s189_164, s189_165, s189_168, s189_170, s189_172, s189_174, s189_177, s189_179, s189_181, s189_184, s189_185, s189_188, s189_189, s189_191, s189_192, s189_193, s189_194, s189_196, s189_199, s189_200, s189_203, s189_204, s189_205, s189_207, s189_208, s189_210, s189_212, s189_214, s189_216, s189_218, s189_221, s189_223, s189_226, s189_227, s189_230, s189_231, s189_234, s189_235, s189_237, s189_239, s189_241, s189_243, s189_246, s189_248, s189_249, s189_250, s189_253, s189_254, s189_257, s189_259, s189_262, s189_263, s189_266, s189_268, s189_271, s189_273, s189_276, s189_277, s189_279, s189_281, s189_286, s189_287, s189_290, s189_293, s189_295, s189_297, s189_300, s189_301, s189_302, s189_304, s189_306, s189_309, s189_312, s189_313, s189_315, s189_318, s189_320, s189_322, s189_324, s189_327, s189_329, mq_k0s, mq_k1s, mq_k2s, mq_k4s, mq_k5s, mq_k5n, mq_k5as, mq_k6s, mj_pu, mj_lo, mj_br, mj_hr, mj_hw, mq_gf, mq_len, mq_al, mq_pf, mq_ok, mj_re, mq_lkm, mq_lkn, mj_ldi, mj_ldl, mj_lda, mj_ii, mj_ll, mj_li, mj_i1, ms_1, ms_2, f1_n, f1_i, f1_r, f1_u, f1_l, f2_n, f2_i, f2_r, f2_u, f2_l, mj_tg, mj_c1, mj_c2, mj_ar, mj_aw, mq_cb, mq_oi, mj_rm, Value.category, -getElem?_pos, List.getElem?_cons_zero, decide_eq_true, decide_eq_false, nl_lt, nl_le, ln_lt, ln_le, nl_eq, ln_eq, nl_add, ln_add, nl_sub, ln_mul, nI_sub, nI_mul, nI_add, nI_lt_iff, nI_le_iff, nI_inj, nI_num, mq_ix, nI_1, nl_mul, nl_div, hp, x0, p1]
    exact hq
theorem cr_C {w19 hash c' how : Int32} {pv : Value} {κ ha mk : Nat} {LL : List Ac} (hmk : mk ≤ 1000) (z : hm M H κs πs row ms) (hms : ms.length ≤ 360) : ∃ M', hm M' H κs πs row (ms ++ ((if how &&& 1 = 0 then [] else [7, 161, 98, 114, 107, 245]) ++ mrkM (nI mk) 8 9)) ∧ hf M M' ∧ ∀ q, mj_Rn (d + 12) mj_m189 284 [(19, .int w19), (18, .int (nI LL.length)), (16, .long (bt_lo u)), (15, .int (nI mk)), (14, .int hash), (13, .int c'), (12, pv), (11, .ref κ), (10, .ref ha), (0, .ref 25), (7, .int (nI u.length)), (9, .int how)] [] M' = some q → mj_Rn (d + 12) mj_m189 246 [(19, .int w19), (18, .int (nI LL.length)), (16, .long (bt_lo u)), (15, .int (nI mk)), (14, .int hash), (13, .int c'), (12, pv), (11, .ref κ), (10, .ref ha), (0, .ref 25), (7, .int (nI u.length)), (9, .int how)] [] M = some q := by
  by_cases h1 : how &&& 1 = 0
  · rw [if_pos h1, List.nil_append]
    obtain ⟨M1, z1, g1, q1⟩ := cr_D (d := d) (w19 := w19) (hash := hash) (c' := c') (how := how) (pv := pv) (κ := κ) (ha := ha) (LL := LL) (u := u) hmk z (by omega)
    refine ⟨M1, z1, g1, fun q hq => ?_⟩
    have := q1 q hq
    simp (disch := (first | omega | decide)) [s189_0, s189_1, s189_2, s189_5, s189_7, s189_8, s189_9, s189_12, s189_14, s189_16, s189_19, s189_21, s189_24, s189_26, s189_27, s189_29, s189_32, s189_35, s189_36, s189_38, s189_40, s189_42, s189_45, s189_48, s189_49, s189_50, s189_52, s189_55, s189_56, s189_58, s189_61, s189_64, s189_65, s189_68, s189_69, s189_71, s189_74, s189_77, s189_79, s189_80, s189_81, s189_83, s189_86, s189_88, s189_89, s189_90, s189_92, s189_95, s189_97, s189_98, s189_99, s189_101, s189_103, s189_106, s189_109, s189_111, s189_113, s189_114, s189_115, s189_118, s189_120, s189_123, s189_126, s189_127, s189_129, s189_132, s189_134, s189_137, s189_140, s189_141, s189_143, s189_145, s189_147, s189_150, s189_152, s189_154, s189_157, s189_159, s189_160, s189_161, s189_164, s189_165, s189_168, s189_170, s189_172, s189_174, s189_177, s189_179, s189_181, s189_184, s189_185, s189_188, s189_189, s189_191, s189_192, s189_193, s189_194, s189_196, s189_199, s189_200, s189_203, s189_204, s189_205, s189_207, s189_208, s189_210, s189_212, s189_214, s189_216, s189_218, s189_221, s189_223, s189_226, s189_227, s189_230, s189_231, s189_234, s189_235, s189_237, s189_239, s189_241, s189_243, s189_246, s189_248, s189_249, s189_250, s189_253, s189_254, s189_257, s189_259, s189_262, s189_263, s189_266, s189_268, s189_273, s189_276, s189_277, s189_279, s189_281, s189_284, s189_286, s189_287, s189_290, s189_293, s189_295, s189_297, s189_300, s189_301, s189_302, s189_304, s189_306, s189_309, s189_312, s189_313, s189_315, s189_318, s189_320, s189_322, s189_324, s189_327, s189_329, mq_k0s, mq_k1s, mq_k2s, mq_k4s, mq_k5s, mq_k5n, mq_k5as, mq_k6s, mj_pu, mj_lo, mj_br, mj_hr, mj_hw, mq_gf, mq_len, mq_al, mq_pf, mq_ok, mj_re, mq_lkm, mq_lkn, mj_ldi, mj_ldl, mj_lda, mj_ii, mj_ll, mj_li, mj_i1, ms_1, ms_2, f1_n, f1_i, f1_r, f1_u, f1_l, f2_n, f2_i, f2_r, f2_u, f2_l, mj_tg, mj_c1, mj_c2, mj_ar, mj_aw, mq_cb, mq_oi, mj_rm, Value.category, -getElem?_pos, List.getElem?_cons_zero, decide_eq_true, decide_eq_false, nl_lt, nl_le, ln_lt, ln_le, nl_eq, ln_eq, nl_add, ln_add, nl_sub, ln_mul, nI_sub, nI_mul, nI_add, nI_lt_iff, nI_le_iff, nI_inj, nI_num, mq_ix, nI_1, nl_mul, nl_div, h1]
    exact this
  · rw [if_neg h1]
    have z0 := z
    obtain ⟨x0, y0⟩ := z0.fa
    obtain ⟨M1, p1, z1, g1⟩ := hm_pushX (d := d + 11) z0 7 (ms ++ [7]) (by simp only [List.append_assoc, List.cons_append, List.nil_append, List.append_nil, h_53, h_54, h_55, h_52, h_51, h_41, h_217, h_29, h_22, h_16, h_721, h_720, h_0400, aa_1, aa_2, aa_3, aa_4, aa_5, aa_6, tx_0, tx_1, tx_2, tx_3, tx_5, tx_6, tx_7, tx_8, tx_9, tx_10, h_56, h_44, aa_7, aa_8, aa_9]) (by simp [b4_len] <;> omega)
    obtain ⟨x1, y1⟩ := z1.fa
    obtain ⟨M2, p2, z2, g2⟩ := h_popt (d := d + 6) z1 (j := 3) (a := 9) (by omega) rfl 21 245 h_721 [98, 114, 107] tx_3 (by simp) (by simp; omega)
    obtain ⟨M3, z3, g3, q3⟩ := cr_D (d := d) (w19 := w19) (hash := hash) (c' := c') (how := how) (pv := pv) (κ := κ) (ha := ha) (LL := LL) (u := u) hmk z2 (by simp; omega)
    have e : ms ++ [7] ++ (161 :: ([98, 114, 107] ++ [245])) ++ mrkM (nI mk) 8 9 = ms ++ ([7, 161, 98, 114, 107, 245] ++ mrkM (nI mk) 8 9) := by simp
    rw [e] at z3
    refine ⟨M3, z3, (((g1).tr g2).tr g3), fun q hq => ?_⟩
    have := q3 q hq
    simp (disch := (first | omega | decide)) [s189_0, s189_1, s189_2, s189_5, s189_7, s189_8, s189_9, s189_12, s189_14, s189_16, s189_19, s189_21, s189_24, s189_26, s189_27, s189_29, s189_32, s189_35, s189_36, s189_38, s189_40, s189_42, s189_45, s189_48, s189_49, s189_50, s189_52, s189_55, s189_56, s189_58, s189_61, s189_64, s189_65, s189_68, s189_69, s189_71, s189_74, s189_77, s189_79, s189_80, s189_81, s189_83, s189_86, s189_88, s189_89, s189_90, s189_92, s189_95, s189_97, s189_98, s189_99, s189_101, s189_103, s189_106, s189_109, s189_111, s189_113, s189_114, s189_115, s189_118, s189_120, s189_123, s189_126, s189_127, s189_129, s189_132, s189_134, s189_137, s189_140, s189_141, s189_143, s189_145, s189_147, s189_150, s189_152, s189_154, s189_157, s189_159, s189_160, s189_161, s189_164, s189_165, s189_168, s189_170, s189_172, s189_174, s189_177, s189_179, s189_181, s189_184, s189_185, s189_188, s189_189, s189_191, s189_192, s189_193, s189_194, s189_196, s189_199, s189_200, s189_203, s189_204, s189_205, s189_207, s189_208, s189_210, s189_212, s189_214, s189_216, s189_218, s189_221, s189_223, s189_226, s189_227, s189_230, s189_231, s189_234, s189_235, s189_237, s189_239, s189_241, s189_243, s189_246, s189_248, s189_249, s189_250, s189_253, s189_254, s189_257, s189_259, s189_262, s189_263, s189_266, s189_268, s189_273, s189_276, s189_277, s189_279, s189_281, s189_284, s189_286, s189_287, s189_290, s189_293, s189_295, s189_297, s189_300, s189_301, s189_302, s189_304, s189_306, s189_309, s189_312, s189_313, s189_315, s189_318, s189_320, s189_322, s189_324, s189_327, s189_329, mq_k0s, mq_k1s, mq_k2s, mq_k4s, mq_k5s, mq_k5n, mq_k5as, mq_k6s, mj_pu, mj_lo, mj_br, mj_hr, mj_hw, mq_gf, mq_len, mq_al, mq_pf, mq_ok, mj_re, mq_lkm, mq_lkn, mj_ldi, mj_ldl, mj_lda, mj_ii, mj_ll, mj_li, mj_i1, ms_1, ms_2, f1_n, f1_i, f1_r, f1_u, f1_l, f2_n, f2_i, f2_r, f2_u, f2_l, mj_tg, mj_c1, mj_c2, mj_ar, mj_aw, mq_cb, mq_oi, mj_rm, Value.category, -getElem?_pos, List.getElem?_cons_zero, decide_eq_true, decide_eq_false, nl_lt, nl_le, ln_lt, ln_le, nl_eq, ln_eq, nl_add, ln_add, nl_sub, ln_mul, nI_sub, nI_mul, nI_add, nI_lt_iff, nI_le_iff, nI_inj, nI_num, mq_ix, nI_1, nl_mul, nl_div, h1, x0, y0, p1, x1, y1, p2]
    exact this
/-- accounts -/
theorem cr_B {w19 hash c' how : Int32} {pv : Value} {po : Option Pa} {κ ha mk : Nat} (hmk : mk ≤ 1000) (hpv : pv_ok H πs pv po) (hoA : ∀ p ∈ H.2.2.2.2, okA p) (h8 : ∀ v ∈ u, v &&& 255 = v) (hul : u.length ≤ 8) (LL : List Ac) (hLL : LL = [] ∨ LL = acOf po u) (z : hm M H κs πs row ms) (hms : ms.length ≤ 120) : ∃ M', hm M' H κs πs row (ms ++ (acMsg 5 LL ++ ((if how &&& 1 = 0 then [] else [7, 161, 98, 114, 107, 245]) ++ mrkM (nI mk) 8 9))) ∧ hf M M' ∧ ∀ q, mj_Rn (d + 12) mj_m189 284 [(19, .int w19), (18, .int (nI LL.length)), (16, .long (bt_lo u)), (15, .int (nI mk)), (14, .int hash), (13, .int c'), (12, pv), (11, .ref κ), (10, .ref ha), (0, .ref 25), (7, .int (nI u.length)), (9, .int how)] [] M' = some q → mj_Rn (d + 12) mj_m189 221 [(19, .int w19), (18, .int (nI LL.length)), (16, .long (bt_lo u)), (15, .int (nI mk)), (14, .int hash), (13, .int c'), (12, pv), (11, .ref κ), (10, .ref ha), (0, .ref 25), (7, .int (nI u.length)), (9, .int how)] [] M = some q := by
  by_cases hE : LL = []
  · subst hE
    have e : acMsg 5 [] = [] := rfl
    rw [e, List.nil_append]
    obtain ⟨M1, z1, g1, q1⟩ := cr_C (d := d) (w19 := w19) (hash := hash) (c' := c') (how := how) (pv := pv) (κ := κ) (ha := ha) (LL := []) (u := u) hmk z (by omega)
    refine ⟨M1, z1, g1, fun q hq => ?_⟩
    have := q1 q hq
    simp only [List.length_nil] at this ⊢
    rw [nI_0] at this ⊢
    simp (disch := (first | omega | decide)) [s189_0, s189_1, s189_2, s189_5, s189_7, s189_8, s189_9, s189_12, s189_14, s189_16, s189_19, s189_21, s189_24, s189_26, s189_27, s189_29, s189_32, s189_35, s189_36, s189_38, s189_40, s189_42, s189_45, s189_48, s189_49, s189_50, s189_52, s189_55, s189_56, s189_58, s189_61, s189_64, s189_65, s189_68, s189_69, s189_71, s189_74, s189_77, s189_79, s189_80, s189_81, s189_83, s189_86, s189_88, s189_89, s189_90, s189_92, s189_95, s189_97, s189_98, s189_99, s189_101, s189_103, s189_106, s189_109, s189_111, s189_113, s189_114, s189_115, s189_118, s189_120, s189_123, s189_126, s189_127, s189_129, s189_132, s189_134, s189_137, s189_140, s189_141, s189_143, s189_145, s189_147, s189_150, s189_152, s189_154, s189_157, s189_159, s189_160, s189_161, s189_164, s189_165, s189_168, s189_170, s189_172, s189_174, s189_177, s189_179, s189_181, s189_184, s189_185, s189_188, s189_189, s189_191, s189_192, s189_193, s189_194, s189_196, s189_199, s189_200, s189_203, s189_204, s189_205, s189_207, s189_208, s189_210, s189_212, s189_214, s189_216, s189_218, s189_221, s189_223, s189_226, s189_227, s189_230, s189_231, s189_234, s189_235, s189_237, s189_239, s189_241, s189_243, s189_248, s189_249, s189_250, s189_253, s189_254, s189_257, s189_259, s189_262, s189_263, s189_266, s189_268, s189_271, s189_273, s189_276, s189_277, s189_279, s189_281, s189_284, s189_286, s189_287, s189_290, s189_293, s189_295, s189_297, s189_300, s189_301, s189_302, s189_304, s189_306, s189_309, s189_312, s189_313, s189_315, s189_318, s189_320, s189_322, s189_324, s189_327, s189_329, mq_k0s, mq_k1s, mq_k2s, mq_k4s, mq_k5s, mq_k5n, mq_k5as, mq_k6s, mj_pu, mj_lo, mj_br, mj_hr, mj_hw, mq_gf, mq_len, mq_al, mq_pf, mq_ok, mj_re, mq_lkm, mq_lkn, mj_ldi, mj_ldl, mj_lda, mj_ii, mj_ll, mj_li, mj_i1, ms_1, ms_2, f1_n, f1_i, f1_r, f1_u, f1_l, f2_n, f2_i, f2_r, f2_u, f2_l, mj_tg, mj_c1, mj_c2, mj_ar, mj_aw, mq_cb, mq_oi, mj_rm, Value.category, -getElem?_pos, List.getElem?_cons_zero, decide_eq_true, decide_eq_false, nl_lt, nl_le, ln_lt, ln_le, nl_eq, ln_eq, nl_add, ln_add, nl_sub, ln_mul, nI_sub, nI_mul, nI_add, nI_lt_iff, nI_le_iff, nI_inj, nI_num, mq_ix, nI_1, nl_mul, nl_div]
    exact this
  · rcases hLL with hLL | hLL
    · exact absurd hLL hE
    rcases hpv.h with ⟨rfl, rfl⟩ | ⟨j, π, p, rfl, rfl, hp, hπ⟩
    · exact absurd hLL hE
    change LL = acF p u at hLL
    subst hLL
    have ho := hoA p (List.mem_of_getElem? hp)
    have hpz := z.z.py j p π hp hπ
    have l8 := hpz.l8
    have lF := acF_le (p := p) (u := u)
    have hLp : ¬ (acF p u).length ≤ 0 := by have := List.length_pos_iff.mpr hE; omega
    obtain ⟨x0, y0⟩ := z.fa
    obtain ⟨M2, p2, z2, g2⟩ := hm_pushX (d := d + 11) z 5 (ms ++ [5]) (by rw [aa_5]) (by simp; omega)
    obtain ⟨x2, y2⟩ := z2.fa
    obtain ⟨M3, p3, z3, g3⟩ := h_pac (d := d + 6) z2 hp hπ ho h8 hul (by simp; omega)
    have hel := ent_len (acF p u)
    have hbl := bt_hd_len 4 (nI (acF p u).length)
    obtain ⟨M4, z4, g4, q4⟩ := cr_C (d := d) (w19 := w19) (hash := hash) (c' := c') (how := how) (pv := .ref π) (κ := κ) (ha := ha) (LL := acF p u) (u := u) hmk z3 (by simp only [List.length_append, hel, List.length_cons, List.length_nil]; omega)
    have e : ms ++ [5] ++ (bt_hd 4 (nI (acF p u).length) ++ (acF p u).flatMap acEnt) ++ ((if how &&& 1 = 0 then [] else [7, 161, 98, 114, 107, 245]) ++ mrkM (nI mk) 8 9) = ms ++ (acMsg 5 (acF p u) ++ ((if how &&& 1 = 0 then [] else [7, 161, 98, 114, 107, 245]) ++ mrkM (nI mk) 8 9)) := by
      unfold acMsg; rw [if_neg hE]; simp
    rw [e] at z4
    refine ⟨M4, z4, (g2.tr g3).tr g4, fun q hq => ?_⟩
    have := q4 q hq
    generalize (acF p u).length = Ln at *
    simp (disch := (first | omega | decide)) [s189_0, s189_1, s189_2, s189_5, s189_7, s189_8, s189_9, s189_12, s189_14, s189_16, s189_19, s189_21, s189_24, s189_26, s189_27, s189_29, s189_32, s189_35, s189_36, s189_38, s189_40, s189_42, s189_45, s189_48, s189_49, s189_50, s189_52, s189_55, s189_56, s189_58, s189_61, s189_64, s189_65, s189_68, s189_69, s189_71, s189_74, s189_77, s189_79, s189_80, s189_81, s189_83, s189_86, s189_88, s189_89, s189_90, s189_92, s189_95, s189_97, s189_98, s189_99, s189_101, s189_103, s189_106, s189_109, s189_111, s189_113, s189_114, s189_115, s189_118, s189_120, s189_123, s189_126, s189_127, s189_129, s189_132, s189_134, s189_137, s189_140, s189_141, s189_143, s189_145, s189_147, s189_150, s189_152, s189_154, s189_157, s189_159, s189_160, s189_161, s189_164, s189_165, s189_168, s189_170, s189_172, s189_174, s189_177, s189_179, s189_181, s189_184, s189_185, s189_188, s189_189, s189_191, s189_192, s189_193, s189_194, s189_196, s189_199, s189_200, s189_203, s189_204, s189_205, s189_207, s189_208, s189_210, s189_212, s189_214, s189_216, s189_218, s189_221, s189_223, s189_226, s189_227, s189_230, s189_231, s189_234, s189_235, s189_237, s189_239, s189_241, s189_243, s189_248, s189_249, s189_250, s189_253, s189_254, s189_257, s189_259, s189_262, s189_263, s189_266, s189_268, s189_271, s189_273, s189_276, s189_277, s189_279, s189_281, s189_284, s189_286, s189_287, s189_290, s189_293, s189_295, s189_297, s189_300, s189_301, s189_302, s189_304, s189_306, s189_309, s189_312, s189_313, s189_315, s189_318, s189_320, s189_322, s189_324, s189_327, s189_329, mq_k0s, mq_k1s, mq_k2s, mq_k4s, mq_k5s, mq_k5n, mq_k5as, mq_k6s, mj_pu, mj_lo, mj_br, mj_hr, mj_hw, mq_gf, mq_len, mq_al, mq_pf, mq_ok, mj_re, mq_lkm, mq_lkn, mj_ldi, mj_ldl, mj_lda, mj_ii, mj_ll, mj_li, mj_i1, ms_1, ms_2, f1_n, f1_i, f1_r, f1_u, f1_l, f2_n, f2_i, f2_r, f2_u, f2_l, mj_tg, mj_c1, mj_c2, mj_ar, mj_aw, mq_cb, mq_oi, mj_rm, Value.category, -getElem?_pos, List.getElem?_cons_zero, decide_eq_true, decide_eq_false, nl_lt, nl_le, ln_lt, ln_le, nl_eq, ln_eq, nl_add, ln_add, nl_sub, ln_mul, nI_sub, nI_mul, nI_add, nI_lt_iff, nI_le_iff, nI_inj, nI_num, mq_ix, nI_1, nl_mul, nl_div, hLp, x0, y0, p2, x2, p3]
    exact this
end HZ
end
/- 9k.hc -/
section
set_option maxRecDepth 512
/-! Class: the house: create, the whole. -/
section HZ
variable {M M' : mj_H} {H H' : Ho} {κs πs : List Nat} {row row' ms : List Int32} {d : Nat} {i l : Int32} {π : Nat} {p : Pa} {u : List Int32}
theorem cr_A (z : hz M H κs πs row) {hash c' how : Int32} {pv : Value} {κ ha mk n : Nat} {LL : List Ac} (hpv : pv = .null ∨ ∃ a, pv = .ref a) (hmk : mk ≤ 1000) (hn : 1 ≤ n ∧ n ≤ 24) (hnt : n ≤ H.1.length) (hL8 : LL.length ≤ 8) (hul : 1 ≤ u.length ∧ u.length ≤ 8) (h8 : ∀ v ∈ u, v &&& 255 = v) {Sm : Nat} (hS : (if !LL.isEmpty then 1 else 0) + ((if !decide (how &&& 1 = 0) then 1 else 0) + (if !decide (mk = 0) then 2 else 0)) = Sm) :
    ∃ M', hm M' H κs πs row (bmMsg hash (H.1.take n) u (nI (164 + Sm))) ∧ hf M M' ∧ ∀ q, mj_Rn (d + 12) mj_m189 221 [(19, .int (nI Sm)), (18, .int (nI LL.length)), (16, .long (bt_lo u)), (15, .int (nI mk)), (14, .int hash), (13, .int c'), (12, pv), (11, .ref κ), (10, .ref ha), (0, .ref 25), (7, .int (nI u.length)), (9, .int how)] [] M' = some q → mj_Rn (d + 12) mj_m189 179 [(8, .int (nI n)), (18, .int (nI LL.length)), (16, .long (bt_lo u)), (15, .int (nI mk)), (14, .int hash), (13, .int c'), (12, pv), (11, .ref κ), (10, .ref ha), (0, .ref 25), (7, .int (nI u.length)), (9, .int how)] [] M = some q := by
  have x0 := z.ob
  have hsum := hd_sum4 (!LL.isEmpty) (!decide (how &&& 1 = 0)) (!decide (mk = 0))
  rw [hS] at hsum
  have hS4 : Sm ≤ 4 := by rw [← hS]; split <;> split <;> split <;> omega
  obtain ⟨M1, p1, z1, g1⟩ := h_bmk (d := d + 6) (m := u.length) (n := n) (more := Sm) z hash (bt_lo u) hul hn hnt hS4 (nI (164 + Sm)) hsum
  rw [bt_lo_low u h8 hul.2] at z1
  refine ⟨M1, z1, g1, fun q hq => ?_⟩
  by_cases hE : LL = []
  · rcases and1 how with h1 | h1
    · by_cases h0 : mk = 0
      · have hs : Sm = 0 := by rw [← hS]; simp [hE, h1, h0]
        subst hs
        change mj_V (d + 12) 202 [.ref 25, .int hash, .long (bt_lo u), .int (nI u.length), .int (nI n), .int 0] M = some (none, M1) at p1
        subst h0
        subst hE
        try simp only [nI_0, List.length_nil, true_and] at hq ⊢
        rcases hpv with rfl | ⟨a, rfl⟩
        · simp (disch := (first | omega | decide)) [s189_0, s189_1, s189_2, s189_5, s189_7, s189_8, s189_9, s189_12, s189_14, s189_16, s189_19, s189_21, s189_24, s189_26, s189_27, s189_29, s189_32, s189_35, s189_36, s189_38, s189_40, s189_42, s189_45, s189_48, s189_49, s189_50, s189_52, s189_55, s189_56, s189_58, s189_61, s189_64, s189_65, s189_68, s189_69, s189_71, s189_74, s189_77, s189_79, s189_80, s189_81, s189_83, s189_86, s189_88, s189_89, s189_90, s189_92, s189_95, s189_97, s189_98, s189_99, s189_101, s189_103, s189_106, s189_109, s189_111, s189_113, s189_114, s189_115, s189_118, s189_120, s189_123, s189_126, s189_127, s189_129, s189_132, s189_134, s189_137, s189_140, s189_141, s189_143, s189_145, s189_147, s189_150, s189_152, s189_154, s189_157, s189_159, s189_160, s189_161, s189_164, s189_165, s189_168, s189_170, s189_172, s189_174, s189_177, s189_179, s189_181, s189_184, s189_185, s189_188, s189_189, s189_191, s189_192, s189_193, s189_194, s189_196, s189_199, s189_200, s189_203, s189_204, s189_205, s189_207, s189_208, s189_210, s189_212, s189_214, s189_216, s189_218, s189_223, s189_226, s189_227, s189_230, s189_231, s189_234, s189_235, s189_237, s189_239, s189_241, s189_243, s189_246, s189_248, s189_249, s189_250, s189_253, s189_254, s189_257, s189_259, s189_262, s189_263, s189_266, s189_268, s189_271, s189_273, s189_276, s189_277, s189_279, s189_281, s189_284, s189_286, s189_287, s189_290, s189_293, s189_295, s189_297, s189_300, s189_301, s189_302, s189_304, s189_306, s189_309, s189_312, s189_313, s189_315, s189_318, s189_320, s189_322, s189_324, s189_327, s189_329, mq_k0s, mq_k1s, mq_k2s, mq_k4s, mq_k5s, mq_k5n, mq_k5as, mq_k6s, mj_pu, mj_lo, mj_br, mj_hr, mj_hw, mq_gf, mq_len, mq_al, mq_pf, mq_ok, mj_re, mq_lkm, mq_lkn, mj_ldi, mj_ldl, mj_lda, mj_ii, mj_ll, mj_li, mj_i1, ms_1, ms_2, f1_n, f1_i, f1_r, f1_u, f1_l, f2_n, f2_i, f2_r, f2_u, f2_l, mj_tg, mj_c1, mj_c2, mj_ar, mj_aw, mq_cb, mq_oi, mj_rm, Value.category, -getElem?_pos, List.getElem?_cons_zero, decide_eq_true, decide_eq_false, nl_lt, nl_le, ln_lt, ln_le, nl_eq, ln_eq, nl_add, ln_add, nl_sub, ln_mul, nI_sub, nI_mul, nI_add, nI_lt_iff, nI_le_iff, nI_inj, nI_num, mq_ix, nI_1, nl_mul, nl_div, h1, x0, p1]
          refine mq_wk ?_ hq
          simp [mq_sub, mj_lk] <;> rfl
        · simp (disch := (first | omega | decide)) [s189_0, s189_1, s189_2, s189_5, s189_7, s189_8, s189_9, s189_12, s189_14, s189_16, s189_19, s189_21, s189_24, s189_26, s189_27, s189_29, s189_32, s189_35, s189_36, s189_38, s189_40, s189_42, s189_45, s189_48, s189_49, s189_50, s189_52, s189_55, s189_56, s189_58, s189_61, s189_64, s189_65, s189_68, s189_69, s189_71, s189_74, s189_77, s189_79, s189_80, s189_81, s189_83, s189_86, s189_88, s189_89, s189_90, s189_92, s189_95, s189_97, s189_98, s189_99, s189_101, s189_103, s189_106, s189_109, s189_111, s189_113, s189_114, s189_115, s189_118, s189_120, s189_123, s189_126, s189_127, s189_129, s189_132, s189_134, s189_137, s189_140, s189_141, s189_143, s189_145, s189_147, s189_150, s189_152, s189_154, s189_157, s189_159, s189_160, s189_161, s189_164, s189_165, s189_168, s189_170, s189_172, s189_174, s189_177, s189_179, s189_181, s189_184, s189_185, s189_188, s189_189, s189_191, s189_192, s189_193, s189_194, s189_196, s189_199, s189_200, s189_203, s189_204, s189_205, s189_207, s189_208, s189_210, s189_212, s189_214, s189_216, s189_218, s189_223, s189_226, s189_227, s189_230, s189_231, s189_234, s189_235, s189_237, s189_239, s189_241, s189_243, s189_246, s189_248, s189_249, s189_250, s189_253, s189_254, s189_257, s189_259, s189_262, s189_263, s189_266, s189_268, s189_271, s189_273, s189_276, s189_277, s189_279, s189_281, s189_284, s189_286, s189_287, s189_290, s189_293, s189_295, s189_297, s189_300, s189_301, s189_302, s189_304, s189_306, s189_309, s189_312, s189_313, s189_315, s189_318, s189_320, s189_322, s189_324, s189_327, s189_329, mq_k0s, mq_k1s, mq_k2s, mq_k4s, mq_k5s, mq_k5n, mq_k5as, mq_k6s, mj_pu, mj_lo, mj_br, mj_hr, mj_hw, mq_gf, mq_len, mq_al, mq_pf, mq_ok, mj_re, mq_lkm, mq_lkn, mj_ldi, mj_ldl, mj_lda, mj_ii, mj_ll, mj_li, mj_i1, ms_1, ms_2, f1_n, f1_i, f1_r, f1_u, f1_l, f2_n, f2_i, f2_r, f2_u, f2_l, mj_tg, mj_c1, mj_c2, mj_ar, mj_aw, mq_cb, mq_oi, mj_rm, Value.category, -getElem?_pos, List.getElem?_cons_zero, decide_eq_true, decide_eq_false, nl_lt, nl_le, ln_lt, ln_le, nl_eq, ln_eq, nl_add, ln_add, nl_sub, ln_mul, nI_sub, nI_mul, nI_add, nI_lt_iff, nI_le_iff, nI_inj, nI_num, mq_ix, nI_1, nl_mul, nl_div, h1, x0, p1]
          refine mq_wk ?_ hq
          simp [mq_sub, mj_lk] <;> rfl
      · have hp : ¬ mk ≤ 0 := by omega
        have hs : Sm = 2 := by rw [← hS]; simp [hE, h1, h0]
        subst hs
        change mj_V (d + 12) 202 [.ref 25, .int hash, .long (bt_lo u), .int (nI u.length), .int (nI n), .int 2] M = some (none, M1) at p1
        subst hE
        try simp only [nI_0, List.length_nil, true_and] at hq ⊢
        rcases hpv with rfl | ⟨a, rfl⟩
        · simp (disch := (first | omega | decide)) [s189_0, s189_1, s189_2, s189_5, s189_7, s189_8, s189_9, s189_12, s189_14, s189_16, s189_19, s189_21, s189_24, s189_26, s189_27, s189_29, s189_32, s189_35, s189_36, s189_38, s189_40, s189_42, s189_45, s189_48, s189_49, s189_50, s189_52, s189_55, s189_56, s189_58, s189_61, s189_64, s189_65, s189_68, s189_69, s189_71, s189_74, s189_77, s189_79, s189_80, s189_81, s189_83, s189_86, s189_88, s189_89, s189_90, s189_92, s189_95, s189_97, s189_98, s189_99, s189_101, s189_103, s189_106, s189_109, s189_111, s189_113, s189_114, s189_115, s189_118, s189_120, s189_123, s189_126, s189_127, s189_129, s189_132, s189_134, s189_137, s189_140, s189_141, s189_143, s189_145, s189_147, s189_150, s189_152, s189_154, s189_157, s189_159, s189_160, s189_161, s189_164, s189_165, s189_168, s189_170, s189_172, s189_174, s189_177, s189_179, s189_181, s189_184, s189_185, s189_188, s189_189, s189_191, s189_192, s189_193, s189_194, s189_196, s189_199, s189_200, s189_203, s189_204, s189_205, s189_207, s189_208, s189_210, s189_212, s189_214, s189_216, s189_218, s189_223, s189_226, s189_227, s189_230, s189_231, s189_234, s189_235, s189_237, s189_239, s189_241, s189_243, s189_246, s189_248, s189_249, s189_250, s189_253, s189_254, s189_257, s189_259, s189_262, s189_263, s189_266, s189_268, s189_271, s189_273, s189_276, s189_277, s189_279, s189_281, s189_284, s189_286, s189_287, s189_290, s189_293, s189_295, s189_297, s189_300, s189_301, s189_302, s189_304, s189_306, s189_309, s189_312, s189_313, s189_315, s189_318, s189_320, s189_322, s189_324, s189_327, s189_329, mq_k0s, mq_k1s, mq_k2s, mq_k4s, mq_k5s, mq_k5n, mq_k5as, mq_k6s, mj_pu, mj_lo, mj_br, mj_hr, mj_hw, mq_gf, mq_len, mq_al, mq_pf, mq_ok, mj_re, mq_lkm, mq_lkn, mj_ldi, mj_ldl, mj_lda, mj_ii, mj_ll, mj_li, mj_i1, ms_1, ms_2, f1_n, f1_i, f1_r, f1_u, f1_l, f2_n, f2_i, f2_r, f2_u, f2_l, mj_tg, mj_c1, mj_c2, mj_ar, mj_aw, mq_cb, mq_oi, mj_rm, Value.category, -getElem?_pos, List.getElem?_cons_zero, decide_eq_true, decide_eq_false, nl_lt, nl_le, ln_lt, ln_le, nl_eq, ln_eq, nl_add, ln_add, nl_sub, ln_mul, nI_sub, nI_mul, nI_add, nI_lt_iff, nI_le_iff, nI_inj, nI_num, mq_ix, nI_1, nl_mul, nl_div, h1, hp, x0, p1]
          refine mq_wk ?_ hq
          simp [mq_sub, mj_lk] <;> rfl
        · simp (disch := (first | omega | decide)) [s189_0, s189_1, s189_2, s189_5, s189_7, s189_8, s189_9, s189_12, s189_14, s189_16, s189_19, s189_21, s189_24, s189_26, s189_27, s189_29, s189_32, s189_35, s189_36, s189_38, s189_40, s189_42, s189_45, s189_48, s189_49, s189_50, s189_52, s189_55, s189_56, s189_58, s189_61, s189_64, s189_65, s189_68, s189_69, s189_71, s189_74, s189_77, s189_79, s189_80, s189_81, s189_83, s189_86, s189_88, s189_89, s189_90, s189_92, s189_95, s189_97, s189_98, s189_99, s189_101, s189_103, s189_106, s189_109, s189_111, s189_113, s189_114, s189_115, s189_118, s189_120, s189_123, s189_126, s189_127, s189_129, s189_132, s189_134, s189_137, s189_140, s189_141, s189_143, s189_145, s189_147, s189_150, s189_152, s189_154, s189_157, s189_159, s189_160, s189_161, s189_164, s189_165, s189_168, s189_170, s189_172, s189_174, s189_177, s189_179, s189_181, s189_184, s189_185, s189_188, s189_189, s189_191, s189_192, s189_193, s189_194, s189_196, s189_199, s189_200, s189_203, s189_204, s189_205, s189_207, s189_208, s189_210, s189_212, s189_214, s189_216, s189_218, s189_223, s189_226, s189_227, s189_230, s189_231, s189_234, s189_235, s189_237, s189_239, s189_241, s189_243, s189_246, s189_248, s189_249, s189_250, s189_253, s189_254, s189_257, s189_259, s189_262, s189_263, s189_266, s189_268, s189_271, s189_273, s189_276, s189_277, s189_279, s189_281, s189_284, s189_286, s189_287, s189_290, s189_293, s189_295, s189_297, s189_300, s189_301, s189_302, s189_304, s189_306, s189_309, s189_312, s189_313, s189_315, s189_318, s189_320, s189_322, s189_324, s189_327, s189_329, mq_k0s, mq_k1s, mq_k2s, mq_k4s, mq_k5s, mq_k5n, mq_k5as, mq_k6s, mj_pu, mj_lo, mj_br, mj_hr, mj_hw, mq_gf, mq_len, mq_al, mq_pf, mq_ok, mj_re, mq_lkm, mq_lkn, mj_ldi, mj_ldl, mj_lda, mj_ii, mj_ll, mj_li, mj_i1, ms_1, ms_2, f1_n, f1_i, f1_r, f1_u, f1_l, f2_n, f2_i, f2_r, f2_u, f2_l, mj_tg, mj_c1, mj_c2, mj_ar, mj_aw, mq_cb, mq_oi, mj_rm, Value.category, -getElem?_pos, List.getElem?_cons_zero, decide_eq_true, decide_eq_false, nl_lt, nl_le, ln_lt, ln_le, nl_eq, ln_eq, nl_add, ln_add, nl_sub, ln_mul, nI_sub, nI_mul, nI_add, nI_lt_iff, nI_le_iff, nI_inj, nI_num, mq_ix, nI_1, nl_mul, nl_div, h1, hp, x0, p1]
          refine mq_wk ?_ hq
          simp [mq_sub, mj_lk] <;> rfl
    · by_cases h0 : mk = 0
      · have hs : Sm = 1 := by rw [← hS]; simp [hE, h1, h0]
        subst hs
        change mj_V (d + 12) 202 [.ref 25, .int hash, .long (bt_lo u), .int (nI u.length), .int (nI n), .int 1] M = some (none, M1) at p1
        subst h0
        subst hE
        try simp only [nI_0, List.length_nil, true_and] at hq ⊢
        rcases hpv with rfl | ⟨a, rfl⟩
        · simp (disch := (first | omega | decide)) [s189_0, s189_1, s189_2, s189_5, s189_7, s189_8, s189_9, s189_12, s189_14, s189_16, s189_19, s189_21, s189_24, s189_26, s189_27, s189_29, s189_32, s189_35, s189_36, s189_38, s189_40, s189_42, s189_45, s189_48, s189_49, s189_50, s189_52, s189_55, s189_56, s189_58, s189_61, s189_64, s189_65, s189_68, s189_69, s189_71, s189_74, s189_77, s189_79, s189_80, s189_81, s189_83, s189_86, s189_88, s189_89, s189_90, s189_92, s189_95, s189_97, s189_98, s189_99, s189_101, s189_103, s189_106, s189_109, s189_111, s189_113, s189_114, s189_115, s189_118, s189_120, s189_123, s189_126, s189_127, s189_129, s189_132, s189_134, s189_137, s189_140, s189_141, s189_143, s189_145, s189_147, s189_150, s189_152, s189_154, s189_157, s189_159, s189_160, s189_161, s189_164, s189_165, s189_168, s189_170, s189_172, s189_174, s189_177, s189_179, s189_181, s189_184, s189_185, s189_188, s189_189, s189_191, s189_192, s189_193, s189_194, s189_196, s189_199, s189_200, s189_203, s189_204, s189_205, s189_207, s189_208, s189_210, s189_212, s189_214, s189_216, s189_218, s189_223, s189_226, s189_227, s189_230, s189_231, s189_234, s189_235, s189_237, s189_239, s189_241, s189_243, s189_246, s189_248, s189_249, s189_250, s189_253, s189_254, s189_257, s189_259, s189_262, s189_263, s189_266, s189_268, s189_271, s189_273, s189_276, s189_277, s189_279, s189_281, s189_284, s189_286, s189_287, s189_290, s189_293, s189_295, s189_297, s189_300, s189_301, s189_302, s189_304, s189_306, s189_309, s189_312, s189_313, s189_315, s189_318, s189_320, s189_322, s189_324, s189_327, s189_329, mq_k0s, mq_k1s, mq_k2s, mq_k4s, mq_k5s, mq_k5n, mq_k5as, mq_k6s, mj_pu, mj_lo, mj_br, mj_hr, mj_hw, mq_gf, mq_len, mq_al, mq_pf, mq_ok, mj_re, mq_lkm, mq_lkn, mj_ldi, mj_ldl, mj_lda, mj_ii, mj_ll, mj_li, mj_i1, ms_1, ms_2, f1_n, f1_i, f1_r, f1_u, f1_l, f2_n, f2_i, f2_r, f2_u, f2_l, mj_tg, mj_c1, mj_c2, mj_ar, mj_aw, mq_cb, mq_oi, mj_rm, Value.category, -getElem?_pos, List.getElem?_cons_zero, decide_eq_true, decide_eq_false, nl_lt, nl_le, ln_lt, ln_le, nl_eq, ln_eq, nl_add, ln_add, nl_sub, ln_mul, nI_sub, nI_mul, nI_add, nI_lt_iff, nI_le_iff, nI_inj, nI_num, mq_ix, nI_1, nl_mul, nl_div, h1, x0, p1]
          refine mq_wk ?_ hq
          simp [mq_sub, mj_lk] <;> rfl
        · simp (disch := (first | omega | decide)) [s189_0, s189_1, s189_2, s189_5, s189_7, s189_8, s189_9, s189_12, s189_14, s189_16, s189_19, s189_21, s189_24, s189_26, s189_27, s189_29, s189_32, s189_35, s189_36, s189_38, s189_40, s189_42, s189_45, s189_48, s189_49, s189_50, s189_52, s189_55, s189_56, s189_58, s189_61, s189_64, s189_65, s189_68, s189_69, s189_71, s189_74, s189_77, s189_79, s189_80, s189_81, s189_83, s189_86, s189_88, s189_89, s189_90, s189_92, s189_95, s189_97, s189_98, s189_99, s189_101, s189_103, s189_106, s189_109, s189_111, s189_113, s189_114, s189_115, s189_118, s189_120, s189_123, s189_126, s189_127, s189_129, s189_132, s189_134, s189_137, s189_140, s189_141, s189_143, s189_145, s189_147, s189_150, s189_152, s189_154, s189_157, s189_159, s189_160, s189_161, s189_164, s189_165, s189_168, s189_170, s189_172, s189_174, s189_177, s189_179, s189_181, s189_184, s189_185, s189_188, s189_189, s189_191, s189_192, s189_193, s189_194, s189_196, s189_199, s189_200, s189_203, s189_204, s189_205, s189_207, s189_208, s189_210, s189_212, s189_214, s189_216, s189_218, s189_223, s189_226, s189_227, s189_230, s189_231, s189_234, s189_235, s189_237, s189_239, s189_241, s189_243, s189_246, s189_248, s189_249, s189_250, s189_253, s189_254, s189_257, s189_259, s189_262, s189_263, s189_266, s189_268, s189_271, s189_273, s189_276, s189_277, s189_279, s189_281, s189_284, s189_286, s189_287, s189_290, s189_293, s189_295, s189_297, s189_300, s189_301, s189_302, s189_304, s189_306, s189_309, s189_312, s189_313, s189_315, s189_318, s189_320, s189_322, s189_324, s189_327, s189_329, mq_k0s, mq_k1s, mq_k2s, mq_k4s, mq_k5s, mq_k5n, mq_k5as, mq_k6s, mj_pu, mj_lo, mj_br, mj_hr, mj_hw, mq_gf, mq_len, mq_al, mq_pf, mq_ok, mj_re, mq_lkm, mq_lkn, mj_ldi, mj_ldl, mj_lda, mj_ii, mj_ll, mj_li, mj_i1, ms_1, ms_2, f1_n, f1_i, f1_r, f1_u, f1_l, f2_n, f2_i, f2_r, f2_u, f2_l, mj_tg, mj_c1, mj_c2, mj_ar, mj_aw, mq_cb, mq_oi, mj_rm, Value.category, -getElem?_pos, List.getElem?_cons_zero, decide_eq_true, decide_eq_false, nl_lt, nl_le, ln_lt, ln_le, nl_eq, ln_eq, nl_add, ln_add, nl_sub, ln_mul, nI_sub, nI_mul, nI_add, nI_lt_iff, nI_le_iff, nI_inj, nI_num, mq_ix, nI_1, nl_mul, nl_div, h1, x0, p1]
          refine mq_wk ?_ hq
          simp [mq_sub, mj_lk] <;> rfl
      · have hp : ¬ mk ≤ 0 := by omega
        have hs : Sm = 3 := by rw [← hS]; simp [hE, h1, h0]
        subst hs
        change mj_V (d + 12) 202 [.ref 25, .int hash, .long (bt_lo u), .int (nI u.length), .int (nI n), .int 3] M = some (none, M1) at p1
        subst hE
        try simp only [nI_0, List.length_nil, true_and] at hq ⊢
        rcases hpv with rfl | ⟨a, rfl⟩
        · simp (disch := (first | omega | decide)) [s189_0, s189_1, s189_2, s189_5, s189_7, s189_8, s189_9, s189_12, s189_14, s189_16, s189_19, s189_21, s189_24, s189_26, s189_27, s189_29, s189_32, s189_35, s189_36, s189_38, s189_40, s189_42, s189_45, s189_48, s189_49, s189_50, s189_52, s189_55, s189_56, s189_58, s189_61, s189_64, s189_65, s189_68, s189_69, s189_71, s189_74, s189_77, s189_79, s189_80, s189_81, s189_83, s189_86, s189_88, s189_89, s189_90, s189_92, s189_95, s189_97, s189_98, s189_99, s189_101, s189_103, s189_106, s189_109, s189_111, s189_113, s189_114, s189_115, s189_118, s189_120, s189_123, s189_126, s189_127, s189_129, s189_132, s189_134, s189_137, s189_140, s189_141, s189_143, s189_145, s189_147, s189_150, s189_152, s189_154, s189_157, s189_159, s189_160, s189_161, s189_164, s189_165, s189_168, s189_170, s189_172, s189_174, s189_177, s189_179, s189_181, s189_184, s189_185, s189_188, s189_189, s189_191, s189_192, s189_193, s189_194, s189_196, s189_199, s189_200, s189_203, s189_204, s189_205, s189_207, s189_208, s189_210, s189_212, s189_214, s189_216, s189_218, s189_223, s189_226, s189_227, s189_230, s189_231, s189_234, s189_235, s189_237, s189_239, s189_241, s189_243, s189_246, s189_248, s189_249, s189_250, s189_253, s189_254, s189_257, s189_259, s189_262, s189_263, s189_266, s189_268, s189_271, s189_273, s189_276, s189_277, s189_279, s189_281, s189_284, s189_286, s189_287, s189_290, s189_293, s189_295, s189_297, s189_300, s189_301, s189_302, s189_304, s189_306, s189_309, s189_312, s189_313, s189_315, s189_318, s189_320, s189_322, s189_324, s189_327, s189_329, mq_k0s, mq_k1s, mq_k2s, mq_k4s, mq_k5s, mq_k5n, mq_k5as, mq_k6s, mj_pu, mj_lo, mj_br, mj_hr, mj_hw, mq_gf, mq_len, mq_al, mq_pf, mq_ok, mj_re, mq_lkm, mq_lkn, mj_ldi, mj_ldl, mj_lda, mj_ii, mj_ll, mj_li, mj_i1, ms_1, ms_2, f1_n, f1_i, f1_r, f1_u, f1_l, f2_n, f2_i, f2_r, f2_u, f2_l, mj_tg, mj_c1, mj_c2, mj_ar, mj_aw, mq_cb, mq_oi, mj_rm, Value.category, -getElem?_pos, List.getElem?_cons_zero, decide_eq_true, decide_eq_false, nl_lt, nl_le, ln_lt, ln_le, nl_eq, ln_eq, nl_add, ln_add, nl_sub, ln_mul, nI_sub, nI_mul, nI_add, nI_lt_iff, nI_le_iff, nI_inj, nI_num, mq_ix, nI_1, nl_mul, nl_div, h1, hp, x0, p1]
          refine mq_wk ?_ hq
          simp [mq_sub, mj_lk] <;> rfl
        · simp (disch := (first | omega | decide)) [s189_0, s189_1, s189_2, s189_5, s189_7, s189_8, s189_9, s189_12, s189_14, s189_16, s189_19, s189_21, s189_24, s189_26, s189_27, s189_29, s189_32, s189_35, s189_36, s189_38, s189_40, s189_42, s189_45, s189_48, s189_49, s189_50, s189_52, s189_55, s189_56, s189_58, s189_61, s189_64, s189_65, s189_68, s189_69, s189_71, s189_74, s189_77, s189_79, s189_80, s189_81, s189_83, s189_86, s189_88, s189_89, s189_90, s189_92, s189_95, s189_97, s189_98, s189_99, s189_101, s189_103, s189_106, s189_109, s189_111, s189_113, s189_114, s189_115, s189_118, s189_120, s189_123, s189_126, s189_127, s189_129, s189_132, s189_134, s189_137, s189_140, s189_141, s189_143, s189_145, s189_147, s189_150, s189_152, s189_154, s189_157, s189_159, s189_160, s189_161, s189_164, s189_165, s189_168, s189_170, s189_172, s189_174, s189_177, s189_179, s189_181, s189_184, s189_185, s189_188, s189_189, s189_191, s189_192, s189_193, s189_194, s189_196, s189_199, s189_200, s189_203, s189_204, s189_205, s189_207, s189_208, s189_210, s189_212, s189_214, s189_216, s189_218, s189_223, s189_226, s189_227, s189_230, s189_231, s189_234, s189_235, s189_237, s189_239, s189_241, s189_243, s189_246, s189_248, s189_249, s189_250, s189_253, s189_254, s189_257, s189_259, s189_262, s189_263, s189_266, s189_268, s189_271, s189_273, s189_276, s189_277, s189_279, s189_281, s189_284, s189_286, s189_287, s189_290, s189_293, s189_295, s189_297, s189_300, s189_301, s189_302, s189_304, s189_306, s189_309, s189_312, s189_313, s189_315, s189_318, s189_320, s189_322, s189_324, s189_327, s189_329, mq_k0s, mq_k1s, mq_k2s, mq_k4s, mq_k5s, mq_k5n, mq_k5as, mq_k6s, mj_pu, mj_lo, mj_br, mj_hr, mj_hw, mq_gf, mq_len, mq_al, mq_pf, mq_ok, mj_re, mq_lkm, mq_lkn, mj_ldi, mj_ldl, mj_lda, mj_ii, mj_ll, mj_li, mj_i1, ms_1, ms_2, f1_n, f1_i, f1_r, f1_u, f1_l, f2_n, f2_i, f2_r, f2_u, f2_l, mj_tg, mj_c1, mj_c2, mj_ar, mj_aw, mq_cb, mq_oi, mj_rm, Value.category, -getElem?_pos, List.getElem?_cons_zero, decide_eq_true, decide_eq_false, nl_lt, nl_le, ln_lt, ln_le, nl_eq, ln_eq, nl_add, ln_add, nl_sub, ln_mul, nI_sub, nI_mul, nI_add, nI_lt_iff, nI_le_iff, nI_inj, nI_num, mq_ix, nI_1, nl_mul, nl_div, h1, hp, x0, p1]
          refine mq_wk ?_ hq
          simp [mq_sub, mj_lk] <;> rfl
  · have hE2 : LL.isEmpty = false := by cases LL with
      | nil => exact absurd rfl hE
      | cons a b => rfl
    have hLp : ¬ LL.length ≤ 0 := by have := List.length_pos_iff.mpr hE; omega
    rcases and1 how with h1 | h1
    · by_cases h0 : mk = 0
      · have hs : Sm = 1 := by rw [← hS]; simp [hE2, h1, h0]
        subst hs
        change mj_V (d + 12) 202 [.ref 25, .int hash, .long (bt_lo u), .int (nI u.length), .int (nI n), .int 1] M = some (none, M1) at p1
        subst h0
        try simp only [nI_0, true_and] at hq ⊢
        generalize LL.length = Ln at *
        rcases hpv with rfl | ⟨a, rfl⟩
        · simp (disch := (first | omega | decide)) [s189_0, s189_1, s189_2, s189_5, s189_7, s189_8, s189_9, s189_12, s189_14, s189_16, s189_19, s189_21, s189_24, s189_26, s189_27, s189_29, s189_32, s189_35, s189_36, s189_38, s189_40, s189_42, s189_45, s189_48, s189_49, s189_50, s189_52, s189_55, s189_56, s189_58, s189_61, s189_64, s189_65, s189_68, s189_69, s189_71, s189_74, s189_77, s189_79, s189_80, s189_81, s189_83, s189_86, s189_88, s189_89, s189_90, s189_92, s189_95, s189_97, s189_98, s189_99, s189_101, s189_103, s189_106, s189_109, s189_111, s189_113, s189_114, s189_115, s189_118, s189_120, s189_123, s189_126, s189_127, s189_129, s189_132, s189_134, s189_137, s189_140, s189_141, s189_143, s189_145, s189_147, s189_150, s189_152, s189_154, s189_157, s189_159, s189_160, s189_161, s189_164, s189_165, s189_168, s189_170, s189_172, s189_174, s189_177, s189_179, s189_181, s189_184, s189_185, s189_188, s189_189, s189_191, s189_192, s189_193, s189_194, s189_196, s189_199, s189_200, s189_203, s189_204, s189_205, s189_207, s189_208, s189_210, s189_212, s189_214, s189_216, s189_218, s189_223, s189_226, s189_227, s189_230, s189_231, s189_234, s189_235, s189_237, s189_239, s189_241, s189_243, s189_246, s189_248, s189_249, s189_250, s189_253, s189_254, s189_257, s189_259, s189_262, s189_263, s189_266, s189_268, s189_271, s189_273, s189_276, s189_277, s189_279, s189_281, s189_284, s189_286, s189_287, s189_290, s189_293, s189_295, s189_297, s189_300, s189_301, s189_302, s189_304, s189_306, s189_309, s189_312, s189_313, s189_315, s189_318, s189_320, s189_322, s189_324, s189_327, s189_329, mq_k0s, mq_k1s, mq_k2s, mq_k4s, mq_k5s, mq_k5n, mq_k5as, mq_k6s, mj_pu, mj_lo, mj_br, mj_hr, mj_hw, mq_gf, mq_len, mq_al, mq_pf, mq_ok, mj_re, mq_lkm, mq_lkn, mj_ldi, mj_ldl, mj_lda, mj_ii, mj_ll, mj_li, mj_i1, ms_1, ms_2, f1_n, f1_i, f1_r, f1_u, f1_l, f2_n, f2_i, f2_r, f2_u, f2_l, mj_tg, mj_c1, mj_c2, mj_ar, mj_aw, mq_cb, mq_oi, mj_rm, Value.category, -getElem?_pos, List.getElem?_cons_zero, decide_eq_true, decide_eq_false, nl_lt, nl_le, ln_lt, ln_le, nl_eq, ln_eq, nl_add, ln_add, nl_sub, ln_mul, nI_sub, nI_mul, nI_add, nI_lt_iff, nI_le_iff, nI_inj, nI_num, mq_ix, nI_1, nl_mul, nl_div, h1, hLp, x0, p1]
          refine mq_wk ?_ hq
          simp [mq_sub, mj_lk] <;> rfl
        · simp (disch := (first | omega | decide)) [s189_0, s189_1, s189_2, s189_5, s189_7, s189_8, s189_9, s189_12, s189_14, s189_16, s189_19, s189_21, s189_24, s189_26, s189_27, s189_29, s189_32, s189_35, s189_36, s189_38, s189_40, s189_42, s189_45, s189_48, s189_49, s189_50, s189_52, s189_55, s189_56, s189_58, s189_61, s189_64, s189_65, s189_68, s189_69, s189_71, s189_74, s189_77, s189_79, s189_80, s189_81, s189_83, s189_86, s189_88, s189_89, s189_90, s189_92, s189_95, s189_97, s189_98, s189_99, s189_101, s189_103, s189_106, s189_109, s189_111, s189_113, s189_114, s189_115, s189_118, s189_120, s189_123, s189_126, s189_127, s189_129, s189_132, s189_134, s189_137, s189_140, s189_141, s189_143, s189_145, s189_147, s189_150, s189_152, s189_154, s189_157, s189_159, s189_160, s189_161, s189_164, s189_165, s189_168, s189_170, s189_172, s189_174, s189_177, s189_179, s189_181, s189_184, s189_185, s189_188, s189_189, s189_191, s189_192, s189_193, s189_194, s189_196, s189_199, s189_200, s189_203, s189_204, s189_205, s189_207, s189_208, s189_210, s189_212, s189_214, s189_216, s189_218, s189_223, s189_226, s189_227, s189_230, s189_231, s189_234, s189_235, s189_237, s189_239, s189_241, s189_243, s189_246, s189_248, s189_249, s189_250, s189_253, s189_254, s189_257, s189_259, s189_262, s189_263, s189_266, s189_268, s189_271, s189_273, s189_276, s189_277, s189_279, s189_281, s189_284, s189_286, s189_287, s189_290, s189_293, s189_295, s189_297, s189_300, s189_301, s189_302, s189_304, s189_306, s189_309, s189_312, s189_313, s189_315, s189_318, s189_320, s189_322, s189_324, s189_327, s189_329, mq_k0s, mq_k1s, mq_k2s, mq_k4s, mq_k5s, mq_k5n, mq_k5as, mq_k6s, mj_pu, mj_lo, mj_br, mj_hr, mj_hw, mq_gf, mq_len, mq_al, mq_pf, mq_ok, mj_re, mq_lkm, mq_lkn, mj_ldi, mj_ldl, mj_lda, mj_ii, mj_ll, mj_li, mj_i1, ms_1, ms_2, f1_n, f1_i, f1_r, f1_u, f1_l, f2_n, f2_i, f2_r, f2_u, f2_l, mj_tg, mj_c1, mj_c2, mj_ar, mj_aw, mq_cb, mq_oi, mj_rm, Value.category, -getElem?_pos, List.getElem?_cons_zero, decide_eq_true, decide_eq_false, nl_lt, nl_le, ln_lt, ln_le, nl_eq, ln_eq, nl_add, ln_add, nl_sub, ln_mul, nI_sub, nI_mul, nI_add, nI_lt_iff, nI_le_iff, nI_inj, nI_num, mq_ix, nI_1, nl_mul, nl_div, h1, hLp, x0, p1]
          refine mq_wk ?_ hq
          simp [mq_sub, mj_lk] <;> rfl
      · have hp : ¬ mk ≤ 0 := by omega
        have hs : Sm = 3 := by rw [← hS]; simp [hE2, h1, h0]
        subst hs
        change mj_V (d + 12) 202 [.ref 25, .int hash, .long (bt_lo u), .int (nI u.length), .int (nI n), .int 3] M = some (none, M1) at p1
        try simp only [true_and] at hq ⊢
        generalize LL.length = Ln at *
        rcases hpv with rfl | ⟨a, rfl⟩
        · simp (disch := (first | omega | decide)) [s189_0, s189_1, s189_2, s189_5, s189_7, s189_8, s189_9, s189_12, s189_14, s189_16, s189_19, s189_21, s189_24, s189_26, s189_27, s189_29, s189_32, s189_35, s189_36, s189_38, s189_40, s189_42, s189_45, s189_48, s189_49, s189_50, s189_52, s189_55, s189_56, s189_58, s189_61, s189_64, s189_65, s189_68, s189_69, s189_71, s189_74, s189_77, s189_79, s189_80, s189_81, s189_83, s189_86, s189_88, s189_89, s189_90, s189_92, s189_95, s189_97, s189_98, s189_99, s189_101, s189_103, s189_106, s189_109, s189_111, s189_113, s189_114, s189_115, s189_118, s189_120, s189_123, s189_126, s189_127, s189_129, s189_132, s189_134, s189_137, s189_140, s189_141, s189_143, s189_145, s189_147, s189_150, s189_152, s189_154, s189_157, s189_159, s189_160, s189_161, s189_164, s189_165, s189_168, s189_170, s189_172, s189_174, s189_177, s189_179, s189_181, s189_184, s189_185, s189_188, s189_189, s189_191, s189_192, s189_193, s189_194, s189_196, s189_199, s189_200, s189_203, s189_204, s189_205, s189_207, s189_208, s189_210, s189_212, s189_214, s189_216, s189_218, s189_223, s189_226, s189_227, s189_230, s189_231, s189_234, s189_235, s189_237, s189_239, s189_241, s189_243, s189_246, s189_248, s189_249, s189_250, s189_253, s189_254, s189_257, s189_259, s189_262, s189_263, s189_266, s189_268, s189_271, s189_273, s189_276, s189_277, s189_279, s189_281, s189_284, s189_286, s189_287, s189_290, s189_293, s189_295, s189_297, s189_300, s189_301, s189_302, s189_304, s189_306, s189_309, s189_312, s189_313, s189_315, s189_318, s189_320, s189_322, s189_324, s189_327, s189_329, mq_k0s, mq_k1s, mq_k2s, mq_k4s, mq_k5s, mq_k5n, mq_k5as, mq_k6s, mj_pu, mj_lo, mj_br, mj_hr, mj_hw, mq_gf, mq_len, mq_al, mq_pf, mq_ok, mj_re, mq_lkm, mq_lkn, mj_ldi, mj_ldl, mj_lda, mj_ii, mj_ll, mj_li, mj_i1, ms_1, ms_2, f1_n, f1_i, f1_r, f1_u, f1_l, f2_n, f2_i, f2_r, f2_u, f2_l, mj_tg, mj_c1, mj_c2, mj_ar, mj_aw, mq_cb, mq_oi, mj_rm, Value.category, -getElem?_pos, List.getElem?_cons_zero, decide_eq_true, decide_eq_false, nl_lt, nl_le, ln_lt, ln_le, nl_eq, ln_eq, nl_add, ln_add, nl_sub, ln_mul, nI_sub, nI_mul, nI_add, nI_lt_iff, nI_le_iff, nI_inj, nI_num, mq_ix, nI_1, nl_mul, nl_div, h1, hLp, hp, x0, p1]
          refine mq_wk ?_ hq
          simp [mq_sub, mj_lk] <;> rfl
        · simp (disch := (first | omega | decide)) [s189_0, s189_1, s189_2, s189_5, s189_7, s189_8, s189_9, s189_12, s189_14, s189_16, s189_19, s189_21, s189_24, s189_26, s189_27, s189_29, s189_32, s189_35, s189_36, s189_38, s189_40, s189_42, s189_45, s189_48, s189_49, s189_50, s189_52, s189_55, s189_56, s189_58, s189_61, s189_64, s189_65, s189_68, s189_69, s189_71, s189_74, s189_77, s189_79, s189_80, s189_81, s189_83, s189_86, s189_88, s189_89, s189_90, s189_92, s189_95, s189_97, s189_98, s189_99, s189_101, s189_103, s189_106, s189_109, s189_111, s189_113, s189_114, s189_115, s189_118, s189_120, s189_123, s189_126, s189_127, s189_129, s189_132, s189_134, s189_137, s189_140, s189_141, s189_143, s189_145, s189_147, s189_150, s189_152, s189_154, s189_157, s189_159, s189_160, s189_161, s189_164, s189_165, s189_168, s189_170, s189_172, s189_174, s189_177, s189_179, s189_181, s189_184, s189_185, s189_188, s189_189, s189_191, s189_192, s189_193, s189_194, s189_196, s189_199, s189_200, s189_203, s189_204, s189_205, s189_207, s189_208, s189_210, s189_212, s189_214, s189_216, s189_218, s189_223, s189_226, s189_227, s189_230, s189_231, s189_234, s189_235, s189_237, s189_239, s189_241, s189_243, s189_246, s189_248, s189_249, s189_250, s189_253, s189_254, s189_257, s189_259, s189_262, s189_263, s189_266, s189_268, s189_271, s189_273, s189_276, s189_277, s189_279, s189_281, s189_284, s189_286, s189_287, s189_290, s189_293, s189_295, s189_297, s189_300, s189_301, s189_302, s189_304, s189_306, s189_309, s189_312, s189_313, s189_315, s189_318, s189_320, s189_322, s189_324, s189_327, s189_329, mq_k0s, mq_k1s, mq_k2s, mq_k4s, mq_k5s, mq_k5n, mq_k5as, mq_k6s, mj_pu, mj_lo, mj_br, mj_hr, mj_hw, mq_gf, mq_len, mq_al, mq_pf, mq_ok, mj_re, mq_lkm, mq_lkn, mj_ldi, mj_ldl, mj_lda, mj_ii, mj_ll, mj_li, mj_i1, ms_1, ms_2, f1_n, f1_i, f1_r, f1_u, f1_l, f2_n, f2_i, f2_r, f2_u, f2_l, mj_tg, mj_c1, mj_c2, mj_ar, mj_aw, mq_cb, mq_oi, mj_rm, Value.category, -getElem?_pos, List.getElem?_cons_zero, decide_eq_true, decide_eq_false, nl_lt, nl_le, ln_lt, ln_le, nl_eq, ln_eq, nl_add, ln_add, nl_sub, ln_mul, nI_sub, nI_mul, nI_add, nI_lt_iff, nI_le_iff, nI_inj, nI_num, mq_ix, nI_1, nl_mul, nl_div, h1, hLp, hp, x0, p1]
          refine mq_wk ?_ hq
          simp [mq_sub, mj_lk] <;> rfl
    · by_cases h0 : mk = 0
      · have hs : Sm = 2 := by rw [← hS]; simp [hE2, h1, h0]
        subst hs
        change mj_V (d + 12) 202 [.ref 25, .int hash, .long (bt_lo u), .int (nI u.length), .int (nI n), .int 2] M = some (none, M1) at p1
        subst h0
        try simp only [nI_0, true_and] at hq ⊢
        generalize LL.length = Ln at *
        rcases hpv with rfl | ⟨a, rfl⟩
        · simp (disch := (first | omega | decide)) [s189_0, s189_1, s189_2, s189_5, s189_7, s189_8, s189_9, s189_12, s189_14, s189_16, s189_19, s189_21, s189_24, s189_26, s189_27, s189_29, s189_32, s189_35, s189_36, s189_38, s189_40, s189_42, s189_45, s189_48, s189_49, s189_50, s189_52, s189_55, s189_56, s189_58, s189_61, s189_64, s189_65, s189_68, s189_69, s189_71, s189_74, s189_77, s189_79, s189_80, s189_81, s189_83, s189_86, s189_88, s189_89, s189_90, s189_92, s189_95, s189_97, s189_98, s189_99, s189_101, s189_103, s189_106, s189_109, s189_111, s189_113, s189_114, s189_115, s189_118, s189_120, s189_123, s189_126, s189_127, s189_129, s189_132, s189_134, s189_137, s189_140, s189_141, s189_143, s189_145, s189_147, s189_150, s189_152, s189_154, s189_157, s189_159, s189_160, s189_161, s189_164, s189_165, s189_168, s189_170, s189_172, s189_174, s189_177, s189_179, s189_181, s189_184, s189_185, s189_188, s189_189, s189_191, s189_192, s189_193, s189_194, s189_196, s189_199, s189_200, s189_203, s189_204, s189_205, s189_207, s189_208, s189_210, s189_212, s189_214, s189_216, s189_218, s189_223, s189_226, s189_227, s189_230, s189_231, s189_234, s189_235, s189_237, s189_239, s189_241, s189_243, s189_246, s189_248, s189_249, s189_250, s189_253, s189_254, s189_257, s189_259, s189_262, s189_263, s189_266, s189_268, s189_271, s189_273, s189_276, s189_277, s189_279, s189_281, s189_284, s189_286, s189_287, s189_290, s189_293, s189_295, s189_297, s189_300, s189_301, s189_302, s189_304, s189_306, s189_309, s189_312, s189_313, s189_315, s189_318, s189_320, s189_322, s189_324, s189_327, s189_329, mq_k0s, mq_k1s, mq_k2s, mq_k4s, mq_k5s, mq_k5n, mq_k5as, mq_k6s, mj_pu, mj_lo, mj_br, mj_hr, mj_hw, mq_gf, mq_len, mq_al, mq_pf, mq_ok, mj_re, mq_lkm, mq_lkn, mj_ldi, mj_ldl, mj_lda, mj_ii, mj_ll, mj_li, mj_i1, ms_1, ms_2, f1_n, f1_i, f1_r, f1_u, f1_l, f2_n, f2_i, f2_r, f2_u, f2_l, mj_tg, mj_c1, mj_c2, mj_ar, mj_aw, mq_cb, mq_oi, mj_rm, Value.category, -getElem?_pos, List.getElem?_cons_zero, decide_eq_true, decide_eq_false, nl_lt, nl_le, ln_lt, ln_le, nl_eq, ln_eq, nl_add, ln_add, nl_sub, ln_mul, nI_sub, nI_mul, nI_add, nI_lt_iff, nI_le_iff, nI_inj, nI_num, mq_ix, nI_1, nl_mul, nl_div, h1, hLp, x0, p1]
          refine mq_wk ?_ hq
          simp [mq_sub, mj_lk] <;> rfl
        · simp (disch := (first | omega | decide)) [s189_0, s189_1, s189_2, s189_5, s189_7, s189_8, s189_9, s189_12, s189_14, s189_16, s189_19, s189_21, s189_24, s189_26, s189_27, s189_29, s189_32, s189_35, s189_36, s189_38, s189_40, s189_42, s189_45, s189_48, s189_49, s189_50, s189_52, s189_55, s189_56, s189_58, s189_61, s189_64, s189_65, s189_68, s189_69, s189_71, s189_74, s189_77, s189_79, s189_80, s189_81, s189_83, s189_86, s189_88, s189_89, s189_90, s189_92, s189_95, s189_97, s189_98, s189_99, s189_101, s189_103, s189_106, s189_109, s189_111, s189_113, s189_114, s189_115, s189_118, s189_120, s189_123, s189_126, s189_127, s189_129, s189_132, s189_134, s189_137, s189_140, s189_141, s189_143, s189_145, s189_147, s189_150, s189_152, s189_154, s189_157, s189_159, s189_160, s189_161, s189_164, s189_165, s189_168, s189_170, s189_172, s189_174, s189_177, s189_179, s189_181, s189_184, s189_185, s189_188, s189_189, s189_191, s189_192, s189_193, s189_194, s189_196, s189_199, s189_200, s189_203, s189_204, s189_205, s189_207, s189_208, s189_210, s189_212, s189_214, s189_216, s189_218, s189_223, s189_226, s189_227, s189_230, s189_231, s189_234, s189_235, s189_237, s189_239, s189_241, s189_243, s189_246, s189_248, s189_249, s189_250, s189_253, s189_254, s189_257, s189_259, s189_262, s189_263, s189_266, s189_268, s189_271, s189_273, s189_276, s189_277, s189_279, s189_281, s189_284, s189_286, s189_287, s189_290, s189_293, s189_295, s189_297, s189_300, s189_301, s189_302, s189_304, s189_306, s189_309, s189_312, s189_313, s189_315, s189_318, s189_320, s189_322, s189_324, s189_327, s189_329, mq_k0s, mq_k1s, mq_k2s, mq_k4s, mq_k5s, mq_k5n, mq_k5as, mq_k6s, mj_pu, mj_lo, mj_br, mj_hr, mj_hw, mq_gf, mq_len, mq_al, mq_pf, mq_ok, mj_re, mq_lkm, mq_lkn, mj_ldi, mj_ldl, mj_lda, mj_ii, mj_ll, mj_li, mj_i1, ms_1, ms_2, f1_n, f1_i, f1_r, f1_u, f1_l, f2_n, f2_i, f2_r, f2_u, f2_l, mj_tg, mj_c1, mj_c2, mj_ar, mj_aw, mq_cb, mq_oi, mj_rm, Value.category, -getElem?_pos, List.getElem?_cons_zero, decide_eq_true, decide_eq_false, nl_lt, nl_le, ln_lt, ln_le, nl_eq, ln_eq, nl_add, ln_add, nl_sub, ln_mul, nI_sub, nI_mul, nI_add, nI_lt_iff, nI_le_iff, nI_inj, nI_num, mq_ix, nI_1, nl_mul, nl_div, h1, hLp, x0, p1]
          refine mq_wk ?_ hq
          simp [mq_sub, mj_lk] <;> rfl
      · have hp : ¬ mk ≤ 0 := by omega
        have hs : Sm = 4 := by rw [← hS]; simp [hE2, h1, h0]
        subst hs
        change mj_V (d + 12) 202 [.ref 25, .int hash, .long (bt_lo u), .int (nI u.length), .int (nI n), .int 4] M = some (none, M1) at p1
        try simp only [true_and] at hq ⊢
        generalize LL.length = Ln at *
        rcases hpv with rfl | ⟨a, rfl⟩
        · simp (disch := (first | omega | decide)) [s189_0, s189_1, s189_2, s189_5, s189_7, s189_8, s189_9, s189_12, s189_14, s189_16, s189_19, s189_21, s189_24, s189_26, s189_27, s189_29, s189_32, s189_35, s189_36, s189_38, s189_40, s189_42, s189_45, s189_48, s189_49, s189_50, s189_52, s189_55, s189_56, s189_58, s189_61, s189_64, s189_65, s189_68, s189_69, s189_71, s189_74, s189_77, s189_79, s189_80, s189_81, s189_83, s189_86, s189_88, s189_89, s189_90, s189_92, s189_95, s189_97, s189_98, s189_99, s189_101, s189_103, s189_106, s189_109, s189_111, s189_113, s189_114, s189_115, s189_118, s189_120, s189_123, s189_126, s189_127, s189_129, s189_132, s189_134, s189_137, s189_140, s189_141, s189_143, s189_145, s189_147, s189_150, s189_152, s189_154, s189_157, s189_159, s189_160, s189_161, s189_164, s189_165, s189_168, s189_170, s189_172, s189_174, s189_177, s189_179, s189_181, s189_184, s189_185, s189_188, s189_189, s189_191, s189_192, s189_193, s189_194, s189_196, s189_199, s189_200, s189_203, s189_204, s189_205, s189_207, s189_208, s189_210, s189_212, s189_214, s189_216, s189_218, s189_223, s189_226, s189_227, s189_230, s189_231, s189_234, s189_235, s189_237, s189_239, s189_241, s189_243, s189_246, s189_248, s189_249, s189_250, s189_253, s189_254, s189_257, s189_259, s189_262, s189_263, s189_266, s189_268, s189_271, s189_273, s189_276, s189_277, s189_279, s189_281, s189_284, s189_286, s189_287, s189_290, s189_293, s189_295, s189_297, s189_300, s189_301, s189_302, s189_304, s189_306, s189_309, s189_312, s189_313, s189_315, s189_318, s189_320, s189_322, s189_324, s189_327, s189_329, mq_k0s, mq_k1s, mq_k2s, mq_k4s, mq_k5s, mq_k5n, mq_k5as, mq_k6s, mj_pu, mj_lo, mj_br, mj_hr, mj_hw, mq_gf, mq_len, mq_al, mq_pf, mq_ok, mj_re, mq_lkm, mq_lkn, mj_ldi, mj_ldl, mj_lda, mj_ii, mj_ll, mj_li, mj_i1, ms_1, ms_2, f1_n, f1_i, f1_r, f1_u, f1_l, f2_n, f2_i, f2_r, f2_u, f2_l, mj_tg, mj_c1, mj_c2, mj_ar, mj_aw, mq_cb, mq_oi, mj_rm, Value.category, -getElem?_pos, List.getElem?_cons_zero, decide_eq_true, decide_eq_false, nl_lt, nl_le, ln_lt, ln_le, nl_eq, ln_eq, nl_add, ln_add, nl_sub, ln_mul, nI_sub, nI_mul, nI_add, nI_lt_iff, nI_le_iff, nI_inj, nI_num, mq_ix, nI_1, nl_mul, nl_div, h1, hLp, hp, x0, p1]
          refine mq_wk ?_ hq
          simp [mq_sub, mj_lk] <;> rfl
        · simp (disch := (first | omega | decide)) [s189_0, s189_1, s189_2, s189_5, s189_7, s189_8, s189_9, s189_12, s189_14, s189_16, s189_19, s189_21, s189_24, s189_26, s189_27, s189_29, s189_32, s189_35, s189_36, s189_38, s189_40, s189_42, s189_45, s189_48, s189_49, s189_50, s189_52, s189_55, s189_56, s189_58, s189_61, s189_64, s189_65, s189_68, s189_69, s189_71, s189_74, s189_77, s189_79, s189_80, s189_81, s189_83, s189_86, s189_88, s189_89, s189_90, s189_92, s189_95, s189_97, s189_98, s189_99, s189_101, s189_103, s189_106, s189_109, s189_111, s189_113, s189_114, s189_115, s189_118, s189_120, s189_123, s189_126, s189_127, s189_129, s189_132, s189_134, s189_137, s189_140, s189_141, s189_143, s189_145, s189_147, s189_150, s189_152, s189_154, s189_157, s189_159, s189_160, s189_161, s189_164, s189_165, s189_168, s189_170, s189_172, s189_174, s189_177, s189_179, s189_181, s189_184, s189_185, s189_188, s189_189, s189_191, s189_192, s189_193, s189_194, s189_196, s189_199, s189_200, s189_203, s189_204, s189_205, s189_207, s189_208, s189_210, s189_212, s189_214, s189_216, s189_218, s189_223, s189_226, s189_227, s189_230, s189_231, s189_234, s189_235, s189_237, s189_239, s189_241, s189_243, s189_246, s189_248, s189_249, s189_250, s189_253, s189_254, s189_257, s189_259, s189_262, s189_263, s189_266, s189_268, s189_271, s189_273, s189_276, s189_277, s189_279, s189_281, s189_284, s189_286, s189_287, s189_290, s189_293, s189_295, s189_297, s189_300, s189_301, s189_302, s189_304, s189_306, s189_309, s189_312, s189_313, s189_315, s189_318, s189_320, s189_322, s189_324, s189_327, s189_329, mq_k0s, mq_k1s, mq_k2s, mq_k4s, mq_k5s, mq_k5n, mq_k5as, mq_k6s, mj_pu, mj_lo, mj_br, mj_hr, mj_hw, mq_gf, mq_len, mq_al, mq_pf, mq_ok, mj_re, mq_lkm, mq_lkn, mj_ldi, mj_ldl, mj_lda, mj_ii, mj_ll, mj_li, mj_i1, ms_1, ms_2, f1_n, f1_i, f1_r, f1_u, f1_l, f2_n, f2_i, f2_r, f2_u, f2_l, mj_tg, mj_c1, mj_c2, mj_ar, mj_aw, mq_cb, mq_oi, mj_rm, Value.category, -getElem?_pos, List.getElem?_cons_zero, decide_eq_true, decide_eq_false, nl_lt, nl_le, ln_lt, ln_le, nl_eq, ln_eq, nl_add, ln_add, nl_sub, ln_mul, nI_sub, nI_mul, nI_add, nI_lt_iff, nI_le_iff, nI_inj, nI_num, mq_ix, nI_1, nl_mul, nl_div, h1, hLp, hp, x0, p1]
          refine mq_wk ?_ hq
          simp [mq_sub, mj_lk] <;> rfl
end HZ
end
/- 9l.hd -/
section
set_option maxRecDepth 512
/-! Class: the house: create, its end. -/
section HZ
variable {M M' : mj_H} {H H' : Ho} {κs πs : List Nat} {row row' ms : List Int32} {d : Nat} {i l : Int32} {π : Nat} {p : Pa} {u : List Int32}
theorem h_par (z : hz M H κs πs row) (party : Int32) : ∃ pv, mj_V (d + 1) 191 [.ref 25, .int party] M = some (some pv, M) ∧ pv_ok H πs pv (pOf H party) := by
  cases hix : ix party H.2.2.2.2.length with
  | none => exact ⟨.null, h_parN (d := d) z hix, (pv_ok_mk_ (Or.inl ⟨rfl, by simp [pOf, hix]⟩))⟩
  | some j =>
    obtain ⟨rfl, hj, -⟩ := ix_some hix
    have hp := List.getElem?_eq_getElem hj
    obtain ⟨π, hπ, hpz⟩ := z.pzz hp
    exact ⟨.ref π, h_parS (d := d) z hπ, (pv_ok_mk_ (Or.inr ⟨j, π, _, rfl, by simp [pOf, hix, hp], hp, hπ⟩))⟩
theorem pv_ok.sh {pv : Value} {po : Option Pa} (h : pv_ok H πs pv po) : pv = .null ∨ ∃ a, pv = .ref a := by
  rcases h.h with ⟨h, -⟩ | ⟨j, π, p, h, -⟩
  · exact Or.inl h
  · exact Or.inr ⟨π, h⟩
theorem h_chal (z : hz M H κs πs row) {pv : Value} {po : Option Pa} (h : pv_ok H πs pv po) (c : Int32) : mj_V (d + 2) 194 [.ref 25, .int c, pv] M = some (some (.int (chOf c po)), M) := by
  rcases h.h with ⟨rfl, rfl⟩ | ⟨j, π, p, rfl, rfl, hp, hπ⟩
  · exact h_chN c
  · exact h_chS c (z.py j p π hp hπ)
/-- the answer goes to the tape -/
theorem cr_E {w19 hash c' how : Int32} {pv : Value} {κ a b mk : Nat} {LL : List Ac} {h : Hd} {k : Ky} (z : hm M H κs πs row ms) (hh : H.2.2.2.1[a]? = some h) (hk : H.2.2.1[b]? = some k) (hκ : κs[b]? = some κ) (hkg : kg k) (hl : H.2.1.1.length + 5 < 1000) (hpv : pv = .null ∨ ∃ x, pv = .ref x) : ∃ M' row', mj_Rn (d + 12) mj_m189 284 [(19, .int w19), (18, .int (nI LL.length)), (16, .long (bt_lo u)), (15, .int (nI mk)), (14, .int hash), (13, .int c'), (12, pv), (11, .ref κ), (10, .ref (46 + 5 * a)), (0, .ref 25), (7, .int (nI u.length)), (9, .int how)] [] M = some (some (.int (ky_recv ms k H.2.1).1), M') ∧ hz M' ((if (ky_recv ms k H.2.1).1 = 0 then rsp 1 c' h.2.1 (ky_recv ms k H.2.1).2.1.1.1.1.2 21 12 17 else H.1, ((H.kt b (ky_recv ms k H.2.1).2).2.1, ((H.kt b (ky_recv ms k H.2.1).2).2.2.1, ((H.kt b (ky_recv ms k H.2.1).2).2.2.2.1, (H.kt b (ky_recv ms k H.2.1).2).2.2.2.2)))) : Ho) κs πs row' ∧ hf M M' := by
  obtain ⟨x0, y0⟩ := z.fa
  obtain ⟨κ', hκ', zk⟩ := z.z.kzz hk
  rw [hκ] at hκ'
  cases hκ'
  obtain ⟨u0, t0⟩ := zk.fa
  have ha := z.z.hj hh
  obtain ⟨M1, row1, p1, z1, g1, k1⟩ := z.rcv (d := d) hk hκ hkg hl
  by_cases hs : (ky_recv ms k H.2.1).1 = 0
  · rw [if_pos hs]
    obtain ⟨M2, p2, z2, g2⟩ := h_brs (d := d + 9) z1 hh 1 c' (by decide)
    have hpl := (z1.hd a h hh).pg.len
    obtain ⟨κ', hκ', zk2⟩ := z2.kzz (show (H.2.2.1.set b (ky_recv ms k H.2.1).2.1)[b]? = some (ky_recv ms k H.2.1).2.1 from List.getElem?_set_self (List.getElem?_eq_some_iff.mp hk).1)
    rw [hκ] at hκ'
    cases hκ'
    have hlo := zk.lo
    obtain ⟨M3, p3, z3, g3⟩ := h_ers (d := d + 9) z2 zk2.re (by omega) (id := 21) (data := 12) (size := 17) (by omega) (by simp [b4_len]; omega)
    refine ⟨M3, row1, ?_, ?_, (g1.tr g2).tr g3⟩
    · have x1 := z1.ob
      have x2 := z2.ob
      have y1 := (z1.hd a h hh).ob
      obtain ⟨u2, t2⟩ := zk2.fa
      rw [hs] at p1
      have ea : 46 + 5 * a + 3 = 49 + 5 * a := by omega
      rw [ea] at y1
      rw [show nI 21 = 21 from rfl, show nI 12 = 12 from rfl, show nI 17 = 17 from rfl] at p3
      rcases hpv with rfl | ⟨x, rfl⟩ <;> simp (disch := (first | omega | decide)) [s189_0, s189_1, s189_2, s189_5, s189_7, s189_8, s189_9, s189_12, s189_14, s189_16, s189_19, s189_21, s189_24, s189_26, s189_27, s189_29, s189_32, s189_35, s189_36, s189_38, s189_40, s189_42, s189_45, s189_48, s189_49, s189_50, s189_52, s189_55, s189_56, s189_58, s189_61, s189_64, s189_65, s189_68, s189_69, s189_71, s189_74, s189_77, s189_79, s189_80, s189_81, s189_83, s189_86, s189_88, s189_89, s189_90, s189_92, s189_95, s189_97, s189_98, s189_99, s189_101, s189_103, s189_106, s189_109, s189_111, s189_113, s189_114, s189_115, s189_118, s189_120, s189_123, s189_126, s189_127, s189_129, s189_132, s189_134, s189_137, s189_140, s189_141, s189_143, s189_145, s189_147, s189_150, s189_152, s189_154, s189_157, s189_159, s189_160, s189_161, s189_164, s189_165, s189_168, s189_170, s189_172, s189_174, s189_177, s189_179, s189_181, s189_184, s189_185, s189_188, s189_189, s189_191, s189_192, s189_193, s189_194, s189_196, s189_199, s189_200, s189_203, s189_204, s189_205, s189_207, s189_208, s189_210, s189_212, s189_214, s189_216, s189_218, s189_221, s189_223, s189_226, s189_227, s189_230, s189_231, s189_234, s189_235, s189_237, s189_239, s189_241, s189_243, s189_246, s189_248, s189_249, s189_250, s189_253, s189_254, s189_257, s189_259, s189_262, s189_263, s189_266, s189_268, s189_271, s189_273, s189_276, s189_277, s189_279, s189_281, s189_284, s189_286, s189_287, s189_290, s189_293, s189_295, s189_297, s189_300, s189_301, s189_302, s189_304, s189_306, s189_309, s189_312, s189_313, s189_315, s189_318, s189_320, s189_322, s189_324, s189_327, s189_329, mq_k0s, mq_k1s, mq_k2s, mq_k4s, mq_k5s, mq_k5n, mq_k5as, mq_k6s, mj_pu, mj_lo, mj_br, mj_hr, mj_hw, mq_gf, mq_len, mq_al, mq_pf, mq_ok, mj_re, mq_lkm, mq_lkn, mj_ldi, mj_ldl, mj_lda, mj_ii, mj_ll, mj_li, mj_i1, ms_1, ms_2, f1_n, f1_i, f1_r, f1_u, f1_l, f2_n, f2_i, f2_r, f2_u, f2_l, mj_tg, mj_c1, mj_c2, mj_ar, mj_aw, mq_cb, mq_oi, mj_rm, Value.category, -getElem?_pos, List.getElem?_cons_zero, decide_eq_true, decide_eq_false, nl_lt, nl_le, ln_lt, ln_le, nl_eq, ln_eq, nl_add, ln_add, nl_sub, ln_mul, nI_sub, nI_mul, nI_add, nI_lt_iff, nI_le_iff, nI_inj, nI_num, mq_ix, nI_1, nl_mul, nl_div, x0, t0, p1, hs, x1, y1, p2, x2, t2, p3, narrow]
    · have e : (1 : Int32) :: (b4 c' ++ (nI h.2.1.length :: h.2.1)) ++ (((ky_recv ms k H.2.1).2.1.1.1.1.2.drop 21).take 4 ++ (nI 17 :: (((ky_recv ms k H.2.1).2.1.1.1.1.2.drop 12).take 17 ++ ((ky_recv ms k H.2.1).2.1.1.1.1.2.drop 41).take 4))) = rsp 1 c' h.2.1 (ky_recv ms k H.2.1).2.1.1.1.1.2 21 12 17 := by simp [rsp]
      dsimp only at z3
      rw [e] at z3
      exact z3
  · rw [if_neg hs]
    refine ⟨M1, row1, ?_, z1, g1⟩
    rcases hpv with rfl | ⟨x, rfl⟩ <;> simp (disch := (first | omega | decide)) [s189_0, s189_1, s189_2, s189_5, s189_7, s189_8, s189_9, s189_12, s189_14, s189_16, s189_19, s189_21, s189_24, s189_26, s189_27, s189_29, s189_32, s189_35, s189_36, s189_38, s189_40, s189_42, s189_45, s189_48, s189_49, s189_50, s189_52, s189_55, s189_56, s189_58, s189_61, s189_64, s189_65, s189_68, s189_69, s189_71, s189_74, s189_77, s189_79, s189_80, s189_81, s189_83, s189_86, s189_88, s189_89, s189_90, s189_92, s189_95, s189_97, s189_98, s189_99, s189_101, s189_103, s189_106, s189_109, s189_111, s189_113, s189_114, s189_115, s189_118, s189_120, s189_123, s189_126, s189_127, s189_129, s189_132, s189_134, s189_137, s189_140, s189_141, s189_143, s189_145, s189_147, s189_150, s189_152, s189_154, s189_157, s189_159, s189_160, s189_161, s189_164, s189_165, s189_168, s189_170, s189_172, s189_174, s189_177, s189_179, s189_181, s189_184, s189_185, s189_188, s189_189, s189_191, s189_192, s189_193, s189_194, s189_196, s189_199, s189_200, s189_203, s189_204, s189_205, s189_207, s189_208, s189_210, s189_212, s189_214, s189_216, s189_218, s189_221, s189_223, s189_226, s189_227, s189_230, s189_231, s189_234, s189_235, s189_237, s189_239, s189_241, s189_243, s189_246, s189_248, s189_249, s189_250, s189_253, s189_254, s189_257, s189_259, s189_262, s189_263, s189_266, s189_268, s189_271, s189_273, s189_276, s189_277, s189_279, s189_281, s189_284, s189_286, s189_287, s189_290, s189_293, s189_295, s189_297, s189_300, s189_301, s189_302, s189_304, s189_306, s189_309, s189_312, s189_313, s189_315, s189_318, s189_320, s189_322, s189_324, s189_327, s189_329, mq_k0s, mq_k1s, mq_k2s, mq_k4s, mq_k5s, mq_k5n, mq_k5as, mq_k6s, mj_pu, mj_lo, mj_br, mj_hr, mj_hw, mq_gf, mq_len, mq_al, mq_pf, mq_ok, mj_re, mq_lkm, mq_lkn, mj_ldi, mj_ldl, mj_lda, mj_ii, mj_ll, mj_li, mj_i1, ms_1, ms_2, f1_n, f1_i, f1_r, f1_u, f1_l, f2_n, f2_i, f2_r, f2_u, f2_l, mj_tg, mj_c1, mj_c2, mj_ar, mj_aw, mq_cb, mq_oi, mj_rm, Value.category, -getElem?_pos, List.getElem?_cons_zero, decide_eq_true, decide_eq_false, nl_lt, nl_le, ln_lt, ln_le, nl_eq, ln_eq, nl_add, ln_add, nl_sub, ln_mul, nI_sub, nI_mul, nI_add, nI_lt_iff, nI_le_iff, nI_inj, nI_num, mq_ix, nI_1, nl_mul, nl_div, x0, t0, p1, hs, narrow]
/-- hash and mark -/
theorem cr_H (z : hz M H κs πs row) {c c' party how : Int32} {w : Int64} {pv : Value} {κ a mm nn : Nat} {h : Hd} (hh : H.2.2.2.1[a]? = some h) (hl : H.2.1.1.length + 3 < 1000) (hpv : pv = .null ∨ ∃ x, pv = .ref x) : ∃ M' row' mk hash, hash = cl_h h H.2.1 1 c' ∧ nI mk = cl_m h H.2.1 1 c' how ∧ mk ≤ 1000 ∧ hz M' ((H.1, (cl_T h H.2.1 1 c' how, (H.2.2.1, (H.2.2.2.1, H.2.2.2.2)))) : Ho) κs πs row' ∧ hf M M' ∧ ∀ q, mj_Rn (d + 12) mj_m189 143 [(15, .int (nI mk)), (14, .int hash), (13, .int c'), (12, pv), (11, .ref κ), (10, .ref (46 + 5 * a)), (0, .ref 25), (1, .int i), (2, .int l), (3, .int c), (4, .int party), (5, .long w), (7, .int (nI mm)), (8, .int (nI nn)), (9, .int how)] [] M' = some q → mj_Rn (d + 12) mj_m189 97 [(13, .int c'), (12, pv), (11, .ref κ), (10, .ref (46 + 5 * a)), (0, .ref 25), (1, .int i), (2, .int l), (3, .int c), (4, .int party), (5, .long w), (7, .int (nI mm)), (8, .int (nI nn)), (9, .int how)] [] M = some q := by
  have x0 := z.ob
  have ha := z.hj hh
  have y0 := (z.hd a h hh).ob
  obtain ⟨M1, row1, p1, z1, g1⟩ := h_chash (d := d + 7) z hh 1 c' (by omega)
  have x1 := z1.ob
  have y1 := (z1.hd a h hh).ob
  have ea : 46 + 5 * a + 3 = 49 + 5 * a := by omega
  rw [ea] at y0 y1
  have hm1 := tm_mk_len H.2.1 (chRow 1 c' h.2.1)
  by_cases hc : how &&& 2 ≠ 0 ∧ h.2.2.2.2 ≠ 0
  · obtain ⟨c1, c2⟩ := id hc
    obtain ⟨M2, row2, p2, z2, g2⟩ := h_mark (d := d + 7) z1 h.2.2.2.2 (cl_h h H.2.1 1 c') (by show (tm_mk H.2.1 (chRow 1 c' h.2.1)).1.length < 1000; omega)
    have hb := tm_no_b (tm_mk H.2.1 (chRow 1 c' h.2.1)) (mkRow h (cl_h h H.2.1 1 c'))
    refine ⟨M2, row2, tm_no (tm_mk H.2.1 (chRow 1 c' h.2.1)) (mkRow h (cl_h h H.2.1 1 c')), cl_h h H.2.1 1 c', rfl, by unfold cl_m; rw [if_pos hc], by omega, ?_, g1.tr g2, fun q hq => ?_⟩
    · have e : cl_T h H.2.1 1 c' how = tm_mk (tm_mk H.2.1 (chRow 1 c' h.2.1)) (mkRow h (cl_h h H.2.1 1 c')) := by unfold cl_T; rw [if_pos hc]
      rw [e]; exact z2
    · change mj_V (d + 12) 197 [.ref 25, .int h.2.2.2.2, .int (cl_h h H.2.1 1 c')] M1 = some (some (.int (nI (tm_no (tm_mk H.2.1 (chRow 1 c' h.2.1)) (mkRow h (cl_h h H.2.1 1 c'))))), M2) at p2
      rcases hpv with rfl | ⟨x, rfl⟩
      · simp (disch := (first | omega | decide)) [s189_0, s189_1, s189_2, s189_5, s189_7, s189_8, s189_9, s189_12, s189_14, s189_16, s189_19, s189_21, s189_24, s189_26, s189_27, s189_29, s189_32, s189_35, s189_36, s189_38, s189_40, s189_42, s189_45, s189_48, s189_49, s189_50, s189_52, s189_55, s189_56, s189_58, s189_61, s189_64, s189_65, s189_68, s189_69, s189_71, s189_74, s189_77, s189_79, s189_80, s189_81, s189_83, s189_86, s189_88, s189_89, s189_90, s189_92, s189_95, s189_97, s189_98, s189_99, s189_101, s189_103, s189_106, s189_109, s189_111, s189_113, s189_114, s189_115, s189_118, s189_120, s189_123, s189_126, s189_127, s189_129, s189_132, s189_134, s189_137, s189_140, s189_141, s189_145, s189_147, s189_150, s189_152, s189_154, s189_157, s189_159, s189_160, s189_161, s189_164, s189_165, s189_168, s189_170, s189_172, s189_174, s189_177, s189_179, s189_181, s189_184, s189_185, s189_188, s189_189, s189_191, s189_192, s189_193, s189_194, s189_196, s189_199, s189_200, s189_203, s189_204, s189_205, s189_207, s189_208, s189_210, s189_212, s189_214, s189_216, s189_218, s189_221, s189_223, s189_226, s189_227, s189_230, s189_231, s189_234, s189_235, s189_237, s189_239, s189_241, s189_243, s189_246, s189_248, s189_249, s189_250, s189_253, s189_254, s189_257, s189_259, s189_262, s189_263, s189_266, s189_268, s189_271, s189_273, s189_276, s189_277, s189_279, s189_281, s189_284, s189_286, s189_287, s189_290, s189_293, s189_295, s189_297, s189_300, s189_301, s189_302, s189_304, s189_306, s189_309, s189_312, s189_313, s189_315, s189_318, s189_320, s189_322, s189_324, s189_327, s189_329, mq_k0s, mq_k1s, mq_k2s, mq_k4s, mq_k5s, mq_k5n, mq_k5as, mq_k6s, mj_pu, mj_lo, mj_br, mj_hr, mj_hw, mq_gf, mq_len, mq_al, mq_pf, mq_ok, mj_re, mq_lkm, mq_lkn, mj_ldi, mj_ldl, mj_lda, mj_ii, mj_ll, mj_li, mj_i1, ms_1, ms_2, f1_n, f1_i, f1_r, f1_u, f1_l, f2_n, f2_i, f2_r, f2_u, f2_l, mj_tg, mj_c1, mj_c2, mj_ar, mj_aw, mq_cb, mq_oi, mj_rm, Value.category, -getElem?_pos, List.getElem?_cons_zero, decide_eq_true, decide_eq_false, nl_lt, nl_le, ln_lt, ln_le, nl_eq, ln_eq, nl_add, ln_add, nl_sub, ln_mul, nI_sub, nI_mul, nI_add, nI_lt_iff, nI_le_iff, nI_inj, nI_num, mq_ix, nI_1, nl_mul, nl_div, x0, y0, p1, c1, c2, x1, y1, p2]
        exact hq
      · simp (disch := (first | omega | decide)) [s189_0, s189_1, s189_2, s189_5, s189_7, s189_8, s189_9, s189_12, s189_14, s189_16, s189_19, s189_21, s189_24, s189_26, s189_27, s189_29, s189_32, s189_35, s189_36, s189_38, s189_40, s189_42, s189_45, s189_48, s189_49, s189_50, s189_52, s189_55, s189_56, s189_58, s189_61, s189_64, s189_65, s189_68, s189_69, s189_71, s189_74, s189_77, s189_79, s189_80, s189_81, s189_83, s189_86, s189_88, s189_89, s189_90, s189_92, s189_95, s189_97, s189_98, s189_99, s189_101, s189_103, s189_106, s189_109, s189_111, s189_113, s189_114, s189_115, s189_118, s189_120, s189_123, s189_126, s189_127, s189_129, s189_132, s189_134, s189_137, s189_140, s189_141, s189_145, s189_147, s189_150, s189_152, s189_154, s189_157, s189_159, s189_160, s189_161, s189_164, s189_165, s189_168, s189_170, s189_172, s189_174, s189_177, s189_179, s189_181, s189_184, s189_185, s189_188, s189_189, s189_191, s189_192, s189_193, s189_194, s189_196, s189_199, s189_200, s189_203, s189_204, s189_205, s189_207, s189_208, s189_210, s189_212, s189_214, s189_216, s189_218, s189_221, s189_223, s189_226, s189_227, s189_230, s189_231, s189_234, s189_235, s189_237, s189_239, s189_241, s189_243, s189_246, s189_248, s189_249, s189_250, s189_253, s189_254, s189_257, s189_259, s189_262, s189_263, s189_266, s189_268, s189_271, s189_273, s189_276, s189_277, s189_279, s189_281, s189_284, s189_286, s189_287, s189_290, s189_293, s189_295, s189_297, s189_300, s189_301, s189_302, s189_304, s189_306, s189_309, s189_312, s189_313, s189_315, s189_318, s189_320, s189_322, s189_324, s189_327, s189_329, mq_k0s, mq_k1s, mq_k2s, mq_k4s, mq_k5s, mq_k5n, mq_k5as, mq_k6s, mj_pu, mj_lo, mj_br, mj_hr, mj_hw, mq_gf, mq_len, mq_al, mq_pf, mq_ok, mj_re, mq_lkm, mq_lkn, mj_ldi, mj_ldl, mj_lda, mj_ii, mj_ll, mj_li, mj_i1, ms_1, ms_2, f1_n, f1_i, f1_r, f1_u, f1_l, f2_n, f2_i, f2_r, f2_u, f2_l, mj_tg, mj_c1, mj_c2, mj_ar, mj_aw, mq_cb, mq_oi, mj_rm, Value.category, -getElem?_pos, List.getElem?_cons_zero, decide_eq_true, decide_eq_false, nl_lt, nl_le, ln_lt, ln_le, nl_eq, ln_eq, nl_add, ln_add, nl_sub, ln_mul, nI_sub, nI_mul, nI_add, nI_lt_iff, nI_le_iff, nI_inj, nI_num, mq_ix, nI_1, nl_mul, nl_div, x0, y0, p1, c1, c2, x1, y1, p2]
        exact hq
  · refine ⟨M1, row1, 0, cl_h h H.2.1 1 c', rfl, by unfold cl_m; rw [if_neg hc, nI_0], by omega, ?_, g1, fun q hq => ?_⟩
    · have e : cl_T h H.2.1 1 c' how = tm_mk H.2.1 (chRow 1 c' h.2.1) := by unfold cl_T; rw [if_neg hc]
      rw [e]; exact z1
    · rw [nI_0] at hq
      by_cases c1 : how &&& 2 = 0
      · rcases hpv with rfl | ⟨x, rfl⟩
        · simp (disch := (first | omega | decide)) [s189_0, s189_1, s189_2, s189_5, s189_7, s189_8, s189_9, s189_12, s189_14, s189_16, s189_19, s189_21, s189_24, s189_26, s189_27, s189_29, s189_32, s189_35, s189_36, s189_38, s189_40, s189_42, s189_45, s189_48, s189_49, s189_50, s189_52, s189_55, s189_56, s189_58, s189_61, s189_64, s189_65, s189_68, s189_69, s189_71, s189_74, s189_77, s189_79, s189_80, s189_81, s189_83, s189_86, s189_88, s189_89, s189_90, s189_92, s189_95, s189_97, s189_98, s189_99, s189_101, s189_103, s189_106, s189_109, s189_111, s189_113, s189_114, s189_115, s189_118, s189_120, s189_123, s189_126, s189_127, s189_129, s189_132, s189_134, s189_137, s189_140, s189_141, s189_145, s189_147, s189_150, s189_152, s189_154, s189_157, s189_159, s189_160, s189_161, s189_164, s189_165, s189_168, s189_170, s189_172, s189_174, s189_177, s189_179, s189_181, s189_184, s189_185, s189_188, s189_189, s189_191, s189_192, s189_193, s189_194, s189_196, s189_199, s189_200, s189_203, s189_204, s189_205, s189_207, s189_208, s189_210, s189_212, s189_214, s189_216, s189_218, s189_221, s189_223, s189_226, s189_227, s189_230, s189_231, s189_234, s189_235, s189_237, s189_239, s189_241, s189_243, s189_246, s189_248, s189_249, s189_250, s189_253, s189_254, s189_257, s189_259, s189_262, s189_263, s189_266, s189_268, s189_271, s189_273, s189_276, s189_277, s189_279, s189_281, s189_284, s189_286, s189_287, s189_290, s189_293, s189_295, s189_297, s189_300, s189_301, s189_302, s189_304, s189_306, s189_309, s189_312, s189_313, s189_315, s189_318, s189_320, s189_322, s189_324, s189_327, s189_329, mq_k0s, mq_k1s, mq_k2s, mq_k4s, mq_k5s, mq_k5n, mq_k5as, mq_k6s, mj_pu, mj_lo, mj_br, mj_hr, mj_hw, mq_gf, mq_len, mq_al, mq_pf, mq_ok, mj_re, mq_lkm, mq_lkn, mj_ldi, mj_ldl, mj_lda, mj_ii, mj_ll, mj_li, mj_i1, ms_1, ms_2, f1_n, f1_i, f1_r, f1_u, f1_l, f2_n, f2_i, f2_r, f2_u, f2_l, mj_tg, mj_c1, mj_c2, mj_ar, mj_aw, mq_cb, mq_oi, mj_rm, Value.category, -getElem?_pos, List.getElem?_cons_zero, decide_eq_true, decide_eq_false, nl_lt, nl_le, ln_lt, ln_le, nl_eq, ln_eq, nl_add, ln_add, nl_sub, ln_mul, nI_sub, nI_mul, nI_add, nI_lt_iff, nI_le_iff, nI_inj, nI_num, mq_ix, nI_1, nl_mul, nl_div, x0, y0, p1, c1]
          exact hq
        · simp (disch := (first | omega | decide)) [s189_0, s189_1, s189_2, s189_5, s189_7, s189_8, s189_9, s189_12, s189_14, s189_16, s189_19, s189_21, s189_24, s189_26, s189_27, s189_29, s189_32, s189_35, s189_36, s189_38, s189_40, s189_42, s189_45, s189_48, s189_49, s189_50, s189_52, s189_55, s189_56, s189_58, s189_61, s189_64, s189_65, s189_68, s189_69, s189_71, s189_74, s189_77, s189_79, s189_80, s189_81, s189_83, s189_86, s189_88, s189_89, s189_90, s189_92, s189_95, s189_97, s189_98, s189_99, s189_101, s189_103, s189_106, s189_109, s189_111, s189_113, s189_114, s189_115, s189_118, s189_120, s189_123, s189_126, s189_127, s189_129, s189_132, s189_134, s189_137, s189_140, s189_141, s189_145, s189_147, s189_150, s189_152, s189_154, s189_157, s189_159, s189_160, s189_161, s189_164, s189_165, s189_168, s189_170, s189_172, s189_174, s189_177, s189_179, s189_181, s189_184, s189_185, s189_188, s189_189, s189_191, s189_192, s189_193, s189_194, s189_196, s189_199, s189_200, s189_203, s189_204, s189_205, s189_207, s189_208, s189_210, s189_212, s189_214, s189_216, s189_218, s189_221, s189_223, s189_226, s189_227, s189_230, s189_231, s189_234, s189_235, s189_237, s189_239, s189_241, s189_243, s189_246, s189_248, s189_249, s189_250, s189_253, s189_254, s189_257, s189_259, s189_262, s189_263, s189_266, s189_268, s189_271, s189_273, s189_276, s189_277, s189_279, s189_281, s189_284, s189_286, s189_287, s189_290, s189_293, s189_295, s189_297, s189_300, s189_301, s189_302, s189_304, s189_306, s189_309, s189_312, s189_313, s189_315, s189_318, s189_320, s189_322, s189_324, s189_327, s189_329, mq_k0s, mq_k1s, mq_k2s, mq_k4s, mq_k5s, mq_k5n, mq_k5as, mq_k6s, mj_pu, mj_lo, mj_br, mj_hr, mj_hw, mq_gf, mq_len, mq_al, mq_pf, mq_ok, mj_re, mq_lkm, mq_lkn, mj_ldi, mj_ldl, mj_lda, mj_ii, mj_ll, mj_li, mj_i1, ms_1, ms_2, f1_n, f1_i, f1_r, f1_u, f1_l, f2_n, f2_i, f2_r, f2_u, f2_l, mj_tg, mj_c1, mj_c2, mj_ar, mj_aw, mq_cb, mq_oi, mj_rm, Value.category, -getElem?_pos, List.getElem?_cons_zero, decide_eq_true, decide_eq_false, nl_lt, nl_le, ln_lt, ln_le, nl_eq, ln_eq, nl_add, ln_add, nl_sub, ln_mul, nI_sub, nI_mul, nI_add, nI_lt_iff, nI_le_iff, nI_inj, nI_num, mq_ix, nI_1, nl_mul, nl_div, x0, y0, p1, c1]
          exact hq
      · have c2 : h.2.2.2.2 = 0 := Decidable.of_not_not (fun c2 => hc ⟨c1, c2⟩)
        rcases hpv with rfl | ⟨x, rfl⟩
        · simp (disch := (first | omega | decide)) [s189_0, s189_1, s189_2, s189_5, s189_7, s189_8, s189_9, s189_12, s189_14, s189_16, s189_19, s189_21, s189_24, s189_26, s189_27, s189_29, s189_32, s189_35, s189_36, s189_38, s189_40, s189_42, s189_45, s189_48, s189_49, s189_50, s189_52, s189_55, s189_56, s189_58, s189_61, s189_64, s189_65, s189_68, s189_69, s189_71, s189_74, s189_77, s189_79, s189_80, s189_81, s189_83, s189_86, s189_88, s189_89, s189_90, s189_92, s189_95, s189_97, s189_98, s189_99, s189_101, s189_103, s189_106, s189_109, s189_111, s189_113, s189_114, s189_115, s189_118, s189_120, s189_123, s189_126, s189_127, s189_129, s189_132, s189_134, s189_137, s189_140, s189_141, s189_145, s189_147, s189_150, s189_152, s189_154, s189_157, s189_159, s189_160, s189_161, s189_164, s189_165, s189_168, s189_170, s189_172, s189_174, s189_177, s189_179, s189_181, s189_184, s189_185, s189_188, s189_189, s189_191, s189_192, s189_193, s189_194, s189_196, s189_199, s189_200, s189_203, s189_204, s189_205, s189_207, s189_208, s189_210, s189_212, s189_214, s189_216, s189_218, s189_221, s189_223, s189_226, s189_227, s189_230, s189_231, s189_234, s189_235, s189_237, s189_239, s189_241, s189_243, s189_246, s189_248, s189_249, s189_250, s189_253, s189_254, s189_257, s189_259, s189_262, s189_263, s189_266, s189_268, s189_271, s189_273, s189_276, s189_277, s189_279, s189_281, s189_284, s189_286, s189_287, s189_290, s189_293, s189_295, s189_297, s189_300, s189_301, s189_302, s189_304, s189_306, s189_309, s189_312, s189_313, s189_315, s189_318, s189_320, s189_322, s189_324, s189_327, s189_329, mq_k0s, mq_k1s, mq_k2s, mq_k4s, mq_k5s, mq_k5n, mq_k5as, mq_k6s, mj_pu, mj_lo, mj_br, mj_hr, mj_hw, mq_gf, mq_len, mq_al, mq_pf, mq_ok, mj_re, mq_lkm, mq_lkn, mj_ldi, mj_ldl, mj_lda, mj_ii, mj_ll, mj_li, mj_i1, ms_1, ms_2, f1_n, f1_i, f1_r, f1_u, f1_l, f2_n, f2_i, f2_r, f2_u, f2_l, mj_tg, mj_c1, mj_c2, mj_ar, mj_aw, mq_cb, mq_oi, mj_rm, Value.category, -getElem?_pos, List.getElem?_cons_zero, decide_eq_true, decide_eq_false, nl_lt, nl_le, ln_lt, ln_le, nl_eq, ln_eq, nl_add, ln_add, nl_sub, ln_mul, nI_sub, nI_mul, nI_add, nI_lt_iff, nI_le_iff, nI_inj, nI_num, mq_ix, nI_1, nl_mul, nl_div, x0, y0, p1, c1, x1, y1, c2]
          exact hq
        · simp (disch := (first | omega | decide)) [s189_0, s189_1, s189_2, s189_5, s189_7, s189_8, s189_9, s189_12, s189_14, s189_16, s189_19, s189_21, s189_24, s189_26, s189_27, s189_29, s189_32, s189_35, s189_36, s189_38, s189_40, s189_42, s189_45, s189_48, s189_49, s189_50, s189_52, s189_55, s189_56, s189_58, s189_61, s189_64, s189_65, s189_68, s189_69, s189_71, s189_74, s189_77, s189_79, s189_80, s189_81, s189_83, s189_86, s189_88, s189_89, s189_90, s189_92, s189_95, s189_97, s189_98, s189_99, s189_101, s189_103, s189_106, s189_109, s189_111, s189_113, s189_114, s189_115, s189_118, s189_120, s189_123, s189_126, s189_127, s189_129, s189_132, s189_134, s189_137, s189_140, s189_141, s189_145, s189_147, s189_150, s189_152, s189_154, s189_157, s189_159, s189_160, s189_161, s189_164, s189_165, s189_168, s189_170, s189_172, s189_174, s189_177, s189_179, s189_181, s189_184, s189_185, s189_188, s189_189, s189_191, s189_192, s189_193, s189_194, s189_196, s189_199, s189_200, s189_203, s189_204, s189_205, s189_207, s189_208, s189_210, s189_212, s189_214, s189_216, s189_218, s189_221, s189_223, s189_226, s189_227, s189_230, s189_231, s189_234, s189_235, s189_237, s189_239, s189_241, s189_243, s189_246, s189_248, s189_249, s189_250, s189_253, s189_254, s189_257, s189_259, s189_262, s189_263, s189_266, s189_268, s189_271, s189_273, s189_276, s189_277, s189_279, s189_281, s189_284, s189_286, s189_287, s189_290, s189_293, s189_295, s189_297, s189_300, s189_301, s189_302, s189_304, s189_306, s189_309, s189_312, s189_313, s189_315, s189_318, s189_320, s189_322, s189_324, s189_327, s189_329, mq_k0s, mq_k1s, mq_k2s, mq_k4s, mq_k5s, mq_k5n, mq_k5as, mq_k6s, mj_pu, mj_lo, mj_br, mj_hr, mj_hw, mq_gf, mq_len, mq_al, mq_pf, mq_ok, mj_re, mq_lkm, mq_lkn, mj_ldi, mj_ldl, mj_lda, mj_ii, mj_ll, mj_li, mj_i1, ms_1, ms_2, f1_n, f1_i, f1_r, f1_u, f1_l, f2_n, f2_i, f2_r, f2_u, f2_l, mj_tg, mj_c1, mj_c2, mj_ar, mj_aw, mq_cb, mq_oi, mj_rm, Value.category, -getElem?_pos, List.getElem?_cons_zero, decide_eq_true, decide_eq_false, nl_lt, nl_le, ln_lt, ln_le, nl_eq, ln_eq, nl_add, ln_add, nl_sub, ln_mul, nI_sub, nI_mul, nI_add, nI_lt_iff, nI_le_iff, nI_inj, nI_num, mq_ix, nI_1, nl_mul, nl_div, x0, y0, p1, c1, x1, y1, c2]
          exact hq
/-- the accounts that the message lists -/
theorem cr_L (z : hz M H κs πs row) {c c' party how hash : Int32} {w : Int64} {pv : Value} {po : Option Pa} {κ a mm nn mk : Nat} (hm8 : 1 ≤ mm ∧ mm ≤ 8) (hpv : pv_ok H πs pv po) (hoA : ∀ p ∈ H.2.2.2.2, okA p) (hu : u = bt_low w mm) {LL : List Ac} (hLL : LL = if how &&& 4 ≠ 0 then [] else acOf po u) : ∀ q, mj_Rn (d + 12) mj_m189 179 [(8, .int (nI nn)), (18, .int (nI LL.length)), (16, .long (bt_lo u)), (15, .int (nI mk)), (14, .int hash), (13, .int c'), (12, pv), (11, .ref κ), (10, .ref (46 + 5 * a)), (0, .ref 25), (7, .int (nI u.length)), (9, .int how)] [] M = some q → mj_Rn (d + 12) mj_m189 143 [(15, .int (nI mk)), (14, .int hash), (13, .int c'), (12, pv), (11, .ref κ), (10, .ref (46 + 5 * a)), (0, .ref 25), (1, .int i), (2, .int l), (3, .int c), (4, .int party), (5, .long w), (7, .int (nI mm)), (8, .int (nI nn)), (9, .int how)] [] M = some q := by
  intro q hq
  have v0 := j_lowest (d := d + 11) (M := M) w hm8
  have hul : u.length = mm := by rw [hu, bt_low_len]
  have h8 : ∀ v ∈ u, v &&& 255 = v := by rw [hu]; exact bt_low_by _ _
  rw [← hu] at v0
  rcases hpv.h with ⟨rfl, rfl⟩ | ⟨j, π, p, rfl, rfl, hp, hπ⟩
  · have hE : LL = [] := by rw [hLL]; split <;> rfl
    subst hE
    simp only [List.length_nil, nI_0, hul] at hq
    simp (disch := (first | omega | decide)) [s189_0, s189_1, s189_2, s189_5, s189_7, s189_8, s189_9, s189_12, s189_14, s189_16, s189_19, s189_21, s189_24, s189_26, s189_27, s189_29, s189_32, s189_35, s189_36, s189_38, s189_40, s189_42, s189_45, s189_48, s189_49, s189_50, s189_52, s189_55, s189_56, s189_58, s189_61, s189_64, s189_65, s189_68, s189_69, s189_71, s189_74, s189_77, s189_79, s189_80, s189_81, s189_83, s189_86, s189_88, s189_89, s189_90, s189_92, s189_95, s189_97, s189_98, s189_99, s189_101, s189_103, s189_106, s189_109, s189_111, s189_113, s189_114, s189_115, s189_118, s189_120, s189_123, s189_126, s189_127, s189_129, s189_132, s189_134, s189_137, s189_140, s189_141, s189_143, s189_145, s189_147, s189_150, s189_152, s189_154, s189_157, s189_159, s189_160, s189_161, s189_164, s189_165, s189_168, s189_170, s189_172, s189_174, s189_177, s189_181, s189_184, s189_185, s189_188, s189_189, s189_191, s189_192, s189_193, s189_194, s189_196, s189_199, s189_200, s189_203, s189_204, s189_205, s189_207, s189_208, s189_210, s189_212, s189_214, s189_216, s189_218, s189_221, s189_223, s189_226, s189_227, s189_230, s189_231, s189_234, s189_235, s189_237, s189_239, s189_241, s189_243, s189_246, s189_248, s189_249, s189_250, s189_253, s189_254, s189_257, s189_259, s189_262, s189_263, s189_266, s189_268, s189_271, s189_273, s189_276, s189_277, s189_279, s189_281, s189_284, s189_286, s189_287, s189_290, s189_293, s189_295, s189_297, s189_300, s189_301, s189_302, s189_304, s189_306, s189_309, s189_312, s189_313, s189_315, s189_318, s189_320, s189_322, s189_324, s189_327, s189_329, mq_k0s, mq_k1s, mq_k2s, mq_k4s, mq_k5s, mq_k5n, mq_k5as, mq_k6s, mj_pu, mj_lo, mj_br, mj_hr, mj_hw, mq_gf, mq_len, mq_al, mq_pf, mq_ok, mj_re, mq_lkm, mq_lkn, mj_ldi, mj_ldl, mj_lda, mj_ii, mj_ll, mj_li, mj_i1, ms_1, ms_2, f1_n, f1_i, f1_r, f1_u, f1_l, f2_n, f2_i, f2_r, f2_u, f2_l, mj_tg, mj_c1, mj_c2, mj_ar, mj_aw, mq_cb, mq_oi, mj_rm, Value.category, -getElem?_pos, List.getElem?_cons_zero, decide_eq_true, decide_eq_false, nl_lt, nl_le, ln_lt, ln_le, nl_eq, ln_eq, nl_add, ln_add, nl_sub, ln_mul, nI_sub, nI_mul, nI_add, nI_lt_iff, nI_le_iff, nI_inj, nI_num, mq_ix, nI_1, nl_mul, nl_div, v0]
    refine mq_wk ?_ hq
    simp [mq_sub, mj_lk]
  · have hpz := z.py j p π hp hπ
    have xp := hpz.ob
    have v1 := j_accs (d := d + 10) hpz (hoA p (List.mem_of_getElem? hp)) h8 (by omega)
    rw [hul] at v1
    by_cases h4 : how &&& 4 = 0
    · have hE : LL = acF p u := by rw [hLL, if_neg (by simp [h4])]; rfl
      subst hE
      rw [hul] at hq
      simp (disch := (first | omega | decide)) [s189_0, s189_1, s189_2, s189_5, s189_7, s189_8, s189_9, s189_12, s189_14, s189_16, s189_19, s189_21, s189_24, s189_26, s189_27, s189_29, s189_32, s189_35, s189_36, s189_38, s189_40, s189_42, s189_45, s189_48, s189_49, s189_50, s189_52, s189_55, s189_56, s189_58, s189_61, s189_64, s189_65, s189_68, s189_69, s189_71, s189_74, s189_77, s189_79, s189_80, s189_81, s189_83, s189_86, s189_88, s189_89, s189_90, s189_92, s189_95, s189_97, s189_98, s189_99, s189_101, s189_103, s189_106, s189_109, s189_111, s189_113, s189_114, s189_115, s189_118, s189_120, s189_123, s189_126, s189_127, s189_129, s189_132, s189_134, s189_137, s189_140, s189_141, s189_143, s189_145, s189_147, s189_150, s189_152, s189_154, s189_157, s189_159, s189_160, s189_161, s189_164, s189_165, s189_168, s189_170, s189_172, s189_174, s189_177, s189_181, s189_184, s189_185, s189_188, s189_189, s189_191, s189_192, s189_193, s189_194, s189_196, s189_199, s189_200, s189_203, s189_204, s189_205, s189_207, s189_208, s189_210, s189_212, s189_214, s189_216, s189_218, s189_221, s189_223, s189_226, s189_227, s189_230, s189_231, s189_234, s189_235, s189_237, s189_239, s189_241, s189_243, s189_246, s189_248, s189_249, s189_250, s189_253, s189_254, s189_257, s189_259, s189_262, s189_263, s189_266, s189_268, s189_271, s189_273, s189_276, s189_277, s189_279, s189_281, s189_284, s189_286, s189_287, s189_290, s189_293, s189_295, s189_297, s189_300, s189_301, s189_302, s189_304, s189_306, s189_309, s189_312, s189_313, s189_315, s189_318, s189_320, s189_322, s189_324, s189_327, s189_329, mq_k0s, mq_k1s, mq_k2s, mq_k4s, mq_k5s, mq_k5n, mq_k5as, mq_k6s, mj_pu, mj_lo, mj_br, mj_hr, mj_hw, mq_gf, mq_len, mq_al, mq_pf, mq_ok, mj_re, mq_lkm, mq_lkn, mj_ldi, mj_ldl, mj_lda, mj_ii, mj_ll, mj_li, mj_i1, ms_1, ms_2, f1_n, f1_i, f1_r, f1_u, f1_l, f2_n, f2_i, f2_r, f2_u, f2_l, mj_tg, mj_c1, mj_c2, mj_ar, mj_aw, mq_cb, mq_oi, mj_rm, Value.category, -getElem?_pos, List.getElem?_cons_zero, decide_eq_true, decide_eq_false, nl_lt, nl_le, ln_lt, ln_le, nl_eq, ln_eq, nl_add, ln_add, nl_sub, ln_mul, nI_sub, nI_mul, nI_add, nI_lt_iff, nI_le_iff, nI_inj, nI_num, mq_ix, nI_1, nl_mul, nl_div, v0, h4, xp, v1]
      refine mq_wk ?_ hq
      simp [mq_sub, mj_lk]
    · have hE : LL = [] := by rw [hLL, if_pos h4]
      subst hE
      simp only [List.length_nil, nI_0, hul] at hq
      simp (disch := (first | omega | decide)) [s189_0, s189_1, s189_2, s189_5, s189_7, s189_8, s189_9, s189_12, s189_14, s189_16, s189_19, s189_21, s189_24, s189_26, s189_27, s189_29, s189_32, s189_35, s189_36, s189_38, s189_40, s189_42, s189_45, s189_48, s189_49, s189_50, s189_52, s189_55, s189_56, s189_58, s189_61, s189_64, s189_65, s189_68, s189_69, s189_71, s189_74, s189_77, s189_79, s189_80, s189_81, s189_83, s189_86, s189_88, s189_89, s189_90, s189_92, s189_95, s189_97, s189_98, s189_99, s189_101, s189_103, s189_106, s189_109, s189_111, s189_113, s189_114, s189_115, s189_118, s189_120, s189_123, s189_126, s189_127, s189_129, s189_132, s189_134, s189_137, s189_140, s189_141, s189_143, s189_145, s189_147, s189_150, s189_152, s189_154, s189_157, s189_159, s189_160, s189_161, s189_164, s189_165, s189_168, s189_170, s189_172, s189_174, s189_177, s189_181, s189_184, s189_185, s189_188, s189_189, s189_191, s189_192, s189_193, s189_194, s189_196, s189_199, s189_200, s189_203, s189_204, s189_205, s189_207, s189_208, s189_210, s189_212, s189_214, s189_216, s189_218, s189_221, s189_223, s189_226, s189_227, s189_230, s189_231, s189_234, s189_235, s189_237, s189_239, s189_241, s189_243, s189_246, s189_248, s189_249, s189_250, s189_253, s189_254, s189_257, s189_259, s189_262, s189_263, s189_266, s189_268, s189_271, s189_273, s189_276, s189_277, s189_279, s189_281, s189_284, s189_286, s189_287, s189_290, s189_293, s189_295, s189_297, s189_300, s189_301, s189_302, s189_304, s189_306, s189_309, s189_312, s189_313, s189_315, s189_318, s189_320, s189_322, s189_324, s189_327, s189_329, mq_k0s, mq_k1s, mq_k2s, mq_k4s, mq_k5s, mq_k5n, mq_k5as, mq_k6s, mj_pu, mj_lo, mj_br, mj_hr, mj_hw, mq_gf, mq_len, mq_al, mq_pf, mq_ok, mj_re, mq_lkm, mq_lkn, mj_ldi, mj_ldl, mj_lda, mj_ii, mj_ll, mj_li, mj_i1, ms_1, ms_2, f1_n, f1_i, f1_r, f1_u, f1_l, f2_n, f2_i, f2_r, f2_u, f2_l, mj_tg, mj_c1, mj_c2, mj_ar, mj_aw, mq_cb, mq_oi, mj_rm, Value.category, -getElem?_pos, List.getElem?_cons_zero, decide_eq_true, decide_eq_false, nl_lt, nl_le, ln_lt, ln_le, nl_eq, ln_eq, nl_add, ln_add, nl_sub, ln_mul, nI_sub, nI_mul, nI_add, nI_lt_iff, nI_le_iff, nI_inj, nI_num, mq_ix, nI_1, nl_mul, nl_div, v0, h4]
      refine mq_wk ?_ hq
      simp [mq_sub, mj_lk]
end HZ
end
/- 9m.he -/
section
set_option maxRecDepth 512
/-! Class: the house: create. -/
theorem fitA_ok {H : Ho} {party m n : Int32} (h : fitA H party m n = true) : ∃ mm nn : Nat, m = nI mm ∧ n = nI nn ∧ m.toNatClampNeg = mm ∧ n.toNatClampNeg = nn ∧ (1 ≤ mm ∧ mm ≤ 8) ∧ (1 ≤ nn ∧ nn ≤ 24) ∧ nn ≤ H.1.length := by
  unfold fitA at h
  simp only [Bool.and_eq_true, decide_eq_true_eq] at h
  obtain ⟨-, h1, h2, h3⟩ := h
  obtain ⟨mm, rfl, a1, a2, a3⟩ := inR_nI (a := 1) (b := 8) h1 (by decide) (by decide)
  obtain ⟨nn, rfl, b1, b2, b3⟩ := inR_nI (a := 1) (b := 24) h2 (by decide) (by decide)
  rw [b3] at h3
  exact ⟨mm, nn, rfl, rfl, a3, b3, ⟨a1, a2⟩, ⟨b1, b2⟩, h3⟩
theorem mk_msg (hash mark how : Int32) (name u : List Int32) (l : List Ac) {mk Sm : Nat} (hmk : nI mk = mark) (hm0 : mk ≤ 1000) (hS : (if !l.isEmpty then 1 else 0) + ((if !decide (how &&& 1 = 0) then 1 else 0) + (if !decide (mk = 0) then 2 else 0)) = Sm) : bmMsg hash name u (nI (164 + Sm)) ++ (acMsg 5 l ++ ((if how &&& 1 = 0 then [] else [7, 161, 98, 114, 107, 245]) ++ mrkM (nI mk) 8 9)) = mkMsg hash mark name u l how := by
  have hh : nI (164 + Sm) = 164 + (if l = [] then 0 else 1) + (how &&& 1) + (if mark = 0 then 0 else 2) := by
    have hl : (l = []) ↔ l.isEmpty = true := by cases l <;> simp
    have hmz : (mark = 0) ↔ mk = 0 := by
      rw [← hmk]; exact nl_eq (a := mk) (n := 0) (by omega) rfl
    rw [← hS]
    simp only [hl, hmz]
    cases l.isEmpty <;> rcases and1 how with h1 | h1 <;> by_cases h0 : mk = 0 <;> simp [h1, h0] <;> rfl
  unfold bmMsg mkMsg mrkM
  rw [hmk, hh]
  simp
section HZ
variable {M M' : mj_H} {H H' : Ho} {κs πs : List Nat} {row row' ms : List Int32} {d : Nat} {i l : Int32} {π : Nat} {p : Pa} {u : List Int32}
theorem cl_T_len (h : Hd) (T : Tm) (k c how : Int32) : (cl_T h T k c how).1.length ≤ T.1.length + 2 := by
  unfold cl_T
  have h1 := tm_mk_len T (chRow k c h.2.1)
  split
  · have h2 := tm_mk_len (tm_mk T (chRow k c h.2.1)) (mkRow h (cl_h h T k c))
    omega
  · omega
theorem cr_80 (z : hz M H κs πs row) {c party how : Int32} {w : Int64} {κ a b mm nn : Nat} {h : Hd} {k : Ky} (hh : H.2.2.2.1[a]? = some h) (hk : H.2.2.1[b]? = some k) (hκ : κs[b]? = some κ) (hkg : kg k) (hl : H.2.1.1.length + 20 < 1000) (hoA : ∀ p ∈ H.2.2.2.2, okA p) (hm8 : 1 ≤ mm ∧ mm ≤ 8) (hn : 1 ≤ nn ∧ nn ≤ 24) (hnt : nn ≤ H.1.length) {q : Int32 × Ky × Tm}
    (hq : q = ky_recv (mkMsg (cl_h h H.2.1 1 (chOf c (pOf H party))) (cl_m h H.2.1 1 (chOf c (pOf H party)) how) (H.1.take nn) (bt_low w mm) (if how &&& 4 ≠ 0 then [] else acOf (pOf H party) (bt_low w mm)) how) k (cl_T h H.2.1 1 (chOf c (pOf H party)) how)) :
    ∃ M' row', mj_Rn (d + 12) mj_m189 80 [(11, .ref κ), (10, .ref (46 + 5 * a)), (0, .ref 25), (1, .int i), (2, .int l), (3, .int c), (4, .int party), (5, .long w), (7, .int (nI mm)), (8, .int (nI nn)), (9, .int how)] [] M = some (some (.int q.1), M') ∧ hz M' ((if q.1 = 0 then rsp 1 (chOf c (pOf H party)) h.2.1 q.2.1.1.1.1.2 21 12 17 else H.1, ((H.kt b q.2).2.1, ((H.kt b q.2).2.2.1, ((H.kt b q.2).2.2.2.1, (H.kt b q.2).2.2.2.2)))) : Ho) κs πs row' ∧ hf M M' := by
  have x0 := z.ob
  obtain ⟨pv, v0, hpv⟩ := h_par (d := d + 11) z party
  have v1 := h_chal (d := d + 10) z hpv c
  have hsh := hpv.sh
  generalize hpo : pOf H party = po at *
  generalize hc' : chOf c po = c' at *
  obtain ⟨M1, row1, mk, hash, e1, e2, hmk, z1, g1, q1⟩ := cr_H (i := i) (l := l) (d := d) (c := c) (c' := c') (party := party) (how := how) (w := w) (pv := pv) (κ := κ) (mm := mm) (nn := nn) z hh (by omega) hsh
  have hpv1 : pv_ok ((H.1, (cl_T h H.2.1 1 c' how, (H.2.2.1, (H.2.2.2.1, H.2.2.2.2)))) : Ho) πs pv po := (pv_ok_mk_ hpv.h)
  have hul : 1 ≤ (bt_low w mm).length ∧ (bt_low w mm).length ≤ 8 := by rw [bt_low_len]; exact hm8
  have hL := cr_L (i := i) (l := l) (d := d) (c := c) (c' := c') (party := party) (how := how) (hash := hash) (w := w) (κ := κ) (a := a) (mm := mm) (nn := nn) (mk := mk) z1 hm8 hpv1 hoA (u := bt_low w mm) rfl (LL := if how &&& 4 ≠ 0 then [] else acOf po (bt_low w mm)) rfl
  have h8 : ∀ v ∈ bt_low w mm, v &&& 255 = v := bt_low_by _ _
  have hLL : (if how &&& 4 ≠ 0 then [] else acOf po (bt_low w mm)) = [] ∨ (if how &&& 4 ≠ 0 then [] else acOf po (bt_low w mm)) = acOf po (bt_low w mm) := by
    split
    · exact Or.inl rfl
    · exact Or.inr rfl
  have hL8 : (if how &&& 4 ≠ 0 then [] else acOf po (bt_low w mm)).length ≤ 8 := by
    rcases hLL with e | e
    · rw [e]; simp
    · rw [e]
      rcases hpv.h with ⟨-, rfl⟩ | ⟨j, π, p, -, rfl, hp, hπ⟩
      · simp [acOf]
      · have := (z.py j p π hp hπ).l8
        have := acF_le (p := p) (u := bt_low w mm)
        show (acF p (bt_low w mm)).length ≤ 8
        omega
  generalize hU : bt_low w mm = u at *
  generalize hLg : (if how &&& 4 ≠ 0 then [] else acOf po u) = LL at *
  obtain ⟨Sm, hS⟩ : ∃ Sm : Nat, (if !LL.isEmpty then 1 else 0) + ((if !decide (how &&& 1 = 0) then 1 else 0) + (if !decide (mk = 0) then 2 else 0)) = Sm := ⟨_, rfl⟩
  obtain ⟨M2, z2, g2, q2⟩ := cr_A (d := d) (hash := hash) (c' := c') (how := how) (pv := pv) (κ := κ) (ha := 46 + 5 * a) (mk := mk) (n := nn) (LL := LL) z1 hsh hmk hn hnt hL8 hul h8 hS
  have hbm : (bmMsg hash (H.1.take nn) u (nI (164 + Sm))).length ≤ 120 := by
    have b1 := bt_hd_len 3 (nI (H.1.take nn).length)
    have b2 := bt_hd_len 2 (nI u.length)
    have b3 : (H.1.take nn).length ≤ 24 := by simp; omega
    generalize H.1.take nn = N at *
    unfold bmMsg
    simp [mbr, b4_len]; omega
  obtain ⟨M3, z3, g3, q3⟩ := cr_B (d := d) (w19 := nI Sm) (hash := hash) (c' := c') (how := how) (κ := κ) (ha := 46 + 5 * a) (mk := mk) hmk hpv1 hoA h8 hul.2 LL hLL z2 hbm
  rw [mk_msg hash (cl_m h H.2.1 1 c' how) how (H.1.take nn) u LL e2 hmk hS] at z3
  have hTl := cl_T_len h H.2.1 1 c' how
  obtain ⟨M4, row4, p4, z4, g4⟩ := cr_E (d := d) (w19 := nI Sm) (hash := hash) (c' := c') (how := how) (pv := pv) (κ := κ) (mk := mk) (LL := LL) (u := u) z3 hh hk hκ hkg (by show (cl_T h H.2.1 1 c' how).1.length + 5 < 1000; omega) hsh
  rw [e1] at z4 p4
  dsimp only at z4 p4
  rw [← hq] at z4 p4
  refine ⟨M4, row4, ?_, z4, ((g1.tr g2).tr g3).tr g4⟩
  subst e1
  have hfin := q1 _ (hL _ (q2 _ (q3 _ p4)))
  rcases hsh with rfl | ⟨x, rfl⟩
  · simp (disch := (first | omega | decide)) [s189_0, s189_1, s189_2, s189_5, s189_7, s189_8, s189_9, s189_12, s189_14, s189_16, s189_19, s189_21, s189_24, s189_26, s189_27, s189_29, s189_32, s189_35, s189_36, s189_38, s189_40, s189_42, s189_45, s189_48, s189_49, s189_50, s189_52, s189_55, s189_56, s189_58, s189_61, s189_64, s189_65, s189_68, s189_69, s189_71, s189_74, s189_77, s189_79, s189_80, s189_81, s189_83, s189_86, s189_88, s189_89, s189_90, s189_92, s189_95, s189_98, s189_99, s189_101, s189_103, s189_106, s189_109, s189_111, s189_113, s189_114, s189_115, s189_118, s189_120, s189_123, s189_126, s189_127, s189_129, s189_132, s189_134, s189_137, s189_140, s189_141, s189_143, s189_145, s189_147, s189_150, s189_152, s189_154, s189_157, s189_159, s189_160, s189_161, s189_164, s189_165, s189_168, s189_170, s189_172, s189_174, s189_177, s189_179, s189_181, s189_184, s189_185, s189_188, s189_189, s189_191, s189_192, s189_193, s189_194, s189_196, s189_199, s189_200, s189_203, s189_204, s189_205, s189_207, s189_208, s189_210, s189_212, s189_214, s189_216, s189_218, s189_221, s189_223, s189_226, s189_227, s189_230, s189_231, s189_234, s189_235, s189_237, s189_239, s189_241, s189_243, s189_246, s189_248, s189_249, s189_250, s189_253, s189_254, s189_257, s189_259, s189_262, s189_263, s189_266, s189_268, s189_271, s189_273, s189_276, s189_277, s189_279, s189_281, s189_284, s189_286, s189_287, s189_290, s189_293, s189_295, s189_297, s189_300, s189_301, s189_302, s189_304, s189_306, s189_309, s189_312, s189_313, s189_315, s189_318, s189_320, s189_322, s189_324, s189_327, s189_329, mq_k0s, mq_k1s, mq_k2s, mq_k4s, mq_k5s, mq_k5n, mq_k5as, mq_k6s, mj_pu, mj_lo, mj_br, mj_hr, mj_hw, mq_gf, mq_len, mq_al, mq_pf, mq_ok, mj_re, mq_lkm, mq_lkn, mj_ldi, mj_ldl, mj_lda, mj_ii, mj_ll, mj_li, mj_i1, ms_1, ms_2, f1_n, f1_i, f1_r, f1_u, f1_l, f2_n, f2_i, f2_r, f2_u, f2_l, mj_tg, mj_c1, mj_c2, mj_ar, mj_aw, mq_cb, mq_oi, mj_rm, Value.category, -getElem?_pos, List.getElem?_cons_zero, decide_eq_true, decide_eq_false, nl_lt, nl_le, ln_lt, ln_le, nl_eq, ln_eq, nl_add, ln_add, nl_sub, ln_mul, nI_sub, nI_mul, nI_add, nI_lt_iff, nI_le_iff, nI_inj, nI_num, mq_ix, nI_1, nl_mul, nl_div, x0, v0, v1]
    exact hfin
  · simp (disch := (first | omega | decide)) [s189_0, s189_1, s189_2, s189_5, s189_7, s189_8, s189_9, s189_12, s189_14, s189_16, s189_19, s189_21, s189_24, s189_26, s189_27, s189_29, s189_32, s189_35, s189_36, s189_38, s189_40, s189_42, s189_45, s189_48, s189_49, s189_50, s189_52, s189_55, s189_56, s189_58, s189_61, s189_64, s189_65, s189_68, s189_69, s189_71, s189_74, s189_77, s189_79, s189_80, s189_81, s189_83, s189_86, s189_88, s189_89, s189_90, s189_92, s189_95, s189_98, s189_99, s189_101, s189_103, s189_106, s189_109, s189_111, s189_113, s189_114, s189_115, s189_118, s189_120, s189_123, s189_126, s189_127, s189_129, s189_132, s189_134, s189_137, s189_140, s189_141, s189_143, s189_145, s189_147, s189_150, s189_152, s189_154, s189_157, s189_159, s189_160, s189_161, s189_164, s189_165, s189_168, s189_170, s189_172, s189_174, s189_177, s189_179, s189_181, s189_184, s189_185, s189_188, s189_189, s189_191, s189_192, s189_193, s189_194, s189_196, s189_199, s189_200, s189_203, s189_204, s189_205, s189_207, s189_208, s189_210, s189_212, s189_214, s189_216, s189_218, s189_221, s189_223, s189_226, s189_227, s189_230, s189_231, s189_234, s189_235, s189_237, s189_239, s189_241, s189_243, s189_246, s189_248, s189_249, s189_250, s189_253, s189_254, s189_257, s189_259, s189_262, s189_263, s189_266, s189_268, s189_271, s189_273, s189_276, s189_277, s189_279, s189_281, s189_284, s189_286, s189_287, s189_290, s189_293, s189_295, s189_297, s189_300, s189_301, s189_302, s189_304, s189_306, s189_309, s189_312, s189_313, s189_315, s189_318, s189_320, s189_322, s189_324, s189_327, s189_329, mq_k0s, mq_k1s, mq_k2s, mq_k4s, mq_k5s, mq_k5n, mq_k5as, mq_k6s, mj_pu, mj_lo, mj_br, mj_hr, mj_hw, mq_gf, mq_len, mq_al, mq_pf, mq_ok, mj_re, mq_lkm, mq_lkn, mj_ldi, mj_ldl, mj_lda, mj_ii, mj_ll, mj_li, mj_i1, ms_1, ms_2, f1_n, f1_i, f1_r, f1_u, f1_l, f2_n, f2_i, f2_r, f2_u, f2_l, mj_tg, mj_c1, mj_c2, mj_ar, mj_aw, mq_cb, mq_oi, mj_rm, Value.category, -getElem?_pos, List.getElem?_cons_zero, decide_eq_true, decide_eq_false, nl_lt, nl_le, ln_lt, ln_le, nl_eq, ln_eq, nl_add, ln_add, nl_sub, ln_mul, nI_sub, nI_mul, nI_add, nI_lt_iff, nI_le_iff, nI_inj, nI_num, mq_ix, nI_1, nl_mul, nl_div, x0, v0, v1]
    exact hfin
theorem h_create (z : hz M H κs πs row) (c party : Int32) (w : Int64) (m n how : Int32) (hg : ∀ k ∈ H.2.2.1, kg k) (hl : H.2.1.1.length + 20 < 1000) (hoA : ∀ p ∈ H.2.2.2.2, okA p) : ∃ M' row', mj_V (d + 13) 189 [.ref 25, .int i, .int l, .int c, .int party, .long w, .int m, .int n, .int how] M = some (some (.int (ho_create H i l c party w m n how).1), M') ∧ hz M' (ho_create H i l c party w m n how).2 κs πs row' ∧ hf M M' := by
  have x0 := z.ob
  have w0 := j_in (d := d + 11) (v := how) (a := 0) (b := 7) (M := M)
  have w1 := h_fit (d := d + 10) z party m n
  unfold ho_create
  cases hia : ix i 4 with
  | none =>
    have v0 := h_hanN (d := d + 11) z hia
    refine ⟨M, row, ?_, z, hf.rf⟩
    cases hib : ix l H.2.2.1.length with
    | none =>
      have v1 := h_keyN (d := d + 11) z hib
      simp (disch := (first | omega | decide)) [c189, s189_0, s189_1, s189_2, s189_5, s189_7, s189_8, s189_9, s189_12, s189_14, s189_16, s189_19, s189_21, s189_24, s189_26, s189_27, s189_29, s189_32, s189_35, s189_36, s189_38, s189_40, s189_42, s189_45, s189_48, s189_49, s189_50, s189_52, s189_55, s189_56, s189_58, s189_61, s189_64, s189_65, s189_68, s189_69, s189_71, s189_74, s189_77, s189_79, s189_80, s189_81, s189_83, s189_86, s189_88, s189_89, s189_90, s189_92, s189_95, s189_97, s189_98, s189_99, s189_101, s189_103, s189_106, s189_109, s189_111, s189_113, s189_114, s189_115, s189_118, s189_120, s189_123, s189_126, s189_127, s189_129, s189_132, s189_134, s189_137, s189_140, s189_141, s189_143, s189_145, s189_147, s189_150, s189_152, s189_154, s189_157, s189_159, s189_160, s189_161, s189_164, s189_165, s189_168, s189_170, s189_172, s189_174, s189_177, s189_179, s189_181, s189_184, s189_185, s189_188, s189_189, s189_191, s189_192, s189_193, s189_194, s189_196, s189_199, s189_200, s189_203, s189_204, s189_205, s189_207, s189_208, s189_210, s189_212, s189_214, s189_216, s189_218, s189_221, s189_223, s189_226, s189_227, s189_230, s189_231, s189_234, s189_235, s189_237, s189_239, s189_241, s189_243, s189_246, s189_248, s189_249, s189_250, s189_253, s189_254, s189_257, s189_259, s189_262, s189_263, s189_266, s189_268, s189_271, s189_273, s189_276, s189_277, s189_279, s189_281, s189_284, s189_286, s189_287, s189_290, s189_293, s189_295, s189_297, s189_300, s189_301, s189_302, s189_304, s189_306, s189_309, s189_312, s189_313, s189_315, s189_318, s189_320, s189_322, s189_324, s189_327, s189_329, mq_k0s, mq_k1s, mq_k2s, mq_k4s, mq_k5s, mq_k5n, mq_k5as, mq_k6s, mj_pu, mj_lo, mj_br, mj_hr, mj_hw, mq_gf, mq_len, mq_al, mq_pf, mq_ok, mj_re, mq_lkm, mq_lkn, mj_ldi, mj_ldl, mj_lda, mj_ii, mj_ll, mj_li, mj_i1, ms_1, ms_2, f1_n, f1_i, f1_r, f1_u, f1_l, f2_n, f2_i, f2_r, f2_u, f2_l, mj_tg, mj_c1, mj_c2, mj_ar, mj_aw, mq_cb, mq_oi, mj_rm, Value.category, -getElem?_pos, List.getElem?_cons_zero, decide_eq_true, decide_eq_false, nl_lt, nl_le, ln_lt, ln_le, nl_eq, ln_eq, nl_add, ln_add, nl_sub, ln_mul, nI_sub, nI_mul, nI_add, nI_lt_iff, nI_le_iff, nI_inj, nI_num, mq_ix, nI_1, nl_mul, nl_div, x0, v0, v1, narrow]
    | some b =>
      obtain ⟨rfl, hb, -⟩ := ix_some hib
      obtain ⟨κ, hκ, zk⟩ := z.kzz (List.getElem?_eq_getElem hb)
      have v1 := h_keyS (d := d + 11) z hκ
      simp (disch := (first | omega | decide)) [c189, s189_0, s189_1, s189_2, s189_5, s189_7, s189_8, s189_9, s189_12, s189_14, s189_16, s189_19, s189_21, s189_24, s189_26, s189_27, s189_29, s189_32, s189_35, s189_36, s189_38, s189_40, s189_42, s189_45, s189_48, s189_49, s189_50, s189_52, s189_55, s189_56, s189_58, s189_61, s189_64, s189_65, s189_68, s189_69, s189_71, s189_74, s189_77, s189_79, s189_80, s189_81, s189_83, s189_86, s189_88, s189_89, s189_90, s189_92, s189_95, s189_97, s189_98, s189_99, s189_101, s189_103, s189_106, s189_109, s189_111, s189_113, s189_114, s189_115, s189_118, s189_120, s189_123, s189_126, s189_127, s189_129, s189_132, s189_134, s189_137, s189_140, s189_141, s189_143, s189_145, s189_147, s189_150, s189_152, s189_154, s189_157, s189_159, s189_160, s189_161, s189_164, s189_165, s189_168, s189_170, s189_172, s189_174, s189_177, s189_179, s189_181, s189_184, s189_185, s189_188, s189_189, s189_191, s189_192, s189_193, s189_194, s189_196, s189_199, s189_200, s189_203, s189_204, s189_205, s189_207, s189_208, s189_210, s189_212, s189_214, s189_216, s189_218, s189_221, s189_223, s189_226, s189_227, s189_230, s189_231, s189_234, s189_235, s189_237, s189_239, s189_241, s189_243, s189_246, s189_248, s189_249, s189_250, s189_253, s189_254, s189_257, s189_259, s189_262, s189_263, s189_266, s189_268, s189_271, s189_273, s189_276, s189_277, s189_279, s189_281, s189_284, s189_286, s189_287, s189_290, s189_293, s189_295, s189_297, s189_300, s189_301, s189_302, s189_304, s189_306, s189_309, s189_312, s189_313, s189_315, s189_318, s189_320, s189_322, s189_324, s189_327, s189_329, mq_k0s, mq_k1s, mq_k2s, mq_k4s, mq_k5s, mq_k5n, mq_k5as, mq_k6s, mj_pu, mj_lo, mj_br, mj_hr, mj_hw, mq_gf, mq_len, mq_al, mq_pf, mq_ok, mj_re, mq_lkm, mq_lkn, mj_ldi, mj_ldl, mj_lda, mj_ii, mj_ll, mj_li, mj_i1, ms_1, ms_2, f1_n, f1_i, f1_r, f1_u, f1_l, f2_n, f2_i, f2_r, f2_u, f2_l, mj_tg, mj_c1, mj_c2, mj_ar, mj_aw, mq_cb, mq_oi, mj_rm, Value.category, -getElem?_pos, List.getElem?_cons_zero, decide_eq_true, decide_eq_false, nl_lt, nl_le, ln_lt, ln_le, nl_eq, ln_eq, nl_add, ln_add, nl_sub, ln_mul, nI_sub, nI_mul, nI_add, nI_lt_iff, nI_le_iff, nI_inj, nI_num, mq_ix, nI_1, nl_mul, nl_div, x0, v0, v1, narrow]
  | some a =>
    obtain ⟨rfl, ha, -⟩ := ix_some hia
    have v0 := h_hanS (d := d + 11) z ha
    cases hib : ix l H.2.2.1.length with
    | none =>
      have v1 := h_keyN (d := d + 11) z hib
      refine ⟨M, row, ?_, z, hf.rf⟩
      simp (disch := (first | omega | decide)) [c189, s189_0, s189_1, s189_2, s189_5, s189_7, s189_8, s189_9, s189_12, s189_14, s189_16, s189_19, s189_21, s189_24, s189_26, s189_27, s189_29, s189_32, s189_35, s189_36, s189_38, s189_40, s189_42, s189_45, s189_48, s189_49, s189_50, s189_52, s189_55, s189_56, s189_58, s189_61, s189_64, s189_65, s189_68, s189_69, s189_71, s189_74, s189_77, s189_79, s189_80, s189_81, s189_83, s189_86, s189_88, s189_89, s189_90, s189_92, s189_95, s189_97, s189_98, s189_99, s189_101, s189_103, s189_106, s189_109, s189_111, s189_113, s189_114, s189_115, s189_118, s189_120, s189_123, s189_126, s189_127, s189_129, s189_132, s189_134, s189_137, s189_140, s189_141, s189_143, s189_145, s189_147, s189_150, s189_152, s189_154, s189_157, s189_159, s189_160, s189_161, s189_164, s189_165, s189_168, s189_170, s189_172, s189_174, s189_177, s189_179, s189_181, s189_184, s189_185, s189_188, s189_189, s189_191, s189_192, s189_193, s189_194, s189_196, s189_199, s189_200, s189_203, s189_204, s189_205, s189_207, s189_208, s189_210, s189_212, s189_214, s189_216, s189_218, s189_221, s189_223, s189_226, s189_227, s189_230, s189_231, s189_234, s189_235, s189_237, s189_239, s189_241, s189_243, s189_246, s189_248, s189_249, s189_250, s189_253, s189_254, s189_257, s189_259, s189_262, s189_263, s189_266, s189_268, s189_271, s189_273, s189_276, s189_277, s189_279, s189_281, s189_284, s189_286, s189_287, s189_290, s189_293, s189_295, s189_297, s189_300, s189_301, s189_302, s189_304, s189_306, s189_309, s189_312, s189_313, s189_315, s189_318, s189_320, s189_322, s189_324, s189_327, s189_329, mq_k0s, mq_k1s, mq_k2s, mq_k4s, mq_k5s, mq_k5n, mq_k5as, mq_k6s, mj_pu, mj_lo, mj_br, mj_hr, mj_hw, mq_gf, mq_len, mq_al, mq_pf, mq_ok, mj_re, mq_lkm, mq_lkn, mj_ldi, mj_ldl, mj_lda, mj_ii, mj_ll, mj_li, mj_i1, ms_1, ms_2, f1_n, f1_i, f1_r, f1_u, f1_l, f2_n, f2_i, f2_r, f2_u, f2_l, mj_tg, mj_c1, mj_c2, mj_ar, mj_aw, mq_cb, mq_oi, mj_rm, Value.category, -getElem?_pos, List.getElem?_cons_zero, decide_eq_true, decide_eq_false, nl_lt, nl_le, ln_lt, ln_le, nl_eq, ln_eq, nl_add, ln_add, nl_sub, ln_mul, nI_sub, nI_mul, nI_add, nI_lt_iff, nI_le_iff, nI_inj, nI_num, mq_ix, nI_1, nl_mul, nl_div, x0, v0, v1, narrow]
    | some b =>
      obtain ⟨rfl, hb, -⟩ := ix_some hib
      have hah : a < H.2.2.2.1.length := by rw [z.hl]; exact ha
      have hh := List.getElem?_eq_getElem hah
      have hk := List.getElem?_eq_getElem hb
      obtain ⟨κ, hκ, zk⟩ := z.kzz hk
      have v1 := h_keyS (d := d + 11) z hκ
      have hkg := hg _ (List.getElem_mem hb)
      generalize H.2.2.2.1[a] = h at *
      generalize H.2.2.1[b] = k at *
      dsimp only
      rw [hh, hk]
      dsimp only
      cases hin : inR how 0 7 with
      | false =>
        rw [hin] at w0
        refine ⟨M, row, ?_, by simpa using z, hf.rf⟩
        simp (disch := (first | omega | decide)) [c189, s189_0, s189_1, s189_2, s189_5, s189_7, s189_8, s189_9, s189_12, s189_14, s189_16, s189_19, s189_21, s189_24, s189_26, s189_27, s189_29, s189_32, s189_35, s189_36, s189_38, s189_40, s189_42, s189_45, s189_48, s189_49, s189_50, s189_52, s189_55, s189_56, s189_58, s189_61, s189_64, s189_65, s189_68, s189_69, s189_71, s189_74, s189_77, s189_79, s189_80, s189_81, s189_83, s189_86, s189_88, s189_89, s189_90, s189_92, s189_95, s189_97, s189_98, s189_99, s189_101, s189_103, s189_106, s189_109, s189_111, s189_113, s189_114, s189_115, s189_118, s189_120, s189_123, s189_126, s189_127, s189_129, s189_132, s189_134, s189_137, s189_140, s189_141, s189_143, s189_145, s189_147, s189_150, s189_152, s189_154, s189_157, s189_159, s189_160, s189_161, s189_164, s189_165, s189_168, s189_170, s189_172, s189_174, s189_177, s189_179, s189_181, s189_184, s189_185, s189_188, s189_189, s189_191, s189_192, s189_193, s189_194, s189_196, s189_199, s189_200, s189_203, s189_204, s189_205, s189_207, s189_208, s189_210, s189_212, s189_214, s189_216, s189_218, s189_221, s189_223, s189_226, s189_227, s189_230, s189_231, s189_234, s189_235, s189_237, s189_239, s189_241, s189_243, s189_246, s189_248, s189_249, s189_250, s189_253, s189_254, s189_257, s189_259, s189_262, s189_263, s189_266, s189_268, s189_271, s189_273, s189_276, s189_277, s189_279, s189_281, s189_284, s189_286, s189_287, s189_290, s189_293, s189_295, s189_297, s189_300, s189_301, s189_302, s189_304, s189_306, s189_309, s189_312, s189_313, s189_315, s189_318, s189_320, s189_322, s189_324, s189_327, s189_329, mq_k0s, mq_k1s, mq_k2s, mq_k4s, mq_k5s, mq_k5n, mq_k5as, mq_k6s, mj_pu, mj_lo, mj_br, mj_hr, mj_hw, mq_gf, mq_len, mq_al, mq_pf, mq_ok, mj_re, mq_lkm, mq_lkn, mj_ldi, mj_ldl, mj_lda, mj_ii, mj_ll, mj_li, mj_i1, ms_1, ms_2, f1_n, f1_i, f1_r, f1_u, f1_l, f2_n, f2_i, f2_r, f2_u, f2_l, mj_tg, mj_c1, mj_c2, mj_ar, mj_aw, mq_cb, mq_oi, mj_rm, Value.category, -getElem?_pos, List.getElem?_cons_zero, decide_eq_true, decide_eq_false, nl_lt, nl_le, ln_lt, ln_le, nl_eq, ln_eq, nl_add, ln_add, nl_sub, ln_mul, nI_sub, nI_mul, nI_add, nI_lt_iff, nI_le_iff, nI_inj, nI_num, mq_ix, nI_1, nl_mul, nl_div, x0, v0, v1, w0, on1, narrow]
      | true =>
      rw [hin] at w0
      cases hft : fitA H party m n with
      | false =>
        rw [hft] at w1
        refine ⟨M, row, ?_, by simpa using z, hf.rf⟩
        simp (disch := (first | omega | decide)) [c189, s189_0, s189_1, s189_2, s189_5, s189_7, s189_8, s189_9, s189_12, s189_14, s189_16, s189_19, s189_21, s189_24, s189_26, s189_27, s189_29, s189_32, s189_35, s189_36, s189_38, s189_40, s189_42, s189_45, s189_48, s189_49, s189_50, s189_52, s189_55, s189_56, s189_58, s189_61, s189_64, s189_65, s189_68, s189_69, s189_71, s189_74, s189_77, s189_79, s189_80, s189_81, s189_83, s189_86, s189_88, s189_89, s189_90, s189_92, s189_95, s189_97, s189_98, s189_99, s189_101, s189_103, s189_106, s189_109, s189_111, s189_113, s189_114, s189_115, s189_118, s189_120, s189_123, s189_126, s189_127, s189_129, s189_132, s189_134, s189_137, s189_140, s189_141, s189_143, s189_145, s189_147, s189_150, s189_152, s189_154, s189_157, s189_159, s189_160, s189_161, s189_164, s189_165, s189_168, s189_170, s189_172, s189_174, s189_177, s189_179, s189_181, s189_184, s189_185, s189_188, s189_189, s189_191, s189_192, s189_193, s189_194, s189_196, s189_199, s189_200, s189_203, s189_204, s189_205, s189_207, s189_208, s189_210, s189_212, s189_214, s189_216, s189_218, s189_221, s189_223, s189_226, s189_227, s189_230, s189_231, s189_234, s189_235, s189_237, s189_239, s189_241, s189_243, s189_246, s189_248, s189_249, s189_250, s189_253, s189_254, s189_257, s189_259, s189_262, s189_263, s189_266, s189_268, s189_271, s189_273, s189_276, s189_277, s189_279, s189_281, s189_284, s189_286, s189_287, s189_290, s189_293, s189_295, s189_297, s189_300, s189_301, s189_302, s189_304, s189_306, s189_309, s189_312, s189_313, s189_315, s189_318, s189_320, s189_322, s189_324, s189_327, s189_329, mq_k0s, mq_k1s, mq_k2s, mq_k4s, mq_k5s, mq_k5n, mq_k5as, mq_k6s, mj_pu, mj_lo, mj_br, mj_hr, mj_hw, mq_gf, mq_len, mq_al, mq_pf, mq_ok, mj_re, mq_lkm, mq_lkn, mj_ldi, mj_ldl, mj_lda, mj_ii, mj_ll, mj_li, mj_i1, ms_1, ms_2, f1_n, f1_i, f1_r, f1_u, f1_l, f2_n, f2_i, f2_r, f2_u, f2_l, mj_tg, mj_c1, mj_c2, mj_ar, mj_aw, mq_cb, mq_oi, mj_rm, Value.category, -getElem?_pos, List.getElem?_cons_zero, decide_eq_true, decide_eq_false, nl_lt, nl_le, ln_lt, ln_le, nl_eq, ln_eq, nl_add, ln_add, nl_sub, ln_mul, nI_sub, nI_mul, nI_add, nI_lt_iff, nI_le_iff, nI_inj, nI_num, mq_ix, nI_1, nl_mul, nl_div, x0, v0, v1, w0, w1, on1, narrow]
      | true =>
      rw [hft] at w1
      obtain ⟨mm, nn, rfl, rfl, cm, cn, hm8, hn, hnt⟩ := fitA_ok hft
      rw [cm, cn]
      rw [if_neg (by simp)]
      have zh := z.hd a h hh
      have y0 := zh.ob
      have o0 := zh.pg.2.2.2.2.2.1
      have o1 := z.tp.2.2.2.2.2.1
      have s0 := v_size (d := d + 11) zh.pg
      have r0 := j_right (d := d + 9) (s := h.2.1.length) (q := 0) (n := nn) zh.pg z.tp (Nat.le_refl _) (by omega) (by omega) (by omega)
      rw [List.take_of_length_le (Nat.le_refl _), List.drop_zero, nI_0] at r0
      cases hr : isR h.2.1 (H.1.take nn) with
      | false =>
        rw [hr] at r0
        rw [if_pos rfl]
        refine ⟨M, row, ?_, z, hf.rf⟩
        simp (disch := (first | omega | decide)) [c189, s189_0, s189_1, s189_2, s189_5, s189_7, s189_8, s189_9, s189_12, s189_14, s189_16, s189_19, s189_21, s189_24, s189_26, s189_27, s189_29, s189_32, s189_35, s189_36, s189_38, s189_40, s189_42, s189_45, s189_48, s189_49, s189_50, s189_52, s189_55, s189_56, s189_58, s189_61, s189_64, s189_65, s189_68, s189_69, s189_71, s189_74, s189_77, s189_79, s189_80, s189_81, s189_83, s189_86, s189_88, s189_89, s189_90, s189_92, s189_95, s189_97, s189_98, s189_99, s189_101, s189_103, s189_106, s189_109, s189_111, s189_113, s189_114, s189_115, s189_118, s189_120, s189_123, s189_126, s189_127, s189_129, s189_132, s189_134, s189_137, s189_140, s189_141, s189_143, s189_145, s189_147, s189_150, s189_152, s189_154, s189_157, s189_159, s189_160, s189_161, s189_164, s189_165, s189_168, s189_170, s189_172, s189_174, s189_177, s189_179, s189_181, s189_184, s189_185, s189_188, s189_189, s189_191, s189_192, s189_193, s189_194, s189_196, s189_199, s189_200, s189_203, s189_204, s189_205, s189_207, s189_208, s189_210, s189_212, s189_214, s189_216, s189_218, s189_221, s189_223, s189_226, s189_227, s189_230, s189_231, s189_234, s189_235, s189_237, s189_239, s189_241, s189_243, s189_246, s189_248, s189_249, s189_250, s189_253, s189_254, s189_257, s189_259, s189_262, s189_263, s189_266, s189_268, s189_271, s189_273, s189_276, s189_277, s189_279, s189_281, s189_284, s189_286, s189_287, s189_290, s189_293, s189_295, s189_297, s189_300, s189_301, s189_302, s189_304, s189_306, s189_309, s189_312, s189_313, s189_315, s189_318, s189_320, s189_322, s189_324, s189_327, s189_329, mq_k0s, mq_k1s, mq_k2s, mq_k4s, mq_k5s, mq_k5n, mq_k5as, mq_k6s, mj_pu, mj_lo, mj_br, mj_hr, mj_hw, mq_gf, mq_len, mq_al, mq_pf, mq_ok, mj_re, mq_lkm, mq_lkn, mj_ldi, mj_ldl, mj_lda, mj_ii, mj_ll, mj_li, mj_i1, ms_1, ms_2, f1_n, f1_i, f1_r, f1_u, f1_l, f2_n, f2_i, f2_r, f2_u, f2_l, mj_tg, mj_c1, mj_c2, mj_ar, mj_aw, mq_cb, mq_oi, mj_rm, Value.category, -getElem?_pos, List.getElem?_cons_zero, decide_eq_true, decide_eq_false, nl_lt, nl_le, ln_lt, ln_le, nl_eq, ln_eq, nl_add, ln_add, nl_sub, ln_mul, nI_sub, nI_mul, nI_add, nI_lt_iff, nI_le_iff, nI_inj, nI_num, mq_ix, nI_1, nl_mul, nl_div, x0, v0, v1, w0, w1, on1, y0, o0, s0, r0, narrow]
      | true =>
        rw [hr] at r0
        rw [if_neg (by simp)]
        obtain ⟨M1, row1, p1, z1, g1⟩ := cr_80 (d := d) (i := nI a) (l := nI b) (c := c) (party := party) (how := how) (w := w) z hh hk hκ hkg hl hoA hm8 hn hnt rfl
        have pre : ∀ q, mj_Rn (d + 12) mj_m189 80 [(11, .ref κ), (10, .ref (46 + 5 * a)), (0, .ref 25), (1, .int (nI a)), (2, .int (nI b)), (3, .int c), (4, .int party), (5, .long w), (7, .int (nI mm)), (8, .int (nI nn)), (9, .int how)] [] M = some q → mj_V (d + 13) 189 [.ref 25, .int (nI a), .int (nI b), .int c, .int party, .long w, .int (nI mm), .int (nI nn), .int how] M = some q := by
          intro q hq
          simp (disch := (first | omega | decide)) [c189, s189_0, s189_1, s189_2, s189_5, s189_7, s189_8, s189_9, s189_12, s189_14, s189_16, s189_19, s189_21, s189_24, s189_26, s189_27, s189_29, s189_32, s189_35, s189_36, s189_38, s189_40, s189_42, s189_45, s189_48, s189_49, s189_50, s189_52, s189_55, s189_56, s189_58, s189_61, s189_64, s189_65, s189_68, s189_69, s189_71, s189_74, s189_77, s189_79, s189_81, s189_83, s189_86, s189_88, s189_89, s189_90, s189_92, s189_95, s189_97, s189_98, s189_99, s189_101, s189_103, s189_106, s189_109, s189_111, s189_113, s189_114, s189_115, s189_118, s189_120, s189_123, s189_126, s189_127, s189_129, s189_132, s189_134, s189_137, s189_140, s189_141, s189_143, s189_145, s189_147, s189_150, s189_152, s189_154, s189_157, s189_159, s189_160, s189_161, s189_164, s189_165, s189_168, s189_170, s189_172, s189_174, s189_177, s189_179, s189_181, s189_184, s189_185, s189_188, s189_189, s189_191, s189_192, s189_193, s189_194, s189_196, s189_199, s189_200, s189_203, s189_204, s189_205, s189_207, s189_208, s189_210, s189_212, s189_214, s189_216, s189_218, s189_221, s189_223, s189_226, s189_227, s189_230, s189_231, s189_234, s189_235, s189_237, s189_239, s189_241, s189_243, s189_246, s189_248, s189_249, s189_250, s189_253, s189_254, s189_257, s189_259, s189_262, s189_263, s189_266, s189_268, s189_271, s189_273, s189_276, s189_277, s189_279, s189_281, s189_284, s189_286, s189_287, s189_290, s189_293, s189_295, s189_297, s189_300, s189_301, s189_302, s189_304, s189_306, s189_309, s189_312, s189_313, s189_315, s189_318, s189_320, s189_322, s189_324, s189_327, s189_329, mq_k0s, mq_k1s, mq_k2s, mq_k4s, mq_k5s, mq_k5n, mq_k5as, mq_k6s, mj_pu, mj_lo, mj_br, mj_hr, mj_hw, mq_gf, mq_len, mq_al, mq_pf, mq_ok, mj_re, mq_lkm, mq_lkn, mj_ldi, mj_ldl, mj_lda, mj_ii, mj_ll, mj_li, mj_i1, ms_1, ms_2, f1_n, f1_i, f1_r, f1_u, f1_l, f2_n, f2_i, f2_r, f2_u, f2_l, mj_tg, mj_c1, mj_c2, mj_ar, mj_aw, mq_cb, mq_oi, mj_rm, Value.category, -getElem?_pos, List.getElem?_cons_zero, decide_eq_true, decide_eq_false, nl_lt, nl_le, ln_lt, ln_le, nl_eq, ln_eq, nl_add, ln_add, nl_sub, ln_mul, nI_sub, nI_mul, nI_add, nI_lt_iff, nI_le_iff, nI_inj, nI_num, mq_ix, nI_1, nl_mul, nl_div, x0, v0, v1, w0, w1, on1, y0, o0, s0, r0]
          exact hq
        exact ⟨M1, row1, pre _ p1, z1, g1⟩
end HZ
end
/- 9n.hf -/
section
set_option maxRecDepth 512
/-! Class: the house: get. -/
/- 208 PasskeyHouse.get(IIIIJIII)I -/
theorem s208_0 {d : Nat} {ls : mj_L} {st : List Value} {M : mj_H} : mj_Rn d mj_m208 0 ls st M = mq_k0 d mj_m208 1 ls M (mj_lda (mj_lk ls 0) st) := mj_R0 (r := (.aload_n 0, 1, 0, 0, 0)) rfl rfl
theorem s208_1 {d : Nat} {ls : mj_L} {st : List Value} {M : mj_H} : mj_Rn d mj_m208 1 ls st M = mq_k0 d mj_m208 2 ls M (mj_ldi (mj_lk ls 1) st) := mj_R0 (r := (.iload_n 1, 1, 0, 0, 0)) rfl rfl
theorem s208_2 {d : Nat} {ls : mj_L} {st : List Value} {M : mj_H} : mj_Rn (d + 1) mj_m208 2 ls st M = mq_k5a (d + 1) mj_m208 5 ls M 168 (mq_cb 0 1 10 st M) := mj_R5e (r := (.invokevirtual 149, 3, 0, 168, 20562)) (z := mj_m168) rfl rfl (by decide) (by decide) rfl
theorem s208_5 {d : Nat} {ls : mj_L} {st : List Value} {M : mj_H} : mj_Rn d mj_m208 5 ls st M = mq_k1 d mj_m208 7 M (mj_lo 17 (.astore 10) ls st) := mj_R1 (r := (.astore 10, 2, 0, 0, 0)) rfl rfl
theorem s208_7 {d : Nat} {ls : mj_L} {st : List Value} {M : mj_H} : mj_Rn d mj_m208 7 ls st M = mq_k0 d mj_m208 8 ls M (mj_lda (mj_lk ls 0) st) := mj_R0 (r := (.aload_n 0, 1, 0, 0, 0)) rfl rfl
theorem s208_8 {d : Nat} {ls : mj_L} {st : List Value} {M : mj_H} : mj_Rn d mj_m208 8 ls st M = mq_k0 d mj_m208 9 ls M (mj_ldi (mj_lk ls 2) st) := mj_R0 (r := (.iload_n 2, 1, 0, 0, 0)) rfl rfl
theorem s208_9 {d : Nat} {ls : mj_L} {st : List Value} {M : mj_H} : mj_Rn (d + 1) mj_m208 9 ls st M = mq_k5a (d + 1) mj_m208 12 ls M 68 (mq_cb 0 1 10 st M) := mj_R5e (r := (.invokevirtual 97, 3, 0, 68, 12393)) (z := mj_m68) rfl rfl (by decide) (by decide) rfl
theorem s208_12 {d : Nat} {ls : mj_L} {st : List Value} {M : mj_H} : mj_Rn d mj_m208 12 ls st M = mq_k1 d mj_m208 14 M (mj_lo 17 (.astore 11) ls st) := mj_R1 (r := (.astore 11, 2, 0, 0, 0)) rfl rfl
theorem s208_14 {d : Nat} {ls : mj_L} {st : List Value} {M : mj_H} : mj_Rn d mj_m208 14 ls st M = mq_k0 d mj_m208 16 ls M (mj_lda (mj_lk ls 10) st) := mj_R0 (r := (.aload 10, 2, 0, 0, 0)) rfl rfl
theorem s208_16 {d : Nat} {ls : mj_L} {st : List Value} {M : mj_H} : mj_Rn d mj_m208 16 ls st M = mq_k2 d mj_m208 ls M (mj_br (.ifnull 32) 16 st) := mj_R2 (r := (.ifnull 32, 3, 0, 0, 0)) rfl rfl
theorem s208_19 {d : Nat} {ls : mj_L} {st : List Value} {M : mj_H} : mj_Rn d mj_m208 19 ls st M = mq_k0 d mj_m208 21 ls M (mj_lda (mj_lk ls 11) st) := mj_R0 (r := (.aload 11, 2, 0, 0, 0)) rfl rfl
theorem s208_21 {d : Nat} {ls : mj_L} {st : List Value} {M : mj_H} : mj_Rn d mj_m208 21 ls st M = mq_k2 d mj_m208 ls M (mj_br (.ifnull 27) 21 st) := mj_R2 (r := (.ifnull 27, 3, 0, 0, 0)) rfl rfl
theorem s208_24 {d : Nat} {ls : mj_L} {st : List Value} {M : mj_H} : mj_Rn d mj_m208 24 ls st M = mq_k0 d mj_m208 26 ls M (mj_ldi (mj_lk ls 9) st) := mj_R0 (r := (.iload 9, 2, 0, 0, 0)) rfl rfl
theorem s208_26 {d : Nat} {ls : mj_L} {st : List Value} {M : mj_H} : mj_Rn d mj_m208 26 ls st M = mj_Rn d mj_m208 27 ls (.int 0 :: st) M := mj_R0 (r := (.iconst 0, 1, 0, 0, 0)) rfl rfl
theorem s208_27 {d : Nat} {ls : mj_L} {st : List Value} {M : mj_H} : mj_Rn d mj_m208 27 ls st M = mj_Rn d mj_m208 29 ls (.int 15 :: st) M := mj_R0 (r := (.bipush 15, 2, 0, 0, 0)) rfl rfl
theorem s208_29 {d : Nat} {ls : mj_L} {st : List Value} {M : mj_H} : mj_Rn (d + 1) mj_m208 29 ls st M = mq_k5a (d + 1) mj_m208 32 ls M 8 (mq_cb 2 3 10 st M) := mj_R5e (r := (.invokestatic 61, 3, 2, 8, 4275)) (z := mj_m8) rfl rfl (by decide) (by decide) rfl
theorem s208_32 {d : Nat} {ls : mj_L} {st : List Value} {M : mj_H} : mj_Rn d mj_m208 32 ls st M = mq_k2 d mj_m208 ls M (mj_br (.ifCond .eq 16) 32 st) := mj_R2 (r := (.ifCond .eq 16, 3, 0, 0, 0)) rfl rfl
theorem s208_35 {d : Nat} {ls : mj_L} {st : List Value} {M : mj_H} : mj_Rn d mj_m208 35 ls st M = mq_k0 d mj_m208 36 ls M (mj_lda (mj_lk ls 0) st) := mj_R0 (r := (.aload_n 0, 1, 0, 0, 0)) rfl rfl
theorem s208_36 {d : Nat} {ls : mj_L} {st : List Value} {M : mj_H} : mj_Rn d mj_m208 36 ls st M = mq_k0 d mj_m208 38 ls M (mj_ldi (mj_lk ls 4) st) := mj_R0 (r := (.iload 4, 2, 0, 0, 0)) rfl rfl
theorem s208_38 {d : Nat} {ls : mj_L} {st : List Value} {M : mj_H} : mj_Rn d mj_m208 38 ls st M = mq_k0 d mj_m208 40 ls M (mj_ldi (mj_lk ls 7) st) := mj_R0 (r := (.iload 7, 2, 0, 0, 0)) rfl rfl
theorem s208_40 {d : Nat} {ls : mj_L} {st : List Value} {M : mj_H} : mj_Rn d mj_m208 40 ls st M = mq_k0 d mj_m208 42 ls M (mj_ldi (mj_lk ls 8) st) := mj_R0 (r := (.iload 8, 2, 0, 0, 0)) rfl rfl
theorem s208_42 {d : Nat} {ls : mj_L} {st : List Value} {M : mj_H} : mj_Rn (d + 1) mj_m208 42 ls st M = mq_k5a (d + 1) mj_m208 45 ls M 190 (mq_cb 0 3 10 st M) := mj_R5e (r := (.invokevirtual 231, 3, 0, 190, 20664)) (z := mj_m190) rfl rfl (by decide) (by decide) rfl
theorem s208_45 {d : Nat} {ls : mj_L} {st : List Value} {M : mj_H} : mj_Rn d mj_m208 45 ls st M = mq_k2 d mj_m208 ls M (mj_br (.ifCond .ne 5) 45 st) := mj_R2 (r := (.ifCond .ne 5, 3, 0, 0, 0)) rfl rfl
theorem s208_48 {d : Nat} {ls : mj_L} {st : List Value} {M : mj_H} : mj_Rn d mj_m208 48 ls st M = mj_Rn d mj_m208 49 ls (.int (-1) :: st) M := mj_R0 (r := (.iconst (-1), 1, 0, 0, 0)) rfl rfl
theorem s208_49 {d : Nat} {ls : mj_L} {st : List Value} {M : mj_H} : mj_Rn d mj_m208 49 ls st M = mq_k6 M (mj_re (some .int) (.ireturn) st) := mj_R6 (r := (.ireturn, 1, 0, 0, 0)) rfl rfl
theorem s208_50 {d : Nat} {ls : mj_L} {st : List Value} {M : mj_H} : mj_Rn d mj_m208 50 ls st M = mq_k0 d mj_m208 52 ls M (mj_lda (mj_lk ls 10) st) := mj_R0 (r := (.aload 10, 2, 0, 0, 0)) rfl rfl
theorem s208_52 {d : Nat} {ls : mj_L} {st : List Value} {M : mj_H} : mj_Rn d mj_m208 52 ls st M = mq_k0 d mj_m208 55 ls M (mq_gf 3 1 st M) := (mj_R3 (r := (.getfield 200, 3, 3, 1, 8447)) rfl rfl).trans (congrArg (mq_k0 d mj_m208 55 ls M) mq_gf_eq)
theorem s208_55 {d : Nat} {ls : mj_L} {st : List Value} {M : mj_H} : mj_Rn d mj_m208 55 ls st M = mj_Rn d mj_m208 56 ls (.int 0 :: st) M := mj_R0 (r := (.iconst 0, 1, 0, 0, 0)) rfl rfl
theorem s208_56 {d : Nat} {ls : mj_L} {st : List Value} {M : mj_H} : mj_Rn d mj_m208 56 ls st M = mq_k0 d mj_m208 58 ls M (mj_lda (mj_lk ls 10) st) := mj_R0 (r := (.aload 10, 2, 0, 0, 0)) rfl rfl
theorem s208_58 {d : Nat} {ls : mj_L} {st : List Value} {M : mj_H} : mj_Rn d mj_m208 58 ls st M = mq_k0 d mj_m208 61 ls M (mq_gf 3 1 st M) := (mj_R3 (r := (.getfield 200, 3, 3, 1, 8447)) rfl rfl).trans (congrArg (mq_k0 d mj_m208 61 ls M) mq_gf_eq)
theorem s208_61 {d : Nat} {ls : mj_L} {st : List Value} {M : mj_H} : mj_Rn (d + 1) mj_m208 61 ls st M = mq_k5a (d + 1) mj_m208 64 ls M 9 (mq_cb 0 0 1 st M) := mj_R5e (r := (.invokevirtual 65, 3, 0, 9, 4278)) (z := mj_m9) rfl rfl (by decide) (by decide) rfl
theorem s208_64 {d : Nat} {ls : mj_L} {st : List Value} {M : mj_H} : mj_Rn d mj_m208 64 ls st M = mq_k0 d mj_m208 65 ls M (mj_lda (mj_lk ls 0) st) := mj_R0 (r := (.aload_n 0, 1, 0, 0, 0)) rfl rfl
theorem s208_65 {d : Nat} {ls : mj_L} {st : List Value} {M : mj_H} : mj_Rn d mj_m208 65 ls st M = mq_k0 d mj_m208 68 ls M (mq_gf 10 0 st M) := (mj_R3 (r := (.getfield 14, 3, 10, 0, 8486)) rfl rfl).trans (congrArg (mq_k0 d mj_m208 68 ls M) mq_gf_eq)
theorem s208_68 {d : Nat} {ls : mj_L} {st : List Value} {M : mj_H} : mj_Rn d mj_m208 68 ls st M = mj_Rn d mj_m208 69 ls (.int 0 :: st) M := mj_R0 (r := (.iconst 0, 1, 0, 0, 0)) rfl rfl
theorem s208_69 {d : Nat} {ls : mj_L} {st : List Value} {M : mj_H} : mj_Rn d mj_m208 69 ls st M = mq_k0 d mj_m208 71 ls M (mj_ldi (mj_lk ls 8) st) := mj_R0 (r := (.iload 8, 2, 0, 0, 0)) rfl rfl
theorem s208_71 {d : Nat} {ls : mj_L} {st : List Value} {M : mj_H} : mj_Rn (d + 1) mj_m208 71 ls st M = mq_k5a (d + 1) mj_m208 74 ls M 192 (mq_cb 2 6 10 st M) := mj_R5e (r := (.invokestatic 234, 3, 2, 192, 20672)) (z := mj_m192) rfl rfl (by decide) (by decide) rfl
theorem s208_74 {d : Nat} {ls : mj_L} {st : List Value} {M : mj_H} : mj_Rn d mj_m208 74 ls st M = mq_k2 d mj_m208 ls M (mj_br (.ifCond .ne 6) 74 st) := mj_R2 (r := (.ifCond .ne 6, 3, 0, 0, 0)) rfl rfl
theorem s208_77 {d : Nat} {ls : mj_L} {st : List Value} {M : mj_H} : mj_Rn d mj_m208 77 ls st M = mj_Rn d mj_m208 79 ls (.int (-2) :: st) M := mj_R0 (r := (.bipush (-2), 2, 0, 0, 0)) rfl rfl
theorem s208_79 {d : Nat} {ls : mj_L} {st : List Value} {M : mj_H} : mj_Rn d mj_m208 79 ls st M = mq_k6 M (mj_re (some .int) (.ireturn) st) := mj_R6 (r := (.ireturn, 1, 0, 0, 0)) rfl rfl
theorem s208_80 {d : Nat} {ls : mj_L} {st : List Value} {M : mj_H} : mj_Rn d mj_m208 80 ls st M = mq_k0 d mj_m208 81 ls M (mj_lda (mj_lk ls 0) st) := mj_R0 (r := (.aload_n 0, 1, 0, 0, 0)) rfl rfl
theorem s208_81 {d : Nat} {ls : mj_L} {st : List Value} {M : mj_H} : mj_Rn d mj_m208 81 ls st M = mq_k0 d mj_m208 83 ls M (mj_ldi (mj_lk ls 4) st) := mj_R0 (r := (.iload 4, 2, 0, 0, 0)) rfl rfl
theorem s208_83 {d : Nat} {ls : mj_L} {st : List Value} {M : mj_H} : mj_Rn (d + 1) mj_m208 83 ls st M = mq_k5a (d + 1) mj_m208 86 ls M 191 (mq_cb 0 1 10 st M) := mj_R5e (r := (.invokevirtual 238, 3, 0, 191, 20668)) (z := mj_m191) rfl rfl (by decide) (by decide) rfl
theorem s208_86 {d : Nat} {ls : mj_L} {st : List Value} {M : mj_H} : mj_Rn d mj_m208 86 ls st M = mq_k1 d mj_m208 88 M (mj_lo 17 (.astore 12) ls st) := mj_R1 (r := (.astore 12, 2, 0, 0, 0)) rfl rfl
theorem s208_88 {d : Nat} {ls : mj_L} {st : List Value} {M : mj_H} : mj_Rn d mj_m208 88 ls st M = mq_k0 d mj_m208 89 ls M (mj_lda (mj_lk ls 0) st) := mj_R0 (r := (.aload_n 0, 1, 0, 0, 0)) rfl rfl
theorem s208_89 {d : Nat} {ls : mj_L} {st : List Value} {M : mj_H} : mj_Rn d mj_m208 89 ls st M = mq_k0 d mj_m208 90 ls M (mj_ldi (mj_lk ls 3) st) := mj_R0 (r := (.iload_n 3, 1, 0, 0, 0)) rfl rfl
theorem s208_90 {d : Nat} {ls : mj_L} {st : List Value} {M : mj_H} : mj_Rn d mj_m208 90 ls st M = mq_k0 d mj_m208 92 ls M (mj_lda (mj_lk ls 12) st) := mj_R0 (r := (.aload 12, 2, 0, 0, 0)) rfl rfl
theorem s208_92 {d : Nat} {ls : mj_L} {st : List Value} {M : mj_H} : mj_Rn (d + 1) mj_m208 92 ls st M = mq_k5a (d + 1) mj_m208 95 ls M 194 (mq_cb 0 2 10 st M) := mj_R5e (r := (.invokevirtual 242, 3, 0, 194, 20679)) (z := mj_m194) rfl rfl (by decide) (by decide) rfl
theorem s208_95 {d : Nat} {ls : mj_L} {st : List Value} {M : mj_H} : mj_Rn d mj_m208 95 ls st M = mq_k1 d mj_m208 97 M (mj_lo 17 (.istore 13) ls st) := mj_R1 (r := (.istore 13, 2, 0, 0, 0)) rfl rfl
theorem s208_97 {d : Nat} {ls : mj_L} {st : List Value} {M : mj_H} : mj_Rn d mj_m208 97 ls st M = mq_k0 d mj_m208 99 ls M (mj_ldi (mj_lk ls 9) st) := mj_R0 (r := (.iload 9, 2, 0, 0, 0)) rfl rfl
theorem s208_99 {d : Nat} {ls : mj_L} {st : List Value} {M : mj_H} : mj_Rn d mj_m208 99 ls st M = mj_Rn d mj_m208 100 ls (.int 4 :: st) M := mj_R0 (r := (.iconst 4, 1, 0, 0, 0)) rfl rfl
theorem s208_100 {d : Nat} {ls : mj_L} {st : List Value} {M : mj_H} : mj_Rn d mj_m208 100 ls st M = mq_k0 d mj_m208 101 ls M (mj_pu .iand ls st) := mj_R0 (r := (.iand, 1, 0, 0, 0)) rfl rfl
theorem s208_101 {d : Nat} {ls : mj_L} {st : List Value} {M : mj_H} : mj_Rn d mj_m208 101 ls st M = mq_k2 d mj_m208 ls M (mj_br (.ifCond .eq 22) 101 st) := mj_R2 (r := (.ifCond .eq 22, 3, 0, 0, 0)) rfl rfl
theorem s208_104 {d : Nat} {ls : mj_L} {st : List Value} {M : mj_H} : mj_Rn d mj_m208 104 ls st M = mq_k0 d mj_m208 105 ls M (mj_lda (mj_lk ls 0) st) := mj_R0 (r := (.aload_n 0, 1, 0, 0, 0)) rfl rfl
theorem s208_105 {d : Nat} {ls : mj_L} {st : List Value} {M : mj_H} : mj_Rn d mj_m208 105 ls st M = mq_k0 d mj_m208 108 ls M (mq_gf 10 1 st M) := (mj_R3 (r := (.getfield 18, 3, 10, 1, 8488)) rfl rfl).trans (congrArg (mq_k0 d mj_m208 108 ls M) mq_gf_eq)
theorem s208_108 {d : Nat} {ls : mj_L} {st : List Value} {M : mj_H} : mj_Rn (d + 1) mj_m208 108 ls st M = mq_k5a (d + 1) mj_m208 111 ls M 12 (mq_cb 0 0 1 st M) := mj_R5e (r := (.invokevirtual 73, 3, 0, 12, 4290)) (z := mj_m12) rfl rfl (by decide) (by decide) rfl
theorem s208_111 {d : Nat} {ls : mj_L} {st : List Value} {M : mj_H} : mj_Rn d mj_m208 111 ls st M = mq_k0 d mj_m208 112 ls M (mj_lda (mj_lk ls 0) st) := mj_R0 (r := (.aload_n 0, 1, 0, 0, 0)) rfl rfl
theorem s208_112 {d : Nat} {ls : mj_L} {st : List Value} {M : mj_H} : mj_Rn d mj_m208 112 ls st M = mq_k0 d mj_m208 115 ls M (mq_gf 10 1 st M) := (mj_R3 (r := (.getfield 18, 3, 10, 1, 8488)) rfl rfl).trans (congrArg (mq_k0 d mj_m208 115 ls M) mq_gf_eq)
theorem s208_115 {d : Nat} {ls : mj_L} {st : List Value} {M : mj_H} : mj_Rn d mj_m208 115 ls st M = mj_Rn d mj_m208 117 ls (.int 8 :: st) M := mj_R0 (r := (.bipush 8, 2, 0, 0, 0)) rfl rfl
theorem s208_117 {d : Nat} {ls : mj_L} {st : List Value} {M : mj_H} : mj_Rn (d + 1) mj_m208 117 ls st M = mq_k5a (d + 1) mj_m208 120 ls M 45 (mq_cb 0 1 1 st M) := mj_R5e (r := (.invokevirtual 190, 3, 0, 45, 20603)) (z := mj_m45) rfl rfl (by decide) (by decide) rfl
theorem s208_120 {d : Nat} {ls : mj_L} {st : List Value} {M : mj_H} : mj_Rn d mj_m208 120 ls st M = mj_Rn d mj_m208 218 ls st M := mj_R2 (r := (.goto 98, 3, 0, 0, 0)) rfl rfl
theorem s208_123 {d : Nat} {ls : mj_L} {st : List Value} {M : mj_H} : mj_Rn d mj_m208 123 ls st M = mq_k0 d mj_m208 125 ls M (mj_ldi (mj_lk ls 9) st) := mj_R0 (r := (.iload 9, 2, 0, 0, 0)) rfl rfl
theorem s208_125 {d : Nat} {ls : mj_L} {st : List Value} {M : mj_H} : mj_Rn d mj_m208 125 ls st M = mj_Rn d mj_m208 127 ls (.int 8 :: st) M := mj_R0 (r := (.bipush 8, 2, 0, 0, 0)) rfl rfl
theorem s208_127 {d : Nat} {ls : mj_L} {st : List Value} {M : mj_H} : mj_Rn d mj_m208 127 ls st M = mq_k0 d mj_m208 128 ls M (mj_pu .iand ls st) := mj_R0 (r := (.iand, 1, 0, 0, 0)) rfl rfl
theorem s208_128 {d : Nat} {ls : mj_L} {st : List Value} {M : mj_H} : mj_Rn d mj_m208 128 ls st M = mq_k2 d mj_m208 ls M (mj_br (.ifCond .eq 7) 128 st) := mj_R2 (r := (.ifCond .eq 7, 3, 0, 0, 0)) rfl rfl
theorem s208_131 {d : Nat} {ls : mj_L} {st : List Value} {M : mj_H} : mj_Rn d mj_m208 131 ls st M = mj_Rn d mj_m208 132 ls (.null :: st) M := mj_R0 (r := (.aconst_null, 1, 0, 0, 0)) rfl rfl
theorem s208_132 {d : Nat} {ls : mj_L} {st : List Value} {M : mj_H} : mj_Rn d mj_m208 132 ls st M = mj_Rn d mj_m208 137 ls st M := mj_R2 (r := (.goto 5, 3, 0, 0, 0)) rfl rfl
theorem s208_135 {d : Nat} {ls : mj_L} {st : List Value} {M : mj_H} : mj_Rn d mj_m208 135 ls st M = mq_k0 d mj_m208 137 ls M (mj_lda (mj_lk ls 12) st) := mj_R0 (r := (.aload 12, 2, 0, 0, 0)) rfl rfl
theorem s208_137 {d : Nat} {ls : mj_L} {st : List Value} {M : mj_H} : mj_Rn d mj_m208 137 ls st M = mq_k1 d mj_m208 139 M (mj_lo 17 (.astore 14) ls st) := mj_R1 (r := (.astore 14, 2, 0, 0, 0)) rfl rfl
theorem s208_139 {d : Nat} {ls : mj_L} {st : List Value} {M : mj_H} : mj_Rn d mj_m208 139 ls st M = mq_k0 d mj_m208 140 ls M (mj_lda (mj_lk ls 0) st) := mj_R0 (r := (.aload_n 0, 1, 0, 0, 0)) rfl rfl
theorem s208_140 {d : Nat} {ls : mj_L} {st : List Value} {M : mj_H} : mj_Rn d mj_m208 140 ls st M = mj_Rn d mj_m208 141 ls (.int 2 :: st) M := mj_R0 (r := (.iconst 2, 1, 0, 0, 0)) rfl rfl
theorem s208_141 {d : Nat} {ls : mj_L} {st : List Value} {M : mj_H} : mj_Rn d mj_m208 141 ls st M = mq_k0 d mj_m208 143 ls M (mj_ldi (mj_lk ls 13) st) := mj_R0 (r := (.iload 13, 2, 0, 0, 0)) rfl rfl
theorem s208_143 {d : Nat} {ls : mj_L} {st : List Value} {M : mj_H} : mj_Rn d mj_m208 143 ls st M = mq_k0 d mj_m208 145 ls M (mj_lda (mj_lk ls 10) st) := mj_R0 (r := (.aload 10, 2, 0, 0, 0)) rfl rfl
theorem s208_145 {d : Nat} {ls : mj_L} {st : List Value} {M : mj_H} : mj_Rn d mj_m208 145 ls st M = mq_k0 d mj_m208 148 ls M (mq_gf 3 1 st M) := (mj_R3 (r := (.getfield 200, 3, 3, 1, 8447)) rfl rfl).trans (congrArg (mq_k0 d mj_m208 148 ls M) mq_gf_eq)
theorem s208_148 {d : Nat} {ls : mj_L} {st : List Value} {M : mj_H} : mj_Rn (d + 1) mj_m208 148 ls st M = mq_k5a (d + 1) mj_m208 151 ls M 196 (mq_cb 0 3 10 st M) := mj_R5e (r := (.invokevirtual 246, 3, 0, 196, 20687)) (z := mj_m196) rfl rfl (by decide) (by decide) rfl
theorem s208_151 {d : Nat} {ls : mj_L} {st : List Value} {M : mj_H} : mj_Rn d mj_m208 151 ls st M = mq_k1 d mj_m208 153 M (mj_lo 17 (.istore 15) ls st) := mj_R1 (r := (.istore 15, 2, 0, 0, 0)) rfl rfl
theorem s208_153 {d : Nat} {ls : mj_L} {st : List Value} {M : mj_H} : mj_Rn d mj_m208 153 ls st M = mq_k0 d mj_m208 155 ls M (mj_ldi (mj_lk ls 9) st) := mj_R0 (r := (.iload 9, 2, 0, 0, 0)) rfl rfl
theorem s208_155 {d : Nat} {ls : mj_L} {st : List Value} {M : mj_H} : mj_Rn d mj_m208 155 ls st M = mj_Rn d mj_m208 156 ls (.int 2 :: st) M := mj_R0 (r := (.iconst 2, 1, 0, 0, 0)) rfl rfl
theorem s208_156 {d : Nat} {ls : mj_L} {st : List Value} {M : mj_H} : mj_Rn d mj_m208 156 ls st M = mq_k0 d mj_m208 157 ls M (mj_pu .iand ls st) := mj_R0 (r := (.iand, 1, 0, 0, 0)) rfl rfl
theorem s208_157 {d : Nat} {ls : mj_L} {st : List Value} {M : mj_H} : mj_Rn d mj_m208 157 ls st M = mq_k2 d mj_m208 ls M (mj_br (.ifCond .eq 25) 157 st) := mj_R2 (r := (.ifCond .eq 25, 3, 0, 0, 0)) rfl rfl
theorem s208_160 {d : Nat} {ls : mj_L} {st : List Value} {M : mj_H} : mj_Rn d mj_m208 160 ls st M = mq_k0 d mj_m208 162 ls M (mj_lda (mj_lk ls 10) st) := mj_R0 (r := (.aload 10, 2, 0, 0, 0)) rfl rfl
theorem s208_162 {d : Nat} {ls : mj_L} {st : List Value} {M : mj_H} : mj_Rn d mj_m208 162 ls st M = mq_k0 d mj_m208 165 ls M (mq_gf 3 4 st M) := (mj_R3 (r := (.getfield 250, 3, 3, 4, 8459)) rfl rfl).trans (congrArg (mq_k0 d mj_m208 165 ls M) mq_gf_eq)
theorem s208_165 {d : Nat} {ls : mj_L} {st : List Value} {M : mj_H} : mj_Rn d mj_m208 165 ls st M = mq_k2 d mj_m208 ls M (mj_br (.ifCond .eq 17) 165 st) := mj_R2 (r := (.ifCond .eq 17, 3, 0, 0, 0)) rfl rfl
theorem s208_168 {d : Nat} {ls : mj_L} {st : List Value} {M : mj_H} : mj_Rn d mj_m208 168 ls st M = mq_k0 d mj_m208 169 ls M (mj_lda (mj_lk ls 0) st) := mj_R0 (r := (.aload_n 0, 1, 0, 0, 0)) rfl rfl
theorem s208_169 {d : Nat} {ls : mj_L} {st : List Value} {M : mj_H} : mj_Rn d mj_m208 169 ls st M = mq_k0 d mj_m208 171 ls M (mj_lda (mj_lk ls 10) st) := mj_R0 (r := (.aload 10, 2, 0, 0, 0)) rfl rfl
theorem s208_171 {d : Nat} {ls : mj_L} {st : List Value} {M : mj_H} : mj_Rn d mj_m208 171 ls st M = mq_k0 d mj_m208 174 ls M (mq_gf 3 4 st M) := (mj_R3 (r := (.getfield 250, 3, 3, 4, 8459)) rfl rfl).trans (congrArg (mq_k0 d mj_m208 174 ls M) mq_gf_eq)
theorem s208_174 {d : Nat} {ls : mj_L} {st : List Value} {M : mj_H} : mj_Rn d mj_m208 174 ls st M = mq_k0 d mj_m208 176 ls M (mj_ldi (mj_lk ls 15) st) := mj_R0 (r := (.iload 15, 2, 0, 0, 0)) rfl rfl
theorem s208_176 {d : Nat} {ls : mj_L} {st : List Value} {M : mj_H} : mj_Rn (d + 1) mj_m208 176 ls st M = mq_k5a (d + 1) mj_m208 179 ls M 197 (mq_cb 0 2 10 st M) := mj_R5e (r := (.invokevirtual 253, 3, 0, 197, 20691)) (z := mj_m197) rfl rfl (by decide) (by decide) rfl
theorem s208_179 {d : Nat} {ls : mj_L} {st : List Value} {M : mj_H} : mj_Rn d mj_m208 179 ls st M = mj_Rn d mj_m208 183 ls st M := mj_R2 (r := (.goto 4, 3, 0, 0, 0)) rfl rfl
theorem s208_182 {d : Nat} {ls : mj_L} {st : List Value} {M : mj_H} : mj_Rn d mj_m208 182 ls st M = mj_Rn d mj_m208 183 ls (.int 0 :: st) M := mj_R0 (r := (.iconst 0, 1, 0, 0, 0)) rfl rfl
theorem s208_183 {d : Nat} {ls : mj_L} {st : List Value} {M : mj_H} : mj_Rn d mj_m208 183 ls st M = mq_k1 d mj_m208 185 M (mj_lo 17 (.istore 16) ls st) := mj_R1 (r := (.istore 16, 2, 0, 0, 0)) rfl rfl
theorem s208_185 {d : Nat} {ls : mj_L} {st : List Value} {M : mj_H} : mj_Rn d mj_m208 185 ls st M = mq_k0 d mj_m208 186 ls M (mj_lda (mj_lk ls 0) st) := mj_R0 (r := (.aload_n 0, 1, 0, 0, 0)) rfl rfl
theorem s208_186 {d : Nat} {ls : mj_L} {st : List Value} {M : mj_H} : mj_Rn d mj_m208 186 ls st M = mq_k0 d mj_m208 188 ls M (mj_ldi (mj_lk ls 15) st) := mj_R0 (r := (.iload 15, 2, 0, 0, 0)) rfl rfl
theorem s208_188 {d : Nat} {ls : mj_L} {st : List Value} {M : mj_H} : mj_Rn d mj_m208 188 ls st M = mq_k0 d mj_m208 190 ls M (mj_ldi (mj_lk ls 16) st) := mj_R0 (r := (.iload 16, 2, 0, 0, 0)) rfl rfl
theorem s208_190 {d : Nat} {ls : mj_L} {st : List Value} {M : mj_H} : mj_Rn d mj_m208 190 ls st M = mq_k0 d mj_m208 192 ls M (mj_lda (mj_lk ls 14) st) := mj_R0 (r := (.aload 14, 2, 0, 0, 0)) rfl rfl
theorem s208_192 {d : Nat} {ls : mj_L} {st : List Value} {M : mj_H} : mj_Rn d mj_m208 192 ls st M = mq_k0 d mj_m208 194 ls M (mj_ldl (mj_lk ls 5) st) := mj_R0 (r := (.lload 5, 2, 0, 0, 0)) rfl rfl
theorem s208_194 {d : Nat} {ls : mj_L} {st : List Value} {M : mj_H} : mj_Rn d mj_m208 194 ls st M = mq_k0 d mj_m208 196 ls M (mj_ldi (mj_lk ls 7) st) := mj_R0 (r := (.iload 7, 2, 0, 0, 0)) rfl rfl
theorem s208_196 {d : Nat} {ls : mj_L} {st : List Value} {M : mj_H} : mj_Rn (d + 1) mj_m208 196 ls st M = mq_k5a (d + 1) mj_m208 199 ls M 198 (mq_cb 2 2 10 st M) := mj_R5e (r := (.invokestatic 256, 3, 2, 198, 20695)) (z := mj_m198) rfl rfl (by decide) (by decide) rfl
theorem s208_199 {d : Nat} {ls : mj_L} {st : List Value} {M : mj_H} : mj_Rn d mj_m208 199 ls st M = mq_k0 d mj_m208 201 ls M (mj_ldi (mj_lk ls 7) st) := mj_R0 (r := (.iload 7, 2, 0, 0, 0)) rfl rfl
theorem s208_201 {d : Nat} {ls : mj_L} {st : List Value} {M : mj_H} : mj_Rn d mj_m208 201 ls st M = mq_k0 d mj_m208 203 ls M (mj_ldi (mj_lk ls 8) st) := mj_R0 (r := (.iload 8, 2, 0, 0, 0)) rfl rfl
theorem s208_203 {d : Nat} {ls : mj_L} {st : List Value} {M : mj_H} : mj_Rn d mj_m208 203 ls st M = mq_k0 d mj_m208 205 ls M (mj_ldi (mj_lk ls 9) st) := mj_R0 (r := (.iload 9, 2, 0, 0, 0)) rfl rfl
theorem s208_205 {d : Nat} {ls : mj_L} {st : List Value} {M : mj_H} : mj_Rn d mj_m208 205 ls st M = mj_Rn d mj_m208 206 ls (.int 1 :: st) M := mj_R0 (r := (.iconst 1, 1, 0, 0, 0)) rfl rfl
theorem s208_206 {d : Nat} {ls : mj_L} {st : List Value} {M : mj_H} : mj_Rn d mj_m208 206 ls st M = mq_k0 d mj_m208 207 ls M (mj_pu .iand ls st) := mj_R0 (r := (.iand, 1, 0, 0, 0)) rfl rfl
theorem s208_207 {d : Nat} {ls : mj_L} {st : List Value} {M : mj_H} : mj_Rn d mj_m208 207 ls st M = mq_k2 d mj_m208 ls M (mj_br (.ifCond .eq 7) 207 st) := mj_R2 (r := (.ifCond .eq 7, 3, 0, 0, 0)) rfl rfl
theorem s208_210 {d : Nat} {ls : mj_L} {st : List Value} {M : mj_H} : mj_Rn d mj_m208 210 ls st M = mj_Rn d mj_m208 211 ls (.int 1 :: st) M := mj_R0 (r := (.iconst 1, 1, 0, 0, 0)) rfl rfl
theorem s208_211 {d : Nat} {ls : mj_L} {st : List Value} {M : mj_H} : mj_Rn d mj_m208 211 ls st M = mj_Rn d mj_m208 215 ls st M := mj_R2 (r := (.goto 4, 3, 0, 0, 0)) rfl rfl
theorem s208_214 {d : Nat} {ls : mj_L} {st : List Value} {M : mj_H} : mj_Rn d mj_m208 214 ls st M = mj_Rn d mj_m208 215 ls (.int 0 :: st) M := mj_R0 (r := (.iconst 0, 1, 0, 0, 0)) rfl rfl
theorem s208_215 {d : Nat} {ls : mj_L} {st : List Value} {M : mj_H} : mj_Rn (d + 1) mj_m208 215 ls st M = mq_k5a (d + 1) mj_m208 218 ls M 209 (mq_cb 0 7 10 st M) := mj_R5e (r := (.invokevirtual 289, 3, 0, 209, 24602)) (z := mj_m209) rfl rfl (by decide) (by decide) rfl
theorem s208_218 {d : Nat} {ls : mj_L} {st : List Value} {M : mj_H} : mj_Rn d mj_m208 218 ls st M = mq_k0 d mj_m208 220 ls M (mj_lda (mj_lk ls 11) st) := mj_R0 (r := (.aload 11, 2, 0, 0, 0)) rfl rfl
theorem s208_220 {d : Nat} {ls : mj_L} {st : List Value} {M : mj_H} : mj_Rn d mj_m208 220 ls st M = mq_k0 d mj_m208 221 ls M (mj_lda (mj_lk ls 0) st) := mj_R0 (r := (.aload_n 0, 1, 0, 0, 0)) rfl rfl
theorem s208_221 {d : Nat} {ls : mj_L} {st : List Value} {M : mj_H} : mj_Rn d mj_m208 221 ls st M = mq_k0 d mj_m208 224 ls M (mq_gf 10 1 st M) := (mj_R3 (r := (.getfield 18, 3, 10, 1, 8488)) rfl rfl).trans (congrArg (mq_k0 d mj_m208 224 ls M) mq_gf_eq)
theorem s208_224 {d : Nat} {ls : mj_L} {st : List Value} {M : mj_H} : mj_Rn (d + 1) mj_m208 224 ls st M = mq_k5a (d + 1) mj_m208 227 ls M 78 (mq_cb 0 1 5 st M) := mj_R5e (r := (.invokevirtual 122, 3, 0, 78, 12435)) (z := mj_m78) rfl rfl (by decide) (by decide) rfl
theorem s208_227 {d : Nat} {ls : mj_L} {st : List Value} {M : mj_H} : mj_Rn d mj_m208 227 ls st M = mq_k1 d mj_m208 229 M (mj_lo 17 (.istore 14) ls st) := mj_R1 (r := (.istore 14, 2, 0, 0, 0)) rfl rfl
theorem s208_229 {d : Nat} {ls : mj_L} {st : List Value} {M : mj_H} : mj_Rn d mj_m208 229 ls st M = mq_k0 d mj_m208 231 ls M (mj_ldi (mj_lk ls 14) st) := mj_R0 (r := (.iload 14, 2, 0, 0, 0)) rfl rfl
theorem s208_231 {d : Nat} {ls : mj_L} {st : List Value} {M : mj_H} : mj_Rn d mj_m208 231 ls st M = mq_k2 d mj_m208 ls M (mj_br (.ifCond .ne 30) 231 st) := mj_R2 (r := (.ifCond .ne 30, 3, 0, 0, 0)) rfl rfl
theorem s208_234 {d : Nat} {ls : mj_L} {st : List Value} {M : mj_H} : mj_Rn d mj_m208 234 ls st M = mq_k0 d mj_m208 235 ls M (mj_lda (mj_lk ls 0) st) := mj_R0 (r := (.aload_n 0, 1, 0, 0, 0)) rfl rfl
theorem s208_235 {d : Nat} {ls : mj_L} {st : List Value} {M : mj_H} : mj_Rn d mj_m208 235 ls st M = mj_Rn d mj_m208 236 ls (.int 2 :: st) M := mj_R0 (r := (.iconst 2, 1, 0, 0, 0)) rfl rfl
theorem s208_236 {d : Nat} {ls : mj_L} {st : List Value} {M : mj_H} : mj_Rn d mj_m208 236 ls st M = mq_k0 d mj_m208 238 ls M (mj_ldi (mj_lk ls 13) st) := mj_R0 (r := (.iload 13, 2, 0, 0, 0)) rfl rfl
theorem s208_238 {d : Nat} {ls : mj_L} {st : List Value} {M : mj_H} : mj_Rn d mj_m208 238 ls st M = mq_k0 d mj_m208 240 ls M (mj_lda (mj_lk ls 10) st) := mj_R0 (r := (.aload 10, 2, 0, 0, 0)) rfl rfl
theorem s208_240 {d : Nat} {ls : mj_L} {st : List Value} {M : mj_H} : mj_Rn d mj_m208 240 ls st M = mq_k0 d mj_m208 243 ls M (mq_gf 3 1 st M) := (mj_R3 (r := (.getfield 200, 3, 3, 1, 8447)) rfl rfl).trans (congrArg (mq_k0 d mj_m208 243 ls M) mq_gf_eq)
theorem s208_243 {d : Nat} {ls : mj_L} {st : List Value} {M : mj_H} : mj_Rn (d + 1) mj_m208 243 ls st M = mq_k5a (d + 1) mj_m208 246 ls M 206 (mq_cb 0 3 10 st M) := mj_R5e (r := (.invokevirtual 281, 3, 0, 206, 24590)) (z := mj_m206) rfl rfl (by decide) (by decide) rfl
theorem s208_246 {d : Nat} {ls : mj_L} {st : List Value} {M : mj_H} : mj_Rn d mj_m208 246 ls st M = mq_k0 d mj_m208 247 ls M (mj_lda (mj_lk ls 0) st) := mj_R0 (r := (.aload_n 0, 1, 0, 0, 0)) rfl rfl
theorem s208_247 {d : Nat} {ls : mj_L} {st : List Value} {M : mj_H} : mj_Rn d mj_m208 247 ls st M = mq_k0 d mj_m208 249 ls M (mj_lda (mj_lk ls 11) st) := mj_R0 (r := (.aload 11, 2, 0, 0, 0)) rfl rfl
theorem s208_249 {d : Nat} {ls : mj_L} {st : List Value} {M : mj_H} : mj_Rn d mj_m208 249 ls st M = mq_k0 d mj_m208 252 ls M (mq_gf 5 3 st M) := (mj_R3 (r := (.getfield 126, 3, 5, 3, 16607)) rfl rfl).trans (congrArg (mq_k0 d mj_m208 252 ls M) mq_gf_eq)
theorem s208_252 {d : Nat} {ls : mj_L} {st : List Value} {M : mj_H} : mj_Rn d mj_m208 252 ls st M = mj_Rn d mj_m208 254 ls (.int 8 :: st) M := mj_R0 (r := (.bipush 8, 2, 0, 0, 0)) rfl rfl
theorem s208_254 {d : Nat} {ls : mj_L} {st : List Value} {M : mj_H} : mj_Rn d mj_m208 254 ls st M = mj_Rn d mj_m208 256 ls (.int 30 :: st) M := mj_R0 (r := (.bipush 30, 2, 0, 0, 0)) rfl rfl
theorem s208_256 {d : Nat} {ls : mj_L} {st : List Value} {M : mj_H} : mj_Rn d mj_m208 256 ls st M = mj_Rn d mj_m208 258 ls (.int 9 :: st) M := mj_R0 (r := (.bipush 9, 2, 0, 0, 0)) rfl rfl
theorem s208_258 {d : Nat} {ls : mj_L} {st : List Value} {M : mj_H} : mj_Rn (d + 1) mj_m208 258 ls st M = mq_k5a (d + 1) mj_m208 261 ls M 207 (mq_cb 0 4 10 st M) := mj_R5e (r := (.invokevirtual 285, 3, 0, 207, 24594)) (z := mj_m207) rfl rfl (by decide) (by decide) rfl
theorem s208_261 {d : Nat} {ls : mj_L} {st : List Value} {M : mj_H} : mj_Rn d mj_m208 261 ls st M = mq_k0 d mj_m208 263 ls M (mj_ldi (mj_lk ls 14) st) := mj_R0 (r := (.iload 14, 2, 0, 0, 0)) rfl rfl
theorem s208_263 {d : Nat} {ls : mj_L} {st : List Value} {M : mj_H} : mj_Rn d mj_m208 263 ls st M = mq_k6 M (mj_re (some .int) (.ireturn) st) := mj_R6 (r := (.ireturn, 1, 0, 0, 0)) rfl rfl
theorem c208 {d : Nat} {a0 : Nat} {x1 : Int32} {x2 : Int32} {x3 : Int32} {x4 : Int32} {x5 : Int64} {x6 : Int32} {x7 : Int32} {x8 : Int32} {M : mj_H} : mj_V (d + 1) 208 [.ref a0, .int x1, .int x2, .int x3, .int x4, .long x5, .int x6, .int x7, .int x8] M = mj_Rn d mj_m208 0 [(0, .ref a0), (1, .int x1), (2, .int x2), (3, .int x3), (4, .int x4), (5, .long x5), (7, .int x6), (8, .int x7), (9, .int x8)] [] M := mj_V_go rfl (Nat.le_of_ble_eq_true rfl)
section HZ
variable {M M' : mj_H} {H H' : Ho} {κs πs : List Nat} {row row' ms : List Int32} {d : Nat} {i l : Int32} {π : Nat} {p : Pa} {u : List Int32}
theorem gt_E {c' : Int32} {κ a b : Nat} {h : Hd} {k : Ky} (z : hm M H κs πs row ms) (hh : H.2.2.2.1[a]? = some h) (hk : H.2.2.1[b]? = some k) (hκ : κs[b]? = some κ) (hkg : kg k) (hl : H.2.1.1.length + 5 < 1000) : ∃ M' row', mj_Rn (d + 12) mj_m208 218 [(13, .int c'), (11, .ref κ), (10, .ref (46 + 5 * a)), (0, .ref 25)] [] M = some (some (.int (ky_recv ms k H.2.1).1), M') ∧ hz M' ((if (ky_recv ms k H.2.1).1 = 0 then rsp 2 c' h.2.1 (ky_recv ms k H.2.1).2.1.1.1.1.2 8 30 9 else H.1, ((H.kt b (ky_recv ms k H.2.1).2).2.1, ((H.kt b (ky_recv ms k H.2.1).2).2.2.1, ((H.kt b (ky_recv ms k H.2.1).2).2.2.2.1, (H.kt b (ky_recv ms k H.2.1).2).2.2.2.2)))) : Ho) κs πs row' ∧ hf M M' := by
  obtain ⟨x0, y0⟩ := z.fa
  obtain ⟨κ', hκ', zk⟩ := z.z.kzz hk
  rw [hκ] at hκ'
  cases hκ'
  obtain ⟨u0, t0⟩ := zk.fa
  have ha := z.z.hj hh
  obtain ⟨M1, row1, p1, z1, g1, k1⟩ := z.rcv (d := d) hk hκ hkg hl
  by_cases hs : (ky_recv ms k H.2.1).1 = 0
  · rw [if_pos hs]
    obtain ⟨M2, p2, z2, g2⟩ := h_brs (d := d + 9) z1 hh 2 c' (by decide)
    have hpl := (z1.hd a h hh).pg.len
    obtain ⟨κ', hκ', zk2⟩ := z2.kzz (show (H.2.2.1.set b (ky_recv ms k H.2.1).2.1)[b]? = some (ky_recv ms k H.2.1).2.1 from List.getElem?_set_self (List.getElem?_eq_some_iff.mp hk).1)
    rw [hκ] at hκ'
    cases hκ'
    have hlo := zk.lo
    obtain ⟨M3, p3, z3, g3⟩ := h_ers (d := d + 9) z2 zk2.re (by omega) (id := 8) (data := 30) (size := 9) (by omega) (by simp [b4_len]; omega)
    refine ⟨M3, row1, ?_, ?_, (g1.tr g2).tr g3⟩
    · have x1 := z1.ob
      have x2 := z2.ob
      have y1 := (z1.hd a h hh).ob
      obtain ⟨u2, t2⟩ := zk2.fa
      rw [hs] at p1
      have ea : 46 + 5 * a + 3 = 49 + 5 * a := by omega
      rw [ea] at y1
      rw [show nI 8 = 8 from rfl, show nI 30 = 30 from rfl, show nI 9 = 9 from rfl] at p3
      simp (disch := (first | omega | decide)) [s208_0, s208_1, s208_2, s208_5, s208_7, s208_8, s208_9, s208_12, s208_14, s208_16, s208_19, s208_21, s208_24, s208_26, s208_27, s208_29, s208_32, s208_35, s208_36, s208_38, s208_40, s208_42, s208_45, s208_48, s208_49, s208_50, s208_52, s208_55, s208_56, s208_58, s208_61, s208_64, s208_65, s208_68, s208_69, s208_71, s208_74, s208_77, s208_79, s208_80, s208_81, s208_83, s208_86, s208_88, s208_89, s208_90, s208_92, s208_95, s208_97, s208_99, s208_100, s208_101, s208_104, s208_105, s208_108, s208_111, s208_112, s208_115, s208_117, s208_120, s208_123, s208_125, s208_127, s208_128, s208_131, s208_132, s208_135, s208_137, s208_139, s208_140, s208_141, s208_143, s208_145, s208_148, s208_151, s208_153, s208_155, s208_156, s208_157, s208_160, s208_162, s208_165, s208_168, s208_169, s208_171, s208_174, s208_176, s208_179, s208_182, s208_183, s208_185, s208_186, s208_188, s208_190, s208_192, s208_194, s208_196, s208_199, s208_201, s208_203, s208_205, s208_206, s208_207, s208_210, s208_211, s208_214, s208_215, s208_218, s208_220, s208_221, s208_224, s208_227, s208_229, s208_231, s208_234, s208_235, s208_236, s208_238, s208_240, s208_243, s208_246, s208_247, s208_249, s208_252, s208_254, s208_256, s208_258, s208_261, s208_263, mq_k0s, mq_k1s, mq_k2s, mq_k4s, mq_k5s, mq_k5n, mq_k5as, mq_k6s, mj_pu, mj_lo, mj_br, mj_hr, mj_hw, mq_gf, mq_len, mq_al, mq_pf, mq_ok, mj_re, mq_lkm, mq_lkn, mj_ldi, mj_ldl, mj_lda, mj_ii, mj_ll, mj_li, mj_i1, ms_1, ms_2, f1_n, f1_i, f1_r, f1_u, f1_l, f2_n, f2_i, f2_r, f2_u, f2_l, mj_tg, mj_c1, mj_c2, mj_ar, mj_aw, mq_cb, mq_oi, mj_rm, Value.category, -getElem?_pos, List.getElem?_cons_zero, decide_eq_true, decide_eq_false, nl_lt, nl_le, ln_lt, ln_le, nl_eq, ln_eq, nl_add, ln_add, nl_sub, ln_mul, nI_sub, nI_mul, nI_add, nI_lt_iff, nI_le_iff, nI_inj, nI_num, mq_ix, nI_1, nl_mul, nl_div, x0, t0, p1, hs, x1, y1, p2, x2, t2, p3, narrow]
    · have e : (2 : Int32) :: (b4 c' ++ (nI h.2.1.length :: h.2.1)) ++ (((ky_recv ms k H.2.1).2.1.1.1.1.2.drop 8).take 4 ++ (nI 9 :: (((ky_recv ms k H.2.1).2.1.1.1.1.2.drop 30).take 9 ++ ((ky_recv ms k H.2.1).2.1.1.1.1.2.drop 41).take 4))) = rsp 2 c' h.2.1 (ky_recv ms k H.2.1).2.1.1.1.1.2 8 30 9 := by simp [rsp]
      dsimp only at z3
      rw [e] at z3
      exact z3
  · rw [if_neg hs]
    refine ⟨M1, row1, ?_, z1, g1⟩
    simp (disch := (first | omega | decide)) [s208_0, s208_1, s208_2, s208_5, s208_7, s208_8, s208_9, s208_12, s208_14, s208_16, s208_19, s208_21, s208_24, s208_26, s208_27, s208_29, s208_32, s208_35, s208_36, s208_38, s208_40, s208_42, s208_45, s208_48, s208_49, s208_50, s208_52, s208_55, s208_56, s208_58, s208_61, s208_64, s208_65, s208_68, s208_69, s208_71, s208_74, s208_77, s208_79, s208_80, s208_81, s208_83, s208_86, s208_88, s208_89, s208_90, s208_92, s208_95, s208_97, s208_99, s208_100, s208_101, s208_104, s208_105, s208_108, s208_111, s208_112, s208_115, s208_117, s208_120, s208_123, s208_125, s208_127, s208_128, s208_131, s208_132, s208_135, s208_137, s208_139, s208_140, s208_141, s208_143, s208_145, s208_148, s208_151, s208_153, s208_155, s208_156, s208_157, s208_160, s208_162, s208_165, s208_168, s208_169, s208_171, s208_174, s208_176, s208_179, s208_182, s208_183, s208_185, s208_186, s208_188, s208_190, s208_192, s208_194, s208_196, s208_199, s208_201, s208_203, s208_205, s208_206, s208_207, s208_210, s208_211, s208_214, s208_215, s208_218, s208_220, s208_221, s208_224, s208_227, s208_229, s208_231, s208_234, s208_235, s208_236, s208_238, s208_240, s208_243, s208_246, s208_247, s208_249, s208_252, s208_254, s208_256, s208_258, s208_261, s208_263, mq_k0s, mq_k1s, mq_k2s, mq_k4s, mq_k5s, mq_k5n, mq_k5as, mq_k6s, mj_pu, mj_lo, mj_br, mj_hr, mj_hw, mq_gf, mq_len, mq_al, mq_pf, mq_ok, mj_re, mq_lkm, mq_lkn, mj_ldi, mj_ldl, mj_lda, mj_ii, mj_ll, mj_li, mj_i1, ms_1, ms_2, f1_n, f1_i, f1_r, f1_u, f1_l, f2_n, f2_i, f2_r, f2_u, f2_l, mj_tg, mj_c1, mj_c2, mj_ar, mj_aw, mq_cb, mq_oi, mj_rm, Value.category, -getElem?_pos, List.getElem?_cons_zero, decide_eq_true, decide_eq_false, nl_lt, nl_le, ln_lt, ln_le, nl_eq, ln_eq, nl_add, ln_add, nl_sub, ln_mul, nI_sub, nI_mul, nI_add, nI_lt_iff, nI_le_iff, nI_inj, nI_num, mq_ix, nI_1, nl_mul, nl_div, x0, t0, p1, hs, narrow]
theorem gt_H (z : hz M H κs πs row) {c c' party how : Int32} {w : Int64} {pv pl : Value} {κ a mm nn : Nat} {h : Hd} (hh : H.2.2.2.1[a]? = some h) (hl : H.2.1.1.length + 3 < 1000) (hpv : pv = .null ∨ ∃ x, pv = .ref x) (hpl : pl = .null ∨ ∃ x, pl = .ref x) : ∃ M' row' mk hash, hash = cl_h h H.2.1 2 c' ∧ nI mk = cl_m h H.2.1 2 c' how ∧ mk ≤ 1000 ∧ hz M' ((H.1, (cl_T h H.2.1 2 c' how, (H.2.2.1, (H.2.2.2.1, H.2.2.2.2)))) : Ho) κs πs row' ∧ hf M M' ∧ ∀ q, mj_Rn (d + 12) mj_m208 185 [(16, .int (nI mk)), (15, .int hash), (14, pl), (13, .int c'), (12, pv), (11, .ref κ), (10, .ref (46 + 5 * a)), (0, .ref 25), (1, .int i), (2, .int l), (3, .int c), (4, .int party), (5, .long w), (7, .int (nI mm)), (8, .int (nI nn)), (9, .int how)] [] M' = some q → mj_Rn (d + 12) mj_m208 139 [(14, pl), (13, .int c'), (12, pv), (11, .ref κ), (10, .ref (46 + 5 * a)), (0, .ref 25), (1, .int i), (2, .int l), (3, .int c), (4, .int party), (5, .long w), (7, .int (nI mm)), (8, .int (nI nn)), (9, .int how)] [] M = some q := by
  have x0 := z.ob
  have ha := z.hj hh
  have y0 := (z.hd a h hh).ob
  obtain ⟨M1, row1, p1, z1, g1⟩ := h_chash (d := d + 7) z hh 2 c' (by omega)
  have x1 := z1.ob
  have y1 := (z1.hd a h hh).ob
  have ea : 46 + 5 * a + 3 = 49 + 5 * a := by omega
  rw [ea] at y0 y1
  have hm1 := tm_mk_len H.2.1 (chRow 2 c' h.2.1)
  by_cases hc : how &&& 2 ≠ 0 ∧ h.2.2.2.2 ≠ 0
  · obtain ⟨c1, c2⟩ := id hc
    obtain ⟨M2, row2, p2, z2, g2⟩ := h_mark (d := d + 7) z1 h.2.2.2.2 (cl_h h H.2.1 2 c') (by show (tm_mk H.2.1 (chRow 2 c' h.2.1)).1.length < 1000; omega)
    have hb := tm_no_b (tm_mk H.2.1 (chRow 2 c' h.2.1)) (mkRow h (cl_h h H.2.1 2 c'))
    refine ⟨M2, row2, tm_no (tm_mk H.2.1 (chRow 2 c' h.2.1)) (mkRow h (cl_h h H.2.1 2 c')), cl_h h H.2.1 2 c', rfl, by unfold cl_m; rw [if_pos hc], by omega, ?_, g1.tr g2, fun q hq => ?_⟩
    · have e : cl_T h H.2.1 2 c' how = tm_mk (tm_mk H.2.1 (chRow 2 c' h.2.1)) (mkRow h (cl_h h H.2.1 2 c')) := by unfold cl_T; rw [if_pos hc]
      rw [e]; exact z2
    · change mj_V (d + 12) 197 [.ref 25, .int h.2.2.2.2, .int (cl_h h H.2.1 2 c')] M1 = some (some (.int (nI (tm_no (tm_mk H.2.1 (chRow 2 c' h.2.1)) (mkRow h (cl_h h H.2.1 2 c'))))), M2) at p2
      rcases hpv with rfl | ⟨x, rfl⟩ <;> rcases hpl with rfl | ⟨y, rfl⟩ <;> (simp (disch := (first | omega | decide)) [s208_0, s208_1, s208_2, s208_5, s208_7, s208_8, s208_9, s208_12, s208_14, s208_16, s208_19, s208_21, s208_24, s208_26, s208_27, s208_29, s208_32, s208_35, s208_36, s208_38, s208_40, s208_42, s208_45, s208_48, s208_49, s208_50, s208_52, s208_55, s208_56, s208_58, s208_61, s208_64, s208_65, s208_68, s208_69, s208_71, s208_74, s208_77, s208_79, s208_80, s208_81, s208_83, s208_86, s208_88, s208_89, s208_90, s208_92, s208_95, s208_97, s208_99, s208_100, s208_101, s208_104, s208_105, s208_108, s208_111, s208_112, s208_115, s208_117, s208_120, s208_123, s208_125, s208_127, s208_128, s208_131, s208_132, s208_135, s208_137, s208_139, s208_140, s208_141, s208_143, s208_145, s208_148, s208_151, s208_153, s208_155, s208_156, s208_157, s208_160, s208_162, s208_165, s208_168, s208_169, s208_171, s208_174, s208_176, s208_179, s208_182, s208_183, s208_186, s208_188, s208_190, s208_192, s208_194, s208_196, s208_199, s208_201, s208_203, s208_205, s208_206, s208_207, s208_210, s208_211, s208_214, s208_215, s208_218, s208_220, s208_221, s208_224, s208_227, s208_229, s208_231, s208_234, s208_235, s208_236, s208_238, s208_240, s208_243, s208_246, s208_247, s208_249, s208_252, s208_254, s208_256, s208_258, s208_261, s208_263, mq_k0s, mq_k1s, mq_k2s, mq_k4s, mq_k5s, mq_k5n, mq_k5as, mq_k6s, mj_pu, mj_lo, mj_br, mj_hr, mj_hw, mq_gf, mq_len, mq_al, mq_pf, mq_ok, mj_re, mq_lkm, mq_lkn, mj_ldi, mj_ldl, mj_lda, mj_ii, mj_ll, mj_li, mj_i1, ms_1, ms_2, f1_n, f1_i, f1_r, f1_u, f1_l, f2_n, f2_i, f2_r, f2_u, f2_l, mj_tg, mj_c1, mj_c2, mj_ar, mj_aw, mq_cb, mq_oi, mj_rm, Value.category, -getElem?_pos, List.getElem?_cons_zero, decide_eq_true, decide_eq_false, nl_lt, nl_le, ln_lt, ln_le, nl_eq, ln_eq, nl_add, ln_add, nl_sub, ln_mul, nI_sub, nI_mul, nI_add, nI_lt_iff, nI_le_iff, nI_inj, nI_num, mq_ix, nI_1, nl_mul, nl_div, x0, y0, p1, c1, c2, x1, y1, p2]; exact hq)
  · refine ⟨M1, row1, 0, cl_h h H.2.1 2 c', rfl, by unfold cl_m; rw [if_neg hc, nI_0], by omega, ?_, g1, fun q hq => ?_⟩
    · have e : cl_T h H.2.1 2 c' how = tm_mk H.2.1 (chRow 2 c' h.2.1) := by unfold cl_T; rw [if_neg hc]
      rw [e]; exact z1
    · rw [nI_0] at hq
      by_cases c1 : how &&& 2 = 0
      · rcases hpv with rfl | ⟨x, rfl⟩ <;> rcases hpl with rfl | ⟨y, rfl⟩ <;> (simp (disch := (first | omega | decide)) [s208_0, s208_1, s208_2, s208_5, s208_7, s208_8, s208_9, s208_12, s208_14, s208_16, s208_19, s208_21, s208_24, s208_26, s208_27, s208_29, s208_32, s208_35, s208_36, s208_38, s208_40, s208_42, s208_45, s208_48, s208_49, s208_50, s208_52, s208_55, s208_56, s208_58, s208_61, s208_64, s208_65, s208_68, s208_69, s208_71, s208_74, s208_77, s208_79, s208_80, s208_81, s208_83, s208_86, s208_88, s208_89, s208_90, s208_92, s208_95, s208_97, s208_99, s208_100, s208_101, s208_104, s208_105, s208_108, s208_111, s208_112, s208_115, s208_117, s208_120, s208_123, s208_125, s208_127, s208_128, s208_131, s208_132, s208_135, s208_137, s208_139, s208_140, s208_141, s208_143, s208_145, s208_148, s208_151, s208_153, s208_155, s208_156, s208_157, s208_160, s208_162, s208_165, s208_168, s208_169, s208_171, s208_174, s208_176, s208_179, s208_182, s208_183, s208_186, s208_188, s208_190, s208_192, s208_194, s208_196, s208_199, s208_201, s208_203, s208_205, s208_206, s208_207, s208_210, s208_211, s208_214, s208_215, s208_218, s208_220, s208_221, s208_224, s208_227, s208_229, s208_231, s208_234, s208_235, s208_236, s208_238, s208_240, s208_243, s208_246, s208_247, s208_249, s208_252, s208_254, s208_256, s208_258, s208_261, s208_263, mq_k0s, mq_k1s, mq_k2s, mq_k4s, mq_k5s, mq_k5n, mq_k5as, mq_k6s, mj_pu, mj_lo, mj_br, mj_hr, mj_hw, mq_gf, mq_len, mq_al, mq_pf, mq_ok, mj_re, mq_lkm, mq_lkn, mj_ldi, mj_ldl, mj_lda, mj_ii, mj_ll, mj_li, mj_i1, ms_1, ms_2, f1_n, f1_i, f1_r, f1_u, f1_l, f2_n, f2_i, f2_r, f2_u, f2_l, mj_tg, mj_c1, mj_c2, mj_ar, mj_aw, mq_cb, mq_oi, mj_rm, Value.category, -getElem?_pos, List.getElem?_cons_zero, decide_eq_true, decide_eq_false, nl_lt, nl_le, ln_lt, ln_le, nl_eq, ln_eq, nl_add, ln_add, nl_sub, ln_mul, nI_sub, nI_mul, nI_add, nI_lt_iff, nI_le_iff, nI_inj, nI_num, mq_ix, nI_1, nl_mul, nl_div, x0, y0, p1, c1]; exact hq)
      · have c2 : h.2.2.2.2 = 0 := Decidable.of_not_not (fun c2 => hc ⟨c1, c2⟩)
        rcases hpv with rfl | ⟨x, rfl⟩ <;> rcases hpl with rfl | ⟨y, rfl⟩ <;> (simp (disch := (first | omega | decide)) [s208_0, s208_1, s208_2, s208_5, s208_7, s208_8, s208_9, s208_12, s208_14, s208_16, s208_19, s208_21, s208_24, s208_26, s208_27, s208_29, s208_32, s208_35, s208_36, s208_38, s208_40, s208_42, s208_45, s208_48, s208_49, s208_50, s208_52, s208_55, s208_56, s208_58, s208_61, s208_64, s208_65, s208_68, s208_69, s208_71, s208_74, s208_77, s208_79, s208_80, s208_81, s208_83, s208_86, s208_88, s208_89, s208_90, s208_92, s208_95, s208_97, s208_99, s208_100, s208_101, s208_104, s208_105, s208_108, s208_111, s208_112, s208_115, s208_117, s208_120, s208_123, s208_125, s208_127, s208_128, s208_131, s208_132, s208_135, s208_137, s208_139, s208_140, s208_141, s208_143, s208_145, s208_148, s208_151, s208_153, s208_155, s208_156, s208_157, s208_160, s208_162, s208_165, s208_168, s208_169, s208_171, s208_174, s208_176, s208_179, s208_182, s208_183, s208_186, s208_188, s208_190, s208_192, s208_194, s208_196, s208_199, s208_201, s208_203, s208_205, s208_206, s208_207, s208_210, s208_211, s208_214, s208_215, s208_218, s208_220, s208_221, s208_224, s208_227, s208_229, s208_231, s208_234, s208_235, s208_236, s208_238, s208_240, s208_243, s208_246, s208_247, s208_249, s208_252, s208_254, s208_256, s208_258, s208_261, s208_263, mq_k0s, mq_k1s, mq_k2s, mq_k4s, mq_k5s, mq_k5n, mq_k5as, mq_k6s, mj_pu, mj_lo, mj_br, mj_hr, mj_hw, mq_gf, mq_len, mq_al, mq_pf, mq_ok, mj_re, mq_lkm, mq_lkn, mj_ldi, mj_ldl, mj_lda, mj_ii, mj_ll, mj_li, mj_i1, ms_1, ms_2, f1_n, f1_i, f1_r, f1_u, f1_l, f2_n, f2_i, f2_r, f2_u, f2_l, mj_tg, mj_c1, mj_c2, mj_ar, mj_aw, mq_cb, mq_oi, mj_rm, Value.category, -getElem?_pos, List.getElem?_cons_zero, decide_eq_true, decide_eq_false, nl_lt, nl_le, ln_lt, ln_le, nl_eq, ln_eq, nl_add, ln_add, nl_sub, ln_mul, nI_sub, nI_mul, nI_add, nI_lt_iff, nI_le_iff, nI_inj, nI_num, mq_ix, nI_1, nl_mul, nl_div, x0, y0, p1, c1, x1, y1, c2]; exact hq)
theorem sg_msg (hash mark how : Int32) (name : List Int32) (l : List Ac) {mk : Nat} (hmk : nI mk = mark) (hm0 : mk ≤ 1000) : sgBase hash (nI (162 + ((if !l.isEmpty then 1 else 0) + ((if !decide (how &&& 1 = 0) then 1 else 0) + (if !decide (mk = 0) then 2 else 0))))) name ++ (acMsg 3 l ++ (optM (!decide (how &&& 1 = 0)) 5 [98, 117, 112] 244 ++ mrkM (nI mk) 6 7)) = sgMsg hash mark name l how := by
  have hh : nI (162 + ((if !l.isEmpty then 1 else 0) + ((if !decide (how &&& 1 = 0) then 1 else 0) + (if !decide (mk = 0) then 2 else 0)))) = 162 + (if l = [] then 0 else 1) + (how &&& 1) + (if mark = 0 then 0 else 2) := by
    have hl : (l = []) ↔ l.isEmpty = true := by cases l <;> simp
    have hmz : (mark = 0) ↔ mk = 0 := by
      rw [← hmk]; exact nl_eq (a := mk) (n := 0) (by omega) rfl
    simp only [hl, hmz]
    cases l.isEmpty <;> rcases and1 how with h1 | h1 <;> by_cases h0 : mk = 0 <;> simp [h1, h0] <;> rfl
  rw [hh]
  unfold sgBase sgMsg mrkM optM
  rw [hmk]
  rcases and1 how with h1 | h1 <;> simp [h1]
/-- the message of get, and what it takes of the terms -/
theorem gt_M (z : hz M H κs πs row) {c c' party how : Int32} {w : Int64} {pv : Value} {po : Option Pa} {κ a mm nn : Nat} {h : Hd} (hh : H.2.2.2.1[a]? = some h) (hl : H.2.1.1.length + 20 < 1000) (hpv : pv_ok H πs pv po) (hoA : ∀ p ∈ H.2.2.2.2, okA p) (hm8 : 1 ≤ mm ∧ mm ≤ 8) (hn : 1 ≤ nn ∧ nn ≤ 24) (hnt : nn ≤ H.1.length) :
    ∃ M' row', hm M' ((H.1, (if how &&& 4 ≠ 0 then H.2.1 else cl_T h H.2.1 2 c' how, (H.2.2.1, (H.2.2.2.1, H.2.2.2.2)))) : Ho) κs πs row' (if how &&& 4 ≠ 0 then [8] else sgMsg (cl_h h H.2.1 2 c') (cl_m h H.2.1 2 c' how) (H.1.take nn) (if how &&& 8 ≠ 0 then [] else acOf po (bt_low w mm)) how) ∧ hf M M' ∧ ∀ q, mj_Rn (d + 12) mj_m208 218 [(13, .int c'), (11, .ref κ), (10, .ref (46 + 5 * a)), (0, .ref 25)] [] M' = some q → mj_Rn (d + 12) mj_m208 97 [(13, .int c'), (12, pv), (11, .ref κ), (10, .ref (46 + 5 * a)), (0, .ref 25), (1, .int i), (2, .int l), (3, .int c), (4, .int party), (5, .long w), (7, .int (nI mm)), (8, .int (nI nn)), (9, .int how)] [] M = some q := by
  have hsh := hpv.sh
  by_cases h4 : how &&& 4 = 0; rotate_left
  · rw [if_pos h4, if_pos h4]
    obtain ⟨ms0, hb0⟩ := z.ms
    have z0 : hm M H κs πs row ms0 := (hm_mk_ z hb0)
    obtain ⟨x0, y0⟩ := z0.fa
    obtain ⟨M1, p1, z1, g1⟩ := hm_clear (d := d + 11) z0
    obtain ⟨x1, y1⟩ := z1.fa
    obtain ⟨M2, p2, z2, g2⟩ := hm_pushX (d := d + 11) z1 8 [8] (by rfl) (by simp)
    refine ⟨M2, row, z2, g1.tr g2, fun q hq => ?_⟩
    rcases hsh with rfl | ⟨x, rfl⟩ <;> (simp (disch := (first | omega | decide)) [s208_0, s208_1, s208_2, s208_5, s208_7, s208_8, s208_9, s208_12, s208_14, s208_16, s208_19, s208_21, s208_24, s208_26, s208_27, s208_29, s208_32, s208_35, s208_36, s208_38, s208_40, s208_42, s208_45, s208_48, s208_49, s208_50, s208_52, s208_55, s208_56, s208_58, s208_61, s208_64, s208_65, s208_68, s208_69, s208_71, s208_74, s208_77, s208_79, s208_80, s208_81, s208_83, s208_86, s208_88, s208_89, s208_90, s208_92, s208_95, s208_97, s208_99, s208_100, s208_101, s208_104, s208_105, s208_108, s208_111, s208_112, s208_115, s208_117, s208_120, s208_123, s208_125, s208_127, s208_128, s208_131, s208_132, s208_135, s208_137, s208_139, s208_140, s208_141, s208_143, s208_145, s208_148, s208_151, s208_153, s208_155, s208_156, s208_157, s208_160, s208_162, s208_165, s208_168, s208_169, s208_171, s208_174, s208_176, s208_179, s208_182, s208_183, s208_185, s208_186, s208_188, s208_190, s208_192, s208_194, s208_196, s208_199, s208_201, s208_203, s208_205, s208_206, s208_207, s208_210, s208_211, s208_214, s208_215, s208_220, s208_221, s208_224, s208_227, s208_229, s208_231, s208_234, s208_235, s208_236, s208_238, s208_240, s208_243, s208_246, s208_247, s208_249, s208_252, s208_254, s208_256, s208_258, s208_261, s208_263, mq_k0s, mq_k1s, mq_k2s, mq_k4s, mq_k5s, mq_k5n, mq_k5as, mq_k6s, mj_pu, mj_lo, mj_br, mj_hr, mj_hw, mq_gf, mq_len, mq_al, mq_pf, mq_ok, mj_re, mq_lkm, mq_lkn, mj_ldi, mj_ldl, mj_lda, mj_ii, mj_ll, mj_li, mj_i1, ms_1, ms_2, f1_n, f1_i, f1_r, f1_u, f1_l, f2_n, f2_i, f2_r, f2_u, f2_l, mj_tg, mj_c1, mj_c2, mj_ar, mj_aw, mq_cb, mq_oi, mj_rm, Value.category, -getElem?_pos, List.getElem?_cons_zero, decide_eq_true, decide_eq_false, nl_lt, nl_le, ln_lt, ln_le, nl_eq, ln_eq, nl_add, ln_add, nl_sub, ln_mul, nI_sub, nI_mul, nI_add, nI_lt_iff, nI_le_iff, nI_inj, nI_num, mq_ix, nI_1, nl_mul, nl_div, h4, x0, y0, p1, x1, y1, p2]; refine mq_wk ?_ hq; simp [mq_sub, mj_lk])
  · rw [if_neg (by simp [h4]), if_neg (by simp [h4])]
    have ha := z.hj hh
    -- the list
    obtain ⟨pl, hpl, hplk⟩ : ∃ pl, pv_ok H πs pl (if how &&& 8 ≠ 0 then none else po) ∧ ∀ q, mj_Rn (d + 12) mj_m208 139 [(14, pl), (13, .int c'), (12, pv), (11, .ref κ), (10, .ref (46 + 5 * a)), (0, .ref 25), (1, .int i), (2, .int l), (3, .int c), (4, .int party), (5, .long w), (7, .int (nI mm)), (8, .int (nI nn)), (9, .int how)] [] M = some q → mj_Rn (d + 12) mj_m208 97 [(13, .int c'), (12, pv), (11, .ref κ), (10, .ref (46 + 5 * a)), (0, .ref 25), (1, .int i), (2, .int l), (3, .int c), (4, .int party), (5, .long w), (7, .int (nI mm)), (8, .int (nI nn)), (9, .int how)] [] M = some q := by
      by_cases h8 : how &&& 8 = 0
      · refine ⟨pv, by rw [if_neg (by simp [h8])]; exact hpv, fun q hq => ?_⟩
        rcases hsh with rfl | ⟨x, rfl⟩ <;> (simp (disch := (first | omega | decide)) [s208_0, s208_1, s208_2, s208_5, s208_7, s208_8, s208_9, s208_12, s208_14, s208_16, s208_19, s208_21, s208_24, s208_26, s208_27, s208_29, s208_32, s208_35, s208_36, s208_38, s208_40, s208_42, s208_45, s208_48, s208_49, s208_50, s208_52, s208_55, s208_56, s208_58, s208_61, s208_64, s208_65, s208_68, s208_69, s208_71, s208_74, s208_77, s208_79, s208_80, s208_81, s208_83, s208_86, s208_88, s208_89, s208_90, s208_92, s208_95, s208_97, s208_99, s208_100, s208_101, s208_104, s208_105, s208_108, s208_111, s208_112, s208_115, s208_117, s208_120, s208_123, s208_125, s208_127, s208_128, s208_131, s208_132, s208_135, s208_137, s208_140, s208_141, s208_143, s208_145, s208_148, s208_151, s208_153, s208_155, s208_156, s208_157, s208_160, s208_162, s208_165, s208_168, s208_169, s208_171, s208_174, s208_176, s208_179, s208_182, s208_183, s208_185, s208_186, s208_188, s208_190, s208_192, s208_194, s208_196, s208_199, s208_201, s208_203, s208_205, s208_206, s208_207, s208_210, s208_211, s208_214, s208_215, s208_218, s208_220, s208_221, s208_224, s208_227, s208_229, s208_231, s208_234, s208_235, s208_236, s208_238, s208_240, s208_243, s208_246, s208_247, s208_249, s208_252, s208_254, s208_256, s208_258, s208_261, s208_263, mq_k0s, mq_k1s, mq_k2s, mq_k4s, mq_k5s, mq_k5n, mq_k5as, mq_k6s, mj_pu, mj_lo, mj_br, mj_hr, mj_hw, mq_gf, mq_len, mq_al, mq_pf, mq_ok, mj_re, mq_lkm, mq_lkn, mj_ldi, mj_ldl, mj_lda, mj_ii, mj_ll, mj_li, mj_i1, ms_1, ms_2, f1_n, f1_i, f1_r, f1_u, f1_l, f2_n, f2_i, f2_r, f2_u, f2_l, mj_tg, mj_c1, mj_c2, mj_ar, mj_aw, mq_cb, mq_oi, mj_rm, Value.category, -getElem?_pos, List.getElem?_cons_zero, decide_eq_true, decide_eq_false, nl_lt, nl_le, ln_lt, ln_le, nl_eq, ln_eq, nl_add, ln_add, nl_sub, ln_mul, nI_sub, nI_mul, nI_add, nI_lt_iff, nI_le_iff, nI_inj, nI_num, mq_ix, nI_1, nl_mul, nl_div, h4, h8]; exact hq)
      · refine ⟨.null, by rw [if_pos h8]; exact (pv_ok_mk_ (Or.inl ⟨rfl, rfl⟩)), fun q hq => ?_⟩
        rcases hsh with rfl | ⟨x, rfl⟩ <;> (simp (disch := (first | omega | decide)) [s208_0, s208_1, s208_2, s208_5, s208_7, s208_8, s208_9, s208_12, s208_14, s208_16, s208_19, s208_21, s208_24, s208_26, s208_27, s208_29, s208_32, s208_35, s208_36, s208_38, s208_40, s208_42, s208_45, s208_48, s208_49, s208_50, s208_52, s208_55, s208_56, s208_58, s208_61, s208_64, s208_65, s208_68, s208_69, s208_71, s208_74, s208_77, s208_79, s208_80, s208_81, s208_83, s208_86, s208_88, s208_89, s208_90, s208_92, s208_95, s208_97, s208_99, s208_100, s208_101, s208_104, s208_105, s208_108, s208_111, s208_112, s208_115, s208_117, s208_120, s208_123, s208_125, s208_127, s208_128, s208_131, s208_132, s208_135, s208_137, s208_140, s208_141, s208_143, s208_145, s208_148, s208_151, s208_153, s208_155, s208_156, s208_157, s208_160, s208_162, s208_165, s208_168, s208_169, s208_171, s208_174, s208_176, s208_179, s208_182, s208_183, s208_185, s208_186, s208_188, s208_190, s208_192, s208_194, s208_196, s208_199, s208_201, s208_203, s208_205, s208_206, s208_207, s208_210, s208_211, s208_214, s208_215, s208_218, s208_220, s208_221, s208_224, s208_227, s208_229, s208_231, s208_234, s208_235, s208_236, s208_238, s208_240, s208_243, s208_246, s208_247, s208_249, s208_252, s208_254, s208_256, s208_258, s208_261, s208_263, mq_k0s, mq_k1s, mq_k2s, mq_k4s, mq_k5s, mq_k5n, mq_k5as, mq_k6s, mj_pu, mj_lo, mj_br, mj_hr, mj_hw, mq_gf, mq_len, mq_al, mq_pf, mq_ok, mj_re, mq_lkm, mq_lkn, mj_ldi, mj_ldl, mj_lda, mj_ii, mj_ll, mj_li, mj_i1, ms_1, ms_2, f1_n, f1_i, f1_r, f1_u, f1_l, f2_n, f2_i, f2_r, f2_u, f2_l, mj_tg, mj_c1, mj_c2, mj_ar, mj_aw, mq_cb, mq_oi, mj_rm, Value.category, -getElem?_pos, List.getElem?_cons_zero, decide_eq_true, decide_eq_false, nl_lt, nl_le, ln_lt, ln_le, nl_eq, ln_eq, nl_add, ln_add, nl_sub, ln_mul, nI_sub, nI_mul, nI_add, nI_lt_iff, nI_le_iff, nI_inj, nI_num, mq_ix, nI_1, nl_mul, nl_div, h4, h8]; exact hq)
    have hpls := hpl.sh
    obtain ⟨M1, row1, mk, hash, e1, e2, hmk, z1, g1, q1⟩ := gt_H (i := i) (l := l) (d := d) (c := c) (c' := c') (party := party) (how := how) (w := w) (pv := pv) (pl := pl) (κ := κ) (mm := mm) (nn := nn) z hh (by omega) hsh hpls
    have x1 := z1.ob
    have v0 := j_lowest (d := d + 11) (M := M1) w hm8
    have hul : (bt_low w mm).length ≤ 8 := by rw [bt_low_len]; exact hm8.2
    have h8b : ∀ v ∈ bt_low w mm, v &&& 255 = v := bt_low_by _ _
    have bl := bt_low_len w mm
    have hb1 : (if (how &&& 1 = 0) then (0 : Int32) else 1) = on1 (!decide (how &&& 1 = 0)) := by by_cases h1 : how &&& 1 = 0 <;> simp [h1, on1]
    have eLL : (if how &&& 8 ≠ 0 then [] else acOf po (bt_low w mm)) = acOf (if how &&& 8 ≠ 0 then none else po) (bt_low w mm) := by split <;> rfl
    rw [eLL]
    rcases hpl.h with ⟨rfl, hpo⟩ | ⟨j, π, p, rfl, hpo, hp, hπ⟩
    · rw [hpo]
      obtain ⟨M2, p2, z2, g2⟩ := h_ws0 (d := d + 5) (u := bt_low w mm) (mk := mk) (n := nn) (b := !decide (how &&& 1 = 0)) z1 hash hmk hn hnt hul
      have em := sg_msg hash (cl_m h H.2.1 2 c' how) how (H.1.take nn) [] e2 hmk
      simp only [List.isEmpty_nil, Bool.not_true, if_false, Bool.false_eq_true, show acMsg 3 [] = [] from rfl, List.nil_append] at em
      rw [em, e1] at z2
      refine ⟨M2, row1, z2, g1.tr g2, fun q hq => hplk _ (q1 _ ?_)⟩
      rw [bl] at p2
      subst e1
      rcases and1 how with h1 | h1
      · simp only [h1, decide_true, Bool.not_true, on1_f] at p2
        rcases hsh with rfl | ⟨x, rfl⟩ <;> (simp (disch := (first | omega | decide)) [s208_0, s208_1, s208_2, s208_5, s208_7, s208_8, s208_9, s208_12, s208_14, s208_16, s208_19, s208_21, s208_24, s208_26, s208_27, s208_29, s208_32, s208_35, s208_36, s208_38, s208_40, s208_42, s208_45, s208_48, s208_49, s208_50, s208_52, s208_55, s208_56, s208_58, s208_61, s208_64, s208_65, s208_68, s208_69, s208_71, s208_74, s208_77, s208_79, s208_80, s208_81, s208_83, s208_86, s208_88, s208_89, s208_90, s208_92, s208_95, s208_97, s208_99, s208_100, s208_101, s208_104, s208_105, s208_108, s208_111, s208_112, s208_115, s208_117, s208_120, s208_123, s208_125, s208_127, s208_128, s208_131, s208_132, s208_135, s208_137, s208_139, s208_140, s208_141, s208_143, s208_145, s208_148, s208_151, s208_153, s208_155, s208_156, s208_157, s208_160, s208_162, s208_165, s208_168, s208_169, s208_171, s208_174, s208_176, s208_179, s208_182, s208_183, s208_185, s208_186, s208_188, s208_190, s208_192, s208_194, s208_196, s208_199, s208_201, s208_203, s208_205, s208_206, s208_207, s208_210, s208_211, s208_214, s208_215, s208_220, s208_221, s208_224, s208_227, s208_229, s208_231, s208_234, s208_235, s208_236, s208_238, s208_240, s208_243, s208_246, s208_247, s208_249, s208_252, s208_254, s208_256, s208_258, s208_261, s208_263, mq_k0s, mq_k1s, mq_k2s, mq_k4s, mq_k5s, mq_k5n, mq_k5as, mq_k6s, mj_pu, mj_lo, mj_br, mj_hr, mj_hw, mq_gf, mq_len, mq_al, mq_pf, mq_ok, mj_re, mq_lkm, mq_lkn, mj_ldi, mj_ldl, mj_lda, mj_ii, mj_ll, mj_li, mj_i1, ms_1, ms_2, f1_n, f1_i, f1_r, f1_u, f1_l, f2_n, f2_i, f2_r, f2_u, f2_l, mj_tg, mj_c1, mj_c2, mj_ar, mj_aw, mq_cb, mq_oi, mj_rm, Value.category, -getElem?_pos, List.getElem?_cons_zero, decide_eq_true, decide_eq_false, nl_lt, nl_le, ln_lt, ln_le, nl_eq, ln_eq, nl_add, ln_add, nl_sub, ln_mul, nI_sub, nI_mul, nI_add, nI_lt_iff, nI_le_iff, nI_inj, nI_num, mq_ix, nI_1, nl_mul, nl_div, v0, h1, x1, p2]; refine mq_wk ?_ hq; simp [mq_sub, mj_lk])
      · rw [show (!decide (how &&& 1 = 0)) = true from by rw [h1]; rfl, on1_t] at p2
        rcases hsh with rfl | ⟨x, rfl⟩ <;> (simp (disch := (first | omega | decide)) [s208_0, s208_1, s208_2, s208_5, s208_7, s208_8, s208_9, s208_12, s208_14, s208_16, s208_19, s208_21, s208_24, s208_26, s208_27, s208_29, s208_32, s208_35, s208_36, s208_38, s208_40, s208_42, s208_45, s208_48, s208_49, s208_50, s208_52, s208_55, s208_56, s208_58, s208_61, s208_64, s208_65, s208_68, s208_69, s208_71, s208_74, s208_77, s208_79, s208_80, s208_81, s208_83, s208_86, s208_88, s208_89, s208_90, s208_92, s208_95, s208_97, s208_99, s208_100, s208_101, s208_104, s208_105, s208_108, s208_111, s208_112, s208_115, s208_117, s208_120, s208_123, s208_125, s208_127, s208_128, s208_131, s208_132, s208_135, s208_137, s208_139, s208_140, s208_141, s208_143, s208_145, s208_148, s208_151, s208_153, s208_155, s208_156, s208_157, s208_160, s208_162, s208_165, s208_168, s208_169, s208_171, s208_174, s208_176, s208_179, s208_182, s208_183, s208_185, s208_186, s208_188, s208_190, s208_192, s208_194, s208_196, s208_199, s208_201, s208_203, s208_205, s208_206, s208_207, s208_210, s208_211, s208_214, s208_215, s208_220, s208_221, s208_224, s208_227, s208_229, s208_231, s208_234, s208_235, s208_236, s208_238, s208_240, s208_243, s208_246, s208_247, s208_249, s208_252, s208_254, s208_256, s208_258, s208_261, s208_263, mq_k0s, mq_k1s, mq_k2s, mq_k4s, mq_k5s, mq_k5n, mq_k5as, mq_k6s, mj_pu, mj_lo, mj_br, mj_hr, mj_hw, mq_gf, mq_len, mq_al, mq_pf, mq_ok, mj_re, mq_lkm, mq_lkn, mj_ldi, mj_ldl, mj_lda, mj_ii, mj_ll, mj_li, mj_i1, ms_1, ms_2, f1_n, f1_i, f1_r, f1_u, f1_l, f2_n, f2_i, f2_r, f2_u, f2_l, mj_tg, mj_c1, mj_c2, mj_ar, mj_aw, mq_cb, mq_oi, mj_rm, Value.category, -getElem?_pos, List.getElem?_cons_zero, decide_eq_true, decide_eq_false, nl_lt, nl_le, ln_lt, ln_le, nl_eq, ln_eq, nl_add, ln_add, nl_sub, ln_mul, nI_sub, nI_mul, nI_add, nI_lt_iff, nI_le_iff, nI_inj, nI_num, mq_ix, nI_1, nl_mul, nl_div, v0, h1, x1, p2]; refine mq_wk ?_ hq; simp [mq_sub, mj_lk])
    · rw [hpo]
      obtain ⟨M2, p2, z2, g2⟩ := h_ws1 (d := d + 5) (u := bt_low w mm) (mk := mk) (n := nn) (b := !decide (how &&& 1 = 0)) z1 hash hp hπ (hoA p (List.mem_of_getElem? hp)) h8b hmk hn hnt hul
      have em := sg_msg hash (cl_m h H.2.1 2 c' how) how (H.1.take nn) (acF p (bt_low w mm)) e2 hmk
      dsimp only at z2
      rw [em, e1] at z2
      refine ⟨M2, row1, z2, g1.tr g2, fun q hq => hplk _ (q1 _ ?_)⟩
      rw [bl] at p2
      subst e1
      rcases and1 how with h1 | h1
      · simp only [h1, decide_true, Bool.not_true, on1_f] at p2
        rcases hsh with rfl | ⟨x, rfl⟩ <;> (simp (disch := (first | omega | decide)) [s208_0, s208_1, s208_2, s208_5, s208_7, s208_8, s208_9, s208_12, s208_14, s208_16, s208_19, s208_21, s208_24, s208_26, s208_27, s208_29, s208_32, s208_35, s208_36, s208_38, s208_40, s208_42, s208_45, s208_48, s208_49, s208_50, s208_52, s208_55, s208_56, s208_58, s208_61, s208_64, s208_65, s208_68, s208_69, s208_71, s208_74, s208_77, s208_79, s208_80, s208_81, s208_83, s208_86, s208_88, s208_89, s208_90, s208_92, s208_95, s208_97, s208_99, s208_100, s208_101, s208_104, s208_105, s208_108, s208_111, s208_112, s208_115, s208_117, s208_120, s208_123, s208_125, s208_127, s208_128, s208_131, s208_132, s208_135, s208_137, s208_139, s208_140, s208_141, s208_143, s208_145, s208_148, s208_151, s208_153, s208_155, s208_156, s208_157, s208_160, s208_162, s208_165, s208_168, s208_169, s208_171, s208_174, s208_176, s208_179, s208_182, s208_183, s208_185, s208_186, s208_188, s208_190, s208_192, s208_194, s208_196, s208_199, s208_201, s208_203, s208_205, s208_206, s208_207, s208_210, s208_211, s208_214, s208_215, s208_220, s208_221, s208_224, s208_227, s208_229, s208_231, s208_234, s208_235, s208_236, s208_238, s208_240, s208_243, s208_246, s208_247, s208_249, s208_252, s208_254, s208_256, s208_258, s208_261, s208_263, mq_k0s, mq_k1s, mq_k2s, mq_k4s, mq_k5s, mq_k5n, mq_k5as, mq_k6s, mj_pu, mj_lo, mj_br, mj_hr, mj_hw, mq_gf, mq_len, mq_al, mq_pf, mq_ok, mj_re, mq_lkm, mq_lkn, mj_ldi, mj_ldl, mj_lda, mj_ii, mj_ll, mj_li, mj_i1, ms_1, ms_2, f1_n, f1_i, f1_r, f1_u, f1_l, f2_n, f2_i, f2_r, f2_u, f2_l, mj_tg, mj_c1, mj_c2, mj_ar, mj_aw, mq_cb, mq_oi, mj_rm, Value.category, -getElem?_pos, List.getElem?_cons_zero, decide_eq_true, decide_eq_false, nl_lt, nl_le, ln_lt, ln_le, nl_eq, ln_eq, nl_add, ln_add, nl_sub, ln_mul, nI_sub, nI_mul, nI_add, nI_lt_iff, nI_le_iff, nI_inj, nI_num, mq_ix, nI_1, nl_mul, nl_div, v0, h1, x1, p2]; refine mq_wk ?_ hq; simp [mq_sub, mj_lk])
      · rw [show (!decide (how &&& 1 = 0)) = true from by rw [h1]; rfl, on1_t] at p2
        rcases hsh with rfl | ⟨x, rfl⟩ <;> (simp (disch := (first | omega | decide)) [s208_0, s208_1, s208_2, s208_5, s208_7, s208_8, s208_9, s208_12, s208_14, s208_16, s208_19, s208_21, s208_24, s208_26, s208_27, s208_29, s208_32, s208_35, s208_36, s208_38, s208_40, s208_42, s208_45, s208_48, s208_49, s208_50, s208_52, s208_55, s208_56, s208_58, s208_61, s208_64, s208_65, s208_68, s208_69, s208_71, s208_74, s208_77, s208_79, s208_80, s208_81, s208_83, s208_86, s208_88, s208_89, s208_90, s208_92, s208_95, s208_97, s208_99, s208_100, s208_101, s208_104, s208_105, s208_108, s208_111, s208_112, s208_115, s208_117, s208_120, s208_123, s208_125, s208_127, s208_128, s208_131, s208_132, s208_135, s208_137, s208_139, s208_140, s208_141, s208_143, s208_145, s208_148, s208_151, s208_153, s208_155, s208_156, s208_157, s208_160, s208_162, s208_165, s208_168, s208_169, s208_171, s208_174, s208_176, s208_179, s208_182, s208_183, s208_185, s208_186, s208_188, s208_190, s208_192, s208_194, s208_196, s208_199, s208_201, s208_203, s208_205, s208_206, s208_207, s208_210, s208_211, s208_214, s208_215, s208_220, s208_221, s208_224, s208_227, s208_229, s208_231, s208_234, s208_235, s208_236, s208_238, s208_240, s208_243, s208_246, s208_247, s208_249, s208_252, s208_254, s208_256, s208_258, s208_261, s208_263, mq_k0s, mq_k1s, mq_k2s, mq_k4s, mq_k5s, mq_k5n, mq_k5as, mq_k6s, mj_pu, mj_lo, mj_br, mj_hr, mj_hw, mq_gf, mq_len, mq_al, mq_pf, mq_ok, mj_re, mq_lkm, mq_lkn, mj_ldi, mj_ldl, mj_lda, mj_ii, mj_ll, mj_li, mj_i1, ms_1, ms_2, f1_n, f1_i, f1_r, f1_u, f1_l, f2_n, f2_i, f2_r, f2_u, f2_l, mj_tg, mj_c1, mj_c2, mj_ar, mj_aw, mq_cb, mq_oi, mj_rm, Value.category, -getElem?_pos, List.getElem?_cons_zero, decide_eq_true, decide_eq_false, nl_lt, nl_le, ln_lt, ln_le, nl_eq, ln_eq, nl_add, ln_add, nl_sub, ln_mul, nI_sub, nI_mul, nI_add, nI_lt_iff, nI_le_iff, nI_inj, nI_num, mq_ix, nI_1, nl_mul, nl_div, v0, h1, x1, p2]; refine mq_wk ?_ hq; simp [mq_sub, mj_lk])
end HZ
end
/- 9o.hg -/
section
set_option maxRecDepth 512
/-! Class: the house: get, the whole. -/
section HZ
variable {M M' : mj_H} {H H' : Ho} {κs πs : List Nat} {row row' ms : List Int32} {d : Nat} {i l : Int32} {π : Nat} {p : Pa} {u : List Int32}
theorem h_get (z : hz M H κs πs row) (c party : Int32) (w : Int64) (m n how : Int32) (hg : ∀ k ∈ H.2.2.1, kg k) (hl : H.2.1.1.length + 20 < 1000) (hoA : ∀ p ∈ H.2.2.2.2, okA p) : ∃ M' row', mj_V (d + 13) 208 [.ref 25, .int i, .int l, .int c, .int party, .long w, .int m, .int n, .int how] M = some (some (.int (ho_get H i l c party w m n how).1), M') ∧ hz M' (ho_get H i l c party w m n how).2 κs πs row' ∧ hf M M' := by
  have x0 := z.ob
  have w0 := j_in (d := d + 11) (v := how) (a := 0) (b := 15) (M := M)
  have w1 := h_fit (d := d + 10) z party m n
  unfold ho_get
  cases hia : ix i 4 with
  | none =>
    have v0 := h_hanN (d := d + 11) z hia
    refine ⟨M, row, ?_, z, hf.rf⟩
    cases hib : ix l H.2.2.1.length with
    | none =>
      have v1 := h_keyN (d := d + 11) z hib
      simp (disch := (first | omega | decide)) [c208, s208_0, s208_1, s208_2, s208_5, s208_7, s208_8, s208_9, s208_12, s208_14, s208_16, s208_19, s208_21, s208_24, s208_26, s208_27, s208_29, s208_32, s208_35, s208_36, s208_38, s208_40, s208_42, s208_45, s208_48, s208_49, s208_50, s208_52, s208_55, s208_56, s208_58, s208_61, s208_64, s208_65, s208_68, s208_69, s208_71, s208_74, s208_77, s208_79, s208_80, s208_81, s208_83, s208_86, s208_88, s208_89, s208_90, s208_92, s208_95, s208_97, s208_99, s208_100, s208_101, s208_104, s208_105, s208_108, s208_111, s208_112, s208_115, s208_117, s208_120, s208_123, s208_125, s208_127, s208_128, s208_131, s208_132, s208_135, s208_137, s208_139, s208_140, s208_141, s208_143, s208_145, s208_148, s208_151, s208_153, s208_155, s208_156, s208_157, s208_160, s208_162, s208_165, s208_168, s208_169, s208_171, s208_174, s208_176, s208_179, s208_182, s208_183, s208_185, s208_186, s208_188, s208_190, s208_192, s208_194, s208_196, s208_199, s208_201, s208_203, s208_205, s208_206, s208_207, s208_210, s208_211, s208_214, s208_215, s208_218, s208_220, s208_221, s208_224, s208_227, s208_229, s208_231, s208_234, s208_235, s208_236, s208_238, s208_240, s208_243, s208_246, s208_247, s208_249, s208_252, s208_254, s208_256, s208_258, s208_261, s208_263, mq_k0s, mq_k1s, mq_k2s, mq_k4s, mq_k5s, mq_k5n, mq_k5as, mq_k6s, mj_pu, mj_lo, mj_br, mj_hr, mj_hw, mq_gf, mq_len, mq_al, mq_pf, mq_ok, mj_re, mq_lkm, mq_lkn, mj_ldi, mj_ldl, mj_lda, mj_ii, mj_ll, mj_li, mj_i1, ms_1, ms_2, f1_n, f1_i, f1_r, f1_u, f1_l, f2_n, f2_i, f2_r, f2_u, f2_l, mj_tg, mj_c1, mj_c2, mj_ar, mj_aw, mq_cb, mq_oi, mj_rm, Value.category, -getElem?_pos, List.getElem?_cons_zero, decide_eq_true, decide_eq_false, nl_lt, nl_le, ln_lt, ln_le, nl_eq, ln_eq, nl_add, ln_add, nl_sub, ln_mul, nI_sub, nI_mul, nI_add, nI_lt_iff, nI_le_iff, nI_inj, nI_num, mq_ix, nI_1, nl_mul, nl_div, x0, v0, v1, narrow]
    | some b =>
      obtain ⟨rfl, hb, -⟩ := ix_some hib
      obtain ⟨κ, hκ, zk⟩ := z.kzz (List.getElem?_eq_getElem hb)
      have v1 := h_keyS (d := d + 11) z hκ
      simp (disch := (first | omega | decide)) [c208, s208_0, s208_1, s208_2, s208_5, s208_7, s208_8, s208_9, s208_12, s208_14, s208_16, s208_19, s208_21, s208_24, s208_26, s208_27, s208_29, s208_32, s208_35, s208_36, s208_38, s208_40, s208_42, s208_45, s208_48, s208_49, s208_50, s208_52, s208_55, s208_56, s208_58, s208_61, s208_64, s208_65, s208_68, s208_69, s208_71, s208_74, s208_77, s208_79, s208_80, s208_81, s208_83, s208_86, s208_88, s208_89, s208_90, s208_92, s208_95, s208_97, s208_99, s208_100, s208_101, s208_104, s208_105, s208_108, s208_111, s208_112, s208_115, s208_117, s208_120, s208_123, s208_125, s208_127, s208_128, s208_131, s208_132, s208_135, s208_137, s208_139, s208_140, s208_141, s208_143, s208_145, s208_148, s208_151, s208_153, s208_155, s208_156, s208_157, s208_160, s208_162, s208_165, s208_168, s208_169, s208_171, s208_174, s208_176, s208_179, s208_182, s208_183, s208_185, s208_186, s208_188, s208_190, s208_192, s208_194, s208_196, s208_199, s208_201, s208_203, s208_205, s208_206, s208_207, s208_210, s208_211, s208_214, s208_215, s208_218, s208_220, s208_221, s208_224, s208_227, s208_229, s208_231, s208_234, s208_235, s208_236, s208_238, s208_240, s208_243, s208_246, s208_247, s208_249, s208_252, s208_254, s208_256, s208_258, s208_261, s208_263, mq_k0s, mq_k1s, mq_k2s, mq_k4s, mq_k5s, mq_k5n, mq_k5as, mq_k6s, mj_pu, mj_lo, mj_br, mj_hr, mj_hw, mq_gf, mq_len, mq_al, mq_pf, mq_ok, mj_re, mq_lkm, mq_lkn, mj_ldi, mj_ldl, mj_lda, mj_ii, mj_ll, mj_li, mj_i1, ms_1, ms_2, f1_n, f1_i, f1_r, f1_u, f1_l, f2_n, f2_i, f2_r, f2_u, f2_l, mj_tg, mj_c1, mj_c2, mj_ar, mj_aw, mq_cb, mq_oi, mj_rm, Value.category, -getElem?_pos, List.getElem?_cons_zero, decide_eq_true, decide_eq_false, nl_lt, nl_le, ln_lt, ln_le, nl_eq, ln_eq, nl_add, ln_add, nl_sub, ln_mul, nI_sub, nI_mul, nI_add, nI_lt_iff, nI_le_iff, nI_inj, nI_num, mq_ix, nI_1, nl_mul, nl_div, x0, v0, v1, narrow]
  | some a =>
    obtain ⟨rfl, ha, -⟩ := ix_some hia
    have v0 := h_hanS (d := d + 11) z ha
    cases hib : ix l H.2.2.1.length with
    | none =>
      have v1 := h_keyN (d := d + 11) z hib
      refine ⟨M, row, ?_, z, hf.rf⟩
      simp (disch := (first | omega | decide)) [c208, s208_0, s208_1, s208_2, s208_5, s208_7, s208_8, s208_9, s208_12, s208_14, s208_16, s208_19, s208_21, s208_24, s208_26, s208_27, s208_29, s208_32, s208_35, s208_36, s208_38, s208_40, s208_42, s208_45, s208_48, s208_49, s208_50, s208_52, s208_55, s208_56, s208_58, s208_61, s208_64, s208_65, s208_68, s208_69, s208_71, s208_74, s208_77, s208_79, s208_80, s208_81, s208_83, s208_86, s208_88, s208_89, s208_90, s208_92, s208_95, s208_97, s208_99, s208_100, s208_101, s208_104, s208_105, s208_108, s208_111, s208_112, s208_115, s208_117, s208_120, s208_123, s208_125, s208_127, s208_128, s208_131, s208_132, s208_135, s208_137, s208_139, s208_140, s208_141, s208_143, s208_145, s208_148, s208_151, s208_153, s208_155, s208_156, s208_157, s208_160, s208_162, s208_165, s208_168, s208_169, s208_171, s208_174, s208_176, s208_179, s208_182, s208_183, s208_185, s208_186, s208_188, s208_190, s208_192, s208_194, s208_196, s208_199, s208_201, s208_203, s208_205, s208_206, s208_207, s208_210, s208_211, s208_214, s208_215, s208_218, s208_220, s208_221, s208_224, s208_227, s208_229, s208_231, s208_234, s208_235, s208_236, s208_238, s208_240, s208_243, s208_246, s208_247, s208_249, s208_252, s208_254, s208_256, s208_258, s208_261, s208_263, mq_k0s, mq_k1s, mq_k2s, mq_k4s, mq_k5s, mq_k5n, mq_k5as, mq_k6s, mj_pu, mj_lo, mj_br, mj_hr, mj_hw, mq_gf, mq_len, mq_al, mq_pf, mq_ok, mj_re, mq_lkm, mq_lkn, mj_ldi, mj_ldl, mj_lda, mj_ii, mj_ll, mj_li, mj_i1, ms_1, ms_2, f1_n, f1_i, f1_r, f1_u, f1_l, f2_n, f2_i, f2_r, f2_u, f2_l, mj_tg, mj_c1, mj_c2, mj_ar, mj_aw, mq_cb, mq_oi, mj_rm, Value.category, -getElem?_pos, List.getElem?_cons_zero, decide_eq_true, decide_eq_false, nl_lt, nl_le, ln_lt, ln_le, nl_eq, ln_eq, nl_add, ln_add, nl_sub, ln_mul, nI_sub, nI_mul, nI_add, nI_lt_iff, nI_le_iff, nI_inj, nI_num, mq_ix, nI_1, nl_mul, nl_div, x0, v0, v1, narrow]
    | some b =>
      obtain ⟨rfl, hb, -⟩ := ix_some hib
      have hah : a < H.2.2.2.1.length := by rw [z.hl]; exact ha
      have hh := List.getElem?_eq_getElem hah
      have hk := List.getElem?_eq_getElem hb
      obtain ⟨κ, hκ, zk⟩ := z.kzz hk
      have v1 := h_keyS (d := d + 11) z hκ
      have hkg := hg _ (List.getElem_mem hb)
      generalize H.2.2.2.1[a] = h at *
      generalize H.2.2.1[b] = k at *
      dsimp only
      rw [hh, hk]
      dsimp only
      cases hin : inR how 0 15 with
      | false =>
        rw [hin] at w0
        refine ⟨M, row, ?_, by simpa using z, hf.rf⟩
        simp (disch := (first | omega | decide)) [c208, s208_0, s208_1, s208_2, s208_5, s208_7, s208_8, s208_9, s208_12, s208_14, s208_16, s208_19, s208_21, s208_24, s208_26, s208_27, s208_29, s208_32, s208_35, s208_36, s208_38, s208_40, s208_42, s208_45, s208_48, s208_49, s208_50, s208_52, s208_55, s208_56, s208_58, s208_61, s208_64, s208_65, s208_68, s208_69, s208_71, s208_74, s208_77, s208_79, s208_80, s208_81, s208_83, s208_86, s208_88, s208_89, s208_90, s208_92, s208_95, s208_97, s208_99, s208_100, s208_101, s208_104, s208_105, s208_108, s208_111, s208_112, s208_115, s208_117, s208_120, s208_123, s208_125, s208_127, s208_128, s208_131, s208_132, s208_135, s208_137, s208_139, s208_140, s208_141, s208_143, s208_145, s208_148, s208_151, s208_153, s208_155, s208_156, s208_157, s208_160, s208_162, s208_165, s208_168, s208_169, s208_171, s208_174, s208_176, s208_179, s208_182, s208_183, s208_185, s208_186, s208_188, s208_190, s208_192, s208_194, s208_196, s208_199, s208_201, s208_203, s208_205, s208_206, s208_207, s208_210, s208_211, s208_214, s208_215, s208_218, s208_220, s208_221, s208_224, s208_227, s208_229, s208_231, s208_234, s208_235, s208_236, s208_238, s208_240, s208_243, s208_246, s208_247, s208_249, s208_252, s208_254, s208_256, s208_258, s208_261, s208_263, mq_k0s, mq_k1s, mq_k2s, mq_k4s, mq_k5s, mq_k5n, mq_k5as, mq_k6s, mj_pu, mj_lo, mj_br, mj_hr, mj_hw, mq_gf, mq_len, mq_al, mq_pf, mq_ok, mj_re, mq_lkm, mq_lkn, mj_ldi, mj_ldl, mj_lda, mj_ii, mj_ll, mj_li, mj_i1, ms_1, ms_2, f1_n, f1_i, f1_r, f1_u, f1_l, f2_n, f2_i, f2_r, f2_u, f2_l, mj_tg, mj_c1, mj_c2, mj_ar, mj_aw, mq_cb, mq_oi, mj_rm, Value.category, -getElem?_pos, List.getElem?_cons_zero, decide_eq_true, decide_eq_false, nl_lt, nl_le, ln_lt, ln_le, nl_eq, ln_eq, nl_add, ln_add, nl_sub, ln_mul, nI_sub, nI_mul, nI_add, nI_lt_iff, nI_le_iff, nI_inj, nI_num, mq_ix, nI_1, nl_mul, nl_div, x0, v0, v1, w0, on1, narrow]
      | true =>
      rw [hin] at w0
      cases hft : fitA H party m n with
      | false =>
        rw [hft] at w1
        refine ⟨M, row, ?_, by simpa using z, hf.rf⟩
        simp (disch := (first | omega | decide)) [c208, s208_0, s208_1, s208_2, s208_5, s208_7, s208_8, s208_9, s208_12, s208_14, s208_16, s208_19, s208_21, s208_24, s208_26, s208_27, s208_29, s208_32, s208_35, s208_36, s208_38, s208_40, s208_42, s208_45, s208_48, s208_49, s208_50, s208_52, s208_55, s208_56, s208_58, s208_61, s208_64, s208_65, s208_68, s208_69, s208_71, s208_74, s208_77, s208_79, s208_80, s208_81, s208_83, s208_86, s208_88, s208_89, s208_90, s208_92, s208_95, s208_97, s208_99, s208_100, s208_101, s208_104, s208_105, s208_108, s208_111, s208_112, s208_115, s208_117, s208_120, s208_123, s208_125, s208_127, s208_128, s208_131, s208_132, s208_135, s208_137, s208_139, s208_140, s208_141, s208_143, s208_145, s208_148, s208_151, s208_153, s208_155, s208_156, s208_157, s208_160, s208_162, s208_165, s208_168, s208_169, s208_171, s208_174, s208_176, s208_179, s208_182, s208_183, s208_185, s208_186, s208_188, s208_190, s208_192, s208_194, s208_196, s208_199, s208_201, s208_203, s208_205, s208_206, s208_207, s208_210, s208_211, s208_214, s208_215, s208_218, s208_220, s208_221, s208_224, s208_227, s208_229, s208_231, s208_234, s208_235, s208_236, s208_238, s208_240, s208_243, s208_246, s208_247, s208_249, s208_252, s208_254, s208_256, s208_258, s208_261, s208_263, mq_k0s, mq_k1s, mq_k2s, mq_k4s, mq_k5s, mq_k5n, mq_k5as, mq_k6s, mj_pu, mj_lo, mj_br, mj_hr, mj_hw, mq_gf, mq_len, mq_al, mq_pf, mq_ok, mj_re, mq_lkm, mq_lkn, mj_ldi, mj_ldl, mj_lda, mj_ii, mj_ll, mj_li, mj_i1, ms_1, ms_2, f1_n, f1_i, f1_r, f1_u, f1_l, f2_n, f2_i, f2_r, f2_u, f2_l, mj_tg, mj_c1, mj_c2, mj_ar, mj_aw, mq_cb, mq_oi, mj_rm, Value.category, -getElem?_pos, List.getElem?_cons_zero, decide_eq_true, decide_eq_false, nl_lt, nl_le, ln_lt, ln_le, nl_eq, ln_eq, nl_add, ln_add, nl_sub, ln_mul, nI_sub, nI_mul, nI_add, nI_lt_iff, nI_le_iff, nI_inj, nI_num, mq_ix, nI_1, nl_mul, nl_div, x0, v0, v1, w0, w1, on1, narrow]
      | true =>
      rw [hft] at w1
      obtain ⟨mm, nn, rfl, rfl, cm, cn, hm8, hn, hnt⟩ := fitA_ok hft
      rw [cm, cn]
      rw [if_neg (by simp)]
      have zh := z.hd a h hh
      have y0 := zh.ob
      have o0 := zh.pg.2.2.2.2.2.1
      have o1 := z.tp.2.2.2.2.2.1
      have s0 := v_size (d := d + 11) zh.pg
      have r0 := j_right (d := d + 9) (s := h.2.1.length) (q := 0) (n := nn) zh.pg z.tp (Nat.le_refl _) (by omega) (by omega) (by omega)
      rw [List.take_of_length_le (Nat.le_refl _), List.drop_zero, nI_0] at r0
      cases hr : isR h.2.1 (H.1.take nn) with
      | false =>
        rw [hr] at r0
        rw [if_pos rfl]
        refine ⟨M, row, ?_, z, hf.rf⟩
        simp (disch := (first | omega | decide)) [c208, s208_0, s208_1, s208_2, s208_5, s208_7, s208_8, s208_9, s208_12, s208_14, s208_16, s208_19, s208_21, s208_24, s208_26, s208_27, s208_29, s208_32, s208_35, s208_36, s208_38, s208_40, s208_42, s208_45, s208_48, s208_49, s208_50, s208_52, s208_55, s208_56, s208_58, s208_61, s208_64, s208_65, s208_68, s208_69, s208_71, s208_74, s208_77, s208_79, s208_80, s208_81, s208_83, s208_86, s208_88, s208_89, s208_90, s208_92, s208_95, s208_97, s208_99, s208_100, s208_101, s208_104, s208_105, s208_108, s208_111, s208_112, s208_115, s208_117, s208_120, s208_123, s208_125, s208_127, s208_128, s208_131, s208_132, s208_135, s208_137, s208_139, s208_140, s208_141, s208_143, s208_145, s208_148, s208_151, s208_153, s208_155, s208_156, s208_157, s208_160, s208_162, s208_165, s208_168, s208_169, s208_171, s208_174, s208_176, s208_179, s208_182, s208_183, s208_185, s208_186, s208_188, s208_190, s208_192, s208_194, s208_196, s208_199, s208_201, s208_203, s208_205, s208_206, s208_207, s208_210, s208_211, s208_214, s208_215, s208_218, s208_220, s208_221, s208_224, s208_227, s208_229, s208_231, s208_234, s208_235, s208_236, s208_238, s208_240, s208_243, s208_246, s208_247, s208_249, s208_252, s208_254, s208_256, s208_258, s208_261, s208_263, mq_k0s, mq_k1s, mq_k2s, mq_k4s, mq_k5s, mq_k5n, mq_k5as, mq_k6s, mj_pu, mj_lo, mj_br, mj_hr, mj_hw, mq_gf, mq_len, mq_al, mq_pf, mq_ok, mj_re, mq_lkm, mq_lkn, mj_ldi, mj_ldl, mj_lda, mj_ii, mj_ll, mj_li, mj_i1, ms_1, ms_2, f1_n, f1_i, f1_r, f1_u, f1_l, f2_n, f2_i, f2_r, f2_u, f2_l, mj_tg, mj_c1, mj_c2, mj_ar, mj_aw, mq_cb, mq_oi, mj_rm, Value.category, -getElem?_pos, List.getElem?_cons_zero, decide_eq_true, decide_eq_false, nl_lt, nl_le, ln_lt, ln_le, nl_eq, ln_eq, nl_add, ln_add, nl_sub, ln_mul, nI_sub, nI_mul, nI_add, nI_lt_iff, nI_le_iff, nI_inj, nI_num, mq_ix, nI_1, nl_mul, nl_div, x0, v0, v1, w0, w1, on1, y0, o0, s0, r0, narrow]
      | true =>
        rw [hr] at r0
        rw [if_neg (by simp)]
        obtain ⟨pv, b0, hpv⟩ := h_par (d := d + 11) z party
        have b1 := h_chal (d := d + 10) z hpv c
        have hsh := hpv.sh
        obtain ⟨M1, row1, z1, g1, q1⟩ := gt_M (d := d) (i := nI a) (l := nI b) (c := c) (c' := chOf c (pOf H party)) (party := party) (how := how) (w := w) (pv := pv) (κ := κ) (mm := mm) (nn := nn) z hh hl hpv hoA hm8 hn hnt
        have hTl : (if how &&& 4 ≠ 0 then H.2.1 else cl_T h H.2.1 2 (chOf c (pOf H party)) how).1.length + 5 < 1000 := by
          have := cl_T_len h H.2.1 2 (chOf c (pOf H party)) how
          split <;> omega
        obtain ⟨M2, row2, p2, z2, g2⟩ := gt_E (d := d) (c' := chOf c (pOf H party)) z1 hh hk hκ hkg hTl
        have pre : ∀ q, mj_Rn (d + 12) mj_m208 97 [(13, .int (chOf c (pOf H party))), (12, pv), (11, .ref κ), (10, .ref (46 + 5 * a)), (0, .ref 25), (1, .int (nI a)), (2, .int (nI b)), (3, .int c), (4, .int party), (5, .long w), (7, .int (nI mm)), (8, .int (nI nn)), (9, .int how)] [] M = some q → mj_V (d + 13) 208 [.ref 25, .int (nI a), .int (nI b), .int c, .int party, .long w, .int (nI mm), .int (nI nn), .int how] M = some q := by
          intro q hq
          generalize chOf c (pOf H party) = c' at *
          rcases hsh with rfl | ⟨x, rfl⟩ <;> (simp (disch := (first | omega | decide)) [c208, s208_0, s208_1, s208_2, s208_5, s208_7, s208_8, s208_9, s208_12, s208_14, s208_16, s208_19, s208_21, s208_24, s208_26, s208_27, s208_29, s208_32, s208_35, s208_36, s208_38, s208_40, s208_42, s208_45, s208_48, s208_49, s208_50, s208_52, s208_55, s208_56, s208_58, s208_61, s208_64, s208_65, s208_68, s208_69, s208_71, s208_74, s208_77, s208_79, s208_80, s208_81, s208_83, s208_86, s208_88, s208_89, s208_90, s208_92, s208_95, s208_99, s208_100, s208_101, s208_104, s208_105, s208_108, s208_111, s208_112, s208_115, s208_117, s208_120, s208_123, s208_125, s208_127, s208_128, s208_131, s208_132, s208_135, s208_137, s208_139, s208_140, s208_141, s208_143, s208_145, s208_148, s208_151, s208_153, s208_155, s208_156, s208_157, s208_160, s208_162, s208_165, s208_168, s208_169, s208_171, s208_174, s208_176, s208_179, s208_182, s208_183, s208_185, s208_186, s208_188, s208_190, s208_192, s208_194, s208_196, s208_199, s208_201, s208_203, s208_205, s208_206, s208_207, s208_210, s208_211, s208_214, s208_215, s208_218, s208_220, s208_221, s208_224, s208_227, s208_229, s208_231, s208_234, s208_235, s208_236, s208_238, s208_240, s208_243, s208_246, s208_247, s208_249, s208_252, s208_254, s208_256, s208_258, s208_261, s208_263, mq_k0s, mq_k1s, mq_k2s, mq_k4s, mq_k5s, mq_k5n, mq_k5as, mq_k6s, mj_pu, mj_lo, mj_br, mj_hr, mj_hw, mq_gf, mq_len, mq_al, mq_pf, mq_ok, mj_re, mq_lkm, mq_lkn, mj_ldi, mj_ldl, mj_lda, mj_ii, mj_ll, mj_li, mj_i1, ms_1, ms_2, f1_n, f1_i, f1_r, f1_u, f1_l, f2_n, f2_i, f2_r, f2_u, f2_l, mj_tg, mj_c1, mj_c2, mj_ar, mj_aw, mq_cb, mq_oi, mj_rm, Value.category, -getElem?_pos, List.getElem?_cons_zero, decide_eq_true, decide_eq_false, nl_lt, nl_le, ln_lt, ln_le, nl_eq, ln_eq, nl_add, ln_add, nl_sub, ln_mul, nI_sub, nI_mul, nI_add, nI_lt_iff, nI_le_iff, nI_inj, nI_num, mq_ix, nI_1, nl_mul, nl_div, x0, v0, v1, w0, w1, on1, y0, o0, s0, r0, b0, b1]; exact hq)
        by_cases h4 : how &&& 4 = 0
        · have n4 : ¬ (how &&& 4 ≠ 0) := by simp [h4]
          rw [if_neg n4]
          dsimp only at p2 z2
          rw [if_neg n4, if_neg n4] at p2 z2
          exact ⟨M2, row2, pre _ (q1 _ p2), z2, g1.tr g2⟩
        · rw [if_pos h4]
          dsimp only at p2 z2
          rw [if_pos h4, if_pos h4] at p2 z2
          exact ⟨M2, row2, pre _ (q1 _ p2), z2, g1.tr g2⟩
end HZ
end
/- 9p.hh -/
section
set_option maxRecDepth 512
/-! Class: the house: parties. -/
/- 214 PasskeyHouse.offer(IJIZZ)I -/
theorem s214_0 {d : Nat} {ls : mj_L} {st : List Value} {M : mj_H} : mj_Rn d mj_m214 0 ls st M = mq_k0 d mj_m214 1 ls M (mj_lda (mj_lk ls 0) st) := mj_R0 (r := (.aload_n 0, 1, 0, 0, 0)) rfl rfl
theorem s214_1 {d : Nat} {ls : mj_L} {st : List Value} {M : mj_H} : mj_Rn d mj_m214 1 ls st M = mq_k0 d mj_m214 2 ls M (mj_ldi (mj_lk ls 1) st) := mj_R0 (r := (.iload_n 1, 1, 0, 0, 0)) rfl rfl
theorem s214_2 {d : Nat} {ls : mj_L} {st : List Value} {M : mj_H} : mj_Rn (d + 1) mj_m214 2 ls st M = mq_k5a (d + 1) mj_m214 5 ls M 191 (mq_cb 0 1 10 st M) := mj_R5e (r := (.invokevirtual 238, 3, 0, 191, 20668)) (z := mj_m191) rfl rfl (by decide) (by decide) rfl
theorem s214_5 {d : Nat} {ls : mj_L} {st : List Value} {M : mj_H} : mj_Rn d mj_m214 5 ls st M = mq_k1 d mj_m214 7 M (mj_lo 9 (.astore 7) ls st) := mj_R1 (r := (.astore 7, 2, 0, 0, 0)) rfl rfl
theorem s214_7 {d : Nat} {ls : mj_L} {st : List Value} {M : mj_H} : mj_Rn d mj_m214 7 ls st M = mq_k0 d mj_m214 9 ls M (mj_lda (mj_lk ls 7) st) := mj_R0 (r := (.aload 7, 2, 0, 0, 0)) rfl rfl
theorem s214_9 {d : Nat} {ls : mj_L} {st : List Value} {M : mj_H} : mj_Rn d mj_m214 9 ls st M = mq_k2 d mj_m214 ls M (mj_br (.ifnull 14) 9 st) := mj_R2 (r := (.ifnull 14, 3, 0, 0, 0)) rfl rfl
theorem s214_12 {d : Nat} {ls : mj_L} {st : List Value} {M : mj_H} : mj_Rn d mj_m214 12 ls st M = mq_k0 d mj_m214 14 ls M (mj_ldi (mj_lk ls 4) st) := mj_R0 (r := (.iload 4, 2, 0, 0, 0)) rfl rfl
theorem s214_14 {d : Nat} {ls : mj_L} {st : List Value} {M : mj_H} : mj_Rn d mj_m214 14 ls st M = mj_Rn d mj_m214 15 ls (.int 1 :: st) M := mj_R0 (r := (.iconst 1, 1, 0, 0, 0)) rfl rfl
theorem s214_15 {d : Nat} {ls : mj_L} {st : List Value} {M : mj_H} : mj_Rn d mj_m214 15 ls st M = mj_Rn d mj_m214 17 ls (.int 8 :: st) M := mj_R0 (r := (.bipush 8, 2, 0, 0, 0)) rfl rfl
theorem s214_17 {d : Nat} {ls : mj_L} {st : List Value} {M : mj_H} : mj_Rn (d + 1) mj_m214 17 ls st M = mq_k5a (d + 1) mj_m214 20 ls M 8 (mq_cb 2 3 10 st M) := mj_R5e (r := (.invokestatic 61, 3, 2, 8, 4275)) (z := mj_m8) rfl rfl (by decide) (by decide) rfl
theorem s214_20 {d : Nat} {ls : mj_L} {st : List Value} {M : mj_H} : mj_Rn d mj_m214 20 ls st M = mq_k2 d mj_m214 ls M (mj_br (.ifCond .ne 5) 20 st) := mj_R2 (r := (.ifCond .ne 5, 3, 0, 0, 0)) rfl rfl
theorem s214_23 {d : Nat} {ls : mj_L} {st : List Value} {M : mj_H} : mj_Rn d mj_m214 23 ls st M = mj_Rn d mj_m214 24 ls (.int (-1) :: st) M := mj_R0 (r := (.iconst (-1), 1, 0, 0, 0)) rfl rfl
theorem s214_24 {d : Nat} {ls : mj_L} {st : List Value} {M : mj_H} : mj_Rn d mj_m214 24 ls st M = mq_k6 M (mj_re (some .int) (.ireturn) st) := mj_R6 (r := (.ireturn, 1, 0, 0, 0)) rfl rfl
theorem s214_25 {d : Nat} {ls : mj_L} {st : List Value} {M : mj_H} : mj_Rn d mj_m214 25 ls st M = mq_k0 d mj_m214 27 ls M (mj_lda (mj_lk ls 7) st) := mj_R0 (r := (.aload 7, 2, 0, 0, 0)) rfl rfl
theorem s214_27 {d : Nat} {ls : mj_L} {st : List Value} {M : mj_H} : mj_Rn (d + 1) mj_m214 27 ls st M = mq_k5a (d + 1) mj_m214 30 ls M 215 (mq_cb 0 0 7 st M) := mj_R5e (r := (.invokevirtual 300, 3, 0, 215, 24712)) (z := mj_m215) rfl rfl (by decide) (by decide) rfl
theorem s214_30 {d : Nat} {ls : mj_L} {st : List Value} {M : mj_H} : mj_Rn d mj_m214 30 ls st M = mq_k1 d mj_m214 32 M (mj_lo 9 (.astore 8) ls st) := mj_R1 (r := (.astore 8, 2, 0, 0, 0)) rfl rfl
theorem s214_32 {d : Nat} {ls : mj_L} {st : List Value} {M : mj_H} : mj_Rn d mj_m214 32 ls st M = mq_k0 d mj_m214 34 ls M (mj_lda (mj_lk ls 8) st) := mj_R0 (r := (.aload 8, 2, 0, 0, 0)) rfl rfl
theorem s214_34 {d : Nat} {ls : mj_L} {st : List Value} {M : mj_H} : mj_Rn d mj_m214 34 ls st M = mq_k2 d mj_m214 ls M (mj_br (.ifnonnull 5) 34 st) := mj_R2 (r := (.ifnonnull 5, 3, 0, 0, 0)) rfl rfl
theorem s214_37 {d : Nat} {ls : mj_L} {st : List Value} {M : mj_H} : mj_Rn d mj_m214 37 ls st M = mj_Rn d mj_m214 38 ls (.int (-1) :: st) M := mj_R0 (r := (.iconst (-1), 1, 0, 0, 0)) rfl rfl
theorem s214_38 {d : Nat} {ls : mj_L} {st : List Value} {M : mj_H} : mj_Rn d mj_m214 38 ls st M = mq_k6 M (mj_re (some .int) (.ireturn) st) := mj_R6 (r := (.ireturn, 1, 0, 0, 0)) rfl rfl
theorem s214_39 {d : Nat} {ls : mj_L} {st : List Value} {M : mj_H} : mj_Rn d mj_m214 39 ls st M = mq_k0 d mj_m214 41 ls M (mj_lda (mj_lk ls 8) st) := mj_R0 (r := (.aload 8, 2, 0, 0, 0)) rfl rfl
theorem s214_41 {d : Nat} {ls : mj_L} {st : List Value} {M : mj_H} : mj_Rn d mj_m214 41 ls st M = mq_k0 d mj_m214 42 ls M (mj_lda (mj_lk ls 0) st) := mj_R0 (r := (.aload_n 0, 1, 0, 0, 0)) rfl rfl
theorem s214_42 {d : Nat} {ls : mj_L} {st : List Value} {M : mj_H} : mj_Rn d mj_m214 42 ls st M = mq_k0 d mj_m214 45 ls M (mq_gf 10 2 st M) := (mj_R3 (r := (.getfield 24, 3, 10, 2, 8490)) rfl rfl).trans (congrArg (mq_k0 d mj_m214 45 ls M) mq_gf_eq)
theorem s214_45 {d : Nat} {ls : mj_L} {st : List Value} {M : mj_H} : mj_Rn (d + 1) mj_m214 45 ls st M = mq_k5a (d + 1) mj_m214 48 ls M 27 (mq_cb 0 0 9 st M) := mj_R5e (r := (.invokevirtual 304, 3, 0, 27, 24716)) (z := mj_m27) rfl rfl (by decide) (by decide) rfl
theorem s214_48 {d : Nat} {ls : mj_L} {st : List Value} {M : mj_H} : mj_Rn d mj_m214 48 ls st M = mq_k4 d mj_m214 51 ls (mq_pf 6 0 0 st M) := (mj_R4 (r := (.putfield 307, 3, 6, 0, 49253)) rfl rfl).trans (congrArg (mq_k4 d mj_m214 51 ls) (mq_pf_eq rfl rfl))
theorem s214_51 {d : Nat} {ls : mj_L} {st : List Value} {M : mj_H} : mj_Rn d mj_m214 51 ls st M = mq_k0 d mj_m214 53 ls M (mj_lda (mj_lk ls 8) st) := mj_R0 (r := (.aload 8, 2, 0, 0, 0)) rfl rfl
theorem s214_53 {d : Nat} {ls : mj_L} {st : List Value} {M : mj_H} : mj_Rn d mj_m214 53 ls st M = mq_k0 d mj_m214 54 ls M (mj_ldl (mj_lk ls 2) st) := mj_R0 (r := (.lload_n 2, 1, 0, 0, 0)) rfl rfl
theorem s214_54 {d : Nat} {ls : mj_L} {st : List Value} {M : mj_H} : mj_Rn d mj_m214 54 ls st M = mq_k0 d mj_m214 56 ls M (mj_ldi (mj_lk ls 4) st) := mj_R0 (r := (.iload 4, 2, 0, 0, 0)) rfl rfl
theorem s214_56 {d : Nat} {ls : mj_L} {st : List Value} {M : mj_H} : mj_Rn (d + 1) mj_m214 56 ls st M = mq_k5a (d + 1) mj_m214 59 ls M 198 (mq_cb 2 2 10 st M) := mj_R5e (r := (.invokestatic 256, 3, 2, 198, 20695)) (z := mj_m198) rfl rfl (by decide) (by decide) rfl
theorem s214_59 {d : Nat} {ls : mj_L} {st : List Value} {M : mj_H} : mj_Rn d mj_m214 59 ls st M = mq_k4 d mj_m214 62 ls (mq_pf 6 1 1 st M) := (mj_R4 (r := (.putfield 312, 3, 6, 1, 49257)) rfl rfl).trans (congrArg (mq_k4 d mj_m214 62 ls) (mq_pf_eq rfl rfl))
theorem s214_62 {d : Nat} {ls : mj_L} {st : List Value} {M : mj_H} : mj_Rn d mj_m214 62 ls st M = mq_k0 d mj_m214 64 ls M (mj_lda (mj_lk ls 8) st) := mj_R0 (r := (.aload 8, 2, 0, 0, 0)) rfl rfl
theorem s214_64 {d : Nat} {ls : mj_L} {st : List Value} {M : mj_H} : mj_Rn d mj_m214 64 ls st M = mq_k0 d mj_m214 66 ls M (mj_ldi (mj_lk ls 4) st) := mj_R0 (r := (.iload 4, 2, 0, 0, 0)) rfl rfl
theorem s214_66 {d : Nat} {ls : mj_L} {st : List Value} {M : mj_H} : mj_Rn d mj_m214 66 ls st M = mq_k4 d mj_m214 69 ls (mq_pf 6 2 0 st M) := (mj_R4 (r := (.putfield 316, 3, 6, 2, 49261)) rfl rfl).trans (congrArg (mq_k4 d mj_m214 69 ls) (mq_pf_eq rfl rfl))
theorem s214_69 {d : Nat} {ls : mj_L} {st : List Value} {M : mj_H} : mj_Rn d mj_m214 69 ls st M = mq_k0 d mj_m214 71 ls M (mj_lda (mj_lk ls 8) st) := mj_R0 (r := (.aload 8, 2, 0, 0, 0)) rfl rfl
theorem s214_71 {d : Nat} {ls : mj_L} {st : List Value} {M : mj_H} : mj_Rn d mj_m214 71 ls st M = mq_k0 d mj_m214 73 ls M (mj_ldi (mj_lk ls 5) st) := mj_R0 (r := (.iload 5, 2, 0, 0, 0)) rfl rfl
theorem s214_73 {d : Nat} {ls : mj_L} {st : List Value} {M : mj_H} : mj_Rn d mj_m214 73 ls st M = mq_k2 d mj_m214 ls M (mj_br (.ifCond .eq 7) 73 st) := mj_R2 (r := (.ifCond .eq 7, 3, 0, 0, 0)) rfl rfl
theorem s214_76 {d : Nat} {ls : mj_L} {st : List Value} {M : mj_H} : mj_Rn d mj_m214 76 ls st M = mj_Rn d mj_m214 77 ls (.int 2 :: st) M := mj_R0 (r := (.iconst 2, 1, 0, 0, 0)) rfl rfl
theorem s214_77 {d : Nat} {ls : mj_L} {st : List Value} {M : mj_H} : mj_Rn d mj_m214 77 ls st M = mj_Rn d mj_m214 81 ls st M := mj_R2 (r := (.goto 4, 3, 0, 0, 0)) rfl rfl
theorem s214_80 {d : Nat} {ls : mj_L} {st : List Value} {M : mj_H} : mj_Rn d mj_m214 80 ls st M = mj_Rn d mj_m214 81 ls (.int 1 :: st) M := mj_R0 (r := (.iconst 1, 1, 0, 0, 0)) rfl rfl
theorem s214_81 {d : Nat} {ls : mj_L} {st : List Value} {M : mj_H} : mj_Rn d mj_m214 81 ls st M = mq_k4 d mj_m214 84 ls (mq_pf 6 3 0 st M) := (mj_R4 (r := (.putfield 318, 3, 6, 3, 49265)) rfl rfl).trans (congrArg (mq_k4 d mj_m214 84 ls) (mq_pf_eq rfl rfl))
theorem s214_84 {d : Nat} {ls : mj_L} {st : List Value} {M : mj_H} : mj_Rn d mj_m214 84 ls st M = mq_k0 d mj_m214 86 ls M (mj_lda (mj_lk ls 8) st) := mj_R0 (r := (.aload 8, 2, 0, 0, 0)) rfl rfl
theorem s214_86 {d : Nat} {ls : mj_L} {st : List Value} {M : mj_H} : mj_Rn d mj_m214 86 ls st M = mq_k0 d mj_m214 88 ls M (mj_ldi (mj_lk ls 6) st) := mj_R0 (r := (.iload 6, 2, 0, 0, 0)) rfl rfl
theorem s214_88 {d : Nat} {ls : mj_L} {st : List Value} {M : mj_H} : mj_Rn d mj_m214 88 ls st M = mq_k4 d mj_m214 91 ls (mq_pf 6 4 3 st M) := (mj_R4 (r := (.putfield 321, 3, 6, 4, 49269)) rfl rfl).trans (congrArg (mq_k4 d mj_m214 91 ls) (mq_pf_eq rfl rfl))
theorem s214_91 {d : Nat} {ls : mj_L} {st : List Value} {M : mj_H} : mj_Rn d mj_m214 91 ls st M = mq_k0 d mj_m214 93 ls M (mj_lda (mj_lk ls 8) st) := mj_R0 (r := (.aload 8, 2, 0, 0, 0)) rfl rfl
theorem s214_93 {d : Nat} {ls : mj_L} {st : List Value} {M : mj_H} : mj_Rn d mj_m214 93 ls st M = mq_k0 d mj_m214 96 ls M (mq_gf 6 0 st M) := (mj_R3 (r := (.getfield 307, 3, 6, 0, 49253)) rfl rfl).trans (congrArg (mq_k0 d mj_m214 96 ls M) mq_gf_eq)
theorem s214_96 {d : Nat} {ls : mj_L} {st : List Value} {M : mj_H} : mj_Rn d mj_m214 96 ls st M = mq_k6 M (mj_re (some .int) (.ireturn) st) := mj_R6 (r := (.ireturn, 1, 0, 0, 0)) rfl rfl
/- 215 PasskeyHouse$Party.freeOffer()LPasskeyHouse$Offer; -/
theorem s215_0 {d : Nat} {ls : mj_L} {st : List Value} {M : mj_H} : mj_Rn d mj_m215 0 ls st M = mq_k0 d mj_m215 1 ls M (mj_lda (mj_lk ls 0) st) := mj_R0 (r := (.aload_n 0, 1, 0, 0, 0)) rfl rfl
theorem s215_1 {d : Nat} {ls : mj_L} {st : List Value} {M : mj_H} : mj_Rn d mj_m215 1 ls st M = mq_k0 d mj_m215 4 ls M (mq_gf 7 4 st M) := (mj_R3 (r := (.getfield 49, 3, 7, 4, 49370)) rfl rfl).trans (congrArg (mq_k0 d mj_m215 4 ls M) mq_gf_eq)
theorem s215_4 {d : Nat} {ls : mj_L} {st : List Value} {M : mj_H} : mj_Rn d mj_m215 4 ls st M = mq_k2 d mj_m215 ls M (mj_br (.ifCond .lt 15) 4 st) := mj_R2 (r := (.ifCond .lt 15, 3, 0, 0, 0)) rfl rfl
theorem s215_7 {d : Nat} {ls : mj_L} {st : List Value} {M : mj_H} : mj_Rn d mj_m215 7 ls st M = mq_k0 d mj_m215 8 ls M (mj_lda (mj_lk ls 0) st) := mj_R0 (r := (.aload_n 0, 1, 0, 0, 0)) rfl rfl
theorem s215_8 {d : Nat} {ls : mj_L} {st : List Value} {M : mj_H} : mj_Rn d mj_m215 8 ls st M = mq_k0 d mj_m215 11 ls M (mq_gf 7 4 st M) := (mj_R3 (r := (.getfield 49, 3, 7, 4, 49370)) rfl rfl).trans (congrArg (mq_k0 d mj_m215 11 ls M) mq_gf_eq)
theorem s215_11 {d : Nat} {ls : mj_L} {st : List Value} {M : mj_H} : mj_Rn d mj_m215 11 ls st M = mq_k0 d mj_m215 12 ls M (mj_lda (mj_lk ls 0) st) := mj_R0 (r := (.aload_n 0, 1, 0, 0, 0)) rfl rfl
theorem s215_12 {d : Nat} {ls : mj_L} {st : List Value} {M : mj_H} : mj_Rn d mj_m215 12 ls st M = mq_k0 d mj_m215 15 ls M (mq_gf 7 2 st M) := (mj_R3 (r := (.getfield 25, 3, 7, 2, 49366)) rfl rfl).trans (congrArg (mq_k0 d mj_m215 15 ls M) mq_gf_eq)
theorem s215_15 {d : Nat} {ls : mj_L} {st : List Value} {M : mj_H} : mj_Rn d mj_m215 15 ls st M = mq_k0 d mj_m215 16 ls M (mq_len st M) := (mj_R3 (r := (.arraylength, 1, 0, 0, 0)) rfl rfl).trans (congrArg (mq_k0 d mj_m215 16 ls M) mq_len_eq)
theorem s215_16 {d : Nat} {ls : mj_L} {st : List Value} {M : mj_H} : mj_Rn d mj_m215 16 ls st M = mq_k2 d mj_m215 ls M (mj_br (.if_icmp .lt 5) 16 st) := mj_R2 (r := (.if_icmp .lt 5, 3, 0, 0, 0)) rfl rfl
theorem s215_19 {d : Nat} {ls : mj_L} {st : List Value} {M : mj_H} : mj_Rn d mj_m215 19 ls st M = mj_Rn d mj_m215 20 ls (.null :: st) M := mj_R0 (r := (.aconst_null, 1, 0, 0, 0)) rfl rfl
theorem s215_20 {d : Nat} {ls : mj_L} {st : List Value} {M : mj_H} : mj_Rn d mj_m215 20 ls st M = mq_k6 M (mj_re (some (.object "PasskeyHouse$Offer")) (.areturn) st) := mj_R6 (r := (.areturn, 1, 0, 0, 0)) rfl rfl
theorem s215_21 {d : Nat} {ls : mj_L} {st : List Value} {M : mj_H} : mj_Rn d mj_m215 21 ls st M = mq_k0 d mj_m215 22 ls M (mj_lda (mj_lk ls 0) st) := mj_R0 (r := (.aload_n 0, 1, 0, 0, 0)) rfl rfl
theorem s215_22 {d : Nat} {ls : mj_L} {st : List Value} {M : mj_H} : mj_Rn d mj_m215 22 ls st M = mq_k0 d mj_m215 23 ls M (mj_pu .dup ls st) := mj_R0 (r := (.dup, 1, 0, 0, 0)) rfl rfl
theorem s215_23 {d : Nat} {ls : mj_L} {st : List Value} {M : mj_H} : mj_Rn d mj_m215 23 ls st M = mq_k0 d mj_m215 26 ls M (mq_gf 7 4 st M) := (mj_R3 (r := (.getfield 49, 3, 7, 4, 49370)) rfl rfl).trans (congrArg (mq_k0 d mj_m215 26 ls M) mq_gf_eq)
theorem s215_26 {d : Nat} {ls : mj_L} {st : List Value} {M : mj_H} : mj_Rn d mj_m215 26 ls st M = mj_Rn d mj_m215 27 ls (.int 1 :: st) M := mj_R0 (r := (.iconst 1, 1, 0, 0, 0)) rfl rfl
theorem s215_27 {d : Nat} {ls : mj_L} {st : List Value} {M : mj_H} : mj_Rn d mj_m215 27 ls st M = mq_k0 d mj_m215 28 ls M (mj_pu .iadd ls st) := mj_R0 (r := (.iadd, 1, 0, 0, 0)) rfl rfl
theorem s215_28 {d : Nat} {ls : mj_L} {st : List Value} {M : mj_H} : mj_Rn d mj_m215 28 ls st M = mq_k4 d mj_m215 31 ls (mq_pf 7 4 0 st M) := (mj_R4 (r := (.putfield 49, 3, 7, 4, 49370)) rfl rfl).trans (congrArg (mq_k4 d mj_m215 31 ls) (mq_pf_eq rfl rfl))
theorem s215_31 {d : Nat} {ls : mj_L} {st : List Value} {M : mj_H} : mj_Rn d mj_m215 31 ls st M = mq_k0 d mj_m215 32 ls M (mj_lda (mj_lk ls 0) st) := mj_R0 (r := (.aload_n 0, 1, 0, 0, 0)) rfl rfl
theorem s215_32 {d : Nat} {ls : mj_L} {st : List Value} {M : mj_H} : mj_Rn d mj_m215 32 ls st M = mq_k0 d mj_m215 35 ls M (mq_gf 7 2 st M) := (mj_R3 (r := (.getfield 25, 3, 7, 2, 49366)) rfl rfl).trans (congrArg (mq_k0 d mj_m215 35 ls M) mq_gf_eq)
theorem s215_35 {d : Nat} {ls : mj_L} {st : List Value} {M : mj_H} : mj_Rn d mj_m215 35 ls st M = mq_k0 d mj_m215 36 ls M (mj_lda (mj_lk ls 0) st) := mj_R0 (r := (.aload_n 0, 1, 0, 0, 0)) rfl rfl
theorem s215_36 {d : Nat} {ls : mj_L} {st : List Value} {M : mj_H} : mj_Rn d mj_m215 36 ls st M = mq_k0 d mj_m215 39 ls M (mq_gf 7 4 st M) := (mj_R3 (r := (.getfield 49, 3, 7, 4, 49370)) rfl rfl).trans (congrArg (mq_k0 d mj_m215 39 ls M) mq_gf_eq)
theorem s215_39 {d : Nat} {ls : mj_L} {st : List Value} {M : mj_H} : mj_Rn d mj_m215 39 ls st M = mj_Rn d mj_m215 40 ls (.int 1 :: st) M := mj_R0 (r := (.iconst 1, 1, 0, 0, 0)) rfl rfl
theorem s215_40 {d : Nat} {ls : mj_L} {st : List Value} {M : mj_H} : mj_Rn d mj_m215 40 ls st M = mq_k0 d mj_m215 41 ls M (mj_pu .isub ls st) := mj_R0 (r := (.isub, 1, 0, 0, 0)) rfl rfl
theorem s215_41 {d : Nat} {ls : mj_L} {st : List Value} {M : mj_H} : mj_Rn d mj_m215 41 ls st M = mq_k0 d mj_m215 42 ls M (mq_al [1004, 1005, 1006, 1007, 1008, 1009] st M) := (mj_R3 (r := (.aaload, 1, 0, 0, 0)) rfl rfl).trans (congrArg (mq_k0 d mj_m215 42 ls M) mq_ala_eq)
theorem s215_42 {d : Nat} {ls : mj_L} {st : List Value} {M : mj_H} : mj_Rn d mj_m215 42 ls st M = mq_k6 M (mj_re (some (.object "PasskeyHouse$Offer")) (.areturn) st) := mj_R6 (r := (.areturn, 1, 0, 0, 0)) rfl rfl
/- 227 PasskeyHouse.withdraw(I)I -/
theorem s227_0 {d : Nat} {ls : mj_L} {st : List Value} {M : mj_H} : mj_Rn d mj_m227 0 ls st M = mq_k0 d mj_m227 1 ls M (mj_lda (mj_lk ls 0) st) := mj_R0 (r := (.aload_n 0, 1, 0, 0, 0)) rfl rfl
theorem s227_1 {d : Nat} {ls : mj_L} {st : List Value} {M : mj_H} : mj_Rn d mj_m227 1 ls st M = mq_k0 d mj_m227 2 ls M (mj_ldi (mj_lk ls 1) st) := mj_R0 (r := (.iload_n 1, 1, 0, 0, 0)) rfl rfl
theorem s227_2 {d : Nat} {ls : mj_L} {st : List Value} {M : mj_H} : mj_Rn (d + 1) mj_m227 2 ls st M = mq_k5a (d + 1) mj_m227 5 ls M 191 (mq_cb 0 1 10 st M) := mj_R5e (r := (.invokevirtual 238, 3, 0, 191, 20668)) (z := mj_m191) rfl rfl (by decide) (by decide) rfl
theorem s227_5 {d : Nat} {ls : mj_L} {st : List Value} {M : mj_H} : mj_Rn d mj_m227 5 ls st M = mq_k1 d mj_m227 6 M (mj_lo 4 (.astore 2) ls st) := (mj_R1 (r := (.astore_n 2, 1, 0, 0, 0)) rfl rfl).trans (congrArg (mq_k1 d mj_m227 6 M) (mq_sta (k := 2)))
theorem s227_6 {d : Nat} {ls : mj_L} {st : List Value} {M : mj_H} : mj_Rn d mj_m227 6 ls st M = mq_k0 d mj_m227 7 ls M (mj_lda (mj_lk ls 2) st) := mj_R0 (r := (.aload_n 2, 1, 0, 0, 0)) rfl rfl
theorem s227_7 {d : Nat} {ls : mj_L} {st : List Value} {M : mj_H} : mj_Rn d mj_m227 7 ls st M = mq_k2 d mj_m227 ls M (mj_br (.ifnonnull 5) 7 st) := mj_R2 (r := (.ifnonnull 5, 3, 0, 0, 0)) rfl rfl
theorem s227_10 {d : Nat} {ls : mj_L} {st : List Value} {M : mj_H} : mj_Rn d mj_m227 10 ls st M = mj_Rn d mj_m227 11 ls (.int (-1) :: st) M := mj_R0 (r := (.iconst (-1), 1, 0, 0, 0)) rfl rfl
theorem s227_11 {d : Nat} {ls : mj_L} {st : List Value} {M : mj_H} : mj_Rn d mj_m227 11 ls st M = mq_k6 M (mj_re (some .int) (.ireturn) st) := mj_R6 (r := (.ireturn, 1, 0, 0, 0)) rfl rfl
theorem s227_12 {d : Nat} {ls : mj_L} {st : List Value} {M : mj_H} : mj_Rn d mj_m227 12 ls st M = mq_k0 d mj_m227 13 ls M (mj_lda (mj_lk ls 2) st) := mj_R0 (r := (.aload_n 2, 1, 0, 0, 0)) rfl rfl
theorem s227_13 {d : Nat} {ls : mj_L} {st : List Value} {M : mj_H} : mj_Rn d mj_m227 13 ls st M = mq_k0 d mj_m227 16 ls M (mq_gf 7 4 st M) := (mj_R3 (r := (.getfield 329, 3, 7, 4, 49373)) rfl rfl).trans (congrArg (mq_k0 d mj_m227 16 ls M) mq_gf_eq)
theorem s227_16 {d : Nat} {ls : mj_L} {st : List Value} {M : mj_H} : mj_Rn d mj_m227 16 ls st M = mq_k1 d mj_m227 17 M (mj_lo 4 (.istore 3) ls st) := (mj_R1 (r := (.istore_n 3, 1, 0, 0, 0)) rfl rfl).trans (congrArg (mq_k1 d mj_m227 17 M) (mq_sti (k := 3)))
theorem s227_17 {d : Nat} {ls : mj_L} {st : List Value} {M : mj_H} : mj_Rn d mj_m227 17 ls st M = mq_k0 d mj_m227 18 ls M (mj_lda (mj_lk ls 2) st) := mj_R0 (r := (.aload_n 2, 1, 0, 0, 0)) rfl rfl
theorem s227_18 {d : Nat} {ls : mj_L} {st : List Value} {M : mj_H} : mj_Rn d mj_m227 18 ls st M = mj_Rn d mj_m227 19 ls (.int 0 :: st) M := mj_R0 (r := (.iconst 0, 1, 0, 0, 0)) rfl rfl
theorem s227_19 {d : Nat} {ls : mj_L} {st : List Value} {M : mj_H} : mj_Rn d mj_m227 19 ls st M = mq_k4 d mj_m227 22 ls (mq_pf 7 4 0 st M) := (mj_R4 (r := (.putfield 329, 3, 7, 4, 49373)) rfl rfl).trans (congrArg (mq_k4 d mj_m227 22 ls) (mq_pf_eq rfl rfl))
theorem s227_22 {d : Nat} {ls : mj_L} {st : List Value} {M : mj_H} : mj_Rn d mj_m227 22 ls st M = mq_k0 d mj_m227 23 ls M (mj_ldi (mj_lk ls 3) st) := mj_R0 (r := (.iload_n 3, 1, 0, 0, 0)) rfl rfl
theorem s227_23 {d : Nat} {ls : mj_L} {st : List Value} {M : mj_H} : mj_Rn d mj_m227 23 ls st M = mq_k6 M (mj_re (some .int) (.ireturn) st) := mj_R6 (r := (.ireturn, 1, 0, 0, 0)) rfl rfl
/- 228 PasskeyHouse.account(III)I -/
theorem s228_0 {d : Nat} {ls : mj_L} {st : List Value} {M : mj_H} : mj_Rn d mj_m228 0 ls st M = mq_k0 d mj_m228 1 ls M (mj_lda (mj_lk ls 0) st) := mj_R0 (r := (.aload_n 0, 1, 0, 0, 0)) rfl rfl
theorem s228_1 {d : Nat} {ls : mj_L} {st : List Value} {M : mj_H} : mj_Rn d mj_m228 1 ls st M = mq_k0 d mj_m228 2 ls M (mj_ldi (mj_lk ls 1) st) := mj_R0 (r := (.iload_n 1, 1, 0, 0, 0)) rfl rfl
theorem s228_2 {d : Nat} {ls : mj_L} {st : List Value} {M : mj_H} : mj_Rn (d + 1) mj_m228 2 ls st M = mq_k5a (d + 1) mj_m228 5 ls M 191 (mq_cb 0 1 10 st M) := mj_R5e (r := (.invokevirtual 238, 3, 0, 191, 20668)) (z := mj_m191) rfl rfl (by decide) (by decide) rfl
theorem s228_5 {d : Nat} {ls : mj_L} {st : List Value} {M : mj_H} : mj_Rn d mj_m228 5 ls st M = mq_k1 d mj_m228 7 M (mj_lo 6 (.astore 4) ls st) := mj_R1 (r := (.astore 4, 2, 0, 0, 0)) rfl rfl
theorem s228_7 {d : Nat} {ls : mj_L} {st : List Value} {M : mj_H} : mj_Rn d mj_m228 7 ls st M = mq_k0 d mj_m228 9 ls M (mj_lda (mj_lk ls 4) st) := mj_R0 (r := (.aload 4, 2, 0, 0, 0)) rfl rfl
theorem s228_9 {d : Nat} {ls : mj_L} {st : List Value} {M : mj_H} : mj_Rn d mj_m228 9 ls st M = mq_k2 d mj_m228 ls M (mj_br (.ifnonnull 5) 9 st) := mj_R2 (r := (.ifnonnull 5, 3, 0, 0, 0)) rfl rfl
theorem s228_12 {d : Nat} {ls : mj_L} {st : List Value} {M : mj_H} : mj_Rn d mj_m228 12 ls st M = mj_Rn d mj_m228 13 ls (.int (-1) :: st) M := mj_R0 (r := (.iconst (-1), 1, 0, 0, 0)) rfl rfl
theorem s228_13 {d : Nat} {ls : mj_L} {st : List Value} {M : mj_H} : mj_Rn d mj_m228 13 ls st M = mq_k6 M (mj_re (some .int) (.ireturn) st) := mj_R6 (r := (.ireturn, 1, 0, 0, 0)) rfl rfl
theorem s228_14 {d : Nat} {ls : mj_L} {st : List Value} {M : mj_H} : mj_Rn d mj_m228 14 ls st M = mq_k0 d mj_m228 15 ls M (mj_ldi (mj_lk ls 2) st) := mj_R0 (r := (.iload_n 2, 1, 0, 0, 0)) rfl rfl
theorem s228_15 {d : Nat} {ls : mj_L} {st : List Value} {M : mj_H} : mj_Rn d mj_m228 15 ls st M = mj_Rn d mj_m228 16 ls (.int (-1) :: st) M := mj_R0 (r := (.iconst (-1), 1, 0, 0, 0)) rfl rfl
theorem s228_16 {d : Nat} {ls : mj_L} {st : List Value} {M : mj_H} : mj_Rn d mj_m228 16 ls st M = mq_k2 d mj_m228 ls M (mj_br (.if_icmp .ne 10) 16 st) := mj_R2 (r := (.if_icmp .ne 10, 3, 0, 0, 0)) rfl rfl
theorem s228_19 {d : Nat} {ls : mj_L} {st : List Value} {M : mj_H} : mj_Rn d mj_m228 19 ls st M = mq_k0 d mj_m228 21 ls M (mj_lda (mj_lk ls 4) st) := mj_R0 (r := (.aload 4, 2, 0, 0, 0)) rfl rfl
theorem s228_21 {d : Nat} {ls : mj_L} {st : List Value} {M : mj_H} : mj_Rn d mj_m228 21 ls st M = mq_k0 d mj_m228 22 ls M (mj_ldi (mj_lk ls 3) st) := mj_R0 (r := (.iload_n 3, 1, 0, 0, 0)) rfl rfl
theorem s228_22 {d : Nat} {ls : mj_L} {st : List Value} {M : mj_H} : mj_Rn (d + 1) mj_m228 22 ls st M = mq_k5a (d + 1) mj_m228 25 ls M 229 (mq_cb 0 1 7 st M) := mj_R5e (r := (.invokevirtual 332, 3, 0, 229, 24781)) (z := mj_m229) rfl rfl (by decide) (by decide) rfl
theorem s228_25 {d : Nat} {ls : mj_L} {st : List Value} {M : mj_H} : mj_Rn d mj_m228 25 ls st M = mq_k6 M (mj_re (some .int) (.ireturn) st) := mj_R6 (r := (.ireturn, 1, 0, 0, 0)) rfl rfl
theorem s228_26 {d : Nat} {ls : mj_L} {st : List Value} {M : mj_H} : mj_Rn d mj_m228 26 ls st M = mq_k0 d mj_m228 28 ls M (mj_lda (mj_lk ls 4) st) := mj_R0 (r := (.aload 4, 2, 0, 0, 0)) rfl rfl
theorem s228_28 {d : Nat} {ls : mj_L} {st : List Value} {M : mj_H} : mj_Rn d mj_m228 28 ls st M = mq_k0 d mj_m228 29 ls M (mj_ldi (mj_lk ls 2) st) := mj_R0 (r := (.iload_n 2, 1, 0, 0, 0)) rfl rfl
theorem s228_29 {d : Nat} {ls : mj_L} {st : List Value} {M : mj_H} : mj_Rn (d + 1) mj_m228 29 ls st M = mq_k5a (d + 1) mj_m228 32 ls M 200 (mq_cb 0 1 7 st M) := mj_R5e (r := (.invokevirtual 333, 3, 0, 200, 24579)) (z := mj_m200) rfl rfl (by decide) (by decide) rfl
theorem s228_32 {d : Nat} {ls : mj_L} {st : List Value} {M : mj_H} : mj_Rn d mj_m228 32 ls st M = mq_k1 d mj_m228 34 M (mj_lo 6 (.astore 5) ls st) := mj_R1 (r := (.astore 5, 2, 0, 0, 0)) rfl rfl
theorem s228_34 {d : Nat} {ls : mj_L} {st : List Value} {M : mj_H} : mj_Rn d mj_m228 34 ls st M = mq_k0 d mj_m228 36 ls M (mj_lda (mj_lk ls 5) st) := mj_R0 (r := (.aload 5, 2, 0, 0, 0)) rfl rfl
theorem s228_36 {d : Nat} {ls : mj_L} {st : List Value} {M : mj_H} : mj_Rn d mj_m228 36 ls st M = mq_k2 d mj_m228 ls M (mj_br (.ifnonnull 7) 36 st) := mj_R2 (r := (.ifnonnull 7, 3, 0, 0, 0)) rfl rfl
theorem s228_39 {d : Nat} {ls : mj_L} {st : List Value} {M : mj_H} : mj_Rn d mj_m228 39 ls st M = mj_Rn d mj_m228 40 ls (.int (-1) :: st) M := mj_R0 (r := (.iconst (-1), 1, 0, 0, 0)) rfl rfl
theorem s228_40 {d : Nat} {ls : mj_L} {st : List Value} {M : mj_H} : mj_Rn d mj_m228 40 ls st M = mj_Rn d mj_m228 49 ls st M := mj_R2 (r := (.goto 9, 3, 0, 0, 0)) rfl rfl
theorem s228_43 {d : Nat} {ls : mj_L} {st : List Value} {M : mj_H} : mj_Rn d mj_m228 43 ls st M = mq_k0 d mj_m228 45 ls M (mj_lda (mj_lk ls 5) st) := mj_R0 (r := (.aload 5, 2, 0, 0, 0)) rfl rfl
theorem s228_45 {d : Nat} {ls : mj_L} {st : List Value} {M : mj_H} : mj_Rn d mj_m228 45 ls st M = mq_k0 d mj_m228 46 ls M (mj_ldi (mj_lk ls 3) st) := mj_R0 (r := (.iload_n 3, 1, 0, 0, 0)) rfl rfl
theorem s228_46 {d : Nat} {ls : mj_L} {st : List Value} {M : mj_H} : mj_Rn (d + 1) mj_m228 46 ls st M = mq_k5a (d + 1) mj_m228 49 ls M 230 (mq_cb 0 1 0 st M) := mj_R5e (r := (.invokevirtual 337, 3, 0, 230, 24785)) (z := mj_m230) rfl rfl (by decide) (by decide) rfl
theorem s228_49 {d : Nat} {ls : mj_L} {st : List Value} {M : mj_H} : mj_Rn d mj_m228 49 ls st M = mq_k6 M (mj_re (some .int) (.ireturn) st) := mj_R6 (r := (.ireturn, 1, 0, 0, 0)) rfl rfl
/- 229 PasskeyHouse$Party.tells(I)I -/
theorem s229_0 {d : Nat} {ls : mj_L} {st : List Value} {M : mj_H} : mj_Rn d mj_m229 0 ls st M = mq_k0 d mj_m229 1 ls M (mj_ldi (mj_lk ls 1) st) := mj_R0 (r := (.iload_n 1, 1, 0, 0, 0)) rfl rfl
theorem s229_1 {d : Nat} {ls : mj_L} {st : List Value} {M : mj_H} : mj_Rn d mj_m229 1 ls st M = mq_k2 d mj_m229 ls M (mj_br (.tableswitch 51 0 3 #[31, 36, 41, 46]) 1 st) := mj_R2 (r := (.tableswitch 51 0 3 #[31, 36, 41, 46], 31, 0, 0, 0)) rfl rfl
theorem s229_32 {d : Nat} {ls : mj_L} {st : List Value} {M : mj_H} : mj_Rn d mj_m229 32 ls st M = mq_k0 d mj_m229 33 ls M (mj_lda (mj_lk ls 0) st) := mj_R0 (r := (.aload_n 0, 1, 0, 0, 0)) rfl rfl
theorem s229_33 {d : Nat} {ls : mj_L} {st : List Value} {M : mj_H} : mj_Rn d mj_m229 33 ls st M = mq_k0 d mj_m229 36 ls M (mq_gf 7 5 st M) := (mj_R3 (r := (.getfield 37, 3, 7, 5, 49374)) rfl rfl).trans (congrArg (mq_k0 d mj_m229 36 ls M) mq_gf_eq)
theorem s229_36 {d : Nat} {ls : mj_L} {st : List Value} {M : mj_H} : mj_Rn d mj_m229 36 ls st M = mq_k6 M (mj_re (some .int) (.ireturn) st) := mj_R6 (r := (.ireturn, 1, 0, 0, 0)) rfl rfl
theorem s229_37 {d : Nat} {ls : mj_L} {st : List Value} {M : mj_H} : mj_Rn d mj_m229 37 ls st M = mq_k0 d mj_m229 38 ls M (mj_lda (mj_lk ls 0) st) := mj_R0 (r := (.aload_n 0, 1, 0, 0, 0)) rfl rfl
theorem s229_38 {d : Nat} {ls : mj_L} {st : List Value} {M : mj_H} : mj_Rn d mj_m229 38 ls st M = mq_k0 d mj_m229 41 ls M (mq_gf 7 4 st M) := (mj_R3 (r := (.getfield 49, 3, 7, 4, 49370)) rfl rfl).trans (congrArg (mq_k0 d mj_m229 41 ls M) mq_gf_eq)
theorem s229_41 {d : Nat} {ls : mj_L} {st : List Value} {M : mj_H} : mj_Rn d mj_m229 41 ls st M = mq_k6 M (mj_re (some .int) (.ireturn) st) := mj_R6 (r := (.ireturn, 1, 0, 0, 0)) rfl rfl
theorem s229_42 {d : Nat} {ls : mj_L} {st : List Value} {M : mj_H} : mj_Rn d mj_m229 42 ls st M = mq_k0 d mj_m229 43 ls M (mj_lda (mj_lk ls 0) st) := mj_R0 (r := (.aload_n 0, 1, 0, 0, 0)) rfl rfl
theorem s229_43 {d : Nat} {ls : mj_L} {st : List Value} {M : mj_H} : mj_Rn d mj_m229 43 ls st M = mq_k0 d mj_m229 46 ls M (mq_gf 7 6 st M) := (mj_R3 (r := (.getfield 52, 3, 7, 6, 49378)) rfl rfl).trans (congrArg (mq_k0 d mj_m229 46 ls M) mq_gf_eq)
theorem s229_46 {d : Nat} {ls : mj_L} {st : List Value} {M : mj_H} : mj_Rn d mj_m229 46 ls st M = mq_k6 M (mj_re (some .int) (.ireturn) st) := mj_R6 (r := (.ireturn, 1, 0, 0, 0)) rfl rfl
theorem s229_47 {d : Nat} {ls : mj_L} {st : List Value} {M : mj_H} : mj_Rn d mj_m229 47 ls st M = mq_k0 d mj_m229 48 ls M (mj_lda (mj_lk ls 0) st) := mj_R0 (r := (.aload_n 0, 1, 0, 0, 0)) rfl rfl
theorem s229_48 {d : Nat} {ls : mj_L} {st : List Value} {M : mj_H} : mj_Rn d mj_m229 48 ls st M = mq_k0 d mj_m229 51 ls M (mq_gf 7 7 st M) := (mj_R3 (r := (.getfield 55, 3, 7, 7, 49380)) rfl rfl).trans (congrArg (mq_k0 d mj_m229 51 ls M) mq_gf_eq)
theorem s229_51 {d : Nat} {ls : mj_L} {st : List Value} {M : mj_H} : mj_Rn d mj_m229 51 ls st M = mq_k6 M (mj_re (some .int) (.ireturn) st) := mj_R6 (r := (.ireturn, 1, 0, 0, 0)) rfl rfl
theorem s229_52 {d : Nat} {ls : mj_L} {st : List Value} {M : mj_H} : mj_Rn d mj_m229 52 ls st M = mj_Rn d mj_m229 53 ls (.int (-1) :: st) M := mj_R0 (r := (.iconst (-1), 1, 0, 0, 0)) rfl rfl
theorem s229_53 {d : Nat} {ls : mj_L} {st : List Value} {M : mj_H} : mj_Rn d mj_m229 53 ls st M = mq_k6 M (mj_re (some .int) (.ireturn) st) := mj_R6 (r := (.ireturn, 1, 0, 0, 0)) rfl rfl
/- 230 PasskeyHouse$Account.tells(I)I -/
theorem s230_0 {d : Nat} {ls : mj_L} {st : List Value} {M : mj_H} : mj_Rn d mj_m230 0 ls st M = mq_k0 d mj_m230 1 ls M (mj_ldi (mj_lk ls 1) st) := mj_R0 (r := (.iload_n 1, 1, 0, 0, 0)) rfl rfl
theorem s230_1 {d : Nat} {ls : mj_L} {st : List Value} {M : mj_H} : mj_Rn d mj_m230 1 ls st M = mq_k2 d mj_m230 ls M (mj_br (.tableswitch 60 0 4 #[35, 40, 45, 50, 55]) 1 st) := mj_R2 (r := (.tableswitch 60 0 4 #[35, 40, 45, 50, 55], 35, 0, 0, 0)) rfl rfl
theorem s230_36 {d : Nat} {ls : mj_L} {st : List Value} {M : mj_H} : mj_Rn d mj_m230 36 ls st M = mq_k0 d mj_m230 37 ls M (mj_lda (mj_lk ls 0) st) := mj_R0 (r := (.aload_n 0, 1, 0, 0, 0)) rfl rfl
theorem s230_37 {d : Nat} {ls : mj_L} {st : List Value} {M : mj_H} : mj_Rn d mj_m230 37 ls st M = mq_k0 d mj_m230 40 ls M (mq_gf 0 0 st M) := (mj_R3 (r := (.getfield 19, 3, 0, 0, 49306)) rfl rfl).trans (congrArg (mq_k0 d mj_m230 40 ls M) mq_gf_eq)
theorem s230_40 {d : Nat} {ls : mj_L} {st : List Value} {M : mj_H} : mj_Rn d mj_m230 40 ls st M = mq_k6 M (mj_re (some .int) (.ireturn) st) := mj_R6 (r := (.ireturn, 1, 0, 0, 0)) rfl rfl
theorem s230_41 {d : Nat} {ls : mj_L} {st : List Value} {M : mj_H} : mj_Rn d mj_m230 41 ls st M = mq_k0 d mj_m230 42 ls M (mj_lda (mj_lk ls 0) st) := mj_R0 (r := (.aload_n 0, 1, 0, 0, 0)) rfl rfl
theorem s230_42 {d : Nat} {ls : mj_L} {st : List Value} {M : mj_H} : mj_Rn d mj_m230 42 ls st M = mq_k0 d mj_m230 45 ls M (mq_gf 0 1 st M) := (mj_R3 (r := (.getfield 22, 3, 0, 1, 49312)) rfl rfl).trans (congrArg (mq_k0 d mj_m230 45 ls M) mq_gf_eq)
theorem s230_45 {d : Nat} {ls : mj_L} {st : List Value} {M : mj_H} : mj_Rn d mj_m230 45 ls st M = mq_k6 M (mj_re (some .int) (.ireturn) st) := mj_R6 (r := (.ireturn, 1, 0, 0, 0)) rfl rfl
theorem s230_46 {d : Nat} {ls : mj_L} {st : List Value} {M : mj_H} : mj_Rn d mj_m230 46 ls st M = mq_k0 d mj_m230 47 ls M (mj_lda (mj_lk ls 0) st) := mj_R0 (r := (.aload_n 0, 1, 0, 0, 0)) rfl rfl
theorem s230_47 {d : Nat} {ls : mj_L} {st : List Value} {M : mj_H} : mj_Rn d mj_m230 47 ls st M = mq_k0 d mj_m230 50 ls M (mq_gf 0 2 st M) := (mj_R3 (r := (.getfield 25, 3, 0, 2, 49316)) rfl rfl).trans (congrArg (mq_k0 d mj_m230 50 ls M) mq_gf_eq)
theorem s230_50 {d : Nat} {ls : mj_L} {st : List Value} {M : mj_H} : mj_Rn d mj_m230 50 ls st M = mq_k6 M (mj_re (some .int) (.ireturn) st) := mj_R6 (r := (.ireturn, 1, 0, 0, 0)) rfl rfl
theorem s230_51 {d : Nat} {ls : mj_L} {st : List Value} {M : mj_H} : mj_Rn d mj_m230 51 ls st M = mq_k0 d mj_m230 52 ls M (mj_lda (mj_lk ls 0) st) := mj_R0 (r := (.aload_n 0, 1, 0, 0, 0)) rfl rfl
theorem s230_52 {d : Nat} {ls : mj_L} {st : List Value} {M : mj_H} : mj_Rn d mj_m230 52 ls st M = mq_k0 d mj_m230 55 ls M (mq_gf 0 3 st M) := (mj_R3 (r := (.getfield 28, 3, 0, 3, 49320)) rfl rfl).trans (congrArg (mq_k0 d mj_m230 55 ls M) mq_gf_eq)
theorem s230_55 {d : Nat} {ls : mj_L} {st : List Value} {M : mj_H} : mj_Rn d mj_m230 55 ls st M = mq_k6 M (mj_re (some .int) (.ireturn) st) := mj_R6 (r := (.ireturn, 1, 0, 0, 0)) rfl rfl
theorem s230_56 {d : Nat} {ls : mj_L} {st : List Value} {M : mj_H} : mj_Rn d mj_m230 56 ls st M = mq_k0 d mj_m230 57 ls M (mj_lda (mj_lk ls 0) st) := mj_R0 (r := (.aload_n 0, 1, 0, 0, 0)) rfl rfl
theorem s230_57 {d : Nat} {ls : mj_L} {st : List Value} {M : mj_H} : mj_Rn d mj_m230 57 ls st M = mq_k0 d mj_m230 60 ls M (mq_gf 0 5 st M) := (mj_R3 (r := (.getfield 15, 3, 0, 5, 49328)) rfl rfl).trans (congrArg (mq_k0 d mj_m230 60 ls M) mq_gf_eq)
theorem s230_60 {d : Nat} {ls : mj_L} {st : List Value} {M : mj_H} : mj_Rn d mj_m230 60 ls st M = mq_k6 M (mj_re (some .int) (.ireturn) st) := mj_R6 (r := (.ireturn, 1, 0, 0, 0)) rfl rfl
theorem s230_61 {d : Nat} {ls : mj_L} {st : List Value} {M : mj_H} : mj_Rn d mj_m230 61 ls st M = mq_k0 d mj_m230 62 ls M (mj_ldi (mj_lk ls 1) st) := mj_R0 (r := (.iload_n 1, 1, 0, 0, 0)) rfl rfl
theorem s230_62 {d : Nat} {ls : mj_L} {st : List Value} {M : mj_H} : mj_Rn d mj_m230 62 ls st M = mj_Rn d mj_m230 63 ls (.int 5 :: st) M := mj_R0 (r := (.iconst 5, 1, 0, 0, 0)) rfl rfl
theorem s230_63 {d : Nat} {ls : mj_L} {st : List Value} {M : mj_H} : mj_Rn d mj_m230 63 ls st M = mq_k2 d mj_m230 ls M (mj_br (.if_icmp .ge 7) 63 st) := mj_R2 (r := (.if_icmp .ge 7, 3, 0, 0, 0)) rfl rfl
theorem s230_66 {d : Nat} {ls : mj_L} {st : List Value} {M : mj_H} : mj_Rn d mj_m230 66 ls st M = mj_Rn d mj_m230 67 ls (.int (-1) :: st) M := mj_R0 (r := (.iconst (-1), 1, 0, 0, 0)) rfl rfl
theorem s230_67 {d : Nat} {ls : mj_L} {st : List Value} {M : mj_H} : mj_Rn d mj_m230 67 ls st M = mj_Rn d mj_m230 84 ls st M := mj_R2 (r := (.goto 17, 3, 0, 0, 0)) rfl rfl
theorem s230_70 {d : Nat} {ls : mj_L} {st : List Value} {M : mj_H} : mj_Rn d mj_m230 70 ls st M = mq_k0 d mj_m230 71 ls M (mj_lda (mj_lk ls 0) st) := mj_R0 (r := (.aload_n 0, 1, 0, 0, 0)) rfl rfl
theorem s230_71 {d : Nat} {ls : mj_L} {st : List Value} {M : mj_H} : mj_Rn d mj_m230 71 ls st M = mq_k0 d mj_m230 74 ls M (mq_gf 0 4 st M) := (mj_R3 (r := (.getfield 9, 3, 0, 4, 49324)) rfl rfl).trans (congrArg (mq_k0 d mj_m230 74 ls M) mq_gf_eq)
theorem s230_74 {d : Nat} {ls : mj_L} {st : List Value} {M : mj_H} : mj_Rn d mj_m230 74 ls st M = mq_k0 d mj_m230 75 ls M (mj_lda (mj_lk ls 0) st) := mj_R0 (r := (.aload_n 0, 1, 0, 0, 0)) rfl rfl
theorem s230_75 {d : Nat} {ls : mj_L} {st : List Value} {M : mj_H} : mj_Rn d mj_m230 75 ls st M = mq_k0 d mj_m230 78 ls M (mq_gf 0 5 st M) := (mj_R3 (r := (.getfield 15, 3, 0, 5, 49328)) rfl rfl).trans (congrArg (mq_k0 d mj_m230 78 ls M) mq_gf_eq)
theorem s230_78 {d : Nat} {ls : mj_L} {st : List Value} {M : mj_H} : mj_Rn d mj_m230 78 ls st M = mq_k0 d mj_m230 79 ls M (mj_ldi (mj_lk ls 1) st) := mj_R0 (r := (.iload_n 1, 1, 0, 0, 0)) rfl rfl
theorem s230_79 {d : Nat} {ls : mj_L} {st : List Value} {M : mj_H} : mj_Rn d mj_m230 79 ls st M = mj_Rn d mj_m230 80 ls (.int 5 :: st) M := mj_R0 (r := (.iconst 5, 1, 0, 0, 0)) rfl rfl
theorem s230_80 {d : Nat} {ls : mj_L} {st : List Value} {M : mj_H} : mj_Rn d mj_m230 80 ls st M = mq_k0 d mj_m230 81 ls M (mj_pu .isub ls st) := mj_R0 (r := (.isub, 1, 0, 0, 0)) rfl rfl
theorem s230_81 {d : Nat} {ls : mj_L} {st : List Value} {M : mj_H} : mj_Rn (d + 1) mj_m230 81 ls st M = mq_k5a (d + 1) mj_m230 84 ls M 166 (mq_cb 3 3 10 st M) := mj_R5e (r := (.invokestatic 31, 3, 3, 166, 24789)) (z := mj_m166) rfl rfl (by decide) (by decide) rfl
theorem s230_84 {d : Nat} {ls : mj_L} {st : List Value} {M : mj_H} : mj_Rn d mj_m230 84 ls st M = mq_k6 M (mj_re (some .int) (.ireturn) st) := mj_R6 (r := (.ireturn, 1, 0, 0, 0)) rfl rfl
theorem c214 {d : Nat} {a0 : Nat} {x1 : Int32} {x2 : Int64} {x3 : Int32} {x4 : Int32} {x5 : Int32} {M : mj_H} : mj_V (d + 1) 214 [.ref a0, .int x1, .long x2, .int x3, .int x4, .int x5] M = mj_Rn d mj_m214 0 [(0, .ref a0), (1, .int x1), (2, .long x2), (4, .int x3), (5, .int x4), (6, .int x5)] [] M := mj_V_go rfl (Nat.le_of_ble_eq_true rfl)
theorem c215 {d : Nat} {a0 : Nat} {M : mj_H} : mj_V (d + 1) 215 [.ref a0] M = mj_Rn d mj_m215 0 [(0, .ref a0)] [] M := mj_V_go rfl (Nat.le_of_ble_eq_true rfl)
theorem c227 {d : Nat} {a0 : Nat} {x1 : Int32} {M : mj_H} : mj_V (d + 1) 227 [.ref a0, .int x1] M = mj_Rn d mj_m227 0 [(0, .ref a0), (1, .int x1)] [] M := mj_V_go rfl (Nat.le_of_ble_eq_true rfl)
theorem c228 {d : Nat} {a0 : Nat} {x1 : Int32} {x2 : Int32} {x3 : Int32} {M : mj_H} : mj_V (d + 1) 228 [.ref a0, .int x1, .int x2, .int x3] M = mj_Rn d mj_m228 0 [(0, .ref a0), (1, .int x1), (2, .int x2), (3, .int x3)] [] M := mj_V_go rfl (Nat.le_of_ble_eq_true rfl)
theorem c229 {d : Nat} {a0 : Nat} {x1 : Int32} {M : mj_H} : mj_V (d + 1) 229 [.ref a0, .int x1] M = mj_Rn d mj_m229 0 [(0, .ref a0), (1, .int x1)] [] M := mj_V_go rfl (Nat.le_of_ble_eq_true rfl)
theorem c230 {d : Nat} {a0 : Nat} {x1 : Int32} {M : mj_H} : mj_V (d + 1) 230 [.ref a0, .int x1] M = mj_Rn d mj_m230 0 [(0, .ref a0), (1, .int x1)] [] M := mj_V_go rfl (Nat.le_of_ble_eq_true rfl)
section HZ
variable {M M' : mj_H} {H H' : Ho} {κs πs : List Nat} {row row' ms : List Int32} {d : Nat} {i l : Int32} {π : Nat} {p : Pa} {u : List Int32}
def po (π : Nat) (p : Pa) : mj_C := (7, [.ref (π + 1), .ref (π + 3), .ref (π + 5), .ref (π + 10), .int (nI p.2.2.1.length), .int (nI p.2.2.2.1.length), .int p.2.2.2.2.1, .int p.2.2.2.2.2])
/-- a party has changed, in its own cells -/
theorem hz.pback (z : hz M H κs πs row) {j : Nat} {p' : Pa} (hp : H.2.2.2.2[j]? = some p) (hπ : πs[j]? = some π) (hz' : pz M' π p') (hl : M'.length = M.length) (hs : ∀ c, ¬ (π ≤ c ∧ c ≤ π + 18) → M'[c]? = M[c]?) (hg : mj_gr M M') : hz M' (H.pt j p') κs πs row ∧ hf M M' := by
  have hlo := hz'.lo
  have hm := List.mem_of_getElem? hπ
  have hbk := z.bk
  have hbp := z.bp
  have h30 : M'[30]? = M[30]? := hs _ (by omega)
  have hzz := mj_zz_eq hg h30 z.t.p30.pe
  have hsl := hg.sl
  rw [List.drop_eq_nil_of_le (by omega)] at hsl
  have f : fx (fun c => π ≤ c ∧ c ≤ π + 18) M M' := by
    refine (fx_mk_ hg (fun c _ hc => hs c hc) ?_ ?_)
    · rw [hsl, hzz]; simp [mj_sl]
    · rw [hzz, hl]; exact Nat.le_refl _
  have t' : tx (hA κs πs) M' H.2.1 row := z.t.fr (by omega) (fun c _ hc => hs c (fun n => hc (Or.inr (Or.inr (Or.inr ⟨π, hm, n⟩)))))
  have hpl := (List.getElem?_eq_some_iff.mp hp).1
  refine z.go f (fun c hc => by unfold cst at hc; omega) t' (z.tpF f (fun c hc => by omega)) (z.msF f (fun c hc => by omega)) (z.itF f (fun c hc => by omega)) (z.hdF f (fun c hc => by omega)) z.hl (z.kyF f (fun κ hk c hc => by have := z.dx κ hk π hm; omega) ⟨by omega, by omega⟩) rfl ?_ (by simp [Ho.pt])
  intro i q π' h1 h2
  by_cases hij : j = i
  · subst hij
    unfold Ho.pt at h1
    rw [List.getElem?_set_self hpl] at h1
    cases h1
    rw [hπ] at h2
    cases h2
    exact hz'
  · unfold Ho.pt at h1
    rw [List.getElem?_set_ne hij] at h1
    have hd := z.dp j i π π' hπ h2 hij
    exact (z.py i q π' h1 h2).fr (fun c hc => hs c (by omega))
theorem pz.upd (h : pz M π p) {p' : Pa} (h1 : p'.1 = p.1) (h2 : p'.2.1 = p.2.1) (h3 : ∀ (i : Nat) (o : Of), p'.2.2.1[i]? = some o → p.2.2.1[i]? = some o) (h4 : p'.2.2.2.1 = p.2.2.2.1) (h5 : p'.2.2.1.length ≤ 4) : pz (M.set π (po π p')) π p' := by
  have e : ∀ c, c ≠ π → (M.set π (po π p'))[c]? = M[c]? := fun c hc => List.getElem?_set_ne (fun z => hc z.symm)
  obtain ⟨ol, o1, o2, o3, o4, o5, o6⟩ := h.oa
  refine (pz_mk_ (List.getElem?_set_self (mq_lt h.ob)) (by rw [h1]; exact h.og.fr (e _ (by omega)) (e _ (by omega))) (by rw [h2]; exact h.nm.fr (e _ (by omega)) (e _ (by omega))) (⟨ol, o1, (e _ (by omega)).trans o2, o3, o4, ?_, ?_⟩) ((e _ (by omega)).trans h.aa) ?_ ?_ h5 (by rw [h4]; exact h.l8) h.lo)
  · intro i o x q1 q2
    have := o3 x (List.mem_of_getElem? q2)
    exact (e _ (by omega)).trans (o5 i o x (h3 i o q1) q2)
  · intro x hx
    have := o3 x hx
    obtain ⟨a, b, c, d, f, q⟩ := o6 x hx
    exact ⟨a, b, c, d, f, (e _ (by omega)).trans q⟩
  · intro i a hi
    rw [h4] at hi
    exact (e _ (by omega)).trans (h.ac i a hi)
  · intro i hi
    obtain ⟨a, b, c, d, f, g, q⟩ := h.ax i hi
    exact ⟨a, b, c, d, f, g, (e _ (by omega)).trans q⟩
theorem h_withdraw (z : hz M H κs πs row) : ∃ M', mj_V (d + 2) 227 [.ref 25, .int i] M = some (some (.int (ho_withdraw H i).1), M') ∧ hz M' (ho_withdraw H i).2 κs πs row ∧ hf M M' := by
  have x0 := z.ob
  unfold ho_withdraw
  cases hix : ix i H.2.2.2.2.length with
  | none =>
    have v0 := h_parN (d := d) z hix
    refine ⟨M, ?_, z, hf.rf⟩
    simp (disch := (first | omega | decide)) [c227, s227_0, s227_1, s227_2, s227_5, s227_6, s227_7, s227_10, s227_11, s227_12, s227_13, s227_16, s227_17, s227_18, s227_19, s227_22, s227_23, mq_k0s, mq_k1s, mq_k2s, mq_k4s, mq_k5s, mq_k5n, mq_k5as, mq_k6s, mj_pu, mj_lo, mj_br, mj_hr, mj_hw, mq_gf, mq_len, mq_al, mq_pf, mq_ok, mj_re, mq_lkm, mq_lkn, mj_ldi, mj_ldl, mj_lda, mj_ii, mj_ll, mj_li, mj_i1, ms_1, ms_2, f1_n, f1_i, f1_r, f1_u, f1_l, f2_n, f2_i, f2_r, f2_u, f2_l, mj_tg, mj_c1, mj_c2, mj_ar, mj_aw, mq_cb, mq_oi, mj_rm, Value.category, -getElem?_pos, List.getElem?_cons_zero, decide_eq_true, decide_eq_false, nl_lt, nl_le, ln_lt, ln_le, nl_eq, ln_eq, nl_add, ln_add, nl_sub, ln_mul, nI_sub, nI_mul, nI_add, nI_lt_iff, nI_le_iff, nI_inj, nI_num, mq_ix, nI_1, nl_mul, nl_div, x0, v0, narrow]
  | some j =>
    obtain ⟨rfl, hj, -⟩ := ix_some hix
    have hp := List.getElem?_eq_getElem hj
    obtain ⟨π, hπ, hpz⟩ := z.pzz hp
    have v0 := h_parS (d := d) z hπ
    generalize H.2.2.2.2[j] = p at *
    dsimp only
    rw [hp]
    have hz' := hpz.upd (p' := ((p.1, (p.2.1, ([], (p.2.2.2.1, (p.2.2.2.2.1, p.2.2.2.2.2))))) : Pa)) rfl rfl (by intro i o h; cases h) rfl (by simp)
    have xp := hpz.ob
    have lp := mq_lt hpz.ob
    have hlo := hpz.lo
    have hh : ¬ π < 25 := by omega
    obtain ⟨z1, g1⟩ := z.pback hp hπ hz' (by simp) (fun c hc => List.getElem?_set_ne (by omega)) (mj_gr.set hpz.ob rfl rfl)
    refine ⟨_, ?_, z1, g1⟩
    simp (disch := (first | omega | decide)) [c227, s227_0, s227_1, s227_2, s227_5, s227_6, s227_7, s227_10, s227_11, s227_12, s227_13, s227_16, s227_17, s227_18, s227_19, s227_22, s227_23, mq_k0s, mq_k1s, mq_k2s, mq_k4s, mq_k5s, mq_k5n, mq_k5as, mq_k6s, mj_pu, mj_lo, mj_br, mj_hr, mj_hw, mq_gf, mq_len, mq_al, mq_pf, mq_ok, mj_re, mq_lkm, mq_lkn, mj_ldi, mj_ldl, mj_lda, mj_ii, mj_ll, mj_li, mj_i1, ms_1, ms_2, f1_n, f1_i, f1_r, f1_u, f1_l, f2_n, f2_i, f2_r, f2_u, f2_l, mj_tg, mj_c1, mj_c2, mj_ar, mj_aw, mq_cb, mq_oi, mj_rm, Value.category, -getElem?_pos, List.getElem?_cons_zero, decide_eq_true, decide_eq_false, nl_lt, nl_le, ln_lt, ln_le, nl_eq, ln_eq, nl_add, ln_add, nl_sub, ln_mul, nI_sub, nI_mul, nI_add, nI_lt_iff, nI_le_iff, nI_inj, nI_num, mq_ix, nI_1, nl_mul, nl_div, x0, v0, xp, narrow, mj_E, hh, lp, po]
    rfl
theorem j_ptell (h : pz M π p) (w : Int32) : mj_V (d + 1) 229 [.ref π, .int w] M = some (some (.int (pa_tell p w)), M) := by
  have xp := h.ob
  unfold pa_tell
  by_cases h0 : w = 0
  · subst h0; simp (disch := (first | omega | decide)) [c229, s229_0, s229_1, s229_32, s229_33, s229_36, s229_37, s229_38, s229_41, s229_42, s229_43, s229_46, s229_47, s229_48, s229_51, s229_52, s229_53, mq_k0s, mq_k1s, mq_k2s, mq_k4s, mq_k5s, mq_k5n, mq_k5as, mq_k6s, mj_pu, mj_lo, mj_br, mj_hr, mj_hw, mq_gf, mq_len, mq_al, mq_pf, mq_ok, mj_re, mq_lkm, mq_lkn, mj_ldi, mj_ldl, mj_lda, mj_ii, mj_ll, mj_li, mj_i1, ms_1, ms_2, f1_n, f1_i, f1_r, f1_u, f1_l, f2_n, f2_i, f2_r, f2_u, f2_l, mj_tg, mj_c1, mj_c2, mj_ar, mj_aw, mq_cb, mq_oi, mj_rm, Value.category, -getElem?_pos, List.getElem?_cons_zero, decide_eq_true, decide_eq_false, nl_lt, nl_le, ln_lt, ln_le, nl_eq, ln_eq, nl_add, ln_add, nl_sub, ln_mul, nI_sub, nI_mul, nI_add, nI_lt_iff, nI_le_iff, nI_inj, nI_num, mq_ix, nI_1, nl_mul, nl_div, xp, narrow]
  by_cases h1 : w = 1
  · subst h1; simp (disch := (first | omega | decide)) [c229, s229_0, s229_1, s229_32, s229_33, s229_36, s229_37, s229_38, s229_41, s229_42, s229_43, s229_46, s229_47, s229_48, s229_51, s229_52, s229_53, mq_k0s, mq_k1s, mq_k2s, mq_k4s, mq_k5s, mq_k5n, mq_k5as, mq_k6s, mj_pu, mj_lo, mj_br, mj_hr, mj_hw, mq_gf, mq_len, mq_al, mq_pf, mq_ok, mj_re, mq_lkm, mq_lkn, mj_ldi, mj_ldl, mj_lda, mj_ii, mj_ll, mj_li, mj_i1, ms_1, ms_2, f1_n, f1_i, f1_r, f1_u, f1_l, f2_n, f2_i, f2_r, f2_u, f2_l, mj_tg, mj_c1, mj_c2, mj_ar, mj_aw, mq_cb, mq_oi, mj_rm, Value.category, -getElem?_pos, List.getElem?_cons_zero, decide_eq_true, decide_eq_false, nl_lt, nl_le, ln_lt, ln_le, nl_eq, ln_eq, nl_add, ln_add, nl_sub, ln_mul, nI_sub, nI_mul, nI_add, nI_lt_iff, nI_le_iff, nI_inj, nI_num, mq_ix, nI_1, nl_mul, nl_div, xp, narrow]
  by_cases h2 : w = 2
  · subst h2; simp (disch := (first | omega | decide)) [c229, s229_0, s229_1, s229_32, s229_33, s229_36, s229_37, s229_38, s229_41, s229_42, s229_43, s229_46, s229_47, s229_48, s229_51, s229_52, s229_53, mq_k0s, mq_k1s, mq_k2s, mq_k4s, mq_k5s, mq_k5n, mq_k5as, mq_k6s, mj_pu, mj_lo, mj_br, mj_hr, mj_hw, mq_gf, mq_len, mq_al, mq_pf, mq_ok, mj_re, mq_lkm, mq_lkn, mj_ldi, mj_ldl, mj_lda, mj_ii, mj_ll, mj_li, mj_i1, ms_1, ms_2, f1_n, f1_i, f1_r, f1_u, f1_l, f2_n, f2_i, f2_r, f2_u, f2_l, mj_tg, mj_c1, mj_c2, mj_ar, mj_aw, mq_cb, mq_oi, mj_rm, Value.category, -getElem?_pos, List.getElem?_cons_zero, decide_eq_true, decide_eq_false, nl_lt, nl_le, ln_lt, ln_le, nl_eq, ln_eq, nl_add, ln_add, nl_sub, ln_mul, nI_sub, nI_mul, nI_add, nI_lt_iff, nI_le_iff, nI_inj, nI_num, mq_ix, nI_1, nl_mul, nl_div, xp, narrow]
  by_cases h3 : w = 3
  · subst h3; simp (disch := (first | omega | decide)) [c229, s229_0, s229_1, s229_32, s229_33, s229_36, s229_37, s229_38, s229_41, s229_42, s229_43, s229_46, s229_47, s229_48, s229_51, s229_52, s229_53, mq_k0s, mq_k1s, mq_k2s, mq_k4s, mq_k5s, mq_k5n, mq_k5as, mq_k6s, mj_pu, mj_lo, mj_br, mj_hr, mj_hw, mq_gf, mq_len, mq_al, mq_pf, mq_ok, mj_re, mq_lkm, mq_lkn, mj_ldi, mj_ldl, mj_lda, mj_ii, mj_ll, mj_li, mj_i1, ms_1, ms_2, f1_n, f1_i, f1_r, f1_u, f1_l, f2_n, f2_i, f2_r, f2_u, f2_l, mj_tg, mj_c1, mj_c2, mj_ar, mj_aw, mq_cb, mq_oi, mj_rm, Value.category, -getElem?_pos, List.getElem?_cons_zero, decide_eq_true, decide_eq_false, nl_lt, nl_le, ln_lt, ln_le, nl_eq, ln_eq, nl_add, ln_add, nl_sub, ln_mul, nI_sub, nI_mul, nI_add, nI_lt_iff, nI_le_iff, nI_inj, nI_num, mq_ix, nI_1, nl_mul, nl_div, xp, narrow]
  have hw : w.toInt < 0 ∨ 3 < w.toInt := by
    have g0 := ne_toInt h0
    have g1 := ne_toInt h1
    have g2 := ne_toInt h2
    have g3 := ne_toInt h3
    simp at g0 g1 g2 g3
    omega
  simp (disch := (first | omega | decide)) [c229, s229_0, s229_1, s229_32, s229_33, s229_36, s229_37, s229_38, s229_41, s229_42, s229_43, s229_46, s229_47, s229_48, s229_51, s229_52, s229_53, mq_k0s, mq_k1s, mq_k2s, mq_k4s, mq_k5s, mq_k5n, mq_k5as, mq_k6s, mj_pu, mj_lo, mj_br, mj_hr, mj_hw, mq_gf, mq_len, mq_al, mq_pf, mq_ok, mj_re, mq_lkm, mq_lkn, mj_ldi, mj_ldl, mj_lda, mj_ii, mj_ll, mj_li, mj_i1, ms_1, ms_2, f1_n, f1_i, f1_r, f1_u, f1_l, f2_n, f2_i, f2_r, f2_u, f2_l, mj_tg, mj_c1, mj_c2, mj_ar, mj_aw, mq_cb, mq_oi, mj_rm, Value.category, -getElem?_pos, List.getElem?_cons_zero, decide_eq_true, decide_eq_false, nl_lt, nl_le, ln_lt, ln_le, nl_eq, ln_eq, nl_add, ln_add, nl_sub, ln_mul, nI_sub, nI_mul, nI_add, nI_lt_iff, nI_le_iff, nI_inj, nI_num, mq_ix, nI_1, nl_mul, nl_div, xp, h0, h1, h2, h3, hw, narrow]
theorem j_atell {a : Nat} {c : Ac} (hc : M[a]? = some (acc c)) (hu : c.2.2.2.2.length ≤ 8 ∧ ∀ v ∈ c.2.2.2.2, v &&& 255 = v) (w : Int32) : mj_V (d + 2) 230 [.ref a, .int w] M = some (some (.int (ac_tell c w)), M) := by
  unfold acc at hc
  unfold ac_tell
  by_cases h0 : w = 0
  · subst h0; simp (disch := (first | omega | decide)) [c230, s230_0, s230_1, s230_36, s230_37, s230_40, s230_41, s230_42, s230_45, s230_46, s230_47, s230_50, s230_51, s230_52, s230_55, s230_56, s230_57, s230_60, s230_61, s230_62, s230_63, s230_66, s230_67, s230_70, s230_71, s230_74, s230_75, s230_78, s230_79, s230_80, s230_81, s230_84, mq_k0s, mq_k1s, mq_k2s, mq_k4s, mq_k5s, mq_k5n, mq_k5as, mq_k6s, mj_pu, mj_lo, mj_br, mj_hr, mj_hw, mq_gf, mq_len, mq_al, mq_pf, mq_ok, mj_re, mq_lkm, mq_lkn, mj_ldi, mj_ldl, mj_lda, mj_ii, mj_ll, mj_li, mj_i1, ms_1, ms_2, f1_n, f1_i, f1_r, f1_u, f1_l, f2_n, f2_i, f2_r, f2_u, f2_l, mj_tg, mj_c1, mj_c2, mj_ar, mj_aw, mq_cb, mq_oi, mj_rm, Value.category, -getElem?_pos, List.getElem?_cons_zero, decide_eq_true, decide_eq_false, nl_lt, nl_le, ln_lt, ln_le, nl_eq, ln_eq, nl_add, ln_add, nl_sub, ln_mul, nI_sub, nI_mul, nI_add, nI_lt_iff, nI_le_iff, nI_inj, nI_num, mq_ix, nI_1, nl_mul, nl_div, hc, narrow]
  by_cases h1 : w = 1
  · subst h1; simp (disch := (first | omega | decide)) [c230, s230_0, s230_1, s230_36, s230_37, s230_40, s230_41, s230_42, s230_45, s230_46, s230_47, s230_50, s230_51, s230_52, s230_55, s230_56, s230_57, s230_60, s230_61, s230_62, s230_63, s230_66, s230_67, s230_70, s230_71, s230_74, s230_75, s230_78, s230_79, s230_80, s230_81, s230_84, mq_k0s, mq_k1s, mq_k2s, mq_k4s, mq_k5s, mq_k5n, mq_k5as, mq_k6s, mj_pu, mj_lo, mj_br, mj_hr, mj_hw, mq_gf, mq_len, mq_al, mq_pf, mq_ok, mj_re, mq_lkm, mq_lkn, mj_ldi, mj_ldl, mj_lda, mj_ii, mj_ll, mj_li, mj_i1, ms_1, ms_2, f1_n, f1_i, f1_r, f1_u, f1_l, f2_n, f2_i, f2_r, f2_u, f2_l, mj_tg, mj_c1, mj_c2, mj_ar, mj_aw, mq_cb, mq_oi, mj_rm, Value.category, -getElem?_pos, List.getElem?_cons_zero, decide_eq_true, decide_eq_false, nl_lt, nl_le, ln_lt, ln_le, nl_eq, ln_eq, nl_add, ln_add, nl_sub, ln_mul, nI_sub, nI_mul, nI_add, nI_lt_iff, nI_le_iff, nI_inj, nI_num, mq_ix, nI_1, nl_mul, nl_div, hc, narrow]
  by_cases h2 : w = 2
  · subst h2; simp (disch := (first | omega | decide)) [c230, s230_0, s230_1, s230_36, s230_37, s230_40, s230_41, s230_42, s230_45, s230_46, s230_47, s230_50, s230_51, s230_52, s230_55, s230_56, s230_57, s230_60, s230_61, s230_62, s230_63, s230_66, s230_67, s230_70, s230_71, s230_74, s230_75, s230_78, s230_79, s230_80, s230_81, s230_84, mq_k0s, mq_k1s, mq_k2s, mq_k4s, mq_k5s, mq_k5n, mq_k5as, mq_k6s, mj_pu, mj_lo, mj_br, mj_hr, mj_hw, mq_gf, mq_len, mq_al, mq_pf, mq_ok, mj_re, mq_lkm, mq_lkn, mj_ldi, mj_ldl, mj_lda, mj_ii, mj_ll, mj_li, mj_i1, ms_1, ms_2, f1_n, f1_i, f1_r, f1_u, f1_l, f2_n, f2_i, f2_r, f2_u, f2_l, mj_tg, mj_c1, mj_c2, mj_ar, mj_aw, mq_cb, mq_oi, mj_rm, Value.category, -getElem?_pos, List.getElem?_cons_zero, decide_eq_true, decide_eq_false, nl_lt, nl_le, ln_lt, ln_le, nl_eq, ln_eq, nl_add, ln_add, nl_sub, ln_mul, nI_sub, nI_mul, nI_add, nI_lt_iff, nI_le_iff, nI_inj, nI_num, mq_ix, nI_1, nl_mul, nl_div, hc, narrow]
  by_cases h3 : w = 3
  · subst h3; simp (disch := (first | omega | decide)) [c230, s230_0, s230_1, s230_36, s230_37, s230_40, s230_41, s230_42, s230_45, s230_46, s230_47, s230_50, s230_51, s230_52, s230_55, s230_56, s230_57, s230_60, s230_61, s230_62, s230_63, s230_66, s230_67, s230_70, s230_71, s230_74, s230_75, s230_78, s230_79, s230_80, s230_81, s230_84, mq_k0s, mq_k1s, mq_k2s, mq_k4s, mq_k5s, mq_k5n, mq_k5as, mq_k6s, mj_pu, mj_lo, mj_br, mj_hr, mj_hw, mq_gf, mq_len, mq_al, mq_pf, mq_ok, mj_re, mq_lkm, mq_lkn, mj_ldi, mj_ldl, mj_lda, mj_ii, mj_ll, mj_li, mj_i1, ms_1, ms_2, f1_n, f1_i, f1_r, f1_u, f1_l, f2_n, f2_i, f2_r, f2_u, f2_l, mj_tg, mj_c1, mj_c2, mj_ar, mj_aw, mq_cb, mq_oi, mj_rm, Value.category, -getElem?_pos, List.getElem?_cons_zero, decide_eq_true, decide_eq_false, nl_lt, nl_le, ln_lt, ln_le, nl_eq, ln_eq, nl_add, ln_add, nl_sub, ln_mul, nI_sub, nI_mul, nI_add, nI_lt_iff, nI_le_iff, nI_inj, nI_num, mq_ix, nI_1, nl_mul, nl_div, hc, narrow]
  by_cases h4 : w = 4
  · subst h4; simp (disch := (first | omega | decide)) [c230, s230_0, s230_1, s230_36, s230_37, s230_40, s230_41, s230_42, s230_45, s230_46, s230_47, s230_50, s230_51, s230_52, s230_55, s230_56, s230_57, s230_60, s230_61, s230_62, s230_63, s230_66, s230_67, s230_70, s230_71, s230_74, s230_75, s230_78, s230_79, s230_80, s230_81, s230_84, mq_k0s, mq_k1s, mq_k2s, mq_k4s, mq_k5s, mq_k5n, mq_k5as, mq_k6s, mj_pu, mj_lo, mj_br, mj_hr, mj_hw, mq_gf, mq_len, mq_al, mq_pf, mq_ok, mj_re, mq_lkm, mq_lkn, mj_ldi, mj_ldl, mj_lda, mj_ii, mj_ll, mj_li, mj_i1, ms_1, ms_2, f1_n, f1_i, f1_r, f1_u, f1_l, f2_n, f2_i, f2_r, f2_u, f2_l, mj_tg, mj_c1, mj_c2, mj_ar, mj_aw, mq_cb, mq_oi, mj_rm, Value.category, -getElem?_pos, List.getElem?_cons_zero, decide_eq_true, decide_eq_false, nl_lt, nl_le, ln_lt, ln_le, nl_eq, ln_eq, nl_add, ln_add, nl_sub, ln_mul, nI_sub, nI_mul, nI_add, nI_lt_iff, nI_le_iff, nI_inj, nI_num, mq_ix, nI_1, nl_mul, nl_div, hc, narrow]
  have hw : w.toInt < 0 ∨ 4 < w.toInt := by
    have g0 := ne_toInt h0
    have g1 := ne_toInt h1
    have g2 := ne_toInt h2
    have g3 := ne_toInt h3
    have g4 := ne_toInt h4
    simp at g0 g1 g2 g3 g4
    omega
  by_cases h5 : w < 5
  · have n5 : ¬ 5 ≤ w := by rw [Int32.le_iff_toInt_le]; rw [Int32.lt_iff_toInt_lt] at h5; omega
    simp (disch := (first | omega | decide)) [c230, s230_0, s230_1, s230_36, s230_37, s230_40, s230_41, s230_42, s230_45, s230_46, s230_47, s230_50, s230_51, s230_52, s230_55, s230_56, s230_57, s230_60, s230_61, s230_62, s230_63, s230_66, s230_67, s230_70, s230_71, s230_74, s230_75, s230_78, s230_79, s230_80, s230_81, s230_84, mq_k0s, mq_k1s, mq_k2s, mq_k4s, mq_k5s, mq_k5n, mq_k5as, mq_k6s, mj_pu, mj_lo, mj_br, mj_hr, mj_hw, mq_gf, mq_len, mq_al, mq_pf, mq_ok, mj_re, mq_lkm, mq_lkn, mj_ldi, mj_ldl, mj_lda, mj_ii, mj_ll, mj_li, mj_i1, ms_1, ms_2, f1_n, f1_i, f1_r, f1_u, f1_l, f2_n, f2_i, f2_r, f2_u, f2_l, mj_tg, mj_c1, mj_c2, mj_ar, mj_aw, mq_cb, mq_oi, mj_rm, Value.category, -getElem?_pos, List.getElem?_cons_zero, decide_eq_true, decide_eq_false, nl_lt, nl_le, ln_lt, ln_le, nl_eq, ln_eq, nl_add, ln_add, nl_sub, ln_mul, nI_sub, nI_mul, nI_add, nI_lt_iff, nI_le_iff, nI_inj, nI_num, mq_ix, nI_1, nl_mul, nl_div, hc, h0, h1, h2, h3, h4, hw, h5, n5, narrow]
  · have n5 : 5 ≤ w := by rw [Int32.le_iff_toInt_le]; rw [Int32.lt_iff_toInt_lt] at h5; omega
    have v1 := j_byte (d := d) (M := M) hu.2 hu.1 (w - 5)
    simp (disch := (first | omega | decide)) [c230, s230_0, s230_1, s230_36, s230_37, s230_40, s230_41, s230_42, s230_45, s230_46, s230_47, s230_50, s230_51, s230_52, s230_55, s230_56, s230_57, s230_60, s230_61, s230_62, s230_63, s230_66, s230_67, s230_70, s230_71, s230_74, s230_75, s230_78, s230_79, s230_80, s230_81, s230_84, mq_k0s, mq_k1s, mq_k2s, mq_k4s, mq_k5s, mq_k5n, mq_k5as, mq_k6s, mj_pu, mj_lo, mj_br, mj_hr, mj_hw, mq_gf, mq_len, mq_al, mq_pf, mq_ok, mj_re, mq_lkm, mq_lkn, mj_ldi, mj_ldl, mj_lda, mj_ii, mj_ll, mj_li, mj_i1, ms_1, ms_2, f1_n, f1_i, f1_r, f1_u, f1_l, f2_n, f2_i, f2_r, f2_u, f2_l, mj_tg, mj_c1, mj_c2, mj_ar, mj_aw, mq_cb, mq_oi, mj_rm, Value.category, -getElem?_pos, List.getElem?_cons_zero, decide_eq_true, decide_eq_false, nl_lt, nl_le, ln_lt, ln_le, nl_eq, ln_eq, nl_add, ln_add, nl_sub, ln_mul, nI_sub, nI_mul, nI_add, nI_lt_iff, nI_le_iff, nI_inj, nI_num, mq_ix, nI_1, nl_mul, nl_div, hc, h0, h1, h2, h3, h4, hw, h5, n5, v1, narrow]
theorem h_account (z : hz M H κs πs row) (q w : Int32) (hoA : ∀ p ∈ H.2.2.2.2, okA p) : mj_V (d + 3) 228 [.ref 25, .int i, .int q, .int w] M = some (some (.int (ho_account H i q w).1), M) := by
  have x0 := z.ob
  unfold ho_account
  cases hix : ix i H.2.2.2.2.length with
  | none =>
    have v0 := h_parN (d := d + 1) z hix
    simp (disch := (first | omega | decide)) [c228, s228_0, s228_1, s228_2, s228_5, s228_7, s228_9, s228_12, s228_13, s228_14, s228_15, s228_16, s228_19, s228_21, s228_22, s228_25, s228_26, s228_28, s228_29, s228_32, s228_34, s228_36, s228_39, s228_40, s228_43, s228_45, s228_46, s228_49, mq_k0s, mq_k1s, mq_k2s, mq_k4s, mq_k5s, mq_k5n, mq_k5as, mq_k6s, mj_pu, mj_lo, mj_br, mj_hr, mj_hw, mq_gf, mq_len, mq_al, mq_pf, mq_ok, mj_re, mq_lkm, mq_lkn, mj_ldi, mj_ldl, mj_lda, mj_ii, mj_ll, mj_li, mj_i1, ms_1, ms_2, f1_n, f1_i, f1_r, f1_u, f1_l, f2_n, f2_i, f2_r, f2_u, f2_l, mj_tg, mj_c1, mj_c2, mj_ar, mj_aw, mq_cb, mq_oi, mj_rm, Value.category, -getElem?_pos, List.getElem?_cons_zero, decide_eq_true, decide_eq_false, nl_lt, nl_le, ln_lt, ln_le, nl_eq, ln_eq, nl_add, ln_add, nl_sub, ln_mul, nI_sub, nI_mul, nI_add, nI_lt_iff, nI_le_iff, nI_inj, nI_num, mq_ix, nI_1, nl_mul, nl_div, x0, v0, narrow]
  | some j =>
    obtain ⟨rfl, hj, -⟩ := ix_some hix
    have hp := List.getElem?_eq_getElem hj
    obtain ⟨π, hπ, hpz⟩ := z.pzz hp
    have v0 := h_parS (d := d + 1) z hπ
    have ho := hoA _ (List.getElem_mem hj)
    generalize H.2.2.2.2[j] = p at *
    have xp := hpz.ob
    dsimp only
    rw [hp]
    dsimp only
    by_cases hq : q = -1
    · subst hq
      have v1 := j_ptell (d := d + 1) hpz w
      simp (disch := (first | omega | decide)) [c228, s228_0, s228_1, s228_2, s228_5, s228_7, s228_9, s228_12, s228_13, s228_14, s228_15, s228_16, s228_19, s228_21, s228_22, s228_25, s228_26, s228_28, s228_29, s228_32, s228_34, s228_36, s228_39, s228_40, s228_43, s228_45, s228_46, s228_49, mq_k0s, mq_k1s, mq_k2s, mq_k4s, mq_k5s, mq_k5n, mq_k5as, mq_k6s, mj_pu, mj_lo, mj_br, mj_hr, mj_hw, mq_gf, mq_len, mq_al, mq_pf, mq_ok, mj_re, mq_lkm, mq_lkn, mj_ldi, mj_ldl, mj_lda, mj_ii, mj_ll, mj_li, mj_i1, ms_1, ms_2, f1_n, f1_i, f1_r, f1_u, f1_l, f2_n, f2_i, f2_r, f2_u, f2_l, mj_tg, mj_c1, mj_c2, mj_ar, mj_aw, mq_cb, mq_oi, mj_rm, Value.category, -getElem?_pos, List.getElem?_cons_zero, decide_eq_true, decide_eq_false, nl_lt, nl_le, ln_lt, ln_le, nl_eq, ln_eq, nl_add, ln_add, nl_sub, ln_mul, nI_sub, nI_mul, nI_add, nI_lt_iff, nI_le_iff, nI_inj, nI_num, mq_ix, nI_1, nl_mul, nl_div, x0, v0, xp, v1, narrow]
    · rw [if_neg hq]
      cases hiq : ix q p.2.2.2.1.length with
      | none =>
        have v1 := j_accN (d := d + 1) hpz hiq
        simp (disch := (first | omega | decide)) [c228, s228_0, s228_1, s228_2, s228_5, s228_7, s228_9, s228_12, s228_13, s228_14, s228_15, s228_16, s228_19, s228_21, s228_22, s228_25, s228_26, s228_28, s228_29, s228_32, s228_34, s228_36, s228_39, s228_40, s228_43, s228_45, s228_46, s228_49, mq_k0s, mq_k1s, mq_k2s, mq_k4s, mq_k5s, mq_k5n, mq_k5as, mq_k6s, mj_pu, mj_lo, mj_br, mj_hr, mj_hw, mq_gf, mq_len, mq_al, mq_pf, mq_ok, mj_re, mq_lkm, mq_lkn, mj_ldi, mj_ldl, mj_lda, mj_ii, mj_ll, mj_li, mj_i1, ms_1, ms_2, f1_n, f1_i, f1_r, f1_u, f1_l, f2_n, f2_i, f2_r, f2_u, f2_l, mj_tg, mj_c1, mj_c2, mj_ar, mj_aw, mq_cb, mq_oi, mj_rm, Value.category, -getElem?_pos, List.getElem?_cons_zero, decide_eq_true, decide_eq_false, nl_lt, nl_le, ln_lt, ln_le, nl_eq, ln_eq, nl_add, ln_add, nl_sub, ln_mul, nI_sub, nI_mul, nI_add, nI_lt_iff, nI_le_iff, nI_inj, nI_num, mq_ix, nI_1, nl_mul, nl_div, x0, v0, hq, xp, v1, narrow]
      | some k =>
        obtain ⟨rfl, hk, -⟩ := ix_some hiq
        have v1 := j_acc (d := d + 1) hpz hk
        have hc := hpz.ac k _ (List.getElem?_eq_getElem hk)
        have v2 := j_atell (d := d) hc (ho _ (List.getElem_mem hk)) w
        rw [Option.bind_some, List.getElem?_eq_getElem hk]
        unfold acc at hc
        simp (disch := (first | omega | decide)) [c228, s228_0, s228_1, s228_2, s228_5, s228_7, s228_9, s228_12, s228_13, s228_14, s228_15, s228_16, s228_19, s228_21, s228_22, s228_25, s228_26, s228_28, s228_29, s228_32, s228_34, s228_36, s228_39, s228_40, s228_43, s228_45, s228_46, s228_49, mq_k0s, mq_k1s, mq_k2s, mq_k4s, mq_k5s, mq_k5n, mq_k5as, mq_k6s, mj_pu, mj_lo, mj_br, mj_hr, mj_hw, mq_gf, mq_len, mq_al, mq_pf, mq_ok, mj_re, mq_lkm, mq_lkn, mj_ldi, mj_ldl, mj_lda, mj_ii, mj_ll, mj_li, mj_i1, ms_1, ms_2, f1_n, f1_i, f1_r, f1_u, f1_l, f2_n, f2_i, f2_r, f2_u, f2_l, mj_tg, mj_c1, mj_c2, mj_ar, mj_aw, mq_cb, mq_oi, mj_rm, Value.category, -getElem?_pos, List.getElem?_cons_zero, decide_eq_true, decide_eq_false, nl_lt, nl_le, ln_lt, ln_le, nl_eq, ln_eq, nl_add, ln_add, nl_sub, ln_mul, nI_sub, nI_mul, nI_add, nI_lt_iff, nI_le_iff, nI_inj, nI_num, mq_ix, nI_1, nl_mul, nl_div, x0, v0, hq, xp, v1, hc, v2, narrow]
/-- one offer more -/
theorem pz.more (h : pz M π p) {o : Of} {x : Nat} {ol : List Nat} (h4 : p.2.2.1.length < 4) (o1 : ol.length = 4) (o2 : M[π + 5]? = some (1008, ol.map Value.ref)) (o3 : ∀ x ∈ ol, π + 6 ≤ x ∧ x ≤ π + 9) (o4 : ol.Nodup) (o5 : ∀ (i : Nat) (o : Of) (x : Nat), p.2.2.1[i]? = some o → ol[i]? = some x → M[x]? = some (oc o)) (o6 : ∀ x ∈ ol, ∃ (a : Int32) (b : Int64) (c d e : Int32), M[x]? = some (6, [.int a, .long b, .int c, .int d, .int e])) (hx : ol[p.2.2.1.length]? = some x) : pz ((M.set π (po π ((p.1, (p.2.1, (p.2.2.1 ++ [o], (p.2.2.2.1, (p.2.2.2.2.1, p.2.2.2.2.2))))) : Pa))).set x (oc o)) π ((p.1, (p.2.1, (p.2.2.1 ++ [o], (p.2.2.2.1, (p.2.2.2.2.1, p.2.2.2.2.2))))) : Pa) := by
  have hxr := o3 x (List.mem_of_getElem? hx)
  have hxl : x < M.length := by
    obtain ⟨a, b, c, d, e, q⟩ := o6 x (List.mem_of_getElem? hx)
    exact mq_lt q
  have e : ∀ c, c ≠ π → c ≠ x → ((M.set π (po π ((p.1, (p.2.1, (p.2.2.1 ++ [o], (p.2.2.2.1, (p.2.2.2.2.1, p.2.2.2.2.2))))) : Pa))).set x (oc o))[c]? = M[c]? := fun c h1 h2 => by
    rw [List.getElem?_set_ne (fun z => h2 z.symm), List.getElem?_set_ne (fun z => h1 z.symm)]
  refine (pz_mk_ (by rw [List.getElem?_set_ne (by omega)]; exact List.getElem?_set_self (mq_lt h.ob)) (h.og.fr (e _ (by omega) (by omega)) (e _ (by omega) (by omega))) (h.nm.fr (e _ (by omega) (by omega)) (e _ (by omega) (by omega))) (⟨ol, o1, (e _ (by omega) (by omega)).trans o2, o3, o4, ?_, ?_⟩) ((e _ (by omega) (by omega)).trans h.aa) ?_ ?_ (by simp; omega) h.l8 h.lo)
  · intro i q y q1 q2
    have hyr := o3 y (List.mem_of_getElem? q2)
    by_cases hi : i = p.2.2.1.length
    · subst hi
      rw [hx] at q2
      cases q2
      simp at q1
      subst q1
      exact List.getElem?_set_self (by simpa using hxl)
    · have hil : i < p.2.2.1.length := by
        have := (List.getElem?_eq_some_iff.mp q1).1
        simp at this
        omega
      rw [List.getElem?_append_left hil] at q1
      have hne : y ≠ x := by
        intro hyx
        subst hyx
        obtain ⟨l1, e1⟩ := List.getElem?_eq_some_iff.mp q2
        obtain ⟨l2, e2⟩ := List.getElem?_eq_some_iff.mp hx
        have hnd := List.pairwise_iff_getElem.mp o4
        rcases Nat.lt_or_gt_of_ne hi with hlt | hlt
        · exact hnd _ _ l1 l2 hlt (e1.trans e2.symm)
        · exact hnd _ _ l2 l1 hlt (e2.trans e1.symm)
      exact (e _ (by omega) hne).trans (o5 i q y q1 q2)
  · intro y hy
    have hyr := o3 y hy
    by_cases hyx : y = x
    · subst hyx
      exact ⟨_, _, _, _, _, List.getElem?_set_self (by simpa using hxl)⟩
    · obtain ⟨a, b, c, d, f, q⟩ := o6 y hy
      exact ⟨a, b, c, d, f, (e _ (by omega) hyx).trans q⟩
  · intro i a hi
    exact (e _ (by omega) (by omega)).trans (h.ac i a hi)
  · intro i hi
    obtain ⟨a, b, c, d, f, g, q⟩ := h.ax i hi
    exact ⟨a, b, c, d, f, g, (e _ (by omega) (by omega)).trans q⟩
/-- a party and the terms have changed -/
theorem hz.pbt (z : hz M H κs πs row) {j : Nat} {p' : Pa} {T' : Tm} (hp : H.2.2.2.2[j]? = some p) (hπ : πs[j]? = some π) (hz' : pz M' π p') (t' : tx (hA κs πs) M' T' row') (f : fx (fun c => na (hA κs πs) c ∨ (π ≤ c ∧ c ≤ π + 18)) M M') : hz M' (((H.pt j p').1, (T', ((H.pt j p').2.2.1, ((H.pt j p').2.2.2.1, (H.pt j p').2.2.2.2)))) : Ho) κs πs row' ∧ hf M M' := by
  have hlo := hz'.lo
  have hm := List.mem_of_getElem? hπ
  have hbk := z.bk
  have hbp := z.bp
  have n : ∀ c, hA κs πs c → ¬ (π ≤ c ∧ c ≤ π + 18) → ¬ (na (hA κs πs) c ∨ (π ≤ c ∧ c ≤ π + 18)) := by
    intro c h1 h2 h3
    rcases h3 with h3 | h3
    · exact h3 h1
    · exact h2 h3
  have hpl := (List.getElem?_eq_some_iff.mp hp).1
  refine z.go f (fun c hc => n c (by unfold cst at hc; unfold hA; omega) (by unfold cst at hc; omega)) t' (z.tpF f (fun c hc => n c (by unfold hA; omega) (by omega))) (z.msF f (fun c hc => n c (by unfold hA; omega) (by omega))) (z.itF f (fun c hc => n c (by unfold hA; omega) (by omega))) (z.hdF f (fun c hc => n c (by unfold hA; omega) (by omega))) z.hl (z.kyF f (fun κ hk c hc => n c (Or.inr (Or.inr (Or.inl ⟨κ, hk, hc⟩))) (by have := z.dx κ hk π hm; omega)) ⟨n _ (by unfold hA; omega) (by omega), n _ (by unfold hA; omega) (by omega)⟩) rfl ?_ (by simp [Ho.pt])
  intro i q π' h1 h2
  have hm' := List.mem_of_getElem? h2
  by_cases hij : j = i
  · subst hij
    unfold Ho.pt at h1
    dsimp only at h1
    rw [List.getElem?_set_self hpl] at h1
    cases h1
    rw [hπ] at h2
    cases h2
    exact hz'
  · unfold Ho.pt at h1
    dsimp only at h1
    rw [List.getElem?_set_ne hij] at h1
    have hd := z.dp j i π π' hπ h2 hij
    exact (z.py i q π' h1 h2).fr (fun c hc => z.sm f c (Or.inr (Or.inr (Or.inr ⟨π', hm', hc⟩))) (n c (Or.inr (Or.inr (Or.inr ⟨π', hm', hc⟩))) (by omega)))
theorem h_offer (z : hz M H κs πs row) (w : Int64) (m : Int32) (get pin : Bool) (hl : H.2.1.1.length < 1000) : ∃ M' row', mj_V (d + 6) 214 [.ref 25, .int i, .long w, .int m, .int (on1 get), .int (on1 pin)] M = some (some (.int (ho_offer H i w m get pin).1), M') ∧ hz M' (ho_offer H i w m get pin).2 κs πs row' ∧ hf M M' := by
  have x0 := z.ob
  have w0 := j_in (d := d + 4) (v := m) (a := 1) (b := 8) (M := M)
  unfold ho_offer
  cases hix : ix i H.2.2.2.2.length with
  | none =>
    have v0 := h_parN (d := d + 4) z hix
    refine ⟨M, row, ?_, z, hf.rf⟩
    simp (disch := (first | omega | decide)) [c214, s214_0, s214_1, s214_2, s214_5, s214_7, s214_9, s214_12, s214_14, s214_15, s214_17, s214_20, s214_23, s214_24, s214_25, s214_27, s214_30, s214_32, s214_34, s214_37, s214_38, s214_39, s214_41, s214_42, s214_45, s214_48, s214_51, s214_53, s214_54, s214_56, s214_59, s214_62, s214_64, s214_66, s214_69, s214_71, s214_73, s214_76, s214_77, s214_80, s214_81, s214_84, s214_86, s214_88, s214_91, s214_93, s214_96, mq_k0s, mq_k1s, mq_k2s, mq_k4s, mq_k5s, mq_k5n, mq_k5as, mq_k6s, mj_pu, mj_lo, mj_br, mj_hr, mj_hw, mq_gf, mq_len, mq_al, mq_pf, mq_ok, mj_re, mq_lkm, mq_lkn, mj_ldi, mj_ldl, mj_lda, mj_ii, mj_ll, mj_li, mj_i1, ms_1, ms_2, f1_n, f1_i, f1_r, f1_u, f1_l, f2_n, f2_i, f2_r, f2_u, f2_l, mj_tg, mj_c1, mj_c2, mj_ar, mj_aw, mq_cb, mq_oi, mj_rm, Value.category, -getElem?_pos, List.getElem?_cons_zero, decide_eq_true, decide_eq_false, nl_lt, nl_le, ln_lt, ln_le, nl_eq, ln_eq, nl_add, ln_add, nl_sub, ln_mul, nI_sub, nI_mul, nI_add, nI_lt_iff, nI_le_iff, nI_inj, nI_num, mq_ix, nI_1, nl_mul, nl_div, x0, v0, narrow]
  | some j =>
    obtain ⟨rfl, hj, -⟩ := ix_some hix
    have hp := List.getElem?_eq_getElem hj
    obtain ⟨π, hπ, hpz⟩ := z.pzz hp
    have v0 := h_parS (d := d + 4) z hπ
    generalize H.2.2.2.2[j] = p at *
    have xp := hpz.ob
    have hlo := hpz.lo
    have l4 := hpz.l4
    have hh : ¬ π < 25 := by omega
    obtain ⟨ol, o1, o2, o3, o4, o5, o6⟩ := hpz.oa
    have e1 : (ol.map Value.ref).length = 4 := by simp [o1]
    dsimp only
    rw [hp]
    dsimp only
    cases hin : inR m 1 8 with
    | false =>
      rw [hin] at w0
      refine ⟨M, row, ?_, by simpa using z, hf.rf⟩
      simp (disch := (first | omega | decide)) [c214, s214_0, s214_1, s214_2, s214_5, s214_7, s214_9, s214_12, s214_14, s214_15, s214_17, s214_20, s214_23, s214_24, s214_25, s214_27, s214_30, s214_32, s214_34, s214_37, s214_38, s214_39, s214_41, s214_42, s214_45, s214_48, s214_51, s214_53, s214_54, s214_56, s214_59, s214_62, s214_64, s214_66, s214_69, s214_71, s214_73, s214_76, s214_77, s214_80, s214_81, s214_84, s214_86, s214_88, s214_91, s214_93, s214_96, mq_k0s, mq_k1s, mq_k2s, mq_k4s, mq_k5s, mq_k5n, mq_k5as, mq_k6s, mj_pu, mj_lo, mj_br, mj_hr, mj_hw, mq_gf, mq_len, mq_al, mq_pf, mq_ok, mj_re, mq_lkm, mq_lkn, mj_ldi, mj_ldl, mj_lda, mj_ii, mj_ll, mj_li, mj_i1, ms_1, ms_2, f1_n, f1_i, f1_r, f1_u, f1_l, f2_n, f2_i, f2_r, f2_u, f2_l, mj_tg, mj_c1, mj_c2, mj_ar, mj_aw, mq_cb, mq_oi, mj_rm, Value.category, -getElem?_pos, List.getElem?_cons_zero, decide_eq_true, decide_eq_false, nl_lt, nl_le, ln_lt, ln_le, nl_eq, ln_eq, nl_add, ln_add, nl_sub, ln_mul, nI_sub, nI_mul, nI_add, nI_lt_iff, nI_le_iff, nI_inj, nI_num, mq_ix, nI_1, nl_mul, nl_div, x0, v0, w0, on1, narrow]
    | true =>
    rw [hin] at w0
    obtain ⟨mm, rfl, a1, a2, a3⟩ := inR_nI (a := 1) (b := 8) hin (by decide) (by decide)
    rw [a3]
    by_cases h4 : p.2.2.1.length < 4; rotate_left
    · rw [if_neg (fun q => h4 q.2)]
      refine ⟨M, row, ?_, z, hf.rf⟩
      have vf : mj_V (d + 5) 215 [.ref π] M = some (some .null, M) := by
        generalize ol.map Value.ref = zs at *
        simp (disch := (first | omega | decide)) [c215, s215_0, s215_1, s215_4, s215_7, s215_8, s215_11, s215_12, s215_15, s215_16, s215_19, s215_20, s215_21, s215_22, s215_23, s215_26, s215_27, s215_28, s215_31, s215_32, s215_35, s215_36, s215_39, s215_40, s215_41, s215_42, mq_k0s, mq_k1s, mq_k2s, mq_k4s, mq_k5s, mq_k5n, mq_k5as, mq_k6s, mj_pu, mj_lo, mj_br, mj_hr, mj_hw, mq_gf, mq_len, mq_al, mq_pf, mq_ok, mj_re, mq_lkm, mq_lkn, mj_ldi, mj_ldl, mj_lda, mj_ii, mj_ll, mj_li, mj_i1, ms_1, ms_2, f1_n, f1_i, f1_r, f1_u, f1_l, f2_n, f2_i, f2_r, f2_u, f2_l, mj_tg, mj_c1, mj_c2, mj_ar, mj_aw, mq_cb, mq_oi, mj_rm, Value.category, -getElem?_pos, List.getElem?_cons_zero, decide_eq_true, decide_eq_false, nl_lt, nl_le, ln_lt, ln_le, nl_eq, ln_eq, nl_add, ln_add, nl_sub, ln_mul, nI_sub, nI_mul, nI_add, nI_lt_iff, nI_le_iff, nI_inj, nI_num, mq_ix, nI_1, nl_mul, nl_div, xp, o2, e1, narrow]
      simp (disch := (first | omega | decide)) [c214, s214_0, s214_1, s214_2, s214_5, s214_7, s214_9, s214_12, s214_14, s214_15, s214_17, s214_20, s214_23, s214_24, s214_25, s214_27, s214_30, s214_32, s214_34, s214_37, s214_38, s214_39, s214_41, s214_42, s214_45, s214_48, s214_51, s214_53, s214_54, s214_56, s214_59, s214_62, s214_64, s214_66, s214_69, s214_71, s214_73, s214_76, s214_77, s214_80, s214_81, s214_84, s214_86, s214_88, s214_91, s214_93, s214_96, mq_k0s, mq_k1s, mq_k2s, mq_k4s, mq_k5s, mq_k5n, mq_k5as, mq_k6s, mj_pu, mj_lo, mj_br, mj_hr, mj_hw, mq_gf, mq_len, mq_al, mq_pf, mq_ok, mj_re, mq_lkm, mq_lkn, mj_ldi, mj_ldl, mj_lda, mj_ii, mj_ll, mj_li, mj_i1, ms_1, ms_2, f1_n, f1_i, f1_r, f1_u, f1_l, f2_n, f2_i, f2_r, f2_u, f2_l, mj_tg, mj_c1, mj_c2, mj_ar, mj_aw, mq_cb, mq_oi, mj_rm, Value.category, -getElem?_pos, List.getElem?_cons_zero, decide_eq_true, decide_eq_false, nl_lt, nl_le, ln_lt, ln_le, nl_eq, ln_eq, nl_add, ln_add, nl_sub, ln_mul, nI_sub, nI_mul, nI_add, nI_lt_iff, nI_le_iff, nI_inj, nI_num, mq_ix, nI_1, nl_mul, nl_div, x0, v0, w0, on1, xp, vf, narrow]
    rw [if_pos ⟨rfl, h4⟩]
    have hxl : p.2.2.1.length < ol.length := by omega
    have hx := List.getElem?_eq_getElem hxl
    generalize ol[p.2.2.1.length] = x at *
    have hxr := o3 x (List.mem_of_getElem? hx)
    obtain ⟨b1, b2, b3, b4, b5, hxo⟩ := o6 x (List.mem_of_getElem? hx)
    have hxM := mq_lt hxo
    -- one more is counted
    let q1 : mj_C := (7, [.ref (π + 1), .ref (π + 3), .ref (π + 5), .ref (π + 10), .int (nI (p.2.2.1.length + 1)), .int (nI p.2.2.2.1.length), .int p.2.2.2.2.1, .int p.2.2.2.2.2])
    have lp := mq_lt xp
    have vf : mj_V (d + 5) 215 [.ref π] M = some (some (.ref x), M.set π q1) := by
      have e2 : (ol.map Value.ref)[p.2.2.1.length]? = some (.ref x) := by rw [List.getElem?_map, hx]; rfl
      generalize ol.map Value.ref = zs at *
      simp (disch := (first | omega | decide)) [c215, s215_0, s215_1, s215_4, s215_7, s215_8, s215_11, s215_12, s215_15, s215_16, s215_19, s215_20, s215_21, s215_22, s215_23, s215_26, s215_27, s215_28, s215_31, s215_32, s215_35, s215_36, s215_39, s215_40, s215_41, s215_42, mq_k0s, mq_k1s, mq_k2s, mq_k4s, mq_k5s, mq_k5n, mq_k5as, mq_k6s, mj_pu, mj_lo, mj_br, mj_hr, mj_hw, mq_gf, mq_len, mq_al, mq_pf, mq_ok, mj_re, mq_lkm, mq_lkn, mj_ldi, mj_ldl, mj_lda, mj_ii, mj_ll, mj_li, mj_i1, ms_1, ms_2, f1_n, f1_i, f1_r, f1_u, f1_l, f2_n, f2_i, f2_r, f2_u, f2_l, mj_tg, mj_c1, mj_c2, mj_ar, mj_aw, mq_cb, mq_oi, mj_rm, Value.category, -getElem?_pos, List.getElem?_cons_zero, decide_eq_true, decide_eq_false, nl_lt, nl_le, ln_lt, ln_le, nl_eq, ln_eq, nl_add, ln_add, nl_sub, ln_mul, nI_sub, nI_mul, nI_add, nI_lt_iff, nI_le_iff, nI_inj, nI_num, mq_ix, nI_1, nl_mul, nl_div, xp, o2, e1, e2, narrow, mj_E, hh, lp, List.getElem?_set, q1]
    have hm := List.mem_of_getElem? hπ
    have f1 : fx (· ∈ [π]) M (M.set π q1) := z.fxx (mj_gr.set xp rfl rfl) (mq_fr.rf.set (by simp)) (by intro c hc; simp at hc; subst hc; exact Or.inr (Or.inr (Or.inr ⟨_, hm, by omega⟩)))
    have t1 : tx (hA κs πs) (M.set π q1) H.2.1 row := z.tF (L := [π]) (mq_fr.rf.set (by simp)) (by intro c hc; simp at hc; subst hc; exact Or.inr (Or.inr (Or.inr ⟨_, hm, by omega⟩)))
    obtain ⟨M2, p2, t2, f2⟩ := tx_freshTerm (d := d) t1 hl
    have eA : ∀ c, hA κs πs c → M2[c]? = (M.set π q1)[c]? := fun c hc => f2.same c (by simpa using z.lt hc) (fun q => q hc)
    have hAp : ∀ c, π ≤ c ∧ c ≤ π + 18 → hA κs πs c := fun c hc => Or.inr (Or.inr (Or.inr ⟨π, hm, hc⟩))
    have hxo2 : M2[x]? = some (6, [.int b1, .long b2, .int b3, .int b4, .int b5]) := by
      rw [eA x (hAp x (by omega)), List.getElem?_set_ne (by omega)]; exact hxo
    have hx2 := mq_lt hxo2
    have hpm := hpz.more (o := ((nI (tm_no H.2.1 [1, nI H.2.1.2.1]), (bt_low w mm, (get, pin))) : Of)) h4 o1 o2 o3 o4 o5 o6 hx
    have eq1 : po π ((p.1, (p.2.1, (p.2.2.1 ++ [((nI (tm_no H.2.1 [1, nI H.2.1.2.1]), (bt_low w mm, (get, pin))) : Of)], (p.2.2.2.1, (p.2.2.2.2.1, p.2.2.2.2.2))))) : Pa) = q1 := by simp [po, q1]
    rw [eq1] at hpm
    generalize hO : (((nI (tm_no H.2.1 [1, nI H.2.1.2.1]), (bt_low w mm, (get, pin))) : Of) : Of) = O at *
    have hz' : pz (M2.set x (oc O)) π ((p.1, (p.2.1, (p.2.2.1 ++ [O], (p.2.2.2.1, (p.2.2.2.2.1, p.2.2.2.2.2))))) : Pa) := hpm.fr (fun c hc => by
      by_cases hcx : c = x
      · subst hcx
        rw [List.getElem?_set_self hx2, List.getElem?_set_self (by simpa using hxM)]
      · rw [List.getElem?_set_ne (fun q => hcx q.symm), List.getElem?_set_ne (fun q => hcx q.symm)]
        exact eA c (hAp c hc))
    have f3 : fx (· ∈ [x]) M2 (M2.set x (oc O)) := fx.of (mj_gr.set hxo2 rfl rfl) (mq_fr.rf.set (by simp)) (by simp; intro h; omega) t2.p30
    have ff : fx (fun c => na (hA κs πs) c ∨ (π ≤ c ∧ c ≤ π + 18)) M (M2.set x (oc O)) := by
      refine (f1.tr f2 (S'' := fun c => na (hA κs πs) c ∨ (π ≤ c ∧ c ≤ π + 18)) (fun c _ hc => Or.inr (by simp at hc; omega)) (fun c _ hc => Or.inl hc)).tr f3 (fun c _ hc => hc) (fun c _ hc => Or.inr (by simp at hc; omega))
    have t3 : tx (hA κs πs) (M2.set x (oc O)) (tm_fresh H.2.1) [1, nI H.2.1.2.1] := tx.fr (M := M2) t2 (by simp) (fun c _ hc => List.getElem?_set_ne (fun q => hc (by rw [← q]; exact hAp x (by omega))))
    obtain ⟨z3, g3⟩ := z.pbt hp hπ hz' t3 ff
    refine ⟨_, _, ?_, z3, g3⟩
    have x1 : (M.set π q1)[25]? = M[25]? := List.getElem?_set_ne (by omega)
    have t30 : ∃ u, (M.set π q1)[30]? = some (9, u) := by
      obtain ⟨u, hu⟩ := z.o30
      exact ⟨u, by rw [List.getElem?_set_ne (by omega)]; exact hu⟩
    obtain ⟨u30, t30⟩ := t30
    rw [x0] at x1
    have v3 : ∀ N : mj_H, mj_V (d + 5) 198 [.long w, .int (nI mm)] N = some (some (.long (bt_lo (bt_low w mm))), N) := fun N => j_lowest (d := d + 4) w ⟨a1, a2⟩
    have hhx : ¬ x < 25 := by omega
    have bl := bt_low_len w mm
    subst hO
    unfold oc
    dsimp only
    rw [bl]
    cases get <;> cases pin <;> simp (disch := (first | omega | decide)) [c214, s214_0, s214_1, s214_2, s214_5, s214_7, s214_9, s214_12, s214_14, s214_15, s214_17, s214_20, s214_23, s214_24, s214_25, s214_27, s214_30, s214_32, s214_34, s214_37, s214_38, s214_39, s214_41, s214_42, s214_45, s214_48, s214_51, s214_53, s214_54, s214_56, s214_59, s214_62, s214_64, s214_66, s214_69, s214_71, s214_73, s214_76, s214_77, s214_80, s214_81, s214_84, s214_86, s214_88, s214_91, s214_93, s214_96, mq_k0s, mq_k1s, mq_k2s, mq_k4s, mq_k5s, mq_k5n, mq_k5as, mq_k6s, mj_pu, mj_lo, mj_br, mj_hr, mj_hw, mq_gf, mq_len, mq_al, mq_pf, mq_ok, mj_re, mq_lkm, mq_lkn, mj_ldi, mj_ldl, mj_lda, mj_ii, mj_ll, mj_li, mj_i1, ms_1, ms_2, f1_n, f1_i, f1_r, f1_u, f1_l, f2_n, f2_i, f2_r, f2_u, f2_l, mj_tg, mj_c1, mj_c2, mj_ar, mj_aw, mq_cb, mq_oi, mj_rm, Value.category, -getElem?_pos, List.getElem?_cons_zero, decide_eq_true, decide_eq_false, nl_lt, nl_le, ln_lt, ln_le, nl_eq, ln_eq, nl_add, ln_add, nl_sub, ln_mul, nI_sub, nI_mul, nI_add, nI_lt_iff, nI_le_iff, nI_inj, nI_num, mq_ix, nI_1, nl_mul, nl_div, x0, v0, w0, on1, xp, vf, x1, t30, p2, hxo2, narrow, narrow_b0, narrow_b1, mj_E, hhx, hx2, v3, List.getElem?_set]
end HZ
end
/- 9q.hi -/
section
set_option maxRecDepth 512
/-! Class: the house: judging, first parts. -/
/- 219 PasskeyHouse$Party.isResponse(LPasskeyHouse$Bytes;I)Z -/
theorem s219_0 {d : Nat} {ls : mj_L} {st : List Value} {M : mj_H} : mj_Rn d mj_m219 0 ls st M = mq_k0 d mj_m219 1 ls M (mj_lda (mj_lk ls 0) st) := mj_R0 (r := (.aload_n 0, 1, 0, 0, 0)) rfl rfl
theorem s219_1 {d : Nat} {ls : mj_L} {st : List Value} {M : mj_H} : mj_Rn d mj_m219 1 ls st M = mj_Rn d mj_m219 2 ls (.int 0 :: st) M := mj_R0 (r := (.iconst 0, 1, 0, 0, 0)) rfl rfl
theorem s219_2 {d : Nat} {ls : mj_L} {st : List Value} {M : mj_H} : mj_Rn (d + 1) mj_m219 2 ls st M = mq_k5a (d + 1) mj_m219 5 ls M 14 (mq_cb 0 1 1 st M) := mj_R5e (r := (.invokevirtual 73, 3, 0, 14, 24732)) (z := mj_m14) rfl rfl (by decide) (by decide) rfl
theorem s219_5 {d : Nat} {ls : mj_L} {st : List Value} {M : mj_H} : mj_Rn d mj_m219 5 ls st M = mq_k1 d mj_m219 6 M (mj_lo 4 (.istore 2) ls st) := (mj_R1 (r := (.istore_n 2, 1, 0, 0, 0)) rfl rfl).trans (congrArg (mq_k1 d mj_m219 6 M) (mq_sti (k := 2)))
theorem s219_6 {d : Nat} {ls : mj_L} {st : List Value} {M : mj_H} : mj_Rn d mj_m219 6 ls st M = mq_k0 d mj_m219 7 ls M (mj_ldi (mj_lk ls 1) st) := mj_R0 (r := (.iload_n 1, 1, 0, 0, 0)) rfl rfl
theorem s219_7 {d : Nat} {ls : mj_L} {st : List Value} {M : mj_H} : mj_Rn d mj_m219 7 ls st M = mj_Rn d mj_m219 9 ls (.int 6 :: st) M := mj_R0 (r := (.bipush 6, 2, 0, 0, 0)) rfl rfl
theorem s219_9 {d : Nat} {ls : mj_L} {st : List Value} {M : mj_H} : mj_Rn d mj_m219 9 ls st M = mq_k2 d mj_m219 ls M (mj_br (.if_icmp .lt 13) 9 st) := mj_R2 (r := (.if_icmp .lt 13, 3, 0, 0, 0)) rfl rfl
theorem s219_12 {d : Nat} {ls : mj_L} {st : List Value} {M : mj_H} : mj_Rn d mj_m219 12 ls st M = mq_k0 d mj_m219 13 ls M (mj_ldi (mj_lk ls 2) st) := mj_R0 (r := (.iload_n 2, 1, 0, 0, 0)) rfl rfl
theorem s219_13 {d : Nat} {ls : mj_L} {st : List Value} {M : mj_H} : mj_Rn d mj_m219 13 ls st M = mj_Rn d mj_m219 14 ls (.int 1 :: st) M := mj_R0 (r := (.iconst 1, 1, 0, 0, 0)) rfl rfl
theorem s219_14 {d : Nat} {ls : mj_L} {st : List Value} {M : mj_H} : mj_Rn d mj_m219 14 ls st M = mq_k2 d mj_m219 ls M (mj_br (.if_icmp .eq 10) 14 st) := mj_R2 (r := (.if_icmp .eq 10, 3, 0, 0, 0)) rfl rfl
theorem s219_17 {d : Nat} {ls : mj_L} {st : List Value} {M : mj_H} : mj_Rn d mj_m219 17 ls st M = mq_k0 d mj_m219 18 ls M (mj_ldi (mj_lk ls 2) st) := mj_R0 (r := (.iload_n 2, 1, 0, 0, 0)) rfl rfl
theorem s219_18 {d : Nat} {ls : mj_L} {st : List Value} {M : mj_H} : mj_Rn d mj_m219 18 ls st M = mj_Rn d mj_m219 19 ls (.int 2 :: st) M := mj_R0 (r := (.iconst 2, 1, 0, 0, 0)) rfl rfl
theorem s219_19 {d : Nat} {ls : mj_L} {st : List Value} {M : mj_H} : mj_Rn d mj_m219 19 ls st M = mq_k2 d mj_m219 ls M (mj_br (.if_icmp .eq 5) 19 st) := mj_R2 (r := (.if_icmp .eq 5, 3, 0, 0, 0)) rfl rfl
theorem s219_22 {d : Nat} {ls : mj_L} {st : List Value} {M : mj_H} : mj_Rn d mj_m219 22 ls st M = mj_Rn d mj_m219 23 ls (.int 0 :: st) M := mj_R0 (r := (.iconst 0, 1, 0, 0, 0)) rfl rfl
theorem s219_23 {d : Nat} {ls : mj_L} {st : List Value} {M : mj_H} : mj_Rn d mj_m219 23 ls st M = mq_k6 M (mj_re (some .boolean) (.ireturn) st) := mj_R6 (r := (.ireturn, 1, 0, 0, 0)) rfl rfl
theorem s219_24 {d : Nat} {ls : mj_L} {st : List Value} {M : mj_H} : mj_Rn d mj_m219 24 ls st M = mq_k0 d mj_m219 25 ls M (mj_lda (mj_lk ls 0) st) := mj_R0 (r := (.aload_n 0, 1, 0, 0, 0)) rfl rfl
theorem s219_25 {d : Nat} {ls : mj_L} {st : List Value} {M : mj_H} : mj_Rn d mj_m219 25 ls st M = mj_Rn d mj_m219 26 ls (.int 5 :: st) M := mj_R0 (r := (.iconst 5, 1, 0, 0, 0)) rfl rfl
theorem s219_26 {d : Nat} {ls : mj_L} {st : List Value} {M : mj_H} : mj_Rn (d + 1) mj_m219 26 ls st M = mq_k5a (d + 1) mj_m219 29 ls M 14 (mq_cb 0 1 1 st M) := mj_R5e (r := (.invokevirtual 73, 3, 0, 14, 24732)) (z := mj_m14) rfl rfl (by decide) (by decide) rfl
theorem s219_29 {d : Nat} {ls : mj_L} {st : List Value} {M : mj_H} : mj_Rn d mj_m219 29 ls st M = mq_k1 d mj_m219 30 M (mj_lo 4 (.istore 3) ls st) := (mj_R1 (r := (.istore_n 3, 1, 0, 0, 0)) rfl rfl).trans (congrArg (mq_k1 d mj_m219 30 M) (mq_sti (k := 3)))
theorem s219_30 {d : Nat} {ls : mj_L} {st : List Value} {M : mj_H} : mj_Rn d mj_m219 30 ls st M = mq_k0 d mj_m219 31 ls M (mj_ldi (mj_lk ls 1) st) := mj_R0 (r := (.iload_n 1, 1, 0, 0, 0)) rfl rfl
theorem s219_31 {d : Nat} {ls : mj_L} {st : List Value} {M : mj_H} : mj_Rn d mj_m219 31 ls st M = mj_Rn d mj_m219 33 ls (.int 15 :: st) M := mj_R0 (r := (.bipush 15, 2, 0, 0, 0)) rfl rfl
theorem s219_33 {d : Nat} {ls : mj_L} {st : List Value} {M : mj_H} : mj_Rn d mj_m219 33 ls st M = mq_k0 d mj_m219 34 ls M (mj_ldi (mj_lk ls 3) st) := mj_R0 (r := (.iload_n 3, 1, 0, 0, 0)) rfl rfl
theorem s219_34 {d : Nat} {ls : mj_L} {st : List Value} {M : mj_H} : mj_Rn d mj_m219 34 ls st M = mq_k0 d mj_m219 35 ls M (mj_pu .iadd ls st) := mj_R0 (r := (.iadd, 1, 0, 0, 0)) rfl rfl
theorem s219_35 {d : Nat} {ls : mj_L} {st : List Value} {M : mj_H} : mj_Rn d mj_m219 35 ls st M = mq_k2 d mj_m219 ls M (mj_br (.if_icmp .lt 24) 35 st) := mj_R2 (r := (.if_icmp .lt 24, 3, 0, 0, 0)) rfl rfl
theorem s219_38 {d : Nat} {ls : mj_L} {st : List Value} {M : mj_H} : mj_Rn d mj_m219 38 ls st M = mq_k0 d mj_m219 39 ls M (mj_ldi (mj_lk ls 1) st) := mj_R0 (r := (.iload_n 1, 1, 0, 0, 0)) rfl rfl
theorem s219_39 {d : Nat} {ls : mj_L} {st : List Value} {M : mj_H} : mj_Rn d mj_m219 39 ls st M = mj_Rn d mj_m219 41 ls (.int 15 :: st) M := mj_R0 (r := (.bipush 15, 2, 0, 0, 0)) rfl rfl
theorem s219_41 {d : Nat} {ls : mj_L} {st : List Value} {M : mj_H} : mj_Rn d mj_m219 41 ls st M = mq_k0 d mj_m219 42 ls M (mj_ldi (mj_lk ls 3) st) := mj_R0 (r := (.iload_n 3, 1, 0, 0, 0)) rfl rfl
theorem s219_42 {d : Nat} {ls : mj_L} {st : List Value} {M : mj_H} : mj_Rn d mj_m219 42 ls st M = mq_k0 d mj_m219 43 ls M (mj_pu .iadd ls st) := mj_R0 (r := (.iadd, 1, 0, 0, 0)) rfl rfl
theorem s219_43 {d : Nat} {ls : mj_L} {st : List Value} {M : mj_H} : mj_Rn d mj_m219 43 ls st M = mq_k0 d mj_m219 44 ls M (mj_lda (mj_lk ls 0) st) := mj_R0 (r := (.aload_n 0, 1, 0, 0, 0)) rfl rfl
theorem s219_44 {d : Nat} {ls : mj_L} {st : List Value} {M : mj_H} : mj_Rn d mj_m219 44 ls st M = mj_Rn d mj_m219 46 ls (.int 10 :: st) M := mj_R0 (r := (.bipush 10, 2, 0, 0, 0)) rfl rfl
theorem s219_46 {d : Nat} {ls : mj_L} {st : List Value} {M : mj_H} : mj_Rn d mj_m219 46 ls st M = mq_k0 d mj_m219 47 ls M (mj_ldi (mj_lk ls 3) st) := mj_R0 (r := (.iload_n 3, 1, 0, 0, 0)) rfl rfl
theorem s219_47 {d : Nat} {ls : mj_L} {st : List Value} {M : mj_H} : mj_Rn d mj_m219 47 ls st M = mq_k0 d mj_m219 48 ls M (mj_pu .iadd ls st) := mj_R0 (r := (.iadd, 1, 0, 0, 0)) rfl rfl
theorem s219_48 {d : Nat} {ls : mj_L} {st : List Value} {M : mj_H} : mj_Rn (d + 1) mj_m219 48 ls st M = mq_k5a (d + 1) mj_m219 51 ls M 14 (mq_cb 0 1 1 st M) := mj_R5e (r := (.invokevirtual 73, 3, 0, 14, 24732)) (z := mj_m14) rfl rfl (by decide) (by decide) rfl
theorem s219_51 {d : Nat} {ls : mj_L} {st : List Value} {M : mj_H} : mj_Rn d mj_m219 51 ls st M = mq_k0 d mj_m219 52 ls M (mj_pu .iadd ls st) := mj_R0 (r := (.iadd, 1, 0, 0, 0)) rfl rfl
theorem s219_52 {d : Nat} {ls : mj_L} {st : List Value} {M : mj_H} : mj_Rn d mj_m219 52 ls st M = mq_k2 d mj_m219 ls M (mj_br (.if_icmp .ne 7) 52 st) := mj_R2 (r := (.if_icmp .ne 7, 3, 0, 0, 0)) rfl rfl
theorem s219_55 {d : Nat} {ls : mj_L} {st : List Value} {M : mj_H} : mj_Rn d mj_m219 55 ls st M = mj_Rn d mj_m219 56 ls (.int 1 :: st) M := mj_R0 (r := (.iconst 1, 1, 0, 0, 0)) rfl rfl
theorem s219_56 {d : Nat} {ls : mj_L} {st : List Value} {M : mj_H} : mj_Rn d mj_m219 56 ls st M = mj_Rn d mj_m219 60 ls st M := mj_R2 (r := (.goto 4, 3, 0, 0, 0)) rfl rfl
theorem s219_59 {d : Nat} {ls : mj_L} {st : List Value} {M : mj_H} : mj_Rn d mj_m219 59 ls st M = mj_Rn d mj_m219 60 ls (.int 0 :: st) M := mj_R0 (r := (.iconst 0, 1, 0, 0, 0)) rfl rfl
theorem s219_60 {d : Nat} {ls : mj_L} {st : List Value} {M : mj_H} : mj_Rn d mj_m219 60 ls st M = mq_k6 M (mj_re (some .boolean) (.ireturn) st) := mj_R6 (r := (.ireturn, 1, 0, 0, 0)) rfl rfl
/- 220 PasskeyHouse$Party.takeOffer(II)LPasskeyHouse$Offer; -/
theorem s220_0 {d : Nat} {ls : mj_L} {st : List Value} {M : mj_H} : mj_Rn d mj_m220 0 ls st M = mj_Rn d mj_m220 1 ls (.int 0 :: st) M := mj_R0 (r := (.iconst 0, 1, 0, 0, 0)) rfl rfl
theorem s220_1 {d : Nat} {ls : mj_L} {st : List Value} {M : mj_H} : mj_Rn d mj_m220 1 ls st M = mq_k1 d mj_m220 2 M (mj_lo 5 (.istore 3) ls st) := (mj_R1 (r := (.istore_n 3, 1, 0, 0, 0)) rfl rfl).trans (congrArg (mq_k1 d mj_m220 2 M) (mq_sti (k := 3)))
theorem s220_2 {d : Nat} {ls : mj_L} {st : List Value} {M : mj_H} : mj_Rn d mj_m220 2 ls st M = mq_k0 d mj_m220 3 ls M (mj_ldi (mj_lk ls 3) st) := mj_R0 (r := (.iload_n 3, 1, 0, 0, 0)) rfl rfl
theorem s220_3 {d : Nat} {ls : mj_L} {st : List Value} {M : mj_H} : mj_Rn d mj_m220 3 ls st M = mq_k0 d mj_m220 4 ls M (mj_lda (mj_lk ls 0) st) := mj_R0 (r := (.aload_n 0, 1, 0, 0, 0)) rfl rfl
theorem s220_4 {d : Nat} {ls : mj_L} {st : List Value} {M : mj_H} : mj_Rn d mj_m220 4 ls st M = mq_k0 d mj_m220 7 ls M (mq_gf 7 4 st M) := (mj_R3 (r := (.getfield 49, 3, 7, 4, 49370)) rfl rfl).trans (congrArg (mq_k0 d mj_m220 7 ls M) mq_gf_eq)
theorem s220_7 {d : Nat} {ls : mj_L} {st : List Value} {M : mj_H} : mj_Rn d mj_m220 7 ls st M = mq_k2 d mj_m220 ls M (mj_br (.if_icmp .ge 57) 7 st) := mj_R2 (r := (.if_icmp .ge 57, 3, 0, 0, 0)) rfl rfl
theorem s220_10 {d : Nat} {ls : mj_L} {st : List Value} {M : mj_H} : mj_Rn d mj_m220 10 ls st M = mq_k0 d mj_m220 11 ls M (mj_ldi (mj_lk ls 3) st) := mj_R0 (r := (.iload_n 3, 1, 0, 0, 0)) rfl rfl
theorem s220_11 {d : Nat} {ls : mj_L} {st : List Value} {M : mj_H} : mj_Rn d mj_m220 11 ls st M = mq_k0 d mj_m220 12 ls M (mj_lda (mj_lk ls 0) st) := mj_R0 (r := (.aload_n 0, 1, 0, 0, 0)) rfl rfl
theorem s220_12 {d : Nat} {ls : mj_L} {st : List Value} {M : mj_H} : mj_Rn d mj_m220 12 ls st M = mq_k0 d mj_m220 15 ls M (mq_gf 7 2 st M) := (mj_R3 (r := (.getfield 25, 3, 7, 2, 49366)) rfl rfl).trans (congrArg (mq_k0 d mj_m220 15 ls M) mq_gf_eq)
theorem s220_15 {d : Nat} {ls : mj_L} {st : List Value} {M : mj_H} : mj_Rn d mj_m220 15 ls st M = mq_k0 d mj_m220 16 ls M (mq_len st M) := (mj_R3 (r := (.arraylength, 1, 0, 0, 0)) rfl rfl).trans (congrArg (mq_k0 d mj_m220 16 ls M) mq_len_eq)
theorem s220_16 {d : Nat} {ls : mj_L} {st : List Value} {M : mj_H} : mj_Rn d mj_m220 16 ls st M = mq_k2 d mj_m220 ls M (mj_br (.if_icmp .ge 48) 16 st) := mj_R2 (r := (.if_icmp .ge 48, 3, 0, 0, 0)) rfl rfl
theorem s220_19 {d : Nat} {ls : mj_L} {st : List Value} {M : mj_H} : mj_Rn d mj_m220 19 ls st M = mq_k0 d mj_m220 20 ls M (mj_lda (mj_lk ls 0) st) := mj_R0 (r := (.aload_n 0, 1, 0, 0, 0)) rfl rfl
theorem s220_20 {d : Nat} {ls : mj_L} {st : List Value} {M : mj_H} : mj_Rn d mj_m220 20 ls st M = mq_k0 d mj_m220 23 ls M (mq_gf 7 2 st M) := (mj_R3 (r := (.getfield 25, 3, 7, 2, 49366)) rfl rfl).trans (congrArg (mq_k0 d mj_m220 23 ls M) mq_gf_eq)
theorem s220_23 {d : Nat} {ls : mj_L} {st : List Value} {M : mj_H} : mj_Rn d mj_m220 23 ls st M = mq_k0 d mj_m220 24 ls M (mj_ldi (mj_lk ls 3) st) := mj_R0 (r := (.iload_n 3, 1, 0, 0, 0)) rfl rfl
theorem s220_24 {d : Nat} {ls : mj_L} {st : List Value} {M : mj_H} : mj_Rn d mj_m220 24 ls st M = mq_k0 d mj_m220 25 ls M (mq_al [1004, 1005, 1006, 1007, 1008, 1009] st M) := (mj_R3 (r := (.aaload, 1, 0, 0, 0)) rfl rfl).trans (congrArg (mq_k0 d mj_m220 25 ls M) mq_ala_eq)
theorem s220_25 {d : Nat} {ls : mj_L} {st : List Value} {M : mj_H} : mj_Rn d mj_m220 25 ls st M = mq_k1 d mj_m220 27 M (mj_lo 5 (.astore 4) ls st) := mj_R1 (r := (.astore 4, 2, 0, 0, 0)) rfl rfl
theorem s220_27 {d : Nat} {ls : mj_L} {st : List Value} {M : mj_H} : mj_Rn d mj_m220 27 ls st M = mq_k0 d mj_m220 29 ls M (mj_lda (mj_lk ls 4) st) := mj_R0 (r := (.aload 4, 2, 0, 0, 0)) rfl rfl
theorem s220_29 {d : Nat} {ls : mj_L} {st : List Value} {M : mj_H} : mj_Rn d mj_m220 29 ls st M = mq_k2 d mj_m220 ls M (mj_br (.ifnull 29) 29 st) := mj_R2 (r := (.ifnull 29, 3, 0, 0, 0)) rfl rfl
theorem s220_32 {d : Nat} {ls : mj_L} {st : List Value} {M : mj_H} : mj_Rn d mj_m220 32 ls st M = mq_k0 d mj_m220 34 ls M (mj_lda (mj_lk ls 4) st) := mj_R0 (r := (.aload 4, 2, 0, 0, 0)) rfl rfl
theorem s220_34 {d : Nat} {ls : mj_L} {st : List Value} {M : mj_H} : mj_Rn d mj_m220 34 ls st M = mq_k0 d mj_m220 37 ls M (mq_gf 6 0 st M) := (mj_R3 (r := (.getfield 58, 3, 6, 0, 49251)) rfl rfl).trans (congrArg (mq_k0 d mj_m220 37 ls M) mq_gf_eq)
theorem s220_37 {d : Nat} {ls : mj_L} {st : List Value} {M : mj_H} : mj_Rn d mj_m220 37 ls st M = mq_k0 d mj_m220 38 ls M (mj_ldi (mj_lk ls 1) st) := mj_R0 (r := (.iload_n 1, 1, 0, 0, 0)) rfl rfl
theorem s220_38 {d : Nat} {ls : mj_L} {st : List Value} {M : mj_H} : mj_Rn d mj_m220 38 ls st M = mq_k2 d mj_m220 ls M (mj_br (.if_icmp .ne 20) 38 st) := mj_R2 (r := (.if_icmp .ne 20, 3, 0, 0, 0)) rfl rfl
theorem s220_41 {d : Nat} {ls : mj_L} {st : List Value} {M : mj_H} : mj_Rn d mj_m220 41 ls st M = mq_k0 d mj_m220 43 ls M (mj_lda (mj_lk ls 4) st) := mj_R0 (r := (.aload 4, 2, 0, 0, 0)) rfl rfl
theorem s220_43 {d : Nat} {ls : mj_L} {st : List Value} {M : mj_H} : mj_Rn d mj_m220 43 ls st M = mq_k0 d mj_m220 46 ls M (mq_gf 6 3 st M) := (mj_R3 (r := (.getfield 88, 3, 6, 3, 49263)) rfl rfl).trans (congrArg (mq_k0 d mj_m220 46 ls M) mq_gf_eq)
theorem s220_46 {d : Nat} {ls : mj_L} {st : List Value} {M : mj_H} : mj_Rn d mj_m220 46 ls st M = mq_k0 d mj_m220 47 ls M (mj_ldi (mj_lk ls 2) st) := mj_R0 (r := (.iload_n 2, 1, 0, 0, 0)) rfl rfl
theorem s220_47 {d : Nat} {ls : mj_L} {st : List Value} {M : mj_H} : mj_Rn d mj_m220 47 ls st M = mq_k2 d mj_m220 ls M (mj_br (.if_icmp .ne 11) 47 st) := mj_R2 (r := (.if_icmp .ne 11, 3, 0, 0, 0)) rfl rfl
theorem s220_50 {d : Nat} {ls : mj_L} {st : List Value} {M : mj_H} : mj_Rn d mj_m220 50 ls st M = mq_k0 d mj_m220 51 ls M (mj_lda (mj_lk ls 0) st) := mj_R0 (r := (.aload_n 0, 1, 0, 0, 0)) rfl rfl
theorem s220_51 {d : Nat} {ls : mj_L} {st : List Value} {M : mj_H} : mj_Rn d mj_m220 51 ls st M = mq_k0 d mj_m220 52 ls M (mj_ldi (mj_lk ls 3) st) := mj_R0 (r := (.iload_n 3, 1, 0, 0, 0)) rfl rfl
theorem s220_52 {d : Nat} {ls : mj_L} {st : List Value} {M : mj_H} : mj_Rn (d + 1) mj_m220 52 ls st M = mq_k5a (d + 1) mj_m220 55 ls M 221 (mq_cb 0 1 7 st M) := mj_R5e (r := (.invokevirtual 98, 3, 0, 221, 24738)) (z := mj_m221) rfl rfl (by decide) (by decide) rfl
theorem s220_55 {d : Nat} {ls : mj_L} {st : List Value} {M : mj_H} : mj_Rn d mj_m220 55 ls st M = mq_k0 d mj_m220 57 ls M (mj_lda (mj_lk ls 4) st) := mj_R0 (r := (.aload 4, 2, 0, 0, 0)) rfl rfl
theorem s220_57 {d : Nat} {ls : mj_L} {st : List Value} {M : mj_H} : mj_Rn d mj_m220 57 ls st M = mq_k6 M (mj_re (some (.object "PasskeyHouse$Offer")) (.areturn) st) := mj_R6 (r := (.areturn, 1, 0, 0, 0)) rfl rfl
theorem s220_58 {d : Nat} {ls : mj_L} {st : List Value} {M : mj_H} : mj_Rn d mj_m220 58 ls st M = mq_k1 d mj_m220 61 M (mj_lo 5 (.iinc 3 1) ls st) := mj_R1 (r := (.iinc 3 1, 3, 0, 0, 0)) rfl rfl
theorem s220_61 {d : Nat} {ls : mj_L} {st : List Value} {M : mj_H} : mj_Rn d mj_m220 61 ls st M = mj_Rn d mj_m220 2 ls st M := mj_R2 (r := (.goto (-59), 3, 0, 0, 0)) rfl rfl
theorem s220_64 {d : Nat} {ls : mj_L} {st : List Value} {M : mj_H} : mj_Rn d mj_m220 64 ls st M = mj_Rn d mj_m220 65 ls (.null :: st) M := mj_R0 (r := (.aconst_null, 1, 0, 0, 0)) rfl rfl
theorem s220_65 {d : Nat} {ls : mj_L} {st : List Value} {M : mj_H} : mj_Rn d mj_m220 65 ls st M = mq_k6 M (mj_re (some (.object "PasskeyHouse$Offer")) (.areturn) st) := mj_R6 (r := (.areturn, 1, 0, 0, 0)) rfl rfl
/- 221 PasskeyHouse$Party.removeOffer(I)V -/
theorem s221_0 {d : Nat} {ls : mj_L} {st : List Value} {M : mj_H} : mj_Rn d mj_m221 0 ls st M = mq_k0 d mj_m221 1 ls M (mj_lda (mj_lk ls 0) st) := mj_R0 (r := (.aload_n 0, 1, 0, 0, 0)) rfl rfl
theorem s221_1 {d : Nat} {ls : mj_L} {st : List Value} {M : mj_H} : mj_Rn d mj_m221 1 ls st M = mq_k0 d mj_m221 4 ls M (mq_gf 7 4 st M) := (mj_R3 (r := (.getfield 49, 3, 7, 4, 49370)) rfl rfl).trans (congrArg (mq_k0 d mj_m221 4 ls M) mq_gf_eq)
theorem s221_4 {d : Nat} {ls : mj_L} {st : List Value} {M : mj_H} : mj_Rn d mj_m221 4 ls st M = mq_k0 d mj_m221 5 ls M (mj_lda (mj_lk ls 0) st) := mj_R0 (r := (.aload_n 0, 1, 0, 0, 0)) rfl rfl
theorem s221_5 {d : Nat} {ls : mj_L} {st : List Value} {M : mj_H} : mj_Rn d mj_m221 5 ls st M = mq_k0 d mj_m221 8 ls M (mq_gf 7 2 st M) := (mj_R3 (r := (.getfield 25, 3, 7, 2, 49366)) rfl rfl).trans (congrArg (mq_k0 d mj_m221 8 ls M) mq_gf_eq)
theorem s221_8 {d : Nat} {ls : mj_L} {st : List Value} {M : mj_H} : mj_Rn d mj_m221 8 ls st M = mq_k0 d mj_m221 9 ls M (mq_len st M) := (mj_R3 (r := (.arraylength, 1, 0, 0, 0)) rfl rfl).trans (congrArg (mq_k0 d mj_m221 9 ls M) mq_len_eq)
theorem s221_9 {d : Nat} {ls : mj_L} {st : List Value} {M : mj_H} : mj_Rn (d + 1) mj_m221 9 ls st M = mq_k5a (d + 1) mj_m221 12 ls M 36 (mq_cb 2 2 999 st M) := mj_R5e (r := (.invokestatic 101, 3, 2, 36, 24742)) (z := mj_m36) rfl rfl (by decide) (by decide) rfl
theorem s221_12 {d : Nat} {ls : mj_L} {st : List Value} {M : mj_H} : mj_Rn d mj_m221 12 ls st M = mj_Rn d mj_m221 13 ls (.int 1 :: st) M := mj_R0 (r := (.iconst 1, 1, 0, 0, 0)) rfl rfl
theorem s221_13 {d : Nat} {ls : mj_L} {st : List Value} {M : mj_H} : mj_Rn d mj_m221 13 ls st M = mq_k0 d mj_m221 14 ls M (mj_pu .isub ls st) := mj_R0 (r := (.isub, 1, 0, 0, 0)) rfl rfl
theorem s221_14 {d : Nat} {ls : mj_L} {st : List Value} {M : mj_H} : mj_Rn d mj_m221 14 ls st M = mq_k1 d mj_m221 15 M (mj_lo 5 (.istore 2) ls st) := (mj_R1 (r := (.istore_n 2, 1, 0, 0, 0)) rfl rfl).trans (congrArg (mq_k1 d mj_m221 15 M) (mq_sti (k := 2)))
theorem s221_15 {d : Nat} {ls : mj_L} {st : List Value} {M : mj_H} : mj_Rn d mj_m221 15 ls st M = mq_k0 d mj_m221 16 ls M (mj_ldi (mj_lk ls 1) st) := mj_R0 (r := (.iload_n 1, 1, 0, 0, 0)) rfl rfl
theorem s221_16 {d : Nat} {ls : mj_L} {st : List Value} {M : mj_H} : mj_Rn d mj_m221 16 ls st M = mq_k2 d mj_m221 ls M (mj_br (.ifCond .lt 8) 16 st) := mj_R2 (r := (.ifCond .lt 8, 3, 0, 0, 0)) rfl rfl
theorem s221_19 {d : Nat} {ls : mj_L} {st : List Value} {M : mj_H} : mj_Rn d mj_m221 19 ls st M = mq_k0 d mj_m221 20 ls M (mj_ldi (mj_lk ls 1) st) := mj_R0 (r := (.iload_n 1, 1, 0, 0, 0)) rfl rfl
theorem s221_20 {d : Nat} {ls : mj_L} {st : List Value} {M : mj_H} : mj_Rn d mj_m221 20 ls st M = mq_k0 d mj_m221 21 ls M (mj_ldi (mj_lk ls 2) st) := mj_R0 (r := (.iload_n 2, 1, 0, 0, 0)) rfl rfl
theorem s221_21 {d : Nat} {ls : mj_L} {st : List Value} {M : mj_H} : mj_Rn d mj_m221 21 ls st M = mq_k2 d mj_m221 ls M (mj_br (.if_icmp .le 4) 21 st) := mj_R2 (r := (.if_icmp .le 4, 3, 0, 0, 0)) rfl rfl
theorem s221_24 {d : Nat} {ls : mj_L} {st : List Value} {M : mj_H} : mj_Rn d mj_m221 24 ls st M = mq_k6 M (mj_re none (.return_) st) := mj_R6 (r := (.return_, 1, 0, 0, 0)) rfl rfl
theorem s221_25 {d : Nat} {ls : mj_L} {st : List Value} {M : mj_H} : mj_Rn d mj_m221 25 ls st M = mq_k0 d mj_m221 26 ls M (mj_lda (mj_lk ls 0) st) := mj_R0 (r := (.aload_n 0, 1, 0, 0, 0)) rfl rfl
theorem s221_26 {d : Nat} {ls : mj_L} {st : List Value} {M : mj_H} : mj_Rn d mj_m221 26 ls st M = mq_k0 d mj_m221 29 ls M (mq_gf 7 2 st M) := (mj_R3 (r := (.getfield 25, 3, 7, 2, 49366)) rfl rfl).trans (congrArg (mq_k0 d mj_m221 29 ls M) mq_gf_eq)
theorem s221_29 {d : Nat} {ls : mj_L} {st : List Value} {M : mj_H} : mj_Rn d mj_m221 29 ls st M = mq_k0 d mj_m221 30 ls M (mj_ldi (mj_lk ls 1) st) := mj_R0 (r := (.iload_n 1, 1, 0, 0, 0)) rfl rfl
theorem s221_30 {d : Nat} {ls : mj_L} {st : List Value} {M : mj_H} : mj_Rn d mj_m221 30 ls st M = mq_k0 d mj_m221 31 ls M (mq_al [1004, 1005, 1006, 1007, 1008, 1009] st M) := (mj_R3 (r := (.aaload, 1, 0, 0, 0)) rfl rfl).trans (congrArg (mq_k0 d mj_m221 31 ls M) mq_ala_eq)
theorem s221_31 {d : Nat} {ls : mj_L} {st : List Value} {M : mj_H} : mj_Rn d mj_m221 31 ls st M = mq_k1 d mj_m221 32 M (mj_lo 5 (.astore 3) ls st) := (mj_R1 (r := (.astore_n 3, 1, 0, 0, 0)) rfl rfl).trans (congrArg (mq_k1 d mj_m221 32 M) (mq_sta (k := 3)))
theorem s221_32 {d : Nat} {ls : mj_L} {st : List Value} {M : mj_H} : mj_Rn d mj_m221 32 ls st M = mq_k0 d mj_m221 33 ls M (mj_ldi (mj_lk ls 1) st) := mj_R0 (r := (.iload_n 1, 1, 0, 0, 0)) rfl rfl
theorem s221_33 {d : Nat} {ls : mj_L} {st : List Value} {M : mj_H} : mj_Rn d mj_m221 33 ls st M = mq_k1 d mj_m221 35 M (mj_lo 5 (.istore 4) ls st) := mj_R1 (r := (.istore 4, 2, 0, 0, 0)) rfl rfl
theorem s221_35 {d : Nat} {ls : mj_L} {st : List Value} {M : mj_H} : mj_Rn d mj_m221 35 ls st M = mq_k0 d mj_m221 37 ls M (mj_ldi (mj_lk ls 4) st) := mj_R0 (r := (.iload 4, 2, 0, 0, 0)) rfl rfl
theorem s221_37 {d : Nat} {ls : mj_L} {st : List Value} {M : mj_H} : mj_Rn d mj_m221 37 ls st M = mq_k0 d mj_m221 38 ls M (mj_ldi (mj_lk ls 2) st) := mj_R0 (r := (.iload_n 2, 1, 0, 0, 0)) rfl rfl
theorem s221_38 {d : Nat} {ls : mj_L} {st : List Value} {M : mj_H} : mj_Rn d mj_m221 38 ls st M = mq_k2 d mj_m221 ls M (mj_br (.if_icmp .ge 25) 38 st) := mj_R2 (r := (.if_icmp .ge 25, 3, 0, 0, 0)) rfl rfl
theorem s221_41 {d : Nat} {ls : mj_L} {st : List Value} {M : mj_H} : mj_Rn d mj_m221 41 ls st M = mq_k0 d mj_m221 42 ls M (mj_lda (mj_lk ls 0) st) := mj_R0 (r := (.aload_n 0, 1, 0, 0, 0)) rfl rfl
theorem s221_42 {d : Nat} {ls : mj_L} {st : List Value} {M : mj_H} : mj_Rn d mj_m221 42 ls st M = mq_k0 d mj_m221 45 ls M (mq_gf 7 2 st M) := (mj_R3 (r := (.getfield 25, 3, 7, 2, 49366)) rfl rfl).trans (congrArg (mq_k0 d mj_m221 45 ls M) mq_gf_eq)
theorem s221_45 {d : Nat} {ls : mj_L} {st : List Value} {M : mj_H} : mj_Rn d mj_m221 45 ls st M = mq_k0 d mj_m221 47 ls M (mj_ldi (mj_lk ls 4) st) := mj_R0 (r := (.iload 4, 2, 0, 0, 0)) rfl rfl
theorem s221_47 {d : Nat} {ls : mj_L} {st : List Value} {M : mj_H} : mj_Rn d mj_m221 47 ls st M = mq_k0 d mj_m221 48 ls M (mj_lda (mj_lk ls 0) st) := mj_R0 (r := (.aload_n 0, 1, 0, 0, 0)) rfl rfl
theorem s221_48 {d : Nat} {ls : mj_L} {st : List Value} {M : mj_H} : mj_Rn d mj_m221 48 ls st M = mq_k0 d mj_m221 51 ls M (mq_gf 7 2 st M) := (mj_R3 (r := (.getfield 25, 3, 7, 2, 49366)) rfl rfl).trans (congrArg (mq_k0 d mj_m221 51 ls M) mq_gf_eq)
theorem s221_51 {d : Nat} {ls : mj_L} {st : List Value} {M : mj_H} : mj_Rn d mj_m221 51 ls st M = mq_k0 d mj_m221 53 ls M (mj_ldi (mj_lk ls 4) st) := mj_R0 (r := (.iload 4, 2, 0, 0, 0)) rfl rfl
theorem s221_53 {d : Nat} {ls : mj_L} {st : List Value} {M : mj_H} : mj_Rn d mj_m221 53 ls st M = mj_Rn d mj_m221 54 ls (.int 1 :: st) M := mj_R0 (r := (.iconst 1, 1, 0, 0, 0)) rfl rfl
theorem s221_54 {d : Nat} {ls : mj_L} {st : List Value} {M : mj_H} : mj_Rn d mj_m221 54 ls st M = mq_k0 d mj_m221 55 ls M (mj_pu .iadd ls st) := mj_R0 (r := (.iadd, 1, 0, 0, 0)) rfl rfl
theorem s221_55 {d : Nat} {ls : mj_L} {st : List Value} {M : mj_H} : mj_Rn d mj_m221 55 ls st M = mq_k0 d mj_m221 56 ls M (mq_al [1004, 1005, 1006, 1007, 1008, 1009] st M) := (mj_R3 (r := (.aaload, 1, 0, 0, 0)) rfl rfl).trans (congrArg (mq_k0 d mj_m221 56 ls M) mq_ala_eq)
theorem s221_56 {d : Nat} {ls : mj_L} {st : List Value} {M : mj_H} : mj_Rn d mj_m221 56 ls st M = mq_k4 d mj_m221 57 ls (mj_hw (.aastore, 1, 0, 0, 0) st M) := mj_R4 (r := (.aastore, 1, 0, 0, 0)) rfl rfl
theorem s221_57 {d : Nat} {ls : mj_L} {st : List Value} {M : mj_H} : mj_Rn d mj_m221 57 ls st M = mq_k1 d mj_m221 60 M (mj_lo 5 (.iinc 4 1) ls st) := mj_R1 (r := (.iinc 4 1, 3, 0, 0, 0)) rfl rfl
theorem s221_60 {d : Nat} {ls : mj_L} {st : List Value} {M : mj_H} : mj_Rn d mj_m221 60 ls st M = mj_Rn d mj_m221 35 ls st M := mj_R2 (r := (.goto (-25), 3, 0, 0, 0)) rfl rfl
theorem s221_63 {d : Nat} {ls : mj_L} {st : List Value} {M : mj_H} : mj_Rn d mj_m221 63 ls st M = mq_k0 d mj_m221 64 ls M (mj_lda (mj_lk ls 0) st) := mj_R0 (r := (.aload_n 0, 1, 0, 0, 0)) rfl rfl
theorem s221_64 {d : Nat} {ls : mj_L} {st : List Value} {M : mj_H} : mj_Rn d mj_m221 64 ls st M = mq_k0 d mj_m221 67 ls M (mq_gf 7 2 st M) := (mj_R3 (r := (.getfield 25, 3, 7, 2, 49366)) rfl rfl).trans (congrArg (mq_k0 d mj_m221 67 ls M) mq_gf_eq)
theorem s221_67 {d : Nat} {ls : mj_L} {st : List Value} {M : mj_H} : mj_Rn d mj_m221 67 ls st M = mq_k0 d mj_m221 68 ls M (mj_ldi (mj_lk ls 2) st) := mj_R0 (r := (.iload_n 2, 1, 0, 0, 0)) rfl rfl
theorem s221_68 {d : Nat} {ls : mj_L} {st : List Value} {M : mj_H} : mj_Rn d mj_m221 68 ls st M = mq_k0 d mj_m221 69 ls M (mj_lda (mj_lk ls 3) st) := mj_R0 (r := (.aload_n 3, 1, 0, 0, 0)) rfl rfl
theorem s221_69 {d : Nat} {ls : mj_L} {st : List Value} {M : mj_H} : mj_Rn d mj_m221 69 ls st M = mq_k4 d mj_m221 70 ls (mj_hw (.aastore, 1, 0, 0, 0) st M) := mj_R4 (r := (.aastore, 1, 0, 0, 0)) rfl rfl
theorem s221_70 {d : Nat} {ls : mj_L} {st : List Value} {M : mj_H} : mj_Rn d mj_m221 70 ls st M = mq_k0 d mj_m221 71 ls M (mj_lda (mj_lk ls 0) st) := mj_R0 (r := (.aload_n 0, 1, 0, 0, 0)) rfl rfl
theorem s221_71 {d : Nat} {ls : mj_L} {st : List Value} {M : mj_H} : mj_Rn d mj_m221 71 ls st M = mq_k0 d mj_m221 72 ls M (mj_ldi (mj_lk ls 2) st) := mj_R0 (r := (.iload_n 2, 1, 0, 0, 0)) rfl rfl
theorem s221_72 {d : Nat} {ls : mj_L} {st : List Value} {M : mj_H} : mj_Rn d mj_m221 72 ls st M = mq_k4 d mj_m221 75 ls (mq_pf 7 4 0 st M) := (mj_R4 (r := (.putfield 49, 3, 7, 4, 49370)) rfl rfl).trans (congrArg (mq_k4 d mj_m221 75 ls) (mq_pf_eq rfl rfl))
theorem s221_75 {d : Nat} {ls : mj_L} {st : List Value} {M : mj_H} : mj_Rn d mj_m221 75 ls st M = mq_k6 M (mj_re none (.return_) st) := mj_R6 (r := (.return_, 1, 0, 0, 0)) rfl rfl
/- 225 PasskeyHouse$Party.accountWith(I)LPasskeyHouse$Account; -/
theorem s225_0 {d : Nat} {ls : mj_L} {st : List Value} {M : mj_H} : mj_Rn d mj_m225 0 ls st M = mj_Rn d mj_m225 1 ls (.int 0 :: st) M := mj_R0 (r := (.iconst 0, 1, 0, 0, 0)) rfl rfl
theorem s225_1 {d : Nat} {ls : mj_L} {st : List Value} {M : mj_H} : mj_Rn d mj_m225 1 ls st M = mq_k1 d mj_m225 2 M (mj_lo 4 (.istore 2) ls st) := (mj_R1 (r := (.istore_n 2, 1, 0, 0, 0)) rfl rfl).trans (congrArg (mq_k1 d mj_m225 2 M) (mq_sti (k := 2)))
theorem s225_2 {d : Nat} {ls : mj_L} {st : List Value} {M : mj_H} : mj_Rn d mj_m225 2 ls st M = mq_k0 d mj_m225 3 ls M (mj_ldi (mj_lk ls 2) st) := mj_R0 (r := (.iload_n 2, 1, 0, 0, 0)) rfl rfl
theorem s225_3 {d : Nat} {ls : mj_L} {st : List Value} {M : mj_H} : mj_Rn d mj_m225 3 ls st M = mq_k0 d mj_m225 4 ls M (mj_lda (mj_lk ls 0) st) := mj_R0 (r := (.aload_n 0, 1, 0, 0, 0)) rfl rfl
theorem s225_4 {d : Nat} {ls : mj_L} {st : List Value} {M : mj_H} : mj_Rn d mj_m225 4 ls st M = mq_k0 d mj_m225 7 ls M (mq_gf 7 5 st M) := (mj_R3 (r := (.getfield 37, 3, 7, 5, 49374)) rfl rfl).trans (congrArg (mq_k0 d mj_m225 7 ls M) mq_gf_eq)
theorem s225_7 {d : Nat} {ls : mj_L} {st : List Value} {M : mj_H} : mj_Rn d mj_m225 7 ls st M = mq_k2 d mj_m225 ls M (mj_br (.if_icmp .ge 29) 7 st) := mj_R2 (r := (.if_icmp .ge 29, 3, 0, 0, 0)) rfl rfl
theorem s225_10 {d : Nat} {ls : mj_L} {st : List Value} {M : mj_H} : mj_Rn d mj_m225 10 ls st M = mq_k0 d mj_m225 11 ls M (mj_lda (mj_lk ls 0) st) := mj_R0 (r := (.aload_n 0, 1, 0, 0, 0)) rfl rfl
theorem s225_11 {d : Nat} {ls : mj_L} {st : List Value} {M : mj_H} : mj_Rn d mj_m225 11 ls st M = mq_k0 d mj_m225 12 ls M (mj_ldi (mj_lk ls 2) st) := mj_R0 (r := (.iload_n 2, 1, 0, 0, 0)) rfl rfl
theorem s225_12 {d : Nat} {ls : mj_L} {st : List Value} {M : mj_H} : mj_Rn (d + 1) mj_m225 12 ls st M = mq_k5a (d + 1) mj_m225 15 ls M 200 (mq_cb 0 1 7 st M) := mj_R5e (r := (.invokevirtual 41, 3, 0, 200, 20702)) (z := mj_m200) rfl rfl (by decide) (by decide) rfl
theorem s225_15 {d : Nat} {ls : mj_L} {st : List Value} {M : mj_H} : mj_Rn d mj_m225 15 ls st M = mq_k1 d mj_m225 16 M (mj_lo 4 (.astore 3) ls st) := (mj_R1 (r := (.astore_n 3, 1, 0, 0, 0)) rfl rfl).trans (congrArg (mq_k1 d mj_m225 16 M) (mq_sta (k := 3)))
theorem s225_16 {d : Nat} {ls : mj_L} {st : List Value} {M : mj_H} : mj_Rn d mj_m225 16 ls st M = mq_k0 d mj_m225 17 ls M (mj_lda (mj_lk ls 3) st) := mj_R0 (r := (.aload_n 3, 1, 0, 0, 0)) rfl rfl
theorem s225_17 {d : Nat} {ls : mj_L} {st : List Value} {M : mj_H} : mj_Rn d mj_m225 17 ls st M = mq_k2 d mj_m225 ls M (mj_br (.ifnull 13) 17 st) := mj_R2 (r := (.ifnull 13, 3, 0, 0, 0)) rfl rfl
theorem s225_20 {d : Nat} {ls : mj_L} {st : List Value} {M : mj_H} : mj_Rn d mj_m225 20 ls st M = mq_k0 d mj_m225 21 ls M (mj_lda (mj_lk ls 3) st) := mj_R0 (r := (.aload_n 3, 1, 0, 0, 0)) rfl rfl
theorem s225_21 {d : Nat} {ls : mj_L} {st : List Value} {M : mj_H} : mj_Rn d mj_m225 21 ls st M = mq_k0 d mj_m225 24 ls M (mq_gf 0 0 st M) := (mj_R3 (r := (.getfield 127, 3, 0, 0, 49309)) rfl rfl).trans (congrArg (mq_k0 d mj_m225 24 ls M) mq_gf_eq)
theorem s225_24 {d : Nat} {ls : mj_L} {st : List Value} {M : mj_H} : mj_Rn d mj_m225 24 ls st M = mq_k0 d mj_m225 25 ls M (mj_ldi (mj_lk ls 1) st) := mj_R0 (r := (.iload_n 1, 1, 0, 0, 0)) rfl rfl
theorem s225_25 {d : Nat} {ls : mj_L} {st : List Value} {M : mj_H} : mj_Rn d mj_m225 25 ls st M = mq_k2 d mj_m225 ls M (mj_br (.if_icmp .ne 5) 25 st) := mj_R2 (r := (.if_icmp .ne 5, 3, 0, 0, 0)) rfl rfl
theorem s225_28 {d : Nat} {ls : mj_L} {st : List Value} {M : mj_H} : mj_Rn d mj_m225 28 ls st M = mq_k0 d mj_m225 29 ls M (mj_lda (mj_lk ls 3) st) := mj_R0 (r := (.aload_n 3, 1, 0, 0, 0)) rfl rfl
theorem s225_29 {d : Nat} {ls : mj_L} {st : List Value} {M : mj_H} : mj_Rn d mj_m225 29 ls st M = mq_k6 M (mj_re (some (.object "PasskeyHouse$Account")) (.areturn) st) := mj_R6 (r := (.areturn, 1, 0, 0, 0)) rfl rfl
theorem s225_30 {d : Nat} {ls : mj_L} {st : List Value} {M : mj_H} : mj_Rn d mj_m225 30 ls st M = mq_k1 d mj_m225 33 M (mj_lo 4 (.iinc 2 1) ls st) := mj_R1 (r := (.iinc 2 1, 3, 0, 0, 0)) rfl rfl
theorem s225_33 {d : Nat} {ls : mj_L} {st : List Value} {M : mj_H} : mj_Rn d mj_m225 33 ls st M = mj_Rn d mj_m225 2 ls st M := mj_R2 (r := (.goto (-31), 3, 0, 0, 0)) rfl rfl
theorem s225_36 {d : Nat} {ls : mj_L} {st : List Value} {M : mj_H} : mj_Rn d mj_m225 36 ls st M = mj_Rn d mj_m225 37 ls (.null :: st) M := mj_R0 (r := (.aconst_null, 1, 0, 0, 0)) rfl rfl
theorem s225_37 {d : Nat} {ls : mj_L} {st : List Value} {M : mj_H} : mj_Rn d mj_m225 37 ls st M = mq_k6 M (mj_re (some (.object "PasskeyHouse$Account")) (.areturn) st) := mj_R6 (r := (.areturn, 1, 0, 0, 0)) rfl rfl
theorem c219 {d : Nat} {a0 : Nat} {x1 : Int32} {M : mj_H} : mj_V (d + 1) 219 [.ref a0, .int x1] M = mj_Rn d mj_m219 0 [(0, .ref a0), (1, .int x1)] [] M := mj_V_go rfl (Nat.le_of_ble_eq_true rfl)
theorem c220 {d : Nat} {a0 : Nat} {x1 : Int32} {x2 : Int32} {M : mj_H} : mj_V (d + 1) 220 [.ref a0, .int x1, .int x2] M = mj_Rn d mj_m220 0 [(0, .ref a0), (1, .int x1), (2, .int x2)] [] M := mj_V_go rfl (Nat.le_of_ble_eq_true rfl)
theorem c221 {d : Nat} {a0 : Nat} {x1 : Int32} {M : mj_H} : mj_V (d + 1) 221 [.ref a0, .int x1] M = mj_Rn d mj_m221 0 [(0, .ref a0), (1, .int x1)] [] M := mj_V_go rfl (Nat.le_of_ble_eq_true rfl)
theorem c225 {d : Nat} {a0 : Nat} {x1 : Int32} {M : mj_H} : mj_V (d + 1) 225 [.ref a0, .int x1] M = mj_Rn d mj_m225 0 [(0, .ref a0), (1, .int x1)] [] M := mj_V_go rfl (Nat.le_of_ble_eq_true rfl)
theorem cl_len : mj_cl.length = 12 := rfl
theorem aas {M : mj_H} {a v tag cls : Nat} {i : Int32} {zs ws s : List Value} (hty : mj_aty tag = FieldType.object ((mj_cl.map (·.1)).getD cls "")) (ht : 1004 ≤ tag) (hc : cls < 12) (hv : mj_E ≤ v) (h1 : M[a]? = some (tag, zs)) (h2 : M[v]? = some (cls, ws)) : mj_hw (.aastore, 1, 0, 0, 0) (.ref v :: .int i :: .ref a :: s) M = (mj_aw tag M a i (.ref v)).map (s, ·) := by
  show (match M[a]?, M[v]? with
    | some q, some w => if mj_E ≤ v ∧ w.1 < mj_cl.length ∧ mj_aty q.1 = FieldType.object ((mj_cl.map (fun x : vw_C => x.1)).getD w.1 "") then if 1004 ≤ q.1 then (mj_aw q.1 M a i (.ref v)).map (s, ·) else none else none
    | _, _ => none) = _
  rw [h1, h2]
  dsimp only
  rw [if_pos ⟨hv, by rw [cl_len]; omega, hty⟩, if_pos (by omega)]
theorem ty_o8 : mj_aty 1008 = FieldType.object ((mj_cl.map (·.1)).getD 6 "") := rfl
theorem ty8 : mj_aty 1008 = FieldType.object ((Option.map (fun x : vw_C => x.fst) mj_cl[6]?).getD "") := rfl
theorem ty9 : mj_aty 1009 = FieldType.object ((Option.map (fun x : vw_C => x.fst) mj_cl[0]?).getD "") := rfl
theorem ty7 : mj_aty 1007 = FieldType.object ((Option.map (fun x : vw_C => x.fst) mj_cl[2]?).getD "") := rfl
theorem ty6 : mj_aty 1006 = FieldType.object ((Option.map (fun x : vw_C => x.fst) mj_cl[7]?).getD "") := rfl
theorem ty5 : mj_aty 1005 = FieldType.object ((Option.map (fun x : vw_C => x.fst) mj_cl[3]?).getD "") := rfl
theorem ty4 : mj_aty 1004 = FieldType.object ((Option.map (fun x : vw_C => x.fst) mj_cl[5]?).getD "") := rfl
/-- the rows' order when an offer is taken away -/
def rot (ol : List Nat) (i last : Nat) : List Nat := (ol.take i ++ (ol.drop (i + 1)).take (last - i)) ++ (ol.getD i 0 :: ol.drop (last + 1))
section HZ
variable {M M' : mj_H} {H H' : Ho} {κs πs : List Nat} {row row' ms : List Int32} {d : Nat} {i l : Int32} {π : Nat} {p : Pa} {u t : List Int32}
theorem j_isr {a b size : Nat} (hb : bb M a b 400 t) (hs : size ≤ t.length) : mj_V (d + 2) 219 [.ref a, .int (nI size)] M = some (some (.int (on1 (decide (jd_ok t size)))), M) := by
  have h8 := hb.2.2.2.2.1
  have hl := hb.len
  have o0 := hb.2.2.2.2.2.1
  have v0 := v_item (d := d) hb 0
  by_cases h6 : size < 6
  · have hn : ¬ jd_ok t size := fun h => by have := h.1; omega
    simp (disch := (first | omega | decide)) [c219, s219_0, s219_1, s219_2, s219_5, s219_6, s219_7, s219_9, s219_12, s219_13, s219_14, s219_17, s219_18, s219_19, s219_22, s219_23, s219_24, s219_25, s219_26, s219_29, s219_30, s219_31, s219_33, s219_34, s219_35, s219_38, s219_39, s219_41, s219_42, s219_43, s219_44, s219_46, s219_47, s219_48, s219_51, s219_52, s219_55, s219_56, s219_59, s219_60, mq_k0s, mq_k1s, mq_k2s, mq_k4s, mq_k5s, mq_k5n, mq_k5as, mq_k6s, mj_pu, mj_lo, mj_br, mj_hr, mj_hw, mq_gf, mq_len, mq_al, mq_pf, mq_ok, mj_re, mq_lkm, mq_lkn, mj_ldi, mj_ldl, mj_lda, mj_ii, mj_ll, mj_li, mj_i1, ms_1, ms_2, f1_n, f1_i, f1_r, f1_u, f1_l, f2_n, f2_i, f2_r, f2_u, f2_l, mj_tg, mj_c1, mj_c2, mj_ar, mj_aw, mq_cb, mq_oi, mj_rm, Value.category, -getElem?_pos, List.getElem?_cons_zero, decide_eq_true, decide_eq_false, nl_lt, nl_le, ln_lt, ln_le, nl_eq, ln_eq, nl_add, ln_add, nl_sub, ln_mul, nI_sub, nI_mul, nI_add, nI_lt_iff, nI_le_iff, nI_inj, nI_num, mq_ix, nI_1, nl_mul, nl_div, o0, v0, h6, hn, on1, narrow_b0]
  have hne : t ≠ [] := by intro e; subst e; simp at hs; omega
  obtain ⟨e0, -⟩ := at0 h8 hne
  rw [e0] at v0
  have hB : ∀ p, cbB t p < 256 := ms_by h8
  have b0 := hB 0
  by_cases hk : cbB t 0 = 1 ∨ cbB t 0 = 2; rotate_left
  · have hn : ¬ jd_ok t size := fun h => hk h.2.1
    have k1 : ¬ cbB t 0 = 1 := fun h => hk (Or.inl h)
    have k2 : ¬ cbB t 0 = 2 := fun h => hk (Or.inr h)
    simp (disch := (first | omega | decide)) [c219, s219_0, s219_1, s219_2, s219_5, s219_6, s219_7, s219_9, s219_12, s219_13, s219_14, s219_17, s219_18, s219_19, s219_22, s219_23, s219_24, s219_25, s219_26, s219_29, s219_30, s219_31, s219_33, s219_34, s219_35, s219_38, s219_39, s219_41, s219_42, s219_43, s219_44, s219_46, s219_47, s219_48, s219_51, s219_52, s219_55, s219_56, s219_59, s219_60, mq_k0s, mq_k1s, mq_k2s, mq_k4s, mq_k5s, mq_k5n, mq_k5as, mq_k6s, mj_pu, mj_lo, mj_br, mj_hr, mj_hw, mq_gf, mq_len, mq_al, mq_pf, mq_ok, mj_re, mq_lkm, mq_lkn, mj_ldi, mj_ldl, mj_lda, mj_ii, mj_ll, mj_li, mj_i1, ms_1, ms_2, f1_n, f1_i, f1_r, f1_u, f1_l, f2_n, f2_i, f2_r, f2_u, f2_l, mj_tg, mj_c1, mj_c2, mj_ar, mj_aw, mq_cb, mq_oi, mj_rm, Value.category, -getElem?_pos, List.getElem?_cons_zero, decide_eq_true, decide_eq_false, nl_lt, nl_le, ln_lt, ln_le, nl_eq, ln_eq, nl_add, ln_add, nl_sub, ln_mul, nI_sub, nI_mul, nI_add, nI_lt_iff, nI_le_iff, nI_inj, nI_num, mq_ix, nI_1, nl_mul, nl_div, o0, v0, h6, k1, k2, hn, on1, narrow_b0]
  have v5 := v_item (d := d) hb 5
  rw [show (5 : Int32) = nI 5 from rfl, bt_at_nI (by decide), ms_at h8 (by omega), show nI 5 = (5 : Int32) from rfl] at v5
  have b5 := hB 5
  by_cases h15 : 15 + cbB t 5 ≤ size
  · have v10 := v_item (d := d) hb (nI (10 + cbB t 5))
    rw [bt_at_nI (by omega), ms_at h8 (by omega)] at v10
    have b10 := hB (10 + cbB t 5)
    obtain ⟨x, hx⟩ : ∃ x, cbB t (10 + cbB t 5) = x := ⟨_, rfl⟩
    rw [hx] at v10 b10
    by_cases he : size = 15 + cbB t 5 + x
    · have hok : jd_ok t size := ⟨by omega, hk, by rw [hx]; exact he⟩
      rcases hk with k | k <;> (rw [k] at v0; simp (disch := (first | omega | decide)) [c219, s219_0, s219_1, s219_2, s219_5, s219_6, s219_7, s219_9, s219_12, s219_13, s219_14, s219_17, s219_18, s219_19, s219_22, s219_23, s219_24, s219_25, s219_26, s219_29, s219_30, s219_31, s219_33, s219_34, s219_35, s219_38, s219_39, s219_41, s219_42, s219_43, s219_44, s219_46, s219_47, s219_48, s219_51, s219_52, s219_55, s219_56, s219_59, s219_60, mq_k0s, mq_k1s, mq_k2s, mq_k4s, mq_k5s, mq_k5n, mq_k5as, mq_k6s, mj_pu, mj_lo, mj_br, mj_hr, mj_hw, mq_gf, mq_len, mq_al, mq_pf, mq_ok, mj_re, mq_lkm, mq_lkn, mj_ldi, mj_ldl, mj_lda, mj_ii, mj_ll, mj_li, mj_i1, ms_1, ms_2, f1_n, f1_i, f1_r, f1_u, f1_l, f2_n, f2_i, f2_r, f2_u, f2_l, mj_tg, mj_c1, mj_c2, mj_ar, mj_aw, mq_cb, mq_oi, mj_rm, Value.category, -getElem?_pos, List.getElem?_cons_zero, decide_eq_true, decide_eq_false, nl_lt, nl_le, ln_lt, ln_le, nl_eq, ln_eq, nl_add, ln_add, nl_sub, ln_mul, nI_sub, nI_mul, nI_add, nI_lt_iff, nI_le_iff, nI_inj, nI_num, mq_ix, nI_1, nl_mul, nl_div, o0, v0, h6, v5, h15, v10, ← he, hok, on1, narrow_b1])
    · have hok : ¬ jd_ok t size := fun h => he (by have := h.2.2; rw [hx] at this; exact this)
      rcases hk with k | k <;> (rw [k] at v0; simp (disch := (first | omega | decide)) [c219, s219_0, s219_1, s219_2, s219_5, s219_6, s219_7, s219_9, s219_12, s219_13, s219_14, s219_17, s219_18, s219_19, s219_22, s219_23, s219_24, s219_25, s219_26, s219_29, s219_30, s219_31, s219_33, s219_34, s219_35, s219_38, s219_39, s219_41, s219_42, s219_43, s219_44, s219_46, s219_47, s219_48, s219_51, s219_52, s219_55, s219_56, s219_59, s219_60, mq_k0s, mq_k1s, mq_k2s, mq_k4s, mq_k5s, mq_k5n, mq_k5as, mq_k6s, mj_pu, mj_lo, mj_br, mj_hr, mj_hw, mq_gf, mq_len, mq_al, mq_pf, mq_ok, mj_re, mq_lkm, mq_lkn, mj_ldi, mj_ldl, mj_lda, mj_ii, mj_ll, mj_li, mj_i1, ms_1, ms_2, f1_n, f1_i, f1_r, f1_u, f1_l, f2_n, f2_i, f2_r, f2_u, f2_l, mj_tg, mj_c1, mj_c2, mj_ar, mj_aw, mq_cb, mq_oi, mj_rm, Value.category, -getElem?_pos, List.getElem?_cons_zero, decide_eq_true, decide_eq_false, nl_lt, nl_le, ln_lt, ln_le, nl_eq, ln_eq, nl_add, ln_add, nl_sub, ln_mul, nI_sub, nI_mul, nI_add, nI_lt_iff, nI_le_iff, nI_inj, nI_num, mq_ix, nI_1, nl_mul, nl_div, o0, v0, h6, v5, h15, v10, he, hok, on1, narrow_b0])
  · have hok : ¬ jd_ok t size := fun h => by have := h.2.2; omega
    rcases hk with k | k <;> (rw [k] at v0; simp (disch := (first | omega | decide)) [c219, s219_0, s219_1, s219_2, s219_5, s219_6, s219_7, s219_9, s219_12, s219_13, s219_14, s219_17, s219_18, s219_19, s219_22, s219_23, s219_24, s219_25, s219_26, s219_29, s219_30, s219_31, s219_33, s219_34, s219_35, s219_38, s219_39, s219_41, s219_42, s219_43, s219_44, s219_46, s219_47, s219_48, s219_51, s219_52, s219_55, s219_56, s219_59, s219_60, mq_k0s, mq_k1s, mq_k2s, mq_k4s, mq_k5s, mq_k5n, mq_k5as, mq_k6s, mj_pu, mj_lo, mj_br, mj_hr, mj_hw, mq_gf, mq_len, mq_al, mq_pf, mq_ok, mj_re, mq_lkm, mq_lkn, mj_ldi, mj_ldl, mj_lda, mj_ii, mj_ll, mj_li, mj_i1, ms_1, ms_2, f1_n, f1_i, f1_r, f1_u, f1_l, f2_n, f2_i, f2_r, f2_u, f2_l, mj_tg, mj_c1, mj_c2, mj_ar, mj_aw, mq_cb, mq_oi, mj_rm, Value.category, -getElem?_pos, List.getElem?_cons_zero, decide_eq_true, decide_eq_false, nl_lt, nl_le, ln_lt, ln_le, nl_eq, ln_eq, nl_add, ln_add, nl_sub, ln_mul, nI_sub, nI_mul, nI_add, nI_lt_iff, nI_le_iff, nI_inj, nI_num, mq_ix, nI_1, nl_mul, nl_div, o0, v0, h6, v5, h15, hok, on1, narrow_b0])
theorem j_rem (h : pz M π p) {ol : List Nat} (o1 : ol.length = 4) (o2 : M[π + 5]? = some (1008, ol.map Value.ref)) (o3 : ∀ x ∈ ol, π + 6 ≤ x ∧ x ≤ π + 9) (o6 : ∀ x ∈ ol, ∃ (a : Int32) (b : Int64) (c d e : Int32), M[x]? = some (6, [.int a, .long b, .int c, .int d, .int e])) {k : Nat} (hk : k < p.2.2.1.length) : mj_V (d + 2) 221 [.ref π, .int (nI k)] M = some (none, (M.set (π + 5) (1008, (rot ol k (p.2.2.1.length - 1)).map Value.ref)).set π (po π ((p.1, (p.2.1, (p.2.2.1.eraseIdx k, (p.2.2.2.1, (p.2.2.2.2.1, p.2.2.2.2.2))))) : Pa))) := by
  have xp := h.ob
  have l4 := h.l4
  have hlo := h.lo
  have hh : ¬ π < 25 := by omega
  have hh5 : ¬ π + 5 < 25 := by omega
  have lp := mq_lt xp
  have l5 := mq_lt o2
  have jm := fun x y => j_min (d := d) (x := x) (y := y) (M := M)
  obtain ⟨a, b, c, e, rfl⟩ : ∃ a b c e, ol = [a, b, c, e] := by
    rcases ol with _ | ⟨a, _ | ⟨b, _ | ⟨c, _ | ⟨e, _ | ⟨f, r⟩⟩⟩⟩⟩ <;> simp at o1
    exact ⟨a, b, c, e, rfl⟩
  have el : (p.2.2.1.eraseIdx k).length = p.2.2.1.length - 1 := by rw [List.length_eraseIdx]; rw [if_pos hk]
  unfold po
  dsimp only
  rw [el]
  generalize p.2.2.1.length = n at *
  have ha := o3 a (by simp)
  have hb := o3 b (by simp)
  have hc := o3 c (by simp)
  have he := o3 e (by simp)
  obtain ⟨_, _, _, _, _, qa⟩ := o6 a (by simp)
  obtain ⟨_, _, _, _, _, qb⟩ := o6 b (by simp)
  obtain ⟨_, _, _, _, _, qc⟩ := o6 c (by simp)
  obtain ⟨_, _, _, _, _, qe⟩ := o6 e (by simp)
  simp only [List.map_cons, List.map_nil] at o2
  have h25 : ∀ x, π + 6 ≤ x ∧ x ≤ π + 9 → 25 ≤ x ∧ π + 5 ≠ x ∧ x ≠ π + 5 := fun x hx => by omega
  have ga := h25 a ha
  have gb := h25 b hb
  have gc := h25 c hc
  have ge := h25 e he
  rcases (show (n = 1 ∧ k = 0) ∨ (n = 2 ∧ k = 0) ∨ (n = 2 ∧ k = 1) ∨ (n = 3 ∧ k = 0) ∨ (n = 3 ∧ k = 1) ∨ (n = 3 ∧ k = 2) ∨ (n = 4 ∧ k = 0) ∨ (n = 4 ∧ k = 1) ∨ (n = 4 ∧ k = 2) ∨ (n = 4 ∧ k = 3) by omega) with ⟨rfl, rfl⟩ | ⟨rfl, rfl⟩ | ⟨rfl, rfl⟩ | ⟨rfl, rfl⟩ | ⟨rfl, rfl⟩ | ⟨rfl, rfl⟩ | ⟨rfl, rfl⟩ | ⟨rfl, rfl⟩ | ⟨rfl, rfl⟩ | ⟨rfl, rfl⟩ <;> simp (disch := (first | omega | decide)) [c221, s221_0, s221_1, s221_4, s221_5, s221_8, s221_9, s221_12, s221_13, s221_14, s221_15, s221_16, s221_19, s221_20, s221_21, s221_24, s221_25, s221_26, s221_29, s221_30, s221_31, s221_32, s221_33, s221_35, s221_37, s221_38, s221_41, s221_42, s221_45, s221_47, s221_48, s221_51, s221_53, s221_54, s221_55, s221_56, s221_57, s221_60, s221_63, s221_64, s221_67, s221_68, s221_69, s221_70, s221_71, s221_72, s221_75, mq_k0s, mq_k1s, mq_k2s, mq_k4s, mq_k5s, mq_k5n, mq_k5as, mq_k6s, mj_pu, mj_lo, mj_br, mj_hr, mj_hw, mq_gf, mq_len, mq_al, mq_pf, mq_ok, mj_re, mq_lkm, mq_lkn, mj_ldi, mj_ldl, mj_lda, mj_ii, mj_ll, mj_li, mj_i1, ms_1, ms_2, f1_n, f1_i, f1_r, f1_u, f1_l, f2_n, f2_i, f2_r, f2_u, f2_l, mj_tg, mj_c1, mj_c2, mj_ar, mj_aw, mq_cb, mq_oi, mj_rm, Value.category, -getElem?_pos, List.getElem?_cons_zero, decide_eq_true, decide_eq_false, nl_lt, nl_le, ln_lt, ln_le, nl_eq, ln_eq, nl_add, ln_add, nl_sub, ln_mul, nI_sub, nI_mul, nI_add, nI_lt_iff, nI_le_iff, nI_inj, nI_num, mq_ix, nI_1, nl_mul, nl_div, xp, o2, jm, mj_E, hh, hh5, lp, l5, List.getElem?_set, qa, qb, qc, qe, ga, gb, gc, ge, rot, narrow, cl_len, ty8]
/-- an offer is taken away -/
theorem pz.take (h : pz M π p) {ol : List Nat} (o1 : ol.length = 4) (o2 : M[π + 5]? = some (1008, ol.map Value.ref)) (o3 : ∀ x ∈ ol, π + 6 ≤ x ∧ x ≤ π + 9) (o4 : ol.Nodup) (o5 : ∀ (i : Nat) (o : Of) (x : Nat), p.2.2.1[i]? = some o → ol[i]? = some x → M[x]? = some (oc o)) (o6 : ∀ x ∈ ol, ∃ (a : Int32) (b : Int64) (c d e : Int32), M[x]? = some (6, [.int a, .long b, .int c, .int d, .int e])) {k : Nat} (hk : k < p.2.2.1.length) : pz ((M.set (π + 5) (1008, (rot ol k (p.2.2.1.length - 1)).map Value.ref)).set π (po π ((p.1, (p.2.1, (p.2.2.1.eraseIdx k, (p.2.2.2.1, (p.2.2.2.2.1, p.2.2.2.2.2))))) : Pa))) π ((p.1, (p.2.1, (p.2.2.1.eraseIdx k, (p.2.2.2.1, (p.2.2.2.2.1, p.2.2.2.2.2))))) : Pa) := by
  have hlo := h.lo
  have l4 := h.l4
  have e : ∀ c, c ≠ π → c ≠ π + 5 → ((M.set (π + 5) (1008, (rot ol k (p.2.2.1.length - 1)).map Value.ref)).set π (po π ((p.1, (p.2.1, (p.2.2.1.eraseIdx k, (p.2.2.2.1, (p.2.2.2.2.1, p.2.2.2.2.2))))) : Pa)))[c]? = M[c]? := fun c h1 h2 => by
    rw [List.getElem?_set_ne (fun z => h1 z.symm), List.getElem?_set_ne (fun z => h2 z.symm)]
  have el : (p.2.2.1.eraseIdx k).length = p.2.2.1.length - 1 := by rw [List.length_eraseIdx, if_pos hk]
  have hko : k < ol.length := by omega
  have rperm : (rot ol k (p.2.2.1.length - 1)).Perm ol := by
    unfold rot
    have s1 : ol = ol.take k ++ (ol[k] :: ((ol.drop (k + 1)).take (p.2.2.1.length - 1 - k) ++ ol.drop (p.2.2.1.length - 1 + 1))) := by
      conv => lhs; rw [← List.take_append_drop k ol, List.drop_eq_getElem_cons hko]
      congr 2
      conv => lhs; rw [← List.take_append_drop (p.2.2.1.length - 1 - k) (ol.drop (k + 1)), List.drop_drop]
      congr 2
      omega
    have s2 : ol.getD k 0 = ol[k] := by rw [List.getD_eq_getElem?_getD, List.getElem?_eq_getElem hko]; rfl
    rw [s2]
    conv => rhs; rw [s1]
    rw [List.append_assoc]
    refine List.Perm.append_left _ ?_
    exact List.perm_middle
  have rlen : (rot ol k (p.2.2.1.length - 1)).length = 4 := by rw [rperm.length_eq]; exact o1
  have rmem : ∀ x, x ∈ rot ol k (p.2.2.1.length - 1) ↔ x ∈ ol := fun x => rperm.mem_iff
  have rat : ∀ i, i < p.2.2.1.length - 1 → (rot ol k (p.2.2.1.length - 1))[i]? = ol[if i < k then i else i + 1]? := by
    intro i hi
    unfold rot
    rw [List.getElem?_append_left (by simp; omega)]
    by_cases hik : i < k
    · rw [if_pos hik, List.getElem?_append_left (by simp; omega), List.getElem?_take_of_lt hik]
    · rw [if_neg hik, List.getElem?_append_right (by simp; omega)]
      have hl : (ol.take k).length = k := by simp; omega
      rw [hl, List.getElem?_take_of_lt (by omega), List.getElem?_drop]
      congr 1
      omega
  refine (pz_mk_ (List.getElem?_set_self (by simpa using mq_lt h.ob)) (h.og.fr (e _ (by omega) (by omega)) (e _ (by omega) (by omega))) (h.nm.fr (e _ (by omega) (by omega)) (e _ (by omega) (by omega))) (⟨rot ol k (p.2.2.1.length - 1), rlen, ?_, ?_, rperm.nodup_iff.mpr o4, ?_, ?_⟩) ((e _ (by omega) (by omega)).trans h.aa) ?_ ?_ (by rw [el]; omega) h.l8 h.lo)
  · rw [List.getElem?_set_ne (by omega)]; exact List.getElem?_set_self (mq_lt o2)
  · intro x hx; exact o3 x ((rmem x).mp hx)
  · intro i o x q1 q2
    have hil : i < p.2.2.1.length - 1 := by
      have := (List.getElem?_eq_some_iff.mp q1).1
      rw [el] at this; exact this
    rw [rat i hil] at q2
    have hx := o3 x (List.mem_of_getElem? q2)
    have q1' : p.2.2.1[if i < k then i else i + 1]? = some o := by
      dsimp only at q1
      rw [List.getElem?_eraseIdx] at q1
      split
      · next hik => rw [if_pos hik] at q1; exact q1
      · next hik => rw [if_neg hik] at q1; exact q1
    exact (e _ (by omega) (by omega)).trans (o5 _ o x q1' q2)
  · intro x hx
    have hx' := o3 x ((rmem x).mp hx)
    obtain ⟨a, b, c, d, f, q⟩ := o6 x ((rmem x).mp hx)
    exact ⟨a, b, c, d, f, (e _ (by omega) (by omega)).trans q⟩
  · intro i a hi
    exact (e _ (by omega) (by omega)).trans (h.ac i a hi)
  · intro i hi
    obtain ⟨a, b, c, d, f, g, q⟩ := h.ax i hi
    exact ⟨a, b, c, d, f, g, (e _ (by omega) (by omega)).trans q⟩
end HZ
end
/- 9r.hj -/
section
set_option maxRecDepth 512
/-! Class: the house: judging. -/
/- 223 PasskeyHouse$Party.dataFault(LPasskeyHouse$Terms;LPasskeyHouse$Bytes;IIZ)I -/
theorem s223_0 {d : Nat} {ls : mj_L} {st : List Value} {M : mj_H} : mj_Rn d mj_m223 0 ls st M = mq_k0 d mj_m223 1 ls M (mj_lda (mj_lk ls 1) st) := mj_R0 (r := (.aload_n 1, 1, 0, 0, 0)) rfl rfl
theorem s223_1 {d : Nat} {ls : mj_L} {st : List Value} {M : mj_H} : mj_Rn d mj_m223 1 ls st M = mj_Rn d mj_m223 3 ls (.int 7 :: st) M := mj_R0 (r := (.bipush 7, 2, 0, 0, 0)) rfl rfl
theorem s223_3 {d : Nat} {ls : mj_L} {st : List Value} {M : mj_H} : mj_Rn (d + 1) mj_m223 3 ls st M = mq_k5a (d + 1) mj_m223 6 ls M 28 (mq_cb 0 1 9 st M) := mj_R5e (r := (.invokevirtual 154, 3, 0, 28, 24753)) (z := mj_m28) rfl rfl (by decide) (by decide) rfl
theorem s223_6 {d : Nat} {ls : mj_L} {st : List Value} {M : mj_H} : mj_Rn d mj_m223 6 ls st M = mq_k0 d mj_m223 7 ls M (mj_lda (mj_lk ls 1) st) := mj_R0 (r := (.aload_n 1, 1, 0, 0, 0)) rfl rfl
theorem s223_7 {d : Nat} {ls : mj_L} {st : List Value} {M : mj_H} : mj_Rn d mj_m223 7 ls st M = mq_k0 d mj_m223 8 ls M (mj_lda (mj_lk ls 0) st) := mj_R0 (r := (.aload_n 0, 1, 0, 0, 0)) rfl rfl
theorem s223_8 {d : Nat} {ls : mj_L} {st : List Value} {M : mj_H} : mj_Rn d mj_m223 8 ls st M = mq_k0 d mj_m223 11 ls M (mq_gf 7 1 st M) := (mj_R3 (r := (.getfield 20, 3, 7, 1, 49362)) rfl rfl).trans (congrArg (mq_k0 d mj_m223 11 ls M) mq_gf_eq)
theorem s223_11 {d : Nat} {ls : mj_L} {st : List Value} {M : mj_H} : mj_Rn d mj_m223 11 ls st M = mj_Rn d mj_m223 12 ls (.int 0 :: st) M := mj_R0 (r := (.iconst 0, 1, 0, 0, 0)) rfl rfl
theorem s223_12 {d : Nat} {ls : mj_L} {st : List Value} {M : mj_H} : mj_Rn d mj_m223 12 ls st M = mq_k0 d mj_m223 13 ls M (mj_lda (mj_lk ls 0) st) := mj_R0 (r := (.aload_n 0, 1, 0, 0, 0)) rfl rfl
theorem s223_13 {d : Nat} {ls : mj_L} {st : List Value} {M : mj_H} : mj_Rn d mj_m223 13 ls st M = mq_k0 d mj_m223 16 ls M (mq_gf 7 1 st M) := (mj_R3 (r := (.getfield 20, 3, 7, 1, 49362)) rfl rfl).trans (congrArg (mq_k0 d mj_m223 16 ls M) mq_gf_eq)
theorem s223_16 {d : Nat} {ls : mj_L} {st : List Value} {M : mj_H} : mj_Rn (d + 1) mj_m223 16 ls st M = mq_k5a (d + 1) mj_m223 19 ls M 9 (mq_cb 0 0 1 st M) := mj_R5e (r := (.invokevirtual 80, 3, 0, 9, 24743)) (z := mj_m9) rfl rfl (by decide) (by decide) rfl
theorem s223_19 {d : Nat} {ls : mj_L} {st : List Value} {M : mj_H} : mj_Rn (d + 1) mj_m223 19 ls st M = mq_k5a (d + 1) mj_m223 22 ls M 113 (mq_cb 0 3 9 st M) := mj_R5e (r := (.invokevirtual 157, 3, 0, 113, 24754)) (z := mj_m113) rfl rfl (by decide) (by decide) rfl
theorem s223_22 {d : Nat} {ls : mj_L} {st : List Value} {M : mj_H} : mj_Rn d mj_m223 22 ls st M = mq_k0 d mj_m223 23 ls M (mj_lda (mj_lk ls 1) st) := mj_R0 (r := (.aload_n 1, 1, 0, 0, 0)) rfl rfl
theorem s223_23 {d : Nat} {ls : mj_L} {st : List Value} {M : mj_H} : mj_Rn (d + 1) mj_m223 23 ls st M = mq_k5a (d + 1) mj_m223 26 ls M 31 (mq_cb 0 0 9 st M) := mj_R5e (r := (.invokevirtual 161, 3, 0, 31, 24755)) (z := mj_m31) rfl rfl (by decide) (by decide) rfl
theorem s223_26 {d : Nat} {ls : mj_L} {st : List Value} {M : mj_H} : mj_Rn d mj_m223 26 ls st M = mq_k1 d mj_m223 28 M (mj_lo 8 (.istore 6) ls st) := mj_R1 (r := (.istore 6, 2, 0, 0, 0)) rfl rfl
theorem s223_28 {d : Nat} {ls : mj_L} {st : List Value} {M : mj_H} : mj_Rn d mj_m223 28 ls st M = mq_k0 d mj_m223 30 ls M (mj_ldi (mj_lk ls 6) st) := mj_R0 (r := (.iload 6, 2, 0, 0, 0)) rfl rfl
theorem s223_30 {d : Nat} {ls : mj_L} {st : List Value} {M : mj_H} : mj_Rn d mj_m223 30 ls st M = mq_k2 d mj_m223 ls M (mj_br (.ifCond .eq 13) 30 st) := mj_R2 (r := (.ifCond .eq 13, 3, 0, 0, 0)) rfl rfl
theorem s223_33 {d : Nat} {ls : mj_L} {st : List Value} {M : mj_H} : mj_Rn d mj_m223 33 ls st M = mq_k0 d mj_m223 34 ls M (mj_lda (mj_lk ls 2) st) := mj_R0 (r := (.aload_n 2, 1, 0, 0, 0)) rfl rfl
theorem s223_34 {d : Nat} {ls : mj_L} {st : List Value} {M : mj_H} : mj_Rn d mj_m223 34 ls st M = mq_k0 d mj_m223 35 ls M (mj_ldi (mj_lk ls 3) st) := mj_R0 (r := (.iload_n 3, 1, 0, 0, 0)) rfl rfl
theorem s223_35 {d : Nat} {ls : mj_L} {st : List Value} {M : mj_H} : mj_Rn (d + 1) mj_m223 35 ls st M = mq_k5a (d + 1) mj_m223 38 ls M 53 (mq_cb 0 1 1 st M) := mj_R5e (r := (.invokevirtual 69, 3, 0, 53, 24733)) (z := mj_m53) rfl rfl (by decide) (by decide) rfl
theorem s223_38 {d : Nat} {ls : mj_L} {st : List Value} {M : mj_H} : mj_Rn d mj_m223 38 ls st M = mq_k0 d mj_m223 40 ls M (mj_ldi (mj_lk ls 6) st) := mj_R0 (r := (.iload 6, 2, 0, 0, 0)) rfl rfl
theorem s223_40 {d : Nat} {ls : mj_L} {st : List Value} {M : mj_H} : mj_Rn d mj_m223 40 ls st M = mq_k2 d mj_m223 ls M (mj_br (.if_icmp .eq 5) 40 st) := mj_R2 (r := (.if_icmp .eq 5, 3, 0, 0, 0)) rfl rfl
theorem s223_43 {d : Nat} {ls : mj_L} {st : List Value} {M : mj_H} : mj_Rn d mj_m223 43 ls st M = mj_Rn d mj_m223 44 ls (.int 5 :: st) M := mj_R0 (r := (.iconst 5, 1, 0, 0, 0)) rfl rfl
theorem s223_44 {d : Nat} {ls : mj_L} {st : List Value} {M : mj_H} : mj_Rn d mj_m223 44 ls st M = mq_k6 M (mj_re (some .int) (.ireturn) st) := mj_R6 (r := (.ireturn, 1, 0, 0, 0)) rfl rfl
theorem s223_45 {d : Nat} {ls : mj_L} {st : List Value} {M : mj_H} : mj_Rn d mj_m223 45 ls st M = mq_k0 d mj_m223 46 ls M (mj_lda (mj_lk ls 2) st) := mj_R0 (r := (.aload_n 2, 1, 0, 0, 0)) rfl rfl
theorem s223_46 {d : Nat} {ls : mj_L} {st : List Value} {M : mj_H} : mj_Rn d mj_m223 46 ls st M = mq_k0 d mj_m223 47 ls M (mj_ldi (mj_lk ls 3) st) := mj_R0 (r := (.iload_n 3, 1, 0, 0, 0)) rfl rfl
theorem s223_47 {d : Nat} {ls : mj_L} {st : List Value} {M : mj_H} : mj_Rn d mj_m223 47 ls st M = mj_Rn d mj_m223 48 ls (.int 4 :: st) M := mj_R0 (r := (.iconst 4, 1, 0, 0, 0)) rfl rfl
theorem s223_48 {d : Nat} {ls : mj_L} {st : List Value} {M : mj_H} : mj_Rn d mj_m223 48 ls st M = mq_k0 d mj_m223 49 ls M (mj_pu .iadd ls st) := mj_R0 (r := (.iadd, 1, 0, 0, 0)) rfl rfl
theorem s223_49 {d : Nat} {ls : mj_L} {st : List Value} {M : mj_H} : mj_Rn (d + 1) mj_m223 49 ls st M = mq_k5a (d + 1) mj_m223 52 ls M 14 (mq_cb 0 1 1 st M) := mj_R5e (r := (.invokevirtual 73, 3, 0, 14, 24732)) (z := mj_m14) rfl rfl (by decide) (by decide) rfl
theorem s223_52 {d : Nat} {ls : mj_L} {st : List Value} {M : mj_H} : mj_Rn d mj_m223 52 ls st M = mq_k1 d mj_m223 54 M (mj_lo 8 (.istore 7) ls st) := mj_R1 (r := (.istore 7, 2, 0, 0, 0)) rfl rfl
theorem s223_54 {d : Nat} {ls : mj_L} {st : List Value} {M : mj_H} : mj_Rn d mj_m223 54 ls st M = mq_k0 d mj_m223 56 ls M (mj_ldi (mj_lk ls 7) st) := mj_R0 (r := (.iload 7, 2, 0, 0, 0)) rfl rfl
theorem s223_56 {d : Nat} {ls : mj_L} {st : List Value} {M : mj_H} : mj_Rn d mj_m223 56 ls st M = mq_k0 d mj_m223 58 ls M (mj_ldi (mj_lk ls 4) st) := mj_R0 (r := (.iload 4, 2, 0, 0, 0)) rfl rfl
theorem s223_58 {d : Nat} {ls : mj_L} {st : List Value} {M : mj_H} : mj_Rn d mj_m223 58 ls st M = mq_k0 d mj_m223 59 ls M (mj_pu .iand ls st) := mj_R0 (r := (.iand, 1, 0, 0, 0)) rfl rfl
theorem s223_59 {d : Nat} {ls : mj_L} {st : List Value} {M : mj_H} : mj_Rn d mj_m223 59 ls st M = mq_k0 d mj_m223 61 ls M (mj_ldi (mj_lk ls 4) st) := mj_R0 (r := (.iload 4, 2, 0, 0, 0)) rfl rfl
theorem s223_61 {d : Nat} {ls : mj_L} {st : List Value} {M : mj_H} : mj_Rn d mj_m223 61 ls st M = mq_k2 d mj_m223 ls M (mj_br (.if_icmp .eq 6) 61 st) := mj_R2 (r := (.if_icmp .eq 6, 3, 0, 0, 0)) rfl rfl
theorem s223_64 {d : Nat} {ls : mj_L} {st : List Value} {M : mj_H} : mj_Rn d mj_m223 64 ls st M = mj_Rn d mj_m223 66 ls (.int 6 :: st) M := mj_R0 (r := (.bipush 6, 2, 0, 0, 0)) rfl rfl
theorem s223_66 {d : Nat} {ls : mj_L} {st : List Value} {M : mj_H} : mj_Rn d mj_m223 66 ls st M = mq_k6 M (mj_re (some .int) (.ireturn) st) := mj_R6 (r := (.ireturn, 1, 0, 0, 0)) rfl rfl
theorem s223_67 {d : Nat} {ls : mj_L} {st : List Value} {M : mj_H} : mj_Rn d mj_m223 67 ls st M = mq_k0 d mj_m223 69 ls M (mj_ldi (mj_lk ls 5) st) := mj_R0 (r := (.iload 5, 2, 0, 0, 0)) rfl rfl
theorem s223_69 {d : Nat} {ls : mj_L} {st : List Value} {M : mj_H} : mj_Rn d mj_m223 69 ls st M = mq_k2 d mj_m223 ls M (mj_br (.ifCond .eq 15) 69 st) := mj_R2 (r := (.ifCond .eq 15, 3, 0, 0, 0)) rfl rfl
theorem s223_72 {d : Nat} {ls : mj_L} {st : List Value} {M : mj_H} : mj_Rn d mj_m223 72 ls st M = mq_k0 d mj_m223 74 ls M (mj_ldi (mj_lk ls 7) st) := mj_R0 (r := (.iload 7, 2, 0, 0, 0)) rfl rfl
theorem s223_74 {d : Nat} {ls : mj_L} {st : List Value} {M : mj_H} : mj_Rn d mj_m223 74 ls st M = mj_Rn d mj_m223 75 ls (.int 4 :: st) M := mj_R0 (r := (.iconst 4, 1, 0, 0, 0)) rfl rfl
theorem s223_75 {d : Nat} {ls : mj_L} {st : List Value} {M : mj_H} : mj_Rn d mj_m223 75 ls st M = mq_k0 d mj_m223 76 ls M (mj_pu .iand ls st) := mj_R0 (r := (.iand, 1, 0, 0, 0)) rfl rfl
theorem s223_76 {d : Nat} {ls : mj_L} {st : List Value} {M : mj_H} : mj_Rn d mj_m223 76 ls st M = mq_k2 d mj_m223 ls M (mj_br (.ifCond .ne 8) 76 st) := mj_R2 (r := (.ifCond .ne 8, 3, 0, 0, 0)) rfl rfl
theorem s223_79 {d : Nat} {ls : mj_L} {st : List Value} {M : mj_H} : mj_Rn d mj_m223 79 ls st M = mj_Rn d mj_m223 81 ls (.int 7 :: st) M := mj_R0 (r := (.bipush 7, 2, 0, 0, 0)) rfl rfl
theorem s223_81 {d : Nat} {ls : mj_L} {st : List Value} {M : mj_H} : mj_Rn d mj_m223 81 ls st M = mj_Rn d mj_m223 85 ls st M := mj_R2 (r := (.goto 4, 3, 0, 0, 0)) rfl rfl
theorem s223_84 {d : Nat} {ls : mj_L} {st : List Value} {M : mj_H} : mj_Rn d mj_m223 84 ls st M = mj_Rn d mj_m223 85 ls (.int 0 :: st) M := mj_R0 (r := (.iconst 0, 1, 0, 0, 0)) rfl rfl
theorem s223_85 {d : Nat} {ls : mj_L} {st : List Value} {M : mj_H} : mj_Rn d mj_m223 85 ls st M = mq_k6 M (mj_re (some .int) (.ireturn) st) := mj_R6 (r := (.ireturn, 1, 0, 0, 0)) rfl rfl
/- 224 PasskeyHouse$Party.isSigned(LPasskeyHouse$Terms;LPasskeyHouse$Bytes;III)Z -/
theorem s224_0 {d : Nat} {ls : mj_L} {st : List Value} {M : mj_H} : mj_Rn d mj_m224 0 ls st M = mq_k0 d mj_m224 1 ls M (mj_lda (mj_lk ls 1) st) := mj_R0 (r := (.aload_n 1, 1, 0, 0, 0)) rfl rfl
theorem s224_1 {d : Nat} {ls : mj_L} {st : List Value} {M : mj_H} : mj_Rn d mj_m224 1 ls st M = mj_Rn d mj_m224 3 ls (.int 7 :: st) M := mj_R0 (r := (.bipush 7, 2, 0, 0, 0)) rfl rfl
theorem s224_3 {d : Nat} {ls : mj_L} {st : List Value} {M : mj_H} : mj_Rn (d + 1) mj_m224 3 ls st M = mq_k5a (d + 1) mj_m224 6 ls M 28 (mq_cb 0 1 9 st M) := mj_R5e (r := (.invokevirtual 154, 3, 0, 28, 24753)) (z := mj_m28) rfl rfl (by decide) (by decide) rfl
theorem s224_6 {d : Nat} {ls : mj_L} {st : List Value} {M : mj_H} : mj_Rn d mj_m224 6 ls st M = mq_k0 d mj_m224 7 ls M (mj_lda (mj_lk ls 1) st) := mj_R0 (r := (.aload_n 1, 1, 0, 0, 0)) rfl rfl
theorem s224_7 {d : Nat} {ls : mj_L} {st : List Value} {M : mj_H} : mj_Rn d mj_m224 7 ls st M = mq_k0 d mj_m224 8 ls M (mj_lda (mj_lk ls 2) st) := mj_R0 (r := (.aload_n 2, 1, 0, 0, 0)) rfl rfl
theorem s224_8 {d : Nat} {ls : mj_L} {st : List Value} {M : mj_H} : mj_Rn d mj_m224 8 ls st M = mj_Rn d mj_m224 9 ls (.int 0 :: st) M := mj_R0 (r := (.iconst 0, 1, 0, 0, 0)) rfl rfl
theorem s224_9 {d : Nat} {ls : mj_L} {st : List Value} {M : mj_H} : mj_Rn d mj_m224 9 ls st M = mj_Rn d mj_m224 10 ls (.int 5 :: st) M := mj_R0 (r := (.iconst 5, 1, 0, 0, 0)) rfl rfl
theorem s224_10 {d : Nat} {ls : mj_L} {st : List Value} {M : mj_H} : mj_Rn (d + 1) mj_m224 10 ls st M = mq_k5a (d + 1) mj_m224 13 ls M 113 (mq_cb 0 3 9 st M) := mj_R5e (r := (.invokevirtual 157, 3, 0, 113, 24754)) (z := mj_m113) rfl rfl (by decide) (by decide) rfl
theorem s224_13 {d : Nat} {ls : mj_L} {st : List Value} {M : mj_H} : mj_Rn d mj_m224 13 ls st M = mq_k0 d mj_m224 14 ls M (mj_lda (mj_lk ls 1) st) := mj_R0 (r := (.aload_n 1, 1, 0, 0, 0)) rfl rfl
theorem s224_14 {d : Nat} {ls : mj_L} {st : List Value} {M : mj_H} : mj_Rn d mj_m224 14 ls st M = mq_k0 d mj_m224 15 ls M (mj_lda (mj_lk ls 0) st) := mj_R0 (r := (.aload_n 0, 1, 0, 0, 0)) rfl rfl
theorem s224_15 {d : Nat} {ls : mj_L} {st : List Value} {M : mj_H} : mj_Rn d mj_m224 15 ls st M = mq_k0 d mj_m224 18 ls M (mq_gf 7 0 st M) := (mj_R3 (r := (.getfield 14, 3, 7, 0, 49358)) rfl rfl).trans (congrArg (mq_k0 d mj_m224 18 ls M) mq_gf_eq)
theorem s224_18 {d : Nat} {ls : mj_L} {st : List Value} {M : mj_H} : mj_Rn d mj_m224 18 ls st M = mj_Rn d mj_m224 19 ls (.int 0 :: st) M := mj_R0 (r := (.iconst 0, 1, 0, 0, 0)) rfl rfl
theorem s224_19 {d : Nat} {ls : mj_L} {st : List Value} {M : mj_H} : mj_Rn d mj_m224 19 ls st M = mq_k0 d mj_m224 20 ls M (mj_lda (mj_lk ls 0) st) := mj_R0 (r := (.aload_n 0, 1, 0, 0, 0)) rfl rfl
theorem s224_20 {d : Nat} {ls : mj_L} {st : List Value} {M : mj_H} : mj_Rn d mj_m224 20 ls st M = mq_k0 d mj_m224 23 ls M (mq_gf 7 0 st M) := (mj_R3 (r := (.getfield 14, 3, 7, 0, 49358)) rfl rfl).trans (congrArg (mq_k0 d mj_m224 23 ls M) mq_gf_eq)
theorem s224_23 {d : Nat} {ls : mj_L} {st : List Value} {M : mj_H} : mj_Rn (d + 1) mj_m224 23 ls st M = mq_k5a (d + 1) mj_m224 26 ls M 9 (mq_cb 0 0 1 st M) := mj_R5e (r := (.invokevirtual 80, 3, 0, 9, 24743)) (z := mj_m9) rfl rfl (by decide) (by decide) rfl
theorem s224_26 {d : Nat} {ls : mj_L} {st : List Value} {M : mj_H} : mj_Rn (d + 1) mj_m224 26 ls st M = mq_k5a (d + 1) mj_m224 29 ls M 113 (mq_cb 0 3 9 st M) := mj_R5e (r := (.invokevirtual 157, 3, 0, 113, 24754)) (z := mj_m113) rfl rfl (by decide) (by decide) rfl
theorem s224_29 {d : Nat} {ls : mj_L} {st : List Value} {M : mj_H} : mj_Rn d mj_m224 29 ls st M = mq_k0 d mj_m224 30 ls M (mj_lda (mj_lk ls 1) st) := mj_R0 (r := (.aload_n 1, 1, 0, 0, 0)) rfl rfl
theorem s224_30 {d : Nat} {ls : mj_L} {st : List Value} {M : mj_H} : mj_Rn (d + 1) mj_m224 30 ls st M = mq_k5a (d + 1) mj_m224 33 ls M 31 (mq_cb 0 0 9 st M) := mj_R5e (r := (.invokevirtual 161, 3, 0, 31, 24755)) (z := mj_m31) rfl rfl (by decide) (by decide) rfl
theorem s224_33 {d : Nat} {ls : mj_L} {st : List Value} {M : mj_H} : mj_Rn d mj_m224 33 ls st M = mq_k1 d mj_m224 35 M (mj_lo 8 (.istore 6) ls st) := mj_R1 (r := (.istore 6, 2, 0, 0, 0)) rfl rfl
theorem s224_35 {d : Nat} {ls : mj_L} {st : List Value} {M : mj_H} : mj_Rn d mj_m224 35 ls st M = mq_k0 d mj_m224 37 ls M (mj_ldi (mj_lk ls 6) st) := mj_R0 (r := (.iload 6, 2, 0, 0, 0)) rfl rfl
theorem s224_37 {d : Nat} {ls : mj_L} {st : List Value} {M : mj_H} : mj_Rn d mj_m224 37 ls st M = mq_k2 d mj_m224 ls M (mj_br (.ifCond .ne 5) 37 st) := mj_R2 (r := (.ifCond .ne 5, 3, 0, 0, 0)) rfl rfl
theorem s224_40 {d : Nat} {ls : mj_L} {st : List Value} {M : mj_H} : mj_Rn d mj_m224 40 ls st M = mj_Rn d mj_m224 41 ls (.int 0 :: st) M := mj_R0 (r := (.iconst 0, 1, 0, 0, 0)) rfl rfl
theorem s224_41 {d : Nat} {ls : mj_L} {st : List Value} {M : mj_H} : mj_Rn d mj_m224 41 ls st M = mq_k6 M (mj_re (some .boolean) (.ireturn) st) := mj_R6 (r := (.ireturn, 1, 0, 0, 0)) rfl rfl
theorem s224_42 {d : Nat} {ls : mj_L} {st : List Value} {M : mj_H} : mj_Rn d mj_m224 42 ls st M = mq_k0 d mj_m224 43 ls M (mj_lda (mj_lk ls 1) st) := mj_R0 (r := (.aload_n 1, 1, 0, 0, 0)) rfl rfl
theorem s224_43 {d : Nat} {ls : mj_L} {st : List Value} {M : mj_H} : mj_Rn d mj_m224 43 ls st M = mj_Rn d mj_m224 45 ls (.int 6 :: st) M := mj_R0 (r := (.bipush 6, 2, 0, 0, 0)) rfl rfl
theorem s224_45 {d : Nat} {ls : mj_L} {st : List Value} {M : mj_H} : mj_Rn (d + 1) mj_m224 45 ls st M = mq_k5a (d + 1) mj_m224 48 ls M 28 (mq_cb 0 1 9 st M) := mj_R5e (r := (.invokevirtual 154, 3, 0, 28, 24753)) (z := mj_m28) rfl rfl (by decide) (by decide) rfl
theorem s224_48 {d : Nat} {ls : mj_L} {st : List Value} {M : mj_H} : mj_Rn d mj_m224 48 ls st M = mq_k0 d mj_m224 49 ls M (mj_lda (mj_lk ls 1) st) := mj_R0 (r := (.aload_n 1, 1, 0, 0, 0)) rfl rfl
theorem s224_49 {d : Nat} {ls : mj_L} {st : List Value} {M : mj_H} : mj_Rn d mj_m224 49 ls st M = mq_k0 d mj_m224 51 ls M (mj_ldi (mj_lk ls 4) st) := mj_R0 (r := (.iload 4, 2, 0, 0, 0)) rfl rfl
theorem s224_51 {d : Nat} {ls : mj_L} {st : List Value} {M : mj_H} : mj_Rn (d + 1) mj_m224 51 ls st M = mq_k5a (d + 1) mj_m224 54 ls M 29 (mq_cb 0 1 9 st M) := mj_R5e (r := (.invokevirtual 164, 3, 0, 29, 24761)) (z := mj_m29) rfl rfl (by decide) (by decide) rfl
theorem s224_54 {d : Nat} {ls : mj_L} {st : List Value} {M : mj_H} : mj_Rn d mj_m224 54 ls st M = mq_k0 d mj_m224 55 ls M (mj_lda (mj_lk ls 1) st) := mj_R0 (r := (.aload_n 1, 1, 0, 0, 0)) rfl rfl
theorem s224_55 {d : Nat} {ls : mj_L} {st : List Value} {M : mj_H} : mj_Rn d mj_m224 55 ls st M = mq_k0 d mj_m224 56 ls M (mj_lda (mj_lk ls 2) st) := mj_R0 (r := (.aload_n 2, 1, 0, 0, 0)) rfl rfl
theorem s224_56 {d : Nat} {ls : mj_L} {st : List Value} {M : mj_H} : mj_Rn d mj_m224 56 ls st M = mq_k0 d mj_m224 57 ls M (mj_ldi (mj_lk ls 3) st) := mj_R0 (r := (.iload_n 3, 1, 0, 0, 0)) rfl rfl
theorem s224_57 {d : Nat} {ls : mj_L} {st : List Value} {M : mj_H} : mj_Rn d mj_m224 57 ls st M = mq_k0 d mj_m224 59 ls M (mj_ldi (mj_lk ls 5) st) := mj_R0 (r := (.iload 5, 2, 0, 0, 0)) rfl rfl
theorem s224_59 {d : Nat} {ls : mj_L} {st : List Value} {M : mj_H} : mj_Rn (d + 1) mj_m224 59 ls st M = mq_k5a (d + 1) mj_m224 62 ls M 113 (mq_cb 0 3 9 st M) := mj_R5e (r := (.invokevirtual 157, 3, 0, 113, 24754)) (z := mj_m113) rfl rfl (by decide) (by decide) rfl
theorem s224_62 {d : Nat} {ls : mj_L} {st : List Value} {M : mj_H} : mj_Rn d mj_m224 62 ls st M = mq_k0 d mj_m224 63 ls M (mj_lda (mj_lk ls 1) st) := mj_R0 (r := (.aload_n 1, 1, 0, 0, 0)) rfl rfl
theorem s224_63 {d : Nat} {ls : mj_L} {st : List Value} {M : mj_H} : mj_Rn d mj_m224 63 ls st M = mq_k0 d mj_m224 65 ls M (mj_ldi (mj_lk ls 6) st) := mj_R0 (r := (.iload 6, 2, 0, 0, 0)) rfl rfl
theorem s224_65 {d : Nat} {ls : mj_L} {st : List Value} {M : mj_H} : mj_Rn (d + 1) mj_m224 65 ls st M = mq_k5a (d + 1) mj_m224 68 ls M 122 (mq_cb 0 1 9 st M) := mj_R5e (r := (.invokevirtual 167, 3, 0, 122, 24762)) (z := mj_m122) rfl rfl (by decide) (by decide) rfl
theorem s224_68 {d : Nat} {ls : mj_L} {st : List Value} {M : mj_H} : mj_Rn d mj_m224 68 ls st M = mq_k0 d mj_m224 69 ls M (mj_lda (mj_lk ls 1) st) := mj_R0 (r := (.aload_n 1, 1, 0, 0, 0)) rfl rfl
theorem s224_69 {d : Nat} {ls : mj_L} {st : List Value} {M : mj_H} : mj_Rn (d + 1) mj_m224 69 ls st M = mq_k5a (d + 1) mj_m224 72 ls M 31 (mq_cb 0 0 9 st M) := mj_R5e (r := (.invokevirtual 161, 3, 0, 31, 24755)) (z := mj_m31) rfl rfl (by decide) (by decide) rfl
theorem s224_72 {d : Nat} {ls : mj_L} {st : List Value} {M : mj_H} : mj_Rn d mj_m224 72 ls st M = mq_k1 d mj_m224 74 M (mj_lo 8 (.istore 7) ls st) := mj_R1 (r := (.istore 7, 2, 0, 0, 0)) rfl rfl
theorem s224_74 {d : Nat} {ls : mj_L} {st : List Value} {M : mj_H} : mj_Rn d mj_m224 74 ls st M = mq_k0 d mj_m224 76 ls M (mj_ldi (mj_lk ls 7) st) := mj_R0 (r := (.iload 7, 2, 0, 0, 0)) rfl rfl
theorem s224_76 {d : Nat} {ls : mj_L} {st : List Value} {M : mj_H} : mj_Rn d mj_m224 76 ls st M = mq_k2 d mj_m224 ls M (mj_br (.ifCond .eq 20) 76 st) := mj_R2 (r := (.ifCond .eq 20, 3, 0, 0, 0)) rfl rfl
theorem s224_79 {d : Nat} {ls : mj_L} {st : List Value} {M : mj_H} : mj_Rn d mj_m224 79 ls st M = mq_k0 d mj_m224 81 ls M (mj_ldi (mj_lk ls 7) st) := mj_R0 (r := (.iload 7, 2, 0, 0, 0)) rfl rfl
theorem s224_81 {d : Nat} {ls : mj_L} {st : List Value} {M : mj_H} : mj_Rn d mj_m224 81 ls st M = mq_k0 d mj_m224 82 ls M (mj_lda (mj_lk ls 2) st) := mj_R0 (r := (.aload_n 2, 1, 0, 0, 0)) rfl rfl
theorem s224_82 {d : Nat} {ls : mj_L} {st : List Value} {M : mj_H} : mj_Rn d mj_m224 82 ls st M = mq_k0 d mj_m224 83 ls M (mj_ldi (mj_lk ls 3) st) := mj_R0 (r := (.iload_n 3, 1, 0, 0, 0)) rfl rfl
theorem s224_83 {d : Nat} {ls : mj_L} {st : List Value} {M : mj_H} : mj_Rn d mj_m224 83 ls st M = mq_k0 d mj_m224 85 ls M (mj_ldi (mj_lk ls 5) st) := mj_R0 (r := (.iload 5, 2, 0, 0, 0)) rfl rfl
theorem s224_85 {d : Nat} {ls : mj_L} {st : List Value} {M : mj_H} : mj_Rn d mj_m224 85 ls st M = mq_k0 d mj_m224 86 ls M (mj_pu .iadd ls st) := mj_R0 (r := (.iadd, 1, 0, 0, 0)) rfl rfl
theorem s224_86 {d : Nat} {ls : mj_L} {st : List Value} {M : mj_H} : mj_Rn (d + 1) mj_m224 86 ls st M = mq_k5a (d + 1) mj_m224 89 ls M 53 (mq_cb 0 1 1 st M) := mj_R5e (r := (.invokevirtual 69, 3, 0, 53, 24733)) (z := mj_m53) rfl rfl (by decide) (by decide) rfl
theorem s224_89 {d : Nat} {ls : mj_L} {st : List Value} {M : mj_H} : mj_Rn d mj_m224 89 ls st M = mq_k2 d mj_m224 ls M (mj_br (.if_icmp .ne 7) 89 st) := mj_R2 (r := (.if_icmp .ne 7, 3, 0, 0, 0)) rfl rfl
theorem s224_92 {d : Nat} {ls : mj_L} {st : List Value} {M : mj_H} : mj_Rn d mj_m224 92 ls st M = mj_Rn d mj_m224 93 ls (.int 1 :: st) M := mj_R0 (r := (.iconst 1, 1, 0, 0, 0)) rfl rfl
theorem s224_93 {d : Nat} {ls : mj_L} {st : List Value} {M : mj_H} : mj_Rn d mj_m224 93 ls st M = mj_Rn d mj_m224 97 ls st M := mj_R2 (r := (.goto 4, 3, 0, 0, 0)) rfl rfl
theorem s224_96 {d : Nat} {ls : mj_L} {st : List Value} {M : mj_H} : mj_Rn d mj_m224 96 ls st M = mj_Rn d mj_m224 97 ls (.int 0 :: st) M := mj_R0 (r := (.iconst 0, 1, 0, 0, 0)) rfl rfl
theorem s224_97 {d : Nat} {ls : mj_L} {st : List Value} {M : mj_H} : mj_Rn d mj_m224 97 ls st M = mq_k6 M (mj_re (some .boolean) (.ireturn) st) := mj_R6 (r := (.ireturn, 1, 0, 0, 0)) rfl rfl
theorem c223 {d : Nat} {a0 : Nat} {a1 : Nat} {a2 : Nat} {x3 : Int32} {x4 : Int32} {x5 : Int32} {M : mj_H} : mj_V (d + 1) 223 [.ref a0, .ref a1, .ref a2, .int x3, .int x4, .int x5] M = mj_Rn d mj_m223 0 [(0, .ref a0), (1, .ref a1), (2, .ref a2), (3, .int x3), (4, .int x4), (5, .int x5)] [] M := mj_V_go rfl (Nat.le_of_ble_eq_true rfl)
theorem c224 {d : Nat} {a0 : Nat} {a1 : Nat} {a2 : Nat} {x3 : Int32} {x4 : Int32} {x5 : Int32} {M : mj_H} : mj_V (d + 1) 224 [.ref a0, .ref a1, .ref a2, .int x3, .int x4, .int x5] M = mj_Rn d mj_m224 0 [(0, .ref a0), (1, .ref a1), (2, .ref a2), (3, .int x3), (4, .int x4), (5, .int x5)] [] M := mj_V_go rfl (Nat.le_of_ble_eq_true rfl)
def ofF (ch : Int32) (g : Bool) (o : Of) : Bool := decide (o.1 = ch ∧ o.2.2.1 = g)
def tkR (M : mj_H) (π : Nat) (p : Pa) (ol : List Nat) : Option Nat → Option Value × mj_H
  | none => (some .null, M)
  | some n => (some (.ref (ol.getD n 0)), (M.set (π + 5) (1008, (rot ol n (p.2.2.1.length - 1)).map Value.ref)).set π (po π ((p.1, (p.2.1, (p.2.2.1.eraseIdx n, (p.2.2.2.1, (p.2.2.2.2.1, p.2.2.2.2.2))))) : Pa)))
theorem tkR_s {M : mj_H} {π : Nat} {p : Pa} {ol : List Nat} {n : Nat} : tkR M π p ol (some n) = (some (.ref (ol.getD n 0)), (M.set (π + 5) (1008, (rot ol n (p.2.2.1.length - 1)).map Value.ref)).set π (po π ((p.1, (p.2.1, (p.2.2.1.eraseIdx n, (p.2.2.2.1, (p.2.2.2.2.1, p.2.2.2.2.2))))) : Pa))) := rfl
section HZ
variable {M M' : mj_H} {H H' : Ho} {κs πs : List Nat} {row row' ms : List Int32} {d : Nat} {i l : Int32} {π : Nat} {p : Pa} {u t : List Int32} {A : Nat → Prop} {T : Tm}
theorem l_take (h : pz M π p) {ol : List Nat} (o1 : ol.length = 4) (o2 : M[π + 5]? = some (1008, ol.map Value.ref)) (o3 : ∀ x ∈ ol, π + 6 ≤ x ∧ x ≤ π + 9) (o5 : ∀ (i : Nat) (o : Of) (x : Nat), p.2.2.1[i]? = some o → ol[i]? = some x → M[x]? = some (oc o)) (o6 : ∀ x ∈ ol, ∃ (a : Int32) (b : Int64) (c d e : Int32), M[x]? = some (6, [.int a, .long b, .int c, .int d, .int e])) (ch kd : Int32) (g : Bool) (hkd : ∀ o : Of, ((if o.2.2.1 = true then (2 : Int32) else 1) = kd) ↔ o.2.2.1 = g) : ∀ (m k : Nat), k + m = p.2.2.1.length → mj_Rn (d + 2) mj_m220 2 [(3, .int (nI k)), (0, .ref π), (1, .int ch), (2, .int kd)] [] M = some (tkR M π p ol (((p.2.2.1.drop k).findIdx? (ofF ch g)).map (· + k))) := by
  have xp := h.ob
  have l4 := h.l4
  have e1 : (ol.map Value.ref).length = 4 := by simp [o1]
  intro m
  induction m with
  | zero =>
    intro k hk
    rw [List.drop_eq_nil_of_le (by omega), List.findIdx?_nil]
    have e : k = p.2.2.1.length := by omega
    subst e
    simp (disch := (first | omega | decide)) [s220_0, s220_1, s220_2, s220_3, s220_4, s220_7, s220_10, s220_11, s220_12, s220_15, s220_16, s220_19, s220_20, s220_23, s220_24, s220_25, s220_27, s220_29, s220_32, s220_34, s220_37, s220_38, s220_41, s220_43, s220_46, s220_47, s220_50, s220_51, s220_52, s220_55, s220_57, s220_58, s220_61, s220_64, s220_65, mq_k0s, mq_k1s, mq_k2s, mq_k4s, mq_k5s, mq_k5n, mq_k5as, mq_k6s, mj_pu, mj_lo, mj_br, mj_hr, mj_hw, mq_gf, mq_len, mq_al, mq_pf, mq_ok, mj_re, mq_lkm, mq_lkn, mj_ldi, mj_ldl, mj_lda, mj_ii, mj_ll, mj_li, mj_i1, ms_1, ms_2, f1_n, f1_i, f1_r, f1_u, f1_l, f2_n, f2_i, f2_r, f2_u, f2_l, mj_tg, mj_c1, mj_c2, mj_ar, mj_aw, mq_cb, mq_oi, mj_rm, Value.category, -getElem?_pos, List.getElem?_cons_zero, decide_eq_true, decide_eq_false, nl_lt, nl_le, ln_lt, ln_le, nl_eq, ln_eq, nl_add, ln_add, nl_sub, ln_mul, nI_sub, nI_mul, nI_add, nI_lt_iff, nI_le_iff, nI_inj, nI_num, mq_ix, nI_1, nl_mul, nl_div, xp, narrow, tkR]
  | succ m ih =>
    intro k hk
    have hkl : k < p.2.2.1.length := by omega
    have hko : k < ol.length := by omega
    have hcx := o5 k _ _ (List.getElem?_eq_getElem hkl) (List.getElem?_eq_getElem hko)
    have hrem := j_rem (d := d) h o1 o2 o3 o6 hkl
    have e2 : (ol.map Value.ref)[k]? = some (.ref ol[k]) := by rw [List.getElem?_map, List.getElem?_eq_getElem hko]; rfl
    have r1 := ih (k + 1) (by omega)
    have eg : ol.getD k 0 = ol[k] := by rw [List.getD_eq_getElem?_getD, List.getElem?_eq_getElem hko]; rfl
    have hO2 := hkd p.2.2.1[k]
    have ef : ((p.2.2.1.drop k).findIdx? (ofF ch g)).map (· + k) = if p.2.2.1[k].1 = ch ∧ p.2.2.1[k].2.2.1 = g then some k else ((p.2.2.1.drop (k + 1)).findIdx? (ofF ch g)).map (· + (k + 1)) := by
      rw [List.drop_eq_getElem_cons hkl, List.findIdx?_cons]
      by_cases hq : p.2.2.1[k].1 = ch ∧ p.2.2.1[k].2.2.1 = g
      · rw [if_pos hq, if_pos (by simpa [ofF] using hq)]; simp
      · rw [if_neg hq, if_neg (by simpa [ofF] using hq), Option.map_map]
        congr 1
        funext n
        show n + 1 + k = n + (k + 1)
        omega
    rw [ef]
    generalize p.2.2.1[k] = O at *
    generalize ol[k] = x at *
    unfold oc at hcx
    generalize hk2 : (if O.2.2.1 = true then (2 : Int32) else 1) = k2 at *
    have trR : ∀ o, tkR M π p ol o = tkR M π p ol o := fun _ => rfl
    rw [s220_2]
    by_cases q1 : O.1 = ch
    · by_cases q2 : O.2.2.1 = g
      · have q3 := hO2.mpr q2
        rw [if_pos ⟨q1, q2⟩]
        rw [tkR_s, eg]
        generalize ol.map Value.ref = zs at *
        simp (disch := (first | omega | decide)) [s220_0, s220_1, s220_3, s220_4, s220_7, s220_10, s220_11, s220_12, s220_15, s220_16, s220_19, s220_20, s220_23, s220_24, s220_25, s220_27, s220_29, s220_32, s220_34, s220_37, s220_38, s220_41, s220_43, s220_46, s220_47, s220_50, s220_51, s220_52, s220_55, s220_57, s220_58, s220_61, s220_64, s220_65, mq_k0s, mq_k1s, mq_k2s, mq_k4s, mq_k5s, mq_k5n, mq_k5as, mq_k6s, mj_pu, mj_lo, mj_br, mj_hr, mj_hw, mq_gf, mq_len, mq_al, mq_pf, mq_ok, mj_re, mq_lkm, mq_lkn, mj_ldi, mj_ldl, mj_lda, mj_ii, mj_ll, mj_li, mj_i1, ms_1, ms_2, f1_n, f1_i, f1_r, f1_u, f1_l, f2_n, f2_i, f2_r, f2_u, f2_l, mj_tg, mj_c1, mj_c2, mj_ar, mj_aw, mq_cb, mq_oi, mj_rm, Value.category, -getElem?_pos, List.getElem?_cons_zero, decide_eq_true, decide_eq_false, nl_lt, nl_le, ln_lt, ln_le, nl_eq, ln_eq, nl_add, ln_add, nl_sub, ln_mul, nI_sub, nI_mul, nI_add, nI_lt_iff, nI_le_iff, nI_inj, nI_num, mq_ix, nI_1, nl_mul, nl_div, xp, o2, e1, e2, hcx, q1, q3, hrem, narrow]
      · have q3 : ¬ k2 = kd := fun h => q2 (hO2.mp h)
        rw [if_neg (fun h => q2 h.2)]
        generalize ol.map Value.ref = zs at *
        simp (disch := (first | omega | decide)) [s220_0, s220_1, s220_3, s220_4, s220_7, s220_10, s220_11, s220_12, s220_15, s220_16, s220_19, s220_20, s220_23, s220_24, s220_25, s220_27, s220_29, s220_32, s220_34, s220_37, s220_38, s220_41, s220_43, s220_46, s220_47, s220_50, s220_51, s220_52, s220_55, s220_57, s220_58, s220_61, s220_64, s220_65, mq_k0s, mq_k1s, mq_k2s, mq_k4s, mq_k5s, mq_k5n, mq_k5as, mq_k6s, mj_pu, mj_lo, mj_br, mj_hr, mj_hw, mq_gf, mq_len, mq_al, mq_pf, mq_ok, mj_re, mq_lkm, mq_lkn, mj_ldi, mj_ldl, mj_lda, mj_ii, mj_ll, mj_li, mj_i1, ms_1, ms_2, f1_n, f1_i, f1_r, f1_u, f1_l, f2_n, f2_i, f2_r, f2_u, f2_l, mj_tg, mj_c1, mj_c2, mj_ar, mj_aw, mq_cb, mq_oi, mj_rm, Value.category, -getElem?_pos, List.getElem?_cons_zero, decide_eq_true, decide_eq_false, nl_lt, nl_le, ln_lt, ln_le, nl_eq, ln_eq, nl_add, ln_add, nl_sub, ln_mul, nI_sub, nI_mul, nI_add, nI_lt_iff, nI_le_iff, nI_inj, nI_num, mq_ix, nI_1, nl_mul, nl_div, xp, o2, e1, e2, hcx, q1, q3]
        refine mq_wk ?_ r1
        simp [mq_sub, mj_lk]
    · rw [if_neg (fun h => q1 h.1)]
      generalize ol.map Value.ref = zs at *
      simp (disch := (first | omega | decide)) [s220_0, s220_1, s220_3, s220_4, s220_7, s220_10, s220_11, s220_12, s220_15, s220_16, s220_19, s220_20, s220_23, s220_24, s220_25, s220_27, s220_29, s220_32, s220_34, s220_37, s220_38, s220_41, s220_43, s220_46, s220_47, s220_50, s220_51, s220_52, s220_55, s220_57, s220_58, s220_61, s220_64, s220_65, mq_k0s, mq_k1s, mq_k2s, mq_k4s, mq_k5s, mq_k5n, mq_k5as, mq_k6s, mj_pu, mj_lo, mj_br, mj_hr, mj_hw, mq_gf, mq_len, mq_al, mq_pf, mq_ok, mj_re, mq_lkm, mq_lkn, mj_ldi, mj_ldl, mj_lda, mj_ii, mj_ll, mj_li, mj_i1, ms_1, ms_2, f1_n, f1_i, f1_r, f1_u, f1_l, f2_n, f2_i, f2_r, f2_u, f2_l, mj_tg, mj_c1, mj_c2, mj_ar, mj_aw, mq_cb, mq_oi, mj_rm, Value.category, -getElem?_pos, List.getElem?_cons_zero, decide_eq_true, decide_eq_false, nl_lt, nl_le, ln_lt, ln_le, nl_eq, ln_eq, nl_add, ln_add, nl_sub, ln_mul, nI_sub, nI_mul, nI_add, nI_lt_iff, nI_le_iff, nI_inj, nI_num, mq_ix, nI_1, nl_mul, nl_div, xp, o2, e1, e2, hcx, q1]
      refine mq_wk ?_ r1
      simp [mq_sub, mj_lk]
/-- an offer is met, or none -/
theorem h_takeO (z : hz M H κs πs row) {j : Nat} (hp : H.2.2.2.2[j]? = some p) (hπ : πs[j]? = some π) (ch kd : Int32) (g : Bool) (hkd : ∀ o : Of, ((if o.2.2.1 = true then (2 : Int32) else 1) = kd) ↔ o.2.2.1 = g) : (p.2.2.1.findIdx? (ofF ch g) = none ∧ mj_V (d + 3) 220 [.ref π, .int ch, .int kd] M = some (some .null, M)) ∨ ∃ (k : Nat) (o : Of) (x : Nat) (M' : mj_H), p.2.2.1.findIdx? (ofF ch g) = some k ∧ p.2.2.1[k]? = some o ∧ mj_V (d + 3) 220 [.ref π, .int ch, .int kd] M = some (some (.ref x), M') ∧ hz M' (H.pt j ((p.1, (p.2.1, (p.2.2.1.eraseIdx k, (p.2.2.2.1, (p.2.2.2.2.1, p.2.2.2.2.2))))) : Pa)) κs πs row ∧ hf M M' ∧ M'[x]? = some (oc o) ∧ π + 6 ≤ x ∧ x ≤ π + 9 := by
  have h := z.py j p π hp hπ
  have hlo := h.lo
  obtain ⟨ol, o1, o2, o3, o4, o5, o6⟩ := h.oa
  have r := l_take (d := d) h o1 o2 o3 o5 o6 ch kd g hkd p.2.2.1.length 0 (by omega)
  simp only [List.drop_zero, Nat.add_zero, Option.map_id', nI_0] at r
  have rv : mj_V (d + 3) 220 [.ref π, .int ch, .int kd] M = some (tkR M π p ol (p.2.2.1.findIdx? (ofF ch g))) := by
    simp (disch := (first | omega | decide)) [c220, s220_0, s220_1, s220_3, s220_4, s220_7, s220_10, s220_11, s220_12, s220_15, s220_16, s220_19, s220_20, s220_23, s220_24, s220_25, s220_27, s220_29, s220_32, s220_34, s220_37, s220_38, s220_41, s220_43, s220_46, s220_47, s220_50, s220_51, s220_52, s220_55, s220_57, s220_58, s220_61, s220_64, s220_65, mq_k0s, mq_k1s, mq_k2s, mq_k4s, mq_k5s, mq_k5n, mq_k5as, mq_k6s, mj_pu, mj_lo, mj_br, mj_hr, mj_hw, mq_gf, mq_len, mq_al, mq_pf, mq_ok, mj_re, mq_lkm, mq_lkn, mj_ldi, mj_ldl, mj_lda, mj_ii, mj_ll, mj_li, mj_i1, ms_1, ms_2, f1_n, f1_i, f1_r, f1_u, f1_l, f2_n, f2_i, f2_r, f2_u, f2_l, mj_tg, mj_c1, mj_c2, mj_ar, mj_aw, mq_cb, mq_oi, mj_rm, Value.category, -getElem?_pos, List.getElem?_cons_zero, decide_eq_true, decide_eq_false, nl_lt, nl_le, ln_lt, ln_le, nl_eq, ln_eq, nl_add, ln_add, nl_sub, ln_mul, nI_sub, nI_mul, nI_add, nI_lt_iff, nI_le_iff, nI_inj, nI_num, mq_ix, nI_1, nl_mul, nl_div]
    exact r
  cases hf1 : p.2.2.1.findIdx? (ofF ch g) with
  | none =>
    rw [hf1] at rv
    exact Or.inl ⟨rfl, rv⟩
  | some k =>
    rw [hf1] at rv
    have hk := (List.findIdx?_eq_some_iff_getElem.mp hf1).1
    have hko : k < ol.length := by have := h.l4; omega
    have hx := o5 k _ _ (List.getElem?_eq_getElem hk) (List.getElem?_eq_getElem hko)
    have hxr := o3 _ (List.getElem_mem hko)
    have eg : ol.getD k 0 = ol[k] := by rw [List.getD_eq_getElem?_getD, List.getElem?_eq_getElem hko]; rfl
    have hz' := h.take o1 o2 o3 o4 o5 o6 hk
    generalize ol[k] = x at *
    have rl : (rot ol k (p.2.2.1.length - 1)).length = 4 := by
      have l4 := h.l4
      unfold rot
      simp
      omega
    have hgr : mj_gr M ((M.set (π + 5) (1008, (rot ol k (p.2.2.1.length - 1)).map Value.ref)).set π (po π ((p.1, (p.2.1, (p.2.2.1.eraseIdx k, (p.2.2.2.1, (p.2.2.2.2.1, p.2.2.2.2.2))))) : Pa))) := by
      have hob : (M.set (π + 5) (1008, (rot ol k (p.2.2.1.length - 1)).map Value.ref))[π]? = M[π]? := List.getElem?_set_ne (by omega)
      have gA : mj_gr M (M.set (π + 5) (1008, (rot ol k (p.2.2.1.length - 1)).map Value.ref)) := mj_gr.set o2 rfl (by simp [rl, o1])
      have gB : mj_gr (M.set (π + 5) (1008, (rot ol k (p.2.2.1.length - 1)).map Value.ref)) ((M.set (π + 5) (1008, (rot ol k (p.2.2.1.length - 1)).map Value.ref)).set π (po π ((p.1, (p.2.1, (p.2.2.1.eraseIdx k, (p.2.2.2.1, (p.2.2.2.2.1, p.2.2.2.2.2))))) : Pa))) := mj_gr.set (hob.trans h.ob) rfl rfl
      exact gA.tr gB
    obtain ⟨z1, g1⟩ := z.pback hp hπ hz' (by simp) (fun c hc => by rw [List.getElem?_set_ne (by omega), List.getElem?_set_ne (by omega)]) hgr
    have hr1 : π + 6 ≤ x ∧ x ≤ π + 9 := by omega
    refine Or.inr ⟨k, _, x, _, rfl, List.getElem?_eq_getElem hk, ?_, z1, g1, ?_, hr1.1, hr1.2⟩
    · rw [rv, tkR_s, eg]
    · rw [List.getElem?_set_ne (by omega), List.getElem?_set_ne (by omega)]; exact hx
/-- the account with an id -/
theorem l_with (h : pz M π p) (id : Int32) : ∀ (m k : Nat), k + m = p.2.2.2.1.length → mj_Rn (d + 1) mj_m225 2 [(2, .int (nI k)), (0, .ref π), (1, .int id)] [] M = some (match ((p.2.2.2.1.drop k).findIdx? (fun a => decide (a.1 = id))).map (· + k) with
    | none => (some .null, M)
    | some n => (some (.ref (π + 11 + n)), M)) := by
  have xp := h.ob
  have l8 := h.l8
  intro m
  induction m with
  | zero =>
    intro k hk
    rw [List.drop_eq_nil_of_le (by omega), List.findIdx?_nil]
    have e : k = p.2.2.2.1.length := by omega
    subst e
    simp (disch := (first | omega | decide)) [s225_0, s225_1, s225_2, s225_3, s225_4, s225_7, s225_10, s225_11, s225_12, s225_15, s225_16, s225_17, s225_20, s225_21, s225_24, s225_25, s225_28, s225_29, s225_30, s225_33, s225_36, s225_37, mq_k0s, mq_k1s, mq_k2s, mq_k4s, mq_k5s, mq_k5n, mq_k5as, mq_k6s, mj_pu, mj_lo, mj_br, mj_hr, mj_hw, mq_gf, mq_len, mq_al, mq_pf, mq_ok, mj_re, mq_lkm, mq_lkn, mj_ldi, mj_ldl, mj_lda, mj_ii, mj_ll, mj_li, mj_i1, ms_1, ms_2, f1_n, f1_i, f1_r, f1_u, f1_l, f2_n, f2_i, f2_r, f2_u, f2_l, mj_tg, mj_c1, mj_c2, mj_ar, mj_aw, mq_cb, mq_oi, mj_rm, Value.category, -getElem?_pos, List.getElem?_cons_zero, decide_eq_true, decide_eq_false, nl_lt, nl_le, ln_lt, ln_le, nl_eq, ln_eq, nl_add, ln_add, nl_sub, ln_mul, nI_sub, nI_mul, nI_add, nI_lt_iff, nI_le_iff, nI_inj, nI_num, mq_ix, nI_1, nl_mul, nl_div, xp, narrow]
  | succ m ih =>
    intro k hk
    have hkl : k < p.2.2.2.1.length := by omega
    have hcc := h.ac k _ (List.getElem?_eq_getElem hkl)
    have v1 := j_acc (d := d) h hkl
    have r1 := ih (k + 1) (by omega)
    have ef : ((p.2.2.2.1.drop k).findIdx? (fun a => decide (a.1 = id))).map (· + k) = if p.2.2.2.1[k].1 = id then some k else ((p.2.2.2.1.drop (k + 1)).findIdx? (fun a => decide (a.1 = id))).map (· + (k + 1)) := by
      rw [List.drop_eq_getElem_cons hkl, List.findIdx?_cons]
      by_cases hq : p.2.2.2.1[k].1 = id
      · simp [hq]
      · rw [if_neg hq, if_neg (by simpa using hq), Option.map_map]
        congr 1
        funext n
        show n + 1 + k = n + (k + 1)
        omega
    rw [ef]
    generalize p.2.2.2.1[k] = O at *
    unfold acc at hcc
    rw [s225_2]
    by_cases q1 : O.1 = id
    · rw [if_pos q1]
      simp (disch := (first | omega | decide)) [s225_0, s225_1, s225_3, s225_4, s225_7, s225_10, s225_11, s225_12, s225_15, s225_16, s225_17, s225_20, s225_21, s225_24, s225_25, s225_28, s225_29, s225_30, s225_33, s225_36, s225_37, mq_k0s, mq_k1s, mq_k2s, mq_k4s, mq_k5s, mq_k5n, mq_k5as, mq_k6s, mj_pu, mj_lo, mj_br, mj_hr, mj_hw, mq_gf, mq_len, mq_al, mq_pf, mq_ok, mj_re, mq_lkm, mq_lkn, mj_ldi, mj_ldl, mj_lda, mj_ii, mj_ll, mj_li, mj_i1, ms_1, ms_2, f1_n, f1_i, f1_r, f1_u, f1_l, f2_n, f2_i, f2_r, f2_u, f2_l, mj_tg, mj_c1, mj_c2, mj_ar, mj_aw, mq_cb, mq_oi, mj_rm, Value.category, -getElem?_pos, List.getElem?_cons_zero, decide_eq_true, decide_eq_false, nl_lt, nl_le, ln_lt, ln_le, nl_eq, ln_eq, nl_add, ln_add, nl_sub, ln_mul, nI_sub, nI_mul, nI_add, nI_lt_iff, nI_le_iff, nI_inj, nI_num, mq_ix, nI_1, nl_mul, nl_div, xp, v1, hcc, q1, narrow]
    · rw [if_neg q1]
      simp (disch := (first | omega | decide)) [s225_0, s225_1, s225_3, s225_4, s225_7, s225_10, s225_11, s225_12, s225_15, s225_16, s225_17, s225_20, s225_21, s225_24, s225_25, s225_28, s225_29, s225_30, s225_33, s225_36, s225_37, mq_k0s, mq_k1s, mq_k2s, mq_k4s, mq_k5s, mq_k5n, mq_k5as, mq_k6s, mj_pu, mj_lo, mj_br, mj_hr, mj_hw, mq_gf, mq_len, mq_al, mq_pf, mq_ok, mj_re, mq_lkm, mq_lkn, mj_ldi, mj_ldl, mj_lda, mj_ii, mj_ll, mj_li, mj_i1, ms_1, ms_2, f1_n, f1_i, f1_r, f1_u, f1_l, f2_n, f2_i, f2_r, f2_u, f2_l, mj_tg, mj_c1, mj_c2, mj_ar, mj_aw, mq_cb, mq_oi, mj_rm, Value.category, -getElem?_pos, List.getElem?_cons_zero, decide_eq_true, decide_eq_false, nl_lt, nl_le, ln_lt, ln_le, nl_eq, ln_eq, nl_add, ln_add, nl_sub, ln_mul, nI_sub, nI_mul, nI_add, nI_lt_iff, nI_le_iff, nI_inj, nI_num, mq_ix, nI_1, nl_mul, nl_div, xp, v1, hcc, q1]
      refine mq_wk ?_ r1
      simp [mq_sub, mj_lk]
theorem j_with (h : pz M π p) (id : Int32) : mj_V (d + 2) 225 [.ref π, .int id] M = some (match p.2.2.2.1.findIdx? (fun a => decide (a.1 = id)) with
    | none => (some .null, M)
    | some n => (some (.ref (π + 11 + n)), M)) := by
  have r := l_with (d := d) h id p.2.2.2.1.length 0 (by omega)
  simp only [List.drop_zero, Nat.add_zero, Option.map_id', nI_0] at r
  simp (disch := (first | omega | decide)) [c225, s225_0, s225_1, s225_3, s225_4, s225_7, s225_10, s225_11, s225_12, s225_15, s225_16, s225_17, s225_20, s225_21, s225_24, s225_25, s225_28, s225_29, s225_30, s225_33, s225_36, s225_37, mq_k0s, mq_k1s, mq_k2s, mq_k4s, mq_k5s, mq_k5n, mq_k5as, mq_k6s, mj_pu, mj_lo, mj_br, mj_hr, mj_hw, mq_gf, mq_len, mq_al, mq_pf, mq_ok, mj_re, mq_lkm, mq_lkn, mj_ldi, mj_ldl, mj_lda, mj_ii, mj_ll, mj_li, mj_i1, ms_1, ms_2, f1_n, f1_i, f1_r, f1_u, f1_l, f2_n, f2_i, f2_r, f2_u, f2_l, mj_tg, mj_c1, mj_c2, mj_ar, mj_aw, mq_cb, mq_oi, mj_rm, Value.category, -getElem?_pos, List.getElem?_cons_zero, decide_eq_true, decide_eq_false, nl_lt, nl_le, ln_lt, ln_le, nl_eq, ln_eq, nl_add, ln_add, nl_sub, ln_mul, nI_sub, nI_mul, nI_add, nI_lt_iff, nI_le_iff, nI_inj, nI_num, mq_ix, nI_1, nl_mul, nl_div]
  exact r
/-- four bytes of the response -/
theorem j_four {a b : Nat} (hb : bb M a b 400 t) {q : Nat} (hq : q + 4 ≤ t.length) : mj_V (d + 2) 53 [.ref a, .int (nI q)] M = some (some (.int (w4a t q)), M) := by
  have := hb.len
  obtain ⟨w, v, hw⟩ := v_four (d := d) hb (p := q) (by omega)
  rw [hw hq, w4_lo _ (sl_by hb.2.2.2.2.1 _ _) (by rw [sl_len (by omega)]; omega)] at v
  exact v
theorem j_byteAt {a b : Nat} (hb : bb M a b 400 t) {q : Nat} (hq : q < t.length) : mj_V (d + 1) 14 [.ref a, .int (nI q)] M = some (some (.int (nI (cbB t q))), M) := by
  have := hb.len
  have v := v_item (d := d) hb (nI q)
  rw [bt_at_nI (by omega), ms_at hb.2.2.2.2.1 hq] at v
  exact v
theorem j_df (t0 : tx A M T row) (h : pz M π p) (hb : bb M 26 27 400 t) (hPA : ∀ c, (π ≤ c ∧ c ≤ π + 18) ∨ c = 26 ∨ c = 27 → A c) {q : Nat} (hq : q + 5 ≤ t.length) (bits : Int32) (wp : Bool) : ∃ M' row', mj_V (d + 3) 223 [.ref π, .ref 30, .ref 26, .int (nI q), .int bits, .int (on1 wp)] M = some (some (.int (if tm_ix T.1 (7 :: p.2.1) = 0 ∨ w4a t q ≠ nI (tm_ix T.1 (7 :: p.2.1)) then 5 else if nI (cbB t (q + 4)) &&& bits ≠ bits then 6 else if wp = true ∧ nI (cbB t (q + 4)) &&& 4 = 0 then 7 else 0)), M') ∧ tx A M' T row' ∧ fx (na A) M M' := by
  have hbl := hb.len
  have hnl := h.nm.len
  obtain ⟨M1, p1, t1, f1⟩ := tx_begin (d := d) t0 7
  have eA : ∀ {N N' : mj_H}, tx A N T row → True := fun _ => trivial
  have s1 : ∀ c, A c → M1[c]? = M[c]? := fun c hc => f1.same c (t0.lo c hc) (fun n => n hc)
  have h1 := h.fr (fun c hc => s1 c (hPA c (Or.inl hc)))
  have v1 := v_size (d := d + 1) h1.nm
  have n1 := h1.nm.2.2.2.2.2.1
  obtain ⟨M2, p2, t2, f2⟩ := tx_addBytes (d := d) (q := 0) (n := p.2.1.length) t1 h1.nm (hPA _ (by omega)) (hPA _ (by omega)) (by omega) (by simp; omega)
  have s2 : ∀ c, A c → M2[c]? = M[c]? := fun c hc => (f2.same c (t1.lo c hc) (fun n => n hc)).trans (s1 c hc)
  have e : [7] ++ (p.2.1.drop 0).take p.2.1.length = 7 :: p.2.1 := by simp
  rw [e] at t2
  have v2 := tx_known (d := d) t2
  have hb2 := hb.fr (s2 26 (hPA _ (by omega))) (s2 27 (hPA _ (by omega)))
  have o2 := hb2.2.2.2.2.2.1
  have v3 := j_four (d := d) hb2 (q := q) (by omega)
  have v4 := j_byteAt (d := d + 1) hb2 (q := q + 4) (by omega)
  have hB := ms_by hb.2.2.2.2.1 (q + 4)
  have hix := tm_ix_le T.1 (7 :: p.2.1)
  have hfew := t0.few
  obtain ⟨P, E0, O0, x30⟩ := t0.ob
  obtain ⟨P1, E1, O1, y30⟩ := t1.ob
  obtain ⟨P2, E2, O2, z30⟩ := t2.ob
  have xp := h.ob
  have xp1 := h1.ob
  refine ⟨M2, _, ?_, t2, f1.trs f2⟩
  rw [nI_0] at p2
  generalize tm_ix T.1 (7 :: p.2.1) = X at *
  generalize w4a t q = W at *
  generalize cbB t (q + 4) = F at *
  by_cases c1 : X = 0
  · rw [if_pos (Or.inl c1)]
    subst c1
    rw [nI_0] at v2
    simp (disch := (first | omega | decide)) [c223, s223_0, s223_1, s223_3, s223_6, s223_7, s223_8, s223_11, s223_12, s223_13, s223_16, s223_19, s223_22, s223_23, s223_26, s223_28, s223_30, s223_33, s223_34, s223_35, s223_38, s223_40, s223_43, s223_44, s223_45, s223_46, s223_47, s223_48, s223_49, s223_52, s223_54, s223_56, s223_58, s223_59, s223_61, s223_64, s223_66, s223_67, s223_69, s223_72, s223_74, s223_75, s223_76, s223_79, s223_81, s223_84, s223_85, mq_k0s, mq_k1s, mq_k2s, mq_k4s, mq_k5s, mq_k5n, mq_k5as, mq_k6s, mj_pu, mj_lo, mj_br, mj_hr, mj_hw, mq_gf, mq_len, mq_al, mq_pf, mq_ok, mj_re, mq_lkm, mq_lkn, mj_ldi, mj_ldl, mj_lda, mj_ii, mj_ll, mj_li, mj_i1, ms_1, ms_2, f1_n, f1_i, f1_r, f1_u, f1_l, f2_n, f2_i, f2_r, f2_u, f2_l, mj_tg, mj_c1, mj_c2, mj_ar, mj_aw, mq_cb, mq_oi, mj_rm, Value.category, -getElem?_pos, List.getElem?_cons_zero, decide_eq_true, decide_eq_false, nl_lt, nl_le, ln_lt, ln_le, nl_eq, ln_eq, nl_add, ln_add, nl_sub, ln_mul, nI_sub, nI_mul, nI_add, nI_lt_iff, nI_le_iff, nI_inj, nI_num, mq_ix, nI_1, nl_mul, nl_div, x30, p1, y30, xp1, n1, v1, p2, z30, v2, narrow]
  by_cases c2 : W = nI X
  · rw [if_neg (by simp [c1, c2])]
    by_cases c3 : nI F &&& bits = bits
    · rw [if_neg (by simp [c3])]
      cases wp with
      | false =>
        simp (disch := (first | omega | decide)) [c223, s223_0, s223_1, s223_3, s223_6, s223_7, s223_8, s223_11, s223_12, s223_13, s223_16, s223_19, s223_22, s223_23, s223_26, s223_28, s223_30, s223_33, s223_34, s223_35, s223_38, s223_40, s223_43, s223_44, s223_45, s223_46, s223_47, s223_48, s223_49, s223_52, s223_54, s223_56, s223_58, s223_59, s223_61, s223_64, s223_66, s223_67, s223_69, s223_72, s223_74, s223_75, s223_76, s223_79, s223_81, s223_84, s223_85, mq_k0s, mq_k1s, mq_k2s, mq_k4s, mq_k5s, mq_k5n, mq_k5as, mq_k6s, mj_pu, mj_lo, mj_br, mj_hr, mj_hw, mq_gf, mq_len, mq_al, mq_pf, mq_ok, mj_re, mq_lkm, mq_lkn, mj_ldi, mj_ldl, mj_lda, mj_ii, mj_ll, mj_li, mj_i1, ms_1, ms_2, f1_n, f1_i, f1_r, f1_u, f1_l, f2_n, f2_i, f2_r, f2_u, f2_l, mj_tg, mj_c1, mj_c2, mj_ar, mj_aw, mq_cb, mq_oi, mj_rm, Value.category, -getElem?_pos, List.getElem?_cons_zero, decide_eq_true, decide_eq_false, nl_lt, nl_le, ln_lt, ln_le, nl_eq, ln_eq, nl_add, ln_add, nl_sub, ln_mul, nI_sub, nI_mul, nI_add, nI_lt_iff, nI_le_iff, nI_inj, nI_num, mq_ix, nI_1, nl_mul, nl_div, x30, p1, y30, xp1, n1, v1, p2, z30, v2, c1, o2, v3, c2, v4, c3, on1, narrow]
      | true =>
        by_cases c4 : nI F &&& 4 = 0
        · simp (disch := (first | omega | decide)) [c223, s223_0, s223_1, s223_3, s223_6, s223_7, s223_8, s223_11, s223_12, s223_13, s223_16, s223_19, s223_22, s223_23, s223_26, s223_28, s223_30, s223_33, s223_34, s223_35, s223_38, s223_40, s223_43, s223_44, s223_45, s223_46, s223_47, s223_48, s223_49, s223_52, s223_54, s223_56, s223_58, s223_59, s223_61, s223_64, s223_66, s223_67, s223_69, s223_72, s223_74, s223_75, s223_76, s223_79, s223_81, s223_84, s223_85, mq_k0s, mq_k1s, mq_k2s, mq_k4s, mq_k5s, mq_k5n, mq_k5as, mq_k6s, mj_pu, mj_lo, mj_br, mj_hr, mj_hw, mq_gf, mq_len, mq_al, mq_pf, mq_ok, mj_re, mq_lkm, mq_lkn, mj_ldi, mj_ldl, mj_lda, mj_ii, mj_ll, mj_li, mj_i1, ms_1, ms_2, f1_n, f1_i, f1_r, f1_u, f1_l, f2_n, f2_i, f2_r, f2_u, f2_l, mj_tg, mj_c1, mj_c2, mj_ar, mj_aw, mq_cb, mq_oi, mj_rm, Value.category, -getElem?_pos, List.getElem?_cons_zero, decide_eq_true, decide_eq_false, nl_lt, nl_le, ln_lt, ln_le, nl_eq, ln_eq, nl_add, ln_add, nl_sub, ln_mul, nI_sub, nI_mul, nI_add, nI_lt_iff, nI_le_iff, nI_inj, nI_num, mq_ix, nI_1, nl_mul, nl_div, x30, p1, y30, xp1, n1, v1, p2, z30, v2, c1, o2, v3, c2, v4, c3, c4, on1, narrow]
        · simp (disch := (first | omega | decide)) [c223, s223_0, s223_1, s223_3, s223_6, s223_7, s223_8, s223_11, s223_12, s223_13, s223_16, s223_19, s223_22, s223_23, s223_26, s223_28, s223_30, s223_33, s223_34, s223_35, s223_38, s223_40, s223_43, s223_44, s223_45, s223_46, s223_47, s223_48, s223_49, s223_52, s223_54, s223_56, s223_58, s223_59, s223_61, s223_64, s223_66, s223_67, s223_69, s223_72, s223_74, s223_75, s223_76, s223_79, s223_81, s223_84, s223_85, mq_k0s, mq_k1s, mq_k2s, mq_k4s, mq_k5s, mq_k5n, mq_k5as, mq_k6s, mj_pu, mj_lo, mj_br, mj_hr, mj_hw, mq_gf, mq_len, mq_al, mq_pf, mq_ok, mj_re, mq_lkm, mq_lkn, mj_ldi, mj_ldl, mj_lda, mj_ii, mj_ll, mj_li, mj_i1, ms_1, ms_2, f1_n, f1_i, f1_r, f1_u, f1_l, f2_n, f2_i, f2_r, f2_u, f2_l, mj_tg, mj_c1, mj_c2, mj_ar, mj_aw, mq_cb, mq_oi, mj_rm, Value.category, -getElem?_pos, List.getElem?_cons_zero, decide_eq_true, decide_eq_false, nl_lt, nl_le, ln_lt, ln_le, nl_eq, ln_eq, nl_add, ln_add, nl_sub, ln_mul, nI_sub, nI_mul, nI_add, nI_lt_iff, nI_le_iff, nI_inj, nI_num, mq_ix, nI_1, nl_mul, nl_div, x30, p1, y30, xp1, n1, v1, p2, z30, v2, c1, o2, v3, c2, v4, c3, c4, on1, narrow]
    · rw [if_pos c3]
      simp (disch := (first | omega | decide)) [c223, s223_0, s223_1, s223_3, s223_6, s223_7, s223_8, s223_11, s223_12, s223_13, s223_16, s223_19, s223_22, s223_23, s223_26, s223_28, s223_30, s223_33, s223_34, s223_35, s223_38, s223_40, s223_43, s223_44, s223_45, s223_46, s223_47, s223_48, s223_49, s223_52, s223_54, s223_56, s223_58, s223_59, s223_61, s223_64, s223_66, s223_67, s223_69, s223_72, s223_74, s223_75, s223_76, s223_79, s223_81, s223_84, s223_85, mq_k0s, mq_k1s, mq_k2s, mq_k4s, mq_k5s, mq_k5n, mq_k5as, mq_k6s, mj_pu, mj_lo, mj_br, mj_hr, mj_hw, mq_gf, mq_len, mq_al, mq_pf, mq_ok, mj_re, mq_lkm, mq_lkn, mj_ldi, mj_ldl, mj_lda, mj_ii, mj_ll, mj_li, mj_i1, ms_1, ms_2, f1_n, f1_i, f1_r, f1_u, f1_l, f2_n, f2_i, f2_r, f2_u, f2_l, mj_tg, mj_c1, mj_c2, mj_ar, mj_aw, mq_cb, mq_oi, mj_rm, Value.category, -getElem?_pos, List.getElem?_cons_zero, decide_eq_true, decide_eq_false, nl_lt, nl_le, ln_lt, ln_le, nl_eq, ln_eq, nl_add, ln_add, nl_sub, ln_mul, nI_sub, nI_mul, nI_add, nI_lt_iff, nI_le_iff, nI_inj, nI_num, mq_ix, nI_1, nl_mul, nl_div, x30, p1, y30, xp1, n1, v1, p2, z30, v2, c1, o2, v3, c2, v4, c3, narrow]
  · rw [if_pos (Or.inr c2)]
    simp (disch := (first | omega | decide)) [c223, s223_0, s223_1, s223_3, s223_6, s223_7, s223_8, s223_11, s223_12, s223_13, s223_16, s223_19, s223_22, s223_23, s223_26, s223_28, s223_30, s223_33, s223_34, s223_35, s223_38, s223_40, s223_43, s223_44, s223_45, s223_46, s223_47, s223_48, s223_49, s223_52, s223_54, s223_56, s223_58, s223_59, s223_61, s223_64, s223_66, s223_67, s223_69, s223_72, s223_74, s223_75, s223_76, s223_79, s223_81, s223_84, s223_85, mq_k0s, mq_k1s, mq_k2s, mq_k4s, mq_k5s, mq_k5n, mq_k5as, mq_k6s, mj_pu, mj_lo, mj_br, mj_hr, mj_hw, mq_gf, mq_len, mq_al, mq_pf, mq_ok, mj_re, mq_lkm, mq_lkn, mj_ldi, mj_ldl, mj_lda, mj_ii, mj_ll, mj_li, mj_i1, ms_1, ms_2, f1_n, f1_i, f1_r, f1_u, f1_l, f2_n, f2_i, f2_r, f2_u, f2_l, mj_tg, mj_c1, mj_c2, mj_ar, mj_aw, mq_cb, mq_oi, mj_rm, Value.category, -getElem?_pos, List.getElem?_cons_zero, decide_eq_true, decide_eq_false, nl_lt, nl_le, ln_lt, ln_le, nl_eq, ln_eq, nl_add, ln_add, nl_sub, ln_mul, nI_sub, nI_mul, nI_add, nI_lt_iff, nI_le_iff, nI_inj, nI_num, mq_ix, nI_1, nl_mul, nl_div, x30, p1, y30, xp1, n1, v1, p2, z30, v2, c1, o2, v3, c2, narrow]
end HZ
end
